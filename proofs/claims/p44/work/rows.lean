section
-- ===== PART A: goes FIRST, ahead of the names: the tables' words, and 'selects' of the private methods out of them =====
/-- a private method of a class that the tables say can be made, by its rows of tables_1 -/
def lw_okq (q : MethodName × Nat) : Prop := (q.1.cls ≠ "java/lang/invoke/MethodHandle" ∧ q.1.cls ≠ "java/lang/invoke/VarHandle") ∧ Cond.instantiable q.1.cls q.2 ∈ tables_1 ∧ Cond.privateMethod q.1 ∈ tables_1 ∧ Cond.instanceMethod q.1 ∈ tables_1
theorem lw_p0 : lw_okq (⟨"java/lang/Throwable", "fillInStackTrace", "(I)Ljava/lang/Throwable;"⟩, 6) := ⟨⟨by decide +kernel, by decide +kernel⟩, List.mem_of_getElem? (i := 333) (by decide +kernel), List.mem_of_getElem? (i := 331) (by decide +kernel), List.mem_of_getElem? (i := 332) (by decide +kernel)⟩
theorem lw_p1 : lw_okq (⟨"Sendhouse", "checkedMethod", "(II)LSendhouse$Told;"⟩, 13) := ⟨⟨by decide +kernel, by decide +kernel⟩, List.mem_of_getElem? (i := 41) (by decide +kernel), List.mem_of_getElem? (i := 384) (by decide +kernel), List.mem_of_getElem? (i := 385) (by decide +kernel)⟩
theorem lw_p2 : lw_okq (⟨"Sendhouse", "checkPlaceOfMethod", "(II)V"⟩, 13) := ⟨⟨by decide +kernel, by decide +kernel⟩, List.mem_of_getElem? (i := 41) (by decide +kernel), List.mem_of_getElem? (i := 388) (by decide +kernel), List.mem_of_getElem? (i := 389) (by decide +kernel)⟩
theorem lw_p3 : lw_okq (⟨"Sendhouse", "methodAt", "(II)LSendhouse$Told;"⟩, 13) := ⟨⟨by decide +kernel, by decide +kernel⟩, List.mem_of_getElem? (i := 41) (by decide +kernel), List.mem_of_getElem? (i := 413) (by decide +kernel), List.mem_of_getElem? (i := 414) (by decide +kernel)⟩
theorem lw_p4 : lw_okq (⟨"Sendhouse", "placeMethod", "(IILSendhouse$Told;)V"⟩, 13) := ⟨⟨by decide +kernel, by decide +kernel⟩, List.mem_of_getElem? (i := 41) (by decide +kernel), List.mem_of_getElem? (i := 433) (by decide +kernel), List.mem_of_getElem? (i := 434) (by decide +kernel)⟩
theorem lw_p5 : lw_okq (⟨"Sendhouse", "frameAt", "(I)LSendhouse$Frame;"⟩, 13) := ⟨⟨by decide +kernel, by decide +kernel⟩, List.mem_of_getElem? (i := 41) (by decide +kernel), List.mem_of_getElem? (i := 475) (by decide +kernel), List.mem_of_getElem? (i := 476) (by decide +kernel)⟩
theorem lw_p6 : lw_okq (⟨"Sendhouse", "reachFrom", "(LSendhouse$Frame;)V"⟩, 13) := ⟨⟨by decide +kernel, by decide +kernel⟩, List.mem_of_getElem? (i := 41) (by decide +kernel), List.mem_of_getElem? (i := 479) (by decide +kernel), List.mem_of_getElem? (i := 480) (by decide +kernel)⟩
theorem lw_p7 : lw_okq (⟨"Sendhouse", "lookUp", "(II)LSendhouse$Told;"⟩, 13) := ⟨⟨by decide +kernel, by decide +kernel⟩, List.mem_of_getElem? (i := 41) (by decide +kernel), List.mem_of_getElem? (i := 563) (by decide +kernel), List.mem_of_getElem? (i := 564) (by decide +kernel)⟩
theorem lw_p8 : lw_okq (⟨"Sendhouse", "openFrame", "(LSendhouse$Told;J)LSendhouse$Frame;"⟩, 13) := ⟨⟨by decide +kernel, by decide +kernel⟩, List.mem_of_getElem? (i := 41) (by decide +kernel), List.mem_of_getElem? (i := 587) (by decide +kernel), List.mem_of_getElem? (i := 588) (by decide +kernel)⟩
theorem lw_p9 : lw_okq (⟨"Sendhouse", "countCall", "(LSendhouse$Told;)V"⟩, 13) := ⟨⟨by decide +kernel, by decide +kernel⟩, List.mem_of_getElem? (i := 41) (by decide +kernel), List.mem_of_getElem? (i := 596) (by decide +kernel), List.mem_of_getElem? (i := 597) (by decide +kernel)⟩
theorem lw_p10 : lw_okq (⟨"Sendhouse", "isStep", "(LSendhouse$Frame;)Z"⟩, 13) := ⟨⟨by decide +kernel, by decide +kernel⟩, List.mem_of_getElem? (i := 41) (by decide +kernel), List.mem_of_getElem? (i := 619) (by decide +kernel), List.mem_of_getElem? (i := 620) (by decide +kernel)⟩
theorem lw_p11 : lw_okq (⟨"Sendhouse", "doRow", "(LSendhouse$Frame;)V"⟩, 13) := ⟨⟨by decide +kernel, by decide +kernel⟩, List.mem_of_getElem? (i := 41) (by decide +kernel), List.mem_of_getElem? (i := 649) (by decide +kernel), List.mem_of_getElem? (i := 650) (by decide +kernel)⟩
theorem lw_p12 : lw_okq (⟨"Sendhouse", "putField", "(LSendhouse$Frame;I)V"⟩, 13) := ⟨⟨by decide +kernel, by decide +kernel⟩, List.mem_of_getElem? (i := 41) (by decide +kernel), List.mem_of_getElem? (i := 653) (by decide +kernel), List.mem_of_getElem? (i := 654) (by decide +kernel)⟩
theorem lw_p13 : lw_okq (⟨"Sendhouse", "fault", "(C)V"⟩, 13) := ⟨⟨by decide +kernel, by decide +kernel⟩, List.mem_of_getElem? (i := 41) (by decide +kernel), List.mem_of_getElem? (i := 663) (by decide +kernel), List.mem_of_getElem? (i := 664) (by decide +kernel)⟩
theorem lw_p14 : lw_okq (⟨"Sendhouse", "takeIntoField", "(LSendhouse$Frame;I)V"⟩, 13) := ⟨⟨by decide +kernel, by decide +kernel⟩, List.mem_of_getElem? (i := 41) (by decide +kernel), List.mem_of_getElem? (i := 672) (by decide +kernel), List.mem_of_getElem? (i := 673) (by decide +kernel)⟩
theorem lw_p15 : lw_okq (⟨"Sendhouse", "reckon", "(LSendhouse$Frame;C)V"⟩, 13) := ⟨⟨by decide +kernel, by decide +kernel⟩, List.mem_of_getElem? (i := 41) (by decide +kernel), List.mem_of_getElem? (i := 680) (by decide +kernel), List.mem_of_getElem? (i := 681) (by decide +kernel)⟩
def lw_privs_1 : List (MethodName × Nat) := [(⟨"java/lang/Throwable", "fillInStackTrace", "(I)Ljava/lang/Throwable;"⟩, 6), (⟨"Sendhouse", "checkedMethod", "(II)LSendhouse$Told;"⟩, 13), (⟨"Sendhouse", "checkPlaceOfMethod", "(II)V"⟩, 13), (⟨"Sendhouse", "methodAt", "(II)LSendhouse$Told;"⟩, 13), (⟨"Sendhouse", "placeMethod", "(IILSendhouse$Told;)V"⟩, 13), (⟨"Sendhouse", "frameAt", "(I)LSendhouse$Frame;"⟩, 13), (⟨"Sendhouse", "reachFrom", "(LSendhouse$Frame;)V"⟩, 13), (⟨"Sendhouse", "lookUp", "(II)LSendhouse$Told;"⟩, 13), (⟨"Sendhouse", "openFrame", "(LSendhouse$Told;J)LSendhouse$Frame;"⟩, 13), (⟨"Sendhouse", "countCall", "(LSendhouse$Told;)V"⟩, 13), (⟨"Sendhouse", "isStep", "(LSendhouse$Frame;)Z"⟩, 13), (⟨"Sendhouse", "doRow", "(LSendhouse$Frame;)V"⟩, 13), (⟨"Sendhouse", "putField", "(LSendhouse$Frame;I)V"⟩, 13), (⟨"Sendhouse", "fault", "(C)V"⟩, 13), (⟨"Sendhouse", "takeIntoField", "(LSendhouse$Frame;I)V"⟩, 13), (⟨"Sendhouse", "reckon", "(LSendhouse$Frame;C)V"⟩, 13)]
theorem lw_r1 : ∀ q ∈ lw_privs_1, lw_okq q := List.forall_mem_cons.mpr ⟨lw_p0, List.forall_mem_cons.mpr ⟨lw_p1, List.forall_mem_cons.mpr ⟨lw_p2, List.forall_mem_cons.mpr ⟨lw_p3, List.forall_mem_cons.mpr ⟨lw_p4, List.forall_mem_cons.mpr ⟨lw_p5, List.forall_mem_cons.mpr ⟨lw_p6, List.forall_mem_cons.mpr ⟨lw_p7, List.forall_mem_cons.mpr ⟨lw_p8, List.forall_mem_cons.mpr ⟨lw_p9, List.forall_mem_cons.mpr ⟨lw_p10, List.forall_mem_cons.mpr ⟨lw_p11, List.forall_mem_cons.mpr ⟨lw_p12, List.forall_mem_cons.mpr ⟨lw_p13, List.forall_mem_cons.mpr ⟨lw_p14, List.forall_mem_cons.mpr ⟨lw_p15, fun _ h => absurd h List.not_mem_nil⟩⟩⟩⟩⟩⟩⟩⟩⟩⟩⟩⟩⟩⟩⟩⟩
theorem lw_p16 : lw_okq (⟨"Sendhouse", "makeThing", "(LSendhouse$Frame;I)V"⟩, 13) := ⟨⟨by decide +kernel, by decide +kernel⟩, List.mem_of_getElem? (i := 41) (by decide +kernel), List.mem_of_getElem? (i := 687) (by decide +kernel), List.mem_of_getElem? (i := 688) (by decide +kernel)⟩
theorem lw_p17 : lw_okq (⟨"Sendhouse", "send", "(LSendhouse$Frame;CII)V"⟩, 13) := ⟨⟨by decide +kernel, by decide +kernel⟩, List.mem_of_getElem? (i := 41) (by decide +kernel), List.mem_of_getElem? (i := 721) (by decide +kernel), List.mem_of_getElem? (i := 722) (by decide +kernel)⟩
theorem lw_p18 : lw_okq (⟨"Sendhouse", "goThereIfNotZero", "(LSendhouse$Frame;I)V"⟩, 13) := ⟨⟨by decide +kernel, by decide +kernel⟩, List.mem_of_getElem? (i := 41) (by decide +kernel), List.mem_of_getElem? (i := 729) (by decide +kernel), List.mem_of_getElem? (i := 730) (by decide +kernel)⟩
theorem lw_p19 : lw_okq (⟨"Sendhouse", "giveBack", "(J)V"⟩, 13) := ⟨⟨by decide +kernel, by decide +kernel⟩, List.mem_of_getElem? (i := 41) (by decide +kernel), List.mem_of_getElem? (i := 733) (by decide +kernel), List.mem_of_getElem? (i := 734) (by decide +kernel)⟩
theorem lw_p20 : lw_okq (⟨"Sendhouse", "doRowWithoutFault", "(LSendhouse$Frame;CI)V"⟩, 13) := ⟨⟨by decide +kernel, by decide +kernel⟩, List.mem_of_getElem? (i := 41) (by decide +kernel), List.mem_of_getElem? (i := 737) (by decide +kernel), List.mem_of_getElem? (i := 738) (by decide +kernel)⟩
theorem lw_p21 : lw_okq (⟨"java/util/ArrayList", "add", "(Ljava/lang/Object;[Ljava/lang/Object;I)V"⟩, 3) := ⟨⟨by decide +kernel, by decide +kernel⟩, List.mem_of_getElem? (i := 165) (by decide +kernel), List.mem_of_getElem? (i := 764) (by decide +kernel), List.mem_of_getElem? (i := 765) (by decide +kernel)⟩
theorem lw_p22 : lw_okq (⟨"java/util/ArrayList", "grow", "()[Ljava/lang/Object;"⟩, 3) := ⟨⟨by decide +kernel, by decide +kernel⟩, List.mem_of_getElem? (i := 165) (by decide +kernel), List.mem_of_getElem? (i := 768) (by decide +kernel), List.mem_of_getElem? (i := 769) (by decide +kernel)⟩
theorem lw_p23 : lw_okq (⟨"java/util/ArrayList", "grow", "(I)[Ljava/lang/Object;"⟩, 3) := ⟨⟨by decide +kernel, by decide +kernel⟩, List.mem_of_getElem? (i := 165) (by decide +kernel), List.mem_of_getElem? (i := 772) (by decide +kernel), List.mem_of_getElem? (i := 773) (by decide +kernel)⟩
theorem lw_p24 : lw_okq (⟨"Sendhouse$Written", "pageAt", "(I)LSendhouse$Page;"⟩, 4) := ⟨⟨by decide +kernel, by decide +kernel⟩, List.mem_of_getElem? (i := 159) (by decide +kernel), List.mem_of_getElem? (i := 828) (by decide +kernel), List.mem_of_getElem? (i := 829) (by decide +kernel)⟩
theorem lw_p25 : lw_okq (⟨"Sendhouse", "valueToPut", "(LSendhouse$Frame;CI)J"⟩, 13) := ⟨⟨by decide +kernel, by decide +kernel⟩, List.mem_of_getElem? (i := 41) (by decide +kernel), List.mem_of_getElem? (i := 856) (by decide +kernel), List.mem_of_getElem? (i := 857) (by decide +kernel)⟩
theorem lw_p26 : lw_okq (⟨"java/lang/String", "split", "(Ljava/lang/String;IZ)[Ljava/lang/String;"⟩, 4) := ⟨⟨by decide +kernel, by decide +kernel⟩, List.mem_of_getElem? (i := 372) (by decide +kernel), List.mem_of_getElem? (i := 1115) (by decide +kernel), List.mem_of_getElem? (i := 1116) (by decide +kernel)⟩
theorem lw_p27 : lw_okq (⟨"java/lang/String", "split", "(CIZ)[Ljava/lang/String;"⟩, 4) := ⟨⟨by decide +kernel, by decide +kernel⟩, List.mem_of_getElem? (i := 372) (by decide +kernel), List.mem_of_getElem? (i := 1190) (by decide +kernel), List.mem_of_getElem? (i := 1191) (by decide +kernel)⟩
theorem lw_p28 : lw_okq (⟨"java/util/ArrayList$SubList", "checkForComodification", "()V"⟩, 5) := ⟨⟨by decide +kernel, by decide +kernel⟩, List.mem_of_getElem? (i := 1263) (by decide +kernel), List.mem_of_getElem? (i := 1302) (by decide +kernel), List.mem_of_getElem? (i := 1303) (by decide +kernel)⟩
theorem lw_p29 : lw_okq (⟨"Sendhouse$Told", "isNamingWhatIsThere", "(ILSendhouse$Classes;)Z"⟩, 7) := ⟨⟨by decide +kernel, by decide +kernel⟩, List.mem_of_getElem? (i := 1407) (by decide +kernel), List.mem_of_getElem? (i := 1464) (by decide +kernel), List.mem_of_getElem? (i := 1465) (by decide +kernel)⟩
theorem lw_p30 : lw_okq (⟨"Sendhouse", "checkGlobal", "(I)V"⟩, 13) := ⟨⟨by decide +kernel, by decide +kernel⟩, List.mem_of_getElem? (i := 41) (by decide +kernel), List.mem_of_getElem? (i := 1547) (by decide +kernel), List.mem_of_getElem? (i := 1548) (by decide +kernel)⟩
theorem lw_p31 : lw_okq (⟨"Sendhouse", "compiledMethods", "()I"⟩, 13) := ⟨⟨by decide +kernel, by decide +kernel⟩, List.mem_of_getElem? (i := 41) (by decide +kernel), List.mem_of_getElem? (i := 1586) (by decide +kernel), List.mem_of_getElem? (i := 1587) (by decide +kernel)⟩
def lw_privs_2 : List (MethodName × Nat) := [(⟨"Sendhouse", "makeThing", "(LSendhouse$Frame;I)V"⟩, 13), (⟨"Sendhouse", "send", "(LSendhouse$Frame;CII)V"⟩, 13), (⟨"Sendhouse", "goThereIfNotZero", "(LSendhouse$Frame;I)V"⟩, 13), (⟨"Sendhouse", "giveBack", "(J)V"⟩, 13), (⟨"Sendhouse", "doRowWithoutFault", "(LSendhouse$Frame;CI)V"⟩, 13), (⟨"java/util/ArrayList", "add", "(Ljava/lang/Object;[Ljava/lang/Object;I)V"⟩, 3), (⟨"java/util/ArrayList", "grow", "()[Ljava/lang/Object;"⟩, 3), (⟨"java/util/ArrayList", "grow", "(I)[Ljava/lang/Object;"⟩, 3), (⟨"Sendhouse$Written", "pageAt", "(I)LSendhouse$Page;"⟩, 4), (⟨"Sendhouse", "valueToPut", "(LSendhouse$Frame;CI)J"⟩, 13), (⟨"java/lang/String", "split", "(Ljava/lang/String;IZ)[Ljava/lang/String;"⟩, 4), (⟨"java/lang/String", "split", "(CIZ)[Ljava/lang/String;"⟩, 4), (⟨"java/util/ArrayList$SubList", "checkForComodification", "()V"⟩, 5), (⟨"Sendhouse$Told", "isNamingWhatIsThere", "(ILSendhouse$Classes;)Z"⟩, 7), (⟨"Sendhouse", "checkGlobal", "(I)V"⟩, 13), (⟨"Sendhouse", "compiledMethods", "()I"⟩, 13)]
theorem lw_r2 : ∀ q ∈ lw_privs_2, lw_okq q := List.forall_mem_cons.mpr ⟨lw_p16, List.forall_mem_cons.mpr ⟨lw_p17, List.forall_mem_cons.mpr ⟨lw_p18, List.forall_mem_cons.mpr ⟨lw_p19, List.forall_mem_cons.mpr ⟨lw_p20, List.forall_mem_cons.mpr ⟨lw_p21, List.forall_mem_cons.mpr ⟨lw_p22, List.forall_mem_cons.mpr ⟨lw_p23, List.forall_mem_cons.mpr ⟨lw_p24, List.forall_mem_cons.mpr ⟨lw_p25, List.forall_mem_cons.mpr ⟨lw_p26, List.forall_mem_cons.mpr ⟨lw_p27, List.forall_mem_cons.mpr ⟨lw_p28, List.forall_mem_cons.mpr ⟨lw_p29, List.forall_mem_cons.mpr ⟨lw_p30, List.forall_mem_cons.mpr ⟨lw_p31, fun _ h => absurd h List.not_mem_nil⟩⟩⟩⟩⟩⟩⟩⟩⟩⟩⟩⟩⟩⟩⟩⟩
theorem lw_p32 : lw_okq (⟨"Sendhouse", "checkedAnswer", "()J"⟩, 13) := ⟨⟨by decide +kernel, by decide +kernel⟩, List.mem_of_getElem? (i := 41) (by decide +kernel), List.mem_of_getElem? (i := 1615) (by decide +kernel), List.mem_of_getElem? (i := 1616) (by decide +kernel)⟩
theorem lw_p33 : lw_okq (⟨"Sendhouse", "checkedSlot", "(ICI)J"⟩, 13) := ⟨⟨by decide +kernel, by decide +kernel⟩, List.mem_of_getElem? (i := 41) (by decide +kernel), List.mem_of_getElem? (i := 1641) (by decide +kernel), List.mem_of_getElem? (i := 1642) (by decide +kernel)⟩
theorem lw_p34 : lw_okq (⟨"Sendhouse", "checkedFrame", "(I)LSendhouse$Frame;"⟩, 13) := ⟨⟨by decide +kernel, by decide +kernel⟩, List.mem_of_getElem? (i := 41) (by decide +kernel), List.mem_of_getElem? (i := 1645) (by decide +kernel), List.mem_of_getElem? (i := 1646) (by decide +kernel)⟩
theorem lw_p35 : lw_okq (⟨"Sendhouse", "checkedField", "(II)J"⟩, 13) := ⟨⟨by decide +kernel, by decide +kernel⟩, List.mem_of_getElem? (i := 41) (by decide +kernel), List.mem_of_getElem? (i := 1667) (by decide +kernel), List.mem_of_getElem? (i := 1668) (by decide +kernel)⟩
theorem lw_p36 : lw_okq (⟨"Sendhouse", "hasGlobalsThere", "()Z"⟩, 13) := ⟨⟨by decide +kernel, by decide +kernel⟩, List.mem_of_getElem? (i := 41) (by decide +kernel), List.mem_of_getElem? (i := 1733) (by decide +kernel), List.mem_of_getElem? (i := 1734) (by decide +kernel)⟩
theorem lw_p37 : lw_okq (⟨"Sendhouse$Things", "hasPlacesThere", "(LSendhouse$Thing;)Z"⟩, 5) := ⟨⟨by decide +kernel, by decide +kernel⟩, List.mem_of_getElem? (i := 100) (by decide +kernel), List.mem_of_getElem? (i := 1742) (by decide +kernel), List.mem_of_getElem? (i := 1743) (by decide +kernel)⟩
theorem lw_p38 : lw_okq (⟨"Sendhouse", "hasFramesThere", "()Z"⟩, 13) := ⟨⟨by decide +kernel, by decide +kernel⟩, List.mem_of_getElem? (i := 41) (by decide +kernel), List.mem_of_getElem? (i := 1747) (by decide +kernel), List.mem_of_getElem? (i := 1748) (by decide +kernel)⟩
theorem lw_p39 : lw_okq (⟨"Sendhouse", "hasPlacesThere", "(LSendhouse$Frame;)Z"⟩, 13) := ⟨⟨by decide +kernel, by decide +kernel⟩, List.mem_of_getElem? (i := 41) (by decide +kernel), List.mem_of_getElem? (i := 1751) (by decide +kernel), List.mem_of_getElem? (i := 1752) (by decide +kernel)⟩
theorem lw_p40 : lw_okq (⟨"Sendhouse", "hasDepthAsTold", "()Z"⟩, 13) := ⟨⟨by decide +kernel, by decide +kernel⟩, List.mem_of_getElem? (i := 41) (by decide +kernel), List.mem_of_getElem? (i := 1755) (by decide +kernel), List.mem_of_getElem? (i := 1756) (by decide +kernel)⟩
def lw_privs_3 : List (MethodName × Nat) := [(⟨"Sendhouse", "checkedAnswer", "()J"⟩, 13), (⟨"Sendhouse", "checkedSlot", "(ICI)J"⟩, 13), (⟨"Sendhouse", "checkedFrame", "(I)LSendhouse$Frame;"⟩, 13), (⟨"Sendhouse", "checkedField", "(II)J"⟩, 13), (⟨"Sendhouse", "hasGlobalsThere", "()Z"⟩, 13), (⟨"Sendhouse$Things", "hasPlacesThere", "(LSendhouse$Thing;)Z"⟩, 5), (⟨"Sendhouse", "hasFramesThere", "()Z"⟩, 13), (⟨"Sendhouse", "hasPlacesThere", "(LSendhouse$Frame;)Z"⟩, 13), (⟨"Sendhouse", "hasDepthAsTold", "()Z"⟩, 13)]
theorem lw_r3 : ∀ q ∈ lw_privs_3, lw_okq q := List.forall_mem_cons.mpr ⟨lw_p32, List.forall_mem_cons.mpr ⟨lw_p33, List.forall_mem_cons.mpr ⟨lw_p34, List.forall_mem_cons.mpr ⟨lw_p35, List.forall_mem_cons.mpr ⟨lw_p36, List.forall_mem_cons.mpr ⟨lw_p37, List.forall_mem_cons.mpr ⟨lw_p38, List.forall_mem_cons.mpr ⟨lw_p39, List.forall_mem_cons.mpr ⟨lw_p40, fun _ h => absurd h List.not_mem_nil⟩⟩⟩⟩⟩⟩⟩⟩⟩
def lw_privs : List (MethodName × Nat) := lw_privs_1 ++ (lw_privs_2 ++ (lw_privs_3))
def lw_tbl : List Cond := k2_sels lw_privs ++ tables_1
theorem lw_privs_ok : ∀ q ∈ lw_privs, lw_okq q := by
  show ∀ q ∈ lw_privs_1 ++ (lw_privs_2 ++ (lw_privs_3)), lw_okq q
  exact List.forall_mem_append.mpr ⟨lw_r1, List.forall_mem_append.mpr ⟨lw_r2, lw_r3⟩⟩
end
section
/-! ===== BEGIN words of one list among another's, by their places ===== -/
theorem goodIn_r {big : List Cond} (ws : List Cond) (ps : List Nat) (hp : ws = ps.filterMap (fun i => big[i]?)) (h : ws.all goodWord = true) : GoodIn big ws := by
  intro w hw
  have h1 := List.all_eq_true.mp h w hw
  rw [hp] at hw
  obtain ⟨i, -, hi⟩ := List.mem_filterMap.mp hw
  have hm : w ∈ big := by first | exact List.mem_of_getElem? hi | exact List.getElem?_mem hi
  exact ⟨hm, good_of_word h1⟩
theorem goodIn_app {big a b : List Cond} (ha : GoodIn big a) (hb : GoodIn big b) : GoodIn big (a ++ b) := fun w h => (List.mem_append.mp h).elim (ha w) (hb w)
theorem goodIn_ca {big a b : List Cond} {c : Cond} (ha : GoodIn big (c :: a)) (hb : GoodIn big b) : GoodIn big (c :: (a ++ b)) := fun w h => (List.mem_cons.mp h).elim (fun e => ha w (List.mem_cons.mpr (Or.inl e))) (fun h => (List.mem_append.mp h).elim (fun h => ha w (List.mem_cons.mpr (Or.inr h))) (hb w))
theorem goodIn_sub {big ws : List Cond} (hm : ∀ w ∈ ws, w ∈ big) (h : ws.all goodWord = true) : GoodIn big ws := fun w hw => ⟨hm w hw, good_of_word (List.all_eq_true.mp h w hw)⟩
/-! ===== END ===== -/

/-! ===== BEGIN exceptions that leave a method, and their catching by the caller (launches without stack traces) ===== -/
section VXA
/-! The laws vx_back, vx_callV, vx_callS, vx_callSW, vx_throw0, vx_throwS follow proofs of the library, with one case more: JvmDerived/Free/Laws.lean (Back.of_free), Shelf42/LK1.lean (callV, callS), Shelf/KitTraced.lean (throwNew0V, throwNewS). -/
/-- where a method has thrown q: the class by its name, the cell, what was written, the world -/
def vx_T (XC : String → State → State → Prop) (st : State) (q : Addr) (t : State) (mc ms : Nat) (free : Addr → Prop) : Prop :=
  ∃ (E : String) (ce : Cell) (L : List Loc), XC E st t ∧ t.heap[q]? = some ce ∧ ce.vm = .none ∧ st.vm.findClass E = some ce.cls ∧ st.WarmedH t.vm ∧ st.sameButNew ({ t with vm := st.vm } : State) L mc ms ∧ ∀ z ∈ L, free z.base
def vx_Q (Qc : Array Value → State → Outcome → State → Prop) (XC : String → State → State → Prop) (mc ms : Nat) (free : Addr → Prop) : Array Value → State → Outcome → State → Prop := fun a st o t =>
  (Qc a st o t ∧ ∃ L, FrameEnd st o t L mc ms ∧ ∀ q ∈ L, free q.base) ∨ ∃ q, o = .threw q ∧ vx_T XC st q t mc ms free
/-- a callee that returns or throws -/
def vx_Met (l : Launch) (y : MethodName) (ws : List Cond) (rm : Room) (Pc : Array Value → State → Prop) (Qc : Array Value → State → Outcome → State → Prop) (XC : String → State → State → Prop) (mc ms : Nat) (free : Addr → Prop) : Prop :=
  MetFree l y (headSpec ws rm) Pc (fun _ _ _ _ _ => True) (vx_Q Qc XC mc ms free)
def vx_Post (XC : String → State → State → Prop) (mc ms : Nat) (free : Addr → Prop) : Pt → Array Value → Addr → Pt → Prop := fun A a q B =>
  ∃ (g : JFrame) (mk : MethodId) (t : State) (L : List Loc) (E : String) (ce : Cell), B.U.heap = t.heap ∧ B.U.vm = t.vm ∧ XC E (A.U.calling g mk a) t ∧ t.heap[q]? = some ce ∧ ce.vm = .none ∧ A.U.vm.findClass E = some ce.cls ∧ B.locs = A.locs ++ L ∧ (∀ z ∈ L, free z.base) ∧ B.cells = A.cells + mc ∧ B.slots = A.slots + ms
def vx_Back (l : Launch) (R : Room) (p : Program) (e : Env) (below : List Frame) (s : State) (sargs : Array Value) (y : MethodName) (len W9 : Nat)
    (Pre : Pt → Array Value → Prop) (Post : Pt → Array Value → Option Value → Pt → Prop) (PostX : Pt → Array Value → Addr → Pt → Prop) : Prop :=
  ∀ (m : MethodId) (meth : Method) (c : Code) (A : Pt) (g : JFrame) (ig : Instr) (mk : MethodId) (a : Array Value),
    Stand p l e R s m sargs below meth c A.U A.locs A.cells A.slots → g.method = m → g.locals.size = c.maxLocals → decode c.code g.pc = .ok (ig, len) →
    2 * g.monitorRoom + (g.stack.map fun v => v.category).sum ≤ W9 → A.U.methodNamed? y = some mk → Pre A a →
    (∃ (v : Option Value) (B : Pt), Stand p l e R s m sargs below meth c B.U B.locs B.cells B.slots ∧ Post A a v B ∧
      Steps p.tables e below (doInvoke e (A.U.setTop g) [] mk a).1 (B.U.setTop { g with pc := g.pc + len, stack := v.toList ++ g.stack })) ∨
    (∃ (q : Addr) (B : Pt), Stand p l e R s m sargs below meth c B.U B.locs B.cells B.slots ∧ PostX A a q B ∧
      Steps p.tables e below (doInvoke e (A.U.setTop g) [] mk a).1 ((B.U.setTop g).pushFrame (.throwing q)))
section Payer
variable {l : Launch} {R : Room} {p : Program} {e : Env} {below : List Frame} {s : State} {sargs : Array Value} {y : MethodName} {len W9 : Nat}
theorem vx_back {ws : List Cond} {rm : Room} {Pc : Array Value → State → Prop} {Qc : Array Value → State → Outcome → State → Prop} {XC : String → State → State → Prop} {mc ms : Nat} {free : Addr → Prop} {bytes : ByteArray} {maxL : Nat} {ret : Option FieldType}
    (hM : vx_Met l y ws rm Pc Qc XC mc ms free) (hblind : FrameBlind Pc) (hrc : rm.cells = mc) (hrs : rm.slots = ms)
    (hframes : rm.frames + 1 ≤ R.frames) (hlocals : W9 + (maxL + 11) + rm.locals ≤ R.locals)
    (hws : ∀ w ∈ ws, ∀ a' U, s.WarmedH U.vm → w.before a' U = true) (hcode : Cond.code y bytes maxL ret ∈ ws) (hinit : ∀ a' U, s.WarmedH U.vm → (Cond.initialized y.cls).before a' U = true) :
    vx_Back l R p e below s sargs y len W9 (PreOf R mc ms Pc) (PostOf Qc mc ms free) (vx_Post XC mc ms free) := by
  intro m meth c A g ig mk a X hg hsize hdg hW hn hp
  have h1 : (headSpec ws rm).pre.before a A.U = true := atoms_intro fun w hw => hws w hw _ _ X.warmed
  have h2 : (Cond.code y bytes maxL ret).before a A.U = true := hws _ hcode _ _ X.warmed
  have h3 : (Cond.initialized y.cls).before a A.U = true := hinit _ _ X.warmed
  have h4 : A.cells + (headSpec ws rm).room.cells ≤ R.cells := by rw [show (headSpec ws rm).room.cells = mc from hrc]; exact hp.1
  have h5 : A.slots + (headSpec ws rm).room.slots ≤ R.slots := by rw [show (headSpec ws rm).room.slots = ms from hrs]; exact hp.2.1
  have hPc : Pc a (A.U.calling g mk a) := hblind _ _ _ _ hp.2.2
  obtain ⟨U, Ls, c0, s0⟩ := A
  dsimp only [Pt.U, Pt.locs, Pt.cells, Pt.slots] at h1 h2 h3 h4 h5 X hn hPc ⊢
  obtain ⟨methY, cY, hmY, hcY, -, hlY, -, -, -, -⟩ := Cond.code_spec hn h2
  obtain ⟨kY, hkY, -⟩ := className_of_methodNamed hn
  have hinitY : kY.init = .initialized := Cond.initialized_spec (findClass_of_methodNamed hn) hkY h3
  have h : At U g.method c below := by rw [hg]; exact X.here
  have hlocals9 : W9 + (maxL + 11) + (headSpec ws rm).room.locals ≤ R.locals := hlocals
  have happ : (headSpec ws rm).appliesLoose y e.platform (U.calling g mk a) = true :=
    Spec.appliesLoose_calling (g := g) h hdg hn hkY hinitY
      (X.room_calling (g := g) (R' := (headSpec ws rm).room) hsize hmY hcY hframes (by rw [hlY]; omega) h4 h5) h1
  obtain ⟨mid, hmid⟩ := h.above
  have hfr : (U.setTop g).frames = (.java g :: mid) ++ below := by rw [State.frames_setTop' g h.top, hmid]; rfl
  obtain ⟨o, s₂, hsteps, -, hend, hq⟩ := Steps.callFree hM p X.admits X.cas X.clock (acts := []) hfr happ hPc trivial
  have hq' : vx_Q Qc XC mc ms free a (U.calling g mk a) o s₂ := hq
  rw [State.frames_setTop' g h.top] at hend
  obtain ⟨g₀, hg0⟩ := Option.isSome_iff_exists.mp h.top
  obtain ⟨r, hr⟩ := State.topJava?_eq_some.mp hg0
  have hr' : (({ U with heap := s₂.heap, slotsUsed := s₂.slotsUsed } : State).setVm s₂.vm).frames = .java g₀ :: r := hr
  rcases hq' with ⟨hqc, L, hfe, hL⟩ | ⟨q, rfl, E, ce, L, hx, hce, hcv, hcl, hW₂, hsm, hL⟩
  · obtain ⟨⟨v, rfl⟩, hW₂, e2, q2, q3, q4, q5, q6⟩ := id hfe
    have e3 : s₂ = ({ (U.calling g mk a).setFrames s₂.frames with heap := s₂.heap, slotsUsed := s₂.slotsUsed } : State).setVm s₂.vm := by
      have : s₂ = ({ s₂ with vm := (U.calling g mk a).vm } : State).setVm s₂.vm := rfl
      rw [e2] at this
      exact this
    obtain ⟨c₂, i₂, len₂, hc₂, hd₂, hf₂⟩ := hend
    have hW' : U.WarmedH s₂.vm := hW₂
    have hcc : c₂ = c := by
      have h1 : s₂.code? g.method = U.code? g.method := by
        rw [State.code?_eq, State.code?_eq, hW'.alike.method?]
      exact Option.some.inj (hc₂.symm.trans (h1.trans h.code))
    subst hcc
    have hlen : len₂ = len := by rw [hdg] at hd₂; cases hd₂; rfl
    subst hlen
    have hs₂ : s₂ = (({ U with heap := s₂.heap, slotsUsed := s₂.slotsUsed } : State).setVm s₂.vm).setTop { g with pc := g.pc + len₂, stack := v.toList ++ g.stack } := by
      refine e3.trans ?_
      rw [hf₂, State.calling_eq h.top, State.setFrames_setFrames, State.setTop_of_frames _ hr', hr]
      rfl
    have hsame : U.sameButNew ({ U with heap := s₂.heap, slotsUsed := s₂.slotsUsed } : State) L mc ms := by
      refine ⟨?_, q2, q3, q4, q5, q6⟩
      obtain ⟨t, ht, -⟩ := State.frames_cons hr
      show ({ U with heap := s₂.heap, slotsUsed := s₂.slotsUsed } : State) = { U.setFrames U.frames with heap := s₂.heap, slotsUsed := s₂.slotsUsed }
      rw [State.setFrames_self ht]
    subst hg
    refine Or.inl ⟨v, ⟨(({ U with heap := s₂.heap, slotsUsed := s₂.slotsUsed } : State).setVm s₂.vm), Ls ++ L, c0 + mc, s0 + ms⟩,
      ⟨X.admits, X.cas, X.clock, X.frames, X.room, X.hears, X.method, X.code, (X.here.setHeapUsed s₂.heap s₂.slotsUsed).setVm hW'.alike, X.tail, State.WarmedH.trans X.warmed hW', X.limits, X.bytes, X.same.trans (hsame.setVm s.vm)⟩,
      ⟨g, mk, s₂, L, rfl, rfl, hqc, rfl, hL, rfl, rfl⟩, ?_⟩
    show Steps p.tables e below _ ((({ U with heap := s₂.heap, slotsUsed := s₂.slotsUsed } : State).setVm s₂.vm).setTop { g with pc := g.pc + len₂, stack := v.toList ++ g.stack })
    rw [← hs₂]
    exact hsteps
  · obtain ⟨e2, q2, q3, q4, q5, q6⟩ := id hsm
    have e3 : s₂ = ({ (U.calling g mk a).setFrames s₂.frames with heap := s₂.heap, slotsUsed := s₂.slotsUsed } : State).setVm s₂.vm := by
      have : s₂ = ({ s₂ with vm := (U.calling g mk a).vm } : State).setVm s₂.vm := rfl
      rw [e2] at this
      exact this
    have hf₂ : s₂.frames = .throwing q :: .java g :: U.frames.tail := hend
    have hW' : U.WarmedH s₂.vm := hW₂
    have hs₂ : s₂ = ((({ U with heap := s₂.heap, slotsUsed := s₂.slotsUsed } : State).setVm s₂.vm).setTop g).pushFrame (.throwing q) := by
      refine e3.trans ?_
      rw [hf₂, State.calling_eq h.top, State.setFrames_setFrames, State.pushFrame, State.frames_setTop _ hr', State.setTop_of_frames _ hr', State.setFrames_setFrames, hr]
      rfl
    have hsame : U.sameButNew ({ U with heap := s₂.heap, slotsUsed := s₂.slotsUsed } : State) L mc ms := by
      refine ⟨?_, q2, q3, q4, q5, q6⟩
      obtain ⟨t, ht, -⟩ := State.frames_cons hr
      show ({ U with heap := s₂.heap, slotsUsed := s₂.slotsUsed } : State) = { U.setFrames U.frames with heap := s₂.heap, slotsUsed := s₂.slotsUsed }
      rw [State.setFrames_self ht]
    subst hg
    refine Or.inr ⟨q, ⟨(({ U with heap := s₂.heap, slotsUsed := s₂.slotsUsed } : State).setVm s₂.vm), Ls ++ L, c0 + mc, s0 + ms⟩,
      ⟨X.admits, X.cas, X.clock, X.frames, X.room, X.hears, X.method, X.code, (X.here.setHeapUsed s₂.heap s₂.slotsUsed).setVm hW'.alike, X.tail, State.WarmedH.trans X.warmed hW', X.limits, X.bytes, X.same.trans (hsame.setVm s.vm)⟩,
      ⟨g, mk, s₂, L, E, ce, rfl, rfl, hx, hce, hcv, hcl, rfl, hL, rfl, rfl⟩, ?_⟩
    show Steps p.tables e below _ (((({ U with heap := s₂.heap, slotsUsed := s₂.slotsUsed } : State).setVm s₂.vm).setTop g).pushFrame (.throwing q))
    rw [← hs₂]
    exact hsteps
end Payer
section Calls
variable {p : Program} {l : Launch} {e : Env} {R : Room} {s : State} {m : MethodId} {args : Array Value} {below : List Frame} {meth : Method} {c : Code} {T : State} {locs : List Loc} {cells slots : Nat}
theorem vx_callV (X : Stand p l e R s m args below meth c T locs cells slots) (hexec : p.tables.exec = Jvm.exec) {own C : String} {index : Nat} {y : MethodName} {bytes : ByteArray} {maxL : Nat} {ret : Option FieldType}
    (hown : s.vm.findClass own = some m.cls) (hlink : (Cond.methodLink own index y).before args s = true) (hinst : (Cond.instanceMethod y).before args s = true) (hsel : (Cond.selects C y y).before args s = true)
    (hcode : (Cond.code y bytes maxL ret).before args s = true) (hy : y.cls ≠ "java/lang/invoke/MethodHandle" ∧ y.cls ≠ "java/lang/invoke/VarHandle")
    {W9 : Nat} {Pre : Pt → Array Value → Prop} {Post : Pt → Array Value → Option Value → Pt → Prop} {PostX : Pt → Array Value → Addr → Pt → Prop} (hK : vx_Back l R p e below s args y 3 W9 Pre Post PostX)
    {b : Addr} {cellB : Cell} (hcell : T.heap[b]? = some cellB) (hobj : cellB.vm.isStatics = false) (hcls : s.vm.findClass C = some cellB.cls)
    {g : JFrame} (hg : g.method = m) (hsize : g.locals.size = c.maxLocals) {argsL rest : List Value} (hlen : ∀ sig, parseMethodDescriptor y.desc = some sig → argsL.length = sig.parameters.length)
    (hstack : g.stack = argsL.reverse ++ .ref b :: rest) (hW : 2 * g.monitorRoom + (rest.map fun v => v.category).sum ≤ W9) (hdg : decode c.code g.pc = .ok (.invokevirtual index, 3))
    (hpre : ∀ vm₁, s.WarmedH vm₁ → Pre ⟨T.setVm vm₁, locs, cells, slots⟩ (Value.ref b :: argsL).toArray) :
    (∃ (v : Option Value) (vm₁ : Vm) (B : Pt), s.WarmedH vm₁ ∧ Stand p l e R s m args below meth c B.U B.locs B.cells B.slots ∧ Post ⟨T.setVm vm₁, locs, cells, slots⟩ (Value.ref b :: argsL).toArray v B ∧
      ∀ target, Steps p.tables e below (B.U.setTop { g with pc := g.pc + 3, stack := v.toList ++ rest }) target → Steps p.tables e below (T.setTop g) target) ∨
    (∃ (q : Addr) (vm₁ : Vm) (B : Pt), s.WarmedH vm₁ ∧ Stand p l e R s m args below meth c B.U B.locs B.cells B.slots ∧ PostX ⟨T.setVm vm₁, locs, cells, slots⟩ (Value.ref b :: argsL).toArray q B ∧
      Steps p.tables e below (T.setTop g) ((B.U.setTop { g with stack := rest }).pushFrame (.throwing q))) := by
  obtain ⟨mk, methM, hnamed, hmethM, hstM, habM⟩ := Cond.instanceMethod_spec hinst
  obtain ⟨methM', cM, hmethM', -, -, -, -, -, -, hsigM⟩ := Cond.code_spec hnamed hcode
  cases hmethM.symm.trans hmethM'
  obtain ⟨c2, r2, m2, q1, q2, q3, q4, kP, hkP, hkPi⟩ := Cond.selects_spec hsel
  cases hcls.symm.trans q1
  cases (State.methodFound?_of_named hnamed hy).symm.trans q2
  cases hnamed.symm.trans q3
  have hselP : selectMethod e.platform s.vm cellB.cls mk = .method mk := by rw [Launch.admits_selectMethod X.admits]; exact q4
  obtain ⟨vm₁, X₁, hstep₁⟩ := X.invokevirtual hexec hown hlink hnamed hmethM hstM hkP hkPi hy (a := b) (cell := cellB) hcell
    (fun z h => by rw [h] at hobj; cases hobj) hselP hmethM habM hkP hkPi (g := g) hg (argsL := argsL) (rest := rest) (hlen _ hsigM) hstack hdg
  rcases hK m meth c ⟨T.setVm vm₁, locs, cells, slots⟩ { g with stack := rest } (.invokevirtual index) mk (Value.ref b :: argsL).toArray X₁ hg hsize hdg hW (X₁.named hnamed) (hpre vm₁ X₁.warmed) with ⟨v, B, X', hpost, hsteps⟩ | ⟨q, B, X', hpost, hsteps⟩
  · exact Or.inl ⟨v, vm₁, B, X₁.warmed, X', hpost, fun target h => hstep₁ _ fun acts => by rw [doInvoke_state]; exact hsteps.trans h⟩
  · exact Or.inr ⟨q, vm₁, B, X₁.warmed, X', hpost, hstep₁ _ fun acts => by rw [doInvoke_state]; exact hsteps⟩
theorem vx_callS (X : Stand p l e R s m args below meth c T locs cells slots) (hexec : p.tables.exec = Jvm.exec) {own : String} {index : Nat} {y : MethodName} {bytes : ByteArray} {maxL : Nat} {ret : Option FieldType}
    (hown : s.vm.findClass own = some m.cls) (hlink : (Cond.methodLink own index y).before args s = true) (hstat : (Cond.static y).before args s = true) (hinit : (Cond.initialized y.cls).before args s = true)
    (hcode : (Cond.code y bytes maxL ret).before args s = true) (hy : y.cls ≠ "java/lang/invoke/MethodHandle" ∧ y.cls ≠ "java/lang/invoke/VarHandle")
    {W9 : Nat} {Pre : Pt → Array Value → Prop} {Post : Pt → Array Value → Option Value → Pt → Prop} {PostX : Pt → Array Value → Addr → Pt → Prop} (hK : vx_Back l R p e below s args y 3 W9 Pre Post PostX)
    {g : JFrame} (hg : g.method = m) (hsize : g.locals.size = c.maxLocals) {argsL rest : List Value} (hlen : ∀ sig, parseMethodDescriptor y.desc = some sig → argsL.length = sig.parameters.length)
    (hstack : g.stack = argsL.reverse ++ rest) (hW : 2 * g.monitorRoom + (rest.map fun v => v.category).sum ≤ W9) (hdg : decode c.code g.pc = .ok (.invokestatic index, 3))
    (hpre : ∀ vm₁, s.WarmedH vm₁ → Pre ⟨T.setVm vm₁, locs, cells, slots⟩ argsL.toArray) :
    (∃ (v : Option Value) (vm₁ : Vm) (B : Pt), s.WarmedH vm₁ ∧ Stand p l e R s m args below meth c B.U B.locs B.cells B.slots ∧ Post ⟨T.setVm vm₁, locs, cells, slots⟩ argsL.toArray v B ∧
      ∀ target, Steps p.tables e below (B.U.setTop { g with pc := g.pc + 3, stack := v.toList ++ rest }) target → Steps p.tables e below (T.setTop g) target) ∨
    (∃ (q : Addr) (vm₁ : Vm) (B : Pt), s.WarmedH vm₁ ∧ Stand p l e R s m args below meth c B.U B.locs B.cells B.slots ∧ PostX ⟨T.setVm vm₁, locs, cells, slots⟩ argsL.toArray q B ∧
      Steps p.tables e below (T.setTop g) ((B.U.setTop { g with stack := rest }).pushFrame (.throwing q))) := by
  obtain ⟨mk, hnamed⟩ := Cond.code_named hcode
  obtain ⟨methM, cM, hmethM, -, -, -, -, -, -, hsigM⟩ := Cond.code_spec hnamed hcode
  have hstatic : methM.isStatic = true := Cond.static_spec hnamed hmethM hstat
  obtain ⟨kP, hkP, -⟩ := className_of_methodNamed hnamed
  have hinitP : kP.init = .initialized := Cond.initialized_spec (findClass_of_methodNamed hnamed) hkP hinit
  obtain ⟨vm₁, X₁, hstep₁⟩ := X.invokestatic hexec hown hlink hnamed hmethM hstatic hkP hinitP hy (g := g) hg (argsL := argsL) (rest := rest) (hlen _ hsigM) hstack hdg
  rcases hK m meth c ⟨T.setVm vm₁, locs, cells, slots⟩ { g with stack := rest } (.invokestatic index) mk argsL.toArray X₁ hg hsize hdg hW (X₁.named hnamed) (hpre vm₁ X₁.warmed) with ⟨v, B, X', hpost, hsteps⟩ | ⟨q, B, X', hpost, hsteps⟩
  · exact Or.inl ⟨v, vm₁, B, X₁.warmed, X', hpost, fun target h => hstep₁ _ fun acts => by rw [doInvoke_state]; exact hsteps.trans h⟩
  · exact Or.inr ⟨q, vm₁, B, X₁.warmed, X', hpost, hstep₁ _ fun acts => by rw [doInvoke_state]; exact hsteps⟩
end Calls
theorem vx_cls {s : State} {T : State} {vm₁ : Vm} {E : String} {k : ClassId} (hW : s.WarmedH vm₁) (h : (T.setVm vm₁).vm.findClass E = some k) : s.vm.findClass E = some k := by
  have h1 : vm₁.findClass E = some k := h
  rw [hW.alike.findClass] at h1
  exact h1
/-- the method's frame g, with q thrown over it -/
def vx_W (p : Program) (l : Launch) (e : Env) (R : Room) (s : State) (m : MethodId) (args : Array Value) (below : List Frame) (meth : Method) (c : Code) (H : Heap) (locs : List Loc) (cells slots : Nat) (Q : State → Prop) (g : JFrame) (q : Addr) : Prop :=
  ∀ T : State, T.heap = H → Stand p l e R s m args below meth c T locs cells slots → ∃ t, Steps p.tables e below ((T.setTop g).pushFrame (.throwing q)) t ∧ Q t
def vx_Run (p : Program) (l : Launch) (e : Env) (R : Room) (s : State) (m : MethodId) (args : Array Value) (below : List Frame) (meth : Method) (c : Code) (H : Heap) (locs : List Loc) (cells slots mc ms : Nat) (g : JFrame) (rest : List Value) (Qa : State → Outcome → State → Prop) (XC : String → State → State → Prop) (free : Addr → Prop) : Prop :=
  ∀ T : State, T.heap = H → Stand p l e R s m args below meth c T locs cells slots →
    (∃ (v : Option Value) (st₀ t T' : State) (L : List Loc), st₀.heap = H ∧ Stand p l e R s m args below meth c T' (locs ++ L) (cells + mc) (slots + ms) ∧ (∀ q ∈ L, free q.base) ∧ T'.heap = t.heap ∧ T'.vm = t.vm ∧ Qa st₀ (.returned v) t ∧
      Goes p e below T g T' { g with pc := g.pc + 3, stack := v.toList ++ rest }) ∨
    (∃ (q : Addr) (st₀ t T' : State) (L : List Loc) (E : String) (ce : Cell), st₀.heap = H ∧ Stand p l e R s m args below meth c T' (locs ++ L) (cells + mc) (slots + ms) ∧ (∀ z ∈ L, free z.base) ∧ T'.heap = t.heap ∧ T'.vm = t.vm ∧ XC E st₀ t ∧ t.heap[q]? = some ce ∧ ce.vm = .none ∧ s.vm.findClass E = some ce.cls ∧
      Steps p.tables e below (T.setTop g) ((T'.setTop { g with stack := rest }).pushFrame (.throwing q)))
def vx_X {S : Type} (px : S → Prop) (B : String → S → State → Prop) (A : Nat → Prop) : String → State → State → Prop := fun E st t => ∃ u : S, px u ∧ B E u t ∧ va_F A st t
section Runs
variable {p : Program} {l : Launch} {e : Env} {R : Room} {s : State} {m : MethodId} {args : Array Value} {below : List Frame} {meth : Method} {c : Code} {H : Heap} {locs : List Loc} {cells slots : Nat}
variable {y : MethodName} {bytes cc : ByteArray} {maxL nL mc ms n index : Nat} {ret : Option FieldType} {ws : List Cond} {rm : Room} {Pc : Array Value → State → Prop} {Qc : Array Value → State → Outcome → State → Prop} {XC : String → State → State → Prop} {free : Addr → Prop} {Ts : List Cond} {own C : String} {b : Addr} {As rest : List Value} {g : JFrame}
theorem vx_callBack (cb : CallB R s args own index y bytes maxL ret ws rm mc ms n) (hM : vx_Met l y ws rm Pc Qc XC mc ms free) (hbl : FrameBlind Pc) : vx_Back l R p e below s args y 3 8 (PreOf R mc ms Pc) (PostOf Qc mc ms free) (vx_Post XC mc ms free) := by
  obtain ⟨hrc, hrs, hfr, hlo, hws, hcw, -, hini, -⟩ := cb
  exact vx_back (bytes := bytes) (maxL := maxL) (ret := ret) hM hbl hrc hrs hfr hlo hws hcw (fun a' U hW => word_at hW (Or.inl (by first | rfl | simp [Cond.onTables, Cond.keeps, Cond.steady])) hini)
theorem vx_runV (S : CallFix p m c cc nL s args Ts own) (hM : vx_Met l y ws rm Pc Qc XC mc ms free) (cw : CallW R s args own C index y bytes maxL ret ws rm mc ms n) (hp : PreV s H C b Pc As)
    (hg : g.method = m) (hn : As.length = n) (hsize : g.locals.size = nL) (hstack : g.stack = As.reverse ++ .ref b :: rest) (hW : 2 * g.monitorRoom + (rest.map fun v => v.category).sum ≤ 8) (hdg : decode cc g.pc = .ok (.invokevirtual index, 3)) (hf : cells + mc ≤ R.cells ∧ slots + ms ≤ R.slots) :
    vx_Run p l e R s m args below meth c H locs cells slots mc ms g rest (Qc (Value.ref b :: As).toArray) XC free := by
  have hK : vx_Back l R p e below s args y 3 8 (PreOf R mc ms Pc) (PostOf Qc mc ms free) (vx_Post XC mc ms free) := vx_callBack cw.1 hM hp.1
  obtain ⟨⟨-, -, -, -, -, -, hcode, -, hy, hlen, hl⟩, hin, hse⟩ := cw
  obtain ⟨hx, hb, hml, ho, -⟩ := S
  obtain ⟨-, ⟨cellB, hcB, hoB, hclB⟩, hPc⟩ := hp
  intro T hT X
  rcases vx_callV X hx (C := C) (bytes := bytes) (maxL := maxL) (ret := ret) ho hl hin hse hcode hy hK (by rw [hT]; exact hcB) hoB hclB hg (hsize.trans hml.symm) (argsL := As) (rest := rest) (fun sig h => hn.trans (hlen sig h)) hstack hW (by rw [hb]; exact hdg)
    (fun vm₁ hW₁ => ⟨hf.1, hf.2, hPc (T.setVm vm₁) hT hW₁⟩) with ⟨v, vm₁, ⟨U', l2, c2, s2⟩, hW₁, X', ⟨g', mk, t, L, e1, e2, hq, h1, hL, h2, h3⟩, st⟩ | ⟨q, vm₁, ⟨U', l2, c2, s2⟩, hW₁, X', ⟨g', mk, t, L, E, ce, e1, e2, hq, hce, hcv, hcl, h1, hL, h2, h3⟩, st⟩
  · dsimp only [Pt.U, Pt.locs, Pt.cells, Pt.slots] at X' e1 e2 h1 h2 h3 st
    subst h1; subst h2; subst h3
    exact Or.inl ⟨v, (T.setVm vm₁).calling g' mk (Value.ref b :: As).toArray, t, U', L, hT, X', hL, e1, e2, hq, st⟩
  · dsimp only [Pt.U, Pt.locs, Pt.cells, Pt.slots] at X' e1 e2 h1 h2 h3 st hcl
    subst h1; subst h2; subst h3
    exact Or.inr ⟨q, (T.setVm vm₁).calling g' mk (Value.ref b :: As).toArray, t, U', L, E, ce, hT, X', hL, e1, e2, hq, hce, hcv, vx_cls hW₁ hcl, st⟩
theorem vx_runS (S : CallFix p m c cc nL s args Ts own) (hM : vx_Met l y ws rm Pc Qc XC mc ms free) (cw : CallB R s args own index y bytes maxL ret ws rm mc ms n ∧ (Cond.static y).before args s = true) (hp : PreS s H Pc As)
    (hg : g.method = m) (hn : As.length = n) (hsize : g.locals.size = nL) (hstack : g.stack = As.reverse ++ rest) (hW : 2 * g.monitorRoom + (rest.map fun v => v.category).sum ≤ 8) (hdg : decode cc g.pc = .ok (.invokestatic index, 3)) (hf : cells + mc ≤ R.cells ∧ slots + ms ≤ R.slots) :
    vx_Run p l e R s m args below meth c H locs cells slots mc ms g rest (Qc As.toArray) XC free := by
  have hK : vx_Back l R p e below s args y 3 8 (PreOf R mc ms Pc) (PostOf Qc mc ms free) (vx_Post XC mc ms free) := vx_callBack cw.1 hM hp.1
  obtain ⟨⟨-, -, -, -, -, -, hcode, hini, hy, hlen, hl⟩, hstt⟩ := cw
  obtain ⟨hx, hb, hml, ho, -⟩ := S
  intro T hT X
  rcases vx_callS X hx (bytes := bytes) (maxL := maxL) (ret := ret) ho hl hstt hini hcode hy hK hg (hsize.trans hml.symm) (argsL := As) (rest := rest) (fun sig h => hn.trans (hlen sig h)) hstack hW (by rw [hb]; exact hdg)
    (fun vm₁ hW₁ => ⟨hf.1, hf.2, hp.2 (T.setVm vm₁) hT hW₁⟩) with ⟨v, vm₁, ⟨U', l2, c2, s2⟩, hW₁, X', ⟨g', mk, t, L, e1, e2, hq, h1, hL, h2, h3⟩, st⟩ | ⟨q, vm₁, ⟨U', l2, c2, s2⟩, hW₁, X', ⟨g', mk, t, L, E, ce, e1, e2, hq, hce, hcv, hcl, h1, hL, h2, h3⟩, st⟩
  · dsimp only [Pt.U, Pt.locs, Pt.cells, Pt.slots] at X' e1 e2 h1 h2 h3 st
    subst h1; subst h2; subst h3
    exact Or.inl ⟨v, (T.setVm vm₁).calling g' mk As.toArray, t, U', L, hT, X', hL, e1, e2, hq, st⟩
  · dsimp only [Pt.U, Pt.locs, Pt.cells, Pt.slots] at X' e1 e2 h1 h2 h3 st hcl
    subst h1; subst h2; subst h3
    exact Or.inr ⟨q, (T.setVm vm₁).calling g' mk As.toArray, t, U', L, E, ce, hT, X', hL, e1, e2, hq, hce, hcv, vx_cls hW₁ hcl, st⟩
end Runs
section Rows
variable {p : Program} {l : Launch} {e : Env} {R : Room} {s : State} {m : MethodId} {args : Array Value} {below : List Frame} {meth : Method} {c : Code} {H : Heap} {locs : List Loc} {cells slots : Nat} {Q : State → Prop}
variable {mc ms : Nat} {free : Addr → Prop} {A0 A1 : Nat → Prop} {H0 : Heap} {a : Array Value} {pc : Nat} {ls : Array Slot} {st0 rest : List Value}
theorem vx_keep {st₀ t T' : State} {L : List Loc} (h0 : st₀.heap = H) (e1 : T'.heap = t.heap) (hS : va_S A0 H0 H locs) (hA : ∀ q, q < H.size → A1 q → A0 q) (hf : ∀ q, free q → A0 q) (hL : ∀ q ∈ L, free q.base) (hF : va_F A1 st₀ t) :
    H.size ≤ T'.heap.size ∧ (∀ q : Nat, q < H.size → ¬ A1 q → T'.heap[q]? = H[q]?) ∧ va_S A0 H0 T'.heap (locs ++ L) := by
  obtain ⟨hz, hk⟩ := hF
  rw [h0] at hz hk
  exact ⟨by rw [e1]; exact hz, fun q h1 h2 => by rw [e1]; exact hk q h1 h2,
    ⟨Nat.le_trans hS.1 (by rw [e1]; exact hz), fun q h1 h2 => by rw [e1, hk q (Nat.lt_of_lt_of_le h1 hS.1) (fun z => h2 (hA q (Nat.lt_of_lt_of_le h1 hS.1) z))]; exact hS.2.1 q h1 h2, fun q hq => by
      rcases List.mem_append.mp hq with h | h
      · exact hS.2.2 q h
      · exact hf _ (hL q h)⟩⟩
theorem vx_calli {S SX : Type} {post : Int32 → S → Prop} {px : SX → Prop} {B : S → State → Prop} {BX : String → SX → State → Prop} {AX : Nat → Prop} (hr : vx_Run p l e R s m args below meth c H locs cells slots mc ms (F0 m pc ls st0) rest (va_Qi post B A1 a) (vx_X px BX AX) free) (hS : va_S A0 H0 H locs) (hA : ∀ q, q < H.size → A1 q → A0 q) (hf : ∀ q, free q → A0 q) (hAX : ∀ q, q < H.size → AX q → A0 q)
    (kx : ∀ (E : String) (ce : Cell) (q9 : Addr) (u : SX) (t : State) (H1 : Heap) (locs1 : List Loc), t.heap = H1 → s.vm.Alike t.vm → px u → BX E u t → H.size ≤ H1.size → (∀ q : Nat, q < H.size → ¬ AX q → H1[q]? = H[q]?) → va_S A0 H0 H1 locs1 → H1[q9]? = some ce → ce.vm = .none → s.vm.findClass E = some ce.cls → vx_W p l e R s m args below meth c H1 locs1 (cells + mc) (slots + ms) Q (F0 m pc ls rest) q9)
    (kk : ∀ (r : Int32) (u : S) (t : State) (H1 : Heap) (locs1 : List Loc), t.heap = H1 → s.vm.Alike t.vm → post r u → B u t → H.size ≤ H1.size → (∀ q : Nat, q < H.size → ¬ A1 q → H1[q]? = H[q]?) → va_S A0 H0 H1 locs1 → W p l e R s m args below meth c H1 locs1 (cells + mc) (slots + ms) Q (F0 m (pc + 3) ls (.int r :: rest))) : W p l e R s m args below meth c H locs cells slots Q (F0 m pc ls st0) := by
  intro T hT X
  rcases hr T hT X with ⟨v, st₀, t, T', L, h0, X', hL, e1, e2, ⟨⟨r, u, hv, hp, hb⟩, hF⟩, st⟩ | ⟨q, st₀, t, T', L, E, ce, h0, X', hL, e1, e2, ⟨u, hp, hb, hF⟩, hce, hcv, hcl, st⟩
  · cases hv
    obtain ⟨k1, k2, k3⟩ := vx_keep h0 e1 hS hA hf hL hF
    obtain ⟨t2, a1, b1⟩ := kk r u t T'.heap (locs ++ L) e1.symm (by rw [← e2]; exact X'.warmed.alike) hp hb k1 k2 k3 T' rfl X'
    exact ⟨t2, st t2 a1, b1⟩
  · obtain ⟨k1, k2, k3⟩ := vx_keep h0 e1 hS hAX hf hL hF
    obtain ⟨t2, a1, b1⟩ := kx E ce q u t T'.heap (locs ++ L) e1.symm (by rw [← e2]; exact X'.warmed.alike) hp hb k1 k2 k3 (by rw [e1]; exact hce) hcv hcl T' rfl X'
    exact ⟨t2, st.trans a1, b1⟩
theorem vx_calll {S SX : Type} {post : Int64 → S → Prop} {px : SX → Prop} {B : S → State → Prop} {BX : String → SX → State → Prop} {AX : Nat → Prop} (hr : vx_Run p l e R s m args below meth c H locs cells slots mc ms (F0 m pc ls st0) rest (va_Ql post B A1 a) (vx_X px BX AX) free) (hS : va_S A0 H0 H locs) (hA : ∀ q, q < H.size → A1 q → A0 q) (hf : ∀ q, free q → A0 q) (hAX : ∀ q, q < H.size → AX q → A0 q)
    (kx : ∀ (E : String) (ce : Cell) (q9 : Addr) (u : SX) (t : State) (H1 : Heap) (locs1 : List Loc), t.heap = H1 → s.vm.Alike t.vm → px u → BX E u t → H.size ≤ H1.size → (∀ q : Nat, q < H.size → ¬ AX q → H1[q]? = H[q]?) → va_S A0 H0 H1 locs1 → H1[q9]? = some ce → ce.vm = .none → s.vm.findClass E = some ce.cls → vx_W p l e R s m args below meth c H1 locs1 (cells + mc) (slots + ms) Q (F0 m pc ls rest) q9)
    (kk : ∀ (r : Int64) (u : S) (t : State) (H1 : Heap) (locs1 : List Loc), t.heap = H1 → s.vm.Alike t.vm → post r u → B u t → H.size ≤ H1.size → (∀ q : Nat, q < H.size → ¬ A1 q → H1[q]? = H[q]?) → va_S A0 H0 H1 locs1 → W p l e R s m args below meth c H1 locs1 (cells + mc) (slots + ms) Q (F0 m (pc + 3) ls (.long r :: rest))) : W p l e R s m args below meth c H locs cells slots Q (F0 m pc ls st0) := by
  intro T hT X
  rcases hr T hT X with ⟨v, st₀, t, T', L, h0, X', hL, e1, e2, ⟨⟨r, u, hv, hp, hb⟩, hF⟩, st⟩ | ⟨q, st₀, t, T', L, E, ce, h0, X', hL, e1, e2, ⟨u, hp, hb, hF⟩, hce, hcv, hcl, st⟩
  · cases hv
    obtain ⟨k1, k2, k3⟩ := vx_keep h0 e1 hS hA hf hL hF
    obtain ⟨t2, a1, b1⟩ := kk r u t T'.heap (locs ++ L) e1.symm (by rw [← e2]; exact X'.warmed.alike) hp hb k1 k2 k3 T' rfl X'
    exact ⟨t2, st t2 a1, b1⟩
  · obtain ⟨k1, k2, k3⟩ := vx_keep h0 e1 hS hAX hf hL hF
    obtain ⟨t2, a1, b1⟩ := kx E ce q u t T'.heap (locs ++ L) e1.symm (by rw [← e2]; exact X'.warmed.alike) hp hb k1 k2 k3 (by rw [e1]; exact hce) hcv hcl T' rfl X'
    exact ⟨t2, st.trans a1, b1⟩
theorem vx_callf {S SX : Type} {post : UInt32 → S → Prop} {px : SX → Prop} {B : S → State → Prop} {BX : String → SX → State → Prop} {AX : Nat → Prop} (hr : vx_Run p l e R s m args below meth c H locs cells slots mc ms (F0 m pc ls st0) rest (va_Qf post B A1 a) (vx_X px BX AX) free) (hS : va_S A0 H0 H locs) (hA : ∀ q, q < H.size → A1 q → A0 q) (hf : ∀ q, free q → A0 q) (hAX : ∀ q, q < H.size → AX q → A0 q)
    (kx : ∀ (E : String) (ce : Cell) (q9 : Addr) (u : SX) (t : State) (H1 : Heap) (locs1 : List Loc), t.heap = H1 → s.vm.Alike t.vm → px u → BX E u t → H.size ≤ H1.size → (∀ q : Nat, q < H.size → ¬ AX q → H1[q]? = H[q]?) → va_S A0 H0 H1 locs1 → H1[q9]? = some ce → ce.vm = .none → s.vm.findClass E = some ce.cls → vx_W p l e R s m args below meth c H1 locs1 (cells + mc) (slots + ms) Q (F0 m pc ls rest) q9)
    (kk : ∀ (r : UInt32) (u : S) (t : State) (H1 : Heap) (locs1 : List Loc), t.heap = H1 → s.vm.Alike t.vm → post r u → B u t → H.size ≤ H1.size → (∀ q : Nat, q < H.size → ¬ A1 q → H1[q]? = H[q]?) → va_S A0 H0 H1 locs1 → W p l e R s m args below meth c H1 locs1 (cells + mc) (slots + ms) Q (F0 m (pc + 3) ls (.float r :: rest))) : W p l e R s m args below meth c H locs cells slots Q (F0 m pc ls st0) := by
  intro T hT X
  rcases hr T hT X with ⟨v, st₀, t, T', L, h0, X', hL, e1, e2, ⟨⟨r, u, hv, hp, hb⟩, hF⟩, st⟩ | ⟨q, st₀, t, T', L, E, ce, h0, X', hL, e1, e2, ⟨u, hp, hb, hF⟩, hce, hcv, hcl, st⟩
  · cases hv
    obtain ⟨k1, k2, k3⟩ := vx_keep h0 e1 hS hA hf hL hF
    obtain ⟨t2, a1, b1⟩ := kk r u t T'.heap (locs ++ L) e1.symm (by rw [← e2]; exact X'.warmed.alike) hp hb k1 k2 k3 T' rfl X'
    exact ⟨t2, st t2 a1, b1⟩
  · obtain ⟨k1, k2, k3⟩ := vx_keep h0 e1 hS hAX hf hL hF
    obtain ⟨t2, a1, b1⟩ := kx E ce q u t T'.heap (locs ++ L) e1.symm (by rw [← e2]; exact X'.warmed.alike) hp hb k1 k2 k3 (by rw [e1]; exact hce) hcv hcl T' rfl X'
    exact ⟨t2, st.trans a1, b1⟩
theorem vx_calld {S SX : Type} {post : UInt64 → S → Prop} {px : SX → Prop} {B : S → State → Prop} {BX : String → SX → State → Prop} {AX : Nat → Prop} (hr : vx_Run p l e R s m args below meth c H locs cells slots mc ms (F0 m pc ls st0) rest (va_Qd post B A1 a) (vx_X px BX AX) free) (hS : va_S A0 H0 H locs) (hA : ∀ q, q < H.size → A1 q → A0 q) (hf : ∀ q, free q → A0 q) (hAX : ∀ q, q < H.size → AX q → A0 q)
    (kx : ∀ (E : String) (ce : Cell) (q9 : Addr) (u : SX) (t : State) (H1 : Heap) (locs1 : List Loc), t.heap = H1 → s.vm.Alike t.vm → px u → BX E u t → H.size ≤ H1.size → (∀ q : Nat, q < H.size → ¬ AX q → H1[q]? = H[q]?) → va_S A0 H0 H1 locs1 → H1[q9]? = some ce → ce.vm = .none → s.vm.findClass E = some ce.cls → vx_W p l e R s m args below meth c H1 locs1 (cells + mc) (slots + ms) Q (F0 m pc ls rest) q9)
    (kk : ∀ (r : UInt64) (u : S) (t : State) (H1 : Heap) (locs1 : List Loc), t.heap = H1 → s.vm.Alike t.vm → post r u → B u t → H.size ≤ H1.size → (∀ q : Nat, q < H.size → ¬ A1 q → H1[q]? = H[q]?) → va_S A0 H0 H1 locs1 → W p l e R s m args below meth c H1 locs1 (cells + mc) (slots + ms) Q (F0 m (pc + 3) ls (.double r :: rest))) : W p l e R s m args below meth c H locs cells slots Q (F0 m pc ls st0) := by
  intro T hT X
  rcases hr T hT X with ⟨v, st₀, t, T', L, h0, X', hL, e1, e2, ⟨⟨r, u, hv, hp, hb⟩, hF⟩, st⟩ | ⟨q, st₀, t, T', L, E, ce, h0, X', hL, e1, e2, ⟨u, hp, hb, hF⟩, hce, hcv, hcl, st⟩
  · cases hv
    obtain ⟨k1, k2, k3⟩ := vx_keep h0 e1 hS hA hf hL hF
    obtain ⟨t2, a1, b1⟩ := kk r u t T'.heap (locs ++ L) e1.symm (by rw [← e2]; exact X'.warmed.alike) hp hb k1 k2 k3 T' rfl X'
    exact ⟨t2, st t2 a1, b1⟩
  · obtain ⟨k1, k2, k3⟩ := vx_keep h0 e1 hS hAX hf hL hF
    obtain ⟨t2, a1, b1⟩ := kx E ce q u t T'.heap (locs ++ L) e1.symm (by rw [← e2]; exact X'.warmed.alike) hp hb k1 k2 k3 (by rw [e1]; exact hce) hcv hcl T' rfl X'
    exact ⟨t2, st.trans a1, b1⟩
theorem vx_callv {S SX : Type} {post : S → Prop} {px : SX → Prop} {B : S → State → Prop} {BX : String → SX → State → Prop} {AX : Nat → Prop} (hr : vx_Run p l e R s m args below meth c H locs cells slots mc ms (F0 m pc ls st0) rest (va_Qv post B A1 a) (vx_X px BX AX) free) (hS : va_S A0 H0 H locs) (hA : ∀ q, q < H.size → A1 q → A0 q) (hf : ∀ q, free q → A0 q) (hAX : ∀ q, q < H.size → AX q → A0 q)
    (kx : ∀ (E : String) (ce : Cell) (q9 : Addr) (u : SX) (t : State) (H1 : Heap) (locs1 : List Loc), t.heap = H1 → s.vm.Alike t.vm → px u → BX E u t → H.size ≤ H1.size → (∀ q : Nat, q < H.size → ¬ AX q → H1[q]? = H[q]?) → va_S A0 H0 H1 locs1 → H1[q9]? = some ce → ce.vm = .none → s.vm.findClass E = some ce.cls → vx_W p l e R s m args below meth c H1 locs1 (cells + mc) (slots + ms) Q (F0 m pc ls rest) q9)
    (kk : ∀ (u : S) (t : State) (H1 : Heap) (locs1 : List Loc), t.heap = H1 → s.vm.Alike t.vm → post u → B u t → H.size ≤ H1.size → (∀ q : Nat, q < H.size → ¬ A1 q → H1[q]? = H[q]?) → va_S A0 H0 H1 locs1 → W p l e R s m args below meth c H1 locs1 (cells + mc) (slots + ms) Q (F0 m (pc + 3) ls (rest))) : W p l e R s m args below meth c H locs cells slots Q (F0 m pc ls st0) := by
  intro T hT X
  rcases hr T hT X with ⟨v, st₀, t, T', L, h0, X', hL, e1, e2, ⟨⟨u, hv, hp, hb⟩, hF⟩, st⟩ | ⟨q, st₀, t, T', L, E, ce, h0, X', hL, e1, e2, ⟨u, hp, hb, hF⟩, hce, hcv, hcl, st⟩
  · cases hv
    obtain ⟨k1, k2, k3⟩ := vx_keep h0 e1 hS hA hf hL hF
    obtain ⟨t2, a1, b1⟩ := kk u t T'.heap (locs ++ L) e1.symm (by rw [← e2]; exact X'.warmed.alike) hp hb k1 k2 k3 T' rfl X'
    exact ⟨t2, st t2 a1, b1⟩
  · obtain ⟨k1, k2, k3⟩ := vx_keep h0 e1 hS hAX hf hL hF
    obtain ⟨t2, a1, b1⟩ := kx E ce q u t T'.heap (locs ++ L) e1.symm (by rw [← e2]; exact X'.warmed.alike) hp hb k1 k2 k3 (by rw [e1]; exact hce) hcv hcl T' rfl X'
    exact ⟨t2, st.trans a1, b1⟩
/-- caught by the row x of this method's table; the rows ahead don't take it -/
theorem vx_catch {own name : String} {E : String} {ce : Cell} {q : Addr} (hown : s.vm.findClass own = some m.cls) (pre : List ExceptionTableEntry) (x : ExceptionTableEntry) (suf : List ExceptionTableEntry) (hsplit : c.exceptionTable.toList = pre ++ x :: suf)
    (hpass : ∀ z ∈ pre, covers z pc = false ∨ (z.catchType ≠ 0 ∧ ∃ nm : String, (Cond.classLink own z.catchType nm).before args s = true ∧ va_Nc E nm s)) (hx : covers x pc = true) (h0 : x.catchType ≠ 0)
    (hlink : (Cond.classLink own x.catchType name).before args s = true) (hcast : (Cond.castable E name).before args s = true) (hcell : H[q]? = some ce) (hv : ce.vm = .none) (hcl : s.vm.findClass E = some ce.cls)
    (kk : W p l e R s m args below meth c H locs cells slots Q (F0 m x.handlerPc ls [.ref q])) : vx_W p l e R s m args below meth c H locs cells slots Q (F0 m pc ls rest) q := by
  intro T hT X
  have hpl : e.platform.magicAccessors = ({} : Platform).magicAccessors := by rw [X.admits.platform]
  obtain ⟨c3, c4, hc3, hc4, hasg⟩ := Cond.castable_spec hcast
  cases Option.some.inj (hc3.symm.trans hcl)
  obtain ⟨c5, hc5, hcl5⟩ := Cond.classLink_spec hown hlink e.platform hpl
  cases Option.some.inj (hc4.symm.trans hc5)
  obtain ⟨vm', X', st⟩ := X.thenCaughtThrough q (g := F0 m pc ls rest) rfl (Steps.refl _) (by rw [hT]; exact hcell) (by rw [hv]; rfl) (by obtain ⟨k9, h9, -⟩ := Vm.findClass_spec hcl; exact ⟨k9, h9⟩) pre x suf hsplit
    (fun z hz => by
      rcases hpass z hz with h | ⟨hz0, nm, hl1, hn1⟩
      · exact Or.inl h
      · obtain ⟨c6, hc6, hcl6⟩ := Cond.classLink_spec hown hl1 e.platform hpl
        obtain ⟨a8, b8, h1, h2, h3⟩ := hn1
        cases Option.some.inj (h1.symm.trans hcl)
        cases Option.some.inj (h2.symm.trans hc6)
        exact Or.inr ⟨hz0, _, hcl6, h3⟩) hx (Or.inr ⟨h0, c4, hcl5, hasg⟩)
  obtain ⟨t, a1, b1⟩ := kk (T.setVm vm') hT X'
  exact ⟨t, st.trans a1, b1⟩
end Rows
section Ends
variable {p : Program} {l : Launch} {e : Env} {R : Room} {s : State} {m : MethodId} {args : Array Value} {below : List Frame} {meth : Method} {c : Code} {H : Heap} {locs : List Loc} {cells slots : Nat} {Q : State → Prop}
variable {mc ms : Nat} {free : Addr → Prop} {A0 A1 : Nat → Prop} {H0 : Heap} {a : Array Value} {ls : Array Slot} {st0 rest : List Value}
variable {Qc : Array Value → State → Outcome → State → Prop} {XC : String → State → State → Prop}
/-- what a body that may throw owes at its end -/
def vx_MQ (below : List Frame) (Qc : Array Value → State → Outcome → State → Prop) (XC : String → State → State → Prop) (a : Array Value) (s : State) (mc ms : Nat) (free : Addr → Prop) : State → Prop := fun t =>
  ∃ o, t.status = .running ∧ Ended t below o ∧ vx_Q Qc XC mc ms free a s o t
theorem vx_ret {g : JFrame} {mc ms : Nat} (k : W p l e R s m args below meth c H locs cells slots (MQ below Qc args s mc ms free) g) : W p l e R s m args below meth c H locs cells slots (vx_MQ below Qc XC args s mc ms free) g := by
  intro T hT X
  obtain ⟨t, a1, o, b1, b2, b3, b4⟩ := k T hT X
  exact ⟨t, a1, o, b1, b2, Or.inl ⟨b3, b4⟩⟩
/-- not caught here: it goes on to the caller -/
theorem vx_widen {g : JFrame} {q : Addr} {k n : Nat} (h1 : cells ≤ k) (h2 : slots ≤ n) (kk : vx_W p l e R s m args below meth c H locs k n Q g q) : vx_W p l e R s m args below meth c H locs cells slots Q g q := fun T hT X => kk T hT (stand_widen X h1 h2)
theorem vx_out {pc : Nat} {E : String} {ce : Cell} {q : Addr} {mc ms : Nat} (hout : ∀ x ∈ c.exceptionTable.toList, covers x pc = false) (hlocks : meth.locks = false) (hcell : H[q]? = some ce) (hv : ce.vm = .none) (hcl : s.vm.findClass E = some ce.cls)
    (hx : ∀ t : State, t.heap = H → s.vm.Alike t.vm → XC E s t) (hf : ∀ z ∈ locs, free z.base) (hc : cells ≤ mc) (hs : slots ≤ ms) :
    vx_W p l e R s m args below meth c H locs cells slots (vx_MQ below Qc XC args s mc ms free) (F0 m pc ls rest) q := by
  intro T hT X
  obtain ⟨st1, hrun, hend, hW, hsm⟩ := X.leaveThrown q (g := F0 m pc ls rest) rfl rfl rfl hout hlocks
  have hcell9 : (T.setFrames (.throwing q :: below)).heap[q]? = some ce := by
    show T.heap[q]? = some ce
    rw [hT]; exact hcell
  exact ⟨_, st1, .threw q, hrun, hend, Or.inr ⟨q, rfl, E, ce, locs, hx _ hT hW.alike, hcell9, hv, hcl, hW, hsm.mono hc hs, hf⟩⟩
theorem vx_frame {U : State} {k n : Nat} (h : s.sameButNew ({ U with vm := s.vm } : State) locs k n) : s.heap.size ≤ U.heap.size ∧ ∀ q : Nat, q < s.heap.size → (∀ z ∈ locs, z.base ≠ q) → U.heap[q]? = s.heap[q]? := by
  obtain ⟨-, h2, -, -, -, h6⟩ := h
  refine ⟨h2, fun q hq hz => ?_⟩
  obtain ⟨c9, e1, e2, e3, e4⟩ := h6 q _ (Array.getElem?_eq_getElem hq)
  have hs : c9.slots = (s.heap[q]).slots := Array.ext_getElem? fun i => e4 i fun hm => hz _ hm rfl
  have h9 : c9 = s.heap[q] := by
    rw [hs] at e2
    exact e2
  have e5 : U.heap[q]? = some c9 := e1
  rw [e5, h9, Array.getElem?_eq_getElem hq]
/-- the words of a throw but the four that speak of the heap -/
def vx_no (w : Cond) : Bool := decide (w ≠ .isRef (.static Bundle.tN "UNASSIGNED_STACK" Bundle.steD)) && decide (w ≠ .isRef (.static Bundle.tN "SUPPRESSED_SENTINEL" Bundle.listD)) && decide (w ≠ .laysStatic Bundle.tN "UNASSIGNED_STACK" Bundle.steD) && decide (w ≠ .laysStatic Bundle.tN "SUPPRESSED_SENTINEL" Bundle.listD)
def vx_at0 (own : String) (ic : Nat) (X : String) (names : List String) : List Cond := (Bundle.ownAtoms0 own ic X names).filter vx_no
def vx_atS (own : String) (ic : Nat) (X : String) (names : List String) : List Cond := (Bundle.ownAtoms own ic X names).filter vx_no
/-- a word that the tables alone decide, or a good one -/
def vx_ot (w : Cond) : Bool := w.onTables || goodWord w
theorem vx_ot_at {args a' : Array Value} {s U : State} {w : Cond} (hW : s.WarmedH U.vm) (hvm : s.vm = U.vm) (hg : vx_ot w = true) (h : w.before args s = true) : w.before a' U = true := by
  simp only [vx_ot, Bool.or_eq_true] at hg
  rcases hg with hg | hg
  · exact va_tabs hg hvm h
  · exact word_at hW (good_of_word hg) h
/-- a list's words: the good ones out of the method's own list, the others by premises of their own -/
theorem vx_hat {args : Array Value} {s : State} {L B : List Cond} (h1 : ∀ w ∈ L.filter goodWord, w.before args s = true) (h2 : ∀ w ∈ L.filter (fun w => !goodWord w), w ∈ B) (h3 : ∀ w ∈ B, w.before args s = true) : ∀ w ∈ L, w.before args s = true := by
  intro w hw
  by_cases g : goodWord w = true
  · exact h1 w (List.mem_filter.mpr ⟨hw, g⟩)
  · refine h3 w (h2 w (List.mem_filter.mpr ⟨hw, ?_⟩))
    show (!goodWord w) = true
    cases hgw : goodWord w
    · rfl
    · exact absurd hgw g
theorem vx_c {args : Array Value} {s : State} {w : Cond} {B : List Cond} (h : w.before args s = true) (t : ∀ w ∈ B, w.before args s = true) : ∀ w' ∈ w :: B, w'.before args s = true := fun w' h' => (List.mem_cons.mp h').elim (fun e => by rw [e]; exact h) (t w')
theorem vx_n {args : Array Value} {s : State} : ∀ w ∈ ([] : List Cond), w.before args s = true := fun _ h => nomatch h
theorem vx_own {args : Array Value} {s : State} {L : List Cond} (h1 : ∀ w ∈ L.filter vx_no, w.before args s = true)
    (hU : (Cond.isRef (.static Bundle.tN "UNASSIGNED_STACK" Bundle.steD)).before args s = true) (hN : (Cond.isRef (.static Bundle.tN "SUPPRESSED_SENTINEL" Bundle.listD)).before args s = true)
    (lU : (Cond.laysStatic Bundle.tN "UNASSIGNED_STACK" Bundle.steD).before args s = true) (lN : (Cond.laysStatic Bundle.tN "SUPPRESSED_SENTINEL" Bundle.listD).before args s = true) : ∀ w ∈ L, w.before args s = true := by
  intro w hw
  by_cases e1 : w = .isRef (.static Bundle.tN "UNASSIGNED_STACK" Bundle.steD)
  · rw [e1]; exact hU
  · by_cases e2 : w = .isRef (.static Bundle.tN "SUPPRESSED_SENTINEL" Bundle.listD)
    · rw [e2]; exact hN
    · by_cases e3 : w = .laysStatic Bundle.tN "UNASSIGNED_STACK" Bundle.steD
      · rw [e3]; exact lU
      · by_cases e4 : w = .laysStatic Bundle.tN "SUPPRESSED_SENTINEL" Bundle.listD
        · rw [e4]; exact lN
        · exact h1 w (List.mem_filter.mpr ⟨hw, by unfold vx_no; rw [decide_eq_true e1, decide_eq_true e2, decide_eq_true e3, decide_eq_true e4]; rfl⟩)
/-- where a static field lies, its class's statics cell in H -/
def vx_L (C n d : String) (A : Nat → Prop) (U : State) (H : Heap) : Prop := ∃ (c : ClassId) (k : Class) (i : Nat) (f : Field) (a : Nat) (cell : Cell), U.vm.findClass C = some c ∧ U.fieldFound? C n d = some (c, k, i, f) ∧ f.isStatic = true ∧ k.statics = some a ∧ H[a]? = some cell ∧ cell.vm.isStatics = true ∧ cell.cls = c ∧ f.slot < cell.slots.size ∧ k.staticTypes[f.slot]? = some f.type ∧ ¬ A a
theorem vx_L.moved {C n d : String} {A : Nat → Prop} {u U : State} {H : Heap} (hvm : u.vm.Alike U.vm) (h : vx_L C n d A u H) : vx_L C n d A U H := by
  obtain ⟨c, k, i, f, a, cell, h1, h2, h3, h4, h5, h6, h7, h8, h9, h10⟩ := h
  obtain ⟨k', hi', he⟩ := State.fieldFound?_setVm hvm h2
  exact ⟨c, k', i, f, a, cell, by rw [hvm.findClass]; exact h1, hi', h3, by rw [he]; exact h4, h5, h6, h7, h8, by rw [he]; exact h9, h10⟩
theorem vx_L.kept {C n d : String} {A : Nat → Prop} {U : State} {H H1 : Heap} (h : vx_L C n d A U H) (hq : ∀ a : Nat, a < H.size → ¬ A a → H1[a]? = H[a]?) : vx_L C n d A U H1 := by
  obtain ⟨c, k, i, f, a, cell, h1, h2, h3, h4, h5, h6, h7, h8, h9, h10⟩ := h
  exact ⟨c, k, i, f, a, cell, h1, h2, h3, h4, by rw [hq a (Array.getElem?_eq_some_iff.mp h5).1 h10]; exact h5, h6, h7, h8, h9, h10⟩
theorem vx_L.narrow {C n d : String} {A B : Nat → Prop} {U : State} {H : Heap} (h : vx_L C n d A U H) (hAB : ∀ q, B q → A q) : vx_L C n d B U H := by
  obtain ⟨c, k, i, f, a, cell, h1, h2, h3, h4, h5, h6, h7, h8, h9, h10⟩ := h
  exact ⟨c, k, i, f, a, cell, h1, h2, h3, h4, h5, h6, h7, h8, h9, fun z => h10 (hAB _ z)⟩
theorem vx_L.word {C n d : String} {A : Nat → Prop} {s : State} {args : Array Value} (h : vx_L C n d A s s.heap) : (Cond.laysStatic C n d).before args s = true := by
  obtain ⟨c, k, i, f, a, cell, h1, h2, h3, h4, h5, h6, h7, h8, h9, -⟩ := h
  show (Cond.laysStatic C n d).holds args s none s [] = true
  exact Cond.laysStatic_of h1 h2 h3 h4 h5 h6 h7 h8 h9
/-- .. and what it holds: null or some reference -/
def vx_Zq (C n d : String) (A : Nat → Prop) (U : State) (H : Heap) : Prop := va_Zq C n d A U H ∧ vx_L C n d A U H
theorem vx_Zq.moved {C n d : String} {A : Nat → Prop} {u U : State} {H : Heap} (hvm : u.vm.Alike U.vm) (h : vx_Zq C n d A u H) : vx_Zq C n d A U H := ⟨va_Zq.moved hvm h.1, vx_L.moved hvm h.2⟩
theorem vx_Zq.kept {C n d : String} {A : Nat → Prop} {U : State} {H H1 : Heap} (h : vx_Zq C n d A U H) (hq : ∀ a : Nat, a < H.size → ¬ A a → H1[a]? = H[a]?) : vx_Zq C n d A U H1 := ⟨va_Zq.kept h.1 hq, vx_L.kept h.2 hq⟩
theorem vx_Zq.narrow {C n d : String} {A B : Nat → Prop} {U : State} {H : Heap} (h : vx_Zq C n d A U H) (hAB : ∀ q, B q → A q) : vx_Zq C n d B U H := ⟨va_Zq.narrow h.1 hAB, vx_L.narrow h.2 hAB⟩
theorem vx_Zqof {args : Array Value} {s : State} {C n d : String} {A : Nat → Prop} (hl : (Cond.laysStatic C n d).before args s = true) (hini : (Cond.initialized C).before args s = true) (h : (Cond.isRef (.static C n d)).before args s = true) (hA : ∀ a : Nat, a < s.heap.size → ¬ A a) : vx_Zq C n d A s s.heap := by
  refine ⟨va_Zqof hl hini h hA, ?_⟩
  obtain ⟨c, k, i, f, a, cell, h1, h2, h3, h4, h5, h6, h7, h8, h9⟩ := Cond.laysStatic_spec hl
  exact ⟨c, k, i, f, a, cell, h1, h2, h3, h4, h5, h6, h7, h8, h9, hA a (Array.getElem?_eq_some_iff.mp h5).1⟩
theorem vx_isRef {C n d : String} {v : Value} {A : Nat → Prop} {s : State} {args : Array Value} (h : va_Z C n d v A s s.heap) (hv : v.isRef = true) : (Cond.isRef (.static C n d)).before args s = true := by
  obtain ⟨cf, kf, fi, f, a, cell, h1, h2, h3, h4, h5, h6, h7, -⟩ := h
  have he : (Term.static C n d).eval args s none [] s = some v := by
    simp [Term.eval, State.fieldNamed?, h1, h2, h4, h5, h6, h7]
  simp only [Cond.before, Cond.holds, Cond.value, he]
  cases v <;> simp_all [Value.isRef]
theorem vx_isRefq {C n d : String} {A : Nat → Prop} {s : State} {args : Array Value} (h : va_Zq C n d A s s.heap) : (Cond.isRef (.static C n d)).before args s = true := by
  rcases h with h | ⟨t, h⟩
  · exact vx_isRef h rfl
  · exact vx_isRef h rfl
/-- the same frame, seen from here: as if the method were called anew in this heap -/
theorem vx_rebase {T : State} (X : Stand p l e R s m args below meth c T locs cells slots) {R' : Room} (hf : R'.frames ≤ R.frames) (hl : R'.locals ≤ R.locals) (hc : cells + R'.cells ≤ R.cells) (hs : slots + R'.slots ≤ R.slots) :
    Stand p l e R' ((T.setVm s.vm).setFrames (.invoking m args :: below)) m args below meth c T [] 0 0 := by
  have htop : (T.setVm s.vm).topJava?.isSome := X.here.top
  have hF : ((T.setVm s.vm).setFrames (.invoking m args :: below)).frames = .invoking m args :: below := State.frames_setFrames _ (State.cur_lt_of_top htop)
  obtain ⟨g₀, hg0⟩ := Option.isSome_iff_exists.mp htop
  obtain ⟨r, hr⟩ := State.topJava?_eq_some.mp hg0
  have hl9 : e.platform.stackLimits (T.setVm s.vm).me = e.platform.stackLimits s.me := X.limits
  have hb9 : (T.setVm s.vm).me.stackBytes = s.me.stackBytes := X.bytes
  refine ⟨X.admits, X.cas, X.clock, hF, ?_, X.hears, X.method, X.code, X.here, X.tail, X.warmed, ?_, ?_, ?_⟩
  · have h := X.room
    have hU : ((T.setVm s.vm).setFrames (.invoking m args :: below)).localsInUse = s.localsInUse := by
      rw [State.localsInUse_invoking hF (meth := meth) (c := c) X.method X.code, State.localsInUse_invoking X.frames X.method X.code]
    simp only [State.hasRoom, Bool.and_eq_true, decide_eq_true_eq] at h ⊢
    obtain ⟨⟨⟨⟨h1, h2, h3, h4, h5, h6⟩, h7⟩, h8⟩, h9⟩ := h
    rw [X.frames, List.length_cons] at h2 h3
    have q1 := X.heapSize
    have q2 := X.used
    simp only [hF, hU, List.length_cons, State.stackLimits_setFrames, State.stackBytes_setFrames, hl9, hb9]
    refine ⟨⟨⟨⟨by omega, by omega, by omega, by omega, by omega, h6⟩, ?_⟩, ?_⟩, X.book⟩
    · show T.heap.size + R'.cells ≤ e.platform.maxCells
      omega
    · show T.slotsUsed + R'.slots ≤ e.platform.maxSlots
      omega
  · rw [State.stackLimits_setFrames]; rfl
  · rw [State.stackBytes_setFrames]; rfl
  · refine ⟨?_, Nat.le_refl _, Nat.le_refl _, ?_, ?_, fun a c9 h9 => ⟨c9, h9, rfl, rfl, fun _ _ => rfl⟩⟩
    · obtain ⟨t, ht, -⟩ := State.frames_cons hr
      show T.setVm s.vm = { ((T.setVm s.vm).setFrames (.invoking m args :: below)).setFrames (T.setVm s.vm).frames with heap := T.heap, slotsUsed := T.slotsUsed }
      rw [State.setFrames_setFrames, State.setFrames_self ht]
      rfl
    · show T.slotsUsed = T.slotsUsed + ((T.heap.toList.drop T.heap.size).map (·.slots.size)).sum
      rw [List.drop_eq_nil_of_le (Nat.le_of_eq Array.length_toList)]
      rfl
    · show ((T.heap.toList.drop T.heap.size).map (·.slots.size)).sum ≤ 0
      rw [List.drop_eq_nil_of_le (Nat.le_of_eq Array.length_toList)]
      exact Nat.le_refl _
/-- 'throw new E()': new; dup; invokespecial; athrow -/
theorem vx_throw0 {cc : ByteArray} {pc : Nat} (hexec : p.tables.exec = Jvm.exec) (hb : c.code = cc) (hl : l.stackTraces = false) {own cls : String} {names : List String} {ik ic mc ms : Nat} {A : Nat → Prop}
    (hown : s.vm.findClass own = some m.cls) (hcls : Bundle.fit cls = true) (hnames : ∀ n ∈ names, Bundle.fit n = true)
    (hk : (Cond.classLink own ik cls).before args s = true) (hini : (Cond.initialized cls).before args s = true) (hat : ∀ w ∈ vx_at0 own ic cls names, w.before args s = true)
    (hgood : ∀ w ∈ Cond.classLink own ik cls :: Cond.initialized cls :: vx_at0 own ic cls names, vx_ot w = true)
    (hU : vx_Zq Bundle.tN "UNASSIGNED_STACK" Bundle.steD A s s.heap) (hN : vx_Zq Bundle.tN "SUPPRESSED_SENTINEL" Bundle.listD A s s.heap) (hS : va_S A s.heap H locs) (hsize : ls.size = c.maxLocals)
    (d0 : decode cc pc = .ok (.new ik, 3)) (d3 : decode cc (pc + 3) = .ok (.dup, 1)) (d4 : decode cc (pc + 4) = .ok (.invokespecial ic, 3)) (d7 : decode cc (pc + 7) = .ok (.athrow, 1))
    (hout : ∀ x ∈ c.exceptionTable.toList, covers x (pc + 7) = false)
    (hRframes : names.length + 3 < R.frames) (hRlocals : (rest.map fun v => v.category).sum + (13 * (names.length + 1) + 42) ≤ R.locals) (hRcells : cells + 1 ≤ R.cells) (hRslots : slots + 6 ≤ R.slots) (hlocks : meth.locks = false)
    (hx : ∀ t : State, s.vm.Alike t.vm → H.size ≤ t.heap.size → (∀ q : Nat, q < H.size → t.heap[q]? = H[q]?) → XC cls s t)
    (hf : ∀ z ∈ locs, free z.base) (hc : cells + 1 ≤ mc) (hs : slots + 6 ≤ ms) :
    W p l e R s m args below meth c H locs cells slots (vx_MQ below Qc XC args s mc ms free) (F0 m pc ls rest) := by
  intro T hT X
  have htr : e.platform.stackTraces = false := (show e.platform.stackTraces = l.stackTraces by rw [X.admits.platform]).trans hl
  have Y := vx_rebase X (R' := { frames := R.frames, locals := R.locals, cells := 1, slots := 6 }) (Nat.le_refl _) (Nat.le_refl _) hRcells hRslots
  obtain ⟨s', hA⟩ : ∃ z, z = (T.setVm s.vm).setFrames (.invoking m args :: below) := ⟨_, rfl⟩
  rw [← hA] at Y
  have hvm : s'.vm = s.vm := by rw [hA]; rfl
  have hhp : s'.heap = H := by rw [hA]; exact hT
  have hW0 : s.WarmedH s'.vm := by rw [hvm]; exact State.WarmedH.refl s
  have hat' : ∀ w ∈ vx_at0 own ic cls names, w.before args s' = true := fun w hw => vx_ot_at hW0 hvm.symm (hgood w (List.mem_cons_of_mem _ (List.mem_cons_of_mem _ hw))) (hat w hw)
  have hk' : (Cond.classLink own ik cls).before args s' = true := vx_ot_at hW0 hvm.symm (hgood _ List.mem_cons_self) hk
  have hini' : (Cond.initialized cls).before args s' = true := vx_ot_at hW0 hvm.symm (hgood _ (List.mem_cons_of_mem _ List.mem_cons_self)) hini
  have hU' : vx_Zq Bundle.tN "UNASSIGNED_STACK" Bundle.steD A s' s'.heap := by rw [hhp]; exact vx_Zq.moved hW0.alike (hU.kept hS.2.1)
  have hN' : vx_Zq Bundle.tN "SUPPRESSED_SENTINEL" Bundle.listD A s' s'.heap := by rw [hhp]; exact vx_Zq.moved hW0.alike (hN.kept hS.2.1)
  have h : ∀ w ∈ Bundle.ownAtoms0 own ic cls names, w.before args s' = true := vx_own hat' (vx_isRefq hU'.1) (vx_isRefq hN'.1) hU'.2.word hN'.2.word
  have hown' : s'.vm.findClass own = some m.cls := by rw [hvm]; exact hown
  have hins : (Cond.instantiable cls 6).before args s' = true := h _ (by simp [Bundle.ownAtoms0])
  obtain ⟨vm₁, cX, kX, hfX, hkX, -, -, X₁, st1⟩ := Y.newCold hexec (own := own) (C := cls) (index := ik) (n := 6) hown' hk' hins hini'
    (g := F0 m pc ls rest) rfl (by rw [hb]; exact d0) (Nat.le_refl _) (Nat.le_refl _)
  generalize hT1 : (T.setVm vm₁).pushCell { cls := cX, slots := kX.instanceTypes.map defaultValue, vm := .none } = T1 at X₁ st1
  have hcat : (Value.ref T.heap.size).category = 1 := rfl
  have hcellA : T1.heap[T.heap.size]? = some (freshCell cX kX) := by rw [← hT1]; exact State.heap_pushCell_size _ _
  have d3' : decode c.code (pc + 3) = .ok (.dup, 1) := by rw [hb]; exact d3
  obtain ⟨U, hsteps, hrun, hend, hW, hsame, ce, hce, hO⟩ := X₁.ctorThrow0 hexec htr (own := own) (cls := cls) (names := names) (ic := ic) hown' hcls hnames h (fun x hx => nomatch hx) hfX hkX hcellA (by rw [hhp, hT]; exact Nat.le_refl _)
    (g := { method := m, pc := pc + 4, locals := ls, stack := .ref T.heap.size :: .ref T.heap.size :: rest, locked := none }) rfl hsize rfl rfl (rest := rest) rfl
    (by rw [hb]; exact d4) (by rw [hb]; exact d7) hout hRframes (by simp only [List.map_cons, List.sum_cons, hcat]; omega) hlocks
  obtain ⟨f1, f2⟩ := vx_frame hsame
  rw [hhp] at f1 f2
  have hWs : s.WarmedH U.vm := State.WarmedH.trans hW0 hW
  have hcl : s.vm.findClass cls = some ce.cls := by
    have h9 := hO.cls
    rw [hvm] at h9
    exact h9
  have hall : s.sameButNew ({ U with vm := s.vm } : State) locs mc ms := by
    subst hA
    obtain ⟨e1, e2⟩ := hsame
    rw [State.setFrames_setFrames] at e1
    have h2 : (T.setVm s.vm).sameButNew ({ U with vm := s.vm } : State) [] (0 + 1) (0 + 6) := ⟨e1, e2⟩
    have h3 := X.same.trans h2
    rw [List.append_nil] at h3
    exact h3.mono hc hs
  refine ⟨U, ?_, .threw T.heap.size, hrun, hend, Or.inr ⟨T.heap.size, rfl, cls, ce, locs, hx U hWs.alike f1 (fun q hq => f2 q hq (fun z hz => nomatch hz)), hce, hO.vm, hcl, hWs, hall, hf⟩⟩
  refine st1 _ ?_
  show Steps p.tables e below (T1.setTop { method := m, pc := pc + 3, locals := ls, stack := .ref T.heap.size :: rest, locked := none }) _
  jvm_step X₁.here [X₁.here.top, hexec, d3', Value.category]
  exact hsteps
/-- 'throw new E("text")': new; dup; ldc; invokespecial; athrow -/
theorem vx_throwS {cc : ByteArray} {pc : Nat} (hexec : p.tables.exec = Jvm.exec) (hb : c.code = cc) (hl : l.stackTraces = false) {own cls text : String} {names : List String} {ik is ic mc ms sa : Nat} {A : Nat → Prop}
    (hown : s.vm.findClass own = some m.cls) (hcls : Bundle.fit cls = true) (hnames : ∀ n ∈ names, Bundle.fit n = true)
    (hk : (Cond.classLink own ik cls).before args s = true) (hini : (Cond.initialized cls).before args s = true) (hstr : vk_R own is text sa s) (hat : ∀ w ∈ vx_atS own ic cls names, w.before args s = true)
    (hgood : ∀ w ∈ Cond.classLink own ik cls :: Cond.initialized cls :: vx_atS own ic cls names, vx_ot w = true)
    (hU : vx_Zq Bundle.tN "UNASSIGNED_STACK" Bundle.steD A s s.heap) (hN : vx_Zq Bundle.tN "SUPPRESSED_SENTINEL" Bundle.listD A s s.heap) (hS : va_S A s.heap H locs) (hsize : ls.size = c.maxLocals)
    (d0 : decode cc pc = .ok (.new ik, 3)) (d3 : decode cc (pc + 3) = .ok (.dup, 1)) (d4 : decode cc (pc + 4) = .ok (.ldc is, 2)) (d6 : decode cc (pc + 6) = .ok (.invokespecial ic, 3)) (d9 : decode cc (pc + 9) = .ok (.athrow, 1))
    (hout : ∀ x ∈ c.exceptionTable.toList, covers x (pc + 9) = false)
    (hRframes : names.length + 3 < R.frames) (hRlocals : (rest.map fun v => v.category).sum + (13 * (names.length + 1) + 43) ≤ R.locals) (hRcells : cells + 1 ≤ R.cells) (hRslots : slots + 6 ≤ R.slots) (hlocks : meth.locks = false)
    (hx : ∀ t : State, s.vm.Alike t.vm → H.size ≤ t.heap.size → (∀ q : Nat, q < H.size → t.heap[q]? = H[q]?) → XC cls s t)
    (hf : ∀ z ∈ locs, free z.base) (hc : cells + 1 ≤ mc) (hs : slots + 6 ≤ ms) :
    W p l e R s m args below meth c H locs cells slots (vx_MQ below Qc XC args s mc ms free) (F0 m pc ls rest) := by
  intro T hT X
  have htr : e.platform.stackTraces = false := (show e.platform.stackTraces = l.stackTraces by rw [X.admits.platform]).trans hl
  have Y := vx_rebase X (R' := { frames := R.frames, locals := R.locals, cells := 1, slots := 6 }) (Nat.le_refl _) (Nat.le_refl _) hRcells hRslots
  obtain ⟨s', hA⟩ : ∃ z, z = (T.setVm s.vm).setFrames (.invoking m args :: below) := ⟨_, rfl⟩
  rw [← hA] at Y
  have hvm : s'.vm = s.vm := by rw [hA]; rfl
  have hhp : s'.heap = H := by rw [hA]; exact hT
  have hW0 : s.WarmedH s'.vm := by rw [hvm]; exact State.WarmedH.refl s
  have hat' : ∀ w ∈ vx_atS own ic cls names, w.before args s' = true := fun w hw => vx_ot_at hW0 hvm.symm (hgood w (List.mem_cons_of_mem _ (List.mem_cons_of_mem _ hw))) (hat w hw)
  have hk' : (Cond.classLink own ik cls).before args s' = true := vx_ot_at hW0 hvm.symm (hgood _ List.mem_cons_self) hk
  have hini' : (Cond.initialized cls).before args s' = true := vx_ot_at hW0 hvm.symm (hgood _ (List.mem_cons_of_mem _ List.mem_cons_self)) hini
  have hU' : vx_Zq Bundle.tN "UNASSIGNED_STACK" Bundle.steD A s' s'.heap := by rw [hhp]; exact vx_Zq.moved hW0.alike (hU.kept hS.2.1)
  have hN' : vx_Zq Bundle.tN "SUPPRESSED_SENTINEL" Bundle.listD A s' s'.heap := by rw [hhp]; exact vx_Zq.moved hW0.alike (hN.kept hS.2.1)
  have h : ∀ w ∈ Bundle.ownAtoms own ic cls names, w.before args s' = true := vx_own hat' (vx_isRefq hU'.1) (vx_isRefq hN'.1) hU'.2.word hN'.2.word
  have hown' : s'.vm.findClass own = some m.cls := by rw [hvm]; exact hown
  have hins : (Cond.instantiable cls 6).before args s' = true := h _ (by simp [Bundle.ownAtoms])
  obtain ⟨vm₁, cX, kX, hfX, hkX, -, -, X₁, st1⟩ := Y.newCold hexec (own := own) (C := cls) (index := ik) (n := 6) hown' hk' hins hini'
    (g := F0 m pc ls rest) rfl (by rw [hb]; exact d0) (Nat.le_refl _) (Nat.le_refl _)
  generalize hT1 : (T.setVm vm₁).pushCell { cls := cX, slots := kX.instanceTypes.map defaultValue, vm := .none } = T1 at X₁ st1
  have hcat : (Value.ref T.heap.size).category = 1 := rfl
  have hcellA : T1.heap[T.heap.size]? = some (freshCell cX kX) := by rw [← hT1]; exact State.heap_pushCell_size _ _
  have d3' : decode c.code (pc + 3) = .ok (.dup, 1) := by rw [hb]; exact d3
  have d4' : decode c.code (pc + 4) = .ok (.ldc is, 2) := by rw [hb]; exact d4
  have hstr' : vk_R own is text sa s' := vk_R.warm hW0 hstr
  obtain ⟨U, hsteps, hrun, hend, hW, hsame, ce, hce, hO⟩ := X₁.ctorThrowS hexec htr (own := own) (cls := cls) (names := names) (ic := ic) hown' hcls hnames h (fun x hx => nomatch hx) hfX hkX hcellA (by rw [hhp, hT]; exact Nat.le_refl _) (msg := .ref sa) rfl
    (g := { method := m, pc := pc + 6, locals := ls, stack := .ref sa :: .ref T.heap.size :: .ref T.heap.size :: rest, locked := none }) rfl hsize rfl rfl (rest := rest) rfl
    (by rw [hb]; exact d6) (by rw [hb]; exact d9) hout hRframes (by simp only [List.map_cons, List.sum_cons, hcat]; omega) hlocks
  obtain ⟨f1, f2⟩ := vx_frame hsame
  rw [hhp] at f1 f2
  have hWs : s.WarmedH U.vm := State.WarmedH.trans hW0 hW
  have hcl : s.vm.findClass cls = some ce.cls := by
    have h9 := hO.cls
    rw [hvm] at h9
    exact h9
  have hall : s.sameButNew ({ U with vm := s.vm } : State) locs mc ms := by
    subst hA
    obtain ⟨e1, e2⟩ := hsame
    rw [State.setFrames_setFrames] at e1
    have h2 : (T.setVm s.vm).sameButNew ({ U with vm := s.vm } : State) [] (0 + 1) (0 + 6) := ⟨e1, e2⟩
    have h3 := X.same.trans h2
    rw [List.append_nil] at h3
    exact h3.mono hc hs
  refine ⟨U, ?_, .threw T.heap.size, hrun, hend, Or.inr ⟨T.heap.size, rfl, cls, ce, locs, hx U hWs.alike f1 (fun q hq => f2 q hq (fun z hz => nomatch hz)), hce, hO.vm, hcl, hWs, hall, hf⟩⟩
  refine st1 _ ?_
  show Steps p.tables e below (T1.setTop { method := m, pc := pc + 3, locals := ls, stack := .ref T.heap.size :: rest, locked := none }) _
  jvm_step X₁.here [X₁.here.top, hexec, d3', Value.category]
  exact X₁.ldcString hexec (own := own) (text := text) (index := is) (a := sa) hown' hstr'.1 hstr'.2
    (g := { method := m, pc := pc + 4, locals := ls, stack := .ref T.heap.size :: .ref T.heap.size :: rest, locked := none }) rfl d4' _ hsteps
/-- 'throw new E("text")', the text by a wide index -/
theorem vx_throwSW {cc : ByteArray} {pc : Nat} (hexec : p.tables.exec = Jvm.exec) (hb : c.code = cc) (hl : l.stackTraces = false) {own cls text : String} {names : List String} {ik is ic mc ms sa : Nat} {A : Nat → Prop}
    (hown : s.vm.findClass own = some m.cls) (hcls : Bundle.fit cls = true) (hnames : ∀ n ∈ names, Bundle.fit n = true)
    (hk : (Cond.classLink own ik cls).before args s = true) (hini : (Cond.initialized cls).before args s = true) (hstr : vk_R own is text sa s) (hat : ∀ w ∈ vx_atS own ic cls names, w.before args s = true)
    (hgood : ∀ w ∈ Cond.classLink own ik cls :: Cond.initialized cls :: vx_atS own ic cls names, vx_ot w = true)
    (hU : vx_Zq Bundle.tN "UNASSIGNED_STACK" Bundle.steD A s s.heap) (hN : vx_Zq Bundle.tN "SUPPRESSED_SENTINEL" Bundle.listD A s s.heap) (hS : va_S A s.heap H locs) (hsize : ls.size = c.maxLocals)
    (d0 : decode cc pc = .ok (.new ik, 3)) (d3 : decode cc (pc + 3) = .ok (.dup, 1)) (d4 : decode cc (pc + 4) = .ok (.ldc_w is, 3)) (d7 : decode cc (pc + 7) = .ok (.invokespecial ic, 3)) (d10 : decode cc (pc + 10) = .ok (.athrow, 1))
    (hout : ∀ x ∈ c.exceptionTable.toList, covers x (pc + 10) = false)
    (hRframes : names.length + 3 < R.frames) (hRlocals : (rest.map fun v => v.category).sum + (13 * (names.length + 1) + 43) ≤ R.locals) (hRcells : cells + 1 ≤ R.cells) (hRslots : slots + 6 ≤ R.slots) (hlocks : meth.locks = false)
    (hx : ∀ t : State, s.vm.Alike t.vm → H.size ≤ t.heap.size → (∀ q : Nat, q < H.size → t.heap[q]? = H[q]?) → XC cls s t)
    (hf : ∀ z ∈ locs, free z.base) (hc : cells + 1 ≤ mc) (hs : slots + 6 ≤ ms) :
    W p l e R s m args below meth c H locs cells slots (vx_MQ below Qc XC args s mc ms free) (F0 m pc ls rest) := by
  intro T hT X
  have htr : e.platform.stackTraces = false := (show e.platform.stackTraces = l.stackTraces by rw [X.admits.platform]).trans hl
  have Y := vx_rebase X (R' := { frames := R.frames, locals := R.locals, cells := 1, slots := 6 }) (Nat.le_refl _) (Nat.le_refl _) hRcells hRslots
  obtain ⟨s', hA⟩ : ∃ z, z = (T.setVm s.vm).setFrames (.invoking m args :: below) := ⟨_, rfl⟩
  rw [← hA] at Y
  have hvm : s'.vm = s.vm := by rw [hA]; rfl
  have hhp : s'.heap = H := by rw [hA]; exact hT
  have hW0 : s.WarmedH s'.vm := by rw [hvm]; exact State.WarmedH.refl s
  have hat' : ∀ w ∈ vx_atS own ic cls names, w.before args s' = true := fun w hw => vx_ot_at hW0 hvm.symm (hgood w (List.mem_cons_of_mem _ (List.mem_cons_of_mem _ hw))) (hat w hw)
  have hk' : (Cond.classLink own ik cls).before args s' = true := vx_ot_at hW0 hvm.symm (hgood _ List.mem_cons_self) hk
  have hini' : (Cond.initialized cls).before args s' = true := vx_ot_at hW0 hvm.symm (hgood _ (List.mem_cons_of_mem _ List.mem_cons_self)) hini
  have hU' : vx_Zq Bundle.tN "UNASSIGNED_STACK" Bundle.steD A s' s'.heap := by rw [hhp]; exact vx_Zq.moved hW0.alike (hU.kept hS.2.1)
  have hN' : vx_Zq Bundle.tN "SUPPRESSED_SENTINEL" Bundle.listD A s' s'.heap := by rw [hhp]; exact vx_Zq.moved hW0.alike (hN.kept hS.2.1)
  have h : ∀ w ∈ Bundle.ownAtoms own ic cls names, w.before args s' = true := vx_own hat' (vx_isRefq hU'.1) (vx_isRefq hN'.1) hU'.2.word hN'.2.word
  have hown' : s'.vm.findClass own = some m.cls := by rw [hvm]; exact hown
  have hins : (Cond.instantiable cls 6).before args s' = true := h _ (by simp [Bundle.ownAtoms])
  obtain ⟨vm₁, cX, kX, hfX, hkX, -, -, X₁, st1⟩ := Y.newCold hexec (own := own) (C := cls) (index := ik) (n := 6) hown' hk' hins hini'
    (g := F0 m pc ls rest) rfl (by rw [hb]; exact d0) (Nat.le_refl _) (Nat.le_refl _)
  generalize hT1 : (T.setVm vm₁).pushCell { cls := cX, slots := kX.instanceTypes.map defaultValue, vm := .none } = T1 at X₁ st1
  have hcat : (Value.ref T.heap.size).category = 1 := rfl
  have hcellA : T1.heap[T.heap.size]? = some (freshCell cX kX) := by rw [← hT1]; exact State.heap_pushCell_size _ _
  have d3' : decode c.code (pc + 3) = .ok (.dup, 1) := by rw [hb]; exact d3
  have d4' : decode c.code (pc + 4) = .ok (.ldc_w is, 3) := by rw [hb]; exact d4
  have hstr' : vk_R own is text sa s' := vk_R.warm hW0 hstr
  obtain ⟨U, hsteps, hrun, hend, hW, hsame, ce, hce, hO⟩ := X₁.ctorThrowS hexec htr (own := own) (cls := cls) (names := names) (ic := ic) hown' hcls hnames h (fun x hx => nomatch hx) hfX hkX hcellA (by rw [hhp, hT]; exact Nat.le_refl _) (msg := .ref sa) rfl
    (g := { method := m, pc := pc + 7, locals := ls, stack := .ref sa :: .ref T.heap.size :: .ref T.heap.size :: rest, locked := none }) rfl hsize rfl rfl (rest := rest) rfl
    (by rw [hb]; exact d7) (by rw [hb]; exact d10) hout hRframes (by simp only [List.map_cons, List.sum_cons, hcat]; omega) hlocks
  obtain ⟨f1, f2⟩ := vx_frame hsame
  rw [hhp] at f1 f2
  have hWs : s.WarmedH U.vm := State.WarmedH.trans hW0 hW
  have hcl : s.vm.findClass cls = some ce.cls := by
    have h9 := hO.cls
    rw [hvm] at h9
    exact h9
  have hall : s.sameButNew ({ U with vm := s.vm } : State) locs mc ms := by
    subst hA
    obtain ⟨e1, e2⟩ := hsame
    rw [State.setFrames_setFrames] at e1
    have h2 : (T.setVm s.vm).sameButNew ({ U with vm := s.vm } : State) [] (0 + 1) (0 + 6) := ⟨e1, e2⟩
    have h3 := X.same.trans h2
    rw [List.append_nil] at h3
    exact h3.mono hc hs
  refine ⟨U, ?_, .threw T.heap.size, hrun, hend, Or.inr ⟨T.heap.size, rfl, cls, ce, locs, hx U hWs.alike f1 (fun q hq => f2 q hq (fun z hz => nomatch hz)), hce, hO.vm, hcl, hWs, hall, hf⟩⟩
  refine st1 _ ?_
  show Steps p.tables e below (T1.setTop { method := m, pc := pc + 3, locals := ls, stack := .ref T.heap.size :: rest, locked := none }) _
  jvm_step X₁.here [X₁.here.top, hexec, d3', Value.category]
  exact X₁.ldcStringW hexec (own := own) (text := text) (index := is) (a := sa) hown' hstr'.1 hstr'.2
    (g := { method := m, pc := pc + 4, locals := ls, stack := .ref T.heap.size :: .ref T.heap.size :: rest, locked := none }) rfl d4' _ hsteps
end Ends
section Bodies
variable {l : Launch}
theorem vx_ofW {y : MethodName} {ws ws' : List Cond} {rm : Room} {Pc : Array Value → State → Prop} {Qc : Array Value → State → Outcome → State → Prop} {XC : String → State → State → Prop} {mc ms : Nat} {free : Addr → Prop} {cc : ByteArray} {maxL : Nat} {ret : Option FieldType}
    (hy : plainName y.cls = true) (hw : ws = Cond.code y cc maxL ret :: ws')
    (body : ∀ p e s m args below meth c s₁, BodyLoose p l y (headSpec ws rm) cc maxL ret e s m args below meth c s₁ → c.maxLocals = maxL → (∀ x ∈ c.exceptionTable.toList, False) → Pc args s →
      W p l e (headSpec ws rm).room s m args below meth c s.heap [] 0 0 (vx_MQ below Qc XC args s mc ms free) (entryFrame m args maxL)) : vx_Met l y ws rm Pc Qc XC mc ms free := by
  refine MetFree.of_bodyS (code := cc) (maxLocals := maxL) (ret := ret) hy ?_ ?_
  · intro args s m h hn
    obtain ⟨meth, c, h1, h2, h3, h4, h5, h6, -, -⟩ := Cond.code_spec hn (atoms_spec (ws := ws) h _ (by rw [hw]; exact List.mem_cons_self))
    exact ⟨meth, c, h1, h2, h3, h4, h5, h6⟩
  · intro p e s m args below meth c s₁ B hml hP _
    have hh0 : s₁.heap = s.heap := by rw [B.state]; rfl
    have ht : ∀ x ∈ c.exceptionTable.toList, False := by
      obtain ⟨meth9, c9, h1, h2, -, -, -, -, h7, -⟩ := Cond.code_spec B.named (atoms_spec (ws := ws) B.pre _ (by rw [hw]; exact List.mem_cons_self))
      cases Option.some.inj (h1.symm.trans B.method)
      cases Option.some.inj (h2.symm.trans (Stand.of_body B).code)
      intro x hx
      rw [Array.isEmpty_iff.mp h7] at hx
      cases hx
    obtain ⟨t, a1, o, b1, b2, b3⟩ := body p e s m args below meth c s₁ B hml ht hP s₁ hh0 (Stand.of_body B)
    exact ⟨t, o, a1, b1, b2, b3⟩
/-- the table of a body with handlers -/
theorem vx_table {p : Program} {x y : MethodName} {S : Spec} {cc bytes : ByteArray} {maxL maxL' : Nat} {ret ret' : Option FieldType} {e : Env} {s s₁ : State} {m : MethodId} {args : Array Value} {below : List Frame} {meth : Method} {c : Code} {hh : List (Nat × Nat × Nat × Nat)}
    (B : BodyLoose p l y S cc maxL ret e s m args below meth c s₁) (h : (Cond.codeWith y bytes maxL' ret' hh).before args s = true) : c.exceptionTable.toList = tableOf hh := by
  obtain ⟨m9, meth9, c9, hn9, h1, h2, -, -, h6, -⟩ := Cond.codeWith_spec h
  cases Option.some.inj (hn9.symm.trans B.named)
  cases Option.some.inj (h1.symm.trans B.method)
  cases Option.some.inj (h2.symm.trans (Stand.of_body B).code)
  rw [← h6, table_eq]
end Bodies
end VXA
/-! ===== END ===== -/
/-! ===== BEGIN a static call of a method with an exception table ===== -/
section VXS
variable {p : Program} {l : Launch} {e : Env} {R : Room} {s : State} {m : MethodId} {args : Array Value} {below : List Frame} {meth : Method} {c : Code} {T : State} {H : Heap} {locs : List Loc} {cells slots : Nat}
abbrev vx_CSW (R : Room) (s : State) (args : Array Value) (own : String) (index : Nat) (y : MethodName) (bytes : ByteArray) (maxL : Nat) (ret : Option FieldType) (hh : List (Nat × Nat × Nat × Nat)) (ws : List Cond) (rm : Room) (mc ms n : Nat) : Prop :=
  (rm.cells = mc ∧ rm.slots = ms ∧ rm.frames + 1 ≤ R.frames ∧ 8 + (maxL + 11) + rm.locals ≤ R.locals ∧ (∀ w ∈ ws, ∀ (a' : Array Value) (U : State), s.WarmedH U.vm → w.before a' U = true) ∧ Cond.codeWith y bytes maxL ret hh ∈ ws) ∧
  (Cond.codeWith y bytes maxL ret hh).before args s = true ∧ (Cond.initialized y.cls).before args s = true ∧ (y.cls ≠ "java/lang/invoke/MethodHandle" ∧ y.cls ≠ "java/lang/invoke/VarHandle") ∧
  (∀ sig, parseMethodDescriptor y.desc = some sig → n = sig.parameters.length) ∧ (Cond.methodLink own index y).before args s = true ∧ (Cond.static y).before args s = true
theorem vx_cwSW {own : String} {index maxL mc ms : Nat} {y : MethodName} {bytes : ByteArray} {ret : Option FieldType} {hh : List (Nat × Nat × Nat × Nat)} {Ts ws ws' : List Cond} {rm : Room} (n : Nat) (ht : ∀ w ∈ Ts, w.before args s = true) (hT : GoodIn Ts (va_wsS own index y ws)) (hw : ws = Cond.codeWith y bytes maxL ret hh :: ws') (hrc : rm.cells = mc) (hrs : rm.slots = ms)
    (hd : y.cls ≠ "java/lang/invoke/MethodHandle" ∧ y.cls ≠ "java/lang/invoke/VarHandle" ∧ (parseMethodDescriptor y.desc).map (fun d => d.parameters.length) = some n) (hR : rm.frames + 1 ≤ R.frames ∧ 8 + (maxL + 11) + rm.locals ≤ R.locals) :
    vx_CSW R s args own index y bytes maxL ret hh ws rm mc ms n := by
  have ok : ∀ w ∈ va_wsS own index y ws, w.before args s = true := fun w h => ht w (hT w h).1
  have hG : GoodIn Ts ws := fun w h => hT w (by unfold va_wsS; exact List.mem_append_right _ h)
  have hc : Cond.codeWith y bytes maxL ret hh ∈ ws := by rw [hw]; exact List.mem_cons_self
  refine ⟨⟨hrc, hrs, hR.1, hR.2, pay_in ht hG, hc⟩, ht _ (hG _ hc).1, ok _ (by simp [va_wsS]), ⟨hd.1, hd.2.1⟩, fun sig h => ?_, ok _ (by simp [va_wsS]), ok _ (by simp [va_wsS])⟩
  have h2 := hd.2.2
  rw [h] at h2
  exact (Option.some.inj h2).symm
theorem vx_callSW (X : Stand p l e R s m args below meth c T locs cells slots) (hexec : p.tables.exec = Jvm.exec) {own : String} {index : Nat} {y : MethodName} {bytes : ByteArray} {maxL : Nat} {ret : Option FieldType} {hh : List (Nat × Nat × Nat × Nat)}
    (hown : s.vm.findClass own = some m.cls) (hlink : (Cond.methodLink own index y).before args s = true) (hstat : (Cond.static y).before args s = true) (hinit : (Cond.initialized y.cls).before args s = true)
    (hcode : (Cond.codeWith y bytes maxL ret hh).before args s = true) (hy : y.cls ≠ "java/lang/invoke/MethodHandle" ∧ y.cls ≠ "java/lang/invoke/VarHandle")
    {W9 : Nat} {Pre : Pt → Array Value → Prop} {Post : Pt → Array Value → Option Value → Pt → Prop} (hK : Back l R p e below s args y 3 W9 Pre Post)
    {g : JFrame} (hg : g.method = m) (hsize : g.locals.size = c.maxLocals) {argsL rest : List Value} (hlen : ∀ sig, parseMethodDescriptor y.desc = some sig → argsL.length = sig.parameters.length)
    (hstack : g.stack = argsL.reverse ++ rest) (hW : 2 * g.monitorRoom + (rest.map fun v => v.category).sum ≤ W9) (hdg : decode c.code g.pc = .ok (.invokestatic index, 3))
    (hpre : ∀ vm₁, s.WarmedH vm₁ → Pre ⟨T.setVm vm₁, locs, cells, slots⟩ argsL.toArray) :
    ∃ (v : Option Value) (vm₁ : Vm) (B : Pt), s.WarmedH vm₁ ∧ Stand p l e R s m args below meth c B.U B.locs B.cells B.slots ∧ Post ⟨T.setVm vm₁, locs, cells, slots⟩ argsL.toArray v B ∧
      ∀ target, Steps p.tables e below (B.U.setTop { g with pc := g.pc + 3, stack := v.toList ++ rest }) target → Steps p.tables e below (T.setTop g) target := by
  obtain ⟨mk, methM, cM, hnamed, hmethM, -, -, -, -, -, -, hsigM⟩ := Cond.codeWith_spec hcode
  have hstatic : methM.isStatic = true := Cond.static_spec hnamed hmethM hstat
  obtain ⟨kP, hkP, -⟩ := className_of_methodNamed hnamed
  have hinitP : kP.init = .initialized := Cond.initialized_spec (findClass_of_methodNamed hnamed) hkP hinit
  obtain ⟨vm₁, X₁, hstep₁⟩ := X.invokestatic hexec hown hlink hnamed hmethM hstatic hkP hinitP hy (g := g) hg (argsL := argsL) (rest := rest) (hlen _ hsigM) hstack hdg
  obtain ⟨v, B, X', hpost, hsteps⟩ := hK m meth c ⟨T.setVm vm₁, locs, cells, slots⟩ { g with stack := rest } (.invokestatic index) mk argsL.toArray X₁ hg hsize hdg hW (X₁.named hnamed) (hpre vm₁ X₁.warmed)
  exact ⟨v, vm₁, B, X₁.warmed, X', hpost, fun target h => hstep₁ _ fun acts => by rw [doInvoke_state]; exact hsteps.trans h⟩
theorem vx_runSW {y : MethodName} {bytes cc : ByteArray} {maxL nL mc ms n index : Nat} {ret : Option FieldType} {hh : List (Nat × Nat × Nat × Nat)} {ws : List Cond} {rm : Room} {Pc : Array Value → State → Prop} {Qc : Array Value → State → Outcome → State → Prop} {free : Addr → Prop} {Ts : List Cond} {own : String} {As rest : List Value} {g : JFrame}
    (S : CallFix p m c cc nL s args Ts own) (hM : Met l y ws rm Pc Qc mc ms free) (cw : vx_CSW R s args own index y bytes maxL ret hh ws rm mc ms n) (hp : PreS s H Pc As)
    (hg : g.method = m) (hn : As.length = n) (hsize : g.locals.size = nL) (hstack : g.stack = As.reverse ++ rest) (hW : 2 * g.monitorRoom + (rest.map fun v => v.category).sum ≤ 8) (hdg : decode cc g.pc = .ok (.invokestatic index, 3)) (hf : cells + mc ≤ R.cells ∧ slots + ms ≤ R.slots) :
    va_Run p l e R s m args below meth c H locs cells slots mc ms g rest (Qc As.toArray) (free) := by
  obtain ⟨⟨hrc, hrs, hfr, hlo, hws, hcw⟩, hcode, hini, hy, hlen, hl, hstt⟩ := cw
  have hK : Back l R p e below s args y 3 8 (PreOf R mc ms Pc) (PostOf Qc mc ms free) := va_backW (hh := hh) (bytes := bytes) (maxL := maxL) (ret := ret) hM hp.1 hrc hrs hfr hlo hws hcw (fun a' U hW => word_at hW (Or.inl (by first | rfl | simp [Cond.onTables, Cond.keeps, Cond.steady])) hini)
  obtain ⟨hx, hb, hml, ho, -⟩ := S
  intro T hT X
  obtain ⟨v, vm₁, ⟨U', l2, c2, s2⟩, hW₁, X', ⟨g', mk, t, L, e1, e2, hq, h1, hL, h2, h3⟩, st⟩ := vx_callSW X hx (hh := hh) (bytes := bytes) (maxL := maxL) (ret := ret) ho hl hstt hini hcode hy hK hg (hsize.trans hml.symm) (argsL := As) (rest := rest) (fun sig h => hn.trans (hlen sig h)) hstack hW (by rw [hb]; exact hdg)
    (fun vm₁ hW₁ => ⟨hf.1, hf.2, hp.2 (T.setVm vm₁) hT hW₁⟩)
  dsimp only [Pt.U, Pt.locs, Pt.cells, Pt.slots] at X' e1 e2 h1 h2 h3 st
  subst h1; subst h2; subst h3
  exact ⟨v, (T.setVm vm₁).calling g' mk As.toArray, t, U', L, hT, X', hL, e1, e2, hq, st⟩
/-- not caught here, past rows that name other classes: it goes on to the caller -/
theorem vx_outP {p : Program} {l : Launch} {e : Env} {R : Room} {s : State} {m : MethodId} {args : Array Value} {below : List Frame} {meth : Method} {c : Code} {H : Heap} {locs : List Loc} {cells slots : Nat} {free : Addr → Prop} {ls : Array Slot} {rest : List Value} {Qc : Array Value → State → Outcome → State → Prop} {XC : String → State → State → Prop}
    {pc : Nat} {own E : String} {ce : Cell} {q : Addr} {mc ms : Nat} (hown : s.vm.findClass own = some m.cls) (hlocks : meth.locks = false)
    (hpass : ∀ z ∈ c.exceptionTable.toList, covers z pc = false ∨ (z.catchType ≠ 0 ∧ ∃ nm : String, (Cond.classLink own z.catchType nm).before args s = true ∧ va_Nc E nm s)) (hcell : H[q]? = some ce) (hv : ce.vm = .none) (hcl : s.vm.findClass E = some ce.cls)
    (hx : ∀ t : State, t.heap = H → s.vm.Alike t.vm → XC E s t) (hf : ∀ z ∈ locs, free z.base) (hc : cells ≤ mc) (hs : slots ≤ ms) :
    vx_W p l e R s m args below meth c H locs cells slots (vx_MQ below Qc XC args s mc ms free) (F0 m pc ls rest) q := by
  intro T hT X
  have hpl : e.platform.magicAccessors = ({} : Platform).magicAccessors := by rw [X.admits.platform]
  obtain ⟨vm', hW', X', st⟩ := X.outThrough hlocks q (g := F0 m pc ls rest) rfl rfl rfl (cell := ce) (by rw [hT]; exact hcell) (by rw [hv]; rfl)
    (by obtain ⟨k9, h9, -⟩ := Vm.findClass_spec hcl; exact ⟨k9, h9⟩) (fun z hz => by
      rcases hpass z hz with h | ⟨hz0, nm, hl1, hn1⟩
      · exact Or.inl h
      · obtain ⟨c6, hc6, hcl6⟩ := Cond.classLink_spec hown hl1 e.platform hpl
        obtain ⟨a8, b8, h1, h2, h3⟩ := hn1
        cases Option.some.inj (h1.symm.trans hcl)
        cases Option.some.inj (h2.symm.trans hc6)
        exact Or.inr ⟨hz0, _, hcl6, h3⟩)
  obtain ⟨g₀, hfr⟩ := X'.frames_eq
  have hcell9 : ((T.setVm vm').setFrames (.throwing q :: below)).heap[q]? = some ce := by
    show T.heap[q]? = some ce
    rw [hT]; exact hcell
  have hend : Ended ((T.setVm vm').setFrames (.throwing q :: below)) below (.threw q) := State.frames_setFrames _ (State.cur_lt_of_frames hfr)
  refine ⟨(T.setVm vm').setFrames (.throwing q :: below), ?_, .threw q, X'.here.running, hend, Or.inr ⟨q, rfl, E, ce, locs, hx _ hT (X'.ends _).1.alike, hcell9, hv, hcl, (X'.ends _).1, (X'.ends _).2.mono hc hs, hf⟩⟩
  rw [X.pushThrowing_eq]
  exact st
/-- a thing of a world lies in the heap -/
theorem vx_lt {D : va_G} {cl : List vw_C} {ws : va_W} {H1 : Heap} (h : va_P D cl ws H1) {k : Nat} {q : Nat × va_E} (hk : ws[k]? = some q) : q.1 < H1.size := (h k q hk).lt
end VXS
/-! ===== END ===== -/
/-! ===== BEGIN methods with a table of their own: called by a name, returning or throwing ===== -/
section VXH
/-! vx_backW, vx_callVX, vx_callSX, vx_callVW, vx_runVW, vx_runVX, vx_runSX, vx_ofWH follow the same proofs as their sisters above (Free/Laws.lean, Shelf42/LK1.lean); vx_outP calls Shelf42/NT130.lean (outThrough). -/
section
variable {l : Launch} {R : Room} {p : Program} {e : Env} {below : List Frame} {s : State} {sargs : Array Value} {y : MethodName} {len W9 : Nat}
theorem vx_backW {ws : List Cond} {rm : Room} {Pc : Array Value → State → Prop} {Qc : Array Value → State → Outcome → State → Prop} {XC : String → State → State → Prop} {mc ms : Nat} {free : Addr → Prop} {bytes : ByteArray} {maxL : Nat} {ret : Option FieldType} {hh : List (Nat × Nat × Nat × Nat)}
    (hM : vx_Met l y ws rm Pc Qc XC mc ms free) (hblind : FrameBlind Pc) (hrc : rm.cells = mc) (hrs : rm.slots = ms)
    (hframes : rm.frames + 1 ≤ R.frames) (hlocals : W9 + (maxL + 11) + rm.locals ≤ R.locals)
    (hws : ∀ w ∈ ws, ∀ a' U, s.WarmedH U.vm → w.before a' U = true) (hcode : Cond.codeWith y bytes maxL ret hh ∈ ws) (hinit : ∀ a' U, s.WarmedH U.vm → (Cond.initialized y.cls).before a' U = true) :
    vx_Back l R p e below s sargs y len W9 (PreOf R mc ms Pc) (PostOf Qc mc ms free) (vx_Post XC mc ms free) := by
  intro m meth c A g ig mk a X hg hsize hdg hW hn hp
  have h1 : (headSpec ws rm).pre.before a A.U = true := atoms_intro fun w hw => hws w hw _ _ X.warmed
  have h2 : (Cond.codeWith y bytes maxL ret hh).before a A.U = true := hws _ hcode _ _ X.warmed
  have h3 : (Cond.initialized y.cls).before a A.U = true := hinit _ _ X.warmed
  have h4 : A.cells + (headSpec ws rm).room.cells ≤ R.cells := by rw [show (headSpec ws rm).room.cells = mc from hrc]; exact hp.1
  have h5 : A.slots + (headSpec ws rm).room.slots ≤ R.slots := by rw [show (headSpec ws rm).room.slots = ms from hrs]; exact hp.2.1
  have hPc : Pc a (A.U.calling g mk a) := hblind _ _ _ _ hp.2.2
  obtain ⟨U, Ls, c0, s0⟩ := A
  dsimp only [Pt.U, Pt.locs, Pt.cells, Pt.slots] at h1 h2 h3 h4 h5 X hn hPc ⊢
  obtain ⟨m9, methY, cY, hn9, hmY, hcY, -, hlY, -⟩ := Cond.codeWith_spec h2
  cases Option.some.inj (hn9.symm.trans hn)
  obtain ⟨kY, hkY, -⟩ := className_of_methodNamed hn
  have hinitY : kY.init = .initialized := Cond.initialized_spec (findClass_of_methodNamed hn) hkY h3
  have h : At U g.method c below := by rw [hg]; exact X.here
  have hlocals9 : W9 + (maxL + 11) + (headSpec ws rm).room.locals ≤ R.locals := hlocals
  have happ : (headSpec ws rm).appliesLoose y e.platform (U.calling g mk a) = true :=
    Spec.appliesLoose_calling (g := g) h hdg hn hkY hinitY
      (X.room_calling (g := g) (R' := (headSpec ws rm).room) hsize hmY hcY hframes (by rw [hlY]; omega) h4 h5) h1
  obtain ⟨mid, hmid⟩ := h.above
  have hfr : (U.setTop g).frames = (.java g :: mid) ++ below := by rw [State.frames_setTop' g h.top, hmid]; rfl
  obtain ⟨o, s₂, hsteps, -, hend, hq⟩ := Steps.callFree hM p X.admits X.cas X.clock (acts := []) hfr happ hPc trivial
  have hq' : vx_Q Qc XC mc ms free a (U.calling g mk a) o s₂ := hq
  rw [State.frames_setTop' g h.top] at hend
  obtain ⟨g₀, hg0⟩ := Option.isSome_iff_exists.mp h.top
  obtain ⟨r, hr⟩ := State.topJava?_eq_some.mp hg0
  have hr' : (({ U with heap := s₂.heap, slotsUsed := s₂.slotsUsed } : State).setVm s₂.vm).frames = .java g₀ :: r := hr
  rcases hq' with ⟨hqc, L, hfe, hL⟩ | ⟨q, rfl, E, ce, L, hx, hce, hcv, hcl, hW₂, hsm, hL⟩
  · obtain ⟨⟨v, rfl⟩, hW₂, e2, q2, q3, q4, q5, q6⟩ := id hfe
    have e3 : s₂ = ({ (U.calling g mk a).setFrames s₂.frames with heap := s₂.heap, slotsUsed := s₂.slotsUsed } : State).setVm s₂.vm := by
      have : s₂ = ({ s₂ with vm := (U.calling g mk a).vm } : State).setVm s₂.vm := rfl
      rw [e2] at this
      exact this
    obtain ⟨c₂, i₂, len₂, hc₂, hd₂, hf₂⟩ := hend
    have hW' : U.WarmedH s₂.vm := hW₂
    have hcc : c₂ = c := by
      have h1 : s₂.code? g.method = U.code? g.method := by
        rw [State.code?_eq, State.code?_eq, hW'.alike.method?]
      exact Option.some.inj (hc₂.symm.trans (h1.trans h.code))
    subst hcc
    have hlen : len₂ = len := by rw [hdg] at hd₂; cases hd₂; rfl
    subst hlen
    have hs₂ : s₂ = (({ U with heap := s₂.heap, slotsUsed := s₂.slotsUsed } : State).setVm s₂.vm).setTop { g with pc := g.pc + len₂, stack := v.toList ++ g.stack } := by
      refine e3.trans ?_
      rw [hf₂, State.calling_eq h.top, State.setFrames_setFrames, State.setTop_of_frames _ hr', hr]
      rfl
    have hsame : U.sameButNew ({ U with heap := s₂.heap, slotsUsed := s₂.slotsUsed } : State) L mc ms := by
      refine ⟨?_, q2, q3, q4, q5, q6⟩
      obtain ⟨t, ht, -⟩ := State.frames_cons hr
      show ({ U with heap := s₂.heap, slotsUsed := s₂.slotsUsed } : State) = { U.setFrames U.frames with heap := s₂.heap, slotsUsed := s₂.slotsUsed }
      rw [State.setFrames_self ht]
    subst hg
    refine Or.inl ⟨v, ⟨(({ U with heap := s₂.heap, slotsUsed := s₂.slotsUsed } : State).setVm s₂.vm), Ls ++ L, c0 + mc, s0 + ms⟩,
      ⟨X.admits, X.cas, X.clock, X.frames, X.room, X.hears, X.method, X.code, (X.here.setHeapUsed s₂.heap s₂.slotsUsed).setVm hW'.alike, X.tail, State.WarmedH.trans X.warmed hW', X.limits, X.bytes, X.same.trans (hsame.setVm s.vm)⟩,
      ⟨g, mk, s₂, L, rfl, rfl, hqc, rfl, hL, rfl, rfl⟩, ?_⟩
    show Steps p.tables e below _ ((({ U with heap := s₂.heap, slotsUsed := s₂.slotsUsed } : State).setVm s₂.vm).setTop { g with pc := g.pc + len₂, stack := v.toList ++ g.stack })
    rw [← hs₂]
    exact hsteps
  · obtain ⟨e2, q2, q3, q4, q5, q6⟩ := id hsm
    have e3 : s₂ = ({ (U.calling g mk a).setFrames s₂.frames with heap := s₂.heap, slotsUsed := s₂.slotsUsed } : State).setVm s₂.vm := by
      have : s₂ = ({ s₂ with vm := (U.calling g mk a).vm } : State).setVm s₂.vm := rfl
      rw [e2] at this
      exact this
    have hf₂ : s₂.frames = .throwing q :: .java g :: U.frames.tail := hend
    have hW' : U.WarmedH s₂.vm := hW₂
    have hs₂ : s₂ = ((({ U with heap := s₂.heap, slotsUsed := s₂.slotsUsed } : State).setVm s₂.vm).setTop g).pushFrame (.throwing q) := by
      refine e3.trans ?_
      rw [hf₂, State.calling_eq h.top, State.setFrames_setFrames, State.pushFrame, State.frames_setTop _ hr', State.setTop_of_frames _ hr', State.setFrames_setFrames, hr]
      rfl
    have hsame : U.sameButNew ({ U with heap := s₂.heap, slotsUsed := s₂.slotsUsed } : State) L mc ms := by
      refine ⟨?_, q2, q3, q4, q5, q6⟩
      obtain ⟨t, ht, -⟩ := State.frames_cons hr
      show ({ U with heap := s₂.heap, slotsUsed := s₂.slotsUsed } : State) = { U.setFrames U.frames with heap := s₂.heap, slotsUsed := s₂.slotsUsed }
      rw [State.setFrames_self ht]
    subst hg
    refine Or.inr ⟨q, ⟨(({ U with heap := s₂.heap, slotsUsed := s₂.slotsUsed } : State).setVm s₂.vm), Ls ++ L, c0 + mc, s0 + ms⟩,
      ⟨X.admits, X.cas, X.clock, X.frames, X.room, X.hears, X.method, X.code, (X.here.setHeapUsed s₂.heap s₂.slotsUsed).setVm hW'.alike, X.tail, State.WarmedH.trans X.warmed hW', X.limits, X.bytes, X.same.trans (hsame.setVm s.vm)⟩,
      ⟨g, mk, s₂, L, E, ce, rfl, rfl, hx, hce, hcv, hcl, rfl, hL, rfl, rfl⟩, ?_⟩
    show Steps p.tables e below _ (((({ U with heap := s₂.heap, slotsUsed := s₂.slotsUsed } : State).setVm s₂.vm).setTop g).pushFrame (.throwing q))
    rw [← hs₂]
    exact hsteps
end
variable {p : Program} {l : Launch} {e : Env} {R : Room} {s : State} {m : MethodId} {args : Array Value} {below : List Frame} {meth : Method} {c : Code} {T : State} {H : Heap} {locs : List Loc} {cells slots : Nat}
theorem vx_callVX (X : Stand p l e R s m args below meth c T locs cells slots) (hexec : p.tables.exec = Jvm.exec) {own C : String} {index : Nat} {y : MethodName} {bytes : ByteArray} {maxL : Nat} {ret : Option FieldType} {hh : List (Nat × Nat × Nat × Nat)}
    (hown : s.vm.findClass own = some m.cls) (hlink : (Cond.methodLink own index y).before args s = true) (hinst : (Cond.instanceMethod y).before args s = true) (hsel : (Cond.selects C y y).before args s = true)
    (hcode : (Cond.codeWith y bytes maxL ret hh).before args s = true) (hy : y.cls ≠ "java/lang/invoke/MethodHandle" ∧ y.cls ≠ "java/lang/invoke/VarHandle")
    {W9 : Nat} {Pre : Pt → Array Value → Prop} {Post : Pt → Array Value → Option Value → Pt → Prop} {PostX : Pt → Array Value → Addr → Pt → Prop} (hK : vx_Back l R p e below s args y 3 W9 Pre Post PostX)
    {b : Addr} {cellB : Cell} (hcell : T.heap[b]? = some cellB) (hobj : cellB.vm.isStatics = false) (hcls : s.vm.findClass C = some cellB.cls)
    {g : JFrame} (hg : g.method = m) (hsize : g.locals.size = c.maxLocals) {argsL rest : List Value} (hlen : ∀ sig, parseMethodDescriptor y.desc = some sig → argsL.length = sig.parameters.length)
    (hstack : g.stack = argsL.reverse ++ .ref b :: rest) (hW : 2 * g.monitorRoom + (rest.map fun v => v.category).sum ≤ W9) (hdg : decode c.code g.pc = .ok (.invokevirtual index, 3))
    (hpre : ∀ vm₁, s.WarmedH vm₁ → Pre ⟨T.setVm vm₁, locs, cells, slots⟩ (Value.ref b :: argsL).toArray) :
    (∃ (v : Option Value) (vm₁ : Vm) (B : Pt), s.WarmedH vm₁ ∧ Stand p l e R s m args below meth c B.U B.locs B.cells B.slots ∧ Post ⟨T.setVm vm₁, locs, cells, slots⟩ (Value.ref b :: argsL).toArray v B ∧
      ∀ target, Steps p.tables e below (B.U.setTop { g with pc := g.pc + 3, stack := v.toList ++ rest }) target → Steps p.tables e below (T.setTop g) target) ∨
    (∃ (q : Addr) (vm₁ : Vm) (B : Pt), s.WarmedH vm₁ ∧ Stand p l e R s m args below meth c B.U B.locs B.cells B.slots ∧ PostX ⟨T.setVm vm₁, locs, cells, slots⟩ (Value.ref b :: argsL).toArray q B ∧
      Steps p.tables e below (T.setTop g) ((B.U.setTop { g with stack := rest }).pushFrame (.throwing q))) := by
  obtain ⟨mk, methM, hnamed, hmethM, hstM, habM⟩ := Cond.instanceMethod_spec hinst
  obtain ⟨m8, methM', cM, hn8, hmethM', -, -, -, -, -, -, hsigM⟩ := Cond.codeWith_spec hcode
  cases Option.some.inj (hn8.symm.trans hnamed)
  cases hmethM.symm.trans hmethM'
  obtain ⟨c2, r2, m2, q1, q2, q3, q4, kP, hkP, hkPi⟩ := Cond.selects_spec hsel
  cases hcls.symm.trans q1
  cases (State.methodFound?_of_named hnamed hy).symm.trans q2
  cases hnamed.symm.trans q3
  have hselP : selectMethod e.platform s.vm cellB.cls mk = .method mk := by rw [Launch.admits_selectMethod X.admits]; exact q4
  obtain ⟨vm₁, X₁, hstep₁⟩ := X.invokevirtual hexec hown hlink hnamed hmethM hstM hkP hkPi hy (a := b) (cell := cellB) hcell
    (fun z h => by rw [h] at hobj; cases hobj) hselP hmethM habM hkP hkPi (g := g) hg (argsL := argsL) (rest := rest) (hlen _ hsigM) hstack hdg
  rcases hK m meth c ⟨T.setVm vm₁, locs, cells, slots⟩ { g with stack := rest } (.invokevirtual index) mk (Value.ref b :: argsL).toArray X₁ hg hsize hdg hW (X₁.named hnamed) (hpre vm₁ X₁.warmed) with ⟨v, B, X', hpost, hsteps⟩ | ⟨q, B, X', hpost, hsteps⟩
  · exact Or.inl ⟨v, vm₁, B, X₁.warmed, X', hpost, fun target h => hstep₁ _ fun acts => by rw [doInvoke_state]; exact hsteps.trans h⟩
  · exact Or.inr ⟨q, vm₁, B, X₁.warmed, X', hpost, hstep₁ _ fun acts => by rw [doInvoke_state]; exact hsteps⟩
theorem vx_callSX (X : Stand p l e R s m args below meth c T locs cells slots) (hexec : p.tables.exec = Jvm.exec) {own : String} {index : Nat} {y : MethodName} {bytes : ByteArray} {maxL : Nat} {ret : Option FieldType} {hh : List (Nat × Nat × Nat × Nat)}
    (hown : s.vm.findClass own = some m.cls) (hlink : (Cond.methodLink own index y).before args s = true) (hstat : (Cond.static y).before args s = true) (hinit : (Cond.initialized y.cls).before args s = true)
    (hcode : (Cond.codeWith y bytes maxL ret hh).before args s = true) (hy : y.cls ≠ "java/lang/invoke/MethodHandle" ∧ y.cls ≠ "java/lang/invoke/VarHandle")
    {W9 : Nat} {Pre : Pt → Array Value → Prop} {Post : Pt → Array Value → Option Value → Pt → Prop} {PostX : Pt → Array Value → Addr → Pt → Prop} (hK : vx_Back l R p e below s args y 3 W9 Pre Post PostX)
    {g : JFrame} (hg : g.method = m) (hsize : g.locals.size = c.maxLocals) {argsL rest : List Value} (hlen : ∀ sig, parseMethodDescriptor y.desc = some sig → argsL.length = sig.parameters.length)
    (hstack : g.stack = argsL.reverse ++ rest) (hW : 2 * g.monitorRoom + (rest.map fun v => v.category).sum ≤ W9) (hdg : decode c.code g.pc = .ok (.invokestatic index, 3))
    (hpre : ∀ vm₁, s.WarmedH vm₁ → Pre ⟨T.setVm vm₁, locs, cells, slots⟩ argsL.toArray) :
    (∃ (v : Option Value) (vm₁ : Vm) (B : Pt), s.WarmedH vm₁ ∧ Stand p l e R s m args below meth c B.U B.locs B.cells B.slots ∧ Post ⟨T.setVm vm₁, locs, cells, slots⟩ argsL.toArray v B ∧
      ∀ target, Steps p.tables e below (B.U.setTop { g with pc := g.pc + 3, stack := v.toList ++ rest }) target → Steps p.tables e below (T.setTop g) target) ∨
    (∃ (q : Addr) (vm₁ : Vm) (B : Pt), s.WarmedH vm₁ ∧ Stand p l e R s m args below meth c B.U B.locs B.cells B.slots ∧ PostX ⟨T.setVm vm₁, locs, cells, slots⟩ argsL.toArray q B ∧
      Steps p.tables e below (T.setTop g) ((B.U.setTop { g with stack := rest }).pushFrame (.throwing q))) := by
  obtain ⟨mk, methM, cM, hnamed, hmethM, -, -, -, -, -, -, hsigM⟩ := Cond.codeWith_spec hcode
  have hstatic : methM.isStatic = true := Cond.static_spec hnamed hmethM hstat
  obtain ⟨kP, hkP, -⟩ := className_of_methodNamed hnamed
  have hinitP : kP.init = .initialized := Cond.initialized_spec (findClass_of_methodNamed hnamed) hkP hinit
  obtain ⟨vm₁, X₁, hstep₁⟩ := X.invokestatic hexec hown hlink hnamed hmethM hstatic hkP hinitP hy (g := g) hg (argsL := argsL) (rest := rest) (hlen _ hsigM) hstack hdg
  rcases hK m meth c ⟨T.setVm vm₁, locs, cells, slots⟩ { g with stack := rest } (.invokestatic index) mk argsL.toArray X₁ hg hsize hdg hW (X₁.named hnamed) (hpre vm₁ X₁.warmed) with ⟨v, B, X', hpost, hsteps⟩ | ⟨q, B, X', hpost, hsteps⟩
  · exact Or.inl ⟨v, vm₁, B, X₁.warmed, X', hpost, fun target h => hstep₁ _ fun acts => by rw [doInvoke_state]; exact hsteps.trans h⟩
  · exact Or.inr ⟨q, vm₁, B, X₁.warmed, X', hpost, hstep₁ _ fun acts => by rw [doInvoke_state]; exact hsteps⟩
theorem vx_callVW (X : Stand p l e R s m args below meth c T locs cells slots) (hexec : p.tables.exec = Jvm.exec) {own C : String} {index : Nat} {y : MethodName} {bytes : ByteArray} {maxL : Nat} {ret : Option FieldType} {hh : List (Nat × Nat × Nat × Nat)}
    (hown : s.vm.findClass own = some m.cls) (hlink : (Cond.methodLink own index y).before args s = true) (hinst : (Cond.instanceMethod y).before args s = true) (hsel : (Cond.selects C y y).before args s = true)
    (hcode : (Cond.codeWith y bytes maxL ret hh).before args s = true) (hy : y.cls ≠ "java/lang/invoke/MethodHandle" ∧ y.cls ≠ "java/lang/invoke/VarHandle")
    {W9 : Nat} {Pre : Pt → Array Value → Prop} {Post : Pt → Array Value → Option Value → Pt → Prop} (hK : Back l R p e below s args y 3 W9 Pre Post)
    {b : Addr} {cellB : Cell} (hcell : T.heap[b]? = some cellB) (hobj : cellB.vm.isStatics = false) (hcls : s.vm.findClass C = some cellB.cls)
    {g : JFrame} (hg : g.method = m) (hsize : g.locals.size = c.maxLocals) {argsL rest : List Value} (hlen : ∀ sig, parseMethodDescriptor y.desc = some sig → argsL.length = sig.parameters.length)
    (hstack : g.stack = argsL.reverse ++ .ref b :: rest) (hW : 2 * g.monitorRoom + (rest.map fun v => v.category).sum ≤ W9) (hdg : decode c.code g.pc = .ok (.invokevirtual index, 3))
    (hpre : ∀ vm₁, s.WarmedH vm₁ → Pre ⟨T.setVm vm₁, locs, cells, slots⟩ (Value.ref b :: argsL).toArray) :
    ∃ (v : Option Value) (vm₁ : Vm) (B : Pt), s.WarmedH vm₁ ∧ Stand p l e R s m args below meth c B.U B.locs B.cells B.slots ∧ Post ⟨T.setVm vm₁, locs, cells, slots⟩ (Value.ref b :: argsL).toArray v B ∧
      ∀ target, Steps p.tables e below (B.U.setTop { g with pc := g.pc + 3, stack := v.toList ++ rest }) target → Steps p.tables e below (T.setTop g) target := by
  obtain ⟨mk, methM, hnamed, hmethM, hstM, habM⟩ := Cond.instanceMethod_spec hinst
  obtain ⟨m8, methM', cM, hn8, hmethM', -, -, -, -, -, -, hsigM⟩ := Cond.codeWith_spec hcode
  cases Option.some.inj (hn8.symm.trans hnamed)
  cases hmethM.symm.trans hmethM'
  obtain ⟨c2, r2, m2, q1, q2, q3, q4, kP, hkP, hkPi⟩ := Cond.selects_spec hsel
  cases hcls.symm.trans q1
  cases (State.methodFound?_of_named hnamed hy).symm.trans q2
  cases hnamed.symm.trans q3
  have hselP : selectMethod e.platform s.vm cellB.cls mk = .method mk := by rw [Launch.admits_selectMethod X.admits]; exact q4
  obtain ⟨vm₁, X₁, hstep₁⟩ := X.invokevirtual hexec hown hlink hnamed hmethM hstM hkP hkPi hy (a := b) (cell := cellB) hcell
    (fun z h => by rw [h] at hobj; cases hobj) hselP hmethM habM hkP hkPi (g := g) hg (argsL := argsL) (rest := rest) (hlen _ hsigM) hstack hdg
  obtain ⟨v, B, X', hpost, hsteps⟩ := hK m meth c ⟨T.setVm vm₁, locs, cells, slots⟩ { g with stack := rest } (.invokevirtual index) mk (Value.ref b :: argsL).toArray X₁ hg hsize hdg hW (X₁.named hnamed) (hpre vm₁ X₁.warmed)
  exact ⟨v, vm₁, B, X₁.warmed, X', hpost, fun target h => hstep₁ _ fun acts => by rw [doInvoke_state]; exact hsteps.trans h⟩
abbrev vx_CVW (R : Room) (s : State) (args : Array Value) (own C : String) (index : Nat) (y : MethodName) (bytes : ByteArray) (maxL : Nat) (ret : Option FieldType) (hh : List (Nat × Nat × Nat × Nat)) (ws : List Cond) (rm : Room) (mc ms n : Nat) : Prop :=
  (rm.cells = mc ∧ rm.slots = ms ∧ rm.frames + 1 ≤ R.frames ∧ 8 + (maxL + 11) + rm.locals ≤ R.locals ∧ (∀ w ∈ ws, ∀ (a' : Array Value) (U : State), s.WarmedH U.vm → w.before a' U = true) ∧ Cond.codeWith y bytes maxL ret hh ∈ ws) ∧
  (Cond.codeWith y bytes maxL ret hh).before args s = true ∧ (Cond.initialized y.cls).before args s = true ∧ (y.cls ≠ "java/lang/invoke/MethodHandle" ∧ y.cls ≠ "java/lang/invoke/VarHandle") ∧
  (∀ sig, parseMethodDescriptor y.desc = some sig → n = sig.parameters.length) ∧ (Cond.methodLink own index y).before args s = true ∧ (Cond.instanceMethod y).before args s = true ∧ (Cond.selects C y y).before args s = true
theorem vx_cwVW {own C : String} {index maxL mc ms : Nat} {y : MethodName} {bytes : ByteArray} {ret : Option FieldType} {hh : List (Nat × Nat × Nat × Nat)} {Ts ws ws' : List Cond} {rm : Room} (n : Nat) (ht : ∀ w ∈ Ts, w.before args s = true) (hT : GoodIn Ts (wsV own index C y ws)) (hw : ws = Cond.codeWith y bytes maxL ret hh :: ws') (hrc : rm.cells = mc) (hrs : rm.slots = ms)
    (hd : y.cls = C ∧ y.cls ≠ "java/lang/invoke/MethodHandle" ∧ y.cls ≠ "java/lang/invoke/VarHandle" ∧ (parseMethodDescriptor y.desc).map (fun d => d.parameters.length) = some n) (hR : rm.frames + 1 ≤ R.frames ∧ 8 + (maxL + 11) + rm.locals ≤ R.locals) :
    vx_CVW R s args own C index y bytes maxL ret hh ws rm mc ms n := by
  obtain ⟨hC, hd⟩ := hd
  subst hC
  have ok : ∀ w ∈ wsV own index y.cls y ws, w.before args s = true := fun w h => ht w (hT w h).1
  have hG : GoodIn Ts ws := fun w h => hT w (by unfold wsV; exact List.mem_append_right _ h)
  have hc : Cond.codeWith y bytes maxL ret hh ∈ ws := by rw [hw]; exact List.mem_cons_self
  refine ⟨⟨hrc, hrs, hR.1, hR.2, pay_in ht hG, hc⟩, ht _ (hG _ hc).1, ok _ (by simp [wsV]), ⟨hd.1, hd.2.1⟩, fun sig h => ?_, ok _ (by simp [wsV]), ok _ (by simp [wsV]), ok _ (by simp [wsV])⟩
  have h2 := hd.2.2
  rw [h] at h2
  exact (Option.some.inj h2).symm
theorem vx_runVW {y : MethodName} {bytes cc : ByteArray} {maxL nL mc ms n index : Nat} {ret : Option FieldType} {hh : List (Nat × Nat × Nat × Nat)} {ws : List Cond} {rm : Room} {Pc : Array Value → State → Prop} {Qc : Array Value → State → Outcome → State → Prop} {free : Addr → Prop} {Ts : List Cond} {own C : String} {b : Addr} {As rest : List Value} {g : JFrame}
    (S : CallFix p m c cc nL s args Ts own) (hM : Met l y ws rm Pc Qc mc ms free) (cw : vx_CVW R s args own C index y bytes maxL ret hh ws rm mc ms n) (hp : PreV s H C b Pc As)
    (hg : g.method = m) (hn : As.length = n) (hsize : g.locals.size = nL) (hstack : g.stack = As.reverse ++ .ref b :: rest) (hW : 2 * g.monitorRoom + (rest.map fun v => v.category).sum ≤ 8) (hdg : decode cc g.pc = .ok (.invokevirtual index, 3)) (hf : cells + mc ≤ R.cells ∧ slots + ms ≤ R.slots) :
    va_Run p l e R s m args below meth c H locs cells slots mc ms g rest (Qc (Value.ref b :: As).toArray) free := by
  obtain ⟨⟨hrc, hrs, hfr, hlo, hws, hcw⟩, hcode, hini, hy, hlen, hl, hin, hse⟩ := cw
  have hK : Back l R p e below s args y 3 8 (PreOf R mc ms Pc) (PostOf Qc mc ms free) := va_backW (hh := hh) (bytes := bytes) (maxL := maxL) (ret := ret) hM hp.1 hrc hrs hfr hlo hws hcw (fun a' U hW => word_at hW (Or.inl (by first | rfl | simp [Cond.onTables, Cond.keeps, Cond.steady])) hini)
  obtain ⟨hx, hb, hml, ho, -⟩ := S
  obtain ⟨-, ⟨cellB, hcB, hoB, hclB⟩, hPc⟩ := hp
  intro T hT X
  obtain ⟨v, vm₁, ⟨U', l2, c2, s2⟩, hW₁, X', ⟨g', mk, t, L, e1, e2, hq, h1, hL, h2, h3⟩, st⟩ := vx_callVW X hx (C := C) (hh := hh) (bytes := bytes) (maxL := maxL) (ret := ret) ho hl hin hse hcode hy hK (by rw [hT]; exact hcB) hoB hclB hg (hsize.trans hml.symm) (argsL := As) (rest := rest) (fun sig h => hn.trans (hlen sig h)) hstack hW (by rw [hb]; exact hdg)
    (fun vm₁ hW₁ => ⟨hf.1, hf.2, hPc (T.setVm vm₁) hT hW₁⟩)
  dsimp only [Pt.U, Pt.locs, Pt.cells, Pt.slots] at X' e1 e2 h1 h2 h3 st
  subst h1; subst h2; subst h3
  exact ⟨v, (T.setVm vm₁).calling g' mk (Value.ref b :: As).toArray, t, U', L, hT, X', hL, e1, e2, hq, st⟩
section
variable {y : MethodName} {bytes cc : ByteArray} {maxL nL mc ms n index : Nat} {ret : Option FieldType} {ws : List Cond} {rm : Room} {Pc : Array Value → State → Prop} {Qc : Array Value → State → Outcome → State → Prop} {XC : String → State → State → Prop} {free : Addr → Prop} {Ts : List Cond} {own C : String} {b : Addr} {As rest : List Value} {g : JFrame}
theorem vx_runVX {hh : List (Nat × Nat × Nat × Nat)} (S : CallFix p m c cc nL s args Ts own) (hM : vx_Met l y ws rm Pc Qc XC mc ms free) (cw : vx_CVW R s args own C index y bytes maxL ret hh ws rm mc ms n) (hp : PreV s H C b Pc As)
    (hg : g.method = m) (hn : As.length = n) (hsize : g.locals.size = nL) (hstack : g.stack = As.reverse ++ .ref b :: rest) (hW : 2 * g.monitorRoom + (rest.map fun v => v.category).sum ≤ 8) (hdg : decode cc g.pc = .ok (.invokevirtual index, 3)) (hf : cells + mc ≤ R.cells ∧ slots + ms ≤ R.slots) :
    vx_Run p l e R s m args below meth c H locs cells slots mc ms g rest (Qc (Value.ref b :: As).toArray) XC free := by
  obtain ⟨⟨hrc, hrs, hfr, hlo, hws, hcw⟩, hcode, hini, hy, hlen, hl, hin, hse⟩ := cw
  have hK : vx_Back l R p e below s args y 3 8 (PreOf R mc ms Pc) (PostOf Qc mc ms free) (vx_Post XC mc ms free) := vx_backW (hh := hh) (bytes := bytes) (maxL := maxL) (ret := ret) hM hp.1 hrc hrs hfr hlo hws hcw (fun a' U hW => word_at hW (Or.inl (by first | rfl | simp [Cond.onTables, Cond.keeps, Cond.steady])) hini)
  obtain ⟨hx, hb, hml, ho, -⟩ := S
  obtain ⟨-, ⟨cellB, hcB, hoB, hclB⟩, hPc⟩ := hp
  intro T hT X
  rcases vx_callVX X hx (C := C) (hh := hh) (bytes := bytes) (maxL := maxL) (ret := ret) ho hl hin hse hcode hy hK (by rw [hT]; exact hcB) hoB hclB hg (hsize.trans hml.symm) (argsL := As) (rest := rest) (fun sig h => hn.trans (hlen sig h)) hstack hW (by rw [hb]; exact hdg)
    (fun vm₁ hW₁ => ⟨hf.1, hf.2, hPc (T.setVm vm₁) hT hW₁⟩) with ⟨v, vm₁, ⟨U', l2, c2, s2⟩, hW₁, X', ⟨g', mk, t, L, e1, e2, hq, h1, hL, h2, h3⟩, st⟩ | ⟨q, vm₁, ⟨U', l2, c2, s2⟩, hW₁, X', ⟨g', mk, t, L, E, ce, e1, e2, hq, hce, hcv, hcl, h1, hL, h2, h3⟩, st⟩
  · dsimp only [Pt.U, Pt.locs, Pt.cells, Pt.slots] at X' e1 e2 h1 h2 h3 st
    subst h1; subst h2; subst h3
    exact Or.inl ⟨v, (T.setVm vm₁).calling g' mk (Value.ref b :: As).toArray, t, U', L, hT, X', hL, e1, e2, hq, st⟩
  · dsimp only [Pt.U, Pt.locs, Pt.cells, Pt.slots] at X' e1 e2 h1 h2 h3 st hcl
    subst h1; subst h2; subst h3
    exact Or.inr ⟨q, (T.setVm vm₁).calling g' mk (Value.ref b :: As).toArray, t, U', L, E, ce, hT, X', hL, e1, e2, hq, hce, hcv, vx_cls hW₁ hcl, st⟩
theorem vx_runSX {hh : List (Nat × Nat × Nat × Nat)} (S : CallFix p m c cc nL s args Ts own) (hM : vx_Met l y ws rm Pc Qc XC mc ms free) (cw : vx_CSW R s args own index y bytes maxL ret hh ws rm mc ms n) (hp : PreS s H Pc As)
    (hg : g.method = m) (hn : As.length = n) (hsize : g.locals.size = nL) (hstack : g.stack = As.reverse ++ rest) (hW : 2 * g.monitorRoom + (rest.map fun v => v.category).sum ≤ 8) (hdg : decode cc g.pc = .ok (.invokestatic index, 3)) (hf : cells + mc ≤ R.cells ∧ slots + ms ≤ R.slots) :
    vx_Run p l e R s m args below meth c H locs cells slots mc ms g rest (Qc As.toArray) XC free := by
  obtain ⟨⟨hrc, hrs, hfr, hlo, hws, hcw⟩, hcode, hini, hy, hlen, hl, hstt⟩ := cw
  have hK : vx_Back l R p e below s args y 3 8 (PreOf R mc ms Pc) (PostOf Qc mc ms free) (vx_Post XC mc ms free) := vx_backW (hh := hh) (bytes := bytes) (maxL := maxL) (ret := ret) hM hp.1 hrc hrs hfr hlo hws hcw (fun a' U hW => word_at hW (Or.inl (by first | rfl | simp [Cond.onTables, Cond.keeps, Cond.steady])) hini)
  obtain ⟨hx, hb, hml, ho, -⟩ := S
  intro T hT X
  rcases vx_callSX X hx (hh := hh) (bytes := bytes) (maxL := maxL) (ret := ret) ho hl hstt hini hcode hy hK hg (hsize.trans hml.symm) (argsL := As) (rest := rest) (fun sig h => hn.trans (hlen sig h)) hstack hW (by rw [hb]; exact hdg)
    (fun vm₁ hW₁ => ⟨hf.1, hf.2, hp.2 (T.setVm vm₁) hT hW₁⟩) with ⟨v, vm₁, ⟨U', l2, c2, s2⟩, hW₁, X', ⟨g', mk, t, L, e1, e2, hq, h1, hL, h2, h3⟩, st⟩ | ⟨q, vm₁, ⟨U', l2, c2, s2⟩, hW₁, X', ⟨g', mk, t, L, E, ce, e1, e2, hq, hce, hcv, hcl, h1, hL, h2, h3⟩, st⟩
  · dsimp only [Pt.U, Pt.locs, Pt.cells, Pt.slots] at X' e1 e2 h1 h2 h3 st
    subst h1; subst h2; subst h3
    exact Or.inl ⟨v, (T.setVm vm₁).calling g' mk As.toArray, t, U', L, hT, X', hL, e1, e2, hq, st⟩
  · dsimp only [Pt.U, Pt.locs, Pt.cells, Pt.slots] at X' e1 e2 h1 h2 h3 st hcl
    subst h1; subst h2; subst h3
    exact Or.inr ⟨q, (T.setVm vm₁).calling g' mk As.toArray, t, U', L, E, ce, hT, X', hL, e1, e2, hq, hce, hcv, vx_cls hW₁ hcl, st⟩
end
end VXH
theorem vx_ofWH {l : Launch} {y : MethodName} {ws ws' : List Cond} {rm : Room} {Pc : Array Value → State → Prop} {Qc : Array Value → State → Outcome → State → Prop} {XC : String → State → State → Prop} {mc ms : Nat} {free : Addr → Prop} {cc : ByteArray} {maxL : Nat} {ret : Option FieldType} {hh : List (Nat × Nat × Nat × Nat)}
    (hy : plainName y.cls = true) (hw : ws = Cond.codeWith y cc maxL ret hh :: ws')
    (body : ∀ p e s m args below meth c s₁, BodyLoose p l y (headSpec ws rm) cc maxL ret e s m args below meth c s₁ → c.maxLocals = maxL → Pc args s →
      W p l e (headSpec ws rm).room s m args below meth c s.heap [] 0 0 (vx_MQ below Qc XC args s mc ms free) (entryFrame m args maxL)) : vx_Met l y ws rm Pc Qc XC mc ms free := by
  refine MetFree.of_bodyS (code := cc) (maxLocals := maxL) (ret := ret) hy ?_ ?_
  · intro args s m h hn
    obtain ⟨m9, meth, c, hn9, h1, h2, h3, h4, -, h5, h6, -⟩ := Cond.codeWith_spec (atoms_spec (ws := ws) h _ (by rw [hw]; exact List.mem_cons_self))
    cases hn.symm.trans hn9
    exact ⟨meth, c, h1, h2, h3, h4, h5, h6⟩
  · intro p e s m args below meth c s₁ B hml hP _
    have hh0 : s₁.heap = s.heap := by rw [B.state]; rfl
    obtain ⟨t, a1, o, b1, b2, b3⟩ := body p e s m args below meth c s₁ B hml hP s₁ hh0 (Stand.of_body B)
    exact ⟨t, o, a1, b1, b2, b3⟩
/-! ===== END ===== -/

/-! ===== BEGIN what the machine throws by itself, no traces kept ===== -/
section VXM
set_option maxHeartbeats 1000000 in
/-- the machine throws cls with the message text, no traces kept: from its note over the frame g to 'throwing' over the same frame (follows the proofs of Stand.vmThrowsMessage, Shelf/KitTracedVmS.lean, and Stand.throwsMessageColdBareV, StandMessageColdV.lean, without the step out of the frame) -/
theorem vx_vmAt {p : Program} {l : Launch} {e : Env} {R : Room} {s : State} {m₀ : MethodId} {args : Array Value} {below : List Frame} {meth : Method} {c : Code} {W : State} {locs : List Loc} {cells slots : Nat}
    (X : Stand p l e R s m₀ args below meth c W locs cells slots) (hexec : p.tables.exec = Jvm.exec) (htr : e.platform.stackTraces = false) {cls : String} {names : List String} {text : String}
    (hcls : Bundle.fit cls = true) (hnames : ∀ n ∈ names, Bundle.fit n = true) (hsoe : (cls == "java/lang/StackOverflowError") = false) (hoom : (cls == "java/lang/OutOfMemoryError") = false)
    (h : ∀ a ∈ Bundle.messageArmAtoms cls names, a.before args s = true)
    (hlocs : ∀ x ∈ locs, ∀ cell, s.heap[x.base]? = some cell → cell.vm.isStatics = false)
    (htext : (text == notModelled) = false) (hlimit : ¬ (stringBytes (stringToUtf16 text)).size > e.platform.arrayLengthLimit) (hheap : ¬ (stringBytes (stringToUtf16 text)).size * componentBytes .byte > e.platform.maxHeapBytes)
    {g : JFrame} (hg : g.method = m₀) (hsize : g.locals.size = c.maxLocals)
    (hRframes : names.length + 4 < R.frames) (hRlocals : 2 * g.monitorRoom + (g.stack.map fun v => v.category).sum + 10240 ≤ R.locals) (hshort : 13 * names.length + 55 ≤ 10240)
    (hRcells : cells + 3 ≤ R.cells) (hRslots : slots + ((stringBytes (stringToUtf16 text)).size + 4 + 6) ≤ R.slots) (hlocks : meth.locks = false) :
    ∃ (S : State) (q : Addr) (ce : Cell), (∀ target, Steps p.tables e below ((S.setTop g).pushFrame (.throwing q)) target → Steps p.tables e below ((W.setTop g).pushFrame (.throwNew cls (some text) none)) target) ∧
      Stand p l e R s m₀ args below meth c S locs (cells + 3) (slots + ((stringBytes (stringToUtf16 text)).size + 4 + 6)) ∧ S.heap[q]? = some ce ∧ s.vm.findClass cls = some ce.cls ∧ ce.vm = .none := by
  have howns : e.platform.frameOwnsMonitors = true := by rw [X.admits.platform]
  have hfin : e.platform.finalization = false := by rw [X.admits.platform]
  have hpl : e.platform.magicAccessors = ({} : Platform).magicAccessors := by rw [X.admits.platform]
  have a : ∀ x, x ∈ Bundle.messageArmAtoms cls names → x.holds args s none s [] = true := fun x hx => h x hx
  obtain ⟨T, Z0, L, -, Y⟩ := ThrowableC.of_atoms (args := args) howns hfin hpl (fun x hx => h x (by simp [Bundle.messageArmAtoms, hx]))
  obtain ⟨Z, M, LZ, LM, hnZ⟩ := Init0T.ofS_atoms (args := args) hpl L Y (fun x hx => h x (by simp [Bundle.messageArmAtoms, hx]))
  obtain ⟨P1, Ps, hlen, L1, hL, hP1m, hlink1, hlink⟩ := Bundle.chainS (args := args) hpl hnZ names cls hcls hnames (fun x hx => h x (by simp [Bundle.messageArmAtoms, hx]))
  obtain ⟨Zs, LZs, hn4, hfitv, hfitc⟩ := StringT.of_atoms (args := args) (fun x hx => h x (by simp [Bundle.messageArmAtoms, hx]))
  have hfound : s.vm.findClass cls = some P1.m.cls := findClass_of_methodNamed hP1m
  obtain ⟨c1, kX, hc1, hk, hord, -, -, hn6⟩ := Cond.instantiable_spec (a (.instantiable cls 6) (by simp [Bundle.messageArmAtoms]))
  cases Option.some.inj (hc1.symm.trans hfound)
  have hinit := Cond.initialized_spec hfound hk (a (.initialized cls) (by simp [Bundle.messageArmAtoms]))
  have hctor : kX.findMethod "<init>" "(Ljava/lang/String;)V" = some P1.m.idx := findMethod_of_methodNamed hP1m hk
  have hsel0 : selectMethod e.platform s.vm P1.m.cls T.fill0 = .method T.fill0 := by
    obtain ⟨c2, r2, m2, q1, q2, q3, q4, -⟩ := Cond.selects_spec (a (.selects cls Bundle.tFill0 Bundle.tFill0) (by simp [Bundle.messageArmAtoms]))
    cases Option.some.inj (q1.symm.trans hfound)
    cases Option.some.inj (q2.symm.trans (State.methodFound?_of_named Y.fill0 (by decide)))
    cases Option.some.inj (q3.symm.trans Y.fill0)
    rw [Launch.admits_selectMethod X.admits]; exact q4
  have hselF : selectMethod e.platform s.vm P1.m.cls T.fill = .method T.fill := by
    obtain ⟨c2, r2, m2, q1, q2, q3, q4, -⟩ := Cond.selects_spec (a (.selects cls Bundle.tFill Bundle.tFill) (by simp [Bundle.messageArmAtoms]))
    cases Option.some.inj (q1.symm.trans hfound)
    cases Option.some.inj (q2.symm.trans (State.methodFound?_of_named Y.fill (by decide)))
    cases Option.some.inj (q3.symm.trans Y.fill)
    rw [Launch.admits_selectMethod X.admits]; exact q4
  obtain ⟨cellS0, hcS0, hiss⟩ := Y.statics
  obtain ⟨u0, hu0⟩ := Cond.staticRefV Y.unassigned L.unassignedStatic L.statics hcS0 hiss (a (.isRef (.static Bundle.tN "UNASSIGNED_STACK" Bundle.steD)) (by simp [Bundle.messageArmAtoms]))
  obtain ⟨sen, hsen⟩ := Cond.staticRefV Y.sentinel L.sentinelStatic L.statics hcS0 hiss (a (.isRef (.static Bundle.tN "SUPPRESSED_SENTINEL" Bundle.listD)) (by simp [Bundle.messageArmAtoms]))
  obtain ⟨ci198, i198, fB, hk198, hg198, ha198, hsB, -, hnB, htB, hffB⟩ := Cond.ownField (t := .object "java/lang/Object") Y.found L.cls (by decide +kernel) (a (.fieldLink Bundle.tN 198 Bundle.tN "backtrace" "Ljava/lang/Object;") (by simp [Bundle.messageArmAtoms])) (a (.lays Bundle.tN Bundle.tN "backtrace" "Ljava/lang/Object;") (by simp [Bundle.messageArmAtoms])) e.platform hpl
  obtain ⟨cellS, hcS', heS, -, hkeep⟩ := X.same.2.2.2.2.2 T.aS cellS0 hcS0
  have hcellS : W.heap[T.aS]? = some cellS := hcS'
  have hout' : ∀ i, (⟨T.aS, i⟩ : Loc) ∉ locs := fun i hmem => by
    have := hlocs _ hmem cellS0 hcS0
    rw [hiss] at this; cases this
  have hknownS : cellS.vm ≠ .unknown := by
    rw [heS]; intro hu
    rw [show cellS0.vm = .unknown from hu] at hiss
    cases hiss
  have hvU : cellS.slots[T.fUnassigned.slot]? = some u0.v := by rw [hkeep _ (hout' _)]; exact hu0
  have hvSen : cellS.slots[T.fSentinel.slot]? = some sen.v := by rw [hkeep _ (hout' _)]; exact hsen
  obtain ⟨iM, hffM⟩ := Y.msg
  obtain ⟨tyC, dC, hdC, hdnC⟩ := Cond.laysAt hfound hk Y.cause (a (.lays cls Bundle.tN "cause" "Ljava/lang/Throwable;") (by simp [Bundle.messageArmAtoms]))
  obtain ⟨tyS, dS, hdS, hdnS⟩ := Cond.laysAt hfound hk Y.stack (a (.lays cls Bundle.tN "stackTrace" Bundle.steD) (by simp [Bundle.messageArmAtoms]))
  obtain ⟨tyP, dP, hdP, hdnP⟩ := Cond.laysAt hfound hk Y.supp (a (.lays cls Bundle.tN "suppressedExceptions" Bundle.listD) (by simp [Bundle.messageArmAtoms]))
  obtain ⟨tyM, dM, hdM, hdnM⟩ := Cond.laysAt hfound hk hffM (a (.lays cls Bundle.tN "detailMessage" "Ljava/lang/String;") (by simp [Bundle.messageArmAtoms]))
  obtain ⟨tyB, dB, hdB, hdnB⟩ := Cond.laysAt hfound hk hffB (a (.lays cls Bundle.tN "backtrace" "Ljava/lang/Object;") (by simp [Bundle.messageArmAtoms]))
  have bC := Cond.laysApart hdB hdC hdnB hdnC (by rw [hnB, Y.causeName]; decide)
  have bS := Cond.laysApart hdB hdS hdnB hdnS (by rw [hnB, Y.stackName]; decide)
  have bP := Cond.laysApart hdB hdP hdnB hdnP (by rw [hnB, Y.suppName]; decide)
  have hbk : ((preparedCellV T.toThrowableT (freshCell P1.m.cls kX) (W.heap.size + 2) u0 sen).withEntry W.cur).slots[fB.slot]? = some .null := by
    have := fresh_default (c := P1.m.cls) tyB
    rw [htB] at this
    simpa [preparedCellV, Cell.setSlot, Cell.withEntry, Array.getElem?_setIfInBounds, bC, bS, bP, bC.symm, bS.symm, bP.symm, defaultValue] using this
  have tkC := Takes.of_laid (v := .ref (W.heap.size + 2)) hk hord tyC (by rw [Y.causeType]; rfl)
  have tkS := Takes.of_laid (v := u0.v) hk hord tyS (by rw [Y.stackType]; exact fits_refV_array _ u0)
  have tkP := Takes.of_laid (v := sen.v) hk hord tyP (by rw [Y.suppType]; exact fits_refV_object _ sen)
  have tkM := Takes.of_laid (v := .ref (W.heap.size + 1)) hk hord tyM (by rw [Y.msgType]; rfl)
  have hskip : SkipFacts T e.platform s (fun u => u) u0 ((preparedCellV T.toThrowableT (freshCell P1.m.cls kX) (W.heap.size + 2) u0 sen).withEntry W.cur) := ⟨{ ci198 := ci198, i198 := i198, fBack := fB }, ⟨hk198, hg198, ha198, hsB⟩, hbk, fun _ _ => rfl⟩
  have h0 : At W g.method c below := by rw [hg]; exact X.here
  obtain ⟨hbeyond, hfreeW⟩ := X.vmMayThrow hsize (.throwNew cls (some text) none) (fun f hf => by cases hf) rfl hRlocals
  have hfr' : W.frames.length + Ps.length + 4 < (e.platform.stackLimits W.me).1 := by have := X.framesAbove hRframes; omega
  have hwd' : (stackUse (.java g :: W.frames.tail)).2 + 13 * Ps.length + 55 ≤ (e.platform.stackLimits W.me).2 := by have := X.stackAbove hsize (K := 13 * Ps.length + 55) (by omega); omega
  have hslots : W.slotsUsed + (stringBytes (stringToUtf16 text)).size + Zs.kS.instanceTypes.size + kX.instanceTypes.size ≤ e.platform.maxSlots := by
    have := X.slotsAbove hRslots
    rw [hn4, hn6]
    omega
  obtain ⟨vm', hW', st⟩ := Steps.vmThrowsMessageColdByV p (s₀ := s) (S := W) (g := g) h0 hexec T L Z LZ M LM X.warmed (t := W.cur) rfl Zs LZs P1 L1 Ps hL hlink1 hlink hsoe hoom hfound hk hinit hord hctor
    (Launch.admits_hotImplicitExceptions X.admits) hbeyond hfreeW htext hlimit hheap (X.cellsAbove hRcells) hslots (hfitv _) (hfitc _)
    (Nn := fun u => u) heapOnly_id (fun _ _ => rfl) (fun _ => rfl) (fun u x y => setCell_twice _ _ _ _) (fun _ => Nat.le_refl _) (cN := ((preparedCellV T.toThrowableT (freshCell P1.m.cls kX) (W.heap.size + 2) u0 sen).withEntry W.cur))
    hsel0 hcellS hknownS hvU tkS (fun _ hu => hu) (fun _ hu => hu) rfl rfl rfl (by simp [preparedCellV, Cell.setSlot, Cell.withEntry]) hskip (fun _ _ hA hW _ hroom _ hrest => L.nativeOff p htr hA hW hroom hrest) hselF hvSen tkC tkP tkM Y.objLocals rfl hfr' hwd'
  rw [plainBareV_eq T.toThrowableT (W.heap.size + 2) u0 sen (.ref (W.heap.size + 1)) W.cur rfl rfl] at st
  obtain ⟨-, -, w3, w4, -, -, -⟩ := withThrown_facts e.platform W Zs text P1.m.cls kX
  have X3 := ((X.pushed (bytesOf Zs.cB (stringToUtf16 text))).pushed (stringAt Zs.cS Zs.kS Zs.fv Zs.fc (stringToUtf16 text) W.heap.size)).pushed (freshCell P1.m.cls kX)
  rw [← withString_eq] at X3
  have X4 := X3.noted hW'
  have ha : (W.heap.size + 2) < ((withThrown W Zs text P1.m.cls kX).setVm vm').heap.size := by show _ < (withThrown W Zs text P1.m.cls kX).heap.size; rw [w3]; omega
  have hcell : ((withThrown W Zs text P1.m.cls kX).setVm vm').heap[(W.heap.size + 2)]? = some (freshCell P1.m.cls kX) := w4
  have X5 := ((((X4.stored hcell T.fCause.slot (.ref (W.heap.size + 2))).storedAgain ha T.fStack.slot u0.v).storedAgain ha T.fSupp.slot sen.v).storedAgain ha T.fStack.slot u0.v).storedAgain ha T.fMsg.slot (.ref (W.heap.size + 1))
  obtain ⟨g₁, hfrM⟩ := X5.frames_eq
  have hU : ((((withThrown W Zs text P1.m.cls kX).setVm vm').setCell (W.heap.size + 2) (plainBareV T.toThrowableT (freshCell P1.m.cls kX) (W.heap.size + 2) u0 sen (.ref (W.heap.size + 1)))).setTop g).pushFrame (.throwing (W.heap.size + 2)) = (((withThrown W Zs text P1.m.cls kX).setVm vm').setCell (W.heap.size + 2) (plainBareV T.toThrowableT (freshCell P1.m.cls kX) (W.heap.size + 2) u0 sen (.ref (W.heap.size + 1)))).setFrames (.throwing (W.heap.size + 2) :: .java g :: below) := by
    rw [State.pushFrame, State.frames_setTop _ hfrM, State.setTop_of_frames _ hfrM, State.setFrames_setFrames]
  have b1 : (bytesOf Zs.cB (stringToUtf16 text)).slots.size = (stringBytes (stringToUtf16 text)).size := by
    rw [(Cell.writeAll_facts _ _).2.2]; simp [bytes0]
  have b2 : (stringAt Zs.cS Zs.kS Zs.fv Zs.fc (stringToUtf16 text) W.heap.size).slots.size = 4 := by simp [string0, Cell.setSlot, hn4]
  have b3 : (freshCell P1.m.cls kX).slots.size = 6 := by simp [hn6]
  rw [b1, b2, b3] at X5
  have e9 : slots + (stringBytes (stringToUtf16 text)).size + 4 + 6 = slots + ((stringBytes (stringToUtf16 text)).size + 4 + 6) := by omega
  rw [e9] at X5
  simp only [List.append_assoc, List.cons_append, List.nil_append] at X5
  refine ⟨((withThrown W Zs text P1.m.cls kX).setVm vm').setCell (W.heap.size + 2) (plainBareV T.toThrowableT (freshCell P1.m.cls kX) (W.heap.size + 2) u0 sen (.ref (W.heap.size + 1))), W.heap.size + 2, _, fun target ht => st _ (by rw [X.tail, ← hU]; exact ht),
    X5.forget (fun y hy => ?_), heapAt_setCell_self _ ha, hfound, rfl⟩
  simp only [List.mem_cons, List.not_mem_nil, or_false] at hy
  have hge : s.heap.size ≤ W.heap.size := X.same.2.1
  rcases hy with rfl | rfl | rfl | rfl | rfl <;> exact Nat.le_trans hge (Nat.le_add_right _ 2)
set_option maxHeartbeats 1000000 in
/-- the machine throws NullPointerException, no traces kept: from its note over the frame g to 'throwing' over the same frame (follows the proof of Stand.vmThrowsNpe, Shelf42/KT2.lean; throwsNpeColdBareVAt, Shelf42/NT91.lean, called) -/
theorem vx_npeAt {p : Program} {l : Launch} {e : Env} {R : Room} {s : State} {m₀ : MethodId} {args : Array Value} {below : List Frame} {meth : Method} {c : Code} {W : State} {locs : List Loc} {cells slots : Nat}
    (X : Stand p l e R s m₀ args below meth c W locs cells slots) (hexec : p.tables.exec = Jvm.exec) (htr : e.platform.stackTraces = false) {n : Nat}
    (h : ∀ a ∈ Bundle.npeArmAtoms n, a.before args s = true)
    (hlocs : ∀ x ∈ locs, ∀ cell, s.heap[x.base]? = some cell → cell.vm.isStatics = false)
    {g : JFrame} (hg : g.method = m₀) (hsize : g.locals.size = c.maxLocals)
    (hRframes : 7 < R.frames) (hRlocals : 2 * g.monitorRoom + (g.stack.map fun v => v.category).sum + 10240 ≤ R.locals)
    (hRcells : cells + 1 ≤ R.cells) (hRslots : slots + n ≤ R.slots) (hlocks : meth.locks = false) :
    ∃ (S : State) (q : Addr) (ce : Cell), (∀ target, Steps p.tables e below ((S.setTop g).pushFrame (.throwing q)) target → Steps p.tables e below ((W.setTop g).pushFrame (.throwNew "java/lang/NullPointerException" none none)) target) ∧
      Stand p l e R s m₀ args below meth c S locs (cells + 1) (slots + n) ∧ S.heap[q]? = some ce ∧ s.vm.findClass "java/lang/NullPointerException" = some ce.cls ∧ ce.vm = .none := by
  have howns : e.platform.frameOwnsMonitors = true := by rw [X.admits.platform]
  have hfin : e.platform.finalization = false := by rw [X.admits.platform]
  have hpl : e.platform.magicAccessors = ({} : Platform).magicAccessors := by rw [X.admits.platform]
  have hpl2 : e.platform.arrayCloneIsPublic = true := by rw [X.admits.platform]
  have a' : ∀ x, x ∈ Bundle.npeArmAtoms n → x.holds args s none s [] = true := fun x hx => h x hx
  obtain ⟨T, Z, L, LZ, Y⟩ := ThrowableC.of_atoms (args := args) howns hfin hpl (fun x hx => h x (by simp [Bundle.npeArmAtoms, hx]))
  obtain ⟨N, LN, hcN, hnNF, hordN, hffS⟩ := NpeC.of_atoms (args := args) hpl hpl2 L Y (fun x hx => h x (by simp [Bundle.npeArmAtoms, hx]))
  obtain ⟨P1, L1, hP1m, hP1s⟩ := PassC.of_atoms (args := args) (s := s) hpl (X := Bundle.nN) (Y := Bundle.rN) (by decide) (by decide) LibCode.NullPointerException.Init0.at_0 LibCode.NullPointerException.Init0.at_1 LibCode.NullPointerException.Init0.at_4 (fun x hx => h x (by simp [Bundle.npeArmAtoms, hx]))
  obtain ⟨PR, LR, hPRm, hPRs⟩ := PassC.of_atoms (args := args) (s := s) hpl (X := Bundle.rN) (Y := Bundle.eN) (by decide) (by decide) LibCode.RuntimeException.Init0.at_0 LibCode.RuntimeException.Init0.at_1 LibCode.RuntimeException.Init0.at_4 (fun x hx => h x (by simp [Bundle.npeArmAtoms, hx]))
  obtain ⟨PE, LEx, hPEm, hPEs⟩ := PassC.of_atoms (args := args) (s := s) hpl (X := Bundle.eN) (Y := Bundle.tN) (by decide) (by decide) LibCode.Exception.Init0.at_0 LibCode.Exception.Init0.at_1 LibCode.Exception.Init0.at_4 (fun x hx => h x (by simp [Bundle.npeArmAtoms, hx]))
  have hfound : s.vm.findClass Bundle.nN = some P1.m.cls := findClass_of_methodNamed hP1m
  have ecls : N.cN = P1.m.cls := Option.some.inj (hcN.symm.trans hfound)
  have hk : s.vm.classes[P1.m.cls]? = some N.kN := by rw [← ecls]; exact LN.cls
  have hinit := Cond.initialized_spec hfound hk (a' (.initialized Bundle.nN) (by simp [Bundle.npeArmAtoms]))
  have hctor : N.kN.findMethod "<init>" "()V" = some P1.m.idx := findMethod_of_methodNamed hP1m hk
  obtain ⟨c1, k1, hc1, hk1, -, -, -, hn⟩ := Cond.instantiable_spec (a' (.instantiable Bundle.nN n) (by simp [Bundle.npeArmAtoms]))
  cases Option.some.inj (hc1.symm.trans hfound)
  cases Option.some.inj (hk1.symm.trans hk)
  have hfsz : (freshCell P1.m.cls N.kN).slots.size = n := by simp [hn]
  have hlink1 : P1.sup = PR.m := Option.some.inj (hP1s.symm.trans hPRm)
  have hlinkR : PR.sup = PE.m := Option.some.inj (hPRs.symm.trans hPEm)
  have hlinkE : PE.sup = Z.m T.toThrowableT := Option.some.inj (hPEs.symm.trans Y.init0)
  have hLs : ∀ P, P ∈ [PR, PE] → P.Links0 e.platform s := fun P hP => by
    simp only [List.mem_cons, List.not_mem_nil, or_false] at hP
    rcases hP with rfl | rfl
    · exact LR
    · exact LEx
  have hsel0 : selectMethod e.platform s.vm P1.m.cls T.fill0 = .method T.fill0 := by
    obtain ⟨c2, r2, m2, q1, q2, q3, q4, -⟩ := Cond.selects_spec (a' (.selects Bundle.nN Bundle.tFill0 Bundle.tFill0) (by simp [Bundle.npeArmAtoms]))
    cases Option.some.inj (q1.symm.trans hfound)
    cases Option.some.inj (q2.symm.trans (State.methodFound?_of_named Y.fill0 (by decide)))
    cases Option.some.inj (q3.symm.trans Y.fill0)
    rw [Launch.admits_selectMethod X.admits]; exact q4
  have hselF : selectMethod e.platform s.vm P1.m.cls T.fill = .method N.fill := by
    obtain ⟨c2, r2, m2, q1, q2, q3, q4, -⟩ := Cond.selects_spec (a' (.selects Bundle.nN Bundle.tFill Bundle.nFill) (by simp [Bundle.npeArmAtoms]))
    cases Option.some.inj (q1.symm.trans hfound)
    cases Option.some.inj (q2.symm.trans (State.methodFound?_of_named Y.fill (by decide)))
    cases Option.some.inj (q3.symm.trans hnNF)
    rw [Launch.admits_selectMethod X.admits]; exact q4
  obtain ⟨cellS0, hcS0, hiss⟩ := Y.statics
  obtain ⟨u0, hu0⟩ := Cond.staticRefV Y.unassigned L.unassignedStatic L.statics hcS0 hiss (a' (.isRef (.static Bundle.tN "UNASSIGNED_STACK" Bundle.steD)) (by simp [Bundle.npeArmAtoms]))
  obtain ⟨sen, hsen⟩ := Cond.staticRefV Y.sentinel L.sentinelStatic L.statics hcS0 hiss (a' (.isRef (.static Bundle.tN "SUPPRESSED_SENTINEL" Bundle.listD)) (by simp [Bundle.npeArmAtoms]))
  obtain ⟨ci198, i198, fB, hk198, hg198, ha198, hsB, -, hnB, htB, hffB⟩ := Cond.ownField (t := .object "java/lang/Object") Y.found L.cls (by decide +kernel) (a' (.fieldLink Bundle.tN 198 Bundle.tN "backtrace" Bundle.objD) (by simp [Bundle.npeArmAtoms])) (a' (.lays Bundle.tN Bundle.tN "backtrace" Bundle.objD) (by simp [Bundle.npeArmAtoms])) e.platform hpl
  obtain ⟨cellS, hcS', heS, -, hkeep⟩ := X.same.2.2.2.2.2 T.aS cellS0 hcS0
  have hcellS : W.heap[T.aS]? = some cellS := hcS'
  have hout' : ∀ i, (⟨T.aS, i⟩ : Loc) ∉ locs := fun i hmem => by
    have := hlocs _ hmem cellS0 hcS0
    rw [hiss] at this; cases this
  have hknownS : cellS.vm ≠ .unknown := by
    rw [heS]; intro hu
    rw [show cellS0.vm = .unknown from hu] at hiss
    cases hiss
  have hvU : cellS.slots[T.fUnassigned.slot]? = some u0.v := by rw [hkeep _ (hout' _)]; exact hu0
  have hvSen : cellS.slots[T.fSentinel.slot]? = some sen.v := by rw [hkeep _ (hout' _)]; exact hsen
  obtain ⟨tyC, dC, hdC, hdnC⟩ := Cond.laysAt hfound hk Y.cause (a' (.lays Bundle.nN Bundle.tN "cause" "Ljava/lang/Throwable;") (by simp [Bundle.npeArmAtoms]))
  obtain ⟨tyS, dS, hdS, hdnS⟩ := Cond.laysAt hfound hk Y.stack (a' (.lays Bundle.nN Bundle.tN "stackTrace" Bundle.steD) (by simp [Bundle.npeArmAtoms]))
  obtain ⟨tyP, dP, hdP, hdnP⟩ := Cond.laysAt hfound hk Y.supp (a' (.lays Bundle.nN Bundle.tN "suppressedExceptions" Bundle.listD) (by simp [Bundle.npeArmAtoms]))
  obtain ⟨tyX, dX, hdX, hdnX⟩ := Cond.laysAt hfound hk hffS (a' (.lays Bundle.nN Bundle.nN "extendedMessageState" "I") (by simp [Bundle.npeArmAtoms, Bundle.npeAtoms]))
  obtain ⟨hnX, htX⟩ := State.fieldFound?_type hffS (t := .int) (by decide +kernel)
  have xC := Cond.laysApart hdC hdX hdnC hdnX (by rw [hnX, Y.causeName]; decide)
  have xS := Cond.laysApart hdS hdX hdnS hdnX (by rw [hnX, Y.stackName]; decide)
  have xP := Cond.laysApart hdP hdX hdnP hdnX (by rw [hnX, Y.suppName]; decide)
  have hv0 : (freshCell P1.m.cls N.kN).slots[N.fState.slot]? = some (.int 0) := by
    have := fresh_default (c := P1.m.cls) tyX
    rw [htX] at this; exact this
  obtain ⟨tyB, dB, hdB, hdnB⟩ := Cond.laysAt hfound hk hffB (a' (.lays Bundle.nN Bundle.tN "backtrace" Bundle.objD) (by simp [Bundle.npeArmAtoms]))
  have bC := Cond.laysApart hdB hdC hdnB hdnC (by rw [hnB, Y.causeName]; decide)
  have bS := Cond.laysApart hdB hdS hdnB hdnS (by rw [hnB, Y.stackName]; decide)
  have bP := Cond.laysApart hdB hdP hdnB hdnP (by rw [hnB, Y.suppName]; decide)
  have bX := Cond.laysApart hdB hdX hdnB hdnX (by rw [hnB, hnX]; decide)
  have hbk : ((npeCell N.toNpeT (preparedCellV T.toThrowableT (freshCell P1.m.cls N.kN) W.heap.size u0 sen) W.cur).withEntry W.cur).slots[fB.slot]? = some .null := by
    have := fresh_default (c := P1.m.cls) tyB
    rw [htB] at this
    simpa [npeCell, preparedCellV, Cell.setSlot, Cell.withEntry, Array.getElem?_setIfInBounds, bC, bS, bP, bX, bC.symm, bS.symm, bP.symm, bX.symm, defaultValue] using this
  have tkC := Takes.of_laid (v := .ref W.heap.size) hk hordN tyC (by rw [Y.causeType]; rfl)
  have tkS := Takes.of_laid (v := u0.v) hk hordN tyS (by rw [Y.stackType]; exact fits_refV_array _ u0)
  have tkP := Takes.of_laid (v := sen.v) hk hordN tyP (by rw [Y.suppType]; exact fits_refV_object _ sen)
  have tkX := Takes.of_laid (v := .int 1) hk hordN tyX (by rw [htX]; rfl)
  have hskip : SkipFacts T e.platform s (fun u => u) u0 ((npeCell N.toNpeT (preparedCellV T.toThrowableT (freshCell P1.m.cls N.kN) W.heap.size u0 sen) W.cur).withEntry W.cur) := ⟨{ ci198 := ci198, i198 := i198, fBack := fB }, ⟨hk198, hg198, ha198, hsB⟩, hbk, fun _ _ => rfl⟩
  obtain ⟨vm', X3, st, -⟩ := X.throwsNpeColdBareVAt hexec hg hsize T L Z LZ N LN P1 L1 [PR, PE] hLs hlink1 ⟨hlinkR, hlinkE, trivial⟩ hfound hk hinit hordN hctor hsel0 hselF hcellS hknownS hvU hvSen
    hv0 xC xS xP tkC tkS tkP tkX Y.objLocals hskip (fun _ _ hA hW _ hroom _ hrest => L.nativeOff p htr hA hW hroom hrest) (by simpa using hRframes) hRlocals (by simp) hRcells (by rw [hn]; exact hRslots)
  have hlt : W.heap.size < ((W.pushCell (freshCell P1.m.cls N.kN)).setVm vm').heap.size := by
    show W.heap.size < (W.pushCell (freshCell P1.m.cls N.kN)).heap.size
    rw [State.heap_size_pushCell]; omega
  rw [hfsz] at X3
  obtain ⟨g₁, hfrM⟩ := X3.frames_eq
  have hU : ((((W.pushCell (freshCell P1.m.cls N.kN)).setVm vm').setCell W.heap.size (npeBareV T.toThrowableT N.toNpeT (freshCell P1.m.cls N.kN) W.heap.size u0 sen)).setTop g).pushFrame (.throwing W.heap.size) = (((W.pushCell (freshCell P1.m.cls N.kN)).setVm vm').setCell W.heap.size (npeBareV T.toThrowableT N.toNpeT (freshCell P1.m.cls N.kN) W.heap.size u0 sen)).setFrames (.throwing W.heap.size :: .java g :: below) := by
    rw [State.pushFrame, State.frames_setTop _ hfrM, State.setTop_of_frames _ hfrM, State.setFrames_setFrames]
  refine ⟨_, W.heap.size, _, fun target ht => st.trans (by rw [← hU]; exact ht), X3.forget (fun y hy => ?_), heapAt_setCell_self _ hlt, hfound, rfl⟩
  simp only [List.mem_cons, List.not_mem_nil, or_false] at hy
  have hge : s.heap.size ≤ W.heap.size := X.same.2.1
  rcases hy with rfl | rfl | rfl | rfl | rfl <;> exact hge
/-- the words of a machine's NullPointerException, but the four that speak of the heap -/
def vx_atN (n : Nat) : List Cond := (Bundle.npeArmAtoms n).filter vx_no
/-- the words of a machine's throw with a message, but the four that speak of the heap -/
def vx_atM (X : String) (names : List String) : List Cond := (Bundle.messageArmAtoms X names).filter vx_no
section
variable {p : Program} {l : Launch} {e : Env} {R : Room} {s : State} {m : MethodId} {args : Array Value} {below : List Frame} {meth : Method} {c : Code} {H : Heap} {locs : List Loc} {cells slots : Nat}
/-- a frame seen from a rebased start, seen from the first start again -/
theorem vx_back9 {T S : State} {R' : Room} {k n : Nat} (X : Stand p l e R s m args below meth c T locs cells slots) (Y : Stand p l e R' ((T.setVm s.vm).setFrames (.invoking m args :: below)) m args below meth c T [] 0 0) (Z : Stand p l e R' ((T.setVm s.vm).setFrames (.invoking m args :: below)) m args below meth c S [] k n) :
    Stand p l e R s m args below meth c S locs (cells + k) (slots + n) := by
  have hW0 : s.WarmedH ((T.setVm s.vm).setFrames (.invoking m args :: below)).vm := State.WarmedH.refl s
  refine { admits := X.admits, cas := X.cas, clock := X.clock, frames := X.frames, room := X.room, hears := X.hears, method := X.method, code := X.code, here := Z.here, tail := Z.tail, warmed := State.WarmedH.trans hW0 Z.warmed, limits := Z.limits.trans (Y.limits.symm.trans X.limits), bytes := Z.bytes.trans (Y.bytes.symm.trans X.bytes), same := ?_ }
  obtain ⟨e1, e2⟩ := Z.same
  rw [State.setFrames_setFrames] at e1
  have h2 : (T.setVm s.vm).sameButNew (S.setVm s.vm) [] k n := ⟨e1, e2⟩
  have h3 := X.same.trans h2
  rw [List.append_nil] at h3
  exact h3
/-- from the machine's note that E is thrown here with this text -/
def vx_Note (p : Program) (l : Launch) (e : Env) (R : Room) (s : State) (m : MethodId) (args : Array Value) (below : List Frame) (meth : Method) (c : Code) (H : Heap) (locs : List Loc) (cells slots : Nat) (Q : State → Prop) (g : JFrame) (E text : String) : Prop :=
  ∀ T : State, T.heap = H → Stand p l e R s m args below meth c T locs cells slots → ∃ t, Steps p.tables e below ((T.setTop g).pushFrame (.throwNew E (some text) none)) t ∧ Q t
theorem vx_vm {pc : Nat} {ls : Array Slot} {rest : List Value} {Q : State → Prop} (hexec : p.tables.exec = Jvm.exec) (hl : l.stackTraces = false) {cls text : String} {names : List String} {nb : Nat} {A : Nat → Prop}
    (hcls : Bundle.fit cls = true) (hnames : ∀ n ∈ names, Bundle.fit n = true) (hsoe : (cls == "java/lang/StackOverflowError") = false) (hoom : (cls == "java/lang/OutOfMemoryError") = false)
    (hat : ∀ w ∈ vx_atM cls names, w.before args s = true) (hgood : ∀ w ∈ vx_atM cls names, vx_ot w = true)
    (hU : vx_Zq Bundle.tN "UNASSIGNED_STACK" Bundle.steD A s s.heap) (hN : vx_Zq Bundle.tN "SUPPRESSED_SENTINEL" Bundle.listD A s s.heap) (hS : va_S A s.heap H locs) (hsize : ls.size = c.maxLocals)
    (htext : (text == notModelled) = false) (hnb : (stringBytes (stringToUtf16 text)).size ≤ nb) (hnb1 : nb ≤ 1000)
    (hRframes : names.length + 4 < R.frames) (hRlocals : (rest.map fun v => v.category).sum + 10240 ≤ R.locals) (hshort : 13 * names.length + 55 ≤ 10240) (hRcells : cells + 3 ≤ R.cells) (hRslots : slots + (nb + 10) ≤ R.slots) (hlocks : meth.locks = false)
    (k : ∀ (H1 : Heap) (q9 : Addr) (ce : Cell), H.size ≤ H1.size → (∀ q : Nat, q < H.size → H1[q]? = H[q]?) → va_S A s.heap H1 locs → H1[q9]? = some ce → ce.vm = .none → s.vm.findClass cls = some ce.cls → vx_W p l e R s m args below meth c H1 locs (cells + 3) (slots + (nb + 10)) Q (F0 m pc ls rest) q9) :
    vx_Note p l e R s m args below meth c H locs cells slots Q (F0 m pc ls rest) cls text := by
  intro T hT X
  have htr : e.platform.stackTraces = false := (show e.platform.stackTraces = l.stackTraces by rw [X.admits.platform]).trans hl
  have Y := vx_rebase X (R' := { frames := R.frames, locals := R.locals, cells := 3, slots := nb + 10 }) (Nat.le_refl _) (Nat.le_refl _) hRcells hRslots
  have hhp : ((T.setVm s.vm).setFrames (.invoking m args :: below)).heap = H := hT
  have hW0 : s.WarmedH ((T.setVm s.vm).setFrames (.invoking m args :: below)).vm := State.WarmedH.refl s
  have hat' : ∀ w ∈ vx_atM cls names, w.before args ((T.setVm s.vm).setFrames (.invoking m args :: below)) = true := fun w hw => vx_ot_at hW0 rfl (hgood w hw) (hat w hw)
  have hU' : vx_Zq Bundle.tN "UNASSIGNED_STACK" Bundle.steD A ((T.setVm s.vm).setFrames (.invoking m args :: below)) ((T.setVm s.vm).setFrames (.invoking m args :: below)).heap := by rw [hhp]; exact vx_Zq.moved hW0.alike (hU.kept hS.2.1)
  have hN' : vx_Zq Bundle.tN "SUPPRESSED_SENTINEL" Bundle.listD A ((T.setVm s.vm).setFrames (.invoking m args :: below)) ((T.setVm s.vm).setFrames (.invoking m args :: below)).heap := by rw [hhp]; exact vx_Zq.moved hW0.alike (hN.kept hS.2.1)
  obtain ⟨S, q, ce, st, Z, hce, hcl', hv⟩ := vx_vmAt Y hexec htr (cls := cls) (names := names) (text := text) hcls hnames hsoe hoom (vx_own hat' (vx_isRefq hU'.1) (vx_isRefq hN'.1) hU'.2.word hN'.2.word) (fun x hx => nomatch hx) htext
    (by rw [Launch.admits_arrayLengthLimit X.admits]; omega) (by rw [Launch.admits_maxHeapBytes X.admits]; simp only [componentBytes]; omega)
    (g := F0 m pc ls rest) rfl hsize hRframes (by show 2 * 0 + (rest.map fun v => v.category).sum + 10240 ≤ R.locals; omega) hshort (by show 0 + 3 ≤ 3; omega) (by show 0 + (_ + 4 + 6) ≤ nb + 10; omega) hlocks
  obtain ⟨f1, f2⟩ := vx_frame Z.same
  have f1' : H.size ≤ S.heap.size := by rw [← hT]; exact f1
  have f2' : ∀ q : Nat, q < H.size → S.heap[q]? = H[q]? := fun q hq => by
    rw [← hT]
    exact f2 q (by rw [← hT] at hq; exact hq) (fun z hz => nomatch hz)
  have X5 := vx_back9 X Y Z
  have X6 : Stand p l e R s m args below meth c S locs (cells + 3) (slots + (nb + 10)) := { X5 with same := X5.same.mono (by omega) (by omega) }
  obtain ⟨t, a1, b1⟩ := k S.heap q ce f1' f2' ⟨Nat.le_trans hS.1 f1', fun q h1 h2 => (f2' q (Nat.lt_of_lt_of_le h1 hS.1)).trans (hS.2.1 q h1 h2), hS.2.2⟩ hce hv hcl' S rfl X6
  exact ⟨t, st t a1, b1⟩
/-- from the machine's note that NullPointerException is thrown here -/
def vx_NoteN (p : Program) (l : Launch) (e : Env) (R : Room) (s : State) (m : MethodId) (args : Array Value) (below : List Frame) (meth : Method) (c : Code) (H : Heap) (locs : List Loc) (cells slots : Nat) (Q : State → Prop) (g : JFrame) : Prop :=
  ∀ T : State, T.heap = H → Stand p l e R s m args below meth c T locs cells slots → ∃ t, Steps p.tables e below ((T.setTop g).pushFrame (.throwNew "java/lang/NullPointerException" none none)) t ∧ Q t
theorem vx_npe {pc : Nat} {ls : Array Slot} {rest : List Value} {Q : State → Prop} (hexec : p.tables.exec = Jvm.exec) (hl : l.stackTraces = false) {nb : Nat} {A : Nat → Prop}
    (hat : ∀ w ∈ vx_atN nb, w.before args s = true) (hgood : ∀ w ∈ vx_atN nb, vx_ot w = true)
    (hU : vx_Zq Bundle.tN "UNASSIGNED_STACK" Bundle.steD A s s.heap) (hN : vx_Zq Bundle.tN "SUPPRESSED_SENTINEL" Bundle.listD A s s.heap) (hS : va_S A s.heap H locs) (hsize : ls.size = c.maxLocals)
    (hRframes : 7 < R.frames) (hRlocals : (rest.map fun v => v.category).sum + 10240 ≤ R.locals) (hRcells : cells + 1 ≤ R.cells) (hRslots : slots + nb ≤ R.slots) (hlocks : meth.locks = false)
    (k : ∀ (H1 : Heap) (q9 : Addr) (ce : Cell), H.size ≤ H1.size → (∀ q : Nat, q < H.size → H1[q]? = H[q]?) → va_S A s.heap H1 locs → H1[q9]? = some ce → ce.vm = .none → s.vm.findClass "java/lang/NullPointerException" = some ce.cls → vx_W p l e R s m args below meth c H1 locs (cells + 1) (slots + nb) Q (F0 m pc ls rest) q9) :
    vx_NoteN p l e R s m args below meth c H locs cells slots Q (F0 m pc ls rest) := by
  intro T hT X
  have htr : e.platform.stackTraces = false := (show e.platform.stackTraces = l.stackTraces by rw [X.admits.platform]).trans hl
  have Y := vx_rebase X (R' := { frames := R.frames, locals := R.locals, cells := 1, slots := nb }) (Nat.le_refl _) (Nat.le_refl _) hRcells hRslots
  have hhp : ((T.setVm s.vm).setFrames (.invoking m args :: below)).heap = H := hT
  have hW0 : s.WarmedH ((T.setVm s.vm).setFrames (.invoking m args :: below)).vm := State.WarmedH.refl s
  have hat' : ∀ w ∈ vx_atN nb, w.before args ((T.setVm s.vm).setFrames (.invoking m args :: below)) = true := fun w hw => vx_ot_at hW0 rfl (hgood w hw) (hat w hw)
  have hU' : vx_Zq Bundle.tN "UNASSIGNED_STACK" Bundle.steD A ((T.setVm s.vm).setFrames (.invoking m args :: below)) ((T.setVm s.vm).setFrames (.invoking m args :: below)).heap := by rw [hhp]; exact vx_Zq.moved hW0.alike (hU.kept hS.2.1)
  have hN' : vx_Zq Bundle.tN "SUPPRESSED_SENTINEL" Bundle.listD A ((T.setVm s.vm).setFrames (.invoking m args :: below)) ((T.setVm s.vm).setFrames (.invoking m args :: below)).heap := by rw [hhp]; exact vx_Zq.moved hW0.alike (hN.kept hS.2.1)
  obtain ⟨S, q, ce, st, Z, hce, hcl', hv⟩ := vx_npeAt Y hexec htr (n := nb) (vx_own hat' (vx_isRefq hU'.1) (vx_isRefq hN'.1) hU'.2.word hN'.2.word) (fun x hx => nomatch hx)
    (g := F0 m pc ls rest) rfl hsize hRframes (by show 2 * 0 + (rest.map fun v => v.category).sum + 10240 ≤ R.locals; omega) (by show 0 + 1 ≤ 1; omega) (by show 0 + nb ≤ nb; omega) hlocks
  obtain ⟨f1, f2⟩ := vx_frame Z.same
  have f1' : H.size ≤ S.heap.size := by rw [← hT]; exact f1
  have f2' : ∀ q : Nat, q < H.size → S.heap[q]? = H[q]? := fun q hq => by
    rw [← hT]
    exact f2 q (by rw [← hT] at hq; exact hq) (fun z hz => nomatch hz)
  have X5 := vx_back9 X Y Z
  have X6 : Stand p l e R s m args below meth c S locs (cells + 1) (slots + nb) := { X5 with same := X5.same.mono (by omega) (by omega) }
  obtain ⟨t, a1, b1⟩ := k S.heap q ce f1' f2' ⟨Nat.le_trans hS.1 f1', fun q h1 h2 => (f2' q (Nat.lt_of_lt_of_le h1 hS.1)).trans (hS.2.1 q h1 h2), hS.2.2⟩ hce hv hcl' S rfl X6
  exact ⟨t, st t a1, b1⟩
variable {Q : State → Prop} {cc : ByteArray} {pc : Nat} {ls : Array Slot} {rest : List Value}
theorem vx_idivZ (hexec : p.tables.exec = Jvm.exec) (hb : c.code = cc) {a b : Int32} (h0 : b = 0) (d : decode cc pc = .ok (.idiv, 1)) (k : vx_Note p l e R s m args below meth c H locs cells slots Q (F0 m pc ls rest) "java/lang/ArithmeticException" "/ by zero") :
    W p l e R s m args below meth c H locs cells slots Q (F0 m pc ls (.int b :: .int a :: rest)) := by
  intro T hT X
  obtain ⟨t, st, q⟩ := k T hT X
  exact ⟨t, X.idivZero hexec (g := F0 m pc ls (.int b :: .int a :: rest)) rfl (a := a) (rest := rest) (by rw [h0]) (by rw [hb]; exact d) t st, q⟩
theorem vx_iremZ (hexec : p.tables.exec = Jvm.exec) (hb : c.code = cc) {a b : Int32} (h0 : b = 0) (d : decode cc pc = .ok (.irem, 1)) (k : vx_Note p l e R s m args below meth c H locs cells slots Q (F0 m pc ls rest) "java/lang/ArithmeticException" "/ by zero") :
    W p l e R s m args below meth c H locs cells slots Q (F0 m pc ls (.int b :: .int a :: rest)) := by
  intro T hT X
  obtain ⟨t, st, q⟩ := k T hT X
  exact ⟨t, X.iremZero hexec (g := F0 m pc ls (.int b :: .int a :: rest)) rfl (a := a) (rest := rest) (by rw [h0]) (by rw [hb]; exact d) t st, q⟩
theorem vx_ldivZ (hexec : p.tables.exec = Jvm.exec) (hb : c.code = cc) {a b : Int64} (h0 : b = 0) (d : decode cc pc = .ok (.ldiv, 1)) (k : vx_Note p l e R s m args below meth c H locs cells slots Q (F0 m pc ls rest) "java/lang/ArithmeticException" "/ by zero") :
    W p l e R s m args below meth c H locs cells slots Q (F0 m pc ls (.long b :: .long a :: rest)) := by
  intro T hT X
  obtain ⟨t, st, q⟩ := k T hT X
  exact ⟨t, X.ldivZero hexec (g := F0 m pc ls (.long b :: .long a :: rest)) rfl (a := a) (rest := rest) (by rw [h0]) (by rw [hb]; exact d) t st, q⟩
theorem vx_lremZ (hexec : p.tables.exec = Jvm.exec) (hb : c.code = cc) {a b : Int64} (h0 : b = 0) (d : decode cc pc = .ok (.lrem, 1)) (k : vx_Note p l e R s m args below meth c H locs cells slots Q (F0 m pc ls rest) "java/lang/ArithmeticException" "/ by zero") :
    W p l e R s m args below meth c H locs cells slots Q (F0 m pc ls (.long b :: .long a :: rest)) := by
  intro T hT X
  obtain ⟨t, st, q⟩ := k T hT X
  exact ⟨t, X.lremZero hexec (g := F0 m pc ls (.long b :: .long a :: rest)) rfl (a := a) (rest := rest) (by rw [h0]) (by rw [hb]; exact d) t st, q⟩
theorem vx_ialdZ {D : va_G} {cl : List vw_C} {ws : va_W} {tys : List (ClassId × FieldType)} {a : Nat} (hexec : p.tables.exec = Jvm.exec) (hb : c.code = cc) (hK : va_K D cl tys s) (hP : va_P D cl ws H) (q0 t0 : Nat) {cA : ClassId} {n : Nat} {f : Nat → Int32} (ha : ws[q0]? = some (a, .inl (cA, n, .inl f))) (ht : tys[t0]? = some (cA, .int)) {i : Int32} (hout : ¬ vp_in i n) (hdg : decode cc pc = .ok (.iaload, 1))
    (k : ∀ tx : String, tx = (toString "Index " ++ toString i ++ toString " out of bounds for length " ++ toString n : String) → vx_Note p l e R s m args below meth c H locs cells slots Q (F0 m pc ls rest) "java/lang/ArrayIndexOutOfBoundsException" tx) : W p l e R s m args below meth c H locs cells slots Q (F0 m pc ls (.int i :: .ref a :: rest)) := by
  intro T hT X
  obtain ⟨t, st, q⟩ := k _ rfl T hT X
  refine ⟨t, ?_, q⟩
  have h1 := X.ialoadOut hexec (by rw [hT]; exact hP q0 _ ha) ((hK.2 t0 _ ht).1 n (fun j => .int (f j))) (j := i) (by show (i < 0 ∨ (arrV _ _ _).slots.size ≤ _); rw [arrV_size]; exact Classical.byContradiction hout) (g := F0 m pc ls (.int i :: .ref a :: rest)) rfl (rest := rest) rfl (by rw [hb]; exact hdg) t
  simp only [arrV_size] at h1
  exact h1 st
theorem vx_iastZ {D : va_G} {cl : List vw_C} {ws : va_W} {tys : List (ClassId × FieldType)} {a : Nat} (hexec : p.tables.exec = Jvm.exec) (hb : c.code = cc) (hK : va_K D cl tys s) (hP : va_P D cl ws H) (q0 t0 : Nat) {cA : ClassId} {n : Nat} {f : Nat → Int32} (ha : ws[q0]? = some (a, .inl (cA, n, .inl f))) (ht : tys[t0]? = some (cA, .int)) {i : Int32} {x : Int32} (hout : ¬ vp_in i n) (hdg : decode cc pc = .ok (.iastore, 1))
    (k : ∀ tx : String, tx = (toString "Index " ++ toString i ++ toString " out of bounds for length " ++ toString n : String) → vx_Note p l e R s m args below meth c H locs cells slots Q (F0 m pc ls rest) "java/lang/ArrayIndexOutOfBoundsException" tx) : W p l e R s m args below meth c H locs cells slots Q (F0 m pc ls (.int x :: .int i :: .ref a :: rest)) := by
  intro T hT X
  obtain ⟨t, st, q⟩ := k _ rfl T hT X
  refine ⟨t, ?_, q⟩
  have h1 := X.iastoreOut hexec (by rw [hT]; exact hP q0 _ ha) ((hK.2 t0 _ ht).1 n (fun j => .int (f j))) (j := i) (by show (i < 0 ∨ (arrV _ _ _).slots.size ≤ _); rw [arrV_size]; exact Classical.byContradiction hout) (g := F0 m pc ls (.int x :: .int i :: .ref a :: rest)) rfl (rest := rest) rfl (by rw [hb]; exact hdg) t
  simp only [arrV_size] at h1
  exact h1 st
theorem vx_baldZ {D : va_G} {cl : List vw_C} {ws : va_W} {tys : List (ClassId × FieldType)} {a : Nat} (hexec : p.tables.exec = Jvm.exec) (hb : c.code = cc) (hK : va_K D cl tys s) (hP : va_P D cl ws H) (q0 t0 : Nat) {cA : ClassId} {n : Nat} {f : Nat → Int32} (ha : ws[q0]? = some (a, .inl (cA, n, .inl f))) (ht : tys[t0]? = some (cA, .byte)) {i : Int32} (hout : ¬ vp_in i n) (hdg : decode cc pc = .ok (.baload, 1))
    (k : ∀ tx : String, tx = (toString "Index " ++ toString i ++ toString " out of bounds for length " ++ toString n : String) → vx_Note p l e R s m args below meth c H locs cells slots Q (F0 m pc ls rest) "java/lang/ArrayIndexOutOfBoundsException" tx) : W p l e R s m args below meth c H locs cells slots Q (F0 m pc ls (.int i :: .ref a :: rest)) := by
  intro T hT X
  obtain ⟨t, st, q⟩ := k _ rfl T hT X
  refine ⟨t, ?_, q⟩
  have h1 := X.baloadOut hexec (by rw [hT]; exact hP q0 _ ha) ((hK.2 t0 _ ht).1 n (fun j => .int (f j))) (j := i) (by show (i < 0 ∨ (arrV _ _ _).slots.size ≤ _); rw [arrV_size]; exact Classical.byContradiction hout) (g := F0 m pc ls (.int i :: .ref a :: rest)) rfl (rest := rest) rfl (by rw [hb]; exact hdg) t
  simp only [arrV_size] at h1
  exact h1 st
theorem vx_bastZ {D : va_G} {cl : List vw_C} {ws : va_W} {tys : List (ClassId × FieldType)} {a : Nat} (hexec : p.tables.exec = Jvm.exec) (hb : c.code = cc) (hK : va_K D cl tys s) (hP : va_P D cl ws H) (q0 t0 : Nat) {cA : ClassId} {n : Nat} {f : Nat → Int32} (ha : ws[q0]? = some (a, .inl (cA, n, .inl f))) (ht : tys[t0]? = some (cA, .byte)) {i : Int32} {x : Int32} (hout : ¬ vp_in i n) (hdg : decode cc pc = .ok (.bastore, 1))
    (k : ∀ tx : String, tx = (toString "Index " ++ toString i ++ toString " out of bounds for length " ++ toString n : String) → vx_Note p l e R s m args below meth c H locs cells slots Q (F0 m pc ls rest) "java/lang/ArrayIndexOutOfBoundsException" tx) : W p l e R s m args below meth c H locs cells slots Q (F0 m pc ls (.int x :: .int i :: .ref a :: rest)) := by
  intro T hT X
  obtain ⟨t, st, q⟩ := k _ rfl T hT X
  refine ⟨t, ?_, q⟩
  have h1 := X.bastoreOut hexec (by rw [hT]; exact hP q0 _ ha) ((hK.2 t0 _ ht).1 n (fun j => .int (f j))) (j := i) (by show (i < 0 ∨ (arrV _ _ _).slots.size ≤ _); rw [arrV_size]; exact Classical.byContradiction hout) (g := F0 m pc ls (.int x :: .int i :: .ref a :: rest)) rfl (rest := rest) rfl (by rw [hb]; exact hdg) t
  simp only [arrV_size] at h1
  exact h1 st
theorem vx_zaldZ {D : va_G} {cl : List vw_C} {ws : va_W} {tys : List (ClassId × FieldType)} {a : Nat} (hexec : p.tables.exec = Jvm.exec) (hb : c.code = cc) (hK : va_K D cl tys s) (hP : va_P D cl ws H) (q0 t0 : Nat) {cA : ClassId} {n : Nat} {f : Nat → Int32} (ha : ws[q0]? = some (a, .inl (cA, n, .inl f))) (ht : tys[t0]? = some (cA, .boolean)) {i : Int32} (hout : ¬ vp_in i n) (hdg : decode cc pc = .ok (.baload, 1))
    (k : ∀ tx : String, tx = (toString "Index " ++ toString i ++ toString " out of bounds for length " ++ toString n : String) → vx_Note p l e R s m args below meth c H locs cells slots Q (F0 m pc ls rest) "java/lang/ArrayIndexOutOfBoundsException" tx) : W p l e R s m args below meth c H locs cells slots Q (F0 m pc ls (.int i :: .ref a :: rest)) := by
  intro T hT X
  obtain ⟨t, st, q⟩ := k _ rfl T hT X
  refine ⟨t, ?_, q⟩
  have h1 := X.baloadOut hexec (by rw [hT]; exact hP q0 _ ha) ((hK.2 t0 _ ht).1 n (fun j => .int (f j))) (j := i) (by show (i < 0 ∨ (arrV _ _ _).slots.size ≤ _); rw [arrV_size]; exact Classical.byContradiction hout) (g := F0 m pc ls (.int i :: .ref a :: rest)) rfl (rest := rest) rfl (by rw [hb]; exact hdg) t
  simp only [arrV_size] at h1
  exact h1 st
theorem vx_zastZ {D : va_G} {cl : List vw_C} {ws : va_W} {tys : List (ClassId × FieldType)} {a : Nat} (hexec : p.tables.exec = Jvm.exec) (hb : c.code = cc) (hK : va_K D cl tys s) (hP : va_P D cl ws H) (q0 t0 : Nat) {cA : ClassId} {n : Nat} {f : Nat → Int32} (ha : ws[q0]? = some (a, .inl (cA, n, .inl f))) (ht : tys[t0]? = some (cA, .boolean)) {i : Int32} {x : Int32} (hout : ¬ vp_in i n) (hdg : decode cc pc = .ok (.bastore, 1))
    (k : ∀ tx : String, tx = (toString "Index " ++ toString i ++ toString " out of bounds for length " ++ toString n : String) → vx_Note p l e R s m args below meth c H locs cells slots Q (F0 m pc ls rest) "java/lang/ArrayIndexOutOfBoundsException" tx) : W p l e R s m args below meth c H locs cells slots Q (F0 m pc ls (.int x :: .int i :: .ref a :: rest)) := by
  intro T hT X
  obtain ⟨t, st, q⟩ := k _ rfl T hT X
  refine ⟨t, ?_, q⟩
  have h1 := X.bastoreOut hexec (by rw [hT]; exact hP q0 _ ha) ((hK.2 t0 _ ht).1 n (fun j => .int (f j))) (j := i) (by show (i < 0 ∨ (arrV _ _ _).slots.size ≤ _); rw [arrV_size]; exact Classical.byContradiction hout) (g := F0 m pc ls (.int x :: .int i :: .ref a :: rest)) rfl (rest := rest) rfl (by rw [hb]; exact hdg) t
  simp only [arrV_size] at h1
  exact h1 st
theorem vx_caldZ {D : va_G} {cl : List vw_C} {ws : va_W} {tys : List (ClassId × FieldType)} {a : Nat} (hexec : p.tables.exec = Jvm.exec) (hb : c.code = cc) (hK : va_K D cl tys s) (hP : va_P D cl ws H) (q0 t0 : Nat) {cA : ClassId} {n : Nat} {f : Nat → Int32} (ha : ws[q0]? = some (a, .inl (cA, n, .inl f))) (ht : tys[t0]? = some (cA, .char)) {i : Int32} (hout : ¬ vp_in i n) (hdg : decode cc pc = .ok (.caload, 1))
    (k : ∀ tx : String, tx = (toString "Index " ++ toString i ++ toString " out of bounds for length " ++ toString n : String) → vx_Note p l e R s m args below meth c H locs cells slots Q (F0 m pc ls rest) "java/lang/ArrayIndexOutOfBoundsException" tx) : W p l e R s m args below meth c H locs cells slots Q (F0 m pc ls (.int i :: .ref a :: rest)) := by
  intro T hT X
  obtain ⟨t, st, q⟩ := k _ rfl T hT X
  refine ⟨t, ?_, q⟩
  have h1 := X.caloadOut hexec (by rw [hT]; exact hP q0 _ ha) ((hK.2 t0 _ ht).1 n (fun j => .int (f j))) (j := i) (by show (i < 0 ∨ (arrV _ _ _).slots.size ≤ _); rw [arrV_size]; exact Classical.byContradiction hout) (g := F0 m pc ls (.int i :: .ref a :: rest)) rfl (rest := rest) rfl (by rw [hb]; exact hdg) t
  simp only [arrV_size] at h1
  exact h1 st
theorem vx_castZ {D : va_G} {cl : List vw_C} {ws : va_W} {tys : List (ClassId × FieldType)} {a : Nat} (hexec : p.tables.exec = Jvm.exec) (hb : c.code = cc) (hK : va_K D cl tys s) (hP : va_P D cl ws H) (q0 t0 : Nat) {cA : ClassId} {n : Nat} {f : Nat → Int32} (ha : ws[q0]? = some (a, .inl (cA, n, .inl f))) (ht : tys[t0]? = some (cA, .char)) {i : Int32} {x : Int32} (hout : ¬ vp_in i n) (hdg : decode cc pc = .ok (.castore, 1))
    (k : ∀ tx : String, tx = (toString "Index " ++ toString i ++ toString " out of bounds for length " ++ toString n : String) → vx_Note p l e R s m args below meth c H locs cells slots Q (F0 m pc ls rest) "java/lang/ArrayIndexOutOfBoundsException" tx) : W p l e R s m args below meth c H locs cells slots Q (F0 m pc ls (.int x :: .int i :: .ref a :: rest)) := by
  intro T hT X
  obtain ⟨t, st, q⟩ := k _ rfl T hT X
  refine ⟨t, ?_, q⟩
  have h1 := X.castoreOut hexec (by rw [hT]; exact hP q0 _ ha) ((hK.2 t0 _ ht).1 n (fun j => .int (f j))) (j := i) (by show (i < 0 ∨ (arrV _ _ _).slots.size ≤ _); rw [arrV_size]; exact Classical.byContradiction hout) (g := F0 m pc ls (.int x :: .int i :: .ref a :: rest)) rfl (rest := rest) rfl (by rw [hb]; exact hdg) t
  simp only [arrV_size] at h1
  exact h1 st
theorem vx_saldZ {D : va_G} {cl : List vw_C} {ws : va_W} {tys : List (ClassId × FieldType)} {a : Nat} (hexec : p.tables.exec = Jvm.exec) (hb : c.code = cc) (hK : va_K D cl tys s) (hP : va_P D cl ws H) (q0 t0 : Nat) {cA : ClassId} {n : Nat} {f : Nat → Int32} (ha : ws[q0]? = some (a, .inl (cA, n, .inl f))) (ht : tys[t0]? = some (cA, .short)) {i : Int32} (hout : ¬ vp_in i n) (hdg : decode cc pc = .ok (.saload, 1))
    (k : ∀ tx : String, tx = (toString "Index " ++ toString i ++ toString " out of bounds for length " ++ toString n : String) → vx_Note p l e R s m args below meth c H locs cells slots Q (F0 m pc ls rest) "java/lang/ArrayIndexOutOfBoundsException" tx) : W p l e R s m args below meth c H locs cells slots Q (F0 m pc ls (.int i :: .ref a :: rest)) := by
  intro T hT X
  obtain ⟨t, st, q⟩ := k _ rfl T hT X
  refine ⟨t, ?_, q⟩
  have h1 := X.saloadOut hexec (by rw [hT]; exact hP q0 _ ha) ((hK.2 t0 _ ht).1 n (fun j => .int (f j))) (j := i) (by show (i < 0 ∨ (arrV _ _ _).slots.size ≤ _); rw [arrV_size]; exact Classical.byContradiction hout) (g := F0 m pc ls (.int i :: .ref a :: rest)) rfl (rest := rest) rfl (by rw [hb]; exact hdg) t
  simp only [arrV_size] at h1
  exact h1 st
theorem vx_sastZ {D : va_G} {cl : List vw_C} {ws : va_W} {tys : List (ClassId × FieldType)} {a : Nat} (hexec : p.tables.exec = Jvm.exec) (hb : c.code = cc) (hK : va_K D cl tys s) (hP : va_P D cl ws H) (q0 t0 : Nat) {cA : ClassId} {n : Nat} {f : Nat → Int32} (ha : ws[q0]? = some (a, .inl (cA, n, .inl f))) (ht : tys[t0]? = some (cA, .short)) {i : Int32} {x : Int32} (hout : ¬ vp_in i n) (hdg : decode cc pc = .ok (.sastore, 1))
    (k : ∀ tx : String, tx = (toString "Index " ++ toString i ++ toString " out of bounds for length " ++ toString n : String) → vx_Note p l e R s m args below meth c H locs cells slots Q (F0 m pc ls rest) "java/lang/ArrayIndexOutOfBoundsException" tx) : W p l e R s m args below meth c H locs cells slots Q (F0 m pc ls (.int x :: .int i :: .ref a :: rest)) := by
  intro T hT X
  obtain ⟨t, st, q⟩ := k _ rfl T hT X
  refine ⟨t, ?_, q⟩
  have h1 := X.sastoreOut hexec (by rw [hT]; exact hP q0 _ ha) ((hK.2 t0 _ ht).1 n (fun j => .int (f j))) (j := i) (by show (i < 0 ∨ (arrV _ _ _).slots.size ≤ _); rw [arrV_size]; exact Classical.byContradiction hout) (g := F0 m pc ls (.int x :: .int i :: .ref a :: rest)) rfl (rest := rest) rfl (by rw [hb]; exact hdg) t
  simp only [arrV_size] at h1
  exact h1 st
theorem vx_laldZ {D : va_G} {cl : List vw_C} {ws : va_W} {tys : List (ClassId × FieldType)} {a : Nat} (hexec : p.tables.exec = Jvm.exec) (hb : c.code = cc) (hK : va_K D cl tys s) (hP : va_P D cl ws H) (q0 t0 : Nat) {cA : ClassId} {n : Nat} {f : Nat → Int64} (ha : ws[q0]? = some (a, .inl (cA, n, .inr (.inl f)))) (ht : tys[t0]? = some (cA, .long)) {i : Int32} (hout : ¬ vp_in i n) (hdg : decode cc pc = .ok (.laload, 1))
    (k : ∀ tx : String, tx = (toString "Index " ++ toString i ++ toString " out of bounds for length " ++ toString n : String) → vx_Note p l e R s m args below meth c H locs cells slots Q (F0 m pc ls rest) "java/lang/ArrayIndexOutOfBoundsException" tx) : W p l e R s m args below meth c H locs cells slots Q (F0 m pc ls (.int i :: .ref a :: rest)) := by
  intro T hT X
  obtain ⟨t, st, q⟩ := k _ rfl T hT X
  refine ⟨t, ?_, q⟩
  have h1 := X.laloadOut hexec (by rw [hT]; exact hP q0 _ ha) ((hK.2 t0 _ ht).1 n (fun j => .long (f j))) (j := i) (by show (i < 0 ∨ (arrV _ _ _).slots.size ≤ _); rw [arrV_size]; exact Classical.byContradiction hout) (g := F0 m pc ls (.int i :: .ref a :: rest)) rfl (rest := rest) rfl (by rw [hb]; exact hdg) t
  simp only [arrV_size] at h1
  exact h1 st
theorem vx_lastZ {D : va_G} {cl : List vw_C} {ws : va_W} {tys : List (ClassId × FieldType)} {a : Nat} (hexec : p.tables.exec = Jvm.exec) (hb : c.code = cc) (hK : va_K D cl tys s) (hP : va_P D cl ws H) (q0 t0 : Nat) {cA : ClassId} {n : Nat} {f : Nat → Int64} (ha : ws[q0]? = some (a, .inl (cA, n, .inr (.inl f)))) (ht : tys[t0]? = some (cA, .long)) {i : Int32} {x : Int64} (hout : ¬ vp_in i n) (hdg : decode cc pc = .ok (.lastore, 1))
    (k : ∀ tx : String, tx = (toString "Index " ++ toString i ++ toString " out of bounds for length " ++ toString n : String) → vx_Note p l e R s m args below meth c H locs cells slots Q (F0 m pc ls rest) "java/lang/ArrayIndexOutOfBoundsException" tx) : W p l e R s m args below meth c H locs cells slots Q (F0 m pc ls (.long x :: .int i :: .ref a :: rest)) := by
  intro T hT X
  obtain ⟨t, st, q⟩ := k _ rfl T hT X
  refine ⟨t, ?_, q⟩
  have h1 := X.lastoreOut hexec (by rw [hT]; exact hP q0 _ ha) ((hK.2 t0 _ ht).1 n (fun j => .long (f j))) (j := i) (by show (i < 0 ∨ (arrV _ _ _).slots.size ≤ _); rw [arrV_size]; exact Classical.byContradiction hout) (g := F0 m pc ls (.long x :: .int i :: .ref a :: rest)) rfl (rest := rest) rfl (by rw [hb]; exact hdg) t
  simp only [arrV_size] at h1
  exact h1 st
theorem vx_faldZ {D : va_G} {cl : List vw_C} {ws : va_W} {tys : List (ClassId × FieldType)} {a : Nat} (hexec : p.tables.exec = Jvm.exec) (hb : c.code = cc) (hK : va_K D cl tys s) (hP : va_P D cl ws H) (q0 t0 : Nat) {cA : ClassId} {n : Nat} {f : Nat → UInt32} (ha : ws[q0]? = some (a, .inl (cA, n, .inr (.inr (.inl f))))) (ht : tys[t0]? = some (cA, .float)) {i : Int32} (hout : ¬ vp_in i n) (hdg : decode cc pc = .ok (.faload, 1))
    (k : ∀ tx : String, tx = (toString "Index " ++ toString i ++ toString " out of bounds for length " ++ toString n : String) → vx_Note p l e R s m args below meth c H locs cells slots Q (F0 m pc ls rest) "java/lang/ArrayIndexOutOfBoundsException" tx) : W p l e R s m args below meth c H locs cells slots Q (F0 m pc ls (.int i :: .ref a :: rest)) := by
  intro T hT X
  obtain ⟨t, st, q⟩ := k _ rfl T hT X
  refine ⟨t, ?_, q⟩
  have h1 := X.faloadOut hexec (by rw [hT]; exact hP q0 _ ha) ((hK.2 t0 _ ht).1 n (fun j => .float (f j))) (j := i) (by show (i < 0 ∨ (arrV _ _ _).slots.size ≤ _); rw [arrV_size]; exact Classical.byContradiction hout) (g := F0 m pc ls (.int i :: .ref a :: rest)) rfl (rest := rest) rfl (by rw [hb]; exact hdg) t
  simp only [arrV_size] at h1
  exact h1 st
theorem vx_fastZ {D : va_G} {cl : List vw_C} {ws : va_W} {tys : List (ClassId × FieldType)} {a : Nat} (hexec : p.tables.exec = Jvm.exec) (hb : c.code = cc) (hK : va_K D cl tys s) (hP : va_P D cl ws H) (q0 t0 : Nat) {cA : ClassId} {n : Nat} {f : Nat → UInt32} (ha : ws[q0]? = some (a, .inl (cA, n, .inr (.inr (.inl f))))) (ht : tys[t0]? = some (cA, .float)) {i : Int32} {x : UInt32} (hout : ¬ vp_in i n) (hdg : decode cc pc = .ok (.fastore, 1))
    (k : ∀ tx : String, tx = (toString "Index " ++ toString i ++ toString " out of bounds for length " ++ toString n : String) → vx_Note p l e R s m args below meth c H locs cells slots Q (F0 m pc ls rest) "java/lang/ArrayIndexOutOfBoundsException" tx) : W p l e R s m args below meth c H locs cells slots Q (F0 m pc ls (.float x :: .int i :: .ref a :: rest)) := by
  intro T hT X
  obtain ⟨t, st, q⟩ := k _ rfl T hT X
  refine ⟨t, ?_, q⟩
  have h1 := X.fastoreOut hexec (by rw [hT]; exact hP q0 _ ha) ((hK.2 t0 _ ht).1 n (fun j => .float (f j))) (j := i) (by show (i < 0 ∨ (arrV _ _ _).slots.size ≤ _); rw [arrV_size]; exact Classical.byContradiction hout) (g := F0 m pc ls (.float x :: .int i :: .ref a :: rest)) rfl (rest := rest) rfl (by rw [hb]; exact hdg) t
  simp only [arrV_size] at h1
  exact h1 st
theorem vx_daldZ {D : va_G} {cl : List vw_C} {ws : va_W} {tys : List (ClassId × FieldType)} {a : Nat} (hexec : p.tables.exec = Jvm.exec) (hb : c.code = cc) (hK : va_K D cl tys s) (hP : va_P D cl ws H) (q0 t0 : Nat) {cA : ClassId} {n : Nat} {f : Nat → UInt64} (ha : ws[q0]? = some (a, .inl (cA, n, .inr (.inr (.inr (.inl f)))))) (ht : tys[t0]? = some (cA, .double)) {i : Int32} (hout : ¬ vp_in i n) (hdg : decode cc pc = .ok (.daload, 1))
    (k : ∀ tx : String, tx = (toString "Index " ++ toString i ++ toString " out of bounds for length " ++ toString n : String) → vx_Note p l e R s m args below meth c H locs cells slots Q (F0 m pc ls rest) "java/lang/ArrayIndexOutOfBoundsException" tx) : W p l e R s m args below meth c H locs cells slots Q (F0 m pc ls (.int i :: .ref a :: rest)) := by
  intro T hT X
  obtain ⟨t, st, q⟩ := k _ rfl T hT X
  refine ⟨t, ?_, q⟩
  have h1 := X.daloadOut hexec (by rw [hT]; exact hP q0 _ ha) ((hK.2 t0 _ ht).1 n (fun j => .double (f j))) (j := i) (by show (i < 0 ∨ (arrV _ _ _).slots.size ≤ _); rw [arrV_size]; exact Classical.byContradiction hout) (g := F0 m pc ls (.int i :: .ref a :: rest)) rfl (rest := rest) rfl (by rw [hb]; exact hdg) t
  simp only [arrV_size] at h1
  exact h1 st
theorem vx_dastZ {D : va_G} {cl : List vw_C} {ws : va_W} {tys : List (ClassId × FieldType)} {a : Nat} (hexec : p.tables.exec = Jvm.exec) (hb : c.code = cc) (hK : va_K D cl tys s) (hP : va_P D cl ws H) (q0 t0 : Nat) {cA : ClassId} {n : Nat} {f : Nat → UInt64} (ha : ws[q0]? = some (a, .inl (cA, n, .inr (.inr (.inr (.inl f)))))) (ht : tys[t0]? = some (cA, .double)) {i : Int32} {x : UInt64} (hout : ¬ vp_in i n) (hdg : decode cc pc = .ok (.dastore, 1))
    (k : ∀ tx : String, tx = (toString "Index " ++ toString i ++ toString " out of bounds for length " ++ toString n : String) → vx_Note p l e R s m args below meth c H locs cells slots Q (F0 m pc ls rest) "java/lang/ArrayIndexOutOfBoundsException" tx) : W p l e R s m args below meth c H locs cells slots Q (F0 m pc ls (.double x :: .int i :: .ref a :: rest)) := by
  intro T hT X
  obtain ⟨t, st, q⟩ := k _ rfl T hT X
  refine ⟨t, ?_, q⟩
  have h1 := X.dastoreOut hexec (by rw [hT]; exact hP q0 _ ha) ((hK.2 t0 _ ht).1 n (fun j => .double (f j))) (j := i) (by show (i < 0 ∨ (arrV _ _ _).slots.size ≤ _); rw [arrV_size]; exact Classical.byContradiction hout) (g := F0 m pc ls (.double x :: .int i :: .ref a :: rest)) rfl (rest := rest) rfl (by rw [hb]; exact hdg) t
  simp only [arrV_size] at h1
  exact h1 st
theorem vx_arraylengthN (hexec : p.tables.exec = Jvm.exec) (hb : c.code = cc) (hdg : decode cc pc = .ok (.arraylength, 1)) (k : vx_NoteN p l e R s m args below meth c H locs cells slots Q (F0 m pc ls rest)) : W p l e R s m args below meth c H locs cells slots Q (F0 m pc ls (.null :: rest)) := by
  intro T hT X
  obtain ⟨t, st, q⟩ := k T hT X
  exact ⟨t, X.arraylengthNull hexec (g := F0 m pc ls (.null :: rest)) rfl (rest := rest) rfl (by rw [hb]; exact hdg) t st, q⟩
theorem vx_ialoadN (hexec : p.tables.exec = Jvm.exec) (hb : c.code = cc) {i : Int32} (hdg : decode cc pc = .ok (.iaload, 1)) (k : vx_NoteN p l e R s m args below meth c H locs cells slots Q (F0 m pc ls rest)) : W p l e R s m args below meth c H locs cells slots Q (F0 m pc ls (.int i :: .null :: rest)) := by
  intro T hT X
  obtain ⟨t, st, q⟩ := k T hT X
  exact ⟨t, X.ialoadNull hexec (g := F0 m pc ls (.int i :: .null :: rest)) rfl (rest := rest) rfl (by rw [hb]; exact hdg) t st, q⟩
theorem vx_laloadN (hexec : p.tables.exec = Jvm.exec) (hb : c.code = cc) {i : Int32} (hdg : decode cc pc = .ok (.laload, 1)) (k : vx_NoteN p l e R s m args below meth c H locs cells slots Q (F0 m pc ls rest)) : W p l e R s m args below meth c H locs cells slots Q (F0 m pc ls (.int i :: .null :: rest)) := by
  intro T hT X
  obtain ⟨t, st, q⟩ := k T hT X
  exact ⟨t, X.laloadNull hexec (g := F0 m pc ls (.int i :: .null :: rest)) rfl (rest := rest) rfl (by rw [hb]; exact hdg) t st, q⟩
theorem vx_faloadN (hexec : p.tables.exec = Jvm.exec) (hb : c.code = cc) {i : Int32} (hdg : decode cc pc = .ok (.faload, 1)) (k : vx_NoteN p l e R s m args below meth c H locs cells slots Q (F0 m pc ls rest)) : W p l e R s m args below meth c H locs cells slots Q (F0 m pc ls (.int i :: .null :: rest)) := by
  intro T hT X
  obtain ⟨t, st, q⟩ := k T hT X
  exact ⟨t, X.faloadNull hexec (g := F0 m pc ls (.int i :: .null :: rest)) rfl (rest := rest) rfl (by rw [hb]; exact hdg) t st, q⟩
theorem vx_daloadN (hexec : p.tables.exec = Jvm.exec) (hb : c.code = cc) {i : Int32} (hdg : decode cc pc = .ok (.daload, 1)) (k : vx_NoteN p l e R s m args below meth c H locs cells slots Q (F0 m pc ls rest)) : W p l e R s m args below meth c H locs cells slots Q (F0 m pc ls (.int i :: .null :: rest)) := by
  intro T hT X
  obtain ⟨t, st, q⟩ := k T hT X
  exact ⟨t, X.daloadNull hexec (g := F0 m pc ls (.int i :: .null :: rest)) rfl (rest := rest) rfl (by rw [hb]; exact hdg) t st, q⟩
theorem vx_aaloadN (hexec : p.tables.exec = Jvm.exec) (hb : c.code = cc) {i : Int32} (hdg : decode cc pc = .ok (.aaload, 1)) (k : vx_NoteN p l e R s m args below meth c H locs cells slots Q (F0 m pc ls rest)) : W p l e R s m args below meth c H locs cells slots Q (F0 m pc ls (.int i :: .null :: rest)) := by
  intro T hT X
  obtain ⟨t, st, q⟩ := k T hT X
  exact ⟨t, X.aaloadNull hexec (g := F0 m pc ls (.int i :: .null :: rest)) rfl (rest := rest) rfl (by rw [hb]; exact hdg) t st, q⟩
theorem vx_baloadN (hexec : p.tables.exec = Jvm.exec) (hb : c.code = cc) {i : Int32} (hdg : decode cc pc = .ok (.baload, 1)) (k : vx_NoteN p l e R s m args below meth c H locs cells slots Q (F0 m pc ls rest)) : W p l e R s m args below meth c H locs cells slots Q (F0 m pc ls (.int i :: .null :: rest)) := by
  intro T hT X
  obtain ⟨t, st, q⟩ := k T hT X
  exact ⟨t, X.baloadNull hexec (g := F0 m pc ls (.int i :: .null :: rest)) rfl (rest := rest) rfl (by rw [hb]; exact hdg) t st, q⟩
theorem vx_caloadN (hexec : p.tables.exec = Jvm.exec) (hb : c.code = cc) {i : Int32} (hdg : decode cc pc = .ok (.caload, 1)) (k : vx_NoteN p l e R s m args below meth c H locs cells slots Q (F0 m pc ls rest)) : W p l e R s m args below meth c H locs cells slots Q (F0 m pc ls (.int i :: .null :: rest)) := by
  intro T hT X
  obtain ⟨t, st, q⟩ := k T hT X
  exact ⟨t, X.caloadNull hexec (g := F0 m pc ls (.int i :: .null :: rest)) rfl (rest := rest) rfl (by rw [hb]; exact hdg) t st, q⟩
theorem vx_saloadN (hexec : p.tables.exec = Jvm.exec) (hb : c.code = cc) {i : Int32} (hdg : decode cc pc = .ok (.saload, 1)) (k : vx_NoteN p l e R s m args below meth c H locs cells slots Q (F0 m pc ls rest)) : W p l e R s m args below meth c H locs cells slots Q (F0 m pc ls (.int i :: .null :: rest)) := by
  intro T hT X
  obtain ⟨t, st, q⟩ := k T hT X
  exact ⟨t, X.saloadNull hexec (g := F0 m pc ls (.int i :: .null :: rest)) rfl (rest := rest) rfl (by rw [hb]; exact hdg) t st, q⟩
theorem vx_iastoreN (hexec : p.tables.exec = Jvm.exec) (hb : c.code = cc) {x : Int32} {i : Int32} (hdg : decode cc pc = .ok (.iastore, 1)) (k : vx_NoteN p l e R s m args below meth c H locs cells slots Q (F0 m pc ls rest)) : W p l e R s m args below meth c H locs cells slots Q (F0 m pc ls (.int x :: .int i :: .null :: rest)) := by
  intro T hT X
  obtain ⟨t, st, q⟩ := k T hT X
  exact ⟨t, X.iastoreNull hexec (g := F0 m pc ls (.int x :: .int i :: .null :: rest)) rfl (rest := rest) rfl (by rw [hb]; exact hdg) t st, q⟩
theorem vx_lastoreN (hexec : p.tables.exec = Jvm.exec) (hb : c.code = cc) {x : Int64} {i : Int32} (hdg : decode cc pc = .ok (.lastore, 1)) (k : vx_NoteN p l e R s m args below meth c H locs cells slots Q (F0 m pc ls rest)) : W p l e R s m args below meth c H locs cells slots Q (F0 m pc ls (.long x :: .int i :: .null :: rest)) := by
  intro T hT X
  obtain ⟨t, st, q⟩ := k T hT X
  exact ⟨t, X.lastoreNull hexec (g := F0 m pc ls (.long x :: .int i :: .null :: rest)) rfl (rest := rest) rfl (by rw [hb]; exact hdg) t st, q⟩
theorem vx_fastoreN (hexec : p.tables.exec = Jvm.exec) (hb : c.code = cc) {x : UInt32} {i : Int32} (hdg : decode cc pc = .ok (.fastore, 1)) (k : vx_NoteN p l e R s m args below meth c H locs cells slots Q (F0 m pc ls rest)) : W p l e R s m args below meth c H locs cells slots Q (F0 m pc ls (.float x :: .int i :: .null :: rest)) := by
  intro T hT X
  obtain ⟨t, st, q⟩ := k T hT X
  exact ⟨t, X.fastoreNull hexec (g := F0 m pc ls (.float x :: .int i :: .null :: rest)) rfl (rest := rest) rfl (by rw [hb]; exact hdg) t st, q⟩
theorem vx_dastoreN (hexec : p.tables.exec = Jvm.exec) (hb : c.code = cc) {x : UInt64} {i : Int32} (hdg : decode cc pc = .ok (.dastore, 1)) (k : vx_NoteN p l e R s m args below meth c H locs cells slots Q (F0 m pc ls rest)) : W p l e R s m args below meth c H locs cells slots Q (F0 m pc ls (.double x :: .int i :: .null :: rest)) := by
  intro T hT X
  obtain ⟨t, st, q⟩ := k T hT X
  exact ⟨t, X.dastoreNull hexec (g := F0 m pc ls (.double x :: .int i :: .null :: rest)) rfl (rest := rest) rfl (by rw [hb]; exact hdg) t st, q⟩
theorem vx_bastoreN (hexec : p.tables.exec = Jvm.exec) (hb : c.code = cc) {x : Int32} {i : Int32} (hdg : decode cc pc = .ok (.bastore, 1)) (k : vx_NoteN p l e R s m args below meth c H locs cells slots Q (F0 m pc ls rest)) : W p l e R s m args below meth c H locs cells slots Q (F0 m pc ls (.int x :: .int i :: .null :: rest)) := by
  intro T hT X
  obtain ⟨t, st, q⟩ := k T hT X
  exact ⟨t, X.bastoreNull hexec (g := F0 m pc ls (.int x :: .int i :: .null :: rest)) rfl (rest := rest) rfl (by rw [hb]; exact hdg) t st, q⟩
theorem vx_castoreN (hexec : p.tables.exec = Jvm.exec) (hb : c.code = cc) {x : Int32} {i : Int32} (hdg : decode cc pc = .ok (.castore, 1)) (k : vx_NoteN p l e R s m args below meth c H locs cells slots Q (F0 m pc ls rest)) : W p l e R s m args below meth c H locs cells slots Q (F0 m pc ls (.int x :: .int i :: .null :: rest)) := by
  intro T hT X
  obtain ⟨t, st, q⟩ := k T hT X
  exact ⟨t, X.castoreNull hexec (g := F0 m pc ls (.int x :: .int i :: .null :: rest)) rfl (rest := rest) rfl (by rw [hb]; exact hdg) t st, q⟩
theorem vx_sastoreN (hexec : p.tables.exec = Jvm.exec) (hb : c.code = cc) {x : Int32} {i : Int32} (hdg : decode cc pc = .ok (.sastore, 1)) (k : vx_NoteN p l e R s m args below meth c H locs cells slots Q (F0 m pc ls rest)) : W p l e R s m args below meth c H locs cells slots Q (F0 m pc ls (.int x :: .int i :: .null :: rest)) := by
  intro T hT X
  obtain ⟨t, st, q⟩ := k T hT X
  exact ⟨t, X.sastoreNull hexec (g := F0 m pc ls (.int x :: .int i :: .null :: rest)) rfl (rest := rest) rfl (by rw [hb]; exact hdg) t st, q⟩
theorem vx_invokeN {own C : String} {index maxL : Nat} {y : MethodName} {bytes : ByteArray} {ret : Option FieldType} (hexec : p.tables.exec = Jvm.exec) (hb : c.code = cc) (hown : s.vm.findClass own = some m.cls) (hlink : (Cond.methodLink own index y).before args s = true) (hinst : (Cond.instanceMethod y).before args s = true) (hcode : (Cond.code y bytes maxL ret).before args s = true) (hsel : (Cond.selects C y y).before args s = true)
    (hx : y.cls ≠ "java/lang/invoke/MethodHandle" ∧ y.cls ≠ "java/lang/invoke/VarHandle") {As : List Value} (hlen : (parseMethodDescriptor y.desc).map (fun d => d.parameters.length) = some As.length) (hdg : decode cc pc = .ok (.invokevirtual index, 3))
    (k : vx_NoteN p l e R s m args below meth c H locs cells slots Q (F0 m pc ls rest)) {st0 : List Value} (hst : st0 = As.reverse ++ .null :: rest) : W p l e R s m args below meth c H locs cells slots Q (F0 m pc ls st0) := by
  intro T hT X
  obtain ⟨r0, r, hn, hrm, hstR, hsigR⟩ := va_Decl.of hinst hcode
  obtain ⟨c2, r2, m2, q1, q2, q3, q4, kP, hkP, hkPi⟩ := Cond.selects_spec hsel
  cases hn.symm.trans q3
  have hl9 : As.length = r.sig.parameters.length := by
    rw [hsigR] at hlen
    exact (Option.some.inj hlen).symm
  obtain ⟨vm', X1, st1⟩ := X.invokevirtualNull hexec hown hlink hn hrm hstR hkP hkPi hx (g := F0 m pc ls st0) rfl (argsL := As) (rest := rest) hl9 hst (by rw [hb]; exact hdg)
  obtain ⟨t, st, q⟩ := k (T.setVm vm') hT X1
  exact ⟨t, st1 t st, q⟩
theorem vx_newarrayZ {atype : ArrayType} (hexec : p.tables.exec = Jvm.exec) (hb : c.code = cc) {n : Int32} (h0 : n < 0) (hdg : decode cc pc = .ok (.newarray atype, 2)) (k : ∀ tx : String, tx = toString n → vx_Note p l e R s m args below meth c H locs cells slots Q (F0 m pc ls rest) "java/lang/NegativeArraySizeException" tx) : W p l e R s m args below meth c H locs cells slots Q (F0 m pc ls (.int n :: rest)) := by
  intro T hT X
  obtain ⟨t, st, q⟩ := k _ rfl T hT X
  exact ⟨t, X.newarrayNegative hexec (g := F0 m pc ls (.int n :: rest)) rfl h0 (rest := rest) rfl (by rw [hb]; exact hdg) t st, q⟩
end
end VXM
/-! ===== END ===== -/
end
section
def RX0 : String := "Sendhouse$Classes"
def TX0 : u_T := fun k => match k with
  | 0 => ("Sendhouse$Classes", "above", "[I", true)
  | 1 => ("Sendhouse$Classes", "fieldCounts", "[I", true)
  | _ => ("Sendhouse$Classes", "count", "I", false)
def tyX0 : Nat → FieldType := fun k => match k with
  | 0 => .array .int
  | 1 => .array .int
  | _ => .int
abbrev wsX00 : List Cond := u_ws RX0 TX0 3
theorem nmX0 : ∀ a, a < 3 → ∀ b, b < 3 → a ≠ b → (TX0 a).2.1 ≠ (TX0 b).2.1 := by decide +kernel
theorem tyX0_ok : ∀ k, k < 3 → parseFieldDescriptor (TX0 k).2.2.1 = some (tyX0 k) := by decide +kernel
abbrev cX0_init : ByteArray := prog_2_method_1_code
def yX0_init : MethodName := ⟨RX0, "<init>", "()V"⟩
abbrev cX0_has : ByteArray := prog_2_method_2_code
def yX0_has : MethodName := ⟨RX0, "has", "(I)Z"⟩
abbrev cX0_aboveOf : ByteArray := prog_2_method_3_code
def yX0_aboveOf : MethodName := ⟨RX0, "aboveOf", "(I)I"⟩
abbrev cX0_fieldsOf : ByteArray := prog_2_method_4_code
def yX0_fieldsOf : MethodName := ⟨RX0, "fieldsOf", "(I)I"⟩
abbrev cX0_enlist : ByteArray := prog_2_method_5_code
def yX0_enlist : MethodName := ⟨RX0, "enlist", "(II)I"⟩
def RX1 : String := "Sendhouse$Frame"
def TX1 : u_T := fun k => match k with
  | 0 => ("Sendhouse$Frame", "arguments", "[J", true)
  | 1 => ("Sendhouse$Frame", "temporaries", "[J", true)
  | 2 => ("Sendhouse$Frame", "pile", "[J", true)
  | 3 => ("Sendhouse$Frame", "told", "LSendhouse$Told;", false)
  | 4 => ("Sendhouse$Frame", "receiver", "J", false)
  | 5 => ("Sendhouse$Frame", "row", "I", false)
  | _ => ("Sendhouse$Frame", "depth", "I", false)
def tyX1 : Nat → FieldType := fun k => match k with
  | 0 => .array .long
  | 1 => .array .long
  | 2 => .array .long
  | 3 => .object "Sendhouse$Told"
  | 4 => .long
  | 5 => .int
  | _ => .int
abbrev wsX10 : List Cond := u_ws RX1 TX1 7
theorem nmX1 : ∀ a, a < 7 → ∀ b, b < 7 → a ≠ b → (TX1 a).2.1 ≠ (TX1 b).2.1 := by decide +kernel
theorem tyX1_ok : ∀ k, k < 7 → parseFieldDescriptor (TX1 k).2.2.1 = some (tyX1 k) := by decide +kernel
abbrev cX1_init : ByteArray := prog_3_method_1_code
def yX1_init : MethodName := ⟨RX1, "<init>", "()V"⟩
abbrev cX1_open : ByteArray := prog_3_method_2_code
def yX1_open : MethodName := ⟨RX1, "open", "(LSendhouse$Told;J)V"⟩
abbrev cX1_cls : ByteArray := prog_3_method_3_code
def yX1_cls : MethodName := ⟨RX1, "cls", "()I"⟩
abbrev cX1_selector : ByteArray := prog_3_method_4_code
def yX1_selector : MethodName := ⟨RX1, "selector", "()I"⟩
abbrev cX1_letter : ByteArray := prog_3_method_5_code
def yX1_letter : MethodName := ⟨RX1, "letter", "()C"⟩
abbrev cX1_first : ByteArray := prog_3_method_6_code
def yX1_first : MethodName := ⟨RX1, "first", "()I"⟩
abbrev cX1_second : ByteArray := prog_3_method_7_code
def yX1_second : MethodName := ⟨RX1, "second", "()I"⟩
abbrev cX1_depthAsTold : ByteArray := prog_3_method_8_code
def yX1_depthAsTold : MethodName := ⟨RX1, "depthAsTold", "()I"⟩
abbrev cX1_push : ByteArray := prog_3_method_9_code
def yX1_push : MethodName := ⟨RX1, "push", "(J)V"⟩
abbrev cX1_pop : ByteArray := prog_3_method_10_code
def yX1_pop : MethodName := ⟨RX1, "pop", "()J"⟩
abbrev cX1_fromTop : ByteArray := prog_3_method_11_code
def yX1_fromTop : MethodName := ⟨RX1, "fromTop", "(I)J"⟩
abbrev cX1_placesOf : ByteArray := prog_3_method_12_code
def yX1_placesOf : MethodName := ⟨RX1, "placesOf", "(C)I"⟩
abbrev cX1_placeOf : ByteArray := prog_3_method_13_code
def yX1_placeOf : MethodName := ⟨RX1, "placeOf", "(CI)J"⟩
abbrev cX1_places : ByteArray := prog_3_method_14_code
def yX1_places : MethodName := ⟨RX1, "places", "()I"⟩
abbrev cX1_place : ByteArray := prog_3_method_15_code
def yX1_place : MethodName := ⟨RX1, "place", "(I)J"⟩
def RX2 : String := "Sendhouse$Page"
def TX2 : u_T := fun k => match k with
  | _ => ("Sendhouse$Page", "values", "[J", true)
def tyX2 : Nat → FieldType := fun k => match k with
  | _ => .array .long
abbrev wsX20 : List Cond := u_ws RX2 TX2 1
theorem nmX2 : ∀ a, a < 1 → ∀ b, b < 1 → a ≠ b → (TX2 a).2.1 ≠ (TX2 b).2.1 := by decide +kernel
theorem tyX2_ok : ∀ k, k < 1 → parseFieldDescriptor (TX2 k).2.2.1 = some (tyX2 k) := by decide +kernel
abbrev cX2_init : ByteArray := prog_4_method_1_code
def yX2_init : MethodName := ⟨RX2, "<init>", "()V"⟩
def RX3 : String := "Sendhouse$Rows"
def TX3 : u_T := fun k => match k with
  | 0 => ("Sendhouse$Rows", "letters", "[C", true)
  | 1 => ("Sendhouse$Rows", "firsts", "[I", true)
  | 2 => ("Sendhouse$Rows", "seconds", "[I", true)
  | 3 => ("Sendhouse$Rows", "depths", "[I", true)
  | 4 => ("Sendhouse$Rows", "comeTo", "[I", true)
  | 5 => ("Sendhouse$Rows", "count", "I", false)
  | _ => ("Sendhouse$Rows", "comeToCount", "I", false)
def tyX3 : Nat → FieldType := fun k => match k with
  | 0 => .array .char
  | 1 => .array .int
  | 2 => .array .int
  | 3 => .array .int
  | 4 => .array .int
  | 5 => .int
  | _ => .int
abbrev wsX30 : List Cond := u_ws RX3 TX3 7
theorem nmX3 : ∀ a, a < 7 → ∀ b, b < 7 → a ≠ b → (TX3 a).2.1 ≠ (TX3 b).2.1 := by decide +kernel
theorem tyX3_ok : ∀ k, k < 7 → parseFieldDescriptor (TX3 k).2.2.1 = some (tyX3 k) := by decide +kernel
abbrev cX3_init : ByteArray := prog_5_method_1_code
def yX3_init : MethodName := ⟨RX3, "<init>", "()V"⟩
abbrev cX3_enlist : ByteArray := prog_5_method_2_code
def yX3_enlist : MethodName := ⟨RX3, "enlist", "(CII)V"⟩
abbrev cX3_letterAt : ByteArray := prog_5_method_3_code
def yX3_letterAt : MethodName := ⟨RX3, "letterAt", "(I)C"⟩
abbrev cX3_firstAt : ByteArray := prog_5_method_4_code
def yX3_firstAt : MethodName := ⟨RX3, "firstAt", "(I)I"⟩
abbrev cX3_secondAt : ByteArray := prog_5_method_5_code
def yX3_secondAt : MethodName := ⟨RX3, "secondAt", "(I)I"⟩
abbrev cX3_depthAt : ByteArray := prog_5_method_6_code
def yX3_depthAt : MethodName := ⟨RX3, "depthAt", "(I)I"⟩
abbrev cX3_comeToAt : ByteArray := prog_5_method_7_code
def yX3_comeToAt : MethodName := ⟨RX3, "comeToAt", "(I)I"⟩
abbrev cX3_comeToFirst : ByteArray := prog_5_method_8_code
def yX3_comeToFirst : MethodName := ⟨RX3, "comeToFirst", "()Z"⟩
abbrev cX3_comeTo : ByteArray := prog_5_method_9_code
def yX3_comeTo : MethodName := ⟨RX3, "comeTo", "(II)Z"⟩
abbrev cX3_leadOnFrom : ByteArray := prog_5_method_10_code
def yX3_leadOnFrom : MethodName := ⟨RX3, "leadOnFrom", "(I)Z"⟩
abbrev cX3_takenBy : ByteArray := prog_5_method_11_code
def yX3_takenBy : MethodName := ⟨RX3, "takenBy", "(CI)I"⟩
abbrev cX3_putBy : ByteArray := prog_5_method_12_code
def yX3_putBy : MethodName := ⟨RX3, "putBy", "(C)I"⟩
def RX4 : String := "Sendhouse$Thing"
def TX4 : u_T := fun k => match k with
  | 0 => ("Sendhouse$Thing", "places", "[J", true)
  | 1 => ("Sendhouse$Thing", "number", "I", false)
  | 2 => ("Sendhouse$Thing", "cls", "I", false)
  | 3 => ("Sendhouse$Thing", "size", "I", false)
  | _ => ("Sendhouse$Thing", "reached", "Z", false)
def tyX4 : Nat → FieldType := fun k => match k with
  | 0 => .array .long
  | 1 => .int
  | 2 => .int
  | 3 => .int
  | _ => .boolean
abbrev wsX40 : List Cond := u_ws RX4 TX4 5
theorem nmX4 : ∀ a, a < 5 → ∀ b, b < 5 → a ≠ b → (TX4 a).2.1 ≠ (TX4 b).2.1 := by decide +kernel
theorem tyX4_ok : ∀ k, k < 5 → parseFieldDescriptor (TX4 k).2.2.1 = some (tyX4 k) := by decide +kernel
abbrev cX4_init : ByteArray := prog_6_method_1_code
def yX4_init : MethodName := ⟨RX4, "<init>", "()V"⟩
abbrev cX4_open : ByteArray := prog_6_method_2_code
def yX4_open : MethodName := ⟨RX4, "open", "(III)V"⟩
abbrev cX4_hasField : ByteArray := prog_6_method_3_code
def yX4_hasField : MethodName := ⟨RX4, "hasField", "(I)Z"⟩
def RX5 : String := "Sendhouse$Things"
def TX5 : u_T := fun k => match k with
  | 0 => ("Sendhouse$Things", "all", "[LSendhouse$Thing;", true)
  | 1 => ("Sendhouse$Things", "reached", "[LSendhouse$Thing;", true)
  | 2 => ("Sendhouse$Things", "count", "I", false)
  | 3 => ("Sendhouse$Things", "reachedCount", "I", false)
  | _ => ("Sendhouse$Things", "made", "I", false)
def tyX5 : Nat → FieldType := fun k => match k with
  | 0 => .array (.object "Sendhouse$Thing")
  | 1 => .array (.object "Sendhouse$Thing")
  | 2 => .int
  | 3 => .int
  | _ => .int
abbrev wsX50 : List Cond := u_ws RX5 TX5 5
theorem nmX5 : ∀ a, a < 5 → ∀ b, b < 5 → a ≠ b → (TX5 a).2.1 ≠ (TX5 b).2.1 := by decide +kernel
theorem tyX5_ok : ∀ k, k < 5 → parseFieldDescriptor (TX5 k).2.2.1 = some (tyX5 k) := by decide +kernel
abbrev cX5_init : ByteArray := prog_7_method_1_code
def yX5_init : MethodName := ⟨RX5, "<init>", "()V"⟩
abbrev cX5_isFull : ByteArray := prog_7_method_2_code
def yX5_isFull : MethodName := ⟨RX5, "isFull", "()Z"⟩
abbrev cX5_enlist : ByteArray := prog_7_method_3_code
def yX5_enlist : MethodName := ⟨RX5, "enlist", "(II)I"⟩
abbrev cX5_inOrder : ByteArray := prog_7_method_4_code
def yX5_inOrder : MethodName := ⟨RX5, "inOrder", "(I)LSendhouse$Thing;"⟩
abbrev cX5_withNumber : ByteArray := prog_7_method_5_code
def yX5_withNumber : MethodName := ⟨RX5, "withNumber", "(I)LSendhouse$Thing;"⟩
abbrev cX5_ofValue : ByteArray := prog_7_method_6_code
def yX5_ofValue : MethodName := ⟨RX5, "ofValue", "(J)LSendhouse$Thing;"⟩
abbrev cX5_classOfValue : ByteArray := prog_7_method_7_code
def yX5_classOfValue : MethodName := ⟨RX5, "classOfValue", "(J)I"⟩
abbrev cX5_has : ByteArray := prog_7_method_8_code
def yX5_has : MethodName := ⟨RX5, "has", "(J)Z"⟩
abbrev cX5_hasFieldsThere : ByteArray := prog_7_method_9_code
def yX5_hasFieldsThere : MethodName := ⟨RX5, "hasFieldsThere", "()Z"⟩
abbrev cX5_hasPlacesThere : ByteArray := prog_7_method_10_code
def yX5_hasPlacesThere : MethodName := ⟨RX5, "hasPlacesThere", "(LSendhouse$Thing;)Z"⟩
abbrev cX5_reach : ByteArray := prog_7_method_11_code
def yX5_reach : MethodName := ⟨RX5, "reach", "(J)V"⟩
abbrev cX5_reachFields : ByteArray := prog_7_method_12_code
def yX5_reachFields : MethodName := ⟨RX5, "reachFields", "()V"⟩
abbrev cX5_sweep : ByteArray := prog_7_method_13_code
def yX5_sweep : MethodName := ⟨RX5, "sweep", "()I"⟩
def RX6 : String := "Sendhouse$Told"
def TX6 : u_T := fun k => match k with
  | 0 => ("Sendhouse$Told", "cls", "I", true)
  | 1 => ("Sendhouse$Told", "selector", "I", true)
  | 2 => ("Sendhouse$Told", "arguments", "I", true)
  | 3 => ("Sendhouse$Told", "temporaries", "I", true)
  | 4 => ("Sendhouse$Told", "rows", "LSendhouse$Rows;", true)
  | 5 => ("Sendhouse$Told", "calls", "I", false)
  | _ => ("Sendhouse$Told", "compiled", "Z", false)
def tyX6 : Nat → FieldType := fun k => match k with
  | 0 => .int
  | 1 => .int
  | 2 => .int
  | 3 => .int
  | 4 => .object "Sendhouse$Rows"
  | 5 => .int
  | _ => .boolean
abbrev wsX60 : List Cond := u_ws RX6 TX6 7
theorem nmX6 : ∀ a, a < 7 → ∀ b, b < 7 → a ≠ b → (TX6 a).2.1 ≠ (TX6 b).2.1 := by decide +kernel
theorem tyX6_ok : ∀ k, k < 7 → parseFieldDescriptor (TX6 k).2.2.1 = some (tyX6 k) := by decide +kernel
abbrev cX6_init : ByteArray := prog_8_method_1_code
def yX6_init : MethodName := ⟨RX6, "<init>", "(IIIILSendhouse$Rows;)V"⟩
abbrev cX6_isWellTold : ByteArray := prog_8_method_2_code
def yX6_isWellTold : MethodName := ⟨RX6, "isWellTold", "(LSendhouse$Classes;)Z"⟩
abbrev cX6_isNamingWhatIsThere : ByteArray := prog_8_method_3_code
def yX6_isNamingWhatIsThere : MethodName := ⟨RX6, "isNamingWhatIsThere", "(ILSendhouse$Classes;)Z"⟩
def RX7 : String := "Sendhouse$Written"
def TX7 : u_T := fun k => match k with
  | 0 => ("Sendhouse$Written", "pages", "Ljava/util/ArrayList;", true)
  | 1 => ("Sendhouse$Written", "count", "I", false)
  | 2 => ("Sendhouse$Written", "sum", "J", false)
  | _ => ("Sendhouse$Written", "power", "J", false)
def tyX7 : Nat → FieldType := fun k => match k with
  | 0 => .object "java/util/ArrayList"
  | 1 => .int
  | 2 => .long
  | _ => .long
abbrev wsX70 : List Cond := u_ws RX7 TX7 4
theorem nmX7 : ∀ a, a < 4 → ∀ b, b < 4 → a ≠ b → (TX7 a).2.1 ≠ (TX7 b).2.1 := by decide +kernel
theorem tyX7_ok : ∀ k, k < 4 → parseFieldDescriptor (TX7 k).2.2.1 = some (tyX7 k) := by decide +kernel
abbrev cX7_init : ByteArray := prog_9_method_1_code
def yX7_init : MethodName := ⟨RX7, "<init>", "()V"⟩
abbrev cX7_enlist : ByteArray := prog_9_method_2_code
def yX7_enlist : MethodName := ⟨RX7, "enlist", "(J)V"⟩
abbrev cX7_pageAt : ByteArray := prog_9_method_4_code
def yX7_pageAt : MethodName := ⟨RX7, "pageAt", "(I)LSendhouse$Page;"⟩
def RX8 : String := "Sendhouse"
def TX8 : u_T := fun k => match k with
  | 0 => ("Sendhouse", "classes", "LSendhouse$Classes;", true)
  | 1 => ("Sendhouse", "methods", "[LSendhouse$Told;", true)
  | 2 => ("Sendhouse", "typed", "LSendhouse$Rows;", false)
  | 3 => ("Sendhouse", "hot", "I", false)
  | 4 => ("Sendhouse", "globals", "[J", true)
  | 5 => ("Sendhouse", "things", "LSendhouse$Things;", true)
  | 6 => ("Sendhouse", "frames", "[LSendhouse$Frame;", true)
  | 7 => ("Sendhouse", "frameCount", "I", false)
  | 8 => ("Sendhouse", "state", "C", false)
  | 9 => ("Sendhouse", "reason", "C", false)
  | 10 => ("Sendhouse", "answer", "J", false)
  | 11 => ("Sendhouse", "steps", "I", false)
  | _ => ("Sendhouse", "written", "LSendhouse$Written;", true)
def tyX8 : Nat → FieldType := fun k => match k with
  | 0 => .object "Sendhouse$Classes"
  | 1 => .array (.object "Sendhouse$Told")
  | 2 => .object "Sendhouse$Rows"
  | 3 => .int
  | 4 => .array .long
  | 5 => .object "Sendhouse$Things"
  | 6 => .array (.object "Sendhouse$Frame")
  | 7 => .int
  | 8 => .char
  | 9 => .char
  | 10 => .long
  | 11 => .int
  | _ => .object "Sendhouse$Written"
abbrev wsX80 : List Cond := u_ws RX8 TX8 13
theorem nmX8 : ∀ a, a < 13 → ∀ b, b < 13 → a ≠ b → (TX8 a).2.1 ≠ (TX8 b).2.1 := by decide +kernel
theorem tyX8_ok : ∀ k, k < 13 → parseFieldDescriptor (TX8 k).2.2.1 = some (tyX8 k) := by decide +kernel
abbrev cX8_init : ByteArray := prog_1_method_1_code
def yX8_init : MethodName := ⟨RX8, "<init>", "()V"⟩
abbrev cX8_add : ByteArray := prog_1_method_2_code
def yX8_add : MethodName := ⟨RX8, "add", "(II)I"⟩
abbrev cX8_row : ByteArray := prog_1_method_5_code
def yX8_row : MethodName := ⟨RX8, "row", "(CII)I"⟩
abbrev cX8_wipe : ByteArray := prog_1_method_6_code
def yX8_wipe : MethodName := ⟨RX8, "wipe", "()I"⟩
abbrev cX8_method : ByteArray := prog_1_method_7_code
def yX8_method : MethodName := ⟨RX8, "method", "(IIII)I"⟩
abbrev cX8_remove : ByteArray := prog_1_method_8_code
def yX8_remove : MethodName := ⟨RX8, "remove", "(II)I"⟩
abbrev cX8_checkPlaceOfMethod : ByteArray := prog_1_method_11_code
def yX8_checkPlaceOfMethod : MethodName := ⟨RX8, "checkPlaceOfMethod", "(II)V"⟩
abbrev cX8_checkedMethod : ByteArray := prog_1_method_12_code
def yX8_checkedMethod : MethodName := ⟨RX8, "checkedMethod", "(II)LSendhouse$Told;"⟩
abbrev cX8_methodAt : ByteArray := prog_1_method_13_code
def yX8_methodAt : MethodName := ⟨RX8, "methodAt", "(II)LSendhouse$Told;"⟩
abbrev cX8_placeMethod : ByteArray := prog_1_method_14_code
def yX8_placeMethod : MethodName := ⟨RX8, "placeMethod", "(IILSendhouse$Told;)V"⟩
abbrev cX8_lookUp : ByteArray := prog_1_method_15_code
def yX8_lookUp : MethodName := ⟨RX8, "lookUp", "(II)LSendhouse$Told;"⟩
abbrev cX8_compile : ByteArray := prog_1_method_16_code
def yX8_compile : MethodName := ⟨RX8, "compile", "(II)I"⟩
abbrev cX8_hot : ByteArray := prog_1_method_18_code
def yX8_hot : MethodName := ⟨RX8, "hot", "(I)I"⟩
abbrev cX8_countCall : ByteArray := prog_1_method_19_code
def yX8_countCall : MethodName := ⟨RX8, "countCall", "(LSendhouse$Told;)V"⟩
abbrev cX8_compiledMethods : ByteArray := prog_1_method_20_code
def yX8_compiledMethods : MethodName := ⟨RX8, "compiledMethods", "()I"⟩
abbrev cX8_number : ByteArray := prog_1_method_22_code
def yX8_number : MethodName := ⟨RX8, "number", "(II)I"⟩
abbrev cX8_nothing : ByteArray := prog_1_method_23_code
def yX8_nothing : MethodName := ⟨RX8, "nothing", "(I)I"⟩
abbrev cX8_make : ByteArray := prog_1_method_24_code
def yX8_make : MethodName := ⟨RX8, "make", "(II)I"⟩
abbrev cX8_kind : ByteArray := prog_1_method_25_code
def yX8_kind : MethodName := ⟨RX8, "kind", "(I)C"⟩
abbrev cX8_value : ByteArray := prog_1_method_26_code
def yX8_value : MethodName := ⟨RX8, "value", "(I)I"⟩
abbrev cX8_fieldKind : ByteArray := prog_1_method_28_code
def yX8_fieldKind : MethodName := ⟨RX8, "fieldKind", "(II)C"⟩
abbrev cX8_fieldValue : ByteArray := prog_1_method_29_code
def yX8_fieldValue : MethodName := ⟨RX8, "fieldValue", "(II)I"⟩
abbrev cX8_things : ByteArray := prog_1_method_30_code
def yX8_things : MethodName := ⟨RX8, "things", "()I"⟩
abbrev cX8_collect : ByteArray := prog_1_method_31_code
def yX8_collect : MethodName := ⟨RX8, "collect", "()I"⟩
abbrev cX8_checkGlobal : ByteArray := prog_1_method_32_code
def yX8_checkGlobal : MethodName := ⟨RX8, "checkGlobal", "(I)V"⟩
abbrev cX8_checkedField : ByteArray := prog_1_method_33_code
def yX8_checkedField : MethodName := ⟨RX8, "checkedField", "(II)J"⟩
abbrev cX8_reachFrom : ByteArray := prog_1_method_34_code
def yX8_reachFrom : MethodName := ⟨RX8, "reachFrom", "(LSendhouse$Frame;)V"⟩
abbrev cX8_begin : ByteArray := prog_1_method_35_code
def yX8_begin : MethodName := ⟨RX8, "begin", "(IIIII)I"⟩
abbrev cX8_go : ByteArray := prog_1_method_36_code
def yX8_go : MethodName := ⟨RX8, "go", "(I)I"⟩
abbrev cX8_end : ByteArray := prog_1_method_37_code
def yX8_end : MethodName := ⟨RX8, "end", "()I"⟩
abbrev cX8_state : ByteArray := prog_1_method_38_code
def yX8_state : MethodName := ⟨RX8, "state", "()C"⟩
abbrev cX8_reason : ByteArray := prog_1_method_39_code
def yX8_reason : MethodName := ⟨RX8, "reason", "()C"⟩
abbrev cX8_answerKind : ByteArray := prog_1_method_40_code
def yX8_answerKind : MethodName := ⟨RX8, "answerKind", "()C"⟩
abbrev cX8_answer : ByteArray := prog_1_method_41_code
def yX8_answer : MethodName := ⟨RX8, "answer", "()I"⟩
abbrev cX8_frames : ByteArray := prog_1_method_43_code
def yX8_frames : MethodName := ⟨RX8, "frames", "()I"⟩
abbrev cX8_slotKind : ByteArray := prog_1_method_45_code
def yX8_slotKind : MethodName := ⟨RX8, "slotKind", "(ICI)C"⟩
abbrev cX8_slot : ByteArray := prog_1_method_46_code
def yX8_slot : MethodName := ⟨RX8, "slot", "(ICI)I"⟩
abbrev cX8_checkedAnswer : ByteArray := prog_1_method_50_code
def yX8_checkedAnswer : MethodName := ⟨RX8, "checkedAnswer", "()J"⟩
abbrev cX8_checkedFrame : ByteArray := prog_1_method_51_code
def yX8_checkedFrame : MethodName := ⟨RX8, "checkedFrame", "(I)LSendhouse$Frame;"⟩
abbrev cX8_checkedSlot : ByteArray := prog_1_method_52_code
def yX8_checkedSlot : MethodName := ⟨RX8, "checkedSlot", "(ICI)J"⟩
abbrev cX8_frameAt : ByteArray := prog_1_method_54_code
def yX8_frameAt : MethodName := ⟨RX8, "frameAt", "(I)LSendhouse$Frame;"⟩
abbrev cX8_openFrame : ByteArray := prog_1_method_55_code
def yX8_openFrame : MethodName := ⟨RX8, "openFrame", "(LSendhouse$Told;J)LSendhouse$Frame;"⟩
abbrev cX8_isStep : ByteArray := prog_1_method_56_code
def yX8_isStep : MethodName := ⟨RX8, "isStep", "(LSendhouse$Frame;)Z"⟩
abbrev cX8_isGoingThere : ByteArray := prog_1_method_57_code
def yX8_isGoingThere : MethodName := ⟨RX8, "isGoingThere", "(J)Z"⟩
abbrev cX8_doRow : ByteArray := prog_1_method_58_code
def yX8_doRow : MethodName := ⟨RX8, "doRow", "(LSendhouse$Frame;)V"⟩
abbrev cX8_doRowWithoutFault : ByteArray := prog_1_method_59_code
def yX8_doRowWithoutFault : MethodName := ⟨RX8, "doRowWithoutFault", "(LSendhouse$Frame;CI)V"⟩
abbrev cX8_valueToPut : ByteArray := prog_1_method_60_code
def yX8_valueToPut : MethodName := ⟨RX8, "valueToPut", "(LSendhouse$Frame;CI)J"⟩
abbrev cX8_putField : ByteArray := prog_1_method_61_code
def yX8_putField : MethodName := ⟨RX8, "putField", "(LSendhouse$Frame;I)V"⟩
abbrev cX8_takeIntoField : ByteArray := prog_1_method_62_code
def yX8_takeIntoField : MethodName := ⟨RX8, "takeIntoField", "(LSendhouse$Frame;I)V"⟩
abbrev cX8_reckon : ByteArray := prog_1_method_63_code
def yX8_reckon : MethodName := ⟨RX8, "reckon", "(LSendhouse$Frame;C)V"⟩
abbrev cX8_outcome : ByteArray := prog_1_method_64_code
def yX8_outcome : MethodName := ⟨RX8, "outcome", "(CII)I"⟩
abbrev cX8_makeThing : ByteArray := prog_1_method_65_code
def yX8_makeThing : MethodName := ⟨RX8, "makeThing", "(LSendhouse$Frame;I)V"⟩
abbrev cX8_send : ByteArray := prog_1_method_66_code
def yX8_send : MethodName := ⟨RX8, "send", "(LSendhouse$Frame;CII)V"⟩
abbrev cX8_goThereIfNotZero : ByteArray := prog_1_method_67_code
def yX8_goThereIfNotZero : MethodName := ⟨RX8, "goThereIfNotZero", "(LSendhouse$Frame;I)V"⟩
abbrev cX8_giveBack : ByteArray := prog_1_method_68_code
def yX8_giveBack : MethodName := ⟨RX8, "giveBack", "(J)V"⟩
abbrev cX8_fault : ByteArray := prog_1_method_69_code
def yX8_fault : MethodName := ⟨RX8, "fault", "(C)V"⟩
abbrev cX8_checksum : ByteArray := prog_1_method_72_code
def yX8_checksum : MethodName := ⟨RX8, "checksum", "()J"⟩
abbrev cX8_isSound : ByteArray := prog_1_method_73_code
def yX8_isSound : MethodName := ⟨RX8, "isSound", "()Z"⟩
abbrev cX8_plus : ByteArray := prog_1_method_74_code
def yX8_plus : MethodName := ⟨RX8, "plus", "(JJ)J"⟩
abbrev cX8_plusValue : ByteArray := prog_1_method_75_code
def yX8_plusValue : MethodName := ⟨RX8, "plusValue", "(JJ)J"⟩
abbrev cX8_plusThing : ByteArray := prog_1_method_76_code
def yX8_plusThing : MethodName := ⟨RX8, "plusThing", "(JLSendhouse$Thing;)J"⟩
abbrev cX8_plusFrame : ByteArray := prog_1_method_77_code
def yX8_plusFrame : MethodName := ⟨RX8, "plusFrame", "(JLSendhouse$Frame;)J"⟩
abbrev cX8_hasGlobalsThere : ByteArray := prog_1_method_78_code
def yX8_hasGlobalsThere : MethodName := ⟨RX8, "hasGlobalsThere", "()Z"⟩
abbrev cX8_hasFramesThere : ByteArray := prog_1_method_79_code
def yX8_hasFramesThere : MethodName := ⟨RX8, "hasFramesThere", "()Z"⟩
abbrev cX8_hasPlacesThere : ByteArray := prog_1_method_80_code
def yX8_hasPlacesThere : MethodName := ⟨RX8, "hasPlacesThere", "(LSendhouse$Frame;)Z"⟩
abbrev cX8_hasDepthAsTold : ByteArray := prog_1_method_81_code
def yX8_hasDepthAsTold : MethodName := ⟨RX8, "hasDepthAsTold", "()Z"⟩
abbrev cX8_ofNumber : ByteArray := prog_1_method_82_code
def yX8_ofNumber : MethodName := ⟨RX8, "ofNumber", "(I)J"⟩
abbrev cX8_ofThing : ByteArray := prog_1_method_83_code
def yX8_ofThing : MethodName := ⟨RX8, "ofThing", "(I)J"⟩
abbrev cX8_kindOf : ByteArray := prog_1_method_84_code
def yX8_kindOf : MethodName := ⟨RX8, "kindOf", "(J)C"⟩
abbrev cX8_numberOf : ByteArray := prog_1_method_85_code
def yX8_numberOf : MethodName := ⟨RX8, "numberOf", "(J)I"⟩
abbrev cX8_isNumber : ByteArray := prog_1_method_86_code
def yX8_isNumber : MethodName := ⟨RX8, "isNumber", "(J)Z"⟩
abbrev cX8_isThing : ByteArray := prog_1_method_87_code
def yX8_isThing : MethodName := ⟨RX8, "isThing", "(J)Z"⟩
abbrev cX8_placeAt : ByteArray := prog_1_method_88_code
def yX8_placeAt : MethodName := ⟨RX8, "placeAt", "([JI)J"⟩
abbrev cX8_putAt : ByteArray := prog_1_method_89_code
def yX8_putAt : MethodName := ⟨RX8, "putAt", "([JIJ)V"⟩
abbrev cX8_isBelow : ByteArray := prog_1_method_90_code
def yX8_isBelow : MethodName := ⟨RX8, "isBelow", "(II)Z"⟩
abbrev cX8_isOfPlainValues : ByteArray := prog_1_method_91_code
def yX8_isOfPlainValues : MethodName := ⟨RX8, "isOfPlainValues", "(I)Z"⟩
abbrev cX8_isLetter : ByteArray := prog_1_method_92_code
def yX8_isLetter : MethodName := ⟨RX8, "isLetter", "(C)Z"⟩
def RX9 : String := "SendhouseModel$Frame"
def TX9 : u_T := fun k => match k with
  | _ => ("", "", "", false)
def tyX9 : Nat → FieldType := fun k => match k with
  | _ => .int
abbrev wsX90 : List Cond := u_ws RX9 TX9 0
theorem nmX9 : ∀ a, a < 0 → ∀ b, b < 0 → a ≠ b → (TX9 a).2.1 ≠ (TX9 b).2.1 := by decide +kernel
theorem tyX9_ok : ∀ k, k < 0 → parseFieldDescriptor (TX9 k).2.2.1 = some (tyX9 k) := by decide +kernel
def RX10 : String := "SendhouseModel$Kind"
def TX10 : u_T := fun k => match k with
  | _ => ("", "", "", false)
def tyX10 : Nat → FieldType := fun k => match k with
  | _ => .int
abbrev wsX100 : List Cond := u_ws RX10 TX10 0
theorem nmX10 : ∀ a, a < 0 → ∀ b, b < 0 → a ≠ b → (TX10 a).2.1 ≠ (TX10 b).2.1 := by decide +kernel
theorem tyX10_ok : ∀ k, k < 0 → parseFieldDescriptor (TX10 k).2.2.1 = some (tyX10 k) := by decide +kernel
def RX11 : String := "SendhouseModel$Method"
def TX11 : u_T := fun k => match k with
  | _ => ("", "", "", false)
def tyX11 : Nat → FieldType := fun k => match k with
  | _ => .int
abbrev wsX110 : List Cond := u_ws RX11 TX11 0
theorem nmX11 : ∀ a, a < 0 → ∀ b, b < 0 → a ≠ b → (TX11 a).2.1 ≠ (TX11 b).2.1 := by decide +kernel
theorem tyX11_ok : ∀ k, k < 0 → parseFieldDescriptor (TX11 k).2.2.1 = some (tyX11 k) := by decide +kernel
def RX12 : String := "SendhouseModel$Row"
def TX12 : u_T := fun k => match k with
  | _ => ("", "", "", false)
def tyX12 : Nat → FieldType := fun k => match k with
  | _ => .int
abbrev wsX120 : List Cond := u_ws RX12 TX12 0
theorem nmX12 : ∀ a, a < 0 → ∀ b, b < 0 → a ≠ b → (TX12 a).2.1 ≠ (TX12 b).2.1 := by decide +kernel
theorem tyX12_ok : ∀ k, k < 0 → parseFieldDescriptor (TX12 k).2.2.1 = some (tyX12 k) := by decide +kernel
def RX13 : String := "SendhouseModel$Thing"
def TX13 : u_T := fun k => match k with
  | _ => ("", "", "", false)
def tyX13 : Nat → FieldType := fun k => match k with
  | _ => .int
abbrev wsX130 : List Cond := u_ws RX13 TX13 0
theorem nmX13 : ∀ a, a < 0 → ∀ b, b < 0 → a ≠ b → (TX13 a).2.1 ≠ (TX13 b).2.1 := by decide +kernel
theorem tyX13_ok : ∀ k, k < 0 → parseFieldDescriptor (TX13 k).2.2.1 = some (tyX13 k) := by decide +kernel
def RX14 : String := "SendhouseModel$Value"
def TX14 : u_T := fun k => match k with
  | _ => ("", "", "", false)
def tyX14 : Nat → FieldType := fun k => match k with
  | _ => .int
abbrev wsX140 : List Cond := u_ws RX14 TX14 0
theorem nmX14 : ∀ a, a < 0 → ∀ b, b < 0 → a ≠ b → (TX14 a).2.1 ≠ (TX14 b).2.1 := by decide +kernel
theorem tyX14_ok : ∀ k, k < 0 → parseFieldDescriptor (TX14 k).2.2.1 = some (tyX14 k) := by decide +kernel
def RX15 : String := "SendhouseModel"
def TX15 : u_T := fun k => match k with
  | _ => ("", "", "", false)
def tyX15 : Nat → FieldType := fun k => match k with
  | _ => .int
abbrev wsX150 : List Cond := u_ws RX15 TX15 0
theorem nmX15 : ∀ a, a < 0 → ∀ b, b < 0 → a ≠ b → (TX15 a).2.1 ≠ (TX15 b).2.1 := by decide +kernel
theorem tyX15_ok : ∀ k, k < 0 → parseFieldDescriptor (TX15 k).2.2.1 = some (tyX15 k) := by decide +kernel
def RJx145de : String := "java/io/Serializable"
def TJx145de : u_T := fun k => match k with
  | _ => ("", "", "", false)
def tyJx145de : Nat → FieldType := fun k => match k with
  | _ => .int
abbrev wsJx145de0 : List Cond := u_ws RJx145de TJx145de 0
theorem nmJx145de : ∀ a, a < 0 → ∀ b, b < 0 → a ≠ b → (TJx145de a).2.1 ≠ (TJx145de b).2.1 := by decide +kernel
theorem tyJx145de_ok : ∀ k, k < 0 → parseFieldDescriptor (TJx145de k).2.2.1 = some (tyJx145de k) := by decide +kernel
def RJ5 : String := "java/lang/AbstractStringBuilder"
def TJ5 : u_T := fun k => match k with
  | _ => ("", "", "", false)
def tyJ5 : Nat → FieldType := fun k => match k with
  | _ => .int
abbrev wsJ50 : List Cond := u_ws RJ5 TJ5 0
theorem nmJ5 : ∀ a, a < 0 → ∀ b, b < 0 → a ≠ b → (TJ5 a).2.1 ≠ (TJ5 b).2.1 := by decide +kernel
theorem tyJ5_ok : ∀ k, k < 0 → parseFieldDescriptor (TJ5 k).2.2.1 = some (tyJ5 k) := by decide +kernel
abbrev cJ5_init_d00df : ByteArray := prog_19_method_2_code
def yJ5_init_d00df : MethodName := ⟨RJ5, "<init>", "(I)V"⟩
abbrev cJ5_length_8abf5 : ByteArray := prog_19_method_6_code
def yJ5_length_8abf5 : MethodName := ⟨RJ5, "length", "()I"⟩
abbrev cJ5_ensureCapacityInternal_d00df : ByteArray := prog_19_method_9_code
def yJ5_ensureCapacityInternal_d00df : MethodName := ⟨RJ5, "ensureCapacityInternal", "(I)V"⟩
abbrev cJ5_newCapacity_0f7a4 : ByteArray := prog_19_method_10_code
def yJ5_newCapacity_0f7a4 : MethodName := ⟨RJ5, "newCapacity", "(I)I"⟩
abbrev cJ5_inflate_da8c8 : ByteArray := prog_19_method_11_code
def yJ5_inflate_da8c8 : MethodName := ⟨RJ5, "inflate", "()V"⟩
abbrev cJ5_append_cf1ce : ByteArray := prog_19_method_22_code
def yJ5_append_cf1ce : MethodName := ⟨RJ5, "append", "(Ljava/lang/String;)Ljava/lang/AbstractStringBuilder;"⟩
abbrev cJ5_appendNull_278bc : ByteArray := prog_19_method_26_code
def yJ5_appendNull_278bc : MethodName := ⟨RJ5, "appendNull", "()Ljava/lang/AbstractStringBuilder;"⟩
abbrev cJ5_append_c97b9 : ByteArray := prog_19_method_32_code
def yJ5_append_c97b9 : MethodName := ⟨RJ5, "append", "(I)Ljava/lang/AbstractStringBuilder;"⟩
abbrev cJ5_getValue_6d5f1 : ByteArray := prog_19_method_64_code
def yJ5_getValue_6d5f1 : MethodName := ⟨RJ5, "getValue", "()[B"⟩
abbrev cJ5_isLatin1_aae02 : ByteArray := prog_19_method_68_code
def yJ5_isLatin1_aae02 : MethodName := ⟨RJ5, "isLatin1", "()Z"⟩
abbrev cJ5_inflateIfNeededFor_a7421 : ByteArray := prog_19_method_71_code
def yJ5_inflateIfNeededFor_a7421 : MethodName := ⟨RJ5, "inflateIfNeededFor", "(Ljava/lang/String;)V"⟩
abbrev cJ5_putStringAt_47b60 : ByteArray := prog_19_method_73_code
def yJ5_putStringAt_47b60 : MethodName := ⟨RJ5, "putStringAt", "(ILjava/lang/String;)V"⟩
def RJx2cfe8 : String := "java/lang/Appendable"
def TJx2cfe8 : u_T := fun k => match k with
  | _ => ("", "", "", false)
def tyJx2cfe8 : Nat → FieldType := fun k => match k with
  | _ => .int
abbrev wsJx2cfe80 : List Cond := u_ws RJx2cfe8 TJx2cfe8 0
theorem nmJx2cfe8 : ∀ a, a < 0 → ∀ b, b < 0 → a ≠ b → (TJx2cfe8 a).2.1 ≠ (TJx2cfe8 b).2.1 := by decide +kernel
theorem tyJx2cfe8_ok : ∀ k, k < 0 → parseFieldDescriptor (TJx2cfe8 k).2.2.1 = some (tyJx2cfe8 k) := by decide +kernel
def RJx00060 : String := "java/lang/ArrayIndexOutOfBoundsException"
def TJx00060 : u_T := fun k => match k with
  | 0 => ("java/lang/Throwable", "backtrace", "Ljava/lang/Object;", false)
  | 1 => ("java/lang/Throwable", "detailMessage", "Ljava/lang/String;", false)
  | 2 => ("java/lang/Throwable", "cause", "Ljava/lang/Throwable;", false)
  | 3 => ("java/lang/Throwable", "stackTrace", "[Ljava/lang/StackTraceElement;", false)
  | 4 => ("java/lang/Throwable", "depth", "I", false)
  | _ => ("java/lang/Throwable", "suppressedExceptions", "Ljava/util/List;", false)
def tyJx00060 : Nat → FieldType := fun k => match k with
  | 0 => .object "java/lang/Object"
  | 1 => .object "java/lang/String"
  | 2 => .object "java/lang/Throwable"
  | 3 => .array (.object "java/lang/StackTraceElement")
  | 4 => .int
  | _ => .object "java/util/List"
abbrev wsJx000600 : List Cond := u_ws RJx00060 TJx00060 6
theorem nmJx00060 : ∀ a, a < 6 → ∀ b, b < 6 → a ≠ b → (TJx00060 a).2.1 ≠ (TJx00060 b).2.1 := by decide +kernel
theorem tyJx00060_ok : ∀ k, k < 6 → parseFieldDescriptor (TJx00060 k).2.2.1 = some (tyJx00060 k) := by decide +kernel
abbrev cJx00060_init_a7421 : ByteArray := prog_21_method_2_code
def yJx00060_init_a7421 : MethodName := ⟨RJx00060, "<init>", "(Ljava/lang/String;)V"⟩
def RJx9f9b0 : String := "java/lang/CharSequence"
def TJx9f9b0 : u_T := fun k => match k with
  | _ => ("", "", "", false)
def tyJx9f9b0 : Nat → FieldType := fun k => match k with
  | _ => .int
abbrev wsJx9f9b00 : List Cond := u_ws RJx9f9b0 TJx9f9b0 0
theorem nmJx9f9b0 : ∀ a, a < 0 → ∀ b, b < 0 → a ≠ b → (TJx9f9b0 a).2.1 ≠ (TJx9f9b0 b).2.1 := by decide +kernel
theorem tyJx9f9b0_ok : ∀ k, k < 0 → parseFieldDescriptor (TJx9f9b0 k).2.2.1 = some (tyJx9f9b0 k) := by decide +kernel
def RJ11 : String := "java/lang/Character"
def TJ11 : u_T := fun k => match k with
  | _ => ("", "", "", false)
def tyJ11 : Nat → FieldType := fun k => match k with
  | _ => .int
abbrev wsJ110 : List Cond := u_ws RJ11 TJ11 0
theorem nmJ11 : ∀ a, a < 0 → ∀ b, b < 0 → a ≠ b → (TJ11 a).2.1 ≠ (TJ11 b).2.1 := by decide +kernel
theorem tyJ11_ok : ∀ k, k < 0 → parseFieldDescriptor (TJ11 k).2.2.1 = some (tyJ11 k) := by decide +kernel
abbrev cJ11_isValidCodePoint_9a6ad : ByteArray := prog_23_method_11_code
def yJ11_isValidCodePoint_9a6ad : MethodName := ⟨RJ11, "isValidCodePoint", "(I)Z"⟩
abbrev cJ11_highSurrogate_5068e : ByteArray := prog_23_method_28_code
def yJ11_highSurrogate_5068e : MethodName := ⟨RJ11, "highSurrogate", "(I)C"⟩
abbrev cJ11_lowSurrogate_5068e : ByteArray := prog_23_method_29_code
def yJ11_lowSurrogate_5068e : MethodName := ⟨RJ11, "lowSurrogate", "(I)C"⟩
abbrev cJ11_digit_89a06 : ByteArray := prog_23_method_79_code
def yJ11_digit_89a06 : MethodName := ⟨RJ11, "digit", "(CI)I"⟩
abbrev cJ11_digit_7cf53 : ByteArray := prog_23_method_80_code
def yJ11_digit_7cf53 : MethodName := ⟨RJ11, "digit", "(II)I"⟩
def RJxdca23 : String := "java/lang/CharacterData"
def TJxdca23 : u_T := fun k => match k with
  | _ => ("", "", "", false)
def tyJxdca23 : Nat → FieldType := fun k => match k with
  | _ => .int
abbrev wsJxdca230 : List Cond := u_ws RJxdca23 TJxdca23 0
theorem nmJxdca23 : ∀ a, a < 0 → ∀ b, b < 0 → a ≠ b → (TJxdca23 a).2.1 ≠ (TJxdca23 b).2.1 := by decide +kernel
theorem tyJxdca23_ok : ∀ k, k < 0 → parseFieldDescriptor (TJxdca23 k).2.2.1 = some (tyJxdca23 k) := by decide +kernel
abbrev cJxdca23_of_064ba : ByteArray := prog_24_method_30_code
def yJxdca23_of_064ba : MethodName := ⟨RJxdca23, "of", "(I)Ljava/lang/CharacterData;"⟩
def RJ12 : String := "java/lang/CharacterDataLatin1"
def TJ12 : u_T := fun k => match k with
  | _ => ("", "", "", false)
def tyJ12 : Nat → FieldType := fun k => match k with
  | _ => .int
abbrev wsJ120 : List Cond := u_ws RJ12 TJ12 0
theorem nmJ12 : ∀ a, a < 0 → ∀ b, b < 0 → a ≠ b → (TJ12 a).2.1 ≠ (TJ12 b).2.1 := by decide +kernel
theorem tyJ12_ok : ∀ k, k < 0 → parseFieldDescriptor (TJ12 k).2.2.1 = some (tyJ12 k) := by decide +kernel
abbrev cJ12_digit_7cf53 : ByteArray := prog_25_method_24_code
def yJ12_digit_7cf53 : MethodName := ⟨RJ12, "digit", "(II)I"⟩
def RJx8e188 : String := "java/lang/Cloneable"
def TJx8e188 : u_T := fun k => match k with
  | _ => ("", "", "", false)
def tyJx8e188 : Nat → FieldType := fun k => match k with
  | _ => .int
abbrev wsJx8e1880 : List Cond := u_ws RJx8e188 TJx8e188 0
theorem nmJx8e188 : ∀ a, a < 0 → ∀ b, b < 0 → a ≠ b → (TJx8e188 a).2.1 ≠ (TJx8e188 b).2.1 := by decide +kernel
theorem tyJx8e188_ok : ∀ k, k < 0 → parseFieldDescriptor (TJx8e188 k).2.2.1 = some (tyJx8e188 k) := by decide +kernel
def RJxb160c : String := "java/lang/Comparable"
def TJxb160c : u_T := fun k => match k with
  | _ => ("", "", "", false)
def tyJxb160c : Nat → FieldType := fun k => match k with
  | _ => .int
abbrev wsJxb160c0 : List Cond := u_ws RJxb160c TJxb160c 0
theorem nmJxb160c : ∀ a, a < 0 → ∀ b, b < 0 → a ≠ b → (TJxb160c a).2.1 ≠ (TJxb160c b).2.1 := by decide +kernel
theorem tyJxb160c_ok : ∀ k, k < 0 → parseFieldDescriptor (TJxb160c k).2.2.1 = some (tyJxb160c k) := by decide +kernel
def RJ6 : String := "java/lang/Integer"
def TJ6 : u_T := fun k => match k with
  | _ => ("", "", "", false)
def tyJ6 : Nat → FieldType := fun k => match k with
  | _ => .int
abbrev wsJ60 : List Cond := u_ws RJ6 TJ6 0
theorem nmJ6 : ∀ a, a < 0 → ∀ b, b < 0 → a ≠ b → (TJ6 a).2.1 ≠ (TJ6 b).2.1 := by decide +kernel
theorem tyJ6_ok : ∀ k, k < 0 → parseFieldDescriptor (TJ6 k).2.2.1 = some (tyJ6 k) := by decide +kernel
abbrev cJ6_getChars_ba4f3 : ByteArray := prog_32_method_12_code
def yJ6_getChars_ba4f3 : MethodName := ⟨RJ6, "getChars", "(II[B)I"⟩
abbrev cJ6_stringSize_0f7a4 : ByteArray := prog_32_method_13_code
def yJ6_stringSize_0f7a4 : MethodName := ⟨RJ6, "stringSize", "(I)I"⟩
abbrev cJ6_parseInt_ccf00 : ByteArray := prog_32_method_14_code
def yJ6_parseInt_ccf00 : MethodName := ⟨RJ6, "parseInt", "(Ljava/lang/String;I)I"⟩
abbrev cJ6_parseInt_2f485 : ByteArray := prog_32_method_16_code
def yJ6_parseInt_2f485 : MethodName := ⟨RJ6, "parseInt", "(Ljava/lang/String;)I"⟩
def RJxab1ab : String := "java/lang/Iterable"
def TJxab1ab : u_T := fun k => match k with
  | _ => ("", "", "", false)
def tyJxab1ab : Nat → FieldType := fun k => match k with
  | _ => .int
abbrev wsJxab1ab0 : List Cond := u_ws RJxab1ab TJxab1ab 0
theorem nmJxab1ab : ∀ a, a < 0 → ∀ b, b < 0 → a ≠ b → (TJxab1ab a).2.1 ≠ (TJxab1ab b).2.1 := by decide +kernel
theorem tyJxab1ab_ok : ∀ k, k < 0 → parseFieldDescriptor (TJxab1ab k).2.2.1 = some (tyJxab1ab k) := by decide +kernel
def RJ9 : String := "java/lang/Math"
def TJ9 : u_T := fun k => match k with
  | _ => ("", "", "", false)
def tyJ9 : Nat → FieldType := fun k => match k with
  | _ => .int
abbrev wsJ90 : List Cond := u_ws RJ9 TJ9 0
theorem nmJ9 : ∀ a, a < 0 → ∀ b, b < 0 → a ≠ b → (TJ9 a).2.1 ≠ (TJ9 b).2.1 := by decide +kernel
theorem tyJ9_ok : ∀ k, k < 0 → parseFieldDescriptor (TJ9 k).2.2.1 = some (tyJ9 k) := by decide +kernel
abbrev cJ9_max_7cf53 : ByteArray := prog_34_method_65_code
def yJ9_max_7cf53 : MethodName := ⟨RJ9, "max", "(II)I"⟩
abbrev cJ9_min_7cf53 : ByteArray := prog_34_method_69_code
def yJ9_min_7cf53 : MethodName := ⟨RJ9, "min", "(II)I"⟩
def RJxd2413 : String := "java/lang/Number"
def TJxd2413 : u_T := fun k => match k with
  | _ => ("", "", "", false)
def tyJxd2413 : Nat → FieldType := fun k => match k with
  | _ => .int
abbrev wsJxd24130 : List Cond := u_ws RJxd2413 TJxd2413 0
theorem nmJxd2413 : ∀ a, a < 0 → ∀ b, b < 0 → a ≠ b → (TJxd2413 a).2.1 ≠ (TJxd2413 b).2.1 := by decide +kernel
theorem tyJxd2413_ok : ∀ k, k < 0 → parseFieldDescriptor (TJxd2413 k).2.2.1 = some (tyJxd2413 k) := by decide +kernel
def RJxe14f1 : String := "java/lang/NumberFormatException"
def TJxe14f1 : u_T := fun k => match k with
  | 0 => ("java/lang/Throwable", "backtrace", "Ljava/lang/Object;", false)
  | 1 => ("java/lang/Throwable", "detailMessage", "Ljava/lang/String;", false)
  | 2 => ("java/lang/Throwable", "cause", "Ljava/lang/Throwable;", false)
  | 3 => ("java/lang/Throwable", "stackTrace", "[Ljava/lang/StackTraceElement;", false)
  | 4 => ("java/lang/Throwable", "depth", "I", false)
  | _ => ("java/lang/Throwable", "suppressedExceptions", "Ljava/util/List;", false)
def tyJxe14f1 : Nat → FieldType := fun k => match k with
  | 0 => .object "java/lang/Object"
  | 1 => .object "java/lang/String"
  | 2 => .object "java/lang/Throwable"
  | 3 => .array (.object "java/lang/StackTraceElement")
  | 4 => .int
  | _ => .object "java/util/List"
abbrev wsJxe14f10 : List Cond := u_ws RJxe14f1 TJxe14f1 6
theorem nmJxe14f1 : ∀ a, a < 6 → ∀ b, b < 6 → a ≠ b → (TJxe14f1 a).2.1 ≠ (TJxe14f1 b).2.1 := by decide +kernel
theorem tyJxe14f1_ok : ∀ k, k < 6 → parseFieldDescriptor (TJxe14f1 k).2.2.1 = some (tyJxe14f1 k) := by decide +kernel
abbrev cJxe14f1_init_a7421 : ByteArray := prog_36_method_2_code
def yJxe14f1_init_a7421 : MethodName := ⟨RJxe14f1, "<init>", "(Ljava/lang/String;)V"⟩
abbrev cJxe14f1_forInputString_398dd : ByteArray := prog_36_method_3_code
def yJxe14f1_forInputString_398dd : MethodName := ⟨RJxe14f1, "forInputString", "(Ljava/lang/String;I)Ljava/lang/NumberFormatException;"⟩
def RJ0 : String := "java/lang/String"
def TJ0 : u_T := fun k => match k with
  | 0 => ("java/lang/String", "value", "[B", true)
  | 1 => ("java/lang/String", "coder", "B", true)
  | 2 => ("java/lang/String", "hash", "I", false)
  | _ => ("java/lang/String", "hashIsZero", "Z", false)
def tyJ0 : Nat → FieldType := fun k => match k with
  | 0 => .array .byte
  | 1 => .byte
  | 2 => .int
  | _ => .boolean
abbrev wsJ00 : List Cond := u_ws RJ0 TJ0 4
theorem nmJ0 : ∀ a, a < 4 → ∀ b, b < 4 → a ≠ b → (TJ0 a).2.1 ≠ (TJ0 b).2.1 := by decide +kernel
theorem tyJ0_ok : ∀ k, k < 4 → parseFieldDescriptor (TJ0 k).2.2.1 = some (tyJ0 k) := by decide +kernel
abbrev cJ0_init_81219 : ByteArray := prog_38_method_53_code
def yJ0_init_81219 : MethodName := ⟨RJ0, "<init>", "(Ljava/lang/StringBuilder;)V"⟩
abbrev cJ0_length_8abf5 : ByteArray := prog_38_method_54_code
def yJ0_length_8abf5 : MethodName := ⟨RJ0, "length", "()I"⟩
abbrev cJ0_isEmpty_aae02 : ByteArray := prog_38_method_55_code
def yJ0_isEmpty_aae02 : MethodName := ⟨RJ0, "isEmpty", "()Z"⟩
abbrev cJ0_charAt_5068e : ByteArray := prog_38_method_56_code
def yJ0_charAt_5068e : MethodName := ⟨RJ0, "charAt", "(I)C"⟩
abbrev cJ0_indexOf_0f7a4 : ByteArray := prog_38_method_79_code
def yJ0_indexOf_0f7a4 : MethodName := ⟨RJ0, "indexOf", "(I)I"⟩
abbrev cJ0_indexOf_7cf53 : ByteArray := prog_38_method_80_code
def yJ0_indexOf_7cf53 : MethodName := ⟨RJ0, "indexOf", "(II)I"⟩
abbrev cJ0_substring_b52d3 : ByteArray := prog_38_method_91_code
def yJ0_substring_b52d3 : MethodName := ⟨RJ0, "substring", "(I)Ljava/lang/String;"⟩
abbrev cJ0_substring_37a41 : ByteArray := prog_38_method_92_code
def yJ0_substring_37a41 : MethodName := ⟨RJ0, "substring", "(II)Ljava/lang/String;"⟩
abbrev cJ0_split_1b221 : ByteArray := prog_38_method_103_code
def yJ0_split_1b221 : MethodName := ⟨RJ0, "split", "(Ljava/lang/String;IZ)[Ljava/lang/String;"⟩
abbrev cJ0_split_f8566 : ByteArray := prog_38_method_104_code
def yJ0_split_f8566 : MethodName := ⟨RJ0, "split", "(CIZ)[Ljava/lang/String;"⟩
abbrev cJ0_split_19a83 : ByteArray := prog_38_method_105_code
def yJ0_split_19a83 : MethodName := ⟨RJ0, "split", "(Ljava/lang/String;)[Ljava/lang/String;"⟩
abbrev cJ0_valueOf_756af : ByteArray := prog_38_method_139_code
def yJ0_valueOf_756af : MethodName := ⟨RJ0, "valueOf", "(C)Ljava/lang/String;"⟩
abbrev cJ0_getBytes_840e7 : ByteArray := prog_38_method_147_code
def yJ0_getBytes_840e7 : MethodName := ⟨RJ0, "getBytes", "([BIB)V"⟩
abbrev cJ0_init_db425 : ByteArray := prog_38_method_150_code
def yJ0_init_db425 : MethodName := ⟨RJ0, "<init>", "(Ljava/lang/AbstractStringBuilder;Ljava/lang/Void;)V"⟩
abbrev cJ0_init_031fb : ByteArray := prog_38_method_151_code
def yJ0_init_031fb : MethodName := ⟨RJ0, "<init>", "([BB)V"⟩
abbrev cJ0_coder_7d493 : ByteArray := prog_38_method_152_code
def yJ0_coder_7d493 : MethodName := ⟨RJ0, "coder", "()B"⟩
abbrev cJ0_isLatin1_aae02 : ByteArray := prog_38_method_154_code
def yJ0_isLatin1_aae02 : MethodName := ⟨RJ0, "isLatin1", "()Z"⟩
abbrev cJ0_checkIndex_df160 : ByteArray := prog_38_method_155_code
def yJ0_checkIndex_df160 : MethodName := ⟨RJ0, "checkIndex", "(II)V"⟩
abbrev cJ0_checkBoundsOffCount_cabcc : ByteArray := prog_38_method_157_code
def yJ0_checkBoundsOffCount_cabcc : MethodName := ⟨RJ0, "checkBoundsOffCount", "(III)I"⟩
abbrev cJ0_checkBoundsBeginEnd_23922 : ByteArray := prog_38_method_158_code
def yJ0_checkBoundsBeginEnd_23922 : MethodName := ⟨RJ0, "checkBoundsBeginEnd", "(III)V"⟩
def RJ4 : String := "java/lang/StringBuilder"
def TJ4 : u_T := fun k => match k with
  | 0 => ("java/lang/AbstractStringBuilder", "value", "[B", false)
  | 1 => ("java/lang/AbstractStringBuilder", "coder", "B", false)
  | 2 => ("java/lang/AbstractStringBuilder", "maybeLatin1", "Z", false)
  | _ => ("java/lang/AbstractStringBuilder", "count", "I", false)
def tyJ4 : Nat → FieldType := fun k => match k with
  | 0 => .array .byte
  | 1 => .byte
  | 2 => .boolean
  | _ => .int
abbrev wsJ40 : List Cond := u_ws RJ4 TJ4 4
theorem nmJ4 : ∀ a, a < 4 → ∀ b, b < 4 → a ≠ b → (TJ4 a).2.1 ≠ (TJ4 b).2.1 := by decide +kernel
theorem tyJ4_ok : ∀ k, k < 4 → parseFieldDescriptor (TJ4 k).2.2.1 = some (tyJ4 k) := by decide +kernel
abbrev cJ4_init_da8c8 : ByteArray := prog_39_method_1_code
def yJ4_init_da8c8 : MethodName := ⟨RJ4, "<init>", "()V"⟩
abbrev cJ4_append_15ec4 : ByteArray := prog_39_method_7_code
def yJ4_append_15ec4 : MethodName := ⟨RJ4, "append", "(Ljava/lang/String;)Ljava/lang/StringBuilder;"⟩
abbrev cJ4_append_bf812 : ByteArray := prog_39_method_15_code
def yJ4_append_bf812 : MethodName := ⟨RJ4, "append", "(I)Ljava/lang/StringBuilder;"⟩
abbrev cJ4_toString_0e30d : ByteArray := prog_39_method_42_code
def yJ4_toString_0e30d : MethodName := ⟨RJ4, "toString", "()Ljava/lang/String;"⟩
abbrev cJ4_length_8abf5 : ByteArray := prog_39_method_93_code
def yJ4_length_8abf5 : MethodName := ⟨RJ4, "length", "()I"⟩
def RJ1 : String := "java/lang/StringLatin1"
def TJ1 : u_T := fun k => match k with
  | _ => ("", "", "", false)
def tyJ1 : Nat → FieldType := fun k => match k with
  | _ => .int
abbrev wsJ10 : List Cond := u_ws RJ1 TJ1 0
theorem nmJ1 : ∀ a, a < 0 → ∀ b, b < 0 → a ≠ b → (TJ1 a).2.1 ≠ (TJ1 b).2.1 := by decide +kernel
theorem tyJ1_ok : ∀ k, k < 0 → parseFieldDescriptor (TJ1 k).2.2.1 = some (tyJ1 k) := by decide +kernel
abbrev cJ1_charAt_3b067 : ByteArray := prog_40_method_2_code
def yJ1_charAt_3b067 : MethodName := ⟨RJ1, "charAt", "([BI)C"⟩
abbrev cJ1_canEncode_fc78d : ByteArray := prog_40_method_3_code
def yJ1_canEncode_fc78d : MethodName := ⟨RJ1, "canEncode", "(C)Z"⟩
abbrev cJ1_canEncode_9a6ad : ByteArray := prog_40_method_4_code
def yJ1_canEncode_9a6ad : MethodName := ⟨RJ1, "canEncode", "(I)Z"⟩
abbrev cJ1_indexOf_4cfef : ByteArray := prog_40_method_22_code
def yJ1_indexOf_4cfef : MethodName := ⟨RJ1, "indexOf", "([BIII)I"⟩
abbrev cJ1_indexOfChar_4cfef : ByteArray := prog_40_method_23_code
def yJ1_indexOfChar_4cfef : MethodName := ⟨RJ1, "indexOfChar", "([BIII)I"⟩
abbrev cJ1_toBytes_a14e5 : ByteArray := prog_40_method_46_code
def yJ1_toBytes_a14e5 : MethodName := ⟨RJ1, "toBytes", "(C)[B"⟩
abbrev cJ1_newString_b4f7a : ByteArray := prog_40_method_47_code
def yJ1_newString_b4f7a : MethodName := ⟨RJ1, "newString", "([BII)Ljava/lang/String;"⟩
abbrev cJ1_inflate_0e8fd : ByteArray := prog_40_method_50_code
def yJ1_inflate_0e8fd : MethodName := ⟨RJ1, "inflate", "([BI[BII)V"⟩
def RJ2 : String := "java/lang/StringUTF16"
def TJ2 : u_T := fun k => match k with
  | _ => ("", "", "", false)
def tyJ2 : Nat → FieldType := fun k => match k with
  | _ => .int
abbrev wsJ20 : List Cond := u_ws RJ2 TJ2 0
theorem nmJ2 : ∀ a, a < 0 → ∀ b, b < 0 → a ≠ b → (TJ2 a).2.1 ≠ (TJ2 b).2.1 := by decide +kernel
theorem tyJ2_ok : ∀ k, k < 0 → parseFieldDescriptor (TJ2 k).2.2.1 = some (tyJ2 k) := by decide +kernel
abbrev cJ2_newBytesFor_77867 : ByteArray := prog_41_method_2_code
def yJ2_newBytesFor_77867 : MethodName := ⟨RJ2, "newBytesFor", "(I)[B"⟩
abbrev cJ2_newBytesLength_0f7a4 : ByteArray := prog_41_method_3_code
def yJ2_newBytesLength_0f7a4 : MethodName := ⟨RJ2, "newBytesLength", "(I)I"⟩
abbrev cJ2_putChar_b72d1 : ByteArray := prog_41_method_4_code
def yJ2_putChar_b72d1 : MethodName := ⟨RJ2, "putChar", "([BII)V"⟩
abbrev cJ2_getChar_3b067 : ByteArray := prog_41_method_5_code
def yJ2_getChar_3b067 : MethodName := ⟨RJ2, "getChar", "([BI)C"⟩
abbrev cJ2_length_9d52b : ByteArray := prog_41_method_6_code
def yJ2_length_9d52b : MethodName := ⟨RJ2, "length", "([B)I"⟩
abbrev cJ2_coderFromArrayLen_85cad : ByteArray := prog_41_method_15_code
def yJ2_coderFromArrayLen_85cad : MethodName := ⟨RJ2, "coderFromArrayLen", "([BI)B"⟩
abbrev cJ2_compress_39247 : ByteArray := prog_41_method_17_code
def yJ2_compress_39247 : MethodName := ⟨RJ2, "compress", "([BII)[B"⟩
abbrev cJ2_compress_5af95 : ByteArray := prog_41_method_22_code
def yJ2_compress_5af95 : MethodName := ⟨RJ2, "compress", "([BI[BII)I"⟩
abbrev cJ2_toBytes_a14e5 : ByteArray := prog_41_method_24_code
def yJ2_toBytes_a14e5 : MethodName := ⟨RJ2, "toBytes", "(C)[B"⟩
abbrev cJ2_indexOf_4cfef : ByteArray := prog_41_method_40_code
def yJ2_indexOf_4cfef : MethodName := ⟨RJ2, "indexOf", "([BIII)I"⟩
abbrev cJ2_indexOfChar_4cfef : ByteArray := prog_41_method_47_code
def yJ2_indexOfChar_4cfef : MethodName := ⟨RJ2, "indexOfChar", "([BIII)I"⟩
abbrev cJ2_indexOfCharUnsafe_4cfef : ByteArray := prog_41_method_48_code
def yJ2_indexOfCharUnsafe_4cfef : MethodName := ⟨RJ2, "indexOfCharUnsafe", "([BIII)I"⟩
abbrev cJ2_indexOfSupplementary_4cfef : ByteArray := prog_41_method_49_code
def yJ2_indexOfSupplementary_4cfef : MethodName := ⟨RJ2, "indexOfSupplementary", "([BIII)I"⟩
abbrev cJ2_newString_b4f7a : ByteArray := prog_41_method_69_code
def yJ2_newString_b4f7a : MethodName := ⟨RJ2, "newString", "([BII)Ljava/lang/String;"⟩
abbrev cJ2_getChars_46870 : ByteArray := prog_41_method_77_code
def yJ2_getChars_46870 : MethodName := ⟨RJ2, "getChars", "(III[B)I"⟩
abbrev cJ2_putCharsAt_cd4e5 : ByteArray := prog_41_method_81_code
def yJ2_putCharsAt_cd4e5 : MethodName := ⟨RJ2, "putCharsAt", "([BICCCC)I"⟩
abbrev cJ2_charAt_3b067 : ByteArray := prog_41_method_83_code
def yJ2_charAt_3b067 : MethodName := ⟨RJ2, "charAt", "([BI)C"⟩
abbrev cJ2_inflate_0e8fd : ByteArray := prog_41_method_86_code
def yJ2_inflate_0e8fd : MethodName := ⟨RJ2, "inflate", "([BI[BII)V"⟩
abbrev cJ2_getChars_ba4f3 : ByteArray := prog_41_method_89_code
def yJ2_getChars_ba4f3 : MethodName := ⟨RJ2, "getChars", "(II[B)I"⟩
abbrev cJ2_checkIndex_2214a : ByteArray := prog_41_method_91_code
def yJ2_checkIndex_2214a : MethodName := ⟨RJ2, "checkIndex", "(I[B)V"⟩
abbrev cJ2_checkBoundsBeginEnd_d044e : ByteArray := prog_41_method_93_code
def yJ2_checkBoundsBeginEnd_d044e : MethodName := ⟨RJ2, "checkBoundsBeginEnd", "(II[B)V"⟩
abbrev cJ2_checkBoundsOffCount_d044e : ByteArray := prog_41_method_94_code
def yJ2_checkBoundsOffCount_d044e : MethodName := ⟨RJ2, "checkBoundsOffCount", "(II[B)V"⟩
def RJ10 : String := "java/lang/System"
def TJ10 : u_T := fun k => match k with
  | _ => ("", "", "", false)
def tyJ10 : Nat → FieldType := fun k => match k with
  | _ => .int
abbrev wsJ100 : List Cond := u_ws RJ10 TJ10 0
theorem nmJ10 : ∀ a, a < 0 → ∀ b, b < 0 → a ≠ b → (TJ10 a).2.1 ≠ (TJ10 b).2.1 := by decide +kernel
theorem tyJ10_ok : ∀ k, k < 0 → parseFieldDescriptor (TJ10 k).2.2.1 = some (tyJ10 k) := by decide +kernel
def RJxfd54e : String := "java/lang/constant/Constable"
def TJxfd54e : u_T := fun k => match k with
  | _ => ("", "", "", false)
def tyJxfd54e : Nat → FieldType := fun k => match k with
  | _ => .int
abbrev wsJxfd54e0 : List Cond := u_ws RJxfd54e TJxfd54e 0
theorem nmJxfd54e : ∀ a, a < 0 → ∀ b, b < 0 → a ≠ b → (TJxfd54e a).2.1 ≠ (TJxfd54e b).2.1 := by decide +kernel
theorem tyJxfd54e_ok : ∀ k, k < 0 → parseFieldDescriptor (TJxfd54e k).2.2.1 = some (tyJxfd54e k) := by decide +kernel
def RJx3cf43 : String := "java/lang/constant/ConstantDesc"
def TJx3cf43 : u_T := fun k => match k with
  | _ => ("", "", "", false)
def tyJx3cf43 : Nat → FieldType := fun k => match k with
  | _ => .int
abbrev wsJx3cf430 : List Cond := u_ws RJx3cf43 TJx3cf43 0
theorem nmJx3cf43 : ∀ a, a < 0 → ∀ b, b < 0 → a ≠ b → (TJx3cf43 a).2.1 ≠ (TJx3cf43 b).2.1 := by decide +kernel
theorem tyJx3cf43_ok : ∀ k, k < 0 → parseFieldDescriptor (TJx3cf43 k).2.2.1 = some (tyJx3cf43 k) := by decide +kernel
def RJxa1e45 : String := "java/util/AbstractCollection"
def TJxa1e45 : u_T := fun k => match k with
  | _ => ("", "", "", false)
def tyJxa1e45 : Nat → FieldType := fun k => match k with
  | _ => .int
abbrev wsJxa1e450 : List Cond := u_ws RJxa1e45 TJxa1e45 0
theorem nmJxa1e45 : ∀ a, a < 0 → ∀ b, b < 0 → a ≠ b → (TJxa1e45 a).2.1 ≠ (TJxa1e45 b).2.1 := by decide +kernel
theorem tyJxa1e45_ok : ∀ k, k < 0 → parseFieldDescriptor (TJxa1e45 k).2.2.1 = some (tyJxa1e45 k) := by decide +kernel
abbrev cJxa1e45_init_da8c8 : ByteArray := prog_47_method_1_code
def yJxa1e45_init_da8c8 : MethodName := ⟨RJxa1e45, "<init>", "()V"⟩
def RJxc12de : String := "java/util/AbstractList"
def TJxc12de : u_T := fun k => match k with
  | _ => ("", "", "", false)
def tyJxc12de : Nat → FieldType := fun k => match k with
  | _ => .int
abbrev wsJxc12de0 : List Cond := u_ws RJxc12de TJxc12de 0
theorem nmJxc12de : ∀ a, a < 0 → ∀ b, b < 0 → a ≠ b → (TJxc12de a).2.1 ≠ (TJxc12de b).2.1 := by decide +kernel
theorem tyJxc12de_ok : ∀ k, k < 0 → parseFieldDescriptor (TJxc12de k).2.2.1 = some (tyJxc12de k) := by decide +kernel
abbrev cJxc12de_init_da8c8 : ByteArray := prog_48_method_1_code
def yJxc12de_init_da8c8 : MethodName := ⟨RJxc12de, "<init>", "()V"⟩
abbrev cJxc12de_subListRangeCheck_23922 : ByteArray := prog_48_method_15_code
def yJxc12de_subListRangeCheck_23922 : MethodName := ⟨RJxc12de, "subListRangeCheck", "(III)V"⟩
def RJxc9f04 : String := "java/util/ArrayList$SubList"
def TJxc9f04 : u_T := fun k => match k with
  | 0 => ("java/util/AbstractList", "modCount", "I", false)
  | 1 => ("java/util/ArrayList$SubList", "root", "Ljava/util/ArrayList;", true)
  | 2 => ("java/util/ArrayList$SubList", "parent", "Ljava/util/ArrayList$SubList;", true)
  | 3 => ("java/util/ArrayList$SubList", "offset", "I", true)
  | _ => ("java/util/ArrayList$SubList", "size", "I", false)
def tyJxc9f04 : Nat → FieldType := fun k => match k with
  | 0 => .int
  | 1 => .object "java/util/ArrayList"
  | 2 => .object "java/util/ArrayList$SubList"
  | 3 => .int
  | _ => .int
abbrev wsJxc9f040 : List Cond := u_ws RJxc9f04 TJxc9f04 5
theorem nmJxc9f04 : ∀ a, a < 5 → ∀ b, b < 5 → a ≠ b → (TJxc9f04 a).2.1 ≠ (TJxc9f04 b).2.1 := by decide +kernel
theorem tyJxc9f04_ok : ∀ k, k < 5 → parseFieldDescriptor (TJxc9f04 k).2.2.1 = some (tyJxc9f04 k) := by decide +kernel
abbrev cJxc9f04_init_1a8f5 : ByteArray := prog_50_method_1_code
def yJxc9f04_init_1a8f5 : MethodName := ⟨RJxc9f04, "<init>", "(Ljava/util/ArrayList;II)V"⟩
abbrev cJxc9f04_toArray_0fdad : ByteArray := prog_50_method_17_code
def yJxc9f04_toArray_0fdad : MethodName := ⟨RJxc9f04, "toArray", "([Ljava/lang/Object;)[Ljava/lang/Object;"⟩
abbrev cJxc9f04_checkForComodification_da8c8 : ByteArray := prog_50_method_28_code
def yJxc9f04_checkForComodification_da8c8 : MethodName := ⟨RJxc9f04, "checkForComodification", "()V"⟩
def RJx4a65c : String := "java/util/ArrayList"
def TJx4a65c : u_T := fun k => match k with
  | 0 => ("java/util/AbstractList", "modCount", "I", false)
  | 1 => ("java/util/ArrayList", "elementData", "[Ljava/lang/Object;", false)
  | _ => ("java/util/ArrayList", "size", "I", false)
def tyJx4a65c : Nat → FieldType := fun k => match k with
  | 0 => .int
  | 1 => .array (.object "java/lang/Object")
  | _ => .int
abbrev wsJx4a65c0 : List Cond := u_ws RJx4a65c TJx4a65c 3
theorem nmJx4a65c : ∀ a, a < 3 → ∀ b, b < 3 → a ≠ b → (TJx4a65c a).2.1 ≠ (TJx4a65c b).2.1 := by decide +kernel
theorem tyJx4a65c_ok : ∀ k, k < 3 → parseFieldDescriptor (TJx4a65c k).2.2.1 = some (tyJx4a65c k) := by decide +kernel
abbrev cJx4a65c_init_da8c8 : ByteArray := prog_49_method_2_code
def yJx4a65c_init_da8c8 : MethodName := ⟨RJx4a65c, "<init>", "()V"⟩
abbrev cJx4a65c_grow_92f84 : ByteArray := prog_49_method_6_code
def yJx4a65c_grow_92f84 : MethodName := ⟨RJx4a65c, "grow", "(I)[Ljava/lang/Object;"⟩
abbrev cJx4a65c_grow_d5877 : ByteArray := prog_49_method_7_code
def yJx4a65c_grow_d5877 : MethodName := ⟨RJx4a65c, "grow", "()[Ljava/lang/Object;"⟩
abbrev cJx4a65c_size_8abf5 : ByteArray := prog_49_method_8_code
def yJx4a65c_size_8abf5 : MethodName := ⟨RJx4a65c, "size", "()I"⟩
abbrev cJx4a65c_toArray_0fdad : ByteArray := prog_49_method_17_code
def yJx4a65c_toArray_0fdad : MethodName := ⟨RJx4a65c, "toArray", "([Ljava/lang/Object;)[Ljava/lang/Object;"⟩
abbrev cJx4a65c_elementData_915e3 : ByteArray := prog_49_method_18_code
def yJx4a65c_elementData_915e3 : MethodName := ⟨RJx4a65c, "elementData", "(I)Ljava/lang/Object;"⟩
abbrev cJx4a65c_get_915e3 : ByteArray := prog_49_method_20_code
def yJx4a65c_get_915e3 : MethodName := ⟨RJx4a65c, "get", "(I)Ljava/lang/Object;"⟩
abbrev cJx4a65c_add_72be8 : ByteArray := prog_49_method_24_code
def yJx4a65c_add_72be8 : MethodName := ⟨RJx4a65c, "add", "(Ljava/lang/Object;[Ljava/lang/Object;I)V"⟩
abbrev cJx4a65c_add_9ea2d : ByteArray := prog_49_method_25_code
def yJx4a65c_add_9ea2d : MethodName := ⟨RJx4a65c, "add", "(Ljava/lang/Object;)Z"⟩
abbrev cJx4a65c_subList_8a2a7 : ByteArray := prog_49_method_56_code
def yJx4a65c_subList_8a2a7 : MethodName := ⟨RJx4a65c, "subList", "(II)Ljava/util/List;"⟩
def RJ7 : String := "java/util/Arrays"
def TJ7 : u_T := fun k => match k with
  | _ => ("", "", "", false)
def tyJ7 : Nat → FieldType := fun k => match k with
  | _ => .int
abbrev wsJ70 : List Cond := u_ws RJ7 TJ7 0
theorem nmJ7 : ∀ a, a < 0 → ∀ b, b < 0 → a ≠ b → (TJ7 a).2.1 ≠ (TJ7 b).2.1 := by decide +kernel
theorem tyJ7_ok : ∀ k, k < 0 → parseFieldDescriptor (TJ7 k).2.2.1 = some (tyJ7 k) := by decide +kernel
abbrev cJ7_fill_d0a16 : ByteArray := prog_51_method_101_code
def yJ7_fill_d0a16 : MethodName := ⟨RJ7, "fill", "([JJ)V"⟩
abbrev cJ7_fill_53178 : ByteArray := prog_51_method_103_code
def yJ7_fill_53178 : MethodName := ⟨RJ7, "fill", "([II)V"⟩
abbrev cJ7_copyOf_1904c : ByteArray := prog_51_method_119_code
def yJ7_copyOf_1904c : MethodName := ⟨RJ7, "copyOf", "([Ljava/lang/Object;I)[Ljava/lang/Object;"⟩
abbrev cJ7_copyOf_6403c : ByteArray := prog_51_method_120_code
def yJ7_copyOf_6403c : MethodName := ⟨RJ7, "copyOf", "([Ljava/lang/Object;ILjava/lang/Class;)[Ljava/lang/Object;"⟩
abbrev cJ7_copyOf_9075b : ByteArray := prog_51_method_121_code
def yJ7_copyOf_9075b : MethodName := ⟨RJ7, "copyOf", "([BI)[B"⟩
abbrev cJ7_copyOfRange_31eb6 : ByteArray := prog_51_method_130_code
def yJ7_copyOfRange_31eb6 : MethodName := ⟨RJ7, "copyOfRange", "([Ljava/lang/Object;IILjava/lang/Class;)[Ljava/lang/Object;"⟩
abbrev cJ7_checkLength_df160 : ByteArray := prog_51_method_131_code
def yJ7_checkLength_df160 : MethodName := ⟨RJ7, "checkLength", "(II)V"⟩
abbrev cJ7_copyOfRange_39247 : ByteArray := prog_51_method_132_code
def yJ7_copyOfRange_39247 : MethodName := ⟨RJ7, "copyOfRange", "([BII)[B"⟩
abbrev cJ7_copyOfRangeByte_39247 : ByteArray := prog_51_method_133_code
def yJ7_copyOfRangeByte_39247 : MethodName := ⟨RJ7, "copyOfRangeByte", "([BII)[B"⟩
def RJx5ef63 : String := "java/util/Collection"
def TJx5ef63 : u_T := fun k => match k with
  | _ => ("", "", "", false)
def tyJx5ef63 : Nat → FieldType := fun k => match k with
  | _ => .int
abbrev wsJx5ef630 : List Cond := u_ws RJx5ef63 TJx5ef63 0
theorem nmJx5ef63 : ∀ a, a < 0 → ∀ b, b < 0 → a ≠ b → (TJx5ef63 a).2.1 ≠ (TJx5ef63 b).2.1 := by decide +kernel
theorem tyJx5ef63_ok : ∀ k, k < 0 → parseFieldDescriptor (TJx5ef63 k).2.2.1 = some (tyJx5ef63 k) := by decide +kernel
def RJxbd725 : String := "java/util/List"
def TJxbd725 : u_T := fun k => match k with
  | _ => ("", "", "", false)
def tyJxbd725 : Nat → FieldType := fun k => match k with
  | _ => .int
abbrev wsJxbd7250 : List Cond := u_ws RJxbd725 TJxbd725 0
theorem nmJxbd725 : ∀ a, a < 0 → ∀ b, b < 0 → a ≠ b → (TJxbd725 a).2.1 ≠ (TJxbd725 b).2.1 := by decide +kernel
theorem tyJxbd725_ok : ∀ k, k < 0 → parseFieldDescriptor (TJxbd725 k).2.2.1 = some (tyJxbd725 k) := by decide +kernel
def RJ15 : String := "java/util/Objects"
def TJ15 : u_T := fun k => match k with
  | _ => ("", "", "", false)
def tyJ15 : Nat → FieldType := fun k => match k with
  | _ => .int
abbrev wsJ150 : List Cond := u_ws RJ15 TJ15 0
theorem nmJ15 : ∀ a, a < 0 → ∀ b, b < 0 → a ≠ b → (TJ15 a).2.1 ≠ (TJ15 b).2.1 := by decide +kernel
theorem tyJ15_ok : ∀ k, k < 0 → parseFieldDescriptor (TJ15 k).2.2.1 = some (tyJ15 k) := by decide +kernel
abbrev cJ15_checkIndex_7cf53 : ByteArray := prog_55_method_17_code
def yJ15_checkIndex_7cf53 : MethodName := ⟨RJ15, "checkIndex", "(II)I"⟩
def RJxf0a74 : String := "java/util/RandomAccess"
def TJxf0a74 : u_T := fun k => match k with
  | _ => ("", "", "", false)
def tyJxf0a74 : Nat → FieldType := fun k => match k with
  | _ => .int
abbrev wsJxf0a740 : List Cond := u_ws RJxf0a74 TJxf0a74 0
theorem nmJxf0a74 : ∀ a, a < 0 → ∀ b, b < 0 → a ≠ b → (TJxf0a74 a).2.1 ≠ (TJxf0a74 b).2.1 := by decide +kernel
theorem tyJxf0a74_ok : ∀ k, k < 0 → parseFieldDescriptor (TJxf0a74 k).2.2.1 = some (tyJxf0a74 k) := by decide +kernel
def RJxa66e6 : String := "java/util/SequencedCollection"
def TJxa66e6 : u_T := fun k => match k with
  | _ => ("", "", "", false)
def tyJxa66e6 : Nat → FieldType := fun k => match k with
  | _ => .int
abbrev wsJxa66e60 : List Cond := u_ws RJxa66e6 TJxa66e6 0
theorem nmJxa66e6 : ∀ a, a < 0 → ∀ b, b < 0 → a ≠ b → (TJxa66e6 a).2.1 ≠ (TJxa66e6 b).2.1 := by decide +kernel
theorem tyJxa66e6_ok : ∀ k, k < 0 → parseFieldDescriptor (TJxa66e6 k).2.2.1 = some (tyJxa66e6 k) := by decide +kernel
def RJ8 : String := "jdk/internal/util/ArraysSupport"
def TJ8 : u_T := fun k => match k with
  | _ => ("", "", "", false)
def tyJ8 : Nat → FieldType := fun k => match k with
  | _ => .int
abbrev wsJ80 : List Cond := u_ws RJ8 TJ8 0
theorem nmJ8 : ∀ a, a < 0 → ∀ b, b < 0 → a ≠ b → (TJ8 a).2.1 ≠ (TJ8 b).2.1 := by decide +kernel
theorem tyJ8_ok : ∀ k, k < 0 → parseFieldDescriptor (TJ8 k).2.2.1 = some (tyJ8 k) := by decide +kernel
abbrev cJ8_newLength_cabcc : ByteArray := prog_58_method_27_code
def yJ8_newLength_cabcc : MethodName := ⟨RJ8, "newLength", "(III)I"⟩
abbrev cJ8_hugeLength_7cf53 : ByteArray := prog_58_method_28_code
def yJ8_hugeLength_7cf53 : MethodName := ⟨RJ8, "hugeLength", "(II)I"⟩
def RJ3 : String := "jdk/internal/util/Preconditions"
def TJ3 : u_T := fun k => match k with
  | _ => ("", "", "", false)
def tyJ3 : Nat → FieldType := fun k => match k with
  | _ => .int
abbrev wsJ30 : List Cond := u_ws RJ3 TJ3 0
theorem nmJ3 : ∀ a, a < 0 → ∀ b, b < 0 → a ≠ b → (TJ3 a).2.1 ≠ (TJ3 b).2.1 := by decide +kernel
theorem tyJ3_ok : ∀ k, k < 0 → parseFieldDescriptor (TJ3 k).2.2.1 = some (tyJ3 k) := by decide +kernel
abbrev cJ3_checkIndex_8e157 : ByteArray := prog_59_method_11_code
def yJ3_checkIndex_8e157 : MethodName := ⟨RJ3, "checkIndex", "(IILjava/util/function/BiFunction;)I"⟩
abbrev cJ3_checkFromToIndex_8c36e : ByteArray := prog_59_method_12_code
def yJ3_checkFromToIndex_8c36e : MethodName := ⟨RJ3, "checkFromToIndex", "(IIILjava/util/function/BiFunction;)I"⟩
abbrev cJ3_checkFromIndexSize_8c36e : ByteArray := prog_59_method_13_code
def yJ3_checkFromIndexSize_8c36e : MethodName := ⟨RJ3, "checkFromIndexSize", "(IIILjava/util/function/BiFunction;)I"⟩
def RL : String := "SendhouseLaw"
abbrev cL_cell : ByteArray := method_2_code
def yL_cell : MethodName := ⟨RL, "cell", "([II)I"⟩
abbrev cL_chosen : ByteArray := method_3_code
def yL_chosen : MethodName := ⟨RL, "chosen", "(II)I"⟩
abbrev cL_add : ByteArray := method_4_code
def yL_add : MethodName := ⟨RL, "add", "(LSendhouse;II)J"⟩
abbrev cL_row : ByteArray := method_6_code
def yL_row : MethodName := ⟨RL, "row", "(LSendhouse;CII)J"⟩
abbrev cL_wipe : ByteArray := method_7_code
def yL_wipe : MethodName := ⟨RL, "wipe", "(LSendhouse;)J"⟩
abbrev cL_method : ByteArray := method_8_code
def yL_method : MethodName := ⟨RL, "method", "(LSendhouse;IIII)J"⟩
abbrev cL_remove : ByteArray := method_9_code
def yL_remove : MethodName := ⟨RL, "remove", "(LSendhouse;II)J"⟩
abbrev cL_compile : ByteArray := method_11_code
def yL_compile : MethodName := ⟨RL, "compile", "(LSendhouse;II)J"⟩
abbrev cL_hot : ByteArray := method_12_code
def yL_hot : MethodName := ⟨RL, "hot", "(LSendhouse;I)J"⟩
abbrev cL_number : ByteArray := method_13_code
def yL_number : MethodName := ⟨RL, "number", "(LSendhouse;II)J"⟩
abbrev cL_nothing : ByteArray := method_14_code
def yL_nothing : MethodName := ⟨RL, "nothing", "(LSendhouse;I)J"⟩
abbrev cL_make : ByteArray := method_15_code
def yL_make : MethodName := ⟨RL, "make", "(LSendhouse;II)J"⟩
abbrev cL_kind : ByteArray := method_16_code
def yL_kind : MethodName := ⟨RL, "kind", "(LSendhouse;I)J"⟩
abbrev cL_value : ByteArray := method_17_code
def yL_value : MethodName := ⟨RL, "value", "(LSendhouse;I)J"⟩
abbrev cL_fieldKind : ByteArray := method_18_code
def yL_fieldKind : MethodName := ⟨RL, "fieldKind", "(LSendhouse;II)J"⟩
abbrev cL_fieldValue : ByteArray := method_19_code
def yL_fieldValue : MethodName := ⟨RL, "fieldValue", "(LSendhouse;II)J"⟩
abbrev cL_things : ByteArray := method_20_code
def yL_things : MethodName := ⟨RL, "things", "(LSendhouse;)J"⟩
abbrev cL_collect : ByteArray := method_21_code
def yL_collect : MethodName := ⟨RL, "collect", "(LSendhouse;)J"⟩
abbrev cL_begin : ByteArray := method_22_code
def yL_begin : MethodName := ⟨RL, "begin", "(LSendhouse;IIIII)J"⟩
abbrev cL_go : ByteArray := method_23_code
def yL_go : MethodName := ⟨RL, "go", "(LSendhouse;I)J"⟩
abbrev cL_end : ByteArray := method_24_code
def yL_end : MethodName := ⟨RL, "end", "(LSendhouse;)J"⟩
abbrev cL_state : ByteArray := method_25_code
def yL_state : MethodName := ⟨RL, "state", "(LSendhouse;)J"⟩
abbrev cL_reason : ByteArray := method_26_code
def yL_reason : MethodName := ⟨RL, "reason", "(LSendhouse;)J"⟩
abbrev cL_answerKind : ByteArray := method_27_code
def yL_answerKind : MethodName := ⟨RL, "answerKind", "(LSendhouse;)J"⟩
abbrev cL_answer : ByteArray := method_28_code
def yL_answer : MethodName := ⟨RL, "answer", "(LSendhouse;)J"⟩
abbrev cL_frames : ByteArray := method_30_code
def yL_frames : MethodName := ⟨RL, "frames", "(LSendhouse;)J"⟩
abbrev cL_slotKind : ByteArray := method_32_code
def yL_slotKind : MethodName := ⟨RL, "slotKind", "(LSendhouse;ICI)J"⟩
abbrev cL_slot : ByteArray := method_33_code
def yL_slot : MethodName := ⟨RL, "slot", "(LSendhouse;ICI)J"⟩
abbrev cL_checksum : ByteArray := method_34_code
def yL_checksum : MethodName := ⟨RL, "checksum", "(LSendhouse;)J"⟩
abbrev cL_isSound : ByteArray := method_35_code
def yL_isSound : MethodName := ⟨RL, "isSound", "(LSendhouse;)J"⟩
abbrev cL_types : ByteArray := method_36_code
def yL_types : MethodName := ⟨RL, "types", "(LSendhouse;Ljava/lang/String;)V"⟩
abbrev cL_tells : ByteArray := method_37_code
def yL_tells : MethodName := ⟨RL, "tells", "(LSendhouse;IIIILjava/lang/String;)J"⟩
abbrev cL_tellsOne : ByteArray := method_38_code
def yL_tellsOne : MethodName := ⟨RL, "tellsOne", "(LSendhouse;I)V"⟩
abbrev cL_classes3 : ByteArray := method_39_code
def yL_classes3 : MethodName := ⟨RL, "classes3", "(LSendhouse;)V"⟩
abbrev cL_globals : ByteArray := method_40_code
def yL_globals : MethodName := ⟨RL, "globals", "(LSendhouse;I)V"⟩
abbrev cL_compiles : ByteArray := method_41_code
def yL_compiles : MethodName := ⟨RL, "compiles", "(LSendhouse;I)V"⟩
abbrev cL_reached : ByteArray := method_42_code
def yL_reached : MethodName := ⟨RL, "reached", "(LSendhouse;)J"⟩
abbrev cL_areAlike : ByteArray := method_43_code
def yL_areAlike : MethodName := ⟨RL, "areAlike", "(LSendhouse;LSendhouse;)Z"⟩
abbrev cL_law : ByteArray := code
def yL_law : MethodName := ⟨RL, "law", "([I)Z"⟩
abbrev vwCl : List vw_C := [(RJ0, TJ0, 4), (RJ4, TJ4, 4), (RJx00060, TJx00060, 6), (RJxe14f1, TJxe14f1, 6), (RJxc9f04, TJxc9f04, 5), (RJx4a65c, TJx4a65c, 3), (RX0, TX0, 3), (RX1, TX1, 7), (RX2, TX2, 1), (RX3, TX3, 7), (RX4, TX4, 5), (RX5, TX5, 5), (RX6, TX6, 7), (RX7, TX7, 4), (RX8, TX8, 13)]
end
section
/-! the words of the tables that a method may hand on: one list for all methods -/
def lwA : List Cond := lw_tbl.filter goodWord
theorem lwA_in : ∀ w ∈ lwA, w ∈ lw_tbl := fun w h => (List.mem_filter.mp h).1
theorem lwA_mk {w : Cond} (h : w ∈ lw_tbl) (g : goodWord w = true) : w ∈ lwA := List.mem_filter.mpr ⟨h, g⟩
theorem lwA_good : ∀ w ∈ lwA, (w.onTables && w.keeps) = true ∨ ∃ ty, w = .arrayClass ty := fun w h => good_of_word (List.mem_filter.mp h).2
theorem gA_r (ws : List Cond) (ps : List Nat) (hp : ws = ps.filterMap (fun i => lw_tbl[i]?)) (h : ws.all goodWord = true) : ∀ w ∈ ws, w ∈ lwA := fun w hw => lwA_mk (goodIn_r ws ps hp h w hw).1 (List.all_eq_true.mp h w hw)
theorem gA_f {L : List Cond} (h : ∀ w ∈ L.filter goodWord, w ∈ lw_tbl) : ∀ w ∈ L.filter goodWord, w ∈ lwA := fun w hw => lwA_mk (h w hw) (List.mem_filter.mp hw).2
/-- a callee's words: its own code, and the list -/
abbrev lwC (y : MethodName) (cc : ByteArray) (n : Nat) (r : Option FieldType) : List Cond := Cond.code y cc n r :: lwA
abbrev lwCW (y : MethodName) (cc : ByteArray) (n : Nat) (r : Option FieldType) (hh : List (Nat × Nat × Nat × Nat)) : List Cond := Cond.codeWith y cc n r hh :: lwA
theorem gd {c : Cond} (h : c ∈ lwA) : GoodIn lwA (c :: lwA) := fun w hw => (List.mem_cons.mp hw).elim (fun e => by rw [e]; exact ⟨h, lwA_good _ h⟩) (fun h1 => ⟨h1, lwA_good _ h1⟩)
theorem gdV {own C : String} {idx : Nat} {y : MethodName} {c : Cond} (h1 : Cond.methodLink own idx y ∈ lwA) (h2 : Cond.instanceMethod y ∈ lwA) (h3 : Cond.selects C y y ∈ lwA) (h4 : Cond.initialized C ∈ lwA) (h5 : c ∈ lwA) : GoodIn lwA (wsV own idx C y (c :: lwA)) := by
  intro w hw
  have key : w ∈ lwA := by
    unfold wsV at hw
    rcases List.mem_append.mp hw with h | h
    · simp only [List.mem_cons, List.not_mem_nil, or_false] at h
      rcases h with rfl | rfl | rfl | rfl <;> assumption
    · exact (gd h5 w h).1
  exact ⟨key, lwA_good _ key⟩
theorem gdS {own : String} {idx : Nat} {y : MethodName} {c : Cond} (h1 : Cond.methodLink own idx y ∈ lwA) (h2 : Cond.static y ∈ lwA) (h4 : Cond.initialized own ∈ lwA) (h5 : c ∈ lwA) : GoodIn lwA (wsS own idx y (c :: lwA)) := by
  intro w hw
  have key : w ∈ lwA := by
    unfold wsS at hw
    rcases List.mem_append.mp hw with h | h
    · simp only [List.mem_cons, List.not_mem_nil, or_false] at h
      rcases h with rfl | rfl | rfl <;> assumption
    · exact (gd h5 w h).1
  exact ⟨key, lwA_good _ key⟩
theorem gdT {own : String} {idx : Nat} {y : MethodName} {c : Cond} (h1 : Cond.methodLink own idx y ∈ lwA) (h2 : Cond.static y ∈ lwA) (h4 : Cond.initialized y.cls ∈ lwA) (h5 : c ∈ lwA) : GoodIn lwA (va_wsS own idx y (c :: lwA)) := by
  intro w hw
  have key : w ∈ lwA := by
    unfold va_wsS at hw
    rcases List.mem_append.mp hw with h | h
    · simp only [List.mem_cons, List.not_mem_nil, or_false] at h
      rcases h with rfl | rfl | rfl <;> assumption
    · exact (gd h5 w h).1
  exact ⟨key, lwA_good _ key⟩
/-- the room of a method that stands d calls deep -/
abbrev rD (d c n : Nat) : Room := { frames := d, cells := c, slots := n, locals := 45 * d }
end
section
section GM1
/-! The world as a function of the address: what each cell that is known holds. -/
abbrev gW : Type := Nat → Option va_E
def g_P (D : va_G) (cl : List vw_C) (G : gW) (H : Heap) : Prop := ∀ (a : Nat) (e : va_E), G a = some e → va_at D cl (a, e) H
def g_up (G : gW) (a : Nat) (e : va_E) : gW := fun q => if q = a then some e else G q
def g_D (A : Nat → Prop) (G : gW) : Prop := ∀ (a : Nat) (e : va_E), G a = some e → A a
def g_A (G : gW) (sz : Nat) : Nat → Prop := fun q => (∃ e, G q = some e) ∨ sz ≤ q
def g_S (D : va_G) (cl : List vw_C) (A : Nat → Prop) (H0 : Heap) (G : gW) (H : Heap) (locs : List Loc) (n : Nat) : Prop :=
  g_P D cl G H ∧ g_D A G ∧ va_S A H0 H locs ∧ (∀ q, H0.size ≤ q → A q) ∧ H.size = n
variable {D : va_G} {cl : List vw_C} {A : Nat → Prop} {H0 H H1 : Heap} {G u : gW} {a b : Nat} {e e0 : va_E} {locs : List Loc} {tys : List (ClassId × FieldType)} {n : Nat}
theorem g_up_s : g_up G a e a = some e := if_pos rfl
theorem g_up_n (h : b ≠ a) : g_up G a e b = G b := if_neg h
theorem g_up_o (h : b ≠ a) (hb : G b = some e0) : g_up G a e b = some e0 := (if_neg h).trans hb
theorem g_ne (ha : G a = some e) (hb : G b = none) : a ≠ b := fun h => by rw [h, hb] at ha; cases ha
theorem g_nx (ha : G a = some e) (hb : G b = some e0) (h : e ≠ e0) : a ≠ b := fun z => h (by rw [z, hb] at ha; exact (Option.some.inj ha).symm)
theorem g_1 (h : g_P D cl G H) (ha : G a = some e) : va_P D cl [(a, e)] H := by
  intro k q hk
  match k, hk with
  | 0, hk => cases hk; exact h a e ha
  | k + 1, hk => simp at hk
theorem g_2 (h : g_P D cl G H) (ha : G a = some e) (hb : G b = some e0) : va_P D cl [(a, e), (b, e0)] H := by
  intro k q hk
  match k, hk with
  | 0, hk => cases hk; exact h a e ha
  | 1, hk => cases hk; exact h b e0 hb
  | k + 2, hk => simp at hk
theorem g_lt (h : g_P D cl G H) (ha : G a = some e) : a < H.size := (h a e ha).lt
theorem g_fresh (h : g_P D cl G H) : G H.size = none := by
  cases hg : G H.size with
  | none => rfl
  | some e => exact absurd (g_lt h hg) (Nat.lt_irrefl _)
theorem g_none (w : g_S D cl A H0 G H locs n) : G n = none := by
  have h := g_fresh w.1
  rw [w.2.2.2.2] at h
  exact h
theorem g_ltn (w : g_S D cl A H0 G H locs n) (ha : G a = some e) : a < n := by
  have h := g_lt w.1 ha
  rw [w.2.2.2.2] at h
  exact h
theorem g_in (w : g_S D cl A H0 G H locs n) {q : Nat} (h : g_A G n q) : A q := by
  rcases h with ⟨e, h⟩ | h
  · exact w.2.1 q e h
  · exact w.2.2.2.1 q (Nat.le_trans w.2.2.1.1 (by rw [w.2.2.2.2]; exact h))
theorem g_set {k : Nat} (w : g_S D cl A H0 G H locs n) (ha : G a = some e0) (he : va_at D cl (a, e) H1) (z : H1.size = H.size) (oq : ∀ q : Nat, q ≠ a → H1[q]? = H[q]?) : g_S D cl A H0 (g_up G a e) H1 (locs ++ [⟨a, k⟩]) n := by
  refine ⟨fun b f hb => ?_, fun b f hb => ?_, w.2.2.1.put z oq (w.2.1 a _ ha), w.2.2.2.1, z.trans w.2.2.2.2⟩
  · by_cases hba : b = a
    · subst hba
      rw [g_up_s] at hb
      cases hb
      exact he
    · rw [g_up_n hba] at hb
      exact (w.1 b f hb).kept (oq b hba)
  · by_cases hba : b = a
    · subst hba
      exact w.2.1 b _ ha
    · rw [g_up_n hba] at hb
      exact w.2.1 b f hb
theorem g_push (w : g_S D cl A H0 G H locs n) (he : va_at D cl (H.size, e) H1) (z : H1.size = H.size + 1) (o1 : ∀ x : Nat, x < H.size → H1[x]? = H[x]?) : g_S D cl A H0 (g_up G n e) H1 locs (n + 1) := by
  have hn := w.2.2.2.2
  subst hn
  refine ⟨fun b f hb => ?_, fun b f hb => ?_, ⟨Nat.le_trans w.2.2.1.1 (by omega), fun x h1 h2 => (o1 x (Nat.lt_of_lt_of_le h1 w.2.2.1.1)).trans (w.2.2.1.2.1 x h1 h2), w.2.2.1.2.2⟩, w.2.2.2.1, z⟩
  · by_cases hba : b = H.size
    · subst hba
      rw [g_up_s] at hb
      cases hb
      exact he
    · rw [g_up_n hba] at hb
      exact (w.1 b f hb).kept (o1 b (g_lt w.1 hb))
  · by_cases hba : b = H.size
    · subst hba
      exact w.2.2.2.1 _ w.2.2.1.1
    · rw [g_up_n hba] at hb
      exact w.2.1 b f hb
/-- what else is given of a state, outside the cells of A: it stays while those cells stay -/
def g_cl (EX : (Nat → Prop) → State → Heap → Prop) : Prop :=
  (∀ (A : Nat → Prop) (s U : State) (H : Heap), s.WarmedH U.vm → EX A s H → EX A U H) ∧
  (∀ (A : Nat → Prop) (U : State) (H H1 : Heap), EX A U H → (∀ a : Nat, a < H.size → ¬ A a → H1[a]? = H[a]?) → EX A U H1) ∧
  (∀ (A B : Nat → Prop) (U : State) (H : Heap), EX A U H → (∀ q, B q → A q) → EX B U H)
/-- the tables' facts and the rest, of a state and a heap -/
def g_E (D : va_G) (cl : List vw_C) (tys : List (ClassId × FieldType)) (EX : (Nat → Prop) → State → Heap → Prop) (A : Nat → Prop) (U : State) (H : Heap) : Prop := va_K D cl tys U ∧ EX A U H
theorem g_E.go {EX : (Nat → Prop) → State → Heap → Prop} {s U : State} {B : Nat → Prop} (hcl : g_cl EX) (h : g_E D cl tys EX A s H) (hW : s.WarmedH U.vm) (hk : ∀ a : Nat, a < H.size → ¬ A a → H1[a]? = H[a]?) (hAB : ∀ q, B q → A q) : g_E D cl tys EX B U H1 :=
  ⟨va_K.moved hW.alike h.1, hcl.2.2 A B U H1 (hcl.2.1 A U H H1 (hcl.1 A s U H hW h.2) hk) hAB⟩
/-- a method's start and end over such a world -/
abbrev g_Pc (D : va_G) (cl : List vw_C) (tys : List (ClassId × FieldType)) (EX : (Nat → Prop) → State → Heap → Prop) (G : gW) (sz : Nat) (av : List Value) : Array Value → State → Prop := va_Pc av (fun U => U.heap.size = sz ∧ g_P D cl G U.heap ∧ g_E D cl tys EX (g_A G sz) U U.heap)
theorem g_blind {EX : (Nat → Prop) → State → Heap → Prop} (hcl : g_cl EX) {sz : Nat} {av : List Value} : FrameBlind (g_Pc D cl tys EX G sz av) := fun a U g mk h => by
  obtain ⟨h1, h2, h3, h4⟩ := h
  exact ⟨h1, h2, h3, g_E.go (H1 := (U.calling g mk a).heap) hcl h4 (State.WarmedH.refl U) (fun _ _ _ => rfl) (fun _ h => h)⟩
theorem g_preS {EX : (Nat → Prop) → State → Heap → Prop} (hcl : g_cl EX) {s : State} {As : List Value} (w : g_S D cl A s.heap G H locs n) (hE : g_E D cl tys EX A s s.heap) : PreS s H (g_Pc D cl tys EX G n As) As :=
  ⟨g_blind hcl, fun U hU hW => ⟨rfl, by rw [hU]; exact w.2.2.2.2, by rw [hU]; exact w.1, g_E.go hcl hE hW (by rw [hU]; exact w.2.2.1.2.1) (fun q h => g_in w h)⟩⟩
theorem g_preV {EX : (Nat → Prop) → State → Heap → Prop} (hcl : g_cl EX) {s : State} {As : List Value} {ci : Nat} {r : vw_C} {fs : List Value} (w : g_S D cl A s.heap G H locs n) (hE : g_E D cl tys EX A s s.heap) (hb : G b = some (.inr (ci, fs))) (hc : cl[ci]? = some r) : PreV s H r.1 b (g_Pc D cl tys EX G n (.ref b :: As)) As :=
  ⟨g_blind hcl, va_recv hE.1 (g_1 w.1 hb) hc (q0 := 0) rfl, (g_preS hcl w hE).2⟩
theorem g_self (h : g_P D cl G H) : g_D (g_A G H.size) G := fun a e ha => Or.inl ⟨e, ha⟩
end GM1
section GM2
variable {p : Program} {l : Launch} {e : Env} {R : Room} {s : State} {m : MethodId} {args : Array Value} {below : List Frame} {meth : Method} {c : Code} {H : Heap} {locs : List Loc} {cells slots : Nat} {Q : State → Prop}
variable {cc : ByteArray} {pc : Nat} {ls : Array Slot} {rest : List Value} {D : va_G} {cl : List vw_C} {A : Nat → Prop} {a : Nat} {tys : List (ClassId × FieldType)} {H0 : Heap} {G : gW} {nz : Nat}
/-- fields -/
theorem g_put (hexec : p.tables.exec = Jvm.exec) (hb : c.code = cc) {own ref C : String} {T : u_T} {N ci index : Nat} {Ts : List Cond} (hts : ∀ w ∈ Ts, w.before args s = true) (hin : ∀ w ∈ u_ws C T N, w ∈ Ts) (ty0 : Nat → FieldType) (hty : ∀ k, k < N → parseFieldDescriptor (T k).2.2.1 = some (ty0 k)) (hnm : ∀ a, a < N → ∀ b, b < N → a ≠ b → (T a).2.1 ≠ (T b).2.1) (hown : s.vm.findClass own = some m.cls) (hK : va_K D cl tys s) (w : g_S D cl A H0 G H locs nz) {fs : List Value} (he : G a = some (.inr (ci, fs))) (hc : cl[ci]? = some (C, T, N)) (k : Nat) (hk : k < N) (hlink : (Cond.fieldLink own index ref (T k).2.1 (T k).2.2.1).before args s = true) (hsame : ∀ x, s.fieldFound? (T k).1 (T k).2.1 (T k).2.2.1 = some x → s.fieldFound? ref (T k).2.1 (T k).2.2.1 = some x) (hfin : (T k).2.2.2 = false) {ty : FieldType} {v : Value} (hd : parseFieldDescriptor (T k).2.2.1 = some ty) (hn : narrow ty v = v) (hfit : fits ty v = true) (hl : k < fs.length)
    (hdg : decode cc pc = .ok (.putfield index, 3)) (kk : ∀ (H1 : Heap) (locs1 : List Loc), g_S D cl A H0 (g_up G a (.inr (ci, fs.set k v))) H1 locs1 nz → W p l e R s m args below meth c H1 locs1 cells slots Q (F0 m (pc + 3) ls rest)) : W p l e R s m args below meth c H locs cells slots Q (F0 m pc ls (v :: .ref a :: rest)) := by
  have hap := va_apart (own := own) hts hin ty0 hty hnm hK hc
  obtain ⟨r, h1, cell, q1, q2, q3, q4⟩ := w.1 a _ he
  have hr : r = (C, T, N) := Option.some.inj (h1.symm.trans hc)
  subst hr
  obtain ⟨hS, hfc, kC, hkC, hkind⟩ := hK.1 ci _ hc
  obtain ⟨cf, kf, fi, f, hi, hsl⟩ := hS k hk
  have hlay := hts _ (hin _ (u_in_lay hk))
  unfold u_lay at hlay
  rw [if_neg (by rw [hfin]; decide)] at hlay
  have hst := (u_facts hfc hkC (u_lays hts hin hk) hi).1
  have h6 := u_store hfc hkC hkind hlay hi hd hn hfit
  refine W.putK hexec hb (f := f) ⟨hown, hlink, ⟨_, _, _, hsame _ hi⟩, hst⟩ (by rw [q2]; exact h6) q1 q3 (by rw [hsl]; exact k2_hasslot (q4 k hk)) rfl rfl hdg fun H' e1 e2 e3 => ?_
  rw [hsl] at e1 ⊢
  exact kk H' _ (g_set w he ⟨_, hc, t_OB.to (V := updV (vp_V fs) k v) ⟨_, e1, q2, q3, t_set q4 hap hk v⟩ (fun j _ => vp_updV_set hl v j)⟩ e2 e3)
theorem g_putF (hexec : p.tables.exec = Jvm.exec) (hb : c.code = cc) {own ref C : String} {T : u_T} {N ci index : Nat} {Ts : List Cond} (hts : ∀ w ∈ Ts, w.before args s = true) (hin : ∀ w ∈ u_ws C T N, w ∈ Ts) (ty0 : Nat → FieldType) (hty : ∀ k, k < N → parseFieldDescriptor (T k).2.2.1 = some (ty0 k)) (hnm : ∀ a, a < N → ∀ b, b < N → a ≠ b → (T a).2.1 ≠ (T b).2.1) (hown : s.vm.findClass own = some m.cls) (hK : va_K D cl tys s) (w : g_S D cl A H0 G H locs nz) {fs : List Value} (he : G a = some (.inr (ci, fs))) (hc : cl[ci]? = some (C, T, N)) (k : Nat) (hk : k < N) (hlink : (Cond.fieldLink own index ref (T k).2.1 (T k).2.2.1).before args s = true) (hsame : ∀ x, s.fieldFound? (T k).1 (T k).2.1 (T k).2.2.1 = some x → s.fieldFound? ref (T k).2.1 (T k).2.2.1 = some x) (hfin : (T k).2.2.2 = true) (hin2 : meth.name = "<init>") (hdecl : (T k).1 = own) {ty : FieldType} {v : Value} (hd : parseFieldDescriptor (T k).2.2.1 = some ty) (hn : narrow ty v = v) (hfit : fits ty v = true) (hl : k < fs.length)
    (hdg : decode cc pc = .ok (.putfield index, 3)) (kk : ∀ (H1 : Heap) (locs1 : List Loc), g_S D cl A H0 (g_up G a (.inr (ci, fs.set k v))) H1 locs1 nz → W p l e R s m args below meth c H1 locs1 cells slots Q (F0 m (pc + 3) ls rest)) : W p l e R s m args below meth c H locs cells slots Q (F0 m pc ls (v :: .ref a :: rest)) := by
  have hap := va_apart (own := own) hts hin ty0 hty hnm hK hc
  obtain ⟨r, h1, cell, q1, q2, q3, q4⟩ := w.1 a _ he
  have hr : r = (C, T, N) := Option.some.inj (h1.symm.trans hc)
  subst hr
  obtain ⟨hS, hfc, kC, hkC, hkind⟩ := hK.1 ci _ hc
  obtain ⟨cf, kf, fi, f, hi, hsl⟩ := hS k hk
  have hlay := hts _ (hin _ (u_in_lay hk))
  unfold u_lay at hlay
  rw [if_pos hfin] at hlay
  have hst := (u_facts hfc hkC (u_lays hts hin hk) hi).1
  have hcf : m.cls = cf := by
    obtain ⟨_, _, c', _, _, _, -, -, hf', -, -, -, hown2, -⟩ := Cond.laysFinal_spec hlay
    have e1 : c' = cf := by have := hi.symm.trans hf'; simp at this; exact this.1.symm
    rw [hdecl] at hown2
    rw [← e1]; exact Option.some.inj (hown.symm.trans hown2)
  have h6 := u_fits hfc hkC hkind (Or.inr hlay) hi hd hn hfit
  refine W.putFinK hexec hb hown hlink (hsame _ hi) hst hcf hin2 (by rw [q2]; exact h6) q1 q3 (by rw [hsl]; exact k2_hasslot (q4 k hk)) rfl rfl hdg fun H' e1 e2 e3 => ?_
  rw [hsl] at e1 ⊢
  exact kk H' _ (g_set w he ⟨_, hc, t_OB.to (V := updV (vp_V fs) k v) ⟨_, e1, q2, q3, t_set q4 hap hk v⟩ (fun j _ => vp_updV_set hl v j)⟩ e2 e3)
theorem g_putN (hexec : p.tables.exec = Jvm.exec) (hb : c.code = cc) {own ref C host : String} {T : u_T} {N ci index : Nat} {Ts : List Cond} (hts : ∀ w ∈ Ts, w.before args s = true) (hin : ∀ w ∈ u_ws C T N, w ∈ Ts) (ty0 : Nat → FieldType) (hty : ∀ k, k < N → parseFieldDescriptor (T k).2.2.1 = some (ty0 k)) (hnm : ∀ a, a < N → ∀ b, b < N → a ≠ b → (T a).2.1 ≠ (T b).2.1) (hown : s.vm.findClass own = some m.cls) (hK : va_K D cl tys s) (w : g_S D cl A H0 G H locs nz) {fs : List Value} (he : G a = some (.inr (ci, fs))) (hc : cl[ci]? = some (C, T, N)) (k : Nat) (hk : k < N) (hlink : (Cond.fieldLinkNest own index ref (T k).2.1 (T k).2.2.1 host).before args s = true) (hsame : ∀ x, s.fieldFound? (T k).1 (T k).2.1 (T k).2.2.1 = some x → s.fieldFound? ref (T k).2.1 (T k).2.2.1 = some x) (hfin : (T k).2.2.2 = false) {ty : FieldType} {v : Value} (hd : parseFieldDescriptor (T k).2.2.1 = some ty) (hn : narrow ty v = v) (hfit : fits ty v = true) (hl : k < fs.length)
    (hdg : decode cc pc = .ok (.putfield index, 3)) (kk : ∀ (H1 : Heap) (locs1 : List Loc), g_S D cl A H0 (g_up G a (.inr (ci, fs.set k v))) H1 locs1 nz → W p l e R s m args below meth c H1 locs1 cells slots Q (F0 m (pc + 3) ls rest)) : W p l e R s m args below meth c H locs cells slots Q (F0 m pc ls (v :: .ref a :: rest)) := by
  have hap := va_apart (own := own) hts hin ty0 hty hnm hK hc
  obtain ⟨r, h1, cell, q1, q2, q3, q4⟩ := w.1 a _ he
  have hr : r = (C, T, N) := Option.some.inj (h1.symm.trans hc)
  subst hr
  obtain ⟨hS, hfc, kC, hkC, hkind⟩ := hK.1 ci _ hc
  obtain ⟨cf, kf, fi, f, hi, hsl⟩ := hS k hk
  have hlay := hts _ (hin _ (u_in_lay hk))
  unfold u_lay at hlay
  rw [if_neg (by rw [hfin]; decide)] at hlay
  have hst := (u_facts hfc hkC (u_lays hts hin hk) hi).1
  have h6 := u_store hfc hkC hkind hlay hi hd hn hfit
  refine va_WputK hexec hb (f := f) hown hlink (hsame _ hi) hst (by rw [q2]; exact h6) q1 q3 (by rw [hsl]; exact k2_hasslot (q4 k hk)) rfl rfl hdg fun H' e1 e2 e3 => ?_
  rw [hsl] at e1 ⊢
  exact kk H' _ (g_set w he ⟨_, hc, t_OB.to (V := updV (vp_V fs) k v) ⟨_, e1, q2, q3, t_set q4 hap hk v⟩ (fun j _ => vp_updV_set hl v j)⟩ e2 e3)
/-- arrays -/
theorem g_iast (hexec : p.tables.exec = Jvm.exec) (hb : c.code = cc) (hK : va_K D cl tys s) (w : g_S D cl A H0 G H locs nz) (t0 : Nat) {cA : ClassId} {n : Nat} {f : Nat → Int32} (ha : G a = some (.inl (cA, n, .inl f))) (ht : tys[t0]? = some (cA, .int)) {i : Int32} {x : Int32} (hin : vp_in i n) (hdg : decode cc pc = .ok (.iastore, 1))
    (kk : ∀ (H1 : Heap) (locs1 : List Loc), g_S D cl A H0 (g_up G a (.inl (cA, n, .inl (upd f i.toNatClampNeg x)))) H1 locs1 nz → W p l e R s m args below meth c H1 locs1 cells slots Q (F0 m (pc + 1) ls rest)) : W p l e R s m args below meth c H locs cells slots Q (F0 m pc ls (.int x :: .int i :: .ref a :: rest)) := by
  refine W.iast hexec hb (w.1 a _ ha) ((hK.2 t0 _ ht).1 n (fun j => .int (f j))) (fun q => by cases q) (by show ¬ (i < 0 ∨ (arrV _ _ _).slots.size ≤ _); rw [arrV_size]; exact hin) rfl rfl hdg fun H1 e z oq => ?_
  refine kk H1 _ (g_set w ha ?_ z oq)
  show H1[a]? = some (vp_cell _ _)
  rw [e]
  rw [vp_cell_i, vp_cell_i, arrV_store]
  congr 2
  funext q
  by_cases hq : q = i.toNatClampNeg
  · subst hq
    simp [updV, upd]
  · simp [updV, upd, hq]
theorem g_cast (hexec : p.tables.exec = Jvm.exec) (hb : c.code = cc) (hK : va_K D cl tys s) (w : g_S D cl A H0 G H locs nz) (t0 : Nat) {cA : ClassId} {n : Nat} {f : Nat → Int32} (ha : G a = some (.inl (cA, n, .inl f))) (ht : tys[t0]? = some (cA, .char)) {i : Int32} {x : Int32} (hin : vp_in i n) (hdg : decode cc pc = .ok (.castore, 1))
    (kk : ∀ (H1 : Heap) (locs1 : List Loc), g_S D cl A H0 (g_up G a (.inl (cA, n, .inl (upd f i.toNatClampNeg (vp_nar .char x))))) H1 locs1 nz → W p l e R s m args below meth c H1 locs1 cells slots Q (F0 m (pc + 1) ls rest)) : W p l e R s m args below meth c H locs cells slots Q (F0 m pc ls (.int x :: .int i :: .ref a :: rest)) := by
  refine W.cast hexec hb (w.1 a _ ha) ((hK.2 t0 _ ht).1 n (fun j => .int (f j))) (fun q => by cases q) (by show ¬ (i < 0 ∨ (arrV _ _ _).slots.size ≤ _); rw [arrV_size]; exact hin) rfl rfl hdg fun H1 e z oq => ?_
  refine kk H1 _ (g_set w ha ?_ z oq)
  show H1[a]? = some (vp_cell _ _)
  rw [e]
  rw [vp_cell_i, vp_cell_i, arrV_store]
  congr 2
  funext q
  by_cases hq : q = i.toNatClampNeg
  · subst hq
    simp [updV, upd, vp_nar]
    try rfl
  · simp [updV, upd, hq]
theorem g_zast (hexec : p.tables.exec = Jvm.exec) (hb : c.code = cc) (hK : va_K D cl tys s) (w : g_S D cl A H0 G H locs nz) (t0 : Nat) {cA : ClassId} {n : Nat} {f : Nat → Int32} (ha : G a = some (.inl (cA, n, .inl f))) (ht : tys[t0]? = some (cA, .boolean)) {i : Int32} {x : Int32} (hin : vp_in i n) (hdg : decode cc pc = .ok (.bastore, 1))
    (kk : ∀ (H1 : Heap) (locs1 : List Loc), g_S D cl A H0 (g_up G a (.inl (cA, n, .inl (upd f i.toNatClampNeg (vp_nar .boolean x))))) H1 locs1 nz → W p l e R s m args below meth c H1 locs1 cells slots Q (F0 m (pc + 1) ls rest)) : W p l e R s m args below meth c H locs cells slots Q (F0 m pc ls (.int x :: .int i :: .ref a :: rest)) := by
  refine W.zast hexec hb (w.1 a _ ha) ((hK.2 t0 _ ht).1 n (fun j => .int (f j))) (fun q => by cases q) (by show ¬ (i < 0 ∨ (arrV _ _ _).slots.size ≤ _); rw [arrV_size]; exact hin) rfl rfl hdg fun H1 e z oq => ?_
  refine kk H1 _ (g_set w ha ?_ z oq)
  show H1[a]? = some (vp_cell _ _)
  rw [e]
  rw [vp_cell_i, vp_cell_i, arrV_store]
  congr 2
  funext q
  by_cases hq : q = i.toNatClampNeg
  · subst hq
    simp [updV, upd, vp_nar]
    try rfl
  · simp [updV, upd, hq]
theorem g_last (hexec : p.tables.exec = Jvm.exec) (hb : c.code = cc) (hK : va_K D cl tys s) (w : g_S D cl A H0 G H locs nz) (t0 : Nat) {cA : ClassId} {n : Nat} {f : Nat → Int64} (ha : G a = some (.inl (cA, n, .inr (.inl f)))) (ht : tys[t0]? = some (cA, .long)) {i : Int32} {x : Int64} (hin : vp_in i n) (hdg : decode cc pc = .ok (.lastore, 1))
    (kk : ∀ (H1 : Heap) (locs1 : List Loc), g_S D cl A H0 (g_up G a (.inl (cA, n, .inr (.inl (vp_updL f i.toNatClampNeg x))))) H1 locs1 nz → W p l e R s m args below meth c H1 locs1 cells slots Q (F0 m (pc + 1) ls rest)) : W p l e R s m args below meth c H locs cells slots Q (F0 m pc ls (.long x :: .int i :: .ref a :: rest)) := by
  refine W.last hexec hb (w.1 a _ ha) ((hK.2 t0 _ ht).1 n (fun j => .long (f j))) (fun q => by cases q) (by show ¬ (i < 0 ∨ (arrV _ _ _).slots.size ≤ _); rw [arrV_size]; exact hin) rfl rfl hdg fun H1 e z oq => ?_
  refine kk H1 _ (g_set w ha ?_ z oq)
  show H1[a]? = some (vp_cell _ _)
  rw [e]
  rw [vp_cell_l, vp_cell_l, arrV_store]
  congr 2
  funext q
  by_cases hq : q = i.toNatClampNeg
  · subst hq
    simp [updV, vp_updL]
  · simp [updV, vp_updL, hq]
theorem g_dast (hexec : p.tables.exec = Jvm.exec) (hb : c.code = cc) (hK : va_K D cl tys s) (w : g_S D cl A H0 G H locs nz) (t0 : Nat) {cA : ClassId} {n : Nat} {f : Nat → UInt64} (ha : G a = some (.inl (cA, n, .inr (.inr (.inr (.inl f)))))) (ht : tys[t0]? = some (cA, .double)) {i : Int32} {x : UInt64} (hin : vp_in i n) (hdg : decode cc pc = .ok (.dastore, 1))
    (kk : ∀ (H1 : Heap) (locs1 : List Loc), g_S D cl A H0 (g_up G a (.inl (cA, n, .inr (.inr (.inr (.inl (vf_upd f i.toNatClampNeg x))))))) H1 locs1 nz → W p l e R s m args below meth c H1 locs1 cells slots Q (F0 m (pc + 1) ls rest)) : W p l e R s m args below meth c H locs cells slots Q (F0 m pc ls (.double x :: .int i :: .ref a :: rest)) := by
  refine W.dast hexec hb (w.1 a _ ha) ((hK.2 t0 _ ht).1 n (fun j => .double (f j))) (fun q => by cases q) (by show ¬ (i < 0 ∨ (arrV _ _ _).slots.size ≤ _); rw [arrV_size]; exact hin) rfl rfl hdg fun H1 e z oq => ?_
  refine kk H1 _ (g_set w ha ?_ z oq)
  show H1[a]? = some (vp_cell _ _)
  rw [e]
  rw [vp_cell_d, vp_cell_d, arrV_store]
  congr 2
  funext q
  by_cases hq : q = i.toNatClampNeg
  · subst hq
    simp [updV, vf_upd]
  · simp [updV, vf_upd, hq]
theorem g_astq (hexec : p.tables.exec = Jvm.exec) (hb : c.code = cc) (hK : va_K D cl tys s) (w : g_S D cl A H0 G H locs nz) (t0 ci : Nat) {cA : ClassId} {r : vw_C} {n v : Nat} {vs : List Value} {f : Nat → Option Nat} (ha : G a = some (.inl (cA, n, .inr (.inr (.inr (.inr f)))))) (ht : tys[t0]? = some (cA, .object r.1)) (hv : G v = some (.inr (ci, vs))) (hc : cl[ci]? = some r) {i : Int32} (hin : vp_in i n) (hdg : decode cc pc = .ok (.aastore, 1))
    (kk : ∀ (H1 : Heap) (locs1 : List Loc), g_S D cl A H0 (g_up G a (.inl (cA, n, .inr (.inr (.inr (.inr (va_up f i.toNatClampNeg (some v)))))))) H1 locs1 nz → W p l e R s m args below meth c H1 locs1 cells slots Q (F0 m (pc + 1) ls rest)) : W p l e R s m args below meth c H locs cells slots Q (F0 m pc ls (.ref v :: .int i :: .ref a :: rest)) := by
  have hlt : i.toNatClampNeg < n := Nat.not_le.mp fun q => hin (Or.inr q)
  have h0 : ¬ i < 0 := fun q => hin (Or.inl q)
  obtain ⟨r', hr', cellV, g1, g2, g3, -⟩ := w.1 v _ hv
  have hcls := (hK.1 ci r hc).2
  obtain ⟨kA, comp, k1, k2, k3, -⟩ := (hK.2 t0 _ ht).2
  have hcomp : comp = D.1 ci := Option.some.inj (k3.symm.trans hcls.1)
  subst hcomp
  obtain ⟨kC, hkC, -⟩ := hcls.2
  refine W.aast hexec hb (w.1 a _ ha) (fun q h => by cases h) (fun h => by cases h) k1 k2 rfl hkC ⟨h0, by show _ < (arrV _ _ _).slots.size; rw [arrV_size]; exact hlt⟩ g1 (fun q h => by rw [g3] at h; cases h) (by rw [g2]; exact hkC) (by rw [g2]; exact va_assign hcls) rfl rfl hdg fun H1 e z oq => ?_
  refine kk H1 _ (g_set w ha ?_ z oq)
  show H1[a]? = some (vp_cell _ _)
  rw [e]
  rw [vp_cell_q, vp_cell_q, arrV_store]
  congr 2
  funext q
  by_cases hq : q = i.toNatClampNeg
  · subst hq
    simp [updV, va_up, va_rf]
  · simp [updV, va_up, hq]
theorem g_astqN (hexec : p.tables.exec = Jvm.exec) (hb : c.code = cc) (hK : va_K D cl tys s) (w : g_S D cl A H0 G H locs nz) (t0 : Nat) {cA : ClassId} {C : String} {n : Nat} {f : Nat → Option Nat} (ha : G a = some (.inl (cA, n, .inr (.inr (.inr (.inr f)))))) (ht : tys[t0]? = some (cA, .object C)) {i : Int32} (hin : vp_in i n) (hdg : decode cc pc = .ok (.aastore, 1))
    (kk : ∀ (H1 : Heap) (locs1 : List Loc), g_S D cl A H0 (g_up G a (.inl (cA, n, .inr (.inr (.inr (.inr (va_up f i.toNatClampNeg none))))))) H1 locs1 nz → W p l e R s m args below meth c H1 locs1 cells slots Q (F0 m (pc + 1) ls rest)) : W p l e R s m args below meth c H locs cells slots Q (F0 m pc ls (.null :: .int i :: .ref a :: rest)) := by
  refine va_WaastN (C := C) hexec hb (w.1 a _ ha) ((hK.2 t0 _ ht).1 n (fun j => va_rf (f j))) (fun h => by cases h) (by show ¬ (i < 0 ∨ (arrV _ _ _).slots.size ≤ _); rw [arrV_size]; exact hin) rfl rfl hdg fun H1 e z oq => ?_
  refine kk H1 _ (g_set w ha ?_ z oq)
  show H1[a]? = some (vp_cell _ _)
  rw [e]
  rw [vp_cell_q, vp_cell_q, arrV_store]
  congr 2
  funext q
  by_cases hq : q = i.toNatClampNeg
  · subst hq
    simp [updV, va_up, va_rf]
  · simp [updV, va_up, hq]
/-- makings -/
theorem g_new (hexec : p.tables.exec = Jvm.exec) (hb : c.code = cc) {own C : String} {T : u_T} {N ci index : Nat} {Ts : List Cond} (hts : ∀ w ∈ Ts, w.before args s = true) (hin : ∀ w ∈ u_ws C T N, w ∈ Ts) (ty : Nat → FieldType) (hty : ∀ k, k < N → parseFieldDescriptor (T k).2.2.1 = some (ty k)) (hown : s.vm.findClass own = some m.cls) (hcl : (Cond.classLink own index C).before args s = true) (hinst : (Cond.instantiable C N).before args s = true) (hini : (Cond.initialized C).before args s = true)
    (hK : va_K D cl tys s) (w : g_S D cl A H0 G H locs nz) (hc : cl[ci]? = some (C, T, N)) {fs : List Value} (hfs : ∀ j, j < N → defaultValue (ty j) = vp_V fs j) (hcells : cells + 1 ≤ R.cells) (hslots : slots + N ≤ R.slots) (hdg : decode cc pc = .ok (.new index, 3))
    (kk : ∀ (H1 : Heap), g_S D cl A H0 (g_up G nz (.inr (ci, fs))) H1 locs (nz + 1) →
      W p l e R s m args below meth c H1 locs (cells + 1) (slots + N) Q (F0 m (pc + 3) ls (.ref nz :: rest))) : W p l e R s m args below meth c H locs cells slots Q (F0 m pc ls rest) := by
  have hKn := hK.1 ci _ hc
  refine W.newcK hexec hb hown hcl hinst hini rfl hdg hcells hslots hKn.2.1 rfl fun H1 kC hkC e1 z1 o1 => ?_
  rw [w.2.2.2.2]
  exact kk H1 (g_push w ⟨_, hc, (u_born ty hts hin hKn hkC e1 hty).to hfs⟩ z1 o1)
theorem g_newa (hexec : p.tables.exec = Jvm.exec) (hb : c.code = cc) {atype : ArrayType} (harr : (Cond.arrayClass (newarray.typeOf atype)).before args s = true) {ty : FieldType} (hty : newarray.typeOf atype = ty) (hK : va_K D cl tys s) (w : g_S D cl A H0 G H locs nz) (t0 : Nat) {cA : ClassId} (ht : tys[t0]? = some (cA, ty))
    {n : Int32} {N' : Nat} {a0 : vp_A} (ha : vp_cell cA a0 = arrV cA N' (fun _ => defaultValue ty)) (hn : ¬ n < 0) (hN : n.toNatClampNeg = N') (hbytes : N' * componentBytes ty ≤ 536870912) (hcells : cells + 1 ≤ R.cells) (hslots : slots + N' ≤ R.slots) (hdg : decode cc pc = .ok (.newarray atype, 2))
    (kk : ∀ (H1 : Heap), g_S D cl A H0 (g_up G nz (.inl (cA, a0))) H1 locs (nz + 1) →
      W p l e R s m args below meth c H1 locs (cells + 1) (slots + N') Q (F0 m (pc + 2) ls (.ref nz :: rest))) : W p l e R s m args below meth c H locs cells slots Q (F0 m pc ls (.int n :: rest)) := by
  subst hty
  refine va_newaK hexec hb harr rfl hdg rfl hn hN hbytes hcells hslots rfl fun H1 cA' e1 z1 o1 hAr hNm => ?_
  have hRA : s.vm.findClass ("[" ++ (newarray.typeOf atype).toString) = some cA := by
    have h := (hK.2 t0 _ ht).2
    cases atype <;> exact h
  have he : cA' = cA := Option.some.inj (hNm.symm.trans hRA)
  subst he
  rw [w.2.2.2.2]
  refine kk H1 (g_push w ?_ z1 o1)
  show H1[H.size]? = some (vp_cell _ _)
  rw [ha]
  exact e1
theorem g_newq (hexec : p.tables.exec = Jvm.exec) (hb : c.code = cc) {own C : String} {index : Nat} (hown : s.vm.findClass own = some m.cls) (hclink : (Cond.classLink own index C).before args s = true) (hover : (Cond.arrayOver (.object C)).before args s = true) (hK : va_K D cl tys s) (w : g_S D cl A H0 G H locs nz) (t0 : Nat) {cA : ClassId} (ht : tys[t0]? = some (cA, .object C))
    {n : Int32} {N' : Nat} (hn : ¬ n < 0) (hN : n.toNatClampNeg = N') (hbytes : N' * 4 ≤ 536870912) (hcells : cells + 1 ≤ R.cells) (hslots : slots + N' ≤ R.slots) (hdg : decode cc pc = .ok (.anewarray index, 3))
    (kk : ∀ (H1 : Heap), g_S D cl A H0 (g_up G nz (.inl (cA, N', .inr (.inr (.inr (.inr (fun _ => none))))))) H1 locs (nz + 1) →
      W p l e R s m args below meth c H1 locs (cells + 1) (slots + N') Q (F0 m (pc + 3) ls (.ref nz :: rest))) : W p l e R s m args below meth c H locs cells slots Q (F0 m pc ls (.int n :: rest)) := by
  subst hN
  refine W.anew hexec hb hown hclink hover rfl hdg rfl hn hbytes hcells hslots fun cA' kA comp f1 f2 f3 f4 => ?_
  obtain ⟨kA2, comp2, k1, k2, k3, k4⟩ := (hK.2 t0 _ ht).2
  have he : cA' = cA := by
    have h4 := k4
    first | exact Option.some.inj (f1.symm.trans h4) | exact Option.some.inj (f4.symm.trans h4)
  subst he
  generalize hH1 : H.push ({ cls := cA', slots := Array.replicate n.toNatClampNeg .null, vm := .none } : Cell) = H1
  have z1 : H1.size = H.size + 1 := by rw [← hH1, Array.size_push]
  have e1 : H1[H.size]? = some (arrV cA' n.toNatClampNeg (fun _ => .null)) := by rw [← hH1, Array.getElem?_push_size, ← arrV_new]
  have o1 : ∀ q : Nat, q < H.size → H1[q]? = H[q]? := fun q hq => by rw [← hH1, Array.getElem?_push, if_neg (Nat.ne_of_lt hq)]
  rw [w.2.2.2.2]
  refine kk H1 (g_push w ?_ z1 o1)
  show H1[H.size]? = some (vp_cell _ _)
  rw [vp_cell_q]
  exact e1
end GM2
section GM3
variable {p : Program} {l : Launch} {e : Env} {R : Room} {s : State} {m : MethodId} {args : Array Value} {below : List Frame} {meth : Method} {c : Code} {H : Heap} {locs : List Loc} {cells slots mc ms : Nat}
variable {cc : ByteArray} {pc : Nat} {ls : Array Slot} {rest st0 : List Value} {D : va_G} {cl : List vw_C} {A A0 : Nat → Prop} {tys : List (ClassId × FieldType)} {u G : gW} {nz : Nat} {H0 : Heap} {Q : State → Prop} {EX : (Nat → Prop) → State → Heap → Prop}
/-- what a method leaves: its world, and how many cells there are -/
abbrev g_B (D : va_G) (cl : List vw_C) (A : Nat → Prop) : gW × Nat → State → Prop := fun u t => g_P D cl u.1 t.heap ∧ g_D A u.1 ∧ t.heap.size = u.2
abbrev g_Qi (D : va_G) (cl : List vw_C) (A : Nat → Prop) (post : Int32 → gW × Nat → Prop) := va_Qi post (g_B D cl A) A
abbrev g_Ql (D : va_G) (cl : List vw_C) (A : Nat → Prop) (post : Int64 → gW × Nat → Prop) := va_Ql post (g_B D cl A) A
abbrev g_Qv (D : va_G) (cl : List vw_C) (A : Nat → Prop) (post : gW × Nat → Prop) := va_Qv post (g_B D cl A) A
abbrev g_Qq (D : va_G) (cl : List vw_C) (A : Nat → Prop) (post : Option Nat → gW × Nat → Prop) := va_Qq post (g_B D cl A) A
theorem g_iret {post : Int32 → gW × Nat → Prop} {v : Int32} (hx : p.tables.exec = Jvm.exec) (hb : c.code = cc) (hr : meth.sig.returnType = some .int) (hlocks : meth.locks = false) (w : g_S D cl A s.heap u H locs nz) (hc : cells ≤ mc) (hs : slots ≤ ms) (hdg : decode cc pc = .ok (.ireturn, 1)) (hp : post v (u, nz)) :
    W p l e R s m args below meth c H locs cells slots (MQ below (g_Qi D cl A post) args s mc ms A) (F0 m pc ls [.int v]) :=
  W.widen hc hs (W.iret hx hb hr (fun t ht hW => ⟨⟨v, (u, nz), rfl, hp, by rw [ht]; exact w.1, w.2.1, by rw [ht]; exact w.2.2.2.2⟩, w.2.2.1.F ht⟩) w.2.2.1.2.2 hdg hlocks)
theorem g_zret {post : Int32 → gW × Nat → Prop} {v : Int32} {ty : FieldType} (hx : p.tables.exec = Jvm.exec) (hb : c.code = cc) (hr : meth.sig.returnType = some ty) (hlocks : meth.locks = false) (w : g_S D cl A s.heap u H locs nz) (hc : cells ≤ mc) (hs : slots ≤ ms) (hdg : decode cc pc = .ok (.ireturn, 1)) (hn : narrow ty (.int v) = .int v) (hp : post v (u, nz)) :
    W p l e R s m args below meth c H locs cells slots (MQ below (g_Qi D cl A post) args s mc ms A) (F0 m pc ls [.int v]) :=
  W.widen hc hs (W.zret hx hb hr hn (fun t ht hW => ⟨⟨v, (u, nz), rfl, hp, by rw [ht]; exact w.1, w.2.1, by rw [ht]; exact w.2.2.2.2⟩, w.2.2.1.F ht⟩) w.2.2.1.2.2 hdg hlocks)
theorem g_lret {post : Int64 → gW × Nat → Prop} {v : Int64} (hx : p.tables.exec = Jvm.exec) (hb : c.code = cc) (hr : meth.sig.returnType = some .long) (hlocks : meth.locks = false) (w : g_S D cl A s.heap u H locs nz) (hc : cells ≤ mc) (hs : slots ≤ ms) (hdg : decode cc pc = .ok (.lreturn, 1)) (hp : post v (u, nz)) :
    W p l e R s m args below meth c H locs cells slots (MQ below (g_Ql D cl A post) args s mc ms A) (F0 m pc ls [.long v]) :=
  W.widen hc hs (W.lret hx hb hr (fun t ht hW => ⟨⟨v, (u, nz), rfl, hp, by rw [ht]; exact w.1, w.2.1, by rw [ht]; exact w.2.2.2.2⟩, w.2.2.1.F ht⟩) w.2.2.1.2.2 hdg hlocks)
theorem g_vret {post : gW × Nat → Prop} (hx : p.tables.exec = Jvm.exec) (hb : c.code = cc) (hr : meth.sig.returnType = none) (hlocks : meth.locks = false) (w : g_S D cl A s.heap u H locs nz) (hc : cells ≤ mc) (hs : slots ≤ ms) (hdg : decode cc pc = .ok (.return_, 1)) (hp : post (u, nz)) :
    W p l e R s m args below meth c H locs cells slots (MQ below (g_Qv D cl A post) args s mc ms A) (F0 m pc ls []) :=
  W.widen hc hs (W.vret hx hb hr (fun t ht hW => ⟨⟨(u, nz), rfl, hp, by rw [ht]; exact w.1, w.2.1, by rw [ht]; exact w.2.2.2.2⟩, w.2.2.1.F ht⟩) w.2.2.1.2.2 hdg hlocks)
theorem g_qret {post : Option Nat → gW × Nat → Prop} {r : Option Nat} {rt : FieldType} (hx : p.tables.exec = Jvm.exec) (hb : c.code = cc) (hr : meth.sig.returnType = some rt) (hrt : (∃ n, rt = .object n) ∨ ∃ t, rt = .array t) (hlocks : meth.locks = false) (w : g_S D cl A s.heap u H locs nz) (hc : cells ≤ mc) (hs : slots ≤ ms) (hdg : decode cc pc = .ok (.areturn, 1)) (hp : post r (u, nz)) :
    W p l e R s m args below meth c H locs cells slots (MQ below (g_Qq D cl A post) args s mc ms A) (F0 m pc ls [va_rf r]) :=
  W.widen hc hs (W.aret hx hb hr hrt (by cases r with
    | none => exact Or.inl rfl
    | some a => exact Or.inr ⟨a, rfl⟩) (fun t ht hW => ⟨⟨r, (u, nz), rfl, hp, by rw [ht]; exact w.1, w.2.1, by rw [ht]; exact w.2.2.2.2⟩, w.2.2.1.F ht⟩) w.2.2.1.2.2 hdg hlocks)
/-- a method's body from its entry -/
theorem g_ofW {y : MethodName} {ws : List Cond} {rm : Room} {sz : Nat} {av : List Value} {Qc : Array Value → State → Outcome → State → Prop} {free : Addr → Prop} {maxL : Nat} {ret : Option FieldType}
    (hy : plainName y.cls = true) (hnL : (lg_sl av).length ≤ maxL)
    (body : ∀ (p : Program) (e : Env) (s : State) (m : MethodId) (below : List Frame) (meth : Method) (c : Code) (ls : Array Slot),
      CallFix p m c cc maxL s av.toArray ws y.cls → meth.sig.returnType = ret → meth.locks = false → meth.name = y.name → g_E D cl tys EX (g_A G sz) s s.heap → g_S D cl (g_A G sz) s.heap G s.heap [] sz → lv_has ls maxL (lv_args 0 av) →
      W p l e rm s m av.toArray below meth c s.heap [] 0 0 (MQ below Qc av.toArray s mc ms free) (F0 m 0 ls [])) :
    Met l y (.code y cc maxL ret :: ws) rm (g_Pc D cl tys EX G sz av) Qc mc ms free := by
  refine Met.ofW (cc := cc) (maxL := maxL) (ret := ret) hy rfl ?_
  intro p e s m args below meth c s₁ B hml hv
  obtain ⟨rfl, hsz, hP, hK⟩ := hv
  have hts := atoms_spec (ws := .code y cc maxL ret :: ws) B.pre
  have hl := lv_entry av (n := maxL) hnL
  rw [lg_entry_eq]
  subst hsz
  exact body p e s m below meth c _ ⟨B.exec, B.bytes, hml, findClass_of_methodNamed B.named, fun w h => hts w (List.mem_cons_of_mem _ h)⟩ B.returns B.notSynchronized (name_of_methodNamed B.named B.method).1 hK ⟨hP, g_self hP, va_S.rf, fun q h => Or.inr h, rfl⟩ hl
theorem gx_ofW {y : MethodName} {ws : List Cond} {rm : Room} {sz : Nat} {av : List Value} {Qc : Array Value → State → Outcome → State → Prop} {XC : String → State → State → Prop} {free : Addr → Prop} {maxL : Nat} {ret : Option FieldType}
    (hy : plainName y.cls = true) (hnL : (lg_sl av).length ≤ maxL)
    (body : ∀ (p : Program) (e : Env) (s : State) (m : MethodId) (below : List Frame) (meth : Method) (c : Code) (ls : Array Slot),
      CallFix p m c cc maxL s av.toArray ws y.cls → meth.sig.returnType = ret → meth.locks = false → (∀ x ∈ c.exceptionTable.toList, False) → g_E D cl tys EX (g_A G sz) s s.heap → g_S D cl (g_A G sz) s.heap G s.heap [] sz → lv_has ls maxL (lv_args 0 av) →
      W p l e rm s m av.toArray below meth c s.heap [] 0 0 (vx_MQ below Qc XC av.toArray s mc ms free) (F0 m 0 ls [])) :
    vx_Met l y (.code y cc maxL ret :: ws) rm (g_Pc D cl tys EX G sz av) Qc XC mc ms free := by
  refine vx_ofW (cc := cc) (maxL := maxL) (ret := ret) hy rfl ?_
  intro p e s m args below meth c s₁ B hml ht hv
  obtain ⟨rfl, hsz, hP, hK⟩ := hv
  have hts := atoms_spec (ws := .code y cc maxL ret :: ws) B.pre
  have hl := lv_entry av (n := maxL) hnL
  rw [lg_entry_eq]
  subst hsz
  exact body p e s m below meth c _ ⟨B.exec, B.bytes, hml, findClass_of_methodNamed B.named, fun w h => hts w (List.mem_cons_of_mem _ h)⟩ B.returns B.notSynchronized ht hK ⟨hP, g_self hP, va_S.rf, fun q h => Or.inr h, rfl⟩ hl
/-- calls: the whole world goes along -/
theorem g_calli {post : Int32 → gW × Nat → Prop} {a : Array Value} (w : g_S D cl A0 H0 G H locs nz) (hr : va_Run p l e R s m args below meth c H locs cells slots mc ms (F0 m pc ls st0) rest (g_Qi D cl (g_A G nz) post a) (g_A G nz))
    (kk : ∀ (r : Int32) (u : gW × Nat) (H1 : Heap) (locs1 : List Loc), post r u → nz ≤ u.2 → g_S D cl A0 H0 u.1 H1 locs1 u.2 → W p l e R s m args below meth c H1 locs1 (cells + mc) (slots + ms) Q (F0 m (pc + 3) ls (.int r :: rest))) : W p l e R s m args below meth c H locs cells slots Q (F0 m pc ls st0) :=
  va_calli hr w.2.2.1 (fun q _ h => g_in w h) (fun q h => g_in w h) (fun r u t H1 locs1 ht hvm hp hB hz hk hS => by
    obtain ⟨b1, b2, b3⟩ := hB
    rw [ht] at b1 b3
    exact kk r u H1 locs1 hp (by rw [← b3, ← w.2.2.2.2]; exact hz) ⟨b1, fun a e h => g_in w (b2 a e h), hS, w.2.2.2.1, b3⟩)
theorem g_calll {post : Int64 → gW × Nat → Prop} {a : Array Value} (w : g_S D cl A0 H0 G H locs nz) (hr : va_Run p l e R s m args below meth c H locs cells slots mc ms (F0 m pc ls st0) rest (g_Ql D cl (g_A G nz) post a) (g_A G nz))
    (kk : ∀ (r : Int64) (u : gW × Nat) (H1 : Heap) (locs1 : List Loc), post r u → nz ≤ u.2 → g_S D cl A0 H0 u.1 H1 locs1 u.2 → W p l e R s m args below meth c H1 locs1 (cells + mc) (slots + ms) Q (F0 m (pc + 3) ls (.long r :: rest))) : W p l e R s m args below meth c H locs cells slots Q (F0 m pc ls st0) :=
  va_calll hr w.2.2.1 (fun q _ h => g_in w h) (fun q h => g_in w h) (fun r u t H1 locs1 ht hvm hp hB hz hk hS => by
    obtain ⟨b1, b2, b3⟩ := hB
    rw [ht] at b1 b3
    exact kk r u H1 locs1 hp (by rw [← b3, ← w.2.2.2.2]; exact hz) ⟨b1, fun a e h => g_in w (b2 a e h), hS, w.2.2.2.1, b3⟩)
theorem g_callv {post : gW × Nat → Prop} {a : Array Value} (w : g_S D cl A0 H0 G H locs nz) (hr : va_Run p l e R s m args below meth c H locs cells slots mc ms (F0 m pc ls st0) rest (g_Qv D cl (g_A G nz) post a) (g_A G nz))
    (kk : ∀ (u : gW × Nat) (H1 : Heap) (locs1 : List Loc), post u → nz ≤ u.2 → g_S D cl A0 H0 u.1 H1 locs1 u.2 → W p l e R s m args below meth c H1 locs1 (cells + mc) (slots + ms) Q (F0 m (pc + 3) ls rest)) : W p l e R s m args below meth c H locs cells slots Q (F0 m pc ls st0) :=
  va_callv hr w.2.2.1 (fun q _ h => g_in w h) (fun q h => g_in w h) (fun u t H1 locs1 ht hvm hp hB hz hk hS => by
    obtain ⟨b1, b2, b3⟩ := hB
    rw [ht] at b1 b3
    exact kk u H1 locs1 hp (by rw [← b3, ← w.2.2.2.2]; exact hz) ⟨b1, fun a e h => g_in w (b2 a e h), hS, w.2.2.2.1, b3⟩)
theorem g_callq {post : Option Nat → gW × Nat → Prop} {a : Array Value} (w : g_S D cl A0 H0 G H locs nz) (hr : va_Run p l e R s m args below meth c H locs cells slots mc ms (F0 m pc ls st0) rest (g_Qq D cl (g_A G nz) post a) (g_A G nz))
    (kk : ∀ (r : Option Nat) (u : gW × Nat) (H1 : Heap) (locs1 : List Loc), post r u → nz ≤ u.2 → g_S D cl A0 H0 u.1 H1 locs1 u.2 → W p l e R s m args below meth c H1 locs1 (cells + mc) (slots + ms) Q (F0 m (pc + 3) ls (va_rf r :: rest))) : W p l e R s m args below meth c H locs cells slots Q (F0 m pc ls st0) :=
  va_callq hr w.2.2.1 (fun q _ h => g_in w h) (fun q h => g_in w h) (fun r u t H1 locs1 ht hvm hp hB hz hk hS => by
    obtain ⟨b1, b2, b3⟩ := hB
    rw [ht] at b1 b3
    exact kk r u H1 locs1 hp (by rw [← b3, ← w.2.2.2.2]; exact hz) ⟨b1, fun a e h => g_in w (b2 a e h), hS, w.2.2.2.1, b3⟩)
end GM3
end
section
/-! what is given beside the worlds: words of the tables that speak of nests, casts and arrays; texts; statics of the JDK -/
def lwN_0 : List Cond := [.fieldLinkNest "Sendhouse" 110 "Sendhouse$Classes" "count" "I" "Sendhouse", .arrayOver (.object "Sendhouse$Told"), .methodLinkNest "Sendhouse" 24 ⟨"Sendhouse$Rows", "<init>", "()V"⟩ "Sendhouse", .fieldLinkNest "Sendhouse" 128 "Sendhouse$Rows" "count" "I" "Sendhouse", .fieldLinkNest "Sendhouse$Told" 41 "Sendhouse$Rows" "comeToCount" "I" "Sendhouse", .arrayOver (.object "Sendhouse$Thing"), .methodLinkNest "Sendhouse$Things" 30 ⟨"Sendhouse$Thing", "<init>", "()V"⟩ "Sendhouse", .fieldLinkNest "Sendhouse$Things" 74 "Sendhouse$Thing" "places" "[J" "Sendhouse", .fieldLinkNest "Sendhouse" 272 "Sendhouse$Thing" "places" "[J" "Sendhouse", .fieldLinkNest "Sendhouse$Things" 39 "Sendhouse$Thing" "number" "I" "Sendhouse", .fieldLinkNest "Sendhouse" 493 "Sendhouse$Thing" "number" "I" "Sendhouse", .fieldLinkNest "Sendhouse$Things" 61 "Sendhouse$Thing" "cls" "I" "Sendhouse", .fieldLinkNest "Sendhouse" 240 "Sendhouse$Thing" "cls" "I" "Sendhouse", .fieldLinkNest "Sendhouse$Things" 71 "Sendhouse$Thing" "size" "I" "Sendhouse", .fieldLinkNest "Sendhouse" 496 "Sendhouse$Thing" "size" "I" "Sendhouse", .fieldLinkNest "Sendhouse$Things" 85 "Sendhouse$Thing" "reached" "Z" "Sendhouse", .fieldLinkNest "Sendhouse" 207 "Sendhouse$Things" "count" "I" "Sendhouse", .arrayOver (.object "Sendhouse$Frame"), .methodLinkNest "Sendhouse" 71 ⟨"Sendhouse$Written", "<init>", "()V"⟩ "Sendhouse", .fieldLinkNest "Sendhouse" 474 "Sendhouse$Written" "sum" "J" "Sendhouse", .fieldLinkNest "Sendhouse" 471 "Sendhouse$Written" "power" "J" "Sendhouse", .methodLinkNest "Sendhouse" 82 ⟨"Sendhouse$Frame", "<init>", "()V"⟩ "Sendhouse", .fieldLinkNest "Sendhouse" 296 "Sendhouse$Frame" "arguments" "[J" "Sendhouse", .fieldLinkNest "Sendhouse" 419 "Sendhouse$Frame" "temporaries" "[J" "Sendhouse", .fieldLinkNest "Sendhouse" 344 "Sendhouse$Frame" "receiver" "J" "Sendhouse", .fieldLinkNest "Sendhouse" 324 "Sendhouse$Frame" "row" "I" "Sendhouse", .fieldLinkNest "Sendhouse" 327 "Sendhouse$Frame" "depth" "I" "Sendhouse", .castable "java/lang/ArrayIndexOutOfBoundsException" "java/lang/ArrayIndexOutOfBoundsException", .declares ⟨"java/lang/IndexOutOfBoundsException", "<init>", "()V"⟩, .declares ⟨"java/lang/IndexOutOfBoundsException", "<init>", "(Ljava/lang/String;)V"⟩, .declares ⟨"java/lang/RuntimeException", "<init>", "()V"⟩, .declares ⟨"java/lang/RuntimeException", "<init>", "(Ljava/lang/String;)V"⟩, .declares ⟨"java/lang/Exception", "<init>", "()V"⟩, .declares ⟨"java/lang/Exception", "<init>", "(Ljava/lang/String;)V"⟩, .declares ⟨"java/lang/Throwable", "<init>", "()V"⟩, .declares ⟨"java/lang/Throwable", "<init>", "(Ljava/lang/String;)V"⟩, .methodLinkNest "Sendhouse$Classes" 22 ⟨"Sendhouse", "isBelow", "(II)Z"⟩ "Sendhouse", .castable "java/lang/IndexOutOfBoundsException" "java/lang/IndexOutOfBoundsException", .castable "java/util/NoSuchElementException" "java/util/NoSuchElementException", .methodLinkNest "Sendhouse$Things" 42 ⟨"Sendhouse", "isThing", "(J)Z"⟩ "Sendhouse"]
def lwN_1 : List Cond := [.methodLinkNest "Sendhouse$Things" 46 ⟨"Sendhouse", "numberOf", "(J)I"⟩ "Sendhouse", .methodLinkNest "Sendhouse$Things" 31 ⟨"Sendhouse", "isBelow", "(II)Z"⟩ "Sendhouse", .methodLinkNest "Sendhouse$Frame" 76 ⟨"Sendhouse", "placeAt", "([JI)J"⟩ "Sendhouse", .methodLinkNest "Sendhouse$Things" 78 ⟨"Sendhouse", "placeAt", "([JI)J"⟩ "Sendhouse", .castable "java/lang/IllegalArgumentException" "java/lang/IllegalArgumentException", .castable "java/lang/IllegalStateException" "java/lang/IllegalStateException", .methodLinkNest "Sendhouse$Things" 54 ⟨"Sendhouse", "isNumber", "(J)Z"⟩ "Sendhouse", .castable "java/lang/UnsupportedOperationException" "java/lang/UnsupportedOperationException", .methodLinkNest "Sendhouse$Rows" 35 ⟨"Sendhouse", "isBelow", "(II)Z"⟩ "Sendhouse", .methodLinkNest "Sendhouse$Thing" 37 ⟨"Sendhouse", "isBelow", "(II)Z"⟩ "Sendhouse", .methodLinkNest "Sendhouse$Frame" 72 ⟨"Sendhouse", "isBelow", "(II)Z"⟩ "Sendhouse", .methodLinkNest "Sendhouse$Written" 35 ⟨"Sendhouse$Page", "<init>", "()V"⟩ "Sendhouse", .fieldLinkNest "Sendhouse$Written" 44 "Sendhouse$Page" "values" "[J" "Sendhouse", .arrayOver (.object "java/lang/Object"), .methodLinkNest "Sendhouse$Written" 64 ⟨"Sendhouse", "isBelow", "(II)Z"⟩ "Sendhouse", .methodLinkNest "Sendhouse$Written" 48 ⟨"Sendhouse", "putAt", "([JIJ)V"⟩ "Sendhouse", .methodLinkNest "Sendhouse$Written" 52 ⟨"Sendhouse", "plusValue", "(JJ)J"⟩ "Sendhouse", .castable "[B" "java/lang/Cloneable", .arrayOver (.object "java/lang/String"), .declares ⟨"java/util/List", "toArray", "([Ljava/lang/Object;)[Ljava/lang/Object;"⟩, .castable "java/util/ArrayList" "java/util/List", .unhidden "java/util/ArrayList" "toArray" "([Ljava/lang/Object;)[Ljava/lang/Object;", .publicMethod ⟨"java/util/ArrayList", "toArray", "([Ljava/lang/Object;)[Ljava/lang/Object;"⟩, .castable "java/util/ArrayList$SubList" "java/util/List", .unhidden "java/util/ArrayList$SubList" "toArray" "([Ljava/lang/Object;)[Ljava/lang/Object;", .publicMethod ⟨"java/util/ArrayList$SubList", "toArray", "([Ljava/lang/Object;)[Ljava/lang/Object;"⟩, .declares ⟨"java/lang/CharacterData", "digit", "(II)I"⟩, .fieldLinkNest "Sendhouse$Frame" 44 "Sendhouse$Told" "cls" "I" "Sendhouse", .fieldLinkNest "Sendhouse" 174 "Sendhouse$Told" "cls" "I" "Sendhouse", .fieldLinkNest "Sendhouse$Frame" 49 "Sendhouse$Told" "selector" "I" "Sendhouse", .fieldLinkNest "Sendhouse$Frame" 80 "Sendhouse$Told" "arguments" "I" "Sendhouse", .fieldLinkNest "Sendhouse" 287 "Sendhouse$Told" "arguments" "I" "Sendhouse", .fieldLinkNest "Sendhouse$Frame" 82 "Sendhouse$Told" "temporaries" "I" "Sendhouse", .fieldLinkNest "Sendhouse$Frame" 52 "Sendhouse$Told" "rows" "LSendhouse$Rows;" "Sendhouse", .fieldLinkNest "Sendhouse" 156 "Sendhouse$Told" "rows" "LSendhouse$Rows;" "Sendhouse", .fieldLinkNest "Sendhouse" 163 "Sendhouse$Told" "calls" "I" "Sendhouse", .fieldLinkNest "Sendhouse" 187 "Sendhouse$Told" "compiled" "Z" "Sendhouse", .methodLinkNest "Sendhouse$Told" 63 ⟨"Sendhouse", "isBelow", "(II)Z"⟩ "Sendhouse", .methodLinkNest "Sendhouse$Told" 75 ⟨"Sendhouse", "isOfPlainValues", "(I)Z"⟩ "Sendhouse", .castable "java/lang/ArrayIndexOutOfBoundsException" "java/lang/IndexOutOfBoundsException"]
def lwN_2 : List Cond := [.castable "java/lang/NumberFormatException" "java/lang/IllegalArgumentException", .castable "Sendhouse$Told" "java/lang/Object", .castable "Sendhouse$Thing" "java/lang/Object", .castable "Sendhouse$Frame" "java/lang/Object", .castable "java/lang/String" "java/lang/Object", .castable "Sendhouse" "java/lang/Object", .castable "Sendhouse$Classes" "java/lang/Object", .castable "Sendhouse$Rows" "java/lang/Object", .castable "Sendhouse$Things" "java/lang/Object", .castable "Sendhouse$Written" "java/lang/Object", .castable "java/util/ArrayList" "java/lang/Object", .castable "java/lang/ArrayIndexOutOfBoundsException" "java/lang/Object", .castable "java/lang/IndexOutOfBoundsException" "java/lang/Object", .castable "java/lang/IllegalArgumentException" "java/lang/Object", .castable "java/lang/IllegalStateException" "java/lang/Object", .castable "java/lang/StringBuilder" "java/lang/Object", .castable "java/util/ArrayList$SubList" "java/lang/Object", .castable "java/lang/NumberFormatException" "java/lang/Object", .castable "java/lang/CharacterDataLatin1" "java/lang/Object", .castable "java/lang/UnsupportedOperationException" "java/lang/Object", .castable "java/util/NoSuchElementException" "java/lang/Object", .castable "Sendhouse$Page" "java/lang/Object", .castable "java/lang/Throwable" "java/lang/Object", .declares ⟨"java/lang/Object", "getClass", "()Ljava/lang/Class;"⟩, .castable "[I" "java/lang/Object", .castable "[LSendhouse$Told;" "java/lang/Object", .castable "[C" "java/lang/Object", .castable "[LSendhouse$Thing;" "java/lang/Object", .castable "[J" "java/lang/Object", .castable "[LSendhouse$Frame;" "java/lang/Object", .castable "[B" "java/lang/Object", .castable "[Ljava/lang/Object;" "java/lang/Object", .castable "[Ljava/lang/String;" "java/lang/Object", .castable "[Z" "java/lang/Object"]
def lwN : List Cond := lwN_0 ++ (lwN_1 ++ lwN_2)
def g_nw : Cond → Bool
  | .fieldLinkNest _ _ _ _ _ _ => true
  | .methodLinkNest _ _ _ _ => true
  | .castable _ _ => true
  | .declares _ => true
  | .arrayOver (.object _) => true
  | .unhidden _ _ _ => true
  | .publicMethod _ => true
  | _ => false
theorem g_nw_warm {w : Cond} (hg : g_nw w = true) {s U : State} (hW : s.WarmedH U.vm) (h : va_Nw w s) : va_Nw w U := by
  cases w with
  | fieldLinkNest a i b n d h9 => exact va_Nw.warmF hW h
  | methodLinkNest a i x h9 => exact va_Nw.warmM hW h
  | castable a b => exact va_Nw.warmC hW h
  | declares x => exact va_Nw.warmD hW h
  | arrayOver t =>
    cases t with
    | object C => exact va_AO.moved hW.alike h
    | _ => cases hg
  | unhidden a b c9 => exact va_tabs rfl (rfl : (s.setVm U.vm).vm = U.vm) (by rw [Cond.unhidden_setVm hW.alike]; exact h)
  | publicMethod x => exact va_tabs rfl (rfl : (s.setVm U.vm).vm = U.vm) (by rw [Cond.publicMethod_setVm hW.alike]; exact h)
  | _ => cases hg
theorem lwN_ok : lwN.all g_nw = true := by decide +kernel
theorem ckN_0 : ∀ w ∈ lwN_0, w ∈ lwN := fun _ h => List.mem_append_left _ h
theorem ckN_1 : ∀ w ∈ lwN_1, w ∈ lwN := fun _ h => List.mem_append_right _ (List.mem_append_left _ h)
theorem ckN_2 : ∀ w ∈ lwN_2, w ∈ lwN := fun _ h => List.mem_append_right _ (List.mem_append_right _ (h))
def lwS : List (String × Nat × String) := [("Sendhouse", 177, "no such class or selector"), ("Sendhouse", 182, "no method is told there"), ("Sendhouse", 280, "no such global or selector"), ("Sendhouse", 138, "the number is out of range"), ("Sendhouse", 282, "a run stands"), ("Sendhouse", 290, "no such method"), ("Sendhouse", 298, "no run stands"), ("Sendhouse", 308, "there are no frames"), ("SendhouseLaw", 189, "n"), ("SendhouseLaw", 198, " \x72"), ("java/util/Arrays", 337, " > "), ("SendhouseLaw", 146, " "), ("java/lang/String", 761, ".$|()[{^?*+\\"), ("java/lang/StringLatin1", 151, ""), ("java/lang/StringUTF16", 295, ""), ("java/util/AbstractList", 106, "fromIndex = "), ("java/util/AbstractList", 122, "toIndex = "), ("java/util/AbstractList", 126, "fromIndex("), ("java/util/AbstractList", 128, ") > toIndex("), ("java/util/AbstractList", 130, ")"), ("java/lang/Integer", 92, "Cannot parse null string"), ("java/lang/Integer", 102, "radix "), ("java/lang/Integer", 111, " less than Character.MIN_RADIX"), ("java/lang/Integer", 116, " greater than Character.MAX_RADIX"), ("java/lang/NumberFormatException", 15, "For input string: \""), ("java/lang/NumberFormatException", 21, "\""), ("java/lang/NumberFormatException", 23, ""), ("java/lang/NumberFormatException", 25, " under radix "), ("Sendhouse", 126, "no such letter"), ("Sendhouse", 129, "as many rows as can be"), ("Sendhouse", 149, "not well told"), ("SendhouseLaw", 208, "s m"), ("SendhouseLaw", 210, ",0 n"), ("SendhouseLaw", 212, " + \x72"), ("SendhouseLaw", 214, "a0 y4 n"), ("SendhouseLaw", 216, " r s a0 n1 - m"), ("SendhouseLaw", 218, ",1 a0 + \x72"), ("SendhouseLaw", 220, "n0 T0 a0 n2 < y11 t0 a0 + T0 j12 r t0 \x72"), ("SendhouseLaw", 222, " T0 g"), ("SendhouseLaw", 224, " w t0 n1 - d T0 y2 t0 \x72"), ("SendhouseLaw", 226, "c3 d G"), ("SendhouseLaw", 228, " m"), ("SendhouseLaw", 230, ",0 w g"), ("SendhouseLaw", 232, "f0 w s F0 c4 F1 f1 \x72"), ("SendhouseLaw", 234, "a0 a0 = y6 u r s m"), ("SendhouseLaw", 236, ",0 \x72"), ("SendhouseLaw", 238, "s M"), ("SendhouseLaw", 240, ",0 d w n"), ("SendhouseLaw", 242, " T1 s m"), ("SendhouseLaw", 244, ",0 T0 t1 n1 - d T1 y2 t0 \x72"), ("SendhouseLaw", 246, "s k w n"), ("SendhouseLaw", 248, " n0 / \x72"), ("SendhouseLaw", 250, "s n2 < y11 s s n1 - m"), ("SendhouseLaw", 252, ",0 * r n1 \x72"), ("Sendhouse", 89, "no such class"), ("Sendhouse", 107, "no class can be like that"), ("Sendhouse", 115, "as many classes as can be"), ("Sendhouse", 265, "no such global"), ("Sendhouse", 208, "no such global or class"), ("Sendhouse", 210, "no things are of that class"), ("Sendhouse", 216, "as many things as can be"), ("Sendhouse", 340, "the run has no answer"), ("Sendhouse", 342, "no such frame"), ("Sendhouse", 351, "no such place"), ("Sendhouse", 270, "no such thing any more, or field of it"), ("Sendhouse", 310, "there is no fault")]
def lwF : List (String × MethodName × MethodName) := [("java/util/ArrayList$SubList", ⟨"java/util/List", "toArray", "([Ljava/lang/Object;)[Ljava/lang/Object;"⟩, ⟨"java/util/ArrayList$SubList", "toArray", "([Ljava/lang/Object;)[Ljava/lang/Object;"⟩)]
theorem lwF_ok : ∀ q ∈ lwF, q.2.1.cls ≠ "java/lang/invoke/MethodHandle" ∧ q.2.1.cls ≠ "java/lang/invoke/VarHandle" := by decide +kernel
/-- the texts whose contents are asked: where they stand, what they hold, their place -/
def lwT : List (String × Nat × String × Nat × List Int32) := [("SendhouseLaw", 189, "n", 20, [110]), ("SendhouseLaw", 198, " \x72", 22, [32, 114]), ("SendhouseLaw", 146, " ", 24, [32]), ("java/lang/String", 761, ".$|()[{^?*+\\", 26, [46, 36, 124, 40, 41, 91, 123, 94, 63, 42, 43, 92]), ("java/lang/StringLatin1", 151, "", 28, []), ("SendhouseLaw", 208, "s m", 30, [115, 32, 109]), ("SendhouseLaw", 210, ",0 n", 32, [44, 48, 32, 110]), ("SendhouseLaw", 212, " + \x72", 34, [32, 43, 32, 114]), ("SendhouseLaw", 214, "a0 y4 n", 36, [97, 48, 32, 121, 52, 32, 110]), ("SendhouseLaw", 216, " r s a0 n1 - m", 38, [32, 114, 32, 115, 32, 97, 48, 32, 110, 49, 32, 45, 32, 109]), ("SendhouseLaw", 218, ",1 a0 + \x72", 40, [44, 49, 32, 97, 48, 32, 43, 32, 114]), ("SendhouseLaw", 220, "n0 T0 a0 n2 < y11 t0 a0 + T0 j12 r t0 \x72", 42, [110, 48, 32, 84, 48, 32, 97, 48, 32, 110, 50, 32, 60, 32, 121, 49, 49, 32, 116, 48, 32, 97, 48, 32, 43, 32, 84, 48, 32, 106, 49, 50, 32, 114, 32, 116, 48, 32, 114]), ("SendhouseLaw", 222, " T0 g", 44, [32, 84, 48, 32, 103]), ("SendhouseLaw", 224, " w t0 n1 - d T0 y2 t0 \x72", 46, [32, 119, 32, 116, 48, 32, 110, 49, 32, 45, 32, 100, 32, 84, 48, 32, 121, 50, 32, 116, 48, 32, 114]), ("SendhouseLaw", 226, "c3 d G", 48, [99, 51, 32, 100, 32, 71]), ("SendhouseLaw", 228, " m", 50, [32, 109]), ("SendhouseLaw", 230, ",0 w g", 52, [44, 48, 32, 119, 32, 103]), ("SendhouseLaw", 232, "f0 w s F0 c4 F1 f1 \x72", 54, [102, 48, 32, 119, 32, 115, 32, 70, 48, 32, 99, 52, 32, 70, 49, 32, 102, 49, 32, 114]), ("SendhouseLaw", 234, "a0 a0 = y6 u r s m", 56, [97, 48, 32, 97, 48, 32, 61, 32, 121, 54, 32, 117, 32, 114, 32, 115, 32, 109]), ("SendhouseLaw", 236, ",0 \x72", 58, [44, 48, 32, 114]), ("SendhouseLaw", 238, "s M", 60, [115, 32, 77]), ("SendhouseLaw", 240, ",0 d w n", 62, [44, 48, 32, 100, 32, 119, 32, 110]), ("SendhouseLaw", 242, " T1 s m", 64, [32, 84, 49, 32, 115, 32, 109]), ("SendhouseLaw", 244, ",0 T0 t1 n1 - d T1 y2 t0 \x72", 66, [44, 48, 32, 84, 48, 32, 116, 49, 32, 110, 49, 32, 45, 32, 100, 32, 84, 49, 32, 121, 50, 32, 116, 48, 32, 114]), ("SendhouseLaw", 246, "s k w n", 68, [115, 32, 107, 32, 119, 32, 110]), ("SendhouseLaw", 248, " n0 / \x72", 70, [32, 110, 48, 32, 47, 32, 114]), ("SendhouseLaw", 250, "s n2 < y11 s s n1 - m", 72, [115, 32, 110, 50, 32, 60, 32, 121, 49, 49, 32, 115, 32, 115, 32, 110, 49, 32, 45, 32, 109]), ("SendhouseLaw", 252, ",0 * r n1 \x72", 74, [44, 48, 32, 42, 32, 114, 32, 110, 49, 32, 114])]
def dgN : List Int32 := [(-1), (-1), (-1), (-1), (-1), (-1), (-1), (-1), (-1), (-1), (-1), (-1), (-1), (-1), (-1), (-1), (-1), (-1), (-1), (-1), (-1), (-1), (-1), (-1), (-1), (-1), (-1), (-1), (-1), (-1), (-1), (-1), (-1), (-1), (-1), (-1), (-1), (-1), (-1), (-1), (-1), (-1), (-1), (-1), (-1), (-1), (-1), (-1), 0, 1, 2, 3, 4, 5, 6, 7, 8, 9, (-1), (-1), (-1), (-1), (-1), (-1), (-1), 10, 11, 12, 13, 14, 15, 16, 17, 18, 19, 20, 21, 22, 23, 24, 25, 26, 27, 28, 29, 30, 31, 32, 33, 34, 35, (-1), (-1), (-1), (-1), (-1), (-1), 10, 11, 12, 13, 14, 15, 16, 17, 18, 19, 20, 21, 22, 23, 24, 25, 26, 27, 28, 29, 30, 31, 32, 33, 34, 35, (-1), (-1), (-1), (-1), (-1), (-1), (-1), (-1), (-1), (-1), (-1), (-1), (-1), (-1), (-1), (-1), (-1), (-1), (-1), (-1), (-1), (-1), (-1), (-1), (-1), (-1), (-1), (-1), (-1), (-1), (-1), (-1), (-1), (-1), (-1), (-1), (-1), (-1), (-1), (-1), (-1), (-1), (-1), (-1), (-1), (-1), (-1), (-1), (-1), (-1), (-1), (-1), (-1), (-1), (-1), (-1), (-1), (-1), (-1), (-1), (-1), (-1), (-1), (-1), (-1), (-1), (-1), (-1), (-1), (-1), (-1), (-1), (-1), (-1), (-1), (-1), (-1), (-1), (-1), (-1), (-1), (-1), (-1), (-1), (-1), (-1), (-1), (-1), (-1), (-1), (-1), (-1), (-1), (-1), (-1), (-1), (-1), (-1), (-1), (-1), (-1), (-1), (-1), (-1), (-1), (-1), (-1), (-1), (-1), (-1), (-1), (-1), (-1), (-1), (-1), (-1), (-1), (-1), (-1), (-1), (-1), (-1), (-1), (-1), (-1), (-1), (-1), (-1), (-1), (-1), (-1), (-1), (-1)]
def lwD : List (String × String) := []
def EX1 (κ : Nat → Nat) (A : Nat → Prop) (U : State) (H : Heap) : Prop :=
  ((∀ w ∈ lwN, va_Nw w U) ∧ (∀ q ∈ lwF, va_Fw q.1 q.2.1 q.2.2 U) ∧ ∀ q ∈ lwD, va_Nc q.1 q.2 U) ∧ (vx_Zq Bundle.tN "UNASSIGNED_STACK" Bundle.steD A U H ∧ vx_Zq Bundle.tN "SUPPRESSED_SENTINEL" Bundle.listD A U H) ∧
  (∀ q ∈ lwS, ∃ a, vk_R q.1 q.2.1 q.2.2 a U) ∧
  (va_Z "java/util/ArrayList" "DEFAULTCAPACITY_EMPTY_ELEMENTDATA" "[Ljava/lang/Object;" (.ref (κ 0)) A U H ∧ va_T (.object "java/lang/Object") (κ 0) 0 (fun _ => .null) A U H ∧ va_O "[Ljava/lang/Object;" (κ 0) A U H ∧ va_Mi "[Ljava/lang/Object;" (κ 3) U) ∧
  (va_Z "java/lang/String" "COMPACT_STRINGS" "Z" (.int 1) A U H ∧ (∀ q ∈ lwT, vk_R q.1 q.2.1 q.2.2.1 (κ q.2.2.2.1) U ∧ vk_S 1 [q.2.2.2.2.length] [q.2.2.2.2] (fun _ => κ q.2.2.2.1) (fun _ => κ (q.2.2.2.1 + 1)) A U H) ∧
  (va_Z "java/lang/Integer" "DigitOnes" "[B" (.ref (κ 4)) A U H ∧ va_T .byte (κ 4) 100 (fun j => .int (Int32.ofNat (48 + j % 10))) A U H) ∧
  (va_Z "java/lang/CharacterDataLatin1" "instance" "Ljava/lang/CharacterDataLatin1;" (.ref (κ 5)) A U H ∧ va_O "java/lang/CharacterDataLatin1" (κ 5) A U H) ∧
  (va_Z "java/lang/CharacterDataLatin1" "DIGITS" "[B" (.ref (κ 6)) A U H ∧ va_T .byte (κ 6) 256 (fun j => .int (dgN.getD j 0)) A U H) ∧
  va_Zq "jdk/internal/util/Preconditions" "SIOOBE_FORMATTER" "Ljava/util/function/BiFunction;" A U H)
theorem EX1_cl (κ : Nat → Nat) : g_cl (EX1 κ) := by
  refine ⟨fun A s U H hW h => ?_, fun A U H H1 h hk => ?_, fun A B U H h hAB => ?_⟩
  · obtain ⟨h1, ⟨h2, h3⟩, h4, ⟨h5, h6, h10, h11⟩, h7, h8, ⟨k1, k2⟩, ⟨k3, k4⟩, ⟨k5, k6⟩, k7⟩ := h
    exact ⟨⟨fun w hw => g_nw_warm (List.all_eq_true.mp lwN_ok w hw) hW (h1.1 w hw), fun q hq => va_Fw.moved (lwF_ok q hq) hW.alike (h1.2.1 q hq), fun q hq => va_Nc.moved hW.alike (h1.2.2 q hq)⟩, ⟨h2.moved hW.alike, h3.moved hW.alike⟩, fun q hq => by
      obtain ⟨a, ha⟩ := h4 q hq
      exact ⟨a, ha.warm hW⟩, ⟨h5.moved hW.alike, h6.moved hW.alike, h10.moved hW.alike, h11.moved hW.alike⟩, h7.moved hW.alike, fun q hq => ⟨(h8 q hq).1.warm hW, (h8 q hq).2.moved hW.alike⟩, ⟨k1.moved hW.alike, k2.moved hW.alike⟩, ⟨k3.moved hW.alike, k4.moved hW.alike⟩, ⟨k5.moved hW.alike, k6.moved hW.alike⟩, k7.moved hW.alike⟩
  · obtain ⟨h1, ⟨h2, h3⟩, h4, ⟨h5, h6, h10, h11⟩, h7, h8, ⟨k1, k2⟩, ⟨k3, k4⟩, ⟨k5, k6⟩, k7⟩ := h
    exact ⟨h1, ⟨h2.kept hk, h3.kept hk⟩, h4, ⟨h5.kept hk, h6.kept hk, h10.kept hk, h11⟩, h7.kept hk, fun q hq => ⟨(h8 q hq).1, (h8 q hq).2.kept hk⟩, ⟨k1.kept hk, k2.kept hk⟩, ⟨k3.kept hk, k4.kept hk⟩, ⟨k5.kept hk, k6.kept hk⟩, k7.kept hk⟩
  · obtain ⟨h1, ⟨h2, h3⟩, h4, ⟨h5, h6, h10, h11⟩, h7, h8, ⟨k1, k2⟩, ⟨k3, k4⟩, ⟨k5, k6⟩, k7⟩ := h
    exact ⟨h1, ⟨h2.narrow hAB, h3.narrow hAB⟩, h4, ⟨h5.narrow hAB, h6.narrow hAB, h10.narrow hAB, h11⟩, h7.narrow hAB, fun q hq => ⟨(h8 q hq).1, (h8 q hq).2.narrow hAB⟩, ⟨k1.narrow hAB, k2.narrow hAB⟩, ⟨k3.narrow hAB, k4.narrow hAB⟩, ⟨k5.narrow hAB, k6.narrow hAB⟩, k7.narrow hAB⟩
end
section
/-! the arrays' kinds; calls over worlds -/
abbrev gT (ar : Nat → ClassId) : List (ClassId × FieldType) := [(ar 0, .int), (ar 1, .long), (ar 2, .char), (ar 3, .boolean), (ar 4, .byte), (ar 5, .object "Sendhouse$Frame"), (ar 6, .object "Sendhouse$Thing"), (ar 7, .object "Sendhouse$Told"), (ar 8, .object "java/lang/Object"), (ar 9, .object "java/lang/String")]
section RUN
variable {p : Program} {l : Launch} {e : Env} {R : Room} {s : State} {m : MethodId} {args : Array Value} {below : List Frame} {meth : Method} {c : Code} {H : Heap} {locs : List Loc} {cells slots : Nat}
variable {pc : Nat} {ls : Array Slot} {rest st0 : List Value} {D : va_G} {ar : Nat → ClassId} {κ : Nat → Nat} {A : Nat → Prop} {G : gW} {nz : Nat}
variable {y : MethodName} {bytes cc : ByteArray} {maxL nL mc ms n index : Nat} {ret : Option FieldType} {rm : Room} {Qc : Array Value → State → Outcome → State → Prop} {free : Addr → Prop} {own C host : String} {b ci : Nat} {As fs : List Value} {r : vw_C} {lv : List (Nat × Value)} {XC : String → State → State → Prop}
theorem g_runV (S : CallFix p m c cc nL s args lwA own) (hE : g_E D vwCl (gT ar) (EX1 κ) A s s.heap) (w : g_S D vwCl A s.heap G H locs nz) (hl : lv_has ls nL lv) (hM : Met l y (lwC y bytes maxL ret) rm (g_Pc D vwCl (gT ar) (EX1 κ) G nz (.ref b :: As)) Qc mc ms free) (cw : CallW R s args own C index y bytes maxL ret (lwC y bytes maxL ret) rm mc ms n)
    (hb : G b = some (.inr (ci, fs))) (hc : vwCl[ci]? = some r) (hC : r.1 = C) (hn : As.length = n) (hst : st0 = As.reverse ++ .ref b :: rest) (hW : (rest.map fun v => v.category).sum ≤ 8) (hdg : decode cc pc = .ok (.invokevirtual index, 3)) (hf : cells + mc ≤ R.cells ∧ slots + ms ≤ R.slots) :
    va_Run p l e R s m args below meth c H locs cells slots mc ms (F0 m pc ls st0) rest (Qc (Value.ref b :: As).toArray) free := by
  subst hC
  exact va_runV S hM cw (g_preV (EX1_cl κ) w hE hb hc) rfl hn hl.1 hst (lv_room hW) hdg hf
theorem g_runS (S : CallFix p m c cc nL s args lwA own) (hE : g_E D vwCl (gT ar) (EX1 κ) A s s.heap) (w : g_S D vwCl A s.heap G H locs nz) (hl : lv_has ls nL lv) (hM : Met l y (lwC y bytes maxL ret) rm (g_Pc D vwCl (gT ar) (EX1 κ) G nz As) Qc mc ms free) (cw : CallB R s args own index y bytes maxL ret (lwC y bytes maxL ret) rm mc ms n ∧ (Cond.static y).before args s = true)
    (hn : As.length = n) (hst : st0 = As.reverse ++ rest) (hW : (rest.map fun v => v.category).sum ≤ 8) (hdg : decode cc pc = .ok (.invokestatic index, 3)) (hf : cells + mc ≤ R.cells ∧ slots + ms ≤ R.slots) :
    va_Run p l e R s m args below meth c H locs cells slots mc ms (F0 m pc ls st0) rest (Qc As.toArray) free :=
  va_runS S hM cw (g_preS (EX1_cl κ) w hE) rfl hn hl.1 hst (lv_room hW) hdg hf
theorem g_runI (S : CallFix p m c cc nL s args lwA own) (hE : g_E D vwCl (gT ar) (EX1 κ) A s s.heap) (w : g_S D vwCl A s.heap G H locs nz) (hl : lv_has ls nL lv) (hM : Met l y (lwC y bytes maxL none) rm (g_Pc D vwCl (gT ar) (EX1 κ) G nz (.ref b :: As)) Qc mc ms free) (cw : CallB R s args own index y bytes maxL none (lwC y bytes maxL none) rm mc ms n ∧ y.name = "<init>" ∧ (Cond.instanceMethod y).before args s = true)
    (hn : As.length = n) (hst : st0 = As.reverse ++ .ref b :: rest) (hW : (rest.map fun v => v.category).sum ≤ 8) (hdg : decode cc pc = .ok (.invokespecial index, 3)) (hf : cells + mc ≤ R.cells ∧ slots + ms ≤ R.slots) :
    va_Run p l e R s m args below meth c H locs cells slots mc ms (F0 m pc ls st0) rest (Qc (Value.ref b :: As).toArray) free :=
  va_runI S hM cw (g_preS (EX1_cl κ) w hE) rfl hn hl.1 hst (lv_room hW) hdg hf
theorem g_runVN (S : CallFix p m c cc nL s args lwA own) (hE : g_E D vwCl (gT ar) (EX1 κ) A s s.heap) (w : g_S D vwCl A s.heap G H locs nz) (hl : lv_has ls nL lv) (hM : Met l y (lwC y bytes maxL ret) rm (g_Pc D vwCl (gT ar) (EX1 κ) G nz (.ref b :: As)) Qc mc ms free) (cw : va_CN R s args own index y host bytes maxL ret (lwC y bytes maxL ret) rm mc ms n ∧ (Cond.instanceMethod y).before args s = true ∧ (Cond.selects C y y).before args s = true)
    (hb : G b = some (.inr (ci, fs))) (hc : vwCl[ci]? = some r) (hC : r.1 = C) (hn : As.length = n) (hst : st0 = As.reverse ++ .ref b :: rest) (hW : (rest.map fun v => v.category).sum ≤ 8) (hdg : decode cc pc = .ok (.invokevirtual index, 3)) (hf : cells + mc ≤ R.cells ∧ slots + ms ≤ R.slots) :
    va_Run p l e R s m args below meth c H locs cells slots mc ms (F0 m pc ls st0) rest (Qc (Value.ref b :: As).toArray) free := by
  subst hC
  exact va_runVN S hM cw (g_preV (EX1_cl κ) w hE hb hc) rfl hn hl.1 hst (lv_room hW) hdg hf
theorem g_runSN (S : CallFix p m c cc nL s args lwA own) (hE : g_E D vwCl (gT ar) (EX1 κ) A s s.heap) (w : g_S D vwCl A s.heap G H locs nz) (hl : lv_has ls nL lv) (hM : Met l y (lwC y bytes maxL ret) rm (g_Pc D vwCl (gT ar) (EX1 κ) G nz As) Qc mc ms free) (cw : va_CN R s args own index y host bytes maxL ret (lwC y bytes maxL ret) rm mc ms n ∧ (Cond.static y).before args s = true ∧ True)
    (hn : As.length = n) (hst : st0 = As.reverse ++ rest) (hW : (rest.map fun v => v.category).sum ≤ 8) (hdg : decode cc pc = .ok (.invokestatic index, 3)) (hf : cells + mc ≤ R.cells ∧ slots + ms ≤ R.slots) :
    va_Run p l e R s m args below meth c H locs cells slots mc ms (F0 m pc ls st0) rest (Qc As.toArray) free :=
  va_runSN S hM cw (g_preS (EX1_cl κ) w hE) rfl hn hl.1 hst (lv_room hW) hdg hf
theorem g_runIN (S : CallFix p m c cc nL s args lwA own) (hE : g_E D vwCl (gT ar) (EX1 κ) A s s.heap) (w : g_S D vwCl A s.heap G H locs nz) (hl : lv_has ls nL lv) (hM : Met l y (lwC y bytes maxL none) rm (g_Pc D vwCl (gT ar) (EX1 κ) G nz (.ref b :: As)) Qc mc ms free) (cw : va_CN R s args own index y host bytes maxL none (lwC y bytes maxL none) rm mc ms n ∧ y.name = "<init>" ∧ (Cond.instanceMethod y).before args s = true)
    (hn : As.length = n) (hst : st0 = As.reverse ++ .ref b :: rest) (hW : (rest.map fun v => v.category).sum ≤ 8) (hdg : decode cc pc = .ok (.invokespecial index, 3)) (hf : cells + mc ≤ R.cells ∧ slots + ms ≤ R.slots) :
    va_Run p l e R s m args below meth c H locs cells slots mc ms (F0 m pc ls st0) rest (Qc (Value.ref b :: As).toArray) free :=
  va_runIN S hM cw (g_preS (EX1_cl κ) w hE) rfl hn hl.1 hst (lv_room hW) hdg hf
end RUN
section WEQ
variable {D : va_G} {cl : List vw_C} {A : Nat → Prop} {H0 H : Heap} {G u : gW} {a b n : Nat} {e e0 : va_E} {locs : List Loc}
theorem g_eqw (w : g_S D cl A H0 G H locs n) (h : G = u) : g_S D cl A H0 u H locs n := h ▸ w
theorem g_over : g_up (g_up G a e) a e0 = g_up G a e0 := by
  funext q
  by_cases h : q = a <;> simp [g_up, h]
theorem g_swp (ne : a ≠ b) : g_up (g_up G b e0) a e = g_up (g_up G a e) b e0 := by
  funext q
  by_cases h : q = a
  · subst h
    simp [g_up, ne]
  · simp [g_up, h]
theorem g_inn (h : g_up G a e = u) (ne : a ≠ b) : g_up (g_up G b e0) a e = g_up u b e0 := by rw [g_swp ne, h]
theorem g_cng (h : G = u) : g_up G b e = g_up u b e := by rw [h]
end WEQ
theorem g_id {G : gW} {a : Nat} {e : va_E} (h : G a = some e) : g_up G a e = G := by
  funext q
  by_cases hq : q = a
  · subst hq
    rw [g_up_s, h]
  · exact g_up_n hq
theorem lp_eq {i n : Nat} {x b : Int32} (hb : b = nI n) (ex : x = nI i) (hi : i ≤ n) (hn : n < 2 ^ 31) (c : b ≤ x) : i = n := by
  subst hb
  rcases Nat.lt_or_ge i n with q | q
  · exact absurd c (by rw [ex]; exact nI_ge q hn)
  · omega
theorem lp_lt {i n : Nat} {x b : Int32} (hb : b = nI n) (ex : x = nI i) (hi : i ≤ n) (hn : n < 2 ^ 31) (c : ¬ b ≤ x) : i < n := by
  subst hb
  rcases Nat.lt_or_ge i n with q | q
  · exact q
  · exact absurd (by rw [ex]; exact nI_le q (by omega)) c
end
section
section VQX
variable {p : Program} {l : Launch} {e : Env} {R : Room} {s : State} {m : MethodId} {args : Array Value} {below : List Frame} {meth : Method} {c : Code} {H : Heap} {locs : List Loc} {cells slots : Nat} {Q : State → Prop}
variable {mc ms : Nat} {free : Addr → Prop} {A0 A1 : Nat → Prop} {H0 : Heap} {a : Array Value} {pc : Nat} {ls : Array Slot} {st0 rest : List Value}
theorem vx_callq {S SX : Type} {post : Option Nat → S → Prop} {px : SX → Prop} {B : S → State → Prop} {BX : String → SX → State → Prop} {AX : Nat → Prop} (hr : vx_Run p l e R s m args below meth c H locs cells slots mc ms (F0 m pc ls st0) rest (va_Qq post B A1 a) (vx_X px BX AX) free) (hS : va_S A0 H0 H locs) (hA : ∀ q, q < H.size → A1 q → A0 q) (hf : ∀ q, free q → A0 q) (hAX : ∀ q, q < H.size → AX q → A0 q)
    (kx : ∀ (E : String) (ce : Cell) (q9 : Addr) (u : SX) (t : State) (H1 : Heap) (locs1 : List Loc), t.heap = H1 → s.vm.Alike t.vm → px u → BX E u t → H.size ≤ H1.size → (∀ q : Nat, q < H.size → ¬ AX q → H1[q]? = H[q]?) → va_S A0 H0 H1 locs1 → H1[q9]? = some ce → ce.vm = .none → s.vm.findClass E = some ce.cls → vx_W p l e R s m args below meth c H1 locs1 (cells + mc) (slots + ms) Q (F0 m pc ls rest) q9)
    (kk : ∀ (r : Option Nat) (u : S) (t : State) (H1 : Heap) (locs1 : List Loc), t.heap = H1 → s.vm.Alike t.vm → post r u → B u t → H.size ≤ H1.size → (∀ q : Nat, q < H.size → ¬ A1 q → H1[q]? = H[q]?) → va_S A0 H0 H1 locs1 → W p l e R s m args below meth c H1 locs1 (cells + mc) (slots + ms) Q (F0 m (pc + 3) ls (va_rf r :: rest))) : W p l e R s m args below meth c H locs cells slots Q (F0 m pc ls st0) := by
  intro T hT X
  rcases hr T hT X with ⟨v, st₀, t, T', L, h0, X', hL, e1, e2, ⟨⟨r, u, hv, hp, hb⟩, hF⟩, st⟩ | ⟨q, st₀, t, T', L, E, ce, h0, X', hL, e1, e2, ⟨u, hp, hb, hF⟩, hce, hcv, hcl, st⟩
  · cases hv
    obtain ⟨k1, k2, k3⟩ := vx_keep h0 e1 hS hA hf hL hF
    obtain ⟨t2, a1, b1⟩ := kk r u t T'.heap (locs ++ L) e1.symm (by rw [← e2]; exact X'.warmed.alike) hp hb k1 k2 k3 T' rfl X'
    exact ⟨t2, st t2 a1, b1⟩
  · obtain ⟨k1, k2, k3⟩ := vx_keep h0 e1 hS hAX hf hL hF
    obtain ⟨t2, a1, b1⟩ := kx E ce q u t T'.heap (locs ++ L) e1.symm (by rw [← e2]; exact X'.warmed.alike) hp hb k1 k2 k3 (by rw [e1]; exact hce) hcv hcl T' rfl X'
    exact ⟨t2, st.trans a1, b1⟩
end VQX
/-! methods that may throw: what they leave then, and how a throw and a call of such a method is walked -/
abbrev gX (D : va_G) (A : Nat → Prop) (px : String → gW × Nat → Prop) : String → State → State → Prop := vx_X (S := gW × Nat) (fun _ => True) (fun E u t => px E u ∧ g_B D vwCl A u t) A
section EXC
variable {p : Program} {l : Launch} {e : Env} {R : Room} {s : State} {m : MethodId} {args : Array Value} {below : List Frame} {meth : Method} {c : Code} {H : Heap} {locs : List Loc} {cells slots mc ms : Nat} {Q : State → Prop}
variable {pc : Nat} {ls : Array Slot} {rest st0 : List Value} {D : va_G} {ar : Nat → ClassId} {κ : Nat → Nat} {A A0 : Nat → Prop} {G : gW} {nz : Nat} {H0 : Heap} {cl : List vw_C}
variable {y : MethodName} {bytes cc : ByteArray} {maxL nL n index : Nat} {ret : Option FieldType} {rm : Room} {Qc : Array Value → State → Outcome → State → Prop} {free : Addr → Prop} {own C host : String} {b ci : Nat} {As fs : List Value} {r : vw_C} {lv : List (Nat × Value)} {px : String → gW × Nat → Prop}
theorem g_thrown {cls : String} (w : g_S D vwCl A s.heap G H locs nz) (hp : ∀ n, nz ≤ n → px cls (G, n)) : ∀ t : State, s.vm.Alike t.vm → H.size ≤ t.heap.size → (∀ q : Nat, q < H.size → t.heap[q]? = H[q]?) → gX D A px cls s t := by
  intro t hvm hz hk
  refine ⟨(G, t.heap.size), trivial, ⟨hp _ (by rw [← w.2.2.2.2]; exact hz), fun a e ha => (w.1 a e ha).kept (hk a (g_lt w.1 ha)), w.2.1, rfl⟩, Nat.le_trans w.2.2.1.1 hz, fun q h1 h2 => ?_⟩
  rw [hk q (Nat.lt_of_lt_of_le h1 w.2.2.1.1)]
  exact w.2.2.1.2.1 q h1 h2
theorem g_throwS (hlt : l.stackTraces = false) (S : CallFix p m c cc nL s args lwA own) (hE : g_E D vwCl (gT ar) (EX1 κ) A s s.heap) (w : g_S D vwCl A s.heap G H locs nz) (hl : lv_has ls nL lv) (ht : ∀ x ∈ c.exceptionTable.toList, False) (hlk : meth.locks = false)
    {cls text : String} {names : List String} {ik is ic : Nat} (hcls : Bundle.fit cls = true) (hnames : ∀ n ∈ names, Bundle.fit n = true) (hk : Cond.classLink own ik cls ∈ lwA) (hini : Cond.initialized cls ∈ lwA) (hstr : (own, is, text) ∈ lwS)
    (hA1 : ∀ w ∈ (vx_atS own ic cls names).filter goodWord, w ∈ lwA) (hA2 : ∀ w ∈ (vx_atS own ic cls names).filter (fun w => !goodWord w), w ∈ lwN ∧ w.onTables = true) (hgood : ∀ w ∈ Cond.classLink own ik cls :: Cond.initialized cls :: vx_atS own ic cls names, vx_ot w = true)
    (d0 : decode cc pc = .ok (.new ik, 3)) (d3 : decode cc (pc + 3) = .ok (.dup, 1)) (d4 : decode cc (pc + 4) = .ok (.ldc is, 2)) (d6 : decode cc (pc + 6) = .ok (.invokespecial ic, 3)) (d9 : decode cc (pc + 9) = .ok (.athrow, 1))
    (hF : names.length + 3 < R.frames) (hL : (rest.map fun v => v.category).sum + (13 * (names.length + 1) + 43) ≤ R.locals) (h1 : cells + 1 ≤ R.cells) (h2 : slots + 6 ≤ R.slots) (h3 : cells + 1 ≤ mc) (h4 : slots + 6 ≤ ms)
    (hp : ∀ n, nz ≤ n → px cls (G, n)) : W p l e R s m args below meth c H locs cells slots (vx_MQ below Qc (gX D A px) args s mc ms A) (F0 m pc ls rest) := by
  obtain ⟨sa, hsa⟩ := hE.2.2.2.1 _ hstr
  have hat : ∀ w ∈ vx_atS own ic cls names, w.before args s = true := by
    intro w hw
    by_cases hg : goodWord w = true
    · exact S.2.2.2.2 _ (hA1 w (List.mem_filter.mpr ⟨hw, hg⟩))
    · obtain ⟨q1, q2⟩ := hA2 w (List.mem_filter.mpr ⟨hw, by simp [hg]⟩)
      exact va_Nw.use q2 (hE.2.1.1 w q1)
  exact vx_throwS S.1 S.2.1 hlt S.2.2.2.1 hcls hnames (S.2.2.2.2 _ hk) (S.2.2.2.2 _ hini) hsa hat hgood hE.2.2.1.1 hE.2.2.1.2 w.2.2.1 (hl.1.trans S.2.2.1.symm) d0 d3 d4 d6 d9 (fun x hx => (ht x hx).elim) hF hL h1 h2 hlk (g_thrown w hp) w.2.2.1.2.2 h3 h4
theorem g_throwSW (hlt : l.stackTraces = false) (S : CallFix p m c cc nL s args lwA own) (hE : g_E D vwCl (gT ar) (EX1 κ) A s s.heap) (w : g_S D vwCl A s.heap G H locs nz) (hl : lv_has ls nL lv) (ht : ∀ x ∈ c.exceptionTable.toList, False) (hlk : meth.locks = false)
    {cls text : String} {names : List String} {ik is ic : Nat} (hcls : Bundle.fit cls = true) (hnames : ∀ n ∈ names, Bundle.fit n = true) (hk : Cond.classLink own ik cls ∈ lwA) (hini : Cond.initialized cls ∈ lwA) (hstr : (own, is, text) ∈ lwS)
    (hA1 : ∀ w ∈ (vx_atS own ic cls names).filter goodWord, w ∈ lwA) (hA2 : ∀ w ∈ (vx_atS own ic cls names).filter (fun w => !goodWord w), w ∈ lwN ∧ w.onTables = true) (hgood : ∀ w ∈ Cond.classLink own ik cls :: Cond.initialized cls :: vx_atS own ic cls names, vx_ot w = true)
    (d0 : decode cc pc = .ok (.new ik, 3)) (d3 : decode cc (pc + 3) = .ok (.dup, 1)) (d4 : decode cc (pc + 4) = .ok (.ldc_w is, 3)) (d6 : decode cc (pc + 7) = .ok (.invokespecial ic, 3)) (d9 : decode cc (pc + 10) = .ok (.athrow, 1))
    (hF : names.length + 3 < R.frames) (hL : (rest.map fun v => v.category).sum + (13 * (names.length + 1) + 43) ≤ R.locals) (h1 : cells + 1 ≤ R.cells) (h2 : slots + 6 ≤ R.slots) (h3 : cells + 1 ≤ mc) (h4 : slots + 6 ≤ ms)
    (hp : ∀ n, nz ≤ n → px cls (G, n)) : W p l e R s m args below meth c H locs cells slots (vx_MQ below Qc (gX D A px) args s mc ms A) (F0 m pc ls rest) := by
  obtain ⟨sa, hsa⟩ := hE.2.2.2.1 _ hstr
  have hat : ∀ w ∈ vx_atS own ic cls names, w.before args s = true := by
    intro w hw
    by_cases hg : goodWord w = true
    · exact S.2.2.2.2 _ (hA1 w (List.mem_filter.mpr ⟨hw, hg⟩))
    · obtain ⟨q1, q2⟩ := hA2 w (List.mem_filter.mpr ⟨hw, by simp [hg]⟩)
      exact va_Nw.use q2 (hE.2.1.1 w q1)
  exact vx_throwSW S.1 S.2.1 hlt S.2.2.2.1 hcls hnames (S.2.2.2.2 _ hk) (S.2.2.2.2 _ hini) hsa hat hgood hE.2.2.1.1 hE.2.2.1.2 w.2.2.1 (hl.1.trans S.2.2.1.symm) d0 d3 d4 d6 d9 (fun x hx => (ht x hx).elim) hF hL h1 h2 hlk (g_thrown w hp) w.2.2.1.2.2 h3 h4
/-- a callee's exception goes on to the caller -/
theorem g_pass {E : String} {ce : Cell} {q9 : Addr} {u : gW × Nat} (ht : ∀ x ∈ c.exceptionTable.toList, False) (hlk : meth.locks = false) (w : g_S D vwCl A s.heap u.1 H locs u.2) (hcell : H[q9]? = some ce) (hv : ce.vm = .none) (hcl : s.vm.findClass E = some ce.cls) (hp : px E u) (hc : cells ≤ mc) (hs : slots ≤ ms) :
    vx_W p l e R s m args below meth c H locs cells slots (vx_MQ below Qc (gX D A px) args s mc ms A) (F0 m pc ls rest) q9 :=
  vx_out (fun x hx => (ht x hx).elim) hlk hcell hv hcl (fun t hh hvm => ⟨u, trivial, ⟨hp, by rw [hh]; exact w.1, w.2.1, by rw [hh]; exact w.2.2.2.2⟩, w.2.2.1.F hh⟩) w.2.2.1.2.2 hc hs
theorem gx_calli {post : Int32 → gW × Nat → Prop} {a : Array Value} (w : g_S D vwCl A0 H0 G H locs nz) (hr : vx_Run p l e R s m args below meth c H locs cells slots mc ms (F0 m pc ls st0) rest (g_Qi D vwCl (g_A G nz) post a) (gX D (g_A G nz) px) (g_A G nz))
    (kx : ∀ (E : String) (ce : Cell) (q9 : Addr) (u : gW × Nat) (H1 : Heap) (locs1 : List Loc), px E u → nz ≤ u.2 → g_S D vwCl A0 H0 u.1 H1 locs1 u.2 → H1[q9]? = some ce → ce.vm = .none → s.vm.findClass E = some ce.cls → vx_W p l e R s m args below meth c H1 locs1 (cells + mc) (slots + ms) Q (F0 m pc ls rest) q9)
    (kk : ∀ (r : Int32) (u : gW × Nat) (H1 : Heap) (locs1 : List Loc), post r u → nz ≤ u.2 → g_S D vwCl A0 H0 u.1 H1 locs1 u.2 → W p l e R s m args below meth c H1 locs1 (cells + mc) (slots + ms) Q (F0 m (pc + 3) ls (.int r :: rest))) : W p l e R s m args below meth c H locs cells slots Q (F0 m pc ls st0) :=
  vx_calli hr w.2.2.1 (fun q _ h => g_in w h) (fun q h => g_in w h) (fun q _ h => g_in w h) (fun E ce q9 u t H1 locs1 ht hvm _ hB hz hk hS hce hv hcl => by
    obtain ⟨hp, b1, b2, b3⟩ := hB
    rw [ht] at b1 b3
    exact kx E ce q9 u H1 locs1 hp (by rw [← b3, ← w.2.2.2.2]; exact hz) ⟨b1, fun a e h => g_in w (b2 a e h), hS, w.2.2.2.1, b3⟩ hce hv hcl) (fun r u t H1 locs1 ht hvm hp hB hz hk hS => by
    obtain ⟨b1, b2, b3⟩ := hB
    rw [ht] at b1 b3
    exact kk r u H1 locs1 hp (by rw [← b3, ← w.2.2.2.2]; exact hz) ⟨b1, fun a e h => g_in w (b2 a e h), hS, w.2.2.2.1, b3⟩)
theorem gx_calll {post : Int64 → gW × Nat → Prop} {a : Array Value} (w : g_S D vwCl A0 H0 G H locs nz) (hr : vx_Run p l e R s m args below meth c H locs cells slots mc ms (F0 m pc ls st0) rest (g_Ql D vwCl (g_A G nz) post a) (gX D (g_A G nz) px) (g_A G nz))
    (kx : ∀ (E : String) (ce : Cell) (q9 : Addr) (u : gW × Nat) (H1 : Heap) (locs1 : List Loc), px E u → nz ≤ u.2 → g_S D vwCl A0 H0 u.1 H1 locs1 u.2 → H1[q9]? = some ce → ce.vm = .none → s.vm.findClass E = some ce.cls → vx_W p l e R s m args below meth c H1 locs1 (cells + mc) (slots + ms) Q (F0 m pc ls rest) q9)
    (kk : ∀ (r : Int64) (u : gW × Nat) (H1 : Heap) (locs1 : List Loc), post r u → nz ≤ u.2 → g_S D vwCl A0 H0 u.1 H1 locs1 u.2 → W p l e R s m args below meth c H1 locs1 (cells + mc) (slots + ms) Q (F0 m (pc + 3) ls (.long r :: rest))) : W p l e R s m args below meth c H locs cells slots Q (F0 m pc ls st0) :=
  vx_calll hr w.2.2.1 (fun q _ h => g_in w h) (fun q h => g_in w h) (fun q _ h => g_in w h) (fun E ce q9 u t H1 locs1 ht hvm _ hB hz hk hS hce hv hcl => by
    obtain ⟨hp, b1, b2, b3⟩ := hB
    rw [ht] at b1 b3
    exact kx E ce q9 u H1 locs1 hp (by rw [← b3, ← w.2.2.2.2]; exact hz) ⟨b1, fun a e h => g_in w (b2 a e h), hS, w.2.2.2.1, b3⟩ hce hv hcl) (fun r u t H1 locs1 ht hvm hp hB hz hk hS => by
    obtain ⟨b1, b2, b3⟩ := hB
    rw [ht] at b1 b3
    exact kk r u H1 locs1 hp (by rw [← b3, ← w.2.2.2.2]; exact hz) ⟨b1, fun a e h => g_in w (b2 a e h), hS, w.2.2.2.1, b3⟩)
theorem gx_callv {post : gW × Nat → Prop} {a : Array Value} (w : g_S D vwCl A0 H0 G H locs nz) (hr : vx_Run p l e R s m args below meth c H locs cells slots mc ms (F0 m pc ls st0) rest (g_Qv D vwCl (g_A G nz) post a) (gX D (g_A G nz) px) (g_A G nz))
    (kx : ∀ (E : String) (ce : Cell) (q9 : Addr) (u : gW × Nat) (H1 : Heap) (locs1 : List Loc), px E u → nz ≤ u.2 → g_S D vwCl A0 H0 u.1 H1 locs1 u.2 → H1[q9]? = some ce → ce.vm = .none → s.vm.findClass E = some ce.cls → vx_W p l e R s m args below meth c H1 locs1 (cells + mc) (slots + ms) Q (F0 m pc ls rest) q9)
    (kk : ∀ (u : gW × Nat) (H1 : Heap) (locs1 : List Loc), post u → nz ≤ u.2 → g_S D vwCl A0 H0 u.1 H1 locs1 u.2 → W p l e R s m args below meth c H1 locs1 (cells + mc) (slots + ms) Q (F0 m (pc + 3) ls rest)) : W p l e R s m args below meth c H locs cells slots Q (F0 m pc ls st0) :=
  vx_callv hr w.2.2.1 (fun q _ h => g_in w h) (fun q h => g_in w h) (fun q _ h => g_in w h) (fun E ce q9 u t H1 locs1 ht hvm _ hB hz hk hS hce hv hcl => by
    obtain ⟨hp, b1, b2, b3⟩ := hB
    rw [ht] at b1 b3
    exact kx E ce q9 u H1 locs1 hp (by rw [← b3, ← w.2.2.2.2]; exact hz) ⟨b1, fun a e h => g_in w (b2 a e h), hS, w.2.2.2.1, b3⟩ hce hv hcl) (fun u t H1 locs1 ht hvm hp hB hz hk hS => by
    obtain ⟨b1, b2, b3⟩ := hB
    rw [ht] at b1 b3
    exact kk u H1 locs1 hp (by rw [← b3, ← w.2.2.2.2]; exact hz) ⟨b1, fun a e h => g_in w (b2 a e h), hS, w.2.2.2.1, b3⟩)
theorem gx_callq {post : Option Nat → gW × Nat → Prop} {a : Array Value} (w : g_S D vwCl A0 H0 G H locs nz) (hr : vx_Run p l e R s m args below meth c H locs cells slots mc ms (F0 m pc ls st0) rest (g_Qq D vwCl (g_A G nz) post a) (gX D (g_A G nz) px) (g_A G nz))
    (kx : ∀ (E : String) (ce : Cell) (q9 : Addr) (u : gW × Nat) (H1 : Heap) (locs1 : List Loc), px E u → nz ≤ u.2 → g_S D vwCl A0 H0 u.1 H1 locs1 u.2 → H1[q9]? = some ce → ce.vm = .none → s.vm.findClass E = some ce.cls → vx_W p l e R s m args below meth c H1 locs1 (cells + mc) (slots + ms) Q (F0 m pc ls rest) q9)
    (kk : ∀ (r : Option Nat) (u : gW × Nat) (H1 : Heap) (locs1 : List Loc), post r u → nz ≤ u.2 → g_S D vwCl A0 H0 u.1 H1 locs1 u.2 → W p l e R s m args below meth c H1 locs1 (cells + mc) (slots + ms) Q (F0 m (pc + 3) ls (va_rf r :: rest))) : W p l e R s m args below meth c H locs cells slots Q (F0 m pc ls st0) :=
  vx_callq hr w.2.2.1 (fun q _ h => g_in w h) (fun q h => g_in w h) (fun q _ h => g_in w h) (fun E ce q9 u t H1 locs1 ht hvm _ hB hz hk hS hce hv hcl => by
    obtain ⟨hp, b1, b2, b3⟩ := hB
    rw [ht] at b1 b3
    exact kx E ce q9 u H1 locs1 hp (by rw [← b3, ← w.2.2.2.2]; exact hz) ⟨b1, fun a e h => g_in w (b2 a e h), hS, w.2.2.2.1, b3⟩ hce hv hcl) (fun r u t H1 locs1 ht hvm hp hB hz hk hS => by
    obtain ⟨b1, b2, b3⟩ := hB
    rw [ht] at b1 b3
    exact kk r u H1 locs1 hp (by rw [← b3, ← w.2.2.2.2]; exact hz) ⟨b1, fun a e h => g_in w (b2 a e h), hS, w.2.2.2.1, b3⟩)
variable {XC : String → State → State → Prop}
theorem gx_runV (S : CallFix p m c cc nL s args lwA own) (hE : g_E D vwCl (gT ar) (EX1 κ) A s s.heap) (w : g_S D vwCl A s.heap G H locs nz) (hl : lv_has ls nL lv) (hM : vx_Met l y (lwC y bytes maxL ret) rm (g_Pc D vwCl (gT ar) (EX1 κ) G nz (.ref b :: As)) Qc XC mc ms free) (cw : CallW R s args own C index y bytes maxL ret (lwC y bytes maxL ret) rm mc ms n)
    (hb : G b = some (.inr (ci, fs))) (hc : vwCl[ci]? = some r) (hC : r.1 = C) (hn : As.length = n) (hst : st0 = As.reverse ++ .ref b :: rest) (hW : (rest.map fun v => v.category).sum ≤ 8) (hdg : decode cc pc = .ok (.invokevirtual index, 3)) (hf : cells + mc ≤ R.cells ∧ slots + ms ≤ R.slots) :
    vx_Run p l e R s m args below meth c H locs cells slots mc ms (F0 m pc ls st0) rest (Qc (Value.ref b :: As).toArray) XC free := by
  subst hC
  exact vx_runV S hM cw (g_preV (EX1_cl κ) w hE hb hc) rfl hn hl.1 hst (lv_room hW) hdg hf
theorem gx_runS (S : CallFix p m c cc nL s args lwA own) (hE : g_E D vwCl (gT ar) (EX1 κ) A s s.heap) (w : g_S D vwCl A s.heap G H locs nz) (hl : lv_has ls nL lv) (hM : vx_Met l y (lwC y bytes maxL ret) rm (g_Pc D vwCl (gT ar) (EX1 κ) G nz As) Qc XC mc ms free) (cw : CallB R s args own index y bytes maxL ret (lwC y bytes maxL ret) rm mc ms n ∧ (Cond.static y).before args s = true)
    (hn : As.length = n) (hst : st0 = As.reverse ++ rest) (hW : (rest.map fun v => v.category).sum ≤ 8) (hdg : decode cc pc = .ok (.invokestatic index, 3)) (hf : cells + mc ≤ R.cells ∧ slots + ms ≤ R.slots) :
    vx_Run p l e R s m args below meth c H locs cells slots mc ms (F0 m pc ls st0) rest (Qc As.toArray) XC free :=
  vx_runS S hM cw (g_preS (EX1_cl κ) w hE) rfl hn hl.1 hst (lv_room hW) hdg hf
end EXC
end
section
/-! a throw of an exception whose constructor hands its text on by entry 13: the road of the library's own (entry 7), its first link another -/
def nse6 : ByteArray := ⟨#[0x2a, 0x2b, 0xb7, 0x00, 0x0d, 0xb1]⟩
theorem nse6_0 : decode nse6 0 = .ok (.aload_n 0, 1) := by decide +kernel
theorem nse6_1 : decode nse6 1 = .ok (.aload_n 1, 1) := by decide +kernel
theorem nse6_2 : decode nse6 2 = .ok (.invokespecial 13, 3) := by decide +kernel
theorem nse6_5 : decode nse6 5 = .ok (.return_, 1) := by decide +kernel
/-- the words: those of the library's chain from the second link on, the first link's by entry 13 -/
def nse_ws (own : String) (ic : Nat) (cls Y : String) (r : List String) : List Cond :=
  Bundle.throwableAtoms ++ Bundle.throwableSAtoms ++ (Bundle.passSAtoms cls Y 13 nse6 ++ Bundle.chainSAtoms Y r) ++
  [.methodLink own ic (Bundle.initS cls), .instantiable cls 6, .castable cls cls, .selects cls Bundle.tFill0 Bundle.tFill0, .selects cls Bundle.tFill Bundle.tFill,
   .lays cls Bundle.tN "cause" "Ljava/lang/Throwable;", .lays cls Bundle.tN "stackTrace" Bundle.steD, .lays cls Bundle.tN "suppressedExceptions" Bundle.listD, .lays cls Bundle.tN "detailMessage" "Ljava/lang/String;",
   .isRef (.static Bundle.tN "UNASSIGNED_STACK" Bundle.steD), .isRef (.static Bundle.tN "SUPPRESSED_SENTINEL" Bundle.listD),
   .fieldLink Bundle.tN 198 Bundle.tN "backtrace" "Ljava/lang/Object;", .lays Bundle.tN Bundle.tN "backtrace" "Ljava/lang/Object;", .lays cls Bundle.tN "backtrace" "Ljava/lang/Object;"]
def nse_at (own : String) (ic : Nat) (cls Y : String) (r : List String) : List Cond := (nse_ws own ic cls Y r).filter vx_no
section NSE
variable {p : Program} {l : Launch} {e : Env} {R : Room} {s : State} {m₀ : MethodId} {args : Array Value} {below : List Frame} {meth : Method} {c : Code} {W : State} {locs : List Loc} {cells slots : Nat}
set_option maxHeartbeats 4000000 in
theorem nse_ctor (X : Stand p l e R s m₀ args below meth c W locs cells slots) (hexec : p.tables.exec = Jvm.exec) (htr : e.platform.stackTraces = false) {own cls Y : String} {r : List String} {ic : Nat}
    (hown : s.vm.findClass own = some m₀.cls) (hcls : Bundle.fit cls = true) (hY : Bundle.fit Y = true) (hnames : ∀ n ∈ r, Bundle.fit n = true)
    (h : ∀ a ∈ nse_ws own ic cls Y r, a.before args s = true)
    (hlocs : ∀ x ∈ locs, ∀ cell, s.heap[x.base]? = some cell → cell.vm.isStatics = false)
    {a : Addr} {cX : ClassId} {kX : Class} (hfoundX : s.vm.findClass cls = some cX) (hkX : s.vm.classes[cX]? = some kX) (hcell : W.heap[a]? = some (freshCell cX kX)) (hnew : s.heap.size ≤ a)
    {msg : Value} (hmsg : msg.isRef = true)
    {g : JFrame} (hg : g.method = m₀) (hsize : g.locals.size = c.maxLocals) (hlocked : g.locked = none) (hentered : g.entered = []) {rest : List Value} (hstack : g.stack = msg :: .ref a :: .ref a :: rest)
    (hd6 : decode c.code g.pc = .ok (.invokespecial ic, 3)) (hd9 : decode c.code (g.pc + 3) = .ok (.athrow, 1)) (hout : ∀ x ∈ c.exceptionTable.toList, covers x (g.pc + 3) = false)
    (hRframes : (Y :: r).length + 3 < R.frames) (hRlocals : 2 * g.monitorRoom + ((Value.ref a :: rest).map fun v => v.category).sum + (13 * ((Y :: r).length + 1) + 42) ≤ R.locals) (hlocks : meth.locks = false) :
    ∃ U : State, Steps p.tables e below (W.setTop g) U ∧ U.status = .running ∧ Ended U below (.threw a) ∧ s.WarmedH U.vm ∧ s.sameButNew ({ U with vm := s.vm } : State) locs cells slots ∧
      ∃ ce, U.heap[a]? = some ce ∧ s.vm.findClass cls = some ce.cls ∧ ce.vm = .none := by
  have howns : e.platform.frameOwnsMonitors = true := by rw [X.admits.platform]
  have hfin : e.platform.finalization = false := by rw [X.admits.platform]
  have hpl : e.platform.magicAccessors = ({} : Platform).magicAccessors := by rw [X.admits.platform]
  have a' : ∀ x, x ∈ nse_ws own ic cls Y r → x.holds args s none s [] = true := fun x hx => h x hx
  obtain ⟨T, Z0, L, -, K⟩ := ThrowableC.of_atoms (args := args) howns hfin hpl (fun x hx => h x (by simp [nse_ws, hx]))
  obtain ⟨Z, M, LZ, LM, hnZ⟩ := Init0T.ofS_atoms (args := args) hpl L K (fun x hx => h x (by simp [nse_ws, hx]))
  obtain ⟨P2, Ps, hlen, L2, hL, hP2m, hlink2, hlink⟩ := Bundle.chainS (args := args) hpl hnZ r Y hY hnames (fun x hx => h x (by simp [nse_ws, hx]))
  obtain ⟨P1, L1, hP1m, hsup1⟩ := PassC.ofS_atoms (args := args) (s := s) hpl (X := cls) (Y := Y) (Bundle.fit_spec hcls).1 (Bundle.fit_spec hY).2 nse6_0 nse6_1 nse6_2 nse6_5 (fun x hx => h x (by simp [nse_ws, hx]))
  have hlink1 : P1.sup = P2.m := Option.some.inj (hsup1.symm.trans hP2m)
  have hfound : s.vm.findClass cls = some P1.m.cls := findClass_of_methodNamed hP1m
  cases Option.some.inj (hfoundX.symm.trans hfound)
  obtain ⟨c1, kX', hc1, hk, hord, -, -, hn6⟩ := Cond.instantiable_spec (a' (.instantiable cls 6) (by simp [nse_ws]))
  cases Option.some.inj (hc1.symm.trans hfound)
  cases Option.some.inj (hkX.symm.trans hk)
  have hsel0 : selectMethod e.platform s.vm P1.m.cls T.fill0 = .method T.fill0 := by
    obtain ⟨c2, r2, m2, q1, q2, q3, q4, -⟩ := Cond.selects_spec (a' (.selects cls Bundle.tFill0 Bundle.tFill0) (by simp [nse_ws]))
    cases Option.some.inj (q1.symm.trans hfound)
    cases Option.some.inj (q2.symm.trans (State.methodFound?_of_named K.fill0 (by decide)))
    cases Option.some.inj (q3.symm.trans K.fill0)
    rw [Launch.admits_selectMethod X.admits]; exact q4
  have hselF : selectMethod e.platform s.vm P1.m.cls T.fill = .method T.fill := by
    obtain ⟨c2, r2, m2, q1, q2, q3, q4, -⟩ := Cond.selects_spec (a' (.selects cls Bundle.tFill Bundle.tFill) (by simp [nse_ws]))
    cases Option.some.inj (q1.symm.trans hfound)
    cases Option.some.inj (q2.symm.trans (State.methodFound?_of_named K.fill (by decide)))
    cases Option.some.inj (q3.symm.trans K.fill)
    rw [Launch.admits_selectMethod X.admits]; exact q4
  obtain ⟨cellS0, hcS0, hiss⟩ := K.statics
  obtain ⟨u0, hu0⟩ := Cond.staticRefV K.unassigned L.unassignedStatic L.statics hcS0 hiss (a' (.isRef (.static Bundle.tN "UNASSIGNED_STACK" Bundle.steD)) (by simp [nse_ws]))
  obtain ⟨sen, hsen⟩ := Cond.staticRefV K.sentinel L.sentinelStatic L.statics hcS0 hiss (a' (.isRef (.static Bundle.tN "SUPPRESSED_SENTINEL" Bundle.listD)) (by simp [nse_ws]))
  obtain ⟨ci198, i198, fB, hk198, hg198, ha198, hsB, -, hnB, htB, hffB⟩ := Cond.ownField (t := .object "java/lang/Object") K.found L.cls (by decide +kernel) (a' (.fieldLink Bundle.tN 198 Bundle.tN "backtrace" "Ljava/lang/Object;") (by simp [nse_ws])) (a' (.lays Bundle.tN Bundle.tN "backtrace" "Ljava/lang/Object;") (by simp [nse_ws])) _ hpl
  obtain ⟨cellS, hcS', heS, -, hkeep⟩ := X.same.2.2.2.2.2 T.aS cellS0 hcS0
  have hcellS : W.heap[T.aS]? = some cellS := hcS'
  have hout' : ∀ i, (⟨T.aS, i⟩ : Loc) ∉ locs := fun i hmem => by
    have := hlocs _ hmem cellS0 hcS0
    rw [hiss] at this; cases this
  have hknownS : cellS.vm ≠ .unknown := by
    rw [heS]; intro hu
    rw [show cellS0.vm = .unknown from hu] at hiss
    cases hiss
  have hneS : T.aS ≠ a := Nat.ne_of_lt (Nat.lt_of_lt_of_le (Array.getElem?_eq_some_iff.mp hcS0).1 hnew)
  obtain ⟨iM, hffM⟩ := K.msg
  obtain ⟨tyC, dC, hdC, hdnC⟩ := Cond.laysAt hfound hk K.cause (a' (.lays cls Bundle.tN "cause" "Ljava/lang/Throwable;") (by simp [nse_ws]))
  obtain ⟨tyS, dS, hdS, hdnS⟩ := Cond.laysAt hfound hk K.stack (a' (.lays cls Bundle.tN "stackTrace" Bundle.steD) (by simp [nse_ws]))
  obtain ⟨tyP, dP, hdP, hdnP⟩ := Cond.laysAt hfound hk K.supp (a' (.lays cls Bundle.tN "suppressedExceptions" Bundle.listD) (by simp [nse_ws]))
  obtain ⟨tyM, dM, hdM, hdnM⟩ := Cond.laysAt hfound hk hffM (a' (.lays cls Bundle.tN "detailMessage" "Ljava/lang/String;") (by simp [nse_ws]))
  obtain ⟨tyB, dB, hdB, hdnB⟩ := Cond.laysAt hfound hk hffB (a' (.lays cls Bundle.tN "backtrace" "Ljava/lang/Object;") (by simp [nse_ws]))
  have bC := Cond.laysApart hdB hdC hdnB hdnC (by rw [hnB, K.causeName]; decide)
  have bS := Cond.laysApart hdB hdS hdnB hdnS (by rw [hnB, K.stackName]; decide)
  have bP := Cond.laysApart hdB hdP hdnB hdnP (by rw [hnB, K.suppName]; decide)
  have hskip : SkipFacts T e.platform s (fun u => u) u0 ((preparedCellV T.toThrowableT (freshCell P1.m.cls kX) a u0 sen).withEntry W.cur) :=
    ⟨{ ci198 := ci198, i198 := i198, fBack := fB }, ⟨hk198, hg198, ha198, hsB⟩, by
      have := fresh_default (c := P1.m.cls) tyB
      rw [htB] at this
      simpa [preparedCellV, Cell.setSlot, Cell.withEntry, Array.getElem?_setIfInBounds, bC, bS, bP, bC.symm, bS.symm, bP.symm, defaultValue] using this, fun _ _ => rfl⟩
  obtain ⟨tm, methC, cdC, kC, vm₁, hnC, -, -, -, -, -, -, -, hW₁, st1⟩ := Steps.initColdS (tb := p.tables) (e := e) (below := below) (s := s) (U := W) X.here hexec X.warmed hpl hown (t := Bundle.initS cls) rfl rfl (Bundle.fit_spec hcls).2
    (a' (.methodLink own ic (Bundle.initS cls)) (by simp [nse_ws])) (h (.instanceMethod (Bundle.initS cls)) (by simp [nse_ws, Bundle.passSAtoms])) (bytes := nse6) (maxL := 2) (h (.code (Bundle.initS cls) nse6 2 none) (by simp [nse_ws, Bundle.passSAtoms]))
    (f := g) hg (a := a) (msg := msg) (rest := .ref a :: rest) hstack hd6
  cases Option.some.inj (hnC.symm.trans hP1m)
  have X₁ := X.noted hW₁
  obtain ⟨vm₂, X₂, st2⟩ := X₁.ctorMessageOffV hexec (g := { g with stack := .ref a :: rest }) hg hsize T L Z LZ M LM (P1 :: P2 :: Ps)
    (fun P hP => by
      rcases List.mem_cons.mp hP with rfl | hP
      · exact L1
      · rcases List.mem_cons.mp hP with rfl | hP
        · exact L2
        · exact hL P hP) ⟨hlink1, hlink2, hlink⟩ (u0 := u0) (sen := sen) (self := a) hmsg (cell := freshCell P1.m.cls kX) (cellS := cellS)
    hcell (fun _ => by simp) (by simp) rfl rfl hsel0 hselF hcellS hneS hknownS (by rw [hkeep _ (hout' _)]; exact hu0) (by rw [hkeep _ (hout' _)]; exact hsen)
    (Takes.of_laid hk hord tyC (by rw [K.causeType]; rfl)) (Takes.of_laid hk hord tyS (by rw [K.stackType]; exact fits_refV_array _ u0)) (Takes.of_laid hk hord tyP (by rw [K.suppType]; exact fits_refV_object _ sen))
    (Takes.of_laid hk hord tyM (by rw [K.msgType]; exact fits_refV_object _ ⟨msg, hmsg⟩)) K.objLocals hskip htr [] hd6
    (by simp only [List.length_cons, hlen] at hRframes ⊢; omega) (by simp only [List.length_cons, hlen] at hRlocals ⊢; exact hRlocals)
  obtain ⟨hwalk, hrun, hended, hWU, hsame⟩ := X₂.athrowLeaves hexec (g := { g with stack := .ref a :: rest, pc := g.pc + 3 }) hg hlocked hentered hout (a := a) (rest := rest) rfl hd9
  have hlt : a < ((W.setVm vm₁).setVm vm₂).heap.size := (Array.getElem?_eq_some_iff.mp hcell).1
  have hU := heapAt_setCell_self (s := (W.setVm vm₁).setVm vm₂) (plainBareV T.toThrowableT (freshCell P1.m.cls kX) a u0 sen msg) hlt
  refine ⟨_, st1 _ (fun acts => ?_), hrun, hended, hWU, hsame.weaken (fun y hy hlt' => ?_) (Nat.le_refl _) (Nat.le_refl _), _, hU, ?_, ?_⟩
  · rw [doInvoke_state]
    exact st2 _ hwalk
  · rcases List.mem_append.mp hy with h1 | h1
    · exact h1
    · exfalso
      have hb : y.base = a := by
        simp only [List.mem_cons, List.not_mem_nil, or_false] at h1
        rcases h1 with rfl | rfl | rfl | rfl | rfl <;> rfl
      rw [hb] at hlt'
      exact Nat.not_lt.mpr hnew hlt'
  · exact hfound
  · rfl
end NSE
section NSE2
variable {p : Program} {l : Launch} {e : Env} {R : Room} {s : State} {m : MethodId} {args : Array Value} {below : List Frame} {meth : Method} {c : Code} {H : Heap} {locs : List Loc} {cells slots : Nat} {Q : State → Prop}
variable {mc ms : Nat} {free : Addr → Prop} {A0 A1 : Nat → Prop} {H0 : Heap} {a : Array Value} {ls : Array Slot} {st0 rest : List Value}
variable {Qc : Array Value → State → Outcome → State → Prop} {XC : String → State → State → Prop}
theorem vx_throwN {cc : ByteArray} {pc : Nat} (hexec : p.tables.exec = Jvm.exec) (hb : c.code = cc) (hl : l.stackTraces = false) {own cls text Y : String} {r : List String} {ik is ic mc ms sa : Nat} {A : Nat → Prop}
    (hown : s.vm.findClass own = some m.cls) (hcls : Bundle.fit cls = true) (hY : Bundle.fit Y = true) (hnames : ∀ n ∈ r, Bundle.fit n = true)
    (hk : (Cond.classLink own ik cls).before args s = true) (hini : (Cond.initialized cls).before args s = true) (hstr : vk_R own is text sa s) (hat : ∀ w ∈ nse_at own ic cls Y r, w.before args s = true)
    (hgood : ∀ w ∈ Cond.classLink own ik cls :: Cond.initialized cls :: nse_at own ic cls Y r, vx_ot w = true)
    (hU : vx_Zq Bundle.tN "UNASSIGNED_STACK" Bundle.steD A s s.heap) (hN : vx_Zq Bundle.tN "SUPPRESSED_SENTINEL" Bundle.listD A s s.heap) (hS : va_S A s.heap H locs) (hsize : ls.size = c.maxLocals)
    (d0 : decode cc pc = .ok (.new ik, 3)) (d3 : decode cc (pc + 3) = .ok (.dup, 1)) (d4 : decode cc (pc + 4) = .ok (.ldc is, 2)) (d6 : decode cc (pc + 6) = .ok (.invokespecial ic, 3)) (d9 : decode cc (pc + 9) = .ok (.athrow, 1))
    (hout : ∀ x ∈ c.exceptionTable.toList, covers x (pc + 9) = false)
    (hRframes : (Y :: r).length + 3 < R.frames) (hRlocals : (rest.map fun v => v.category).sum + (13 * ((Y :: r).length + 1) + 43) ≤ R.locals) (hRcells : cells + 1 ≤ R.cells) (hRslots : slots + 6 ≤ R.slots) (hlocks : meth.locks = false)
    (hx : ∀ t : State, s.vm.Alike t.vm → H.size ≤ t.heap.size → (∀ q : Nat, q < H.size → t.heap[q]? = H[q]?) → XC cls s t)
    (hf : ∀ z ∈ locs, free z.base) (hc : cells + 1 ≤ mc) (hs : slots + 6 ≤ ms) :
    W p l e R s m args below meth c H locs cells slots (vx_MQ below Qc XC args s mc ms free) (F0 m pc ls rest) := by
  intro T hT X
  have htr : e.platform.stackTraces = false := (show e.platform.stackTraces = l.stackTraces by rw [X.admits.platform]).trans hl
  have YY := vx_rebase X (R' := { frames := R.frames, locals := R.locals, cells := 1, slots := 6 }) (Nat.le_refl _) (Nat.le_refl _) hRcells hRslots
  obtain ⟨s', hA⟩ : ∃ z, z = (T.setVm s.vm).setFrames (.invoking m args :: below) := ⟨_, rfl⟩
  rw [← hA] at YY
  have hvm : s'.vm = s.vm := by rw [hA]; rfl
  have hhp : s'.heap = H := by rw [hA]; exact hT
  have hW0 : s.WarmedH s'.vm := by rw [hvm]; exact State.WarmedH.refl s
  have hat' : ∀ w ∈ nse_at own ic cls Y r, w.before args s' = true := fun w hw => vx_ot_at hW0 hvm.symm (hgood w (List.mem_cons_of_mem _ (List.mem_cons_of_mem _ hw))) (hat w hw)
  have hk' : (Cond.classLink own ik cls).before args s' = true := vx_ot_at hW0 hvm.symm (hgood _ List.mem_cons_self) hk
  have hini' : (Cond.initialized cls).before args s' = true := vx_ot_at hW0 hvm.symm (hgood _ (List.mem_cons_of_mem _ List.mem_cons_self)) hini
  have hU' : vx_Zq Bundle.tN "UNASSIGNED_STACK" Bundle.steD A s' s'.heap := by rw [hhp]; exact vx_Zq.moved hW0.alike (hU.kept hS.2.1)
  have hN' : vx_Zq Bundle.tN "SUPPRESSED_SENTINEL" Bundle.listD A s' s'.heap := by rw [hhp]; exact vx_Zq.moved hW0.alike (hN.kept hS.2.1)
  have h : ∀ w ∈ nse_ws own ic cls Y r, w.before args s' = true := vx_own hat' (vx_isRefq hU'.1) (vx_isRefq hN'.1) hU'.2.word hN'.2.word
  have hown' : s'.vm.findClass own = some m.cls := by rw [hvm]; exact hown
  have hins : (Cond.instantiable cls 6).before args s' = true := h _ (by simp [nse_ws])
  obtain ⟨vm₁, cX, kX, hfX, hkX, -, -, X₁, st1⟩ := YY.newCold hexec (own := own) (C := cls) (index := ik) (n := 6) hown' hk' hins hini'
    (g := F0 m pc ls rest) rfl (by rw [hb]; exact d0) (Nat.le_refl _) (Nat.le_refl _)
  generalize hT1 : (T.setVm vm₁).pushCell { cls := cX, slots := kX.instanceTypes.map defaultValue, vm := .none } = T1 at X₁ st1
  have hcat : (Value.ref T.heap.size).category = 1 := rfl
  have hcellA : T1.heap[T.heap.size]? = some (freshCell cX kX) := by rw [← hT1]; exact State.heap_pushCell_size _ _
  have d3' : decode c.code (pc + 3) = .ok (.dup, 1) := by rw [hb]; exact d3
  have d4' : decode c.code (pc + 4) = .ok (.ldc is, 2) := by rw [hb]; exact d4
  have hstr' : vk_R own is text sa s' := vk_R.warm hW0 hstr
  obtain ⟨U, hsteps, hrun, hend, hW, hsame, ce, hce, hO1, hO2⟩ := nse_ctor X₁ hexec htr (own := own) (cls := cls) (Y := Y) (r := r) (ic := ic) hown' hcls hY hnames h (fun x hx => nomatch hx) hfX hkX hcellA (by rw [hhp, hT]; exact Nat.le_refl _) (msg := .ref sa) rfl
    (g := { method := m, pc := pc + 6, locals := ls, stack := .ref sa :: .ref T.heap.size :: .ref T.heap.size :: rest, locked := none }) rfl hsize rfl rfl (rest := rest) rfl
    (by rw [hb]; exact d6) (by rw [hb]; exact d9) hout hRframes (by simp only [List.map_cons, List.sum_cons, hcat]; omega) hlocks
  obtain ⟨f1, f2⟩ := vx_frame hsame
  rw [hhp] at f1 f2
  have hWs : s.WarmedH U.vm := State.WarmedH.trans hW0 hW
  have hcl : s.vm.findClass cls = some ce.cls := by
    have h9 := hO1
    rw [hvm] at h9
    exact h9
  have hall : s.sameButNew ({ U with vm := s.vm } : State) locs mc ms := by
    subst hA
    obtain ⟨e1, e2⟩ := hsame
    rw [State.setFrames_setFrames] at e1
    have h2 : (T.setVm s.vm).sameButNew ({ U with vm := s.vm } : State) [] (0 + 1) (0 + 6) := ⟨e1, e2⟩
    have h3 := X.same.trans h2
    rw [List.append_nil] at h3
    exact h3.mono hc hs
  refine ⟨U, ?_, .threw T.heap.size, hrun, hend, Or.inr ⟨T.heap.size, rfl, cls, ce, locs, hx U hWs.alike f1 (fun q hq => f2 q hq (fun z hz => nomatch hz)), hce, hO2, hcl, hWs, hall, hf⟩⟩
  refine st1 _ ?_
  show Steps p.tables e below (T1.setTop { method := m, pc := pc + 3, locals := ls, stack := .ref T.heap.size :: rest, locked := none }) _
  jvm_step X₁.here [X₁.here.top, hexec, d3', Value.category]
  exact X₁.ldcString hexec (own := own) (text := text) (index := is) (a := sa) hown' hstr'.1 hstr'.2
    (g := { method := m, pc := pc + 4, locals := ls, stack := .ref T.heap.size :: .ref T.heap.size :: rest, locked := none }) rfl d4' _ hsteps
theorem vx_throwNW {cc : ByteArray} {pc : Nat} (hexec : p.tables.exec = Jvm.exec) (hb : c.code = cc) (hl : l.stackTraces = false) {own cls text Y : String} {r : List String} {ik is ic mc ms sa : Nat} {A : Nat → Prop}
    (hown : s.vm.findClass own = some m.cls) (hcls : Bundle.fit cls = true) (hY : Bundle.fit Y = true) (hnames : ∀ n ∈ r, Bundle.fit n = true)
    (hk : (Cond.classLink own ik cls).before args s = true) (hini : (Cond.initialized cls).before args s = true) (hstr : vk_R own is text sa s) (hat : ∀ w ∈ nse_at own ic cls Y r, w.before args s = true)
    (hgood : ∀ w ∈ Cond.classLink own ik cls :: Cond.initialized cls :: nse_at own ic cls Y r, vx_ot w = true)
    (hU : vx_Zq Bundle.tN "UNASSIGNED_STACK" Bundle.steD A s s.heap) (hN : vx_Zq Bundle.tN "SUPPRESSED_SENTINEL" Bundle.listD A s s.heap) (hS : va_S A s.heap H locs) (hsize : ls.size = c.maxLocals)
    (d0 : decode cc pc = .ok (.new ik, 3)) (d3 : decode cc (pc + 3) = .ok (.dup, 1)) (d4 : decode cc (pc + 4) = .ok (.ldc_w is, 3)) (d7 : decode cc (pc + 7) = .ok (.invokespecial ic, 3)) (d10 : decode cc (pc + 10) = .ok (.athrow, 1))
    (hout : ∀ x ∈ c.exceptionTable.toList, covers x (pc + 10) = false)
    (hRframes : (Y :: r).length + 3 < R.frames) (hRlocals : (rest.map fun v => v.category).sum + (13 * ((Y :: r).length + 1) + 43) ≤ R.locals) (hRcells : cells + 1 ≤ R.cells) (hRslots : slots + 6 ≤ R.slots) (hlocks : meth.locks = false)
    (hx : ∀ t : State, s.vm.Alike t.vm → H.size ≤ t.heap.size → (∀ q : Nat, q < H.size → t.heap[q]? = H[q]?) → XC cls s t)
    (hf : ∀ z ∈ locs, free z.base) (hc : cells + 1 ≤ mc) (hs : slots + 6 ≤ ms) :
    W p l e R s m args below meth c H locs cells slots (vx_MQ below Qc XC args s mc ms free) (F0 m pc ls rest) := by
  intro T hT X
  have htr : e.platform.stackTraces = false := (show e.platform.stackTraces = l.stackTraces by rw [X.admits.platform]).trans hl
  have YY := vx_rebase X (R' := { frames := R.frames, locals := R.locals, cells := 1, slots := 6 }) (Nat.le_refl _) (Nat.le_refl _) hRcells hRslots
  obtain ⟨s', hA⟩ : ∃ z, z = (T.setVm s.vm).setFrames (.invoking m args :: below) := ⟨_, rfl⟩
  rw [← hA] at YY
  have hvm : s'.vm = s.vm := by rw [hA]; rfl
  have hhp : s'.heap = H := by rw [hA]; exact hT
  have hW0 : s.WarmedH s'.vm := by rw [hvm]; exact State.WarmedH.refl s
  have hat' : ∀ w ∈ nse_at own ic cls Y r, w.before args s' = true := fun w hw => vx_ot_at hW0 hvm.symm (hgood w (List.mem_cons_of_mem _ (List.mem_cons_of_mem _ hw))) (hat w hw)
  have hk' : (Cond.classLink own ik cls).before args s' = true := vx_ot_at hW0 hvm.symm (hgood _ List.mem_cons_self) hk
  have hini' : (Cond.initialized cls).before args s' = true := vx_ot_at hW0 hvm.symm (hgood _ (List.mem_cons_of_mem _ List.mem_cons_self)) hini
  have hU' : vx_Zq Bundle.tN "UNASSIGNED_STACK" Bundle.steD A s' s'.heap := by rw [hhp]; exact vx_Zq.moved hW0.alike (hU.kept hS.2.1)
  have hN' : vx_Zq Bundle.tN "SUPPRESSED_SENTINEL" Bundle.listD A s' s'.heap := by rw [hhp]; exact vx_Zq.moved hW0.alike (hN.kept hS.2.1)
  have h : ∀ w ∈ nse_ws own ic cls Y r, w.before args s' = true := vx_own hat' (vx_isRefq hU'.1) (vx_isRefq hN'.1) hU'.2.word hN'.2.word
  have hown' : s'.vm.findClass own = some m.cls := by rw [hvm]; exact hown
  have hins : (Cond.instantiable cls 6).before args s' = true := h _ (by simp [nse_ws])
  obtain ⟨vm₁, cX, kX, hfX, hkX, -, -, X₁, st1⟩ := YY.newCold hexec (own := own) (C := cls) (index := ik) (n := 6) hown' hk' hins hini'
    (g := F0 m pc ls rest) rfl (by rw [hb]; exact d0) (Nat.le_refl _) (Nat.le_refl _)
  generalize hT1 : (T.setVm vm₁).pushCell { cls := cX, slots := kX.instanceTypes.map defaultValue, vm := .none } = T1 at X₁ st1
  have hcat : (Value.ref T.heap.size).category = 1 := rfl
  have hcellA : T1.heap[T.heap.size]? = some (freshCell cX kX) := by rw [← hT1]; exact State.heap_pushCell_size _ _
  have d3' : decode c.code (pc + 3) = .ok (.dup, 1) := by rw [hb]; exact d3
  have d4' : decode c.code (pc + 4) = .ok (.ldc_w is, 3) := by rw [hb]; exact d4
  have hstr' : vk_R own is text sa s' := vk_R.warm hW0 hstr
  obtain ⟨U, hsteps, hrun, hend, hW, hsame, ce, hce, hO1, hO2⟩ := nse_ctor X₁ hexec htr (own := own) (cls := cls) (Y := Y) (r := r) (ic := ic) hown' hcls hY hnames h (fun x hx => nomatch hx) hfX hkX hcellA (by rw [hhp, hT]; exact Nat.le_refl _) (msg := .ref sa) rfl
    (g := { method := m, pc := pc + 7, locals := ls, stack := .ref sa :: .ref T.heap.size :: .ref T.heap.size :: rest, locked := none }) rfl hsize rfl rfl (rest := rest) rfl
    (by rw [hb]; exact d7) (by rw [hb]; exact d10) hout hRframes (by simp only [List.map_cons, List.sum_cons, hcat]; omega) hlocks
  obtain ⟨f1, f2⟩ := vx_frame hsame
  rw [hhp] at f1 f2
  have hWs : s.WarmedH U.vm := State.WarmedH.trans hW0 hW
  have hcl : s.vm.findClass cls = some ce.cls := by
    have h9 := hO1
    rw [hvm] at h9
    exact h9
  have hall : s.sameButNew ({ U with vm := s.vm } : State) locs mc ms := by
    subst hA
    obtain ⟨e1, e2⟩ := hsame
    rw [State.setFrames_setFrames] at e1
    have h2 : (T.setVm s.vm).sameButNew ({ U with vm := s.vm } : State) [] (0 + 1) (0 + 6) := ⟨e1, e2⟩
    have h3 := X.same.trans h2
    rw [List.append_nil] at h3
    exact h3.mono hc hs
  refine ⟨U, ?_, .threw T.heap.size, hrun, hend, Or.inr ⟨T.heap.size, rfl, cls, ce, locs, hx U hWs.alike f1 (fun q hq => f2 q hq (fun z hz => nomatch hz)), hce, hO2, hcl, hWs, hall, hf⟩⟩
  refine st1 _ ?_
  show Steps p.tables e below (T1.setTop { method := m, pc := pc + 3, locals := ls, stack := .ref T.heap.size :: rest, locked := none }) _
  jvm_step X₁.here [X₁.here.top, hexec, d3', Value.category]
  exact X₁.ldcStringW hexec (own := own) (text := text) (index := is) (a := sa) hown' hstr'.1 hstr'.2
    (g := { method := m, pc := pc + 4, locals := ls, stack := .ref T.heap.size :: .ref T.heap.size :: rest, locked := none }) rfl d4' _ hsteps
end NSE2
section NSE3
variable {p : Program} {l : Launch} {e : Env} {R : Room} {s : State} {m : MethodId} {args : Array Value} {below : List Frame} {meth : Method} {c : Code} {H : Heap} {locs : List Loc} {cells slots mc ms : Nat}
variable {pc nL : Nat} {ls : Array Slot} {rest : List Value} {D : va_G} {ar : Nat → ClassId} {κ : Nat → Nat} {A : Nat → Prop} {G : gW} {nz : Nat} {cc : ByteArray} {Qc : Array Value → State → Outcome → State → Prop} {own : String} {lv : List (Nat × Value)} {px : String → gW × Nat → Prop}
theorem g_throwN (hlt : l.stackTraces = false) (S : CallFix p m c cc nL s args lwA own) (hE : g_E D vwCl (gT ar) (EX1 κ) A s s.heap) (w : g_S D vwCl A s.heap G H locs nz) (hl : lv_has ls nL lv) (ht : ∀ x ∈ c.exceptionTable.toList, False) (hlk : meth.locks = false)
    {cls text Y : String} {r : List String} {ik is ic : Nat} (hcls : Bundle.fit cls = true) (hY : Bundle.fit Y = true) (hnames : ∀ n ∈ r, Bundle.fit n = true) (hk : Cond.classLink own ik cls ∈ lwA) (hini : Cond.initialized cls ∈ lwA) (hstr : (own, is, text) ∈ lwS)
    (hA1 : ∀ w ∈ (nse_at own ic cls Y r).filter goodWord, w ∈ lwA) (hA2 : ∀ w ∈ (nse_at own ic cls Y r).filter (fun w => !goodWord w), w ∈ lwN ∧ w.onTables = true) (hgood : ∀ w ∈ Cond.classLink own ik cls :: Cond.initialized cls :: nse_at own ic cls Y r, vx_ot w = true)
    (d0 : decode cc pc = .ok (.new ik, 3)) (d3 : decode cc (pc + 3) = .ok (.dup, 1)) (d4 : decode cc (pc + 4) = .ok (.ldc is, 2)) (d6 : decode cc (pc + 6) = .ok (.invokespecial ic, 3)) (d9 : decode cc (pc + 9) = .ok (.athrow, 1))
    (hF : (Y :: r).length + 3 < R.frames) (hL : (rest.map fun v => v.category).sum + (13 * ((Y :: r).length + 1) + 43) ≤ R.locals) (h1 : cells + 1 ≤ R.cells) (h2 : slots + 6 ≤ R.slots) (h3 : cells + 1 ≤ mc) (h4 : slots + 6 ≤ ms)
    (hp : ∀ n, nz ≤ n → px cls (G, n)) : W p l e R s m args below meth c H locs cells slots (vx_MQ below Qc (gX D A px) args s mc ms A) (F0 m pc ls rest) := by
  obtain ⟨sa, hsa⟩ := hE.2.2.2.1 _ hstr
  have hat : ∀ w ∈ nse_at own ic cls Y r, w.before args s = true := by
    intro w hw
    by_cases hg : goodWord w = true
    · exact S.2.2.2.2 _ (hA1 w (List.mem_filter.mpr ⟨hw, hg⟩))
    · obtain ⟨q1, q2⟩ := hA2 w (List.mem_filter.mpr ⟨hw, by simp [hg]⟩)
      exact va_Nw.use q2 (hE.2.1.1 w q1)
  exact vx_throwN S.1 S.2.1 hlt S.2.2.2.1 hcls hY hnames (S.2.2.2.2 _ hk) (S.2.2.2.2 _ hini) hsa hat hgood hE.2.2.1.1 hE.2.2.1.2 w.2.2.1 (hl.1.trans S.2.2.1.symm) d0 d3 d4 d6 d9 (fun x hx => (ht x hx).elim) hF hL h1 h2 hlk (g_thrown w hp) w.2.2.1.2.2 h3 h4
theorem g_throwNW (hlt : l.stackTraces = false) (S : CallFix p m c cc nL s args lwA own) (hE : g_E D vwCl (gT ar) (EX1 κ) A s s.heap) (w : g_S D vwCl A s.heap G H locs nz) (hl : lv_has ls nL lv) (ht : ∀ x ∈ c.exceptionTable.toList, False) (hlk : meth.locks = false)
    {cls text Y : String} {r : List String} {ik is ic : Nat} (hcls : Bundle.fit cls = true) (hY : Bundle.fit Y = true) (hnames : ∀ n ∈ r, Bundle.fit n = true) (hk : Cond.classLink own ik cls ∈ lwA) (hini : Cond.initialized cls ∈ lwA) (hstr : (own, is, text) ∈ lwS)
    (hA1 : ∀ w ∈ (nse_at own ic cls Y r).filter goodWord, w ∈ lwA) (hA2 : ∀ w ∈ (nse_at own ic cls Y r).filter (fun w => !goodWord w), w ∈ lwN ∧ w.onTables = true) (hgood : ∀ w ∈ Cond.classLink own ik cls :: Cond.initialized cls :: nse_at own ic cls Y r, vx_ot w = true)
    (d0 : decode cc pc = .ok (.new ik, 3)) (d3 : decode cc (pc + 3) = .ok (.dup, 1)) (d4 : decode cc (pc + 4) = .ok (.ldc_w is, 3)) (d6 : decode cc (pc + 7) = .ok (.invokespecial ic, 3)) (d9 : decode cc (pc + 10) = .ok (.athrow, 1))
    (hF : (Y :: r).length + 3 < R.frames) (hL : (rest.map fun v => v.category).sum + (13 * ((Y :: r).length + 1) + 43) ≤ R.locals) (h1 : cells + 1 ≤ R.cells) (h2 : slots + 6 ≤ R.slots) (h3 : cells + 1 ≤ mc) (h4 : slots + 6 ≤ ms)
    (hp : ∀ n, nz ≤ n → px cls (G, n)) : W p l e R s m args below meth c H locs cells slots (vx_MQ below Qc (gX D A px) args s mc ms A) (F0 m pc ls rest) := by
  obtain ⟨sa, hsa⟩ := hE.2.2.2.1 _ hstr
  have hat : ∀ w ∈ nse_at own ic cls Y r, w.before args s = true := by
    intro w hw
    by_cases hg : goodWord w = true
    · exact S.2.2.2.2 _ (hA1 w (List.mem_filter.mpr ⟨hw, hg⟩))
    · obtain ⟨q1, q2⟩ := hA2 w (List.mem_filter.mpr ⟨hw, by simp [hg]⟩)
      exact va_Nw.use q2 (hE.2.1.1 w q1)
  exact vx_throwNW S.1 S.2.1 hlt S.2.2.2.1 hcls hY hnames (S.2.2.2.2 _ hk) (S.2.2.2.2 _ hini) hsa hat hgood hE.2.2.1.1 hE.2.2.1.2 w.2.2.1 (hl.1.trans S.2.2.1.symm) d0 d3 d4 d6 d9 (fun x hx => (ht x hx).elim) hF hL h1 h2 hlk (g_thrown w hp) w.2.2.1.2.2 h3 h4
theorem nse_1 : ∀ w ∈ (nse_at RX8 173 "java/util/NoSuchElementException" "java/lang/RuntimeException" ["java/lang/Exception"]).filter goodWord, w ∈ lwA := gA_f (by decide +kernel)
theorem nse_2 : ∀ w ∈ (nse_at RX8 173 "java/util/NoSuchElementException" "java/lang/RuntimeException" ["java/lang/Exception"]).filter (fun w => !goodWord w), w ∈ lwN ∧ w.onTables = true := by decide +kernel
theorem nse_3 : ∀ w ∈ Cond.classLink RX8 169 "java/util/NoSuchElementException" :: Cond.initialized "java/util/NoSuchElementException" :: nse_at RX8 173 "java/util/NoSuchElementException" "java/lang/RuntimeException" ["java/lang/Exception"], vx_ot w = true := by decide +kernel
end NSE3
end
section
theorem dX8_isBelow_0 : decode cX8_isBelow 0 = .ok (.iload_n 0, 1) := by decide +kernel
theorem dX8_isBelow_1 : decode cX8_isBelow 1 = .ok (.ifCond .lt 12, 3) := by decide +kernel
theorem dX8_isBelow_4 : decode cX8_isBelow 4 = .ok (.iload_n 0, 1) := by decide +kernel
theorem dX8_isBelow_5 : decode cX8_isBelow 5 = .ok (.iload_n 1, 1) := by decide +kernel
theorem dX8_isBelow_6 : decode cX8_isBelow 6 = .ok (.if_icmp .ge 7, 3) := by decide +kernel
theorem dX8_isBelow_9 : decode cX8_isBelow 9 = .ok (.iconst 1, 1) := by decide +kernel
theorem dX8_isBelow_10 : decode cX8_isBelow 10 = .ok (.goto 4, 3) := by decide +kernel
theorem dX8_isBelow_13 : decode cX8_isBelow 13 = .ok (.iconst 0, 1) := by decide +kernel
theorem dX8_isBelow_14 : decode cX8_isBelow 14 = .ok (.ireturn, 1) := by decide +kernel
theorem dX8_isOfPlainValues_0 : decode cX8_isOfPlainValues 0 = .ok (.iload_n 0, 1) := by decide +kernel
theorem dX8_isOfPlainValues_1 : decode cX8_isOfPlainValues 1 = .ok (.iconst 1, 1) := by decide +kernel
theorem dX8_isOfPlainValues_2 : decode cX8_isOfPlainValues 2 = .ok (.if_icmp .eq 8, 3) := by decide +kernel
theorem dX8_isOfPlainValues_5 : decode cX8_isOfPlainValues 5 = .ok (.iload_n 0, 1) := by decide +kernel
theorem dX8_isOfPlainValues_6 : decode cX8_isOfPlainValues 6 = .ok (.iconst 2, 1) := by decide +kernel
theorem dX8_isOfPlainValues_7 : decode cX8_isOfPlainValues 7 = .ok (.if_icmp .ne 7, 3) := by decide +kernel
theorem dX8_isOfPlainValues_10 : decode cX8_isOfPlainValues 10 = .ok (.iconst 1, 1) := by decide +kernel
theorem dX8_isOfPlainValues_11 : decode cX8_isOfPlainValues 11 = .ok (.goto 4, 3) := by decide +kernel
theorem dX8_isOfPlainValues_14 : decode cX8_isOfPlainValues 14 = .ok (.iconst 0, 1) := by decide +kernel
theorem dX8_isOfPlainValues_15 : decode cX8_isOfPlainValues 15 = .ok (.ireturn, 1) := by decide +kernel
theorem dX8_kindOf_0 : decode cX8_kindOf 0 = .ok (.lload_n 0, 1) := by decide +kernel
theorem dX8_kindOf_1 : decode cX8_kindOf 1 = .ok (.bipush 32, 2) := by decide +kernel
theorem dX8_kindOf_3 : decode cX8_kindOf 3 = .ok (.lushr, 1) := by decide +kernel
theorem dX8_kindOf_4 : decode cX8_kindOf 4 = .ok (.l2i, 1) := by decide +kernel
theorem dX8_kindOf_5 : decode cX8_kindOf 5 = .ok (.i2c, 1) := by decide +kernel
theorem dX8_kindOf_6 : decode cX8_kindOf 6 = .ok (.ireturn, 1) := by decide +kernel
theorem dX8_numberOf_0 : decode cX8_numberOf 0 = .ok (.lload_n 0, 1) := by decide +kernel
theorem dX8_numberOf_1 : decode cX8_numberOf 1 = .ok (.l2i, 1) := by decide +kernel
theorem dX8_numberOf_2 : decode cX8_numberOf 2 = .ok (.ireturn, 1) := by decide +kernel
theorem dX8_isNumber_0 : decode cX8_isNumber 0 = .ok (.lload_n 0, 1) := by decide +kernel
theorem dX8_isNumber_1 : decode cX8_isNumber 1 = .ok (.invokestatic 226, 3) := by decide +kernel
theorem dX8_isNumber_4 : decode cX8_isNumber 4 = .ok (.bipush 110, 2) := by decide +kernel
theorem dX8_isNumber_6 : decode cX8_isNumber 6 = .ok (.if_icmp .ne 7, 3) := by decide +kernel
theorem dX8_isNumber_9 : decode cX8_isNumber 9 = .ok (.iconst 1, 1) := by decide +kernel
theorem dX8_isNumber_10 : decode cX8_isNumber 10 = .ok (.goto 4, 3) := by decide +kernel
theorem dX8_isNumber_13 : decode cX8_isNumber 13 = .ok (.iconst 0, 1) := by decide +kernel
theorem dX8_isNumber_14 : decode cX8_isNumber 14 = .ok (.ireturn, 1) := by decide +kernel
theorem dX8_isThing_0 : decode cX8_isThing 0 = .ok (.lload_n 0, 1) := by decide +kernel
theorem dX8_isThing_1 : decode cX8_isThing 1 = .ok (.invokestatic 226, 3) := by decide +kernel
theorem dX8_isThing_4 : decode cX8_isThing 4 = .ok (.bipush 111, 2) := by decide +kernel
theorem dX8_isThing_6 : decode cX8_isThing 6 = .ok (.if_icmp .ne 7, 3) := by decide +kernel
theorem dX8_isThing_9 : decode cX8_isThing 9 = .ok (.iconst 1, 1) := by decide +kernel
theorem dX8_isThing_10 : decode cX8_isThing 10 = .ok (.goto 4, 3) := by decide +kernel
theorem dX8_isThing_13 : decode cX8_isThing 13 = .ok (.iconst 0, 1) := by decide +kernel
theorem dX8_isThing_14 : decode cX8_isThing 14 = .ok (.ireturn, 1) := by decide +kernel
section SITES
variable {p : Program} {l : Launch} {e : Env} {R : Room} {s : State} {m : MethodId} {args : Array Value} {below : List Frame} {meth : Method} {c : Code} {H : Heap} {locs : List Loc} {cells slots : Nat} {Q : State → Prop}
variable {pc : Nat} {ls : Array Slot} {rest : List Value} {D : va_G} {ar : Nat → ClassId} {κ : Nat → Nat} {A : Nat → Prop} {a : Nat} {H0 : Heap} {G : gW} {nz nL : Nat} {cc : ByteArray}
theorem ck_2 : ∀ w ∈ tables_1_2, w ∈ lw_tbl := fun _ h => List.mem_append_right _ (List.mem_append_right _ (List.mem_append_left _ h))
theorem m_2_225 : (Cond.code yX8_kindOf cX8_kindOf 2 (some .char)) ∈ lwA := lwA_mk (ck_2 _ (List.mem_of_getElem? (i := 225) rfl)) rfl
theorem ck_1 : ∀ w ∈ tables_1_1, w ∈ lw_tbl := fun _ h => List.mem_append_right _ (List.mem_append_left _ h)
theorem m_1_1 : (Cond.initialized RX8) ∈ lwA := lwA_mk (ck_1 _ (List.mem_of_getElem? (i := 1) rfl)) rfl
theorem m_2_223 : (Cond.methodLink RX8 226 yX8_kindOf) ∈ lwA := lwA_mk (ck_2 _ (List.mem_of_getElem? (i := 223) rfl)) rfl
theorem m_2_224 : (Cond.static yX8_kindOf) ∈ lwA := lwA_mk (ck_2 _ (List.mem_of_getElem? (i := 224) rfl)) rfl
theorem k_RX8_226 {args : Array Value} {s : State} {R rm : Room} (hts : ∀ w ∈ lwA, w.before args s = true) (hR : rm.frames + 1 ≤ R.frames ∧ 8 + (2 + 11) + rm.locals ≤ R.locals) : CallB R s args RX8 226 yX8_kindOf cX8_kindOf 2 (some .char) (lwC yX8_kindOf cX8_kindOf 2 (some .char)) rm rm.cells rm.slots 1 ∧ (Cond.static yX8_kindOf).before args s = true := cwS 1 hts (gdS m_2_223 m_2_224 m_1_1 m_2_225) rfl rfl rfl (by decide +kernel) hR
end SITES
def isB (i b : Int32) : Int32 := if i < 0 then 0 else if b ≤ i then 0 else 1
def isPl (c : Int32) : Int32 := if c = 1 then 1 else if c = 2 then 1 else 0
def kf (v : Int64) : Int32 := ((v.toUInt64 >>> ((32 : Int32).toInt64.toUInt64 &&& Int64.toUInt64 63)).toInt64.toInt32.toUInt32 % 65536).toInt32
def nf (v : Int64) : Int32 := v.toInt32
def isN (v : Int64) : Int32 := if kf v = 110 then 1 else 0
def isT (v : Int64) : Int32 := if kf v = 111 then 1 else 0
theorem isB_0 {i b : Int32} : isB i b = 0 ↔ (i < 0 ∨ b ≤ i) := by
  unfold isB
  by_cases h1 : i < 0
  · simp [h1]
  · by_cases h2 : b ≤ i <;> simp [h1, h2]
theorem isB_n {i b : Int32} : ¬ isB i b = 0 ↔ (¬ i < 0 ∧ ¬ b ≤ i) := by rw [isB_0]; exact not_or
theorem isPl_0 {c : Int32} : isPl c = 0 ↔ (¬ c = 1 ∧ ¬ c = 2) := by
  unfold isPl
  by_cases h1 : c = 1
  · simp [h1]
  · by_cases h2 : c = 2 <;> simp [h1, h2]
theorem pk_nchar (x : Int32) : narrow .char (.int (x.toUInt32 % 65536).toInt32) = .int (x.toUInt32 % 65536).toInt32 := pk_nc x
set_option maxHeartbeats 4000000 in
set_option maxRecDepth 100000 in
theorem c_X8_isBelow (l : Launch) (D : va_G) (ar : Nat → ClassId) (κ : Nat → Nat) (G : gW) (sz : Nat) (i : Int32) (b : Int32) : Met l yX8_isBelow (lwC yX8_isBelow cX8_isBelow 2 (some .boolean)) (rD 1 0 0) (g_Pc D vwCl (gT ar) (EX1 κ) G sz [.int i, .int b]) (g_Qi D vwCl (g_A G sz) (fun r u => r = isB i b ∧ u = (G, sz))) 0 0 (g_A G sz) := by
  refine g_ofW (by decide +kernel) (Nat.le_of_ble_eq_true rfl) ?_
  intro p e s m below meth c ls S hr hlk hin hE w hl
  have hx := S.1
  have hb := S.2.1
  have hl : lv_has ls 2 [(0, .int i), (1, .int b)] := hl
  refine lv_iload_n hx hb dX8_isBelow_0 rfl (lv_at hl 0 rfl) ?_
  refine lv_if_lt (tgt := 13) hx hb dX8_isBelow_1 (by decide) (fun c_1 => ?_) (fun c_1 => ?_)
  · refine lv_iconst (v := 0) hx hb dX8_isBelow_13 (by decide) ?_
    exact g_zret hx hb hr hlk w (Nat.le_of_ble_eq_true rfl) (Nat.le_of_ble_eq_true rfl) dX8_isBelow_14 rfl ⟨by simp [isB, c_1], rfl⟩
  · refine lv_iload_n hx hb dX8_isBelow_4 rfl (lv_at hl 0 rfl) ?_
    refine lv_iload_n hx hb dX8_isBelow_5 rfl (lv_at hl 1 rfl) ?_
    refine lv_icmp_ge (tgt := 13) hx hb dX8_isBelow_6 (by decide) (fun c_6 => ?_) (fun c_6 => ?_)
    · refine lv_iconst (v := 0) hx hb dX8_isBelow_13 (by decide) ?_
      exact g_zret hx hb hr hlk w (Nat.le_of_ble_eq_true rfl) (Nat.le_of_ble_eq_true rfl) dX8_isBelow_14 rfl ⟨by simp [isB, c_1, c_6], rfl⟩
    · refine lv_iconst (v := 1) hx hb dX8_isBelow_9 (by decide) ?_
      refine lv_goto (tgt := 14) hx hb dX8_isBelow_10 (by decide) ?_
      exact g_zret hx hb hr hlk w (Nat.le_of_ble_eq_true rfl) (Nat.le_of_ble_eq_true rfl) dX8_isBelow_14 rfl ⟨by simp [isB, c_1, c_6], rfl⟩
set_option maxHeartbeats 4000000 in
set_option maxRecDepth 100000 in
theorem c_X8_isOfPlainValues (l : Launch) (D : va_G) (ar : Nat → ClassId) (κ : Nat → Nat) (G : gW) (sz : Nat) (cc0 : Int32) : Met l yX8_isOfPlainValues (lwC yX8_isOfPlainValues cX8_isOfPlainValues 1 (some .boolean)) (rD 1 0 0) (g_Pc D vwCl (gT ar) (EX1 κ) G sz [.int cc0]) (g_Qi D vwCl (g_A G sz) (fun r u => r = isPl cc0 ∧ u = (G, sz))) 0 0 (g_A G sz) := by
  refine g_ofW (by decide +kernel) (Nat.le_of_ble_eq_true rfl) ?_
  intro p e s m below meth c ls S hr hlk hin hE w hl
  have hx := S.1
  have hb := S.2.1
  have hl : lv_has ls 1 [(0, .int cc0)] := hl
  refine lv_iload_n hx hb dX8_isOfPlainValues_0 rfl (lv_at hl 0 rfl) ?_
  refine lv_iconst (v := 1) hx hb dX8_isOfPlainValues_1 (by decide) ?_
  refine lv_icmp_eq (tgt := 10) hx hb dX8_isOfPlainValues_2 (by decide) (fun c_2 => ?_) (fun c_2 => ?_)
  · refine lv_iconst (v := 1) hx hb dX8_isOfPlainValues_10 (by decide) ?_
    refine lv_goto (tgt := 15) hx hb dX8_isOfPlainValues_11 (by decide) ?_
    exact g_zret hx hb hr hlk w (Nat.le_of_ble_eq_true rfl) (Nat.le_of_ble_eq_true rfl) dX8_isOfPlainValues_15 rfl ⟨by simp [isPl, c_2], rfl⟩
  · refine lv_iload_n hx hb dX8_isOfPlainValues_5 rfl (lv_at hl 0 rfl) ?_
    refine lv_iconst (v := 2) hx hb dX8_isOfPlainValues_6 (by decide) ?_
    refine lv_icmp_ne (tgt := 14) hx hb dX8_isOfPlainValues_7 (by decide) (fun c_7 => ?_) (fun c_7 => ?_)
    · refine lv_iconst (v := 0) hx hb dX8_isOfPlainValues_14 (by decide) ?_
      exact g_zret hx hb hr hlk w (Nat.le_of_ble_eq_true rfl) (Nat.le_of_ble_eq_true rfl) dX8_isOfPlainValues_15 rfl ⟨by simp [isPl, c_2, c_7], rfl⟩
    · refine lv_iconst (v := 1) hx hb dX8_isOfPlainValues_10 (by decide) ?_
      refine lv_goto (tgt := 15) hx hb dX8_isOfPlainValues_11 (by decide) ?_
      exact g_zret hx hb hr hlk w (Nat.le_of_ble_eq_true rfl) (Nat.le_of_ble_eq_true rfl) dX8_isOfPlainValues_15 rfl ⟨by simp [isPl, c_2, c_7], rfl⟩
set_option maxHeartbeats 4000000 in
set_option maxRecDepth 100000 in
theorem c_X8_kindOf (l : Launch) (D : va_G) (ar : Nat → ClassId) (κ : Nat → Nat) (G : gW) (sz : Nat) (v : Int64) : Met l yX8_kindOf (lwC yX8_kindOf cX8_kindOf 2 (some .char)) (rD 1 0 0) (g_Pc D vwCl (gT ar) (EX1 κ) G sz [.long v]) (g_Qi D vwCl (g_A G sz) (fun r u => r = kf v ∧ u = (G, sz))) 0 0 (g_A G sz) := by
  refine g_ofW (by decide +kernel) (Nat.le_of_ble_eq_true rfl) ?_
  intro p e s m below meth c ls S hr hlk hin hE w hl
  have hx := S.1
  have hb := S.2.1
  have hl : lv_has ls 2 [(0, .long v)] := hl
  refine lv_lload_n hx hb dX8_kindOf_0 rfl (lv_at hl 0 rfl) ?_
  refine lv_bipush (v := 32) hx hb dX8_kindOf_1 (by decide) ?_
  refine lv_lushr hx hb dX8_kindOf_3 rfl ?_
  refine lv_l2i hx hb dX8_kindOf_4 rfl ?_
  refine lv_i2c hx hb dX8_kindOf_5 rfl ?_
  exact g_zret hx hb hr hlk w (Nat.le_of_ble_eq_true rfl) (Nat.le_of_ble_eq_true rfl) dX8_kindOf_6 (pk_nchar _) ⟨rfl, rfl⟩
set_option maxHeartbeats 4000000 in
set_option maxRecDepth 100000 in
theorem c_X8_numberOf (l : Launch) (D : va_G) (ar : Nat → ClassId) (κ : Nat → Nat) (G : gW) (sz : Nat) (v : Int64) : Met l yX8_numberOf (lwC yX8_numberOf cX8_numberOf 2 (some .int)) (rD 1 0 0) (g_Pc D vwCl (gT ar) (EX1 κ) G sz [.long v]) (g_Qi D vwCl (g_A G sz) (fun r u => r = nf v ∧ u = (G, sz))) 0 0 (g_A G sz) := by
  refine g_ofW (by decide +kernel) (Nat.le_of_ble_eq_true rfl) ?_
  intro p e s m below meth c ls S hr hlk hin hE w hl
  have hx := S.1
  have hb := S.2.1
  have hl : lv_has ls 2 [(0, .long v)] := hl
  refine lv_lload_n hx hb dX8_numberOf_0 rfl (lv_at hl 0 rfl) ?_
  refine lv_l2i hx hb dX8_numberOf_1 rfl ?_
  exact g_iret hx hb hr hlk w (Nat.le_of_ble_eq_true rfl) (Nat.le_of_ble_eq_true rfl) dX8_numberOf_2 ⟨rfl, rfl⟩
set_option maxHeartbeats 4000000 in
set_option maxRecDepth 100000 in
theorem c_X8_isNumber (l : Launch) (D : va_G) (ar : Nat → ClassId) (κ : Nat → Nat) (G : gW) (sz : Nat) (v : Int64) : Met l yX8_isNumber (lwC yX8_isNumber cX8_isNumber 2 (some .boolean)) (rD 2 0 0) (g_Pc D vwCl (gT ar) (EX1 κ) G sz [.long v]) (g_Qi D vwCl (g_A G sz) (fun r u => r = isN v ∧ u = (G, sz))) 0 0 (g_A G sz) := by
  refine g_ofW (by decide +kernel) (Nat.le_of_ble_eq_true rfl) ?_
  intro p e s m below meth c ls S hr hlk hin hE w hl
  have hx := S.1
  have hb := S.2.1
  have hl : lv_has ls 2 [(0, .long v)] := hl
  refine lv_lload_n hx hb dX8_isNumber_0 rfl (lv_at hl 0 rfl) ?_
  refine g_calli w (g_runS (As := [.long v]) (rest := []) S hE w hl (c_X8_kindOf l D ar κ G sz v) (k_RX8_226 S.2.2.2.2 ⟨Nat.le_of_ble_eq_true rfl, Nat.le_of_ble_eq_true rfl⟩) rfl rfl (Nat.le_of_ble_eq_true rfl) dX8_isNumber_1 ⟨Nat.le_of_ble_eq_true rfl, Nat.le_of_ble_eq_true rfl⟩) (fun r u H locs hp hnz w => ?_)
  obtain ⟨rfl, rfl⟩ := hp
  dsimp only at w
  refine lv_bipush (v := 110) hx hb dX8_isNumber_4 (by decide) ?_
  refine lv_icmp_ne (tgt := 13) hx hb dX8_isNumber_6 (by decide) (fun c_6 => ?_) (fun c_6 => ?_)
  · refine lv_iconst (v := 0) hx hb dX8_isNumber_13 (by decide) ?_
    exact g_zret hx hb hr hlk w (Nat.le_of_ble_eq_true rfl) (Nat.le_of_ble_eq_true rfl) dX8_isNumber_14 rfl ⟨by simp [isN, c_6], rfl⟩
  · refine lv_iconst (v := 1) hx hb dX8_isNumber_9 (by decide) ?_
    refine lv_goto (tgt := 14) hx hb dX8_isNumber_10 (by decide) ?_
    exact g_zret hx hb hr hlk w (Nat.le_of_ble_eq_true rfl) (Nat.le_of_ble_eq_true rfl) dX8_isNumber_14 rfl ⟨by simp [isN, c_6], rfl⟩
set_option maxHeartbeats 4000000 in
set_option maxRecDepth 100000 in
theorem c_X8_isThing (l : Launch) (D : va_G) (ar : Nat → ClassId) (κ : Nat → Nat) (G : gW) (sz : Nat) (v : Int64) : Met l yX8_isThing (lwC yX8_isThing cX8_isThing 2 (some .boolean)) (rD 2 0 0) (g_Pc D vwCl (gT ar) (EX1 κ) G sz [.long v]) (g_Qi D vwCl (g_A G sz) (fun r u => r = isT v ∧ u = (G, sz))) 0 0 (g_A G sz) := by
  refine g_ofW (by decide +kernel) (Nat.le_of_ble_eq_true rfl) ?_
  intro p e s m below meth c ls S hr hlk hin hE w hl
  have hx := S.1
  have hb := S.2.1
  have hl : lv_has ls 2 [(0, .long v)] := hl
  refine lv_lload_n hx hb dX8_isThing_0 rfl (lv_at hl 0 rfl) ?_
  refine g_calli w (g_runS (As := [.long v]) (rest := []) S hE w hl (c_X8_kindOf l D ar κ G sz v) (k_RX8_226 S.2.2.2.2 ⟨Nat.le_of_ble_eq_true rfl, Nat.le_of_ble_eq_true rfl⟩) rfl rfl (Nat.le_of_ble_eq_true rfl) dX8_isThing_1 ⟨Nat.le_of_ble_eq_true rfl, Nat.le_of_ble_eq_true rfl⟩) (fun r u H locs hp hnz w => ?_)
  obtain ⟨rfl, rfl⟩ := hp
  dsimp only at w
  refine lv_bipush (v := 111) hx hb dX8_isThing_4 (by decide) ?_
  refine lv_icmp_ne (tgt := 13) hx hb dX8_isThing_6 (by decide) (fun c_6 => ?_) (fun c_6 => ?_)
  · refine lv_iconst (v := 0) hx hb dX8_isThing_13 (by decide) ?_
    exact g_zret hx hb hr hlk w (Nat.le_of_ble_eq_true rfl) (Nat.le_of_ble_eq_true rfl) dX8_isThing_14 rfl ⟨by simp [isT, c_6], rfl⟩
  · refine lv_iconst (v := 1) hx hb dX8_isThing_9 (by decide) ?_
    refine lv_goto (tgt := 14) hx hb dX8_isThing_10 (by decide) ?_
    exact g_zret hx hb hr hlk w (Nat.le_of_ble_eq_true rfl) (Nat.le_of_ble_eq_true rfl) dX8_isThing_14 rfl ⟨by simp [isT, c_6], rfl⟩
end
section
theorem dX8_placeAt_0 : decode cX8_placeAt 0 = .ok (.iload_n 1, 1) := by decide +kernel
theorem dX8_placeAt_1 : decode cX8_placeAt 1 = .ok (.aload_n 0, 1) := by decide +kernel
theorem dX8_placeAt_2 : decode cX8_placeAt 2 = .ok (.arraylength, 1) := by decide +kernel
theorem dX8_placeAt_3 : decode cX8_placeAt 3 = .ok (.invokestatic 97, 3) := by decide +kernel
theorem dX8_placeAt_6 : decode cX8_placeAt 6 = .ok (.ifCond .eq 9, 3) := by decide +kernel
theorem dX8_placeAt_9 : decode cX8_placeAt 9 = .ok (.aload_n 0, 1) := by decide +kernel
theorem dX8_placeAt_10 : decode cX8_placeAt 10 = .ok (.iload_n 1, 1) := by decide +kernel
theorem dX8_placeAt_11 : decode cX8_placeAt 11 = .ok (.laload, 1) := by decide +kernel
theorem dX8_placeAt_12 : decode cX8_placeAt 12 = .ok (.goto 6, 3) := by decide +kernel
theorem dX8_placeAt_15 : decode cX8_placeAt 15 = .ok (.ldc2_w 60, 3) := by decide +kernel
theorem dX8_placeAt_18 : decode cX8_placeAt 18 = .ok (.lreturn, 1) := by decide +kernel
theorem dX8_putAt_0 : decode cX8_putAt 0 = .ok (.iload_n 1, 1) := by decide +kernel
theorem dX8_putAt_1 : decode cX8_putAt 1 = .ok (.aload_n 0, 1) := by decide +kernel
theorem dX8_putAt_2 : decode cX8_putAt 2 = .ok (.arraylength, 1) := by decide +kernel
theorem dX8_putAt_3 : decode cX8_putAt 3 = .ok (.invokestatic 97, 3) := by decide +kernel
theorem dX8_putAt_6 : decode cX8_putAt 6 = .ok (.ifCond .eq 7, 3) := by decide +kernel
theorem dX8_putAt_9 : decode cX8_putAt 9 = .ok (.aload_n 0, 1) := by decide +kernel
theorem dX8_putAt_10 : decode cX8_putAt 10 = .ok (.iload_n 1, 1) := by decide +kernel
theorem dX8_putAt_11 : decode cX8_putAt 11 = .ok (.lload_n 2, 1) := by decide +kernel
theorem dX8_putAt_12 : decode cX8_putAt 12 = .ok (.lastore, 1) := by decide +kernel
theorem dX8_putAt_13 : decode cX8_putAt 13 = .ok (.return_, 1) := by decide +kernel
theorem dX0_has_0 : decode cX0_has 0 = .ok (.iload_n 1, 1) := by decide +kernel
theorem dX0_has_1 : decode cX0_has 1 = .ok (.aload_n 0, 1) := by decide +kernel
theorem dX0_has_2 : decode cX0_has 2 = .ok (.getfield 18, 3) := by decide +kernel
theorem dX0_has_5 : decode cX0_has 5 = .ok (.invokestatic 22, 3) := by decide +kernel
theorem dX0_has_8 : decode cX0_has 8 = .ok (.ireturn, 1) := by decide +kernel
theorem dX0_aboveOf_0 : decode cX0_aboveOf 0 = .ok (.iload_n 1, 1) := by decide +kernel
theorem dX0_aboveOf_1 : decode cX0_aboveOf 1 = .ok (.aload_n 0, 1) := by decide +kernel
theorem dX0_aboveOf_2 : decode cX0_aboveOf 2 = .ok (.getfield 9, 3) := by decide +kernel
theorem dX0_aboveOf_5 : decode cX0_aboveOf 5 = .ok (.arraylength, 1) := by decide +kernel
theorem dX0_aboveOf_6 : decode cX0_aboveOf 6 = .ok (.invokestatic 22, 3) := by decide +kernel
theorem dX0_aboveOf_9 : decode cX0_aboveOf 9 = .ok (.ifCond .eq 12, 3) := by decide +kernel
theorem dX0_aboveOf_12 : decode cX0_aboveOf 12 = .ok (.aload_n 0, 1) := by decide +kernel
theorem dX0_aboveOf_13 : decode cX0_aboveOf 13 = .ok (.getfield 9, 3) := by decide +kernel
theorem dX0_aboveOf_16 : decode cX0_aboveOf 16 = .ok (.iload_n 1, 1) := by decide +kernel
theorem dX0_aboveOf_17 : decode cX0_aboveOf 17 = .ok (.iaload, 1) := by decide +kernel
theorem dX0_aboveOf_18 : decode cX0_aboveOf 18 = .ok (.goto 4, 3) := by decide +kernel
theorem dX0_aboveOf_21 : decode cX0_aboveOf 21 = .ok (.iconst (-1), 1) := by decide +kernel
theorem dX0_aboveOf_22 : decode cX0_aboveOf 22 = .ok (.ireturn, 1) := by decide +kernel
theorem dX0_fieldsOf_0 : decode cX0_fieldsOf 0 = .ok (.iload_n 1, 1) := by decide +kernel
theorem dX0_fieldsOf_1 : decode cX0_fieldsOf 1 = .ok (.aload_n 0, 1) := by decide +kernel
theorem dX0_fieldsOf_2 : decode cX0_fieldsOf 2 = .ok (.getfield 15, 3) := by decide +kernel
theorem dX0_fieldsOf_5 : decode cX0_fieldsOf 5 = .ok (.arraylength, 1) := by decide +kernel
theorem dX0_fieldsOf_6 : decode cX0_fieldsOf 6 = .ok (.invokestatic 22, 3) := by decide +kernel
theorem dX0_fieldsOf_9 : decode cX0_fieldsOf 9 = .ok (.ifCond .eq 12, 3) := by decide +kernel
theorem dX0_fieldsOf_12 : decode cX0_fieldsOf 12 = .ok (.aload_n 0, 1) := by decide +kernel
theorem dX0_fieldsOf_13 : decode cX0_fieldsOf 13 = .ok (.getfield 15, 3) := by decide +kernel
theorem dX0_fieldsOf_16 : decode cX0_fieldsOf 16 = .ok (.iload_n 1, 1) := by decide +kernel
theorem dX0_fieldsOf_17 : decode cX0_fieldsOf 17 = .ok (.iaload, 1) := by decide +kernel
theorem dX0_fieldsOf_18 : decode cX0_fieldsOf 18 = .ok (.goto 4, 3) := by decide +kernel
theorem dX0_fieldsOf_21 : decode cX0_fieldsOf 21 = .ok (.iconst 0, 1) := by decide +kernel
theorem dX0_fieldsOf_22 : decode cX0_fieldsOf 22 = .ok (.ireturn, 1) := by decide +kernel
theorem dX0_enlist_0 : decode cX0_enlist 0 = .ok (.aload_n 0, 1) := by decide +kernel
theorem dX0_enlist_1 : decode cX0_enlist 1 = .ok (.getfield 18, 3) := by decide +kernel
theorem dX0_enlist_4 : decode cX0_enlist 4 = .ok (.bipush 12, 2) := by decide +kernel
theorem dX0_enlist_6 : decode cX0_enlist 6 = .ok (.invokestatic 22, 3) := by decide +kernel
theorem dX0_enlist_9 : decode cX0_enlist 9 = .ok (.ifCond .ne 5, 3) := by decide +kernel
theorem dX0_enlist_12 : decode cX0_enlist 12 = .ok (.iconst (-1), 1) := by decide +kernel
theorem dX0_enlist_13 : decode cX0_enlist 13 = .ok (.ireturn, 1) := by decide +kernel
theorem dX0_enlist_14 : decode cX0_enlist 14 = .ok (.aload_n 0, 1) := by decide +kernel
theorem dX0_enlist_15 : decode cX0_enlist 15 = .ok (.getfield 9, 3) := by decide +kernel
theorem dX0_enlist_18 : decode cX0_enlist 18 = .ok (.aload_n 0, 1) := by decide +kernel
theorem dX0_enlist_19 : decode cX0_enlist 19 = .ok (.getfield 18, 3) := by decide +kernel
theorem dX0_enlist_22 : decode cX0_enlist 22 = .ok (.iload_n 1, 1) := by decide +kernel
theorem dX0_enlist_23 : decode cX0_enlist 23 = .ok (.iastore, 1) := by decide +kernel
theorem dX0_enlist_24 : decode cX0_enlist 24 = .ok (.aload_n 0, 1) := by decide +kernel
theorem dX0_enlist_25 : decode cX0_enlist 25 = .ok (.getfield 15, 3) := by decide +kernel
theorem dX0_enlist_28 : decode cX0_enlist 28 = .ok (.aload_n 0, 1) := by decide +kernel
theorem dX0_enlist_29 : decode cX0_enlist 29 = .ok (.getfield 18, 3) := by decide +kernel
theorem dX0_enlist_32 : decode cX0_enlist 32 = .ok (.aload_n 0, 1) := by decide +kernel
theorem dX0_enlist_33 : decode cX0_enlist 33 = .ok (.iload_n 1, 1) := by decide +kernel
theorem dX0_enlist_34 : decode cX0_enlist 34 = .ok (.invokevirtual 26, 3) := by decide +kernel
theorem dX0_enlist_37 : decode cX0_enlist 37 = .ok (.iload_n 2, 1) := by decide +kernel
theorem dX0_enlist_38 : decode cX0_enlist 38 = .ok (.iadd, 1) := by decide +kernel
theorem dX0_enlist_39 : decode cX0_enlist 39 = .ok (.iastore, 1) := by decide +kernel
theorem dX0_enlist_40 : decode cX0_enlist 40 = .ok (.aload_n 0, 1) := by decide +kernel
theorem dX0_enlist_41 : decode cX0_enlist 41 = .ok (.dup, 1) := by decide +kernel
theorem dX0_enlist_42 : decode cX0_enlist 42 = .ok (.getfield 18, 3) := by decide +kernel
theorem dX0_enlist_45 : decode cX0_enlist 45 = .ok (.iconst 1, 1) := by decide +kernel
theorem dX0_enlist_46 : decode cX0_enlist 46 = .ok (.iadd, 1) := by decide +kernel
theorem dX0_enlist_47 : decode cX0_enlist 47 = .ok (.putfield 18, 3) := by decide +kernel
theorem dX0_enlist_50 : decode cX0_enlist 50 = .ok (.aload_n 0, 1) := by decide +kernel
theorem dX0_enlist_51 : decode cX0_enlist 51 = .ok (.getfield 18, 3) := by decide +kernel
theorem dX0_enlist_54 : decode cX0_enlist 54 = .ok (.iconst 1, 1) := by decide +kernel
theorem dX0_enlist_55 : decode cX0_enlist 55 = .ok (.isub, 1) := by decide +kernel
theorem dX0_enlist_56 : decode cX0_enlist 56 = .ok (.ireturn, 1) := by decide +kernel
theorem dX3_enlist_0 : decode cX3_enlist 0 = .ok (.aload_n 0, 1) := by decide +kernel
theorem dX3_enlist_1 : decode cX3_enlist 1 = .ok (.getfield 28, 3) := by decide +kernel
theorem dX3_enlist_4 : decode cX3_enlist 4 = .ok (.bipush 24, 2) := by decide +kernel
theorem dX3_enlist_6 : decode cX3_enlist 6 = .ok (.invokestatic 35, 3) := by decide +kernel
theorem dX3_enlist_9 : decode cX3_enlist 9 = .ok (.ifCond .eq 43, 3) := by decide +kernel
theorem dX3_enlist_12 : decode cX3_enlist 12 = .ok (.aload_n 0, 1) := by decide +kernel
theorem dX3_enlist_13 : decode cX3_enlist 13 = .ok (.getfield 9, 3) := by decide +kernel
theorem dX3_enlist_16 : decode cX3_enlist 16 = .ok (.aload_n 0, 1) := by decide +kernel
theorem dX3_enlist_17 : decode cX3_enlist 17 = .ok (.getfield 28, 3) := by decide +kernel
theorem dX3_enlist_20 : decode cX3_enlist 20 = .ok (.iload_n 1, 1) := by decide +kernel
theorem dX3_enlist_21 : decode cX3_enlist 21 = .ok (.castore, 1) := by decide +kernel
theorem dX3_enlist_22 : decode cX3_enlist 22 = .ok (.aload_n 0, 1) := by decide +kernel
theorem dX3_enlist_23 : decode cX3_enlist 23 = .ok (.getfield 15, 3) := by decide +kernel
theorem dX3_enlist_26 : decode cX3_enlist 26 = .ok (.aload_n 0, 1) := by decide +kernel
theorem dX3_enlist_27 : decode cX3_enlist 27 = .ok (.getfield 28, 3) := by decide +kernel
theorem dX3_enlist_30 : decode cX3_enlist 30 = .ok (.iload_n 2, 1) := by decide +kernel
theorem dX3_enlist_31 : decode cX3_enlist 31 = .ok (.iastore, 1) := by decide +kernel
theorem dX3_enlist_32 : decode cX3_enlist 32 = .ok (.aload_n 0, 1) := by decide +kernel
theorem dX3_enlist_33 : decode cX3_enlist 33 = .ok (.getfield 19, 3) := by decide +kernel
theorem dX3_enlist_36 : decode cX3_enlist 36 = .ok (.aload_n 0, 1) := by decide +kernel
theorem dX3_enlist_37 : decode cX3_enlist 37 = .ok (.getfield 28, 3) := by decide +kernel
theorem dX3_enlist_40 : decode cX3_enlist 40 = .ok (.iload_n 3, 1) := by decide +kernel
theorem dX3_enlist_41 : decode cX3_enlist 41 = .ok (.iastore, 1) := by decide +kernel
theorem dX3_enlist_42 : decode cX3_enlist 42 = .ok (.aload_n 0, 1) := by decide +kernel
theorem dX3_enlist_43 : decode cX3_enlist 43 = .ok (.dup, 1) := by decide +kernel
theorem dX3_enlist_44 : decode cX3_enlist 44 = .ok (.getfield 28, 3) := by decide +kernel
theorem dX3_enlist_47 : decode cX3_enlist 47 = .ok (.iconst 1, 1) := by decide +kernel
theorem dX3_enlist_48 : decode cX3_enlist 48 = .ok (.iadd, 1) := by decide +kernel
theorem dX3_enlist_49 : decode cX3_enlist 49 = .ok (.putfield 28, 3) := by decide +kernel
theorem dX3_enlist_52 : decode cX3_enlist 52 = .ok (.return_, 1) := by decide +kernel
section SITES
variable {p : Program} {l : Launch} {e : Env} {R : Room} {s : State} {m : MethodId} {args : Array Value} {below : List Frame} {meth : Method} {c : Code} {H : Heap} {locs : List Loc} {cells slots : Nat} {Q : State → Prop}
variable {pc : Nat} {ls : Array Slot} {rest : List Value} {D : va_G} {ar : Nat → ClassId} {κ : Nat → Nat} {A : Nat → Prop} {a : Nat} {H0 : Heap} {G : gW} {nz nL : Nat} {cc : ByteArray}
theorem m_2_157 : (Cond.code yX8_isBelow cX8_isBelow 2 (some .boolean)) ∈ lwA := lwA_mk (ck_2 _ (List.mem_of_getElem? (i := 157) rfl)) rfl
theorem m_2_158 : (Cond.methodLink RX8 97 yX8_isBelow) ∈ lwA := lwA_mk (ck_2 _ (List.mem_of_getElem? (i := 158) rfl)) rfl
theorem m_2_156 : (Cond.static yX8_isBelow) ∈ lwA := lwA_mk (ck_2 _ (List.mem_of_getElem? (i := 156) rfl)) rfl
theorem k_RX8_97 {args : Array Value} {s : State} {R rm : Room} (hts : ∀ w ∈ lwA, w.before args s = true) (hR : rm.frames + 1 ≤ R.frames ∧ 8 + (2 + 11) + rm.locals ≤ R.locals) : CallB R s args RX8 97 yX8_isBelow cX8_isBelow 2 (some .boolean) (lwC yX8_isBelow cX8_isBelow 2 (some .boolean)) rm rm.cells rm.slots 2 ∧ (Cond.static yX8_isBelow).before args s = true := cwS 2 hts (gdS m_2_158 m_2_156 m_1_1 m_2_157) rfl rfl rfl (by decide +kernel) hR
theorem m_1_157 : (Cond.constantLong RX8 60 (502511173632)) ∈ lwA := lwA_mk (ck_1 _ (List.mem_of_getElem? (i := 157) rfl)) rfl
theorem inA_RX0 : ∀ w ∈ u_ws RX0 TX0 3, w ∈ lwA := gA_r _ [99, 101, 103] (by decide +kernel) (by decide +kernel)
theorem m_1_56 : (Cond.fieldLink RX0 18 "Sendhouse$Classes" "count" "I") ∈ lwA := lwA_mk (ck_1 _ (List.mem_of_getElem? (i := 56) rfl)) rfl
theorem gf_RX0_18_6 {A9 : Nat → Prop} {H9 : Heap} {fs : List Value} {v : Value} (S : CallFix p m c cc nL s args lwA RX0) (hE : g_E D vwCl (gT ar) (EX1 κ) A9 s H9) (w : g_S D vwCl A H0 G H locs nz) (ha : G a = some (.inr (6, fs))) (hv : fs[2]? = some v) (hdg : decode cc pc = .ok (.getfield 18, 3)) (kk : W p l e R s m args below meth c H locs cells slots Q (F0 m (pc + 3) ls (v :: rest))) : W p l e R s m args below meth c H locs cells slots Q (F0 m pc ls (.ref a :: rest)) :=
  va_get (ci := 6) (C := RX0) (T := TX0) (N := 3) S.1 S.2.1 S.2.2.2.2 inA_RX0 S.2.2.2.1 hE.1 (g_1 w.1 ha) 0 rfl rfl 2 (by decide) (S.2.2.2.2 _ m_1_56) (fun _ h => h) hv hdg kk
theorem k_RX0_22 {args : Array Value} {s : State} {R rm : Room} (hts : ∀ w ∈ lwA, w.before args s = true) (hN : va_Nw (.methodLinkNest RX0 22 yX8_isBelow "Sendhouse") s) (hR : rm.frames + 1 ≤ R.frames ∧ 8 + (2 + 11) + rm.locals ≤ R.locals) : va_CN R s args RX0 22 yX8_isBelow "Sendhouse" cX8_isBelow 2 (some .boolean) (lwC yX8_isBelow cX8_isBelow 2 (some .boolean)) rm rm.cells rm.slots 2 ∧ (Cond.static yX8_isBelow).before args s = true ∧ True := ⟨va_cnB 2 hts (gd m_2_157) rfl rfl rfl hN (hts _ m_1_1) (by decide +kernel) hR, hts _ m_2_156, trivial⟩
theorem m_1_54 : (Cond.fieldLink RX0 9 "Sendhouse$Classes" "above" "[I") ∈ lwA := lwA_mk (ck_1 _ (List.mem_of_getElem? (i := 54) rfl)) rfl
theorem gf_RX0_9_6 {A9 : Nat → Prop} {H9 : Heap} {fs : List Value} {v : Value} (S : CallFix p m c cc nL s args lwA RX0) (hE : g_E D vwCl (gT ar) (EX1 κ) A9 s H9) (w : g_S D vwCl A H0 G H locs nz) (ha : G a = some (.inr (6, fs))) (hv : fs[0]? = some v) (hdg : decode cc pc = .ok (.getfield 9, 3)) (kk : W p l e R s m args below meth c H locs cells slots Q (F0 m (pc + 3) ls (v :: rest))) : W p l e R s m args below meth c H locs cells slots Q (F0 m pc ls (.ref a :: rest)) :=
  va_get (ci := 6) (C := RX0) (T := TX0) (N := 3) S.1 S.2.1 S.2.2.2.2 inA_RX0 S.2.2.2.1 hE.1 (g_1 w.1 ha) 0 rfl rfl 0 (by decide) (S.2.2.2.2 _ m_1_54) (fun _ h => h) hv hdg kk
theorem m_1_55 : (Cond.fieldLink RX0 15 "Sendhouse$Classes" "fieldCounts" "[I") ∈ lwA := lwA_mk (ck_1 _ (List.mem_of_getElem? (i := 55) rfl)) rfl
theorem gf_RX0_15_6 {A9 : Nat → Prop} {H9 : Heap} {fs : List Value} {v : Value} (S : CallFix p m c cc nL s args lwA RX0) (hE : g_E D vwCl (gT ar) (EX1 κ) A9 s H9) (w : g_S D vwCl A H0 G H locs nz) (ha : G a = some (.inr (6, fs))) (hv : fs[1]? = some v) (hdg : decode cc pc = .ok (.getfield 15, 3)) (kk : W p l e R s m args below meth c H locs cells slots Q (F0 m (pc + 3) ls (v :: rest))) : W p l e R s m args below meth c H locs cells slots Q (F0 m pc ls (.ref a :: rest)) :=
  va_get (ci := 6) (C := RX0) (T := TX0) (N := 3) S.1 S.2.1 S.2.2.2.2 inA_RX0 S.2.2.2.1 hE.1 (g_1 w.1 ha) 0 rfl rfl 1 (by decide) (S.2.2.2.2 _ m_1_55) (fun _ h => h) hv hdg kk
theorem ck_3 : ∀ w ∈ tables_1_3, w ∈ lw_tbl := fun _ h => List.mem_append_right _ (List.mem_append_right _ (List.mem_append_right _ (List.mem_append_left _ h)))
theorem m_3_217 : (Cond.code yX0_fieldsOf cX0_fieldsOf 2 (some .int)) ∈ lwA := lwA_mk (ck_3 _ (List.mem_of_getElem? (i := 217) rfl)) rfl
theorem m_1_2 : (Cond.initialized RX0) ∈ lwA := lwA_mk (ck_1 _ (List.mem_of_getElem? (i := 2) rfl)) rfl
theorem ck_7 : ∀ w ∈ tables_1_7, w ∈ lw_tbl := fun _ h => List.mem_append_right _ (List.mem_append_right _ (List.mem_append_right _ (List.mem_append_right _ (List.mem_append_right _ (List.mem_append_right _ (List.mem_append_right _ (List.mem_append_left _ h)))))))
theorem m_7_95 : (Cond.methodLink RX0 26 yX0_fieldsOf) ∈ lwA := lwA_mk (ck_7 _ (List.mem_of_getElem? (i := 95) rfl)) rfl
theorem m_3_215 : (Cond.instanceMethod yX0_fieldsOf) ∈ lwA := lwA_mk (ck_3 _ (List.mem_of_getElem? (i := 215) rfl)) rfl
theorem m_3_216 : (Cond.selects RX0 yX0_fieldsOf yX0_fieldsOf) ∈ lwA := lwA_mk (ck_3 _ (List.mem_of_getElem? (i := 216) rfl)) rfl
theorem k_RX0_26 {args : Array Value} {s : State} {R rm : Room} (hts : ∀ w ∈ lwA, w.before args s = true) (hR : rm.frames + 1 ≤ R.frames ∧ 8 + (2 + 11) + rm.locals ≤ R.locals) : CallW R s args RX0 RX0 26 yX0_fieldsOf cX0_fieldsOf 2 (some .int) (lwC yX0_fieldsOf cX0_fieldsOf 2 (some .int)) rm rm.cells rm.slots 1 := cwV 1 hts (gdV m_7_95 m_3_215 m_3_216 m_1_2 m_3_217) rfl rfl rfl (by decide +kernel) hR
theorem pf_RX0_18_6 {A9 : Nat → Prop} {H9 : Heap} {fs : List Value} {v : Value} (S : CallFix p m c cc nL s args lwA RX0) (hE : g_E D vwCl (gT ar) (EX1 κ) A9 s H9) (w : g_S D vwCl A H0 G H locs nz) (ha : G a = some (.inr (6, fs))) (hn : narrow .int v = v) (hfit : fits .int v = true) (hl : 2 < fs.length) {fs1 : List Value} (hfs : fs.set 2 v = fs1) (hdg : decode cc pc = .ok (.putfield 18, 3)) (kk : ∀ (H1 : Heap) (locs1 : List Loc), g_S D vwCl A H0 (g_up G a (.inr (6, fs1))) H1 locs1 nz → W p l e R s m args below meth c H1 locs1 cells slots Q (F0 m (pc + 3) ls rest)) : W p l e R s m args below meth c H locs cells slots Q (F0 m pc ls (v :: .ref a :: rest)) :=
  g_put (ci := 6) (ty := .int) (C := RX0) (T := TX0) (N := 3) S.1 S.2.1 S.2.2.2.2 inA_RX0 tyX0 tyX0_ok nmX0 S.2.2.2.1 hE.1 w ha rfl 2 (by decide) (S.2.2.2.2 _ m_1_56) (fun _ h => h) rfl (by decide +kernel) hn hfit hl hdg (fun H1 l1 w1 => kk H1 l1 (by rw [← hfs]; exact w1))
theorem inA_RX3 : ∀ w ∈ u_ws RX3 TX3 7, w ∈ lwA := gA_r _ [124, 126, 128, 130, 132, 134, 136] (by decide +kernel) (by decide +kernel)
theorem m_1_79 : (Cond.fieldLink RX3 28 "Sendhouse$Rows" "count" "I") ∈ lwA := lwA_mk (ck_1 _ (List.mem_of_getElem? (i := 79) rfl)) rfl
theorem gf_RX3_28_9 {A9 : Nat → Prop} {H9 : Heap} {fs : List Value} {v : Value} (S : CallFix p m c cc nL s args lwA RX3) (hE : g_E D vwCl (gT ar) (EX1 κ) A9 s H9) (w : g_S D vwCl A H0 G H locs nz) (ha : G a = some (.inr (9, fs))) (hv : fs[5]? = some v) (hdg : decode cc pc = .ok (.getfield 28, 3)) (kk : W p l e R s m args below meth c H locs cells slots Q (F0 m (pc + 3) ls (v :: rest))) : W p l e R s m args below meth c H locs cells slots Q (F0 m pc ls (.ref a :: rest)) :=
  va_get (ci := 9) (C := RX3) (T := TX3) (N := 7) S.1 S.2.1 S.2.2.2.2 inA_RX3 S.2.2.2.1 hE.1 (g_1 w.1 ha) 0 rfl rfl 5 (by decide) (S.2.2.2.2 _ m_1_79) (fun _ h => h) hv hdg kk
theorem k_RX3_35 {args : Array Value} {s : State} {R rm : Room} (hts : ∀ w ∈ lwA, w.before args s = true) (hN : va_Nw (.methodLinkNest RX3 35 yX8_isBelow "Sendhouse") s) (hR : rm.frames + 1 ≤ R.frames ∧ 8 + (2 + 11) + rm.locals ≤ R.locals) : va_CN R s args RX3 35 yX8_isBelow "Sendhouse" cX8_isBelow 2 (some .boolean) (lwC yX8_isBelow cX8_isBelow 2 (some .boolean)) rm rm.cells rm.slots 2 ∧ (Cond.static yX8_isBelow).before args s = true ∧ True := ⟨va_cnB 2 hts (gd m_2_157) rfl rfl rfl hN (hts _ m_1_1) (by decide +kernel) hR, hts _ m_2_156, trivial⟩
theorem m_1_74 : (Cond.fieldLink RX3 9 "Sendhouse$Rows" "letters" "[C") ∈ lwA := lwA_mk (ck_1 _ (List.mem_of_getElem? (i := 74) rfl)) rfl
theorem gf_RX3_9_9 {A9 : Nat → Prop} {H9 : Heap} {fs : List Value} {v : Value} (S : CallFix p m c cc nL s args lwA RX3) (hE : g_E D vwCl (gT ar) (EX1 κ) A9 s H9) (w : g_S D vwCl A H0 G H locs nz) (ha : G a = some (.inr (9, fs))) (hv : fs[0]? = some v) (hdg : decode cc pc = .ok (.getfield 9, 3)) (kk : W p l e R s m args below meth c H locs cells slots Q (F0 m (pc + 3) ls (v :: rest))) : W p l e R s m args below meth c H locs cells slots Q (F0 m pc ls (.ref a :: rest)) :=
  va_get (ci := 9) (C := RX3) (T := TX3) (N := 7) S.1 S.2.1 S.2.2.2.2 inA_RX3 S.2.2.2.1 hE.1 (g_1 w.1 ha) 0 rfl rfl 0 (by decide) (S.2.2.2.2 _ m_1_74) (fun _ h => h) hv hdg kk
theorem m_1_75 : (Cond.fieldLink RX3 15 "Sendhouse$Rows" "firsts" "[I") ∈ lwA := lwA_mk (ck_1 _ (List.mem_of_getElem? (i := 75) rfl)) rfl
theorem gf_RX3_15_9 {A9 : Nat → Prop} {H9 : Heap} {fs : List Value} {v : Value} (S : CallFix p m c cc nL s args lwA RX3) (hE : g_E D vwCl (gT ar) (EX1 κ) A9 s H9) (w : g_S D vwCl A H0 G H locs nz) (ha : G a = some (.inr (9, fs))) (hv : fs[1]? = some v) (hdg : decode cc pc = .ok (.getfield 15, 3)) (kk : W p l e R s m args below meth c H locs cells slots Q (F0 m (pc + 3) ls (v :: rest))) : W p l e R s m args below meth c H locs cells slots Q (F0 m pc ls (.ref a :: rest)) :=
  va_get (ci := 9) (C := RX3) (T := TX3) (N := 7) S.1 S.2.1 S.2.2.2.2 inA_RX3 S.2.2.2.1 hE.1 (g_1 w.1 ha) 0 rfl rfl 1 (by decide) (S.2.2.2.2 _ m_1_75) (fun _ h => h) hv hdg kk
theorem m_1_76 : (Cond.fieldLink RX3 19 "Sendhouse$Rows" "seconds" "[I") ∈ lwA := lwA_mk (ck_1 _ (List.mem_of_getElem? (i := 76) rfl)) rfl
theorem gf_RX3_19_9 {A9 : Nat → Prop} {H9 : Heap} {fs : List Value} {v : Value} (S : CallFix p m c cc nL s args lwA RX3) (hE : g_E D vwCl (gT ar) (EX1 κ) A9 s H9) (w : g_S D vwCl A H0 G H locs nz) (ha : G a = some (.inr (9, fs))) (hv : fs[2]? = some v) (hdg : decode cc pc = .ok (.getfield 19, 3)) (kk : W p l e R s m args below meth c H locs cells slots Q (F0 m (pc + 3) ls (v :: rest))) : W p l e R s m args below meth c H locs cells slots Q (F0 m pc ls (.ref a :: rest)) :=
  va_get (ci := 9) (C := RX3) (T := TX3) (N := 7) S.1 S.2.1 S.2.2.2.2 inA_RX3 S.2.2.2.1 hE.1 (g_1 w.1 ha) 0 rfl rfl 2 (by decide) (S.2.2.2.2 _ m_1_76) (fun _ h => h) hv hdg kk
theorem pf_RX3_28_9 {A9 : Nat → Prop} {H9 : Heap} {fs : List Value} {v : Value} (S : CallFix p m c cc nL s args lwA RX3) (hE : g_E D vwCl (gT ar) (EX1 κ) A9 s H9) (w : g_S D vwCl A H0 G H locs nz) (ha : G a = some (.inr (9, fs))) (hn : narrow .int v = v) (hfit : fits .int v = true) (hl : 5 < fs.length) {fs1 : List Value} (hfs : fs.set 5 v = fs1) (hdg : decode cc pc = .ok (.putfield 28, 3)) (kk : ∀ (H1 : Heap) (locs1 : List Loc), g_S D vwCl A H0 (g_up G a (.inr (9, fs1))) H1 locs1 nz → W p l e R s m args below meth c H1 locs1 cells slots Q (F0 m (pc + 3) ls rest)) : W p l e R s m args below meth c H locs cells slots Q (F0 m pc ls (v :: .ref a :: rest)) :=
  g_put (ci := 9) (ty := .int) (C := RX3) (T := TX3) (N := 7) S.1 S.2.1 S.2.2.2.2 inA_RX3 tyX3 tyX3_ok nmX3 S.2.2.2.1 hE.1 w ha rfl 5 (by decide) (S.2.2.2.2 _ m_1_79) (fun _ h => h) rfl (by decide +kernel) hn hfit hl hdg (fun H1 l1 w1 => kk H1 l1 (by rw [← hfs]; exact w1))
end SITES
theorem vinB {i b : Int32} {n : Nat} (hb : b = nI n) (hn : n < 2 ^ 31) (h : ¬ isB i b = 0) : vp_in i n := by
  obtain ⟨h1, h2⟩ := isB_n.mp h
  subst hb
  rcases pk_ix i hn with h | h | ⟨j, hj, rfl⟩
  · exact absurd h h1
  · exact absurd h h2
  · exact vp_in_nI hj hn
def pA (f : Nat → Int64) (b : Int32) (i : Int32) : Int64 := if isB i b = 0 then 502511173632 else f i.toNatClampNeg
def aA (f : Nat → Int32) (z : Int32) (i : Int32) : Int32 := if isB i 12 = 0 then z else f i.toNatClampNeg
theorem isB_nar (i b : Int32) : narrow .boolean (.int (isB i b)) = .int (isB i b) := by
  unfold isB
  by_cases h1 : i < 0
  · simp only [h1, if_true]; rfl
  · by_cases h2 : b ≤ i
    · simp only [h1, h2, if_true, if_false]; rfl
    · simp only [h1, h2, if_false]; rfl
set_option maxHeartbeats 4000000 in
set_option maxRecDepth 100000 in
theorem c_X8_placeAt (l : Launch) (D : va_G) (ar : Nat → ClassId) (κ : Nat → Nat) (G : gW) (sz : Nat) (a : Nat) (i : Int32) (n : Nat) (f : Nat → Int64) (ha : G a = some (.inl (ar 1, n, .inr (.inl f)))) (hn : n < 2 ^ 31) : Met l yX8_placeAt (lwC yX8_placeAt cX8_placeAt 2 (some .long)) (rD 2 0 0) (g_Pc D vwCl (gT ar) (EX1 κ) G sz [.ref a, .int i]) (g_Ql D vwCl (g_A G sz) (fun r u => r = pA f (Int32.ofNat n) i ∧ u = (G, sz))) 0 0 (g_A G sz) := by
  refine g_ofW (by decide +kernel) (Nat.le_of_ble_eq_true rfl) ?_
  intro p e s m below meth c ls S hr hlk hin hE w hl
  have hx := S.1
  have hb := S.2.1
  have hl : lv_has ls 2 [(0, .ref a), (1, .int i)] := hl
  refine lv_iload_n hx hb dX8_placeAt_0 rfl (lv_at hl 1 rfl) ?_
  refine lv_aload_n hx hb dX8_placeAt_1 rfl (lv_at hl 0 rfl) ?_
  refine va_alen (v := Int32.ofNat n) hx hb hE.1 (g_1 w.1 ha) 0 1 rfl rfl rfl dX8_placeAt_2 ?_
  refine g_calli w (g_runS (As := [.int i, .int (Int32.ofNat n)]) (rest := []) S hE w hl (c_X8_isBelow l D ar κ G sz i (Int32.ofNat n)) (k_RX8_97 S.2.2.2.2 ⟨Nat.le_of_ble_eq_true rfl, Nat.le_of_ble_eq_true rfl⟩) rfl rfl (Nat.le_of_ble_eq_true rfl) dX8_placeAt_3 ⟨Nat.le_of_ble_eq_true rfl, Nat.le_of_ble_eq_true rfl⟩) (fun r u H locs hp hnz w => ?_)
  obtain ⟨rfl, rfl⟩ := hp
  dsimp only at w
  refine lv_if_eq (tgt := 15) hx hb dX8_placeAt_6 (by decide) (fun c_6 => ?_) (fun c_6 => ?_)
  · refine lv_ldc2 hx hb S.2.2.2.1 (S.2.2.2.2 _ m_1_157) dX8_placeAt_15 ?_
    exact g_lret hx hb hr hlk w (Nat.le_of_ble_eq_true rfl) (Nat.le_of_ble_eq_true rfl) dX8_placeAt_18 ⟨by simp [pA, c_6], rfl⟩
  · refine lv_aload_n hx hb dX8_placeAt_9 rfl (lv_at hl 0 rfl) ?_
    refine lv_iload_n hx hb dX8_placeAt_10 rfl (lv_at hl 1 rfl) ?_
    refine va_lald hx hb hE.1 (g_1 w.1 ha) 0 1 rfl rfl (vinB rfl hn c_6) dX8_placeAt_11 ?_
    refine lv_goto (tgt := 18) hx hb dX8_placeAt_12 (by decide) ?_
    exact g_lret hx hb hr hlk w (Nat.le_of_ble_eq_true rfl) (Nat.le_of_ble_eq_true rfl) dX8_placeAt_18 ⟨by simp [pA, c_6], rfl⟩
set_option maxHeartbeats 4000000 in
set_option maxRecDepth 100000 in
theorem c_X8_putAt (l : Launch) (D : va_G) (ar : Nat → ClassId) (κ : Nat → Nat) (G : gW) (sz : Nat) (a : Nat) (i : Int32) (v : Int64) (n : Nat) (f : Nat → Int64) (ha : G a = some (.inl (ar 1, n, .inr (.inl f)))) (hn : n < 2 ^ 31) (hi : ¬ isB i (Int32.ofNat n) = 0) : Met l yX8_putAt (lwC yX8_putAt cX8_putAt 4 none) (rD 2 0 0) (g_Pc D vwCl (gT ar) (EX1 κ) G sz [.ref a, .int i, .long v]) (g_Qv D vwCl (g_A G sz) (fun u => u = ((g_up G a (.inl (ar 1, n, .inr (.inl (vp_updL f (Int32.toNatClampNeg i) v))))), sz))) 0 0 (g_A G sz) := by
  refine g_ofW (by decide +kernel) (Nat.le_of_ble_eq_true rfl) ?_
  intro p e s m below meth c ls S hr hlk hin hE w hl
  have hx := S.1
  have hb := S.2.1
  have hl : lv_has ls 4 [(0, .ref a), (1, .int i), (2, .long v)] := hl
  refine lv_iload_n hx hb dX8_putAt_0 rfl (lv_at hl 1 rfl) ?_
  refine lv_aload_n hx hb dX8_putAt_1 rfl (lv_at hl 0 rfl) ?_
  refine va_alen (v := Int32.ofNat n) hx hb hE.1 (g_1 w.1 ha) 0 1 rfl rfl rfl dX8_putAt_2 ?_
  refine g_calli w (g_runS (As := [.int i, .int (Int32.ofNat n)]) (rest := []) S hE w hl (c_X8_isBelow l D ar κ G sz i (Int32.ofNat n)) (k_RX8_97 S.2.2.2.2 ⟨Nat.le_of_ble_eq_true rfl, Nat.le_of_ble_eq_true rfl⟩) rfl rfl (Nat.le_of_ble_eq_true rfl) dX8_putAt_3 ⟨Nat.le_of_ble_eq_true rfl, Nat.le_of_ble_eq_true rfl⟩) (fun r u H locs hp hnz w => ?_)
  obtain ⟨rfl, rfl⟩ := hp
  dsimp only at w
  refine lv_if_eq (tgt := 13) hx hb dX8_putAt_6 (by decide) (fun c_6 => absurd c_6 hi) (fun c_6 => ?_)
  refine lv_aload_n hx hb dX8_putAt_9 rfl (lv_at hl 0 rfl) ?_
  refine lv_iload_n hx hb dX8_putAt_10 rfl (lv_at hl 1 rfl) ?_
  refine lv_lload_n hx hb dX8_putAt_11 rfl (lv_at hl 2 rfl) ?_
  refine g_last hx hb hE.1 w 1 ha rfl (vinB rfl hn hi) dX8_putAt_12 (fun H locs w => ?_)
  exact g_vret hx hb hr hlk w (Nat.le_of_ble_eq_true rfl) (Nat.le_of_ble_eq_true rfl) dX8_putAt_13 rfl
set_option maxHeartbeats 4000000 in
set_option maxRecDepth 100000 in
theorem c_X0_has (l : Launch) (D : va_G) (ar : Nat → ClassId) (κ : Nat → Nat) (G : gW) (sz : Nat) (o : Nat) (i : Int32) (a1 : Nat) (a2 : Nat) (k : Int32) (ho : G o = some (.inr (6, [.ref a1, .ref a2, .int k]))) : Met l yX0_has (lwC yX0_has cX0_has 2 (some .boolean)) (rD 2 0 0) (g_Pc D vwCl (gT ar) (EX1 κ) G sz [.ref o, .int i]) (g_Qi D vwCl (g_A G sz) (fun r u => r = isB i k ∧ u = (G, sz))) 0 0 (g_A G sz) := by
  refine g_ofW (by decide +kernel) (Nat.le_of_ble_eq_true rfl) ?_
  intro p e s m below meth c ls S hr hlk hin hE w hl
  have hx := S.1
  have hb := S.2.1
  have hl : lv_has ls 2 [(0, .ref o), (1, .int i)] := hl
  refine lv_iload_n hx hb dX0_has_0 rfl (lv_at hl 1 rfl) ?_
  refine lv_aload_n hx hb dX0_has_1 rfl (lv_at hl 0 rfl) ?_
  refine gf_RX0_18_6 S hE w ho rfl dX0_has_2 ?_
  refine g_calli w (g_runSN (As := [.int i, .int k]) (rest := []) S hE w hl (c_X8_isBelow l D ar κ G sz i k) (k_RX0_22 S.2.2.2.2 (hE.2.1.1 _ (ckN_0 _ (List.mem_of_getElem? (i := 36) rfl))) ⟨Nat.le_of_ble_eq_true rfl, Nat.le_of_ble_eq_true rfl⟩) rfl rfl (Nat.le_of_ble_eq_true rfl) dX0_has_5 ⟨Nat.le_of_ble_eq_true rfl, Nat.le_of_ble_eq_true rfl⟩) (fun r u H locs hp hnz w => ?_)
  obtain ⟨rfl, rfl⟩ := hp
  dsimp only at w
  exact g_zret hx hb hr hlk w (Nat.le_of_ble_eq_true rfl) (Nat.le_of_ble_eq_true rfl) dX0_has_8 (isB_nar _ _) ⟨rfl, rfl⟩
set_option maxHeartbeats 4000000 in
set_option maxRecDepth 100000 in
theorem c_X0_aboveOf (l : Launch) (D : va_G) (ar : Nat → ClassId) (κ : Nat → Nat) (G : gW) (sz : Nat) (o : Nat) (i : Int32) (a1 : Nat) (a2 : Nat) (k : Int32) (f1 : Nat → Int32) (ho : G o = some (.inr (6, [.ref a1, .ref a2, .int k]))) (h1 : G a1 = some (.inl (ar 0, 12, .inl f1))) : Met l yX0_aboveOf (lwC yX0_aboveOf cX0_aboveOf 2 (some .int)) (rD 2 0 0) (g_Pc D vwCl (gT ar) (EX1 κ) G sz [.ref o, .int i]) (g_Qi D vwCl (g_A G sz) (fun r u => r = aA f1 (-1) i ∧ u = (G, sz))) 0 0 (g_A G sz) := by
  refine g_ofW (by decide +kernel) (Nat.le_of_ble_eq_true rfl) ?_
  intro p e s m below meth c ls S hr hlk hin hE w hl
  have hx := S.1
  have hb := S.2.1
  have hl : lv_has ls 2 [(0, .ref o), (1, .int i)] := hl
  refine lv_iload_n hx hb dX0_aboveOf_0 rfl (lv_at hl 1 rfl) ?_
  refine lv_aload_n hx hb dX0_aboveOf_1 rfl (lv_at hl 0 rfl) ?_
  refine gf_RX0_9_6 S hE w ho rfl dX0_aboveOf_2 ?_
  refine va_alen (v := 12) hx hb hE.1 (g_1 w.1 h1) 0 0 rfl rfl rfl dX0_aboveOf_5 ?_
  refine g_calli w (g_runSN (As := [.int i, .int 12]) (rest := []) S hE w hl (c_X8_isBelow l D ar κ G sz i 12) (k_RX0_22 S.2.2.2.2 (hE.2.1.1 _ (ckN_0 _ (List.mem_of_getElem? (i := 36) rfl))) ⟨Nat.le_of_ble_eq_true rfl, Nat.le_of_ble_eq_true rfl⟩) rfl rfl (Nat.le_of_ble_eq_true rfl) dX0_aboveOf_6 ⟨Nat.le_of_ble_eq_true rfl, Nat.le_of_ble_eq_true rfl⟩) (fun r u H locs hp hnz w => ?_)
  obtain ⟨rfl, rfl⟩ := hp
  dsimp only at w
  refine lv_if_eq (tgt := 21) hx hb dX0_aboveOf_9 (by decide) (fun c_9 => ?_) (fun c_9 => ?_)
  · refine lv_iconst (v := (-1)) hx hb dX0_aboveOf_21 (by decide) ?_
    exact g_iret hx hb hr hlk w (Nat.le_of_ble_eq_true rfl) (Nat.le_of_ble_eq_true rfl) dX0_aboveOf_22 ⟨by simp [aA, c_9], rfl⟩
  · refine lv_aload_n hx hb dX0_aboveOf_12 rfl (lv_at hl 0 rfl) ?_
    refine gf_RX0_9_6 S hE w ho rfl dX0_aboveOf_13 ?_
    refine lv_iload_n hx hb dX0_aboveOf_16 rfl (lv_at hl 1 rfl) ?_
    refine va_iald hx hb hE.1 (g_1 w.1 h1) 0 0 rfl rfl (vinB (n := 12) rfl (by decide) c_9) dX0_aboveOf_17 ?_
    refine lv_goto (tgt := 22) hx hb dX0_aboveOf_18 (by decide) ?_
    exact g_iret hx hb hr hlk w (Nat.le_of_ble_eq_true rfl) (Nat.le_of_ble_eq_true rfl) dX0_aboveOf_22 ⟨by simp [aA, c_9], rfl⟩
set_option maxHeartbeats 4000000 in
set_option maxRecDepth 100000 in
theorem c_X0_fieldsOf (l : Launch) (D : va_G) (ar : Nat → ClassId) (κ : Nat → Nat) (G : gW) (sz : Nat) (o : Nat) (i : Int32) (a1 : Nat) (a2 : Nat) (k : Int32) (f2 : Nat → Int32) (ho : G o = some (.inr (6, [.ref a1, .ref a2, .int k]))) (h2 : G a2 = some (.inl (ar 0, 12, .inl f2))) : Met l yX0_fieldsOf (lwC yX0_fieldsOf cX0_fieldsOf 2 (some .int)) (rD 2 0 0) (g_Pc D vwCl (gT ar) (EX1 κ) G sz [.ref o, .int i]) (g_Qi D vwCl (g_A G sz) (fun r u => r = aA f2 0 i ∧ u = (G, sz))) 0 0 (g_A G sz) := by
  refine g_ofW (by decide +kernel) (Nat.le_of_ble_eq_true rfl) ?_
  intro p e s m below meth c ls S hr hlk hin hE w hl
  have hx := S.1
  have hb := S.2.1
  have hl : lv_has ls 2 [(0, .ref o), (1, .int i)] := hl
  refine lv_iload_n hx hb dX0_fieldsOf_0 rfl (lv_at hl 1 rfl) ?_
  refine lv_aload_n hx hb dX0_fieldsOf_1 rfl (lv_at hl 0 rfl) ?_
  refine gf_RX0_15_6 S hE w ho rfl dX0_fieldsOf_2 ?_
  refine va_alen (v := 12) hx hb hE.1 (g_1 w.1 h2) 0 0 rfl rfl rfl dX0_fieldsOf_5 ?_
  refine g_calli w (g_runSN (As := [.int i, .int 12]) (rest := []) S hE w hl (c_X8_isBelow l D ar κ G sz i 12) (k_RX0_22 S.2.2.2.2 (hE.2.1.1 _ (ckN_0 _ (List.mem_of_getElem? (i := 36) rfl))) ⟨Nat.le_of_ble_eq_true rfl, Nat.le_of_ble_eq_true rfl⟩) rfl rfl (Nat.le_of_ble_eq_true rfl) dX0_fieldsOf_6 ⟨Nat.le_of_ble_eq_true rfl, Nat.le_of_ble_eq_true rfl⟩) (fun r u H locs hp hnz w => ?_)
  obtain ⟨rfl, rfl⟩ := hp
  dsimp only at w
  refine lv_if_eq (tgt := 21) hx hb dX0_fieldsOf_9 (by decide) (fun c_9 => ?_) (fun c_9 => ?_)
  · refine lv_iconst (v := 0) hx hb dX0_fieldsOf_21 (by decide) ?_
    exact g_iret hx hb hr hlk w (Nat.le_of_ble_eq_true rfl) (Nat.le_of_ble_eq_true rfl) dX0_fieldsOf_22 ⟨by simp [aA, c_9], rfl⟩
  · refine lv_aload_n hx hb dX0_fieldsOf_12 rfl (lv_at hl 0 rfl) ?_
    refine gf_RX0_15_6 S hE w ho rfl dX0_fieldsOf_13 ?_
    refine lv_iload_n hx hb dX0_fieldsOf_16 rfl (lv_at hl 1 rfl) ?_
    refine va_iald hx hb hE.1 (g_1 w.1 h2) 0 0 rfl rfl (vinB (n := 12) rfl (by decide) c_9) dX0_fieldsOf_17 ?_
    refine lv_goto (tgt := 22) hx hb dX0_fieldsOf_18 (by decide) ?_
    exact g_iret hx hb hr hlk w (Nat.le_of_ble_eq_true rfl) (Nat.le_of_ble_eq_true rfl) dX0_fieldsOf_22 ⟨by simp [aA, c_9], rfl⟩
set_option maxHeartbeats 4000000 in
set_option maxRecDepth 100000 in
theorem c_X0_enlist (l : Launch) (D : va_G) (ar : Nat → ClassId) (κ : Nat → Nat) (G : gW) (sz : Nat) (o : Nat) (i : Int32) (j : Int32) (a1 : Nat) (a2 : Nat) (k : Int32) (f1 : Nat → Int32) (f2 : Nat → Int32) (ho : G o = some (.inr (6, [.ref a1, .ref a2, .int k]))) (h1 : G a1 = some (.inl (ar 0, 12, .inl f1))) (h2 : G a2 = some (.inl (ar 0, 12, .inl f2))) (h12 : a1 ≠ a2) (hk : ¬ isB k 12 = 0) : Met l yX0_enlist (lwC yX0_enlist cX0_enlist 3 (some .int)) (rD 3 0 0) (g_Pc D vwCl (gT ar) (EX1 κ) G sz [.ref o, .int i, .int j]) (g_Qi D vwCl (g_A G sz) (fun r u => r = (k + 1) - 1 ∧ u = ((g_up (g_up (g_up G a1 (.inl (ar 0, 12, .inl (upd f1 (Int32.toNatClampNeg k) i)))) a2 (.inl (ar 0, 12, .inl (upd f2 (Int32.toNatClampNeg k) ((aA f2 0 i) + j))))) o (.inr (6, [.ref a1, .ref a2, .int (k + 1)]))), sz))) 0 0 (g_A G sz) := by
  refine g_ofW (by decide +kernel) (Nat.le_of_ble_eq_true rfl) ?_
  intro p e s m below meth c ls S hr hlk hin hE w hl
  have hx := S.1
  have hb := S.2.1
  have hl : lv_has ls 3 [(0, .ref o), (1, .int i), (2, .int j)] := hl
  refine lv_aload_n hx hb dX0_enlist_0 rfl (lv_at hl 0 rfl) ?_
  refine gf_RX0_18_6 S hE w ho rfl dX0_enlist_1 ?_
  refine lv_bipush (v := 12) hx hb dX0_enlist_4 (by decide) ?_
  refine g_calli w (g_runSN (As := [.int k, .int 12]) (rest := []) S hE w hl (c_X8_isBelow l D ar κ G sz k 12) (k_RX0_22 S.2.2.2.2 (hE.2.1.1 _ (ckN_0 _ (List.mem_of_getElem? (i := 36) rfl))) ⟨Nat.le_of_ble_eq_true rfl, Nat.le_of_ble_eq_true rfl⟩) rfl rfl (Nat.le_of_ble_eq_true rfl) dX0_enlist_6 ⟨Nat.le_of_ble_eq_true rfl, Nat.le_of_ble_eq_true rfl⟩) (fun r u H locs hp hnz w => ?_)
  obtain ⟨rfl, rfl⟩ := hp
  dsimp only at w
  refine lv_if_ne (tgt := 14) hx hb dX0_enlist_9 (by decide) (fun c_9 => ?_) (fun c_9 => absurd c_9 (by simpa using hk))
  refine lv_aload_n hx hb dX0_enlist_14 rfl (lv_at hl 0 rfl) ?_
  refine gf_RX0_9_6 S hE w ho rfl dX0_enlist_15 ?_
  refine lv_aload_n hx hb dX0_enlist_18 rfl (lv_at hl 0 rfl) ?_
  refine gf_RX0_18_6 S hE w ho rfl dX0_enlist_19 ?_
  refine lv_iload_n hx hb dX0_enlist_22 rfl (lv_at hl 1 rfl) ?_
  refine g_iast hx hb hE.1 w 0 h1 rfl (vinB (n := 12) rfl (by decide) hk) dX0_enlist_23 (fun H locs w => ?_)
  refine lv_aload_n hx hb dX0_enlist_24 rfl (lv_at hl 0 rfl) ?_
  refine gf_RX0_15_6 S hE w (g_up_o (g_nx ho h1 (by simp)) ho) rfl dX0_enlist_25 ?_
  refine lv_aload_n hx hb dX0_enlist_28 rfl (lv_at hl 0 rfl) ?_
  refine gf_RX0_18_6 S hE w (g_up_o (g_nx ho h1 (by simp)) ho) rfl dX0_enlist_29 ?_
  refine lv_aload_n hx hb dX0_enlist_32 rfl (lv_at hl 0 rfl) ?_
  refine lv_iload_n hx hb dX0_enlist_33 rfl (lv_at hl 1 rfl) ?_
  refine g_calli w (g_runV (As := [.int i]) (rest := [.int k, .ref a2]) S hE w hl (c_X0_fieldsOf l D ar κ (g_up G a1 (.inl (ar 0, 12, .inl (upd f1 (Int32.toNatClampNeg k) i)))) sz o i a1 a2 k f2 (g_up_o (g_nx ho h1 (by simp)) ho) (g_up_o (by omega) h2)) (k_RX0_26 S.2.2.2.2 ⟨Nat.le_of_ble_eq_true rfl, Nat.le_of_ble_eq_true rfl⟩) (g_up_o (g_nx ho h1 (by simp)) ho) rfl rfl rfl rfl (Nat.le_of_ble_eq_true rfl) dX0_enlist_34 ⟨Nat.le_of_ble_eq_true rfl, Nat.le_of_ble_eq_true rfl⟩) (fun r u H locs hp hnz w => ?_)
  obtain ⟨rfl, rfl⟩ := hp
  dsimp only at w
  refine lv_iload_n hx hb dX0_enlist_37 rfl (lv_at hl 2 rfl) ?_
  refine lv_iadd hx hb dX0_enlist_38 ?_
  refine g_iast hx hb hE.1 w 0 (g_up_o (by omega) h2) rfl (vinB (n := 12) rfl (by decide) hk) dX0_enlist_39 (fun H locs w => ?_)
  refine lv_aload_n hx hb dX0_enlist_40 rfl (lv_at hl 0 rfl) ?_
  refine lv_dup hx hb dX0_enlist_41 rfl ?_
  refine gf_RX0_18_6 S hE w (g_up_o (g_nx ho h2 (by simp)) (g_up_o (g_nx ho h1 (by simp)) ho)) rfl dX0_enlist_42 ?_
  refine lv_iconst (v := 1) hx hb dX0_enlist_45 (by decide) ?_
  refine lv_iadd hx hb dX0_enlist_46 ?_
  refine pf_RX0_18_6 (fs1 := [.ref a1, .ref a2, .int (k + 1)]) S hE w (g_up_o (g_nx ho h2 (by simp)) (g_up_o (g_nx ho h1 (by simp)) ho)) rfl rfl (Nat.le_of_ble_eq_true rfl) rfl dX0_enlist_47 (fun H locs w => ?_)
  refine lv_aload_n hx hb dX0_enlist_50 rfl (lv_at hl 0 rfl) ?_
  refine gf_RX0_18_6 S hE w g_up_s rfl dX0_enlist_51 ?_
  refine lv_iconst (v := 1) hx hb dX0_enlist_54 (by decide) ?_
  refine lv_isub hx hb dX0_enlist_55 ?_
  exact g_iret hx hb hr hlk w (Nat.le_of_ble_eq_true rfl) (Nat.le_of_ble_eq_true rfl) dX0_enlist_56 ⟨rfl, rfl⟩
set_option maxHeartbeats 4000000 in
set_option maxRecDepth 100000 in
theorem c_X3_enlist (l : Launch) (D : va_G) (ar : Nat → ClassId) (κ : Nat → Nat) (G : gW) (sz : Nat) (o : Nat) (x : Int32) (y9 : Int32) (z9 : Int32) (a1 : Nat) (a2 : Nat) (a3 : Nat) (a4 : Nat) (a5 : Nat) (k : Int32) (k2 : Int32) (f1 : Nat → Int32) (f2 : Nat → Int32) (f3 : Nat → Int32) (ho : G o = some (.inr (9, [.ref a1, .ref a2, .ref a3, .ref a4, .ref a5, .int k, .int k2]))) (h1 : G a1 = some (.inl (ar 2, 24, .inl f1))) (h2 : G a2 = some (.inl (ar 0, 24, .inl f2))) (h3 : G a3 = some (.inl (ar 0, 24, .inl f3))) (h12 : a1 ≠ a2) (h13 : a1 ≠ a3) (h23 : a2 ≠ a3) (hk : ¬ isB k 24 = 0) : Met l yX3_enlist (lwC yX3_enlist cX3_enlist 4 none) (rD 2 0 0) (g_Pc D vwCl (gT ar) (EX1 κ) G sz [.ref o, .int x, .int y9, .int z9]) (g_Qv D vwCl (g_A G sz) (fun u => u = ((g_up (g_up (g_up (g_up G a1 (.inl (ar 2, 24, .inl (upd f1 (Int32.toNatClampNeg k) (vp_nar .char x))))) a2 (.inl (ar 0, 24, .inl (upd f2 (Int32.toNatClampNeg k) y9)))) a3 (.inl (ar 0, 24, .inl (upd f3 (Int32.toNatClampNeg k) z9)))) o (.inr (9, [.ref a1, .ref a2, .ref a3, .ref a4, .ref a5, .int (k + 1), .int k2]))), sz))) 0 0 (g_A G sz) := by
  refine g_ofW (by decide +kernel) (Nat.le_of_ble_eq_true rfl) ?_
  intro p e s m below meth c ls S hr hlk hin hE w hl
  have hx := S.1
  have hb := S.2.1
  have hl : lv_has ls 4 [(0, .ref o), (1, .int x), (2, .int y9), (3, .int z9)] := hl
  refine lv_aload_n hx hb dX3_enlist_0 rfl (lv_at hl 0 rfl) ?_
  refine gf_RX3_28_9 S hE w ho rfl dX3_enlist_1 ?_
  refine lv_bipush (v := 24) hx hb dX3_enlist_4 (by decide) ?_
  refine g_calli w (g_runSN (As := [.int k, .int 24]) (rest := []) S hE w hl (c_X8_isBelow l D ar κ G sz k 24) (k_RX3_35 S.2.2.2.2 (hE.2.1.1 _ (ckN_1 _ (List.mem_of_getElem? (i := 8) rfl))) ⟨Nat.le_of_ble_eq_true rfl, Nat.le_of_ble_eq_true rfl⟩) rfl rfl (Nat.le_of_ble_eq_true rfl) dX3_enlist_6 ⟨Nat.le_of_ble_eq_true rfl, Nat.le_of_ble_eq_true rfl⟩) (fun r u H locs hp hnz w => ?_)
  obtain ⟨rfl, rfl⟩ := hp
  dsimp only at w
  refine lv_if_eq (tgt := 52) hx hb dX3_enlist_9 (by decide) (fun c_9 => absurd c_9 hk) (fun c_9 => ?_)
  refine lv_aload_n hx hb dX3_enlist_12 rfl (lv_at hl 0 rfl) ?_
  refine gf_RX3_9_9 S hE w ho rfl dX3_enlist_13 ?_
  refine lv_aload_n hx hb dX3_enlist_16 rfl (lv_at hl 0 rfl) ?_
  refine gf_RX3_28_9 S hE w ho rfl dX3_enlist_17 ?_
  refine lv_iload_n hx hb dX3_enlist_20 rfl (lv_at hl 1 rfl) ?_
  refine g_cast hx hb hE.1 w 2 h1 rfl (vinB (n := 24) rfl (by decide) hk) dX3_enlist_21 (fun H locs w => ?_)
  refine lv_aload_n hx hb dX3_enlist_22 rfl (lv_at hl 0 rfl) ?_
  refine gf_RX3_15_9 S hE w (g_up_o (g_nx ho h1 (by simp)) ho) rfl dX3_enlist_23 ?_
  refine lv_aload_n hx hb dX3_enlist_26 rfl (lv_at hl 0 rfl) ?_
  refine gf_RX3_28_9 S hE w (g_up_o (g_nx ho h1 (by simp)) ho) rfl dX3_enlist_27 ?_
  refine lv_iload_n hx hb dX3_enlist_30 rfl (lv_at hl 2 rfl) ?_
  refine g_iast hx hb hE.1 w 0 (g_up_o (by omega) h2) rfl (vinB (n := 24) rfl (by decide) hk) dX3_enlist_31 (fun H locs w => ?_)
  refine lv_aload_n hx hb dX3_enlist_32 rfl (lv_at hl 0 rfl) ?_
  refine gf_RX3_19_9 S hE w (g_up_o (g_nx ho h2 (by simp)) (g_up_o (g_nx ho h1 (by simp)) ho)) rfl dX3_enlist_33 ?_
  refine lv_aload_n hx hb dX3_enlist_36 rfl (lv_at hl 0 rfl) ?_
  refine gf_RX3_28_9 S hE w (g_up_o (g_nx ho h2 (by simp)) (g_up_o (g_nx ho h1 (by simp)) ho)) rfl dX3_enlist_37 ?_
  refine lv_iload_n hx hb dX3_enlist_40 rfl (lv_at hl 3 rfl) ?_
  refine g_iast hx hb hE.1 w 0 (g_up_o (by omega) (g_up_o (by omega) h3)) rfl (vinB (n := 24) rfl (by decide) hk) dX3_enlist_41 (fun H locs w => ?_)
  refine lv_aload_n hx hb dX3_enlist_42 rfl (lv_at hl 0 rfl) ?_
  refine lv_dup hx hb dX3_enlist_43 rfl ?_
  refine gf_RX3_28_9 S hE w (g_up_o (g_nx ho h3 (by simp)) (g_up_o (g_nx ho h2 (by simp)) (g_up_o (g_nx ho h1 (by simp)) ho))) rfl dX3_enlist_44 ?_
  refine lv_iconst (v := 1) hx hb dX3_enlist_47 (by decide) ?_
  refine lv_iadd hx hb dX3_enlist_48 ?_
  refine pf_RX3_28_9 (fs1 := [.ref a1, .ref a2, .ref a3, .ref a4, .ref a5, .int (k + 1), .int k2]) S hE w (g_up_o (g_nx ho h3 (by simp)) (g_up_o (g_nx ho h2 (by simp)) (g_up_o (g_nx ho h1 (by simp)) ho))) rfl rfl (Nat.le_of_ble_eq_true rfl) rfl dX3_enlist_49 (fun H locs w => ?_)
  exact g_vret hx hb hr hlk w (Nat.le_of_ble_eq_true rfl) (Nat.le_of_ble_eq_true rfl) dX3_enlist_52 rfl
end
section
theorem dX0_init_0 : decode cX0_init 0 = .ok (.aload_n 0, 1) := by decide +kernel
theorem dX0_init_1 : decode cX0_init 1 = .ok (.invokespecial 3, 3) := by decide +kernel
theorem dX0_init_4 : decode cX0_init 4 = .ok (.aload_n 0, 1) := by decide +kernel
theorem dX0_init_5 : decode cX0_init 5 = .ok (.bipush 12, 2) := by decide +kernel
theorem dX0_init_7 : decode cX0_init 7 = .ok (.newarray .int, 2) := by decide +kernel
theorem dX0_init_9 : decode cX0_init 9 = .ok (.putfield 9, 3) := by decide +kernel
theorem dX0_init_12 : decode cX0_init 12 = .ok (.aload_n 0, 1) := by decide +kernel
theorem dX0_init_13 : decode cX0_init 13 = .ok (.bipush 12, 2) := by decide +kernel
theorem dX0_init_15 : decode cX0_init 15 = .ok (.newarray .int, 2) := by decide +kernel
theorem dX0_init_17 : decode cX0_init 17 = .ok (.putfield 15, 3) := by decide +kernel
theorem dX0_init_20 : decode cX0_init 20 = .ok (.aload_n 0, 1) := by decide +kernel
theorem dX0_init_21 : decode cX0_init 21 = .ok (.iconst 3, 1) := by decide +kernel
theorem dX0_init_22 : decode cX0_init 22 = .ok (.putfield 18, 3) := by decide +kernel
theorem dX0_init_25 : decode cX0_init 25 = .ok (.aload_n 0, 1) := by decide +kernel
theorem dX0_init_26 : decode cX0_init 26 = .ok (.getfield 9, 3) := by decide +kernel
theorem dX0_init_29 : decode cX0_init 29 = .ok (.iconst 0, 1) := by decide +kernel
theorem dX0_init_30 : decode cX0_init 30 = .ok (.iconst (-1), 1) := by decide +kernel
theorem dX0_init_31 : decode cX0_init 31 = .ok (.iastore, 1) := by decide +kernel
theorem dX0_init_32 : decode cX0_init 32 = .ok (.return_, 1) := by decide +kernel
theorem dX3_init_0 : decode cX3_init 0 = .ok (.aload_n 0, 1) := by decide +kernel
theorem dX3_init_1 : decode cX3_init 1 = .ok (.invokespecial 3, 3) := by decide +kernel
theorem dX3_init_4 : decode cX3_init 4 = .ok (.aload_n 0, 1) := by decide +kernel
theorem dX3_init_5 : decode cX3_init 5 = .ok (.bipush 24, 2) := by decide +kernel
theorem dX3_init_7 : decode cX3_init 7 = .ok (.newarray .char, 2) := by decide +kernel
theorem dX3_init_9 : decode cX3_init 9 = .ok (.putfield 9, 3) := by decide +kernel
theorem dX3_init_12 : decode cX3_init 12 = .ok (.aload_n 0, 1) := by decide +kernel
theorem dX3_init_13 : decode cX3_init 13 = .ok (.bipush 24, 2) := by decide +kernel
theorem dX3_init_15 : decode cX3_init 15 = .ok (.newarray .int, 2) := by decide +kernel
theorem dX3_init_17 : decode cX3_init 17 = .ok (.putfield 15, 3) := by decide +kernel
theorem dX3_init_20 : decode cX3_init 20 = .ok (.aload_n 0, 1) := by decide +kernel
theorem dX3_init_21 : decode cX3_init 21 = .ok (.bipush 24, 2) := by decide +kernel
theorem dX3_init_23 : decode cX3_init 23 = .ok (.newarray .int, 2) := by decide +kernel
theorem dX3_init_25 : decode cX3_init 25 = .ok (.putfield 19, 3) := by decide +kernel
theorem dX3_init_28 : decode cX3_init 28 = .ok (.aload_n 0, 1) := by decide +kernel
theorem dX3_init_29 : decode cX3_init 29 = .ok (.bipush 24, 2) := by decide +kernel
theorem dX3_init_31 : decode cX3_init 31 = .ok (.newarray .int, 2) := by decide +kernel
theorem dX3_init_33 : decode cX3_init 33 = .ok (.putfield 22, 3) := by decide +kernel
theorem dX3_init_36 : decode cX3_init 36 = .ok (.aload_n 0, 1) := by decide +kernel
theorem dX3_init_37 : decode cX3_init 37 = .ok (.bipush 24, 2) := by decide +kernel
theorem dX3_init_39 : decode cX3_init 39 = .ok (.newarray .int, 2) := by decide +kernel
theorem dX3_init_41 : decode cX3_init 41 = .ok (.putfield 25, 3) := by decide +kernel
theorem dX3_init_44 : decode cX3_init 44 = .ok (.aload_n 0, 1) := by decide +kernel
theorem dX3_init_45 : decode cX3_init 45 = .ok (.iconst 0, 1) := by decide +kernel
theorem dX3_init_46 : decode cX3_init 46 = .ok (.putfield 28, 3) := by decide +kernel
theorem dX3_init_49 : decode cX3_init 49 = .ok (.aload_n 0, 1) := by decide +kernel
theorem dX3_init_50 : decode cX3_init 50 = .ok (.iconst 0, 1) := by decide +kernel
theorem dX3_init_51 : decode cX3_init 51 = .ok (.putfield 32, 3) := by decide +kernel
theorem dX3_init_54 : decode cX3_init 54 = .ok (.return_, 1) := by decide +kernel
theorem dX4_init_0 : decode cX4_init 0 = .ok (.aload_n 0, 1) := by decide +kernel
theorem dX4_init_1 : decode cX4_init 1 = .ok (.invokespecial 3, 3) := by decide +kernel
theorem dX4_init_4 : decode cX4_init 4 = .ok (.aload_n 0, 1) := by decide +kernel
theorem dX4_init_5 : decode cX4_init 5 = .ok (.bipush 8, 2) := by decide +kernel
theorem dX4_init_7 : decode cX4_init 7 = .ok (.newarray .long, 2) := by decide +kernel
theorem dX4_init_9 : decode cX4_init 9 = .ok (.putfield 9, 3) := by decide +kernel
theorem dX4_init_12 : decode cX4_init 12 = .ok (.aload_n 0, 1) := by decide +kernel
theorem dX4_init_13 : decode cX4_init 13 = .ok (.iconst 0, 1) := by decide +kernel
theorem dX4_init_14 : decode cX4_init 14 = .ok (.putfield 15, 3) := by decide +kernel
theorem dX4_init_17 : decode cX4_init 17 = .ok (.aload_n 0, 1) := by decide +kernel
theorem dX4_init_18 : decode cX4_init 18 = .ok (.iconst 0, 1) := by decide +kernel
theorem dX4_init_19 : decode cX4_init 19 = .ok (.putfield 19, 3) := by decide +kernel
theorem dX4_init_22 : decode cX4_init 22 = .ok (.aload_n 0, 1) := by decide +kernel
theorem dX4_init_23 : decode cX4_init 23 = .ok (.iconst 0, 1) := by decide +kernel
theorem dX4_init_24 : decode cX4_init 24 = .ok (.putfield 22, 3) := by decide +kernel
theorem dX4_init_27 : decode cX4_init 27 = .ok (.aload_n 0, 1) := by decide +kernel
theorem dX4_init_28 : decode cX4_init 28 = .ok (.iconst 0, 1) := by decide +kernel
theorem dX4_init_29 : decode cX4_init 29 = .ok (.putfield 25, 3) := by decide +kernel
theorem dX4_init_32 : decode cX4_init 32 = .ok (.return_, 1) := by decide +kernel
theorem dX1_init_0 : decode cX1_init 0 = .ok (.aload_n 0, 1) := by decide +kernel
theorem dX1_init_1 : decode cX1_init 1 = .ok (.invokespecial 3, 3) := by decide +kernel
theorem dX1_init_4 : decode cX1_init 4 = .ok (.aload_n 0, 1) := by decide +kernel
theorem dX1_init_5 : decode cX1_init 5 = .ok (.iconst 2, 1) := by decide +kernel
theorem dX1_init_6 : decode cX1_init 6 = .ok (.newarray .long, 2) := by decide +kernel
theorem dX1_init_8 : decode cX1_init 8 = .ok (.putfield 9, 3) := by decide +kernel
theorem dX1_init_11 : decode cX1_init 11 = .ok (.aload_n 0, 1) := by decide +kernel
theorem dX1_init_12 : decode cX1_init 12 = .ok (.iconst 4, 1) := by decide +kernel
theorem dX1_init_13 : decode cX1_init 13 = .ok (.newarray .long, 2) := by decide +kernel
theorem dX1_init_15 : decode cX1_init 15 = .ok (.putfield 15, 3) := by decide +kernel
theorem dX1_init_18 : decode cX1_init 18 = .ok (.aload_n 0, 1) := by decide +kernel
theorem dX1_init_19 : decode cX1_init 19 = .ok (.bipush 8, 2) := by decide +kernel
theorem dX1_init_21 : decode cX1_init 21 = .ok (.newarray .long, 2) := by decide +kernel
theorem dX1_init_23 : decode cX1_init 23 = .ok (.putfield 18, 3) := by decide +kernel
theorem dX1_init_26 : decode cX1_init 26 = .ok (.aload_n 0, 1) := by decide +kernel
theorem dX1_init_27 : decode cX1_init 27 = .ok (.aconst_null, 1) := by decide +kernel
theorem dX1_init_28 : decode cX1_init 28 = .ok (.putfield 21, 3) := by decide +kernel
theorem dX1_init_31 : decode cX1_init 31 = .ok (.aload_n 0, 1) := by decide +kernel
theorem dX1_init_32 : decode cX1_init 32 = .ok (.ldc2_w 25, 3) := by decide +kernel
theorem dX1_init_35 : decode cX1_init 35 = .ok (.putfield 27, 3) := by decide +kernel
theorem dX1_init_38 : decode cX1_init 38 = .ok (.aload_n 0, 1) := by decide +kernel
theorem dX1_init_39 : decode cX1_init 39 = .ok (.iconst 0, 1) := by decide +kernel
theorem dX1_init_40 : decode cX1_init 40 = .ok (.putfield 31, 3) := by decide +kernel
theorem dX1_init_43 : decode cX1_init 43 = .ok (.aload_n 0, 1) := by decide +kernel
theorem dX1_init_44 : decode cX1_init 44 = .ok (.iconst 0, 1) := by decide +kernel
theorem dX1_init_45 : decode cX1_init 45 = .ok (.putfield 35, 3) := by decide +kernel
theorem dX1_init_48 : decode cX1_init 48 = .ok (.return_, 1) := by decide +kernel
theorem dJxa1e45_init_da8c8_0 : decode cJxa1e45_init_da8c8 0 = .ok (.aload_n 0, 1) := by decide +kernel
theorem dJxa1e45_init_da8c8_1 : decode cJxa1e45_init_da8c8 1 = .ok (.invokespecial 1, 3) := by decide +kernel
theorem dJxa1e45_init_da8c8_4 : decode cJxa1e45_init_da8c8 4 = .ok (.return_, 1) := by decide +kernel
theorem dJxc12de_init_da8c8_0 : decode cJxc12de_init_da8c8 0 = .ok (.aload_n 0, 1) := by decide +kernel
theorem dJxc12de_init_da8c8_1 : decode cJxc12de_init_da8c8 1 = .ok (.invokespecial 1, 3) := by decide +kernel
theorem dJxc12de_init_da8c8_4 : decode cJxc12de_init_da8c8 4 = .ok (.aload_n 0, 1) := by decide +kernel
theorem dJxc12de_init_da8c8_5 : decode cJxc12de_init_da8c8 5 = .ok (.iconst 0, 1) := by decide +kernel
theorem dJxc12de_init_da8c8_6 : decode cJxc12de_init_da8c8 6 = .ok (.putfield 7, 3) := by decide +kernel
theorem dJxc12de_init_da8c8_9 : decode cJxc12de_init_da8c8 9 = .ok (.return_, 1) := by decide +kernel
theorem dJx4a65c_init_da8c8_0 : decode cJx4a65c_init_da8c8 0 = .ok (.aload_n 0, 1) := by decide +kernel
theorem dJx4a65c_init_da8c8_1 : decode cJx4a65c_init_da8c8 1 = .ok (.invokespecial 1, 3) := by decide +kernel
theorem dJx4a65c_init_da8c8_4 : decode cJx4a65c_init_da8c8 4 = .ok (.aload_n 0, 1) := by decide +kernel
theorem dJx4a65c_init_da8c8_5 : decode cJx4a65c_init_da8c8 5 = .ok (.getstatic 39, 3) := by decide +kernel
theorem dJx4a65c_init_da8c8_8 : decode cJx4a65c_init_da8c8 8 = .ok (.putfield 9, 3) := by decide +kernel
theorem dJx4a65c_init_da8c8_11 : decode cJx4a65c_init_da8c8 11 = .ok (.return_, 1) := by decide +kernel
theorem dX7_init_0 : decode cX7_init 0 = .ok (.aload_n 0, 1) := by decide +kernel
theorem dX7_init_1 : decode cX7_init 1 = .ok (.invokespecial 3, 3) := by decide +kernel
theorem dX7_init_4 : decode cX7_init 4 = .ok (.aload_n 0, 1) := by decide +kernel
theorem dX7_init_5 : decode cX7_init 5 = .ok (.new 9, 3) := by decide +kernel
theorem dX7_init_8 : decode cX7_init 8 = .ok (.dup, 1) := by decide +kernel
theorem dX7_init_9 : decode cX7_init 9 = .ok (.invokespecial 11, 3) := by decide +kernel
theorem dX7_init_12 : decode cX7_init 12 = .ok (.putfield 12, 3) := by decide +kernel
theorem dX7_init_15 : decode cX7_init 15 = .ok (.aload_n 0, 1) := by decide +kernel
theorem dX7_init_16 : decode cX7_init 16 = .ok (.iconst 0, 1) := by decide +kernel
theorem dX7_init_17 : decode cX7_init 17 = .ok (.putfield 18, 3) := by decide +kernel
theorem dX7_init_20 : decode cX7_init 20 = .ok (.aload_n 0, 1) := by decide +kernel
theorem dX7_init_21 : decode cX7_init 21 = .ok (.lconst 0, 1) := by decide +kernel
theorem dX7_init_22 : decode cX7_init 22 = .ok (.putfield 22, 3) := by decide +kernel
theorem dX7_init_25 : decode cX7_init 25 = .ok (.aload_n 0, 1) := by decide +kernel
theorem dX7_init_26 : decode cX7_init 26 = .ok (.lconst 1, 1) := by decide +kernel
theorem dX7_init_27 : decode cX7_init 27 = .ok (.putfield 26, 3) := by decide +kernel
theorem dX7_init_30 : decode cX7_init 30 = .ok (.return_, 1) := by decide +kernel
theorem dJ7_fill_d0a16_0 : decode cJ7_fill_d0a16 0 = .ok (.iconst 0, 1) := by decide +kernel
theorem dJ7_fill_d0a16_1 : decode cJ7_fill_d0a16 1 = .ok (.istore_n 3, 1) := by decide +kernel
theorem dJ7_fill_d0a16_2 : decode cJ7_fill_d0a16 2 = .ok (.aload_n 0, 1) := by decide +kernel
theorem dJ7_fill_d0a16_3 : decode cJ7_fill_d0a16 3 = .ok (.arraylength, 1) := by decide +kernel
theorem dJ7_fill_d0a16_4 : decode cJ7_fill_d0a16 4 = .ok (.istore 4, 2) := by decide +kernel
theorem dJ7_fill_d0a16_6 : decode cJ7_fill_d0a16 6 = .ok (.iload_n 3, 1) := by decide +kernel
theorem dJ7_fill_d0a16_7 : decode cJ7_fill_d0a16 7 = .ok (.iload 4, 2) := by decide +kernel
theorem dJ7_fill_d0a16_9 : decode cJ7_fill_d0a16 9 = .ok (.if_icmp .ge 13, 3) := by decide +kernel
theorem dJ7_fill_d0a16_12 : decode cJ7_fill_d0a16 12 = .ok (.aload_n 0, 1) := by decide +kernel
theorem dJ7_fill_d0a16_13 : decode cJ7_fill_d0a16 13 = .ok (.iload_n 3, 1) := by decide +kernel
theorem dJ7_fill_d0a16_14 : decode cJ7_fill_d0a16 14 = .ok (.lload_n 1, 1) := by decide +kernel
theorem dJ7_fill_d0a16_15 : decode cJ7_fill_d0a16 15 = .ok (.lastore, 1) := by decide +kernel
theorem dJ7_fill_d0a16_16 : decode cJ7_fill_d0a16 16 = .ok (.iinc 3 1, 3) := by decide +kernel
theorem dJ7_fill_d0a16_19 : decode cJ7_fill_d0a16 19 = .ok (.goto (-13), 3) := by decide +kernel
theorem dJ7_fill_d0a16_22 : decode cJ7_fill_d0a16 22 = .ok (.return_, 1) := by decide +kernel
section SITES
variable {p : Program} {l : Launch} {e : Env} {R : Room} {s : State} {m : MethodId} {args : Array Value} {below : List Frame} {meth : Method} {c : Code} {H : Heap} {locs : List Loc} {cells slots : Nat} {Q : State → Prop}
variable {pc : Nat} {ls : Array Slot} {rest : List Value} {D : va_G} {ar : Nat → ClassId} {κ : Nat → Nat} {A : Nat → Prop} {a : Nat} {H0 : Heap} {G : gW} {nz nL : Nat} {cc : ByteArray}
theorem m_1_53 : (Cond.methodLink RX0 3 objectInit) ∈ lwA := lwA_mk (ck_1 _ (List.mem_of_getElem? (i := 53) rfl)) rfl
theorem m_1_46 : (Cond.instanceMethod objectInit) ∈ lwA := lwA_mk (ck_1 _ (List.mem_of_getElem? (i := 46) rfl)) rfl
theorem m_obj : (Cond.code objectInit ⟨#[0xb1]⟩ 1 none) ∈ lwA := lwA_mk (ck_1 _ (List.mem_of_getElem? (i := 47) rfl)) rfl
theorem m_1_65 : (Cond.arrayClass .int) ∈ lwA := lwA_mk (ck_1 _ (List.mem_of_getElem? (i := 65) rfl)) rfl
theorem pf_RX0_9_6 {A9 : Nat → Prop} {H9 : Heap} {fs : List Value} {v : Value} (S : CallFix p m c cc nL s args lwA RX0) (hE : g_E D vwCl (gT ar) (EX1 κ) A9 s H9) (hin : meth.name = "<init>") (w : g_S D vwCl A H0 G H locs nz) (ha : G a = some (.inr (6, fs))) (hn : narrow (.array .int) v = v) (hfit : fits (.array .int) v = true) (hl : 0 < fs.length) {fs1 : List Value} (hfs : fs.set 0 v = fs1) (hdg : decode cc pc = .ok (.putfield 9, 3)) (kk : ∀ (H1 : Heap) (locs1 : List Loc), g_S D vwCl A H0 (g_up G a (.inr (6, fs1))) H1 locs1 nz → W p l e R s m args below meth c H1 locs1 cells slots Q (F0 m (pc + 3) ls rest)) : W p l e R s m args below meth c H locs cells slots Q (F0 m pc ls (v :: .ref a :: rest)) :=
  g_putF (ci := 6) (ty := (.array .int)) (C := RX0) (T := TX0) (N := 3) S.1 S.2.1 S.2.2.2.2 inA_RX0 tyX0 tyX0_ok nmX0 S.2.2.2.1 hE.1 w ha rfl 0 (by decide) (S.2.2.2.2 _ m_1_54) (fun _ h => h) rfl hin rfl (by decide +kernel) hn hfit hl hdg (fun H1 l1 w1 => kk H1 l1 (by rw [← hfs]; exact w1))
theorem pf_RX0_15_6 {A9 : Nat → Prop} {H9 : Heap} {fs : List Value} {v : Value} (S : CallFix p m c cc nL s args lwA RX0) (hE : g_E D vwCl (gT ar) (EX1 κ) A9 s H9) (hin : meth.name = "<init>") (w : g_S D vwCl A H0 G H locs nz) (ha : G a = some (.inr (6, fs))) (hn : narrow (.array .int) v = v) (hfit : fits (.array .int) v = true) (hl : 1 < fs.length) {fs1 : List Value} (hfs : fs.set 1 v = fs1) (hdg : decode cc pc = .ok (.putfield 15, 3)) (kk : ∀ (H1 : Heap) (locs1 : List Loc), g_S D vwCl A H0 (g_up G a (.inr (6, fs1))) H1 locs1 nz → W p l e R s m args below meth c H1 locs1 cells slots Q (F0 m (pc + 3) ls rest)) : W p l e R s m args below meth c H locs cells slots Q (F0 m pc ls (v :: .ref a :: rest)) :=
  g_putF (ci := 6) (ty := (.array .int)) (C := RX0) (T := TX0) (N := 3) S.1 S.2.1 S.2.2.2.2 inA_RX0 tyX0 tyX0_ok nmX0 S.2.2.2.1 hE.1 w ha rfl 1 (by decide) (S.2.2.2.2 _ m_1_55) (fun _ h => h) rfl hin rfl (by decide +kernel) hn hfit hl hdg (fun H1 l1 w1 => kk H1 l1 (by rw [← hfs]; exact w1))
theorem m_1_73 : (Cond.methodLink RX3 3 objectInit) ∈ lwA := lwA_mk (ck_1 _ (List.mem_of_getElem? (i := 73) rfl)) rfl
theorem m_1_98 : (Cond.arrayClass .char) ∈ lwA := lwA_mk (ck_1 _ (List.mem_of_getElem? (i := 98) rfl)) rfl
theorem pf_RX3_9_9 {A9 : Nat → Prop} {H9 : Heap} {fs : List Value} {v : Value} (S : CallFix p m c cc nL s args lwA RX3) (hE : g_E D vwCl (gT ar) (EX1 κ) A9 s H9) (hin : meth.name = "<init>") (w : g_S D vwCl A H0 G H locs nz) (ha : G a = some (.inr (9, fs))) (hn : narrow (.array .char) v = v) (hfit : fits (.array .char) v = true) (hl : 0 < fs.length) {fs1 : List Value} (hfs : fs.set 0 v = fs1) (hdg : decode cc pc = .ok (.putfield 9, 3)) (kk : ∀ (H1 : Heap) (locs1 : List Loc), g_S D vwCl A H0 (g_up G a (.inr (9, fs1))) H1 locs1 nz → W p l e R s m args below meth c H1 locs1 cells slots Q (F0 m (pc + 3) ls rest)) : W p l e R s m args below meth c H locs cells slots Q (F0 m pc ls (v :: .ref a :: rest)) :=
  g_putF (ci := 9) (ty := (.array .char)) (C := RX3) (T := TX3) (N := 7) S.1 S.2.1 S.2.2.2.2 inA_RX3 tyX3 tyX3_ok nmX3 S.2.2.2.1 hE.1 w ha rfl 0 (by decide) (S.2.2.2.2 _ m_1_74) (fun _ h => h) rfl hin rfl (by decide +kernel) hn hfit hl hdg (fun H1 l1 w1 => kk H1 l1 (by rw [← hfs]; exact w1))
theorem pf_RX3_15_9 {A9 : Nat → Prop} {H9 : Heap} {fs : List Value} {v : Value} (S : CallFix p m c cc nL s args lwA RX3) (hE : g_E D vwCl (gT ar) (EX1 κ) A9 s H9) (hin : meth.name = "<init>") (w : g_S D vwCl A H0 G H locs nz) (ha : G a = some (.inr (9, fs))) (hn : narrow (.array .int) v = v) (hfit : fits (.array .int) v = true) (hl : 1 < fs.length) {fs1 : List Value} (hfs : fs.set 1 v = fs1) (hdg : decode cc pc = .ok (.putfield 15, 3)) (kk : ∀ (H1 : Heap) (locs1 : List Loc), g_S D vwCl A H0 (g_up G a (.inr (9, fs1))) H1 locs1 nz → W p l e R s m args below meth c H1 locs1 cells slots Q (F0 m (pc + 3) ls rest)) : W p l e R s m args below meth c H locs cells slots Q (F0 m pc ls (v :: .ref a :: rest)) :=
  g_putF (ci := 9) (ty := (.array .int)) (C := RX3) (T := TX3) (N := 7) S.1 S.2.1 S.2.2.2.2 inA_RX3 tyX3 tyX3_ok nmX3 S.2.2.2.1 hE.1 w ha rfl 1 (by decide) (S.2.2.2.2 _ m_1_75) (fun _ h => h) rfl hin rfl (by decide +kernel) hn hfit hl hdg (fun H1 l1 w1 => kk H1 l1 (by rw [← hfs]; exact w1))
theorem pf_RX3_19_9 {A9 : Nat → Prop} {H9 : Heap} {fs : List Value} {v : Value} (S : CallFix p m c cc nL s args lwA RX3) (hE : g_E D vwCl (gT ar) (EX1 κ) A9 s H9) (hin : meth.name = "<init>") (w : g_S D vwCl A H0 G H locs nz) (ha : G a = some (.inr (9, fs))) (hn : narrow (.array .int) v = v) (hfit : fits (.array .int) v = true) (hl : 2 < fs.length) {fs1 : List Value} (hfs : fs.set 2 v = fs1) (hdg : decode cc pc = .ok (.putfield 19, 3)) (kk : ∀ (H1 : Heap) (locs1 : List Loc), g_S D vwCl A H0 (g_up G a (.inr (9, fs1))) H1 locs1 nz → W p l e R s m args below meth c H1 locs1 cells slots Q (F0 m (pc + 3) ls rest)) : W p l e R s m args below meth c H locs cells slots Q (F0 m pc ls (v :: .ref a :: rest)) :=
  g_putF (ci := 9) (ty := (.array .int)) (C := RX3) (T := TX3) (N := 7) S.1 S.2.1 S.2.2.2.2 inA_RX3 tyX3 tyX3_ok nmX3 S.2.2.2.1 hE.1 w ha rfl 2 (by decide) (S.2.2.2.2 _ m_1_76) (fun _ h => h) rfl hin rfl (by decide +kernel) hn hfit hl hdg (fun H1 l1 w1 => kk H1 l1 (by rw [← hfs]; exact w1))
theorem m_1_77 : (Cond.fieldLink RX3 22 "Sendhouse$Rows" "depths" "[I") ∈ lwA := lwA_mk (ck_1 _ (List.mem_of_getElem? (i := 77) rfl)) rfl
theorem pf_RX3_22_9 {A9 : Nat → Prop} {H9 : Heap} {fs : List Value} {v : Value} (S : CallFix p m c cc nL s args lwA RX3) (hE : g_E D vwCl (gT ar) (EX1 κ) A9 s H9) (hin : meth.name = "<init>") (w : g_S D vwCl A H0 G H locs nz) (ha : G a = some (.inr (9, fs))) (hn : narrow (.array .int) v = v) (hfit : fits (.array .int) v = true) (hl : 3 < fs.length) {fs1 : List Value} (hfs : fs.set 3 v = fs1) (hdg : decode cc pc = .ok (.putfield 22, 3)) (kk : ∀ (H1 : Heap) (locs1 : List Loc), g_S D vwCl A H0 (g_up G a (.inr (9, fs1))) H1 locs1 nz → W p l e R s m args below meth c H1 locs1 cells slots Q (F0 m (pc + 3) ls rest)) : W p l e R s m args below meth c H locs cells slots Q (F0 m pc ls (v :: .ref a :: rest)) :=
  g_putF (ci := 9) (ty := (.array .int)) (C := RX3) (T := TX3) (N := 7) S.1 S.2.1 S.2.2.2.2 inA_RX3 tyX3 tyX3_ok nmX3 S.2.2.2.1 hE.1 w ha rfl 3 (by decide) (S.2.2.2.2 _ m_1_77) (fun _ h => h) rfl hin rfl (by decide +kernel) hn hfit hl hdg (fun H1 l1 w1 => kk H1 l1 (by rw [← hfs]; exact w1))
theorem m_1_78 : (Cond.fieldLink RX3 25 "Sendhouse$Rows" "comeTo" "[I") ∈ lwA := lwA_mk (ck_1 _ (List.mem_of_getElem? (i := 78) rfl)) rfl
theorem pf_RX3_25_9 {A9 : Nat → Prop} {H9 : Heap} {fs : List Value} {v : Value} (S : CallFix p m c cc nL s args lwA RX3) (hE : g_E D vwCl (gT ar) (EX1 κ) A9 s H9) (hin : meth.name = "<init>") (w : g_S D vwCl A H0 G H locs nz) (ha : G a = some (.inr (9, fs))) (hn : narrow (.array .int) v = v) (hfit : fits (.array .int) v = true) (hl : 4 < fs.length) {fs1 : List Value} (hfs : fs.set 4 v = fs1) (hdg : decode cc pc = .ok (.putfield 25, 3)) (kk : ∀ (H1 : Heap) (locs1 : List Loc), g_S D vwCl A H0 (g_up G a (.inr (9, fs1))) H1 locs1 nz → W p l e R s m args below meth c H1 locs1 cells slots Q (F0 m (pc + 3) ls rest)) : W p l e R s m args below meth c H locs cells slots Q (F0 m pc ls (v :: .ref a :: rest)) :=
  g_putF (ci := 9) (ty := (.array .int)) (C := RX3) (T := TX3) (N := 7) S.1 S.2.1 S.2.2.2.2 inA_RX3 tyX3 tyX3_ok nmX3 S.2.2.2.1 hE.1 w ha rfl 4 (by decide) (S.2.2.2.2 _ m_1_78) (fun _ h => h) rfl hin rfl (by decide +kernel) hn hfit hl hdg (fun H1 l1 w1 => kk H1 l1 (by rw [← hfs]; exact w1))
theorem m_1_81 : (Cond.fieldLink RX3 32 "Sendhouse$Rows" "comeToCount" "I") ∈ lwA := lwA_mk (ck_1 _ (List.mem_of_getElem? (i := 81) rfl)) rfl
theorem pf_RX3_32_9 {A9 : Nat → Prop} {H9 : Heap} {fs : List Value} {v : Value} (S : CallFix p m c cc nL s args lwA RX3) (hE : g_E D vwCl (gT ar) (EX1 κ) A9 s H9) (w : g_S D vwCl A H0 G H locs nz) (ha : G a = some (.inr (9, fs))) (hn : narrow .int v = v) (hfit : fits .int v = true) (hl : 6 < fs.length) {fs1 : List Value} (hfs : fs.set 6 v = fs1) (hdg : decode cc pc = .ok (.putfield 32, 3)) (kk : ∀ (H1 : Heap) (locs1 : List Loc), g_S D vwCl A H0 (g_up G a (.inr (9, fs1))) H1 locs1 nz → W p l e R s m args below meth c H1 locs1 cells slots Q (F0 m (pc + 3) ls rest)) : W p l e R s m args below meth c H locs cells slots Q (F0 m pc ls (v :: .ref a :: rest)) :=
  g_put (ci := 9) (ty := .int) (C := RX3) (T := TX3) (N := 7) S.1 S.2.1 S.2.2.2.2 inA_RX3 tyX3 tyX3_ok nmX3 S.2.2.2.1 hE.1 w ha rfl 6 (by decide) (S.2.2.2.2 _ m_1_81) (fun _ h => h) rfl (by decide +kernel) hn hfit hl hdg (fun H1 l1 w1 => kk H1 l1 (by rw [← hfs]; exact w1))
theorem m_1_111 : (Cond.methodLink RX4 3 objectInit) ∈ lwA := lwA_mk (ck_1 _ (List.mem_of_getElem? (i := 111) rfl)) rfl
theorem m_1_137 : (Cond.arrayClass .long) ∈ lwA := lwA_mk (ck_1 _ (List.mem_of_getElem? (i := 137) rfl)) rfl
theorem inA_RX4 : ∀ w ∈ u_ws RX4 TX4 5, w ∈ lwA := gA_r _ [167, 169, 171, 173, 175] (by decide +kernel) (by decide +kernel)
theorem m_1_112 : (Cond.fieldLink RX4 9 "Sendhouse$Thing" "places" "[J") ∈ lwA := lwA_mk (ck_1 _ (List.mem_of_getElem? (i := 112) rfl)) rfl
theorem pf_RX4_9_10 {A9 : Nat → Prop} {H9 : Heap} {fs : List Value} {v : Value} (S : CallFix p m c cc nL s args lwA RX4) (hE : g_E D vwCl (gT ar) (EX1 κ) A9 s H9) (hin : meth.name = "<init>") (w : g_S D vwCl A H0 G H locs nz) (ha : G a = some (.inr (10, fs))) (hn : narrow (.array .long) v = v) (hfit : fits (.array .long) v = true) (hl : 0 < fs.length) {fs1 : List Value} (hfs : fs.set 0 v = fs1) (hdg : decode cc pc = .ok (.putfield 9, 3)) (kk : ∀ (H1 : Heap) (locs1 : List Loc), g_S D vwCl A H0 (g_up G a (.inr (10, fs1))) H1 locs1 nz → W p l e R s m args below meth c H1 locs1 cells slots Q (F0 m (pc + 3) ls rest)) : W p l e R s m args below meth c H locs cells slots Q (F0 m pc ls (v :: .ref a :: rest)) :=
  g_putF (ci := 10) (ty := (.array .long)) (C := RX4) (T := TX4) (N := 5) S.1 S.2.1 S.2.2.2.2 inA_RX4 tyX4 tyX4_ok nmX4 S.2.2.2.1 hE.1 w ha rfl 0 (by decide) (S.2.2.2.2 _ m_1_112) (fun _ h => h) rfl hin rfl (by decide +kernel) hn hfit hl hdg (fun H1 l1 w1 => kk H1 l1 (by rw [← hfs]; exact w1))
theorem m_1_115 : (Cond.fieldLink RX4 15 "Sendhouse$Thing" "number" "I") ∈ lwA := lwA_mk (ck_1 _ (List.mem_of_getElem? (i := 115) rfl)) rfl
theorem pf_RX4_15_10 {A9 : Nat → Prop} {H9 : Heap} {fs : List Value} {v : Value} (S : CallFix p m c cc nL s args lwA RX4) (hE : g_E D vwCl (gT ar) (EX1 κ) A9 s H9) (w : g_S D vwCl A H0 G H locs nz) (ha : G a = some (.inr (10, fs))) (hn : narrow .int v = v) (hfit : fits .int v = true) (hl : 1 < fs.length) {fs1 : List Value} (hfs : fs.set 1 v = fs1) (hdg : decode cc pc = .ok (.putfield 15, 3)) (kk : ∀ (H1 : Heap) (locs1 : List Loc), g_S D vwCl A H0 (g_up G a (.inr (10, fs1))) H1 locs1 nz → W p l e R s m args below meth c H1 locs1 cells slots Q (F0 m (pc + 3) ls rest)) : W p l e R s m args below meth c H locs cells slots Q (F0 m pc ls (v :: .ref a :: rest)) :=
  g_put (ci := 10) (ty := .int) (C := RX4) (T := TX4) (N := 5) S.1 S.2.1 S.2.2.2.2 inA_RX4 tyX4 tyX4_ok nmX4 S.2.2.2.1 hE.1 w ha rfl 1 (by decide) (S.2.2.2.2 _ m_1_115) (fun _ h => h) rfl (by decide +kernel) hn hfit hl hdg (fun H1 l1 w1 => kk H1 l1 (by rw [← hfs]; exact w1))
theorem m_1_118 : (Cond.fieldLink RX4 19 "Sendhouse$Thing" "cls" "I") ∈ lwA := lwA_mk (ck_1 _ (List.mem_of_getElem? (i := 118) rfl)) rfl
theorem pf_RX4_19_10 {A9 : Nat → Prop} {H9 : Heap} {fs : List Value} {v : Value} (S : CallFix p m c cc nL s args lwA RX4) (hE : g_E D vwCl (gT ar) (EX1 κ) A9 s H9) (w : g_S D vwCl A H0 G H locs nz) (ha : G a = some (.inr (10, fs))) (hn : narrow .int v = v) (hfit : fits .int v = true) (hl : 2 < fs.length) {fs1 : List Value} (hfs : fs.set 2 v = fs1) (hdg : decode cc pc = .ok (.putfield 19, 3)) (kk : ∀ (H1 : Heap) (locs1 : List Loc), g_S D vwCl A H0 (g_up G a (.inr (10, fs1))) H1 locs1 nz → W p l e R s m args below meth c H1 locs1 cells slots Q (F0 m (pc + 3) ls rest)) : W p l e R s m args below meth c H locs cells slots Q (F0 m pc ls (v :: .ref a :: rest)) :=
  g_put (ci := 10) (ty := .int) (C := RX4) (T := TX4) (N := 5) S.1 S.2.1 S.2.2.2.2 inA_RX4 tyX4 tyX4_ok nmX4 S.2.2.2.1 hE.1 w ha rfl 2 (by decide) (S.2.2.2.2 _ m_1_118) (fun _ h => h) rfl (by decide +kernel) hn hfit hl hdg (fun H1 l1 w1 => kk H1 l1 (by rw [← hfs]; exact w1))
theorem m_1_121 : (Cond.fieldLink RX4 22 "Sendhouse$Thing" "size" "I") ∈ lwA := lwA_mk (ck_1 _ (List.mem_of_getElem? (i := 121) rfl)) rfl
theorem pf_RX4_22_10 {A9 : Nat → Prop} {H9 : Heap} {fs : List Value} {v : Value} (S : CallFix p m c cc nL s args lwA RX4) (hE : g_E D vwCl (gT ar) (EX1 κ) A9 s H9) (w : g_S D vwCl A H0 G H locs nz) (ha : G a = some (.inr (10, fs))) (hn : narrow .int v = v) (hfit : fits .int v = true) (hl : 3 < fs.length) {fs1 : List Value} (hfs : fs.set 3 v = fs1) (hdg : decode cc pc = .ok (.putfield 22, 3)) (kk : ∀ (H1 : Heap) (locs1 : List Loc), g_S D vwCl A H0 (g_up G a (.inr (10, fs1))) H1 locs1 nz → W p l e R s m args below meth c H1 locs1 cells slots Q (F0 m (pc + 3) ls rest)) : W p l e R s m args below meth c H locs cells slots Q (F0 m pc ls (v :: .ref a :: rest)) :=
  g_put (ci := 10) (ty := .int) (C := RX4) (T := TX4) (N := 5) S.1 S.2.1 S.2.2.2.2 inA_RX4 tyX4 tyX4_ok nmX4 S.2.2.2.1 hE.1 w ha rfl 3 (by decide) (S.2.2.2.2 _ m_1_121) (fun _ h => h) rfl (by decide +kernel) hn hfit hl hdg (fun H1 l1 w1 => kk H1 l1 (by rw [← hfs]; exact w1))
theorem m_1_124 : (Cond.fieldLink RX4 25 "Sendhouse$Thing" "reached" "Z") ∈ lwA := lwA_mk (ck_1 _ (List.mem_of_getElem? (i := 124) rfl)) rfl
theorem pf_RX4_25_10 {A9 : Nat → Prop} {H9 : Heap} {fs : List Value} {v : Value} (S : CallFix p m c cc nL s args lwA RX4) (hE : g_E D vwCl (gT ar) (EX1 κ) A9 s H9) (w : g_S D vwCl A H0 G H locs nz) (ha : G a = some (.inr (10, fs))) (hn : narrow .boolean v = v) (hfit : fits .boolean v = true) (hl : 4 < fs.length) {fs1 : List Value} (hfs : fs.set 4 v = fs1) (hdg : decode cc pc = .ok (.putfield 25, 3)) (kk : ∀ (H1 : Heap) (locs1 : List Loc), g_S D vwCl A H0 (g_up G a (.inr (10, fs1))) H1 locs1 nz → W p l e R s m args below meth c H1 locs1 cells slots Q (F0 m (pc + 3) ls rest)) : W p l e R s m args below meth c H locs cells slots Q (F0 m pc ls (v :: .ref a :: rest)) :=
  g_put (ci := 10) (ty := .boolean) (C := RX4) (T := TX4) (N := 5) S.1 S.2.1 S.2.2.2.2 inA_RX4 tyX4 tyX4_ok nmX4 S.2.2.2.1 hE.1 w ha rfl 4 (by decide) (S.2.2.2.2 _ m_1_124) (fun _ h => h) rfl (by decide +kernel) hn hfit hl hdg (fun H1 l1 w1 => kk H1 l1 (by rw [← hfs]; exact w1))
theorem m_1_216 : (Cond.methodLink RX1 3 objectInit) ∈ lwA := lwA_mk (ck_1 _ (List.mem_of_getElem? (i := 216) rfl)) rfl
theorem inA_RX1 : ∀ w ∈ u_ws RX1 TX1 7, w ∈ lwA := gA_r _ [271, 273, 275, 277, 279, 281, 283] (by decide +kernel) (by decide +kernel)
theorem m_1_218 : (Cond.fieldLink RX1 9 "Sendhouse$Frame" "arguments" "[J") ∈ lwA := lwA_mk (ck_1 _ (List.mem_of_getElem? (i := 218) rfl)) rfl
theorem pf_RX1_9_7 {A9 : Nat → Prop} {H9 : Heap} {fs : List Value} {v : Value} (S : CallFix p m c cc nL s args lwA RX1) (hE : g_E D vwCl (gT ar) (EX1 κ) A9 s H9) (hin : meth.name = "<init>") (w : g_S D vwCl A H0 G H locs nz) (ha : G a = some (.inr (7, fs))) (hn : narrow (.array .long) v = v) (hfit : fits (.array .long) v = true) (hl : 0 < fs.length) {fs1 : List Value} (hfs : fs.set 0 v = fs1) (hdg : decode cc pc = .ok (.putfield 9, 3)) (kk : ∀ (H1 : Heap) (locs1 : List Loc), g_S D vwCl A H0 (g_up G a (.inr (7, fs1))) H1 locs1 nz → W p l e R s m args below meth c H1 locs1 cells slots Q (F0 m (pc + 3) ls rest)) : W p l e R s m args below meth c H locs cells slots Q (F0 m pc ls (v :: .ref a :: rest)) :=
  g_putF (ci := 7) (ty := (.array .long)) (C := RX1) (T := TX1) (N := 7) S.1 S.2.1 S.2.2.2.2 inA_RX1 tyX1 tyX1_ok nmX1 S.2.2.2.1 hE.1 w ha rfl 0 (by decide) (S.2.2.2.2 _ m_1_218) (fun _ h => h) rfl hin rfl (by decide +kernel) hn hfit hl hdg (fun H1 l1 w1 => kk H1 l1 (by rw [← hfs]; exact w1))
theorem m_1_220 : (Cond.fieldLink RX1 15 "Sendhouse$Frame" "temporaries" "[J") ∈ lwA := lwA_mk (ck_1 _ (List.mem_of_getElem? (i := 220) rfl)) rfl
theorem pf_RX1_15_7 {A9 : Nat → Prop} {H9 : Heap} {fs : List Value} {v : Value} (S : CallFix p m c cc nL s args lwA RX1) (hE : g_E D vwCl (gT ar) (EX1 κ) A9 s H9) (hin : meth.name = "<init>") (w : g_S D vwCl A H0 G H locs nz) (ha : G a = some (.inr (7, fs))) (hn : narrow (.array .long) v = v) (hfit : fits (.array .long) v = true) (hl : 1 < fs.length) {fs1 : List Value} (hfs : fs.set 1 v = fs1) (hdg : decode cc pc = .ok (.putfield 15, 3)) (kk : ∀ (H1 : Heap) (locs1 : List Loc), g_S D vwCl A H0 (g_up G a (.inr (7, fs1))) H1 locs1 nz → W p l e R s m args below meth c H1 locs1 cells slots Q (F0 m (pc + 3) ls rest)) : W p l e R s m args below meth c H locs cells slots Q (F0 m pc ls (v :: .ref a :: rest)) :=
  g_putF (ci := 7) (ty := (.array .long)) (C := RX1) (T := TX1) (N := 7) S.1 S.2.1 S.2.2.2.2 inA_RX1 tyX1 tyX1_ok nmX1 S.2.2.2.1 hE.1 w ha rfl 1 (by decide) (S.2.2.2.2 _ m_1_220) (fun _ h => h) rfl hin rfl (by decide +kernel) hn hfit hl hdg (fun H1 l1 w1 => kk H1 l1 (by rw [← hfs]; exact w1))
theorem m_1_222 : (Cond.fieldLink RX1 18 "Sendhouse$Frame" "pile" "[J") ∈ lwA := lwA_mk (ck_1 _ (List.mem_of_getElem? (i := 222) rfl)) rfl
theorem pf_RX1_18_7 {A9 : Nat → Prop} {H9 : Heap} {fs : List Value} {v : Value} (S : CallFix p m c cc nL s args lwA RX1) (hE : g_E D vwCl (gT ar) (EX1 κ) A9 s H9) (hin : meth.name = "<init>") (w : g_S D vwCl A H0 G H locs nz) (ha : G a = some (.inr (7, fs))) (hn : narrow (.array .long) v = v) (hfit : fits (.array .long) v = true) (hl : 2 < fs.length) {fs1 : List Value} (hfs : fs.set 2 v = fs1) (hdg : decode cc pc = .ok (.putfield 18, 3)) (kk : ∀ (H1 : Heap) (locs1 : List Loc), g_S D vwCl A H0 (g_up G a (.inr (7, fs1))) H1 locs1 nz → W p l e R s m args below meth c H1 locs1 cells slots Q (F0 m (pc + 3) ls rest)) : W p l e R s m args below meth c H locs cells slots Q (F0 m pc ls (v :: .ref a :: rest)) :=
  g_putF (ci := 7) (ty := (.array .long)) (C := RX1) (T := TX1) (N := 7) S.1 S.2.1 S.2.2.2.2 inA_RX1 tyX1 tyX1_ok nmX1 S.2.2.2.1 hE.1 w ha rfl 2 (by decide) (S.2.2.2.2 _ m_1_222) (fun _ h => h) rfl hin rfl (by decide +kernel) hn hfit hl hdg (fun H1 l1 w1 => kk H1 l1 (by rw [← hfs]; exact w1))
theorem m_1_223 : (Cond.fieldLink RX1 21 "Sendhouse$Frame" "told" "LSendhouse$Told;") ∈ lwA := lwA_mk (ck_1 _ (List.mem_of_getElem? (i := 223) rfl)) rfl
theorem pf_RX1_21_7 {A9 : Nat → Prop} {H9 : Heap} {fs : List Value} {v : Value} (S : CallFix p m c cc nL s args lwA RX1) (hE : g_E D vwCl (gT ar) (EX1 κ) A9 s H9) (w : g_S D vwCl A H0 G H locs nz) (ha : G a = some (.inr (7, fs))) (hn : narrow (.object "Sendhouse$Told") v = v) (hfit : fits (.object "Sendhouse$Told") v = true) (hl : 3 < fs.length) {fs1 : List Value} (hfs : fs.set 3 v = fs1) (hdg : decode cc pc = .ok (.putfield 21, 3)) (kk : ∀ (H1 : Heap) (locs1 : List Loc), g_S D vwCl A H0 (g_up G a (.inr (7, fs1))) H1 locs1 nz → W p l e R s m args below meth c H1 locs1 cells slots Q (F0 m (pc + 3) ls rest)) : W p l e R s m args below meth c H locs cells slots Q (F0 m pc ls (v :: .ref a :: rest)) :=
  g_put (ci := 7) (ty := (.object "Sendhouse$Told")) (C := RX1) (T := TX1) (N := 7) S.1 S.2.1 S.2.2.2.2 inA_RX1 tyX1 tyX1_ok nmX1 S.2.2.2.1 hE.1 w ha rfl 3 (by decide) (S.2.2.2.2 _ m_1_223) (fun _ h => h) rfl (by decide +kernel) hn hfit hl hdg (fun H1 l1 w1 => kk H1 l1 (by rw [← hfs]; exact w1))
theorem m_1_217 : (Cond.constantLong RX1 25 (502511173632)) ∈ lwA := lwA_mk (ck_1 _ (List.mem_of_getElem? (i := 217) rfl)) rfl
theorem m_1_224 : (Cond.fieldLink RX1 27 "Sendhouse$Frame" "receiver" "J") ∈ lwA := lwA_mk (ck_1 _ (List.mem_of_getElem? (i := 224) rfl)) rfl
theorem pf_RX1_27_7 {A9 : Nat → Prop} {H9 : Heap} {fs : List Value} {v : Value} (S : CallFix p m c cc nL s args lwA RX1) (hE : g_E D vwCl (gT ar) (EX1 κ) A9 s H9) (w : g_S D vwCl A H0 G H locs nz) (ha : G a = some (.inr (7, fs))) (hn : narrow .long v = v) (hfit : fits .long v = true) (hl : 4 < fs.length) {fs1 : List Value} (hfs : fs.set 4 v = fs1) (hdg : decode cc pc = .ok (.putfield 27, 3)) (kk : ∀ (H1 : Heap) (locs1 : List Loc), g_S D vwCl A H0 (g_up G a (.inr (7, fs1))) H1 locs1 nz → W p l e R s m args below meth c H1 locs1 cells slots Q (F0 m (pc + 3) ls rest)) : W p l e R s m args below meth c H locs cells slots Q (F0 m pc ls (v :: .ref a :: rest)) :=
  g_put (ci := 7) (ty := .long) (C := RX1) (T := TX1) (N := 7) S.1 S.2.1 S.2.2.2.2 inA_RX1 tyX1 tyX1_ok nmX1 S.2.2.2.1 hE.1 w ha rfl 4 (by decide) (S.2.2.2.2 _ m_1_224) (fun _ h => h) rfl (by decide +kernel) hn hfit hl hdg (fun H1 l1 w1 => kk H1 l1 (by rw [← hfs]; exact w1))
theorem m_1_226 : (Cond.fieldLink RX1 31 "Sendhouse$Frame" "row" "I") ∈ lwA := lwA_mk (ck_1 _ (List.mem_of_getElem? (i := 226) rfl)) rfl
theorem pf_RX1_31_7 {A9 : Nat → Prop} {H9 : Heap} {fs : List Value} {v : Value} (S : CallFix p m c cc nL s args lwA RX1) (hE : g_E D vwCl (gT ar) (EX1 κ) A9 s H9) (w : g_S D vwCl A H0 G H locs nz) (ha : G a = some (.inr (7, fs))) (hn : narrow .int v = v) (hfit : fits .int v = true) (hl : 5 < fs.length) {fs1 : List Value} (hfs : fs.set 5 v = fs1) (hdg : decode cc pc = .ok (.putfield 31, 3)) (kk : ∀ (H1 : Heap) (locs1 : List Loc), g_S D vwCl A H0 (g_up G a (.inr (7, fs1))) H1 locs1 nz → W p l e R s m args below meth c H1 locs1 cells slots Q (F0 m (pc + 3) ls rest)) : W p l e R s m args below meth c H locs cells slots Q (F0 m pc ls (v :: .ref a :: rest)) :=
  g_put (ci := 7) (ty := .int) (C := RX1) (T := TX1) (N := 7) S.1 S.2.1 S.2.2.2.2 inA_RX1 tyX1 tyX1_ok nmX1 S.2.2.2.1 hE.1 w ha rfl 5 (by decide) (S.2.2.2.2 _ m_1_226) (fun _ h => h) rfl (by decide +kernel) hn hfit hl hdg (fun H1 l1 w1 => kk H1 l1 (by rw [← hfs]; exact w1))
theorem m_1_228 : (Cond.fieldLink RX1 35 "Sendhouse$Frame" "depth" "I") ∈ lwA := lwA_mk (ck_1 _ (List.mem_of_getElem? (i := 228) rfl)) rfl
theorem pf_RX1_35_7 {A9 : Nat → Prop} {H9 : Heap} {fs : List Value} {v : Value} (S : CallFix p m c cc nL s args lwA RX1) (hE : g_E D vwCl (gT ar) (EX1 κ) A9 s H9) (w : g_S D vwCl A H0 G H locs nz) (ha : G a = some (.inr (7, fs))) (hn : narrow .int v = v) (hfit : fits .int v = true) (hl : 6 < fs.length) {fs1 : List Value} (hfs : fs.set 6 v = fs1) (hdg : decode cc pc = .ok (.putfield 35, 3)) (kk : ∀ (H1 : Heap) (locs1 : List Loc), g_S D vwCl A H0 (g_up G a (.inr (7, fs1))) H1 locs1 nz → W p l e R s m args below meth c H1 locs1 cells slots Q (F0 m (pc + 3) ls rest)) : W p l e R s m args below meth c H locs cells slots Q (F0 m pc ls (v :: .ref a :: rest)) :=
  g_put (ci := 7) (ty := .int) (C := RX1) (T := TX1) (N := 7) S.1 S.2.1 S.2.2.2.2 inA_RX1 tyX1 tyX1_ok nmX1 S.2.2.2.1 hE.1 w ha rfl 6 (by decide) (S.2.2.2.2 _ m_1_228) (fun _ h => h) rfl (by decide +kernel) hn hfit hl hdg (fun H1 l1 w1 => kk H1 l1 (by rw [← hfs]; exact w1))
theorem m_1_175 : (Cond.methodLink RJxa1e45 1 objectInit) ∈ lwA := lwA_mk (ck_1 _ (List.mem_of_getElem? (i := 175) rfl)) rfl
theorem m_1_174 : (Cond.code yJxa1e45_init_da8c8 cJxa1e45_init_da8c8 1 none) ∈ lwA := lwA_mk (ck_1 _ (List.mem_of_getElem? (i := 174) rfl)) rfl
theorem m_1_7 : (Cond.initialized RJxa1e45) ∈ lwA := lwA_mk (ck_1 _ (List.mem_of_getElem? (i := 7) rfl)) rfl
theorem m_1_172 : (Cond.methodLink RJxc12de 1 yJxa1e45_init_da8c8) ∈ lwA := lwA_mk (ck_1 _ (List.mem_of_getElem? (i := 172) rfl)) rfl
theorem m_1_173 : (Cond.instanceMethod yJxa1e45_init_da8c8) ∈ lwA := lwA_mk (ck_1 _ (List.mem_of_getElem? (i := 173) rfl)) rfl
theorem k_RJxc12de_1 {args : Array Value} {s : State} {R rm : Room} (hts : ∀ w ∈ lwA, w.before args s = true) (hR : rm.frames + 1 ≤ R.frames ∧ 8 + (1 + 11) + rm.locals ≤ R.locals) : CallB R s args RJxc12de 1 yJxa1e45_init_da8c8 cJxa1e45_init_da8c8 1 none (lwC yJxa1e45_init_da8c8 cJxa1e45_init_da8c8 1 none) rm rm.cells rm.slots 0 ∧ yJxa1e45_init_da8c8.name = "<init>" ∧ (Cond.instanceMethod yJxa1e45_init_da8c8).before args s = true := cwI 0 hts (gd m_1_174) rfl rfl rfl (hts _ m_1_7) (hts _ m_1_172) (hts _ m_1_173) rfl (by decide +kernel) hR
theorem inA_RJx4a65c : ∀ w ∈ u_ws RJx4a65c TJx4a65c 3, w ∈ lwA := gA_r _ [232, 228, 230] (by decide +kernel) (by decide +kernel)
theorem m_1_181 : (Cond.fieldLink RJxc12de 7 "java/util/AbstractList" "modCount" "I") ∈ lwA := lwA_mk (ck_1 _ (List.mem_of_getElem? (i := 181) rfl)) rfl
theorem pf_RJxc12de_7_5 {A9 : Nat → Prop} {H9 : Heap} {fs : List Value} {v : Value} (S : CallFix p m c cc nL s args lwA RJxc12de) (hE : g_E D vwCl (gT ar) (EX1 κ) A9 s H9) (w : g_S D vwCl A H0 G H locs nz) (ha : G a = some (.inr (5, fs))) (hn : narrow .int v = v) (hfit : fits .int v = true) (hl : 0 < fs.length) {fs1 : List Value} (hfs : fs.set 0 v = fs1) (hdg : decode cc pc = .ok (.putfield 7, 3)) (kk : ∀ (H1 : Heap) (locs1 : List Loc), g_S D vwCl A H0 (g_up G a (.inr (5, fs1))) H1 locs1 nz → W p l e R s m args below meth c H1 locs1 cells slots Q (F0 m (pc + 3) ls rest)) : W p l e R s m args below meth c H locs cells slots Q (F0 m pc ls (v :: .ref a :: rest)) :=
  g_put (ci := 5) (ty := .int) (C := RJx4a65c) (T := TJx4a65c) (N := 3) S.1 S.2.1 S.2.2.2.2 inA_RJx4a65c tyJx4a65c tyJx4a65c_ok nmJx4a65c S.2.2.2.1 hE.1 w ha rfl 0 (by decide) (S.2.2.2.2 _ m_1_181) (fun _ h => h) rfl (by decide +kernel) hn hfit hl hdg (fun H1 l1 w1 => kk H1 l1 (by rw [← hfs]; exact w1))
theorem m_1_171 : (Cond.code yJxc12de_init_da8c8 cJxc12de_init_da8c8 1 none) ∈ lwA := lwA_mk (ck_1 _ (List.mem_of_getElem? (i := 171) rfl)) rfl
theorem m_1_8 : (Cond.initialized RJxc12de) ∈ lwA := lwA_mk (ck_1 _ (List.mem_of_getElem? (i := 8) rfl)) rfl
theorem m_1_169 : (Cond.methodLink RJx4a65c 1 yJxc12de_init_da8c8) ∈ lwA := lwA_mk (ck_1 _ (List.mem_of_getElem? (i := 169) rfl)) rfl
theorem m_1_170 : (Cond.instanceMethod yJxc12de_init_da8c8) ∈ lwA := lwA_mk (ck_1 _ (List.mem_of_getElem? (i := 170) rfl)) rfl
theorem k_RJx4a65c_1 {args : Array Value} {s : State} {R rm : Room} (hts : ∀ w ∈ lwA, w.before args s = true) (hR : rm.frames + 1 ≤ R.frames ∧ 8 + (1 + 11) + rm.locals ≤ R.locals) : CallB R s args RJx4a65c 1 yJxc12de_init_da8c8 cJxc12de_init_da8c8 1 none (lwC yJxc12de_init_da8c8 cJxc12de_init_da8c8 1 none) rm rm.cells rm.slots 0 ∧ yJxc12de_init_da8c8.name = "<init>" ∧ (Cond.instanceMethod yJxc12de_init_da8c8).before args s = true := cwI 0 hts (gd m_1_171) rfl rfl rfl (hts _ m_1_8) (hts _ m_1_169) (hts _ m_1_170) rfl (by decide +kernel) hR
theorem m_1_176 : (Cond.fieldLink RJx4a65c 39 "java/util/ArrayList" "DEFAULTCAPACITY_EMPTY_ELEMENTDATA" "[Ljava/lang/Object;") ∈ lwA := lwA_mk (ck_1 _ (List.mem_of_getElem? (i := 176) rfl)) rfl
theorem m_1_178 : (Cond.fieldLink RJx4a65c 9 "java/util/ArrayList" "elementData" "[Ljava/lang/Object;") ∈ lwA := lwA_mk (ck_1 _ (List.mem_of_getElem? (i := 178) rfl)) rfl
theorem pf_RJx4a65c_9_5 {A9 : Nat → Prop} {H9 : Heap} {fs : List Value} {v : Value} (S : CallFix p m c cc nL s args lwA RJx4a65c) (hE : g_E D vwCl (gT ar) (EX1 κ) A9 s H9) (w : g_S D vwCl A H0 G H locs nz) (ha : G a = some (.inr (5, fs))) (hn : narrow (.array (.object "java/lang/Object")) v = v) (hfit : fits (.array (.object "java/lang/Object")) v = true) (hl : 1 < fs.length) {fs1 : List Value} (hfs : fs.set 1 v = fs1) (hdg : decode cc pc = .ok (.putfield 9, 3)) (kk : ∀ (H1 : Heap) (locs1 : List Loc), g_S D vwCl A H0 (g_up G a (.inr (5, fs1))) H1 locs1 nz → W p l e R s m args below meth c H1 locs1 cells slots Q (F0 m (pc + 3) ls rest)) : W p l e R s m args below meth c H locs cells slots Q (F0 m pc ls (v :: .ref a :: rest)) :=
  g_put (ci := 5) (ty := (.array (.object "java/lang/Object"))) (C := RJx4a65c) (T := TJx4a65c) (N := 3) S.1 S.2.1 S.2.2.2.2 inA_RJx4a65c tyJx4a65c tyJx4a65c_ok nmJx4a65c S.2.2.2.1 hE.1 w ha rfl 1 (by decide) (S.2.2.2.2 _ m_1_178) (fun _ h => h) rfl (by decide +kernel) hn hfit hl hdg (fun H1 l1 w1 => kk H1 l1 (by rw [← hfs]; exact w1))
theorem m_1_163 : (Cond.methodLink RX7 3 objectInit) ∈ lwA := lwA_mk (ck_1 _ (List.mem_of_getElem? (i := 163) rfl)) rfl
theorem m_1_164 : (Cond.classLink RX7 9 RJx4a65c) ∈ lwA := lwA_mk (ck_1 _ (List.mem_of_getElem? (i := 164) rfl)) rfl
theorem m_1_165 : (Cond.instantiable RJx4a65c 3) ∈ lwA := lwA_mk (ck_1 _ (List.mem_of_getElem? (i := 165) rfl)) rfl
theorem m_1_9 : (Cond.initialized RJx4a65c) ∈ lwA := lwA_mk (ck_1 _ (List.mem_of_getElem? (i := 9) rfl)) rfl
theorem nw_RX7_9 {A9 : Nat → Prop} {H9 : Heap} (S : CallFix p m c cc nL s args lwA RX7) (hE : g_E D vwCl (gT ar) (EX1 κ) A9 s H9) (w : g_S D vwCl A H0 G H locs nz) (hcells : cells + 1 ≤ R.cells) (hslots : slots + 3 ≤ R.slots) (hdg : decode cc pc = .ok (.new 9, 3)) (kk : ∀ (H1 : Heap), g_S D vwCl A H0 (g_up G nz (.inr (5, [.int 0, .null, .int 0]))) H1 locs (nz + 1) → W p l e R s m args below meth c H1 locs (cells + 1) (slots + 3) Q (F0 m (pc + 3) ls (.ref nz :: rest))) : W p l e R s m args below meth c H locs cells slots Q (F0 m pc ls rest) :=
  g_new (ci := 5) (fs := [.int 0, .null, .int 0]) (C := RJx4a65c) (T := TJx4a65c) (N := 3) S.1 S.2.1 S.2.2.2.2 inA_RJx4a65c tyJx4a65c tyJx4a65c_ok S.2.2.2.1 (S.2.2.2.2 _ m_1_164) (S.2.2.2.2 _ m_1_165) (S.2.2.2.2 _ m_1_9) hE.1 w rfl (fun j hj => by rcases (show j = 0 ∨ j = 1 ∨ j = 2 by omega) with rfl | rfl | rfl <;> rfl) hcells hslots hdg kk
theorem m_1_168 : (Cond.code yJx4a65c_init_da8c8 cJx4a65c_init_da8c8 1 none) ∈ lwA := lwA_mk (ck_1 _ (List.mem_of_getElem? (i := 168) rfl)) rfl
theorem m_1_166 : (Cond.methodLink RX7 11 yJx4a65c_init_da8c8) ∈ lwA := lwA_mk (ck_1 _ (List.mem_of_getElem? (i := 166) rfl)) rfl
theorem m_1_167 : (Cond.instanceMethod yJx4a65c_init_da8c8) ∈ lwA := lwA_mk (ck_1 _ (List.mem_of_getElem? (i := 167) rfl)) rfl
theorem k_RX7_11 {args : Array Value} {s : State} {R rm : Room} (hts : ∀ w ∈ lwA, w.before args s = true) (hR : rm.frames + 1 ≤ R.frames ∧ 8 + (1 + 11) + rm.locals ≤ R.locals) : CallB R s args RX7 11 yJx4a65c_init_da8c8 cJx4a65c_init_da8c8 1 none (lwC yJx4a65c_init_da8c8 cJx4a65c_init_da8c8 1 none) rm rm.cells rm.slots 0 ∧ yJx4a65c_init_da8c8.name = "<init>" ∧ (Cond.instanceMethod yJx4a65c_init_da8c8).before args s = true := cwI 0 hts (gd m_1_168) rfl rfl rfl (hts _ m_1_9) (hts _ m_1_166) (hts _ m_1_167) rfl (by decide +kernel) hR
theorem inA_RX7 : ∀ w ∈ u_ws RX7 TX7 4, w ∈ lwA := gA_r _ [241, 243, 245, 247] (by decide +kernel) (by decide +kernel)
theorem m_1_194 : (Cond.fieldLink RX7 12 "Sendhouse$Written" "pages" "Ljava/util/ArrayList;") ∈ lwA := lwA_mk (ck_1 _ (List.mem_of_getElem? (i := 194) rfl)) rfl
theorem pf_RX7_12_13 {A9 : Nat → Prop} {H9 : Heap} {fs : List Value} {v : Value} (S : CallFix p m c cc nL s args lwA RX7) (hE : g_E D vwCl (gT ar) (EX1 κ) A9 s H9) (hin : meth.name = "<init>") (w : g_S D vwCl A H0 G H locs nz) (ha : G a = some (.inr (13, fs))) (hn : narrow (.object "java/util/ArrayList") v = v) (hfit : fits (.object "java/util/ArrayList") v = true) (hl : 0 < fs.length) {fs1 : List Value} (hfs : fs.set 0 v = fs1) (hdg : decode cc pc = .ok (.putfield 12, 3)) (kk : ∀ (H1 : Heap) (locs1 : List Loc), g_S D vwCl A H0 (g_up G a (.inr (13, fs1))) H1 locs1 nz → W p l e R s m args below meth c H1 locs1 cells slots Q (F0 m (pc + 3) ls rest)) : W p l e R s m args below meth c H locs cells slots Q (F0 m pc ls (v :: .ref a :: rest)) :=
  g_putF (ci := 13) (ty := (.object "java/util/ArrayList")) (C := RX7) (T := TX7) (N := 4) S.1 S.2.1 S.2.2.2.2 inA_RX7 tyX7 tyX7_ok nmX7 S.2.2.2.1 hE.1 w ha rfl 0 (by decide) (S.2.2.2.2 _ m_1_194) (fun _ h => h) rfl hin rfl (by decide +kernel) hn hfit hl hdg (fun H1 l1 w1 => kk H1 l1 (by rw [← hfs]; exact w1))
theorem m_1_195 : (Cond.fieldLink RX7 18 "Sendhouse$Written" "count" "I") ∈ lwA := lwA_mk (ck_1 _ (List.mem_of_getElem? (i := 195) rfl)) rfl
theorem pf_RX7_18_13 {A9 : Nat → Prop} {H9 : Heap} {fs : List Value} {v : Value} (S : CallFix p m c cc nL s args lwA RX7) (hE : g_E D vwCl (gT ar) (EX1 κ) A9 s H9) (w : g_S D vwCl A H0 G H locs nz) (ha : G a = some (.inr (13, fs))) (hn : narrow .int v = v) (hfit : fits .int v = true) (hl : 1 < fs.length) {fs1 : List Value} (hfs : fs.set 1 v = fs1) (hdg : decode cc pc = .ok (.putfield 18, 3)) (kk : ∀ (H1 : Heap) (locs1 : List Loc), g_S D vwCl A H0 (g_up G a (.inr (13, fs1))) H1 locs1 nz → W p l e R s m args below meth c H1 locs1 cells slots Q (F0 m (pc + 3) ls rest)) : W p l e R s m args below meth c H locs cells slots Q (F0 m pc ls (v :: .ref a :: rest)) :=
  g_put (ci := 13) (ty := .int) (C := RX7) (T := TX7) (N := 4) S.1 S.2.1 S.2.2.2.2 inA_RX7 tyX7 tyX7_ok nmX7 S.2.2.2.1 hE.1 w ha rfl 1 (by decide) (S.2.2.2.2 _ m_1_195) (fun _ h => h) rfl (by decide +kernel) hn hfit hl hdg (fun H1 l1 w1 => kk H1 l1 (by rw [← hfs]; exact w1))
theorem m_1_196 : (Cond.fieldLink RX7 22 "Sendhouse$Written" "sum" "J") ∈ lwA := lwA_mk (ck_1 _ (List.mem_of_getElem? (i := 196) rfl)) rfl
theorem pf_RX7_22_13 {A9 : Nat → Prop} {H9 : Heap} {fs : List Value} {v : Value} (S : CallFix p m c cc nL s args lwA RX7) (hE : g_E D vwCl (gT ar) (EX1 κ) A9 s H9) (w : g_S D vwCl A H0 G H locs nz) (ha : G a = some (.inr (13, fs))) (hn : narrow .long v = v) (hfit : fits .long v = true) (hl : 2 < fs.length) {fs1 : List Value} (hfs : fs.set 2 v = fs1) (hdg : decode cc pc = .ok (.putfield 22, 3)) (kk : ∀ (H1 : Heap) (locs1 : List Loc), g_S D vwCl A H0 (g_up G a (.inr (13, fs1))) H1 locs1 nz → W p l e R s m args below meth c H1 locs1 cells slots Q (F0 m (pc + 3) ls rest)) : W p l e R s m args below meth c H locs cells slots Q (F0 m pc ls (v :: .ref a :: rest)) :=
  g_put (ci := 13) (ty := .long) (C := RX7) (T := TX7) (N := 4) S.1 S.2.1 S.2.2.2.2 inA_RX7 tyX7 tyX7_ok nmX7 S.2.2.2.1 hE.1 w ha rfl 2 (by decide) (S.2.2.2.2 _ m_1_196) (fun _ h => h) rfl (by decide +kernel) hn hfit hl hdg (fun H1 l1 w1 => kk H1 l1 (by rw [← hfs]; exact w1))
theorem m_1_198 : (Cond.fieldLink RX7 26 "Sendhouse$Written" "power" "J") ∈ lwA := lwA_mk (ck_1 _ (List.mem_of_getElem? (i := 198) rfl)) rfl
theorem pf_RX7_26_13 {A9 : Nat → Prop} {H9 : Heap} {fs : List Value} {v : Value} (S : CallFix p m c cc nL s args lwA RX7) (hE : g_E D vwCl (gT ar) (EX1 κ) A9 s H9) (w : g_S D vwCl A H0 G H locs nz) (ha : G a = some (.inr (13, fs))) (hn : narrow .long v = v) (hfit : fits .long v = true) (hl : 3 < fs.length) {fs1 : List Value} (hfs : fs.set 3 v = fs1) (hdg : decode cc pc = .ok (.putfield 26, 3)) (kk : ∀ (H1 : Heap) (locs1 : List Loc), g_S D vwCl A H0 (g_up G a (.inr (13, fs1))) H1 locs1 nz → W p l e R s m args below meth c H1 locs1 cells slots Q (F0 m (pc + 3) ls rest)) : W p l e R s m args below meth c H locs cells slots Q (F0 m pc ls (v :: .ref a :: rest)) :=
  g_put (ci := 13) (ty := .long) (C := RX7) (T := TX7) (N := 4) S.1 S.2.1 S.2.2.2.2 inA_RX7 tyX7 tyX7_ok nmX7 S.2.2.2.1 hE.1 w ha rfl 3 (by decide) (S.2.2.2.2 _ m_1_198) (fun _ h => h) rfl (by decide +kernel) hn hfit hl hdg (fun H1 l1 w1 => kk H1 l1 (by rw [← hfs]; exact w1))
end SITES
set_option maxHeartbeats 4000000 in
set_option maxRecDepth 100000 in
theorem c_X0_init (l : Launch) (D : va_G) (ar : Nat → ClassId) (κ : Nat → Nat) (G : gW) (sz : Nat) (o : Nat) (ho : G o = some (.inr (6, [.null, .null, .int 0]))) : Met l yX0_init (lwC yX0_init cX0_init 1 none) (rD 2 2 24) (g_Pc D vwCl (gT ar) (EX1 κ) G sz [.ref o]) (g_Qv D vwCl (g_A G sz) (fun u => u = ((g_up (g_up (g_up G sz (.inl (ar 0, 12, .inl (upd (fun _ => 0) (Int32.toNatClampNeg 0) (-1))))) o (.inr (6, [.ref sz, .ref (sz + 1), .int 3]))) (sz + 1) (.inl (ar 0, 12, .inl (fun _ => 0)))), sz + 2))) 2 24 (g_A G sz) := by
  refine g_ofW (by decide +kernel) (Nat.le_of_ble_eq_true rfl) ?_
  intro p e s m below meth c ls S hr hlk hin hE w hl
  have hx := S.1
  have hb := S.2.1
  have hl : lv_has ls 1 [(0, .ref o)] := hl
  have lt_ho : o < sz := g_ltn w ho
  refine lv_aload_n hx hb dX0_init_0 rfl (lv_at hl 0 rfl) ?_
  refine W.objInit hx hb S.2.2.2.1 (S.2.2.2.2 _ m_1_53) (S.2.2.2.2 _ m_1_46) (S.2.2.2.2 _ m_obj) rfl (by rw [S.2.2.1]; exact hl.1) rfl dX0_init_1 (Nat.le_of_ble_eq_true rfl) (Nat.le_of_ble_eq_true rfl) ?_
  refine W.eq (g2 := F0 m 4 ls []) rfl ?_
  refine lv_aload_n hx hb dX0_init_4 rfl (lv_at hl 0 rfl) ?_
  refine lv_bipush (v := 12) hx hb dX0_init_5 (by decide) ?_
  refine g_newa (atype := .int) (a0 := (12, .inl (fun _ => 0))) hx hb (S.2.2.2.2 _ m_1_65) rfl hE.1 w 0 rfl rfl (by decide) rfl (Nat.le_of_ble_eq_true rfl) (Nat.le_of_ble_eq_true rfl) (Nat.le_of_ble_eq_true rfl) dX0_init_7 (fun H w => ?_)
  refine pf_RX0_9_6 (fs1 := [.ref sz, .null, .int 0]) S hE hin w (g_up_o (by omega) ho) rfl rfl (Nat.le_of_ble_eq_true rfl) rfl dX0_init_9 (fun H locs w => ?_)
  refine lv_aload_n hx hb dX0_init_12 rfl (lv_at hl 0 rfl) ?_
  refine lv_bipush (v := 12) hx hb dX0_init_13 (by decide) ?_
  refine g_newa (atype := .int) (a0 := (12, .inl (fun _ => 0))) hx hb (S.2.2.2.2 _ m_1_65) rfl hE.1 w 0 rfl rfl (by decide) rfl (Nat.le_of_ble_eq_true rfl) (Nat.le_of_ble_eq_true rfl) (Nat.le_of_ble_eq_true rfl) dX0_init_15 (fun H w => ?_)
  refine pf_RX0_15_6 (fs1 := [.ref sz, .ref (sz + 1), .int 0]) S hE hin w (g_up_o (by omega) g_up_s) rfl rfl (Nat.le_of_ble_eq_true rfl) rfl dX0_init_17 (fun H locs w => ?_)
  have w := g_eqw w (g_inn g_over (by omega))
  refine lv_aload_n hx hb dX0_init_20 rfl (lv_at hl 0 rfl) ?_
  refine lv_iconst (v := 3) hx hb dX0_init_21 (by decide) ?_
  refine pf_RX0_18_6 (fs1 := [.ref sz, .ref (sz + 1), .int 3]) S hE w (g_up_o (by omega) g_up_s) rfl rfl (Nat.le_of_ble_eq_true rfl) rfl dX0_init_22 (fun H locs w => ?_)
  have w := g_eqw w (g_inn g_over (by omega))
  refine lv_aload_n hx hb dX0_init_25 rfl (lv_at hl 0 rfl) ?_
  refine gf_RX0_9_6 S hE w (g_up_o (by omega) g_up_s) rfl dX0_init_26 ?_
  refine lv_iconst (v := 0) hx hb dX0_init_29 (by decide) ?_
  refine lv_iconst (v := (-1)) hx hb dX0_init_30 (by decide) ?_
  refine g_iast hx hb hE.1 w 0 (g_up_o (by omega) (g_up_o (by omega) g_up_s)) rfl (vp_in_nI (n := 0) (by decide) (by decide)) dX0_init_31 (fun H locs w => ?_)
  have w := g_eqw w (g_inn (g_inn g_over (by omega)) (by omega))
  exact g_vret hx hb hr hlk w (Nat.le_of_ble_eq_true rfl) (Nat.le_of_ble_eq_true rfl) dX0_init_32 rfl
set_option maxHeartbeats 4000000 in
set_option maxRecDepth 100000 in
theorem c_X3_init (l : Launch) (D : va_G) (ar : Nat → ClassId) (κ : Nat → Nat) (G : gW) (sz : Nat) (o : Nat) (ho : G o = some (.inr (9, [.null, .null, .null, .null, .null, .int 0, .int 0]))) : Met l yX3_init (lwC yX3_init cX3_init 1 none) (rD 2 5 120) (g_Pc D vwCl (gT ar) (EX1 κ) G sz [.ref o]) (g_Qv D vwCl (g_A G sz) (fun u => u = ((g_up (g_up (g_up (g_up (g_up (g_up G sz (.inl (ar 2, 24, .inl (fun _ => 0)))) o (.inr (9, [.ref sz, .ref (sz + 1), .ref (sz + 2), .ref (sz + 3), .ref (sz + 4), .int 0, .int 0]))) (sz + 1) (.inl (ar 0, 24, .inl (fun _ => 0)))) (sz + 2) (.inl (ar 0, 24, .inl (fun _ => 0)))) (sz + 3) (.inl (ar 0, 24, .inl (fun _ => 0)))) (sz + 4) (.inl (ar 0, 24, .inl (fun _ => 0)))), sz + 5))) 5 120 (g_A G sz) := by
  refine g_ofW (by decide +kernel) (Nat.le_of_ble_eq_true rfl) ?_
  intro p e s m below meth c ls S hr hlk hin hE w hl
  have hx := S.1
  have hb := S.2.1
  have hl : lv_has ls 1 [(0, .ref o)] := hl
  have lt_ho : o < sz := g_ltn w ho
  refine lv_aload_n hx hb dX3_init_0 rfl (lv_at hl 0 rfl) ?_
  refine W.objInit hx hb S.2.2.2.1 (S.2.2.2.2 _ m_1_73) (S.2.2.2.2 _ m_1_46) (S.2.2.2.2 _ m_obj) rfl (by rw [S.2.2.1]; exact hl.1) rfl dX3_init_1 (Nat.le_of_ble_eq_true rfl) (Nat.le_of_ble_eq_true rfl) ?_
  refine W.eq (g2 := F0 m 4 ls []) rfl ?_
  refine lv_aload_n hx hb dX3_init_4 rfl (lv_at hl 0 rfl) ?_
  refine lv_bipush (v := 24) hx hb dX3_init_5 (by decide) ?_
  refine g_newa (atype := .char) (a0 := (24, .inl (fun _ => 0))) hx hb (S.2.2.2.2 _ m_1_98) rfl hE.1 w 2 rfl rfl (by decide) rfl (Nat.le_of_ble_eq_true rfl) (Nat.le_of_ble_eq_true rfl) (Nat.le_of_ble_eq_true rfl) dX3_init_7 (fun H w => ?_)
  refine pf_RX3_9_9 (fs1 := [.ref sz, .null, .null, .null, .null, .int 0, .int 0]) S hE hin w (g_up_o (by omega) ho) rfl rfl (Nat.le_of_ble_eq_true rfl) rfl dX3_init_9 (fun H locs w => ?_)
  refine lv_aload_n hx hb dX3_init_12 rfl (lv_at hl 0 rfl) ?_
  refine lv_bipush (v := 24) hx hb dX3_init_13 (by decide) ?_
  refine g_newa (atype := .int) (a0 := (24, .inl (fun _ => 0))) hx hb (S.2.2.2.2 _ m_1_65) rfl hE.1 w 0 rfl rfl (by decide) rfl (Nat.le_of_ble_eq_true rfl) (Nat.le_of_ble_eq_true rfl) (Nat.le_of_ble_eq_true rfl) dX3_init_15 (fun H w => ?_)
  refine pf_RX3_15_9 (fs1 := [.ref sz, .ref (sz + 1), .null, .null, .null, .int 0, .int 0]) S hE hin w (g_up_o (by omega) g_up_s) rfl rfl (Nat.le_of_ble_eq_true rfl) rfl dX3_init_17 (fun H locs w => ?_)
  have w := g_eqw w (g_inn g_over (by omega))
  refine lv_aload_n hx hb dX3_init_20 rfl (lv_at hl 0 rfl) ?_
  refine lv_bipush (v := 24) hx hb dX3_init_21 (by decide) ?_
  refine g_newa (atype := .int) (a0 := (24, .inl (fun _ => 0))) hx hb (S.2.2.2.2 _ m_1_65) rfl hE.1 w 0 rfl rfl (by decide) rfl (Nat.le_of_ble_eq_true rfl) (Nat.le_of_ble_eq_true rfl) (Nat.le_of_ble_eq_true rfl) dX3_init_23 (fun H w => ?_)
  refine pf_RX3_19_9 (fs1 := [.ref sz, .ref (sz + 1), .ref (sz + 2), .null, .null, .int 0, .int 0]) S hE hin w (g_up_o (by omega) (g_up_o (by omega) g_up_s)) rfl rfl (Nat.le_of_ble_eq_true rfl) rfl dX3_init_25 (fun H locs w => ?_)
  have w := g_eqw w (g_inn (g_inn g_over (by omega)) (by omega))
  refine lv_aload_n hx hb dX3_init_28 rfl (lv_at hl 0 rfl) ?_
  refine lv_bipush (v := 24) hx hb dX3_init_29 (by decide) ?_
  refine g_newa (atype := .int) (a0 := (24, .inl (fun _ => 0))) hx hb (S.2.2.2.2 _ m_1_65) rfl hE.1 w 0 rfl rfl (by decide) rfl (Nat.le_of_ble_eq_true rfl) (Nat.le_of_ble_eq_true rfl) (Nat.le_of_ble_eq_true rfl) dX3_init_31 (fun H w => ?_)
  refine pf_RX3_22_9 (fs1 := [.ref sz, .ref (sz + 1), .ref (sz + 2), .ref (sz + 3), .null, .int 0, .int 0]) S hE hin w (g_up_o (by omega) (g_up_o (by omega) (g_up_o (by omega) g_up_s))) rfl rfl (Nat.le_of_ble_eq_true rfl) rfl dX3_init_33 (fun H locs w => ?_)
  have w := g_eqw w (g_inn (g_inn (g_inn g_over (by omega)) (by omega)) (by omega))
  refine lv_aload_n hx hb dX3_init_36 rfl (lv_at hl 0 rfl) ?_
  refine lv_bipush (v := 24) hx hb dX3_init_37 (by decide) ?_
  refine g_newa (atype := .int) (a0 := (24, .inl (fun _ => 0))) hx hb (S.2.2.2.2 _ m_1_65) rfl hE.1 w 0 rfl rfl (by decide) rfl (Nat.le_of_ble_eq_true rfl) (Nat.le_of_ble_eq_true rfl) (Nat.le_of_ble_eq_true rfl) dX3_init_39 (fun H w => ?_)
  refine pf_RX3_25_9 (fs1 := [.ref sz, .ref (sz + 1), .ref (sz + 2), .ref (sz + 3), .ref (sz + 4), .int 0, .int 0]) S hE hin w (g_up_o (by omega) (g_up_o (by omega) (g_up_o (by omega) (g_up_o (by omega) g_up_s)))) rfl rfl (Nat.le_of_ble_eq_true rfl) rfl dX3_init_41 (fun H locs w => ?_)
  have w := g_eqw w (g_inn (g_inn (g_inn (g_inn g_over (by omega)) (by omega)) (by omega)) (by omega))
  refine lv_aload_n hx hb dX3_init_44 rfl (lv_at hl 0 rfl) ?_
  refine lv_iconst (v := 0) hx hb dX3_init_45 (by decide) ?_
  refine pf_RX3_28_9 (fs1 := [.ref sz, .ref (sz + 1), .ref (sz + 2), .ref (sz + 3), .ref (sz + 4), .int 0, .int 0]) S hE w (g_up_o (by omega) (g_up_o (by omega) (g_up_o (by omega) (g_up_o (by omega) g_up_s)))) rfl rfl (Nat.le_of_ble_eq_true rfl) rfl dX3_init_46 (fun H locs w => ?_)
  have w := g_eqw w (g_inn (g_inn (g_inn (g_inn g_over (by omega)) (by omega)) (by omega)) (by omega))
  refine lv_aload_n hx hb dX3_init_49 rfl (lv_at hl 0 rfl) ?_
  refine lv_iconst (v := 0) hx hb dX3_init_50 (by decide) ?_
  refine pf_RX3_32_9 (fs1 := [.ref sz, .ref (sz + 1), .ref (sz + 2), .ref (sz + 3), .ref (sz + 4), .int 0, .int 0]) S hE w (g_up_o (by omega) (g_up_o (by omega) (g_up_o (by omega) (g_up_o (by omega) g_up_s)))) rfl rfl (Nat.le_of_ble_eq_true rfl) rfl dX3_init_51 (fun H locs w => ?_)
  have w := g_eqw w (g_inn (g_inn (g_inn (g_inn g_over (by omega)) (by omega)) (by omega)) (by omega))
  exact g_vret hx hb hr hlk w (Nat.le_of_ble_eq_true rfl) (Nat.le_of_ble_eq_true rfl) dX3_init_54 rfl
set_option maxHeartbeats 4000000 in
set_option maxRecDepth 100000 in
theorem c_X4_init (l : Launch) (D : va_G) (ar : Nat → ClassId) (κ : Nat → Nat) (G : gW) (sz : Nat) (o : Nat) (ho : G o = some (.inr (10, [.null, .int 0, .int 0, .int 0, .int 0]))) : Met l yX4_init (lwC yX4_init cX4_init 1 none) (rD 2 1 8) (g_Pc D vwCl (gT ar) (EX1 κ) G sz [.ref o]) (g_Qv D vwCl (g_A G sz) (fun u => u = ((g_up (g_up G sz (.inl (ar 1, 8, .inr (.inl (fun _ => 0))))) o (.inr (10, [.ref sz, .int 0, .int 0, .int 0, .int 0]))), sz + 1))) 1 8 (g_A G sz) := by
  refine g_ofW (by decide +kernel) (Nat.le_of_ble_eq_true rfl) ?_
  intro p e s m below meth c ls S hr hlk hin hE w hl
  have hx := S.1
  have hb := S.2.1
  have hl : lv_has ls 1 [(0, .ref o)] := hl
  have lt_ho : o < sz := g_ltn w ho
  refine lv_aload_n hx hb dX4_init_0 rfl (lv_at hl 0 rfl) ?_
  refine W.objInit hx hb S.2.2.2.1 (S.2.2.2.2 _ m_1_111) (S.2.2.2.2 _ m_1_46) (S.2.2.2.2 _ m_obj) rfl (by rw [S.2.2.1]; exact hl.1) rfl dX4_init_1 (Nat.le_of_ble_eq_true rfl) (Nat.le_of_ble_eq_true rfl) ?_
  refine W.eq (g2 := F0 m 4 ls []) rfl ?_
  refine lv_aload_n hx hb dX4_init_4 rfl (lv_at hl 0 rfl) ?_
  refine lv_bipush (v := 8) hx hb dX4_init_5 (by decide) ?_
  refine g_newa (atype := .long) (a0 := (8, .inr (.inl (fun _ => 0)))) hx hb (S.2.2.2.2 _ m_1_137) rfl hE.1 w 1 rfl rfl (by decide) rfl (Nat.le_of_ble_eq_true rfl) (Nat.le_of_ble_eq_true rfl) (Nat.le_of_ble_eq_true rfl) dX4_init_7 (fun H w => ?_)
  refine pf_RX4_9_10 (fs1 := [.ref sz, .int 0, .int 0, .int 0, .int 0]) S hE hin w (g_up_o (by omega) ho) rfl rfl (Nat.le_of_ble_eq_true rfl) rfl dX4_init_9 (fun H locs w => ?_)
  refine lv_aload_n hx hb dX4_init_12 rfl (lv_at hl 0 rfl) ?_
  refine lv_iconst (v := 0) hx hb dX4_init_13 (by decide) ?_
  refine pf_RX4_15_10 (fs1 := [.ref sz, .int 0, .int 0, .int 0, .int 0]) S hE w g_up_s rfl rfl (Nat.le_of_ble_eq_true rfl) rfl dX4_init_14 (fun H locs w => ?_)
  have w := g_eqw w g_over
  refine lv_aload_n hx hb dX4_init_17 rfl (lv_at hl 0 rfl) ?_
  refine lv_iconst (v := 0) hx hb dX4_init_18 (by decide) ?_
  refine pf_RX4_19_10 (fs1 := [.ref sz, .int 0, .int 0, .int 0, .int 0]) S hE w g_up_s rfl rfl (Nat.le_of_ble_eq_true rfl) rfl dX4_init_19 (fun H locs w => ?_)
  have w := g_eqw w g_over
  refine lv_aload_n hx hb dX4_init_22 rfl (lv_at hl 0 rfl) ?_
  refine lv_iconst (v := 0) hx hb dX4_init_23 (by decide) ?_
  refine pf_RX4_22_10 (fs1 := [.ref sz, .int 0, .int 0, .int 0, .int 0]) S hE w g_up_s rfl rfl (Nat.le_of_ble_eq_true rfl) rfl dX4_init_24 (fun H locs w => ?_)
  have w := g_eqw w g_over
  refine lv_aload_n hx hb dX4_init_27 rfl (lv_at hl 0 rfl) ?_
  refine lv_iconst (v := 0) hx hb dX4_init_28 (by decide) ?_
  refine pf_RX4_25_10 (fs1 := [.ref sz, .int 0, .int 0, .int 0, .int 0]) S hE w g_up_s rfl rfl (Nat.le_of_ble_eq_true rfl) rfl dX4_init_29 (fun H locs w => ?_)
  have w := g_eqw w g_over
  exact g_vret hx hb hr hlk w (Nat.le_of_ble_eq_true rfl) (Nat.le_of_ble_eq_true rfl) dX4_init_32 rfl
set_option maxHeartbeats 4000000 in
set_option maxRecDepth 100000 in
theorem c_X1_init (l : Launch) (D : va_G) (ar : Nat → ClassId) (κ : Nat → Nat) (G : gW) (sz : Nat) (o : Nat) (ho : G o = some (.inr (7, [.null, .null, .null, .null, .long 0, .int 0, .int 0]))) : Met l yX1_init (lwC yX1_init cX1_init 1 none) (rD 2 3 14) (g_Pc D vwCl (gT ar) (EX1 κ) G sz [.ref o]) (g_Qv D vwCl (g_A G sz) (fun u => u = ((g_up (g_up (g_up (g_up G sz (.inl (ar 1, 2, .inr (.inl (fun _ => 0))))) o (.inr (7, [.ref sz, .ref (sz + 1), .ref (sz + 2), .null, .long 502511173632, .int 0, .int 0]))) (sz + 1) (.inl (ar 1, 4, .inr (.inl (fun _ => 0))))) (sz + 2) (.inl (ar 1, 8, .inr (.inl (fun _ => 0))))), sz + 3))) 3 14 (g_A G sz) := by
  refine g_ofW (by decide +kernel) (Nat.le_of_ble_eq_true rfl) ?_
  intro p e s m below meth c ls S hr hlk hin hE w hl
  have hx := S.1
  have hb := S.2.1
  have hl : lv_has ls 1 [(0, .ref o)] := hl
  have lt_ho : o < sz := g_ltn w ho
  refine lv_aload_n hx hb dX1_init_0 rfl (lv_at hl 0 rfl) ?_
  refine W.objInit hx hb S.2.2.2.1 (S.2.2.2.2 _ m_1_216) (S.2.2.2.2 _ m_1_46) (S.2.2.2.2 _ m_obj) rfl (by rw [S.2.2.1]; exact hl.1) rfl dX1_init_1 (Nat.le_of_ble_eq_true rfl) (Nat.le_of_ble_eq_true rfl) ?_
  refine W.eq (g2 := F0 m 4 ls []) rfl ?_
  refine lv_aload_n hx hb dX1_init_4 rfl (lv_at hl 0 rfl) ?_
  refine lv_iconst (v := 2) hx hb dX1_init_5 (by decide) ?_
  refine g_newa (atype := .long) (a0 := (2, .inr (.inl (fun _ => 0)))) hx hb (S.2.2.2.2 _ m_1_137) rfl hE.1 w 1 rfl rfl (by decide) rfl (Nat.le_of_ble_eq_true rfl) (Nat.le_of_ble_eq_true rfl) (Nat.le_of_ble_eq_true rfl) dX1_init_6 (fun H w => ?_)
  refine pf_RX1_9_7 (fs1 := [.ref sz, .null, .null, .null, .long 0, .int 0, .int 0]) S hE hin w (g_up_o (by omega) ho) rfl rfl (Nat.le_of_ble_eq_true rfl) rfl dX1_init_8 (fun H locs w => ?_)
  refine lv_aload_n hx hb dX1_init_11 rfl (lv_at hl 0 rfl) ?_
  refine lv_iconst (v := 4) hx hb dX1_init_12 (by decide) ?_
  refine g_newa (atype := .long) (a0 := (4, .inr (.inl (fun _ => 0)))) hx hb (S.2.2.2.2 _ m_1_137) rfl hE.1 w 1 rfl rfl (by decide) rfl (Nat.le_of_ble_eq_true rfl) (Nat.le_of_ble_eq_true rfl) (Nat.le_of_ble_eq_true rfl) dX1_init_13 (fun H w => ?_)
  refine pf_RX1_15_7 (fs1 := [.ref sz, .ref (sz + 1), .null, .null, .long 0, .int 0, .int 0]) S hE hin w (g_up_o (by omega) g_up_s) rfl rfl (Nat.le_of_ble_eq_true rfl) rfl dX1_init_15 (fun H locs w => ?_)
  have w := g_eqw w (g_inn g_over (by omega))
  refine lv_aload_n hx hb dX1_init_18 rfl (lv_at hl 0 rfl) ?_
  refine lv_bipush (v := 8) hx hb dX1_init_19 (by decide) ?_
  refine g_newa (atype := .long) (a0 := (8, .inr (.inl (fun _ => 0)))) hx hb (S.2.2.2.2 _ m_1_137) rfl hE.1 w 1 rfl rfl (by decide) rfl (Nat.le_of_ble_eq_true rfl) (Nat.le_of_ble_eq_true rfl) (Nat.le_of_ble_eq_true rfl) dX1_init_21 (fun H w => ?_)
  refine pf_RX1_18_7 (fs1 := [.ref sz, .ref (sz + 1), .ref (sz + 2), .null, .long 0, .int 0, .int 0]) S hE hin w (g_up_o (by omega) (g_up_o (by omega) g_up_s)) rfl rfl (Nat.le_of_ble_eq_true rfl) rfl dX1_init_23 (fun H locs w => ?_)
  have w := g_eqw w (g_inn (g_inn g_over (by omega)) (by omega))
  refine lv_aload_n hx hb dX1_init_26 rfl (lv_at hl 0 rfl) ?_
  refine lv_null hx hb dX1_init_27 ?_
  refine pf_RX1_21_7 (fs1 := [.ref sz, .ref (sz + 1), .ref (sz + 2), .null, .long 0, .int 0, .int 0]) S hE w (g_up_o (by omega) (g_up_o (by omega) g_up_s)) rfl rfl (Nat.le_of_ble_eq_true rfl) rfl dX1_init_28 (fun H locs w => ?_)
  have w := g_eqw w (g_inn (g_inn g_over (by omega)) (by omega))
  refine lv_aload_n hx hb dX1_init_31 rfl (lv_at hl 0 rfl) ?_
  refine lv_ldc2 hx hb S.2.2.2.1 (S.2.2.2.2 _ m_1_217) dX1_init_32 ?_
  refine pf_RX1_27_7 (fs1 := [.ref sz, .ref (sz + 1), .ref (sz + 2), .null, .long 502511173632, .int 0, .int 0]) S hE w (g_up_o (by omega) (g_up_o (by omega) g_up_s)) rfl rfl (Nat.le_of_ble_eq_true rfl) rfl dX1_init_35 (fun H locs w => ?_)
  have w := g_eqw w (g_inn (g_inn g_over (by omega)) (by omega))
  refine lv_aload_n hx hb dX1_init_38 rfl (lv_at hl 0 rfl) ?_
  refine lv_iconst (v := 0) hx hb dX1_init_39 (by decide) ?_
  refine pf_RX1_31_7 (fs1 := [.ref sz, .ref (sz + 1), .ref (sz + 2), .null, .long 502511173632, .int 0, .int 0]) S hE w (g_up_o (by omega) (g_up_o (by omega) g_up_s)) rfl rfl (Nat.le_of_ble_eq_true rfl) rfl dX1_init_40 (fun H locs w => ?_)
  have w := g_eqw w (g_inn (g_inn g_over (by omega)) (by omega))
  refine lv_aload_n hx hb dX1_init_43 rfl (lv_at hl 0 rfl) ?_
  refine lv_iconst (v := 0) hx hb dX1_init_44 (by decide) ?_
  refine pf_RX1_35_7 (fs1 := [.ref sz, .ref (sz + 1), .ref (sz + 2), .null, .long 502511173632, .int 0, .int 0]) S hE w (g_up_o (by omega) (g_up_o (by omega) g_up_s)) rfl rfl (Nat.le_of_ble_eq_true rfl) rfl dX1_init_45 (fun H locs w => ?_)
  have w := g_eqw w (g_inn (g_inn g_over (by omega)) (by omega))
  exact g_vret hx hb hr hlk w (Nat.le_of_ble_eq_true rfl) (Nat.le_of_ble_eq_true rfl) dX1_init_48 rfl
set_option maxHeartbeats 4000000 in
set_option maxRecDepth 100000 in
theorem c_AC_init (l : Launch) (D : va_G) (ar : Nat → ClassId) (κ : Nat → Nat) (G : gW) (sz : Nat) (o : Nat) (mc0 : Int32) (ed : Option Nat) (n0 : Int32) (ho : G o = some (.inr (5, [.int mc0, va_rf ed, .int n0]))) : Met l yJxa1e45_init_da8c8 (lwC yJxa1e45_init_da8c8 cJxa1e45_init_da8c8 1 none) (rD 2 0 0) (g_Pc D vwCl (gT ar) (EX1 κ) G sz [.ref o]) (g_Qv D vwCl (g_A G sz) (fun u => u = (G, sz))) 0 0 (g_A G sz) := by
  refine g_ofW (by decide +kernel) (Nat.le_of_ble_eq_true rfl) ?_
  intro p e s m below meth c ls S hr hlk hin hE w hl
  have hx := S.1
  have hb := S.2.1
  have hl : lv_has ls 1 [(0, .ref o)] := hl
  have lt_ho : o < sz := g_ltn w ho
  refine lv_aload_n hx hb dJxa1e45_init_da8c8_0 rfl (lv_at hl 0 rfl) ?_
  refine W.objInit hx hb S.2.2.2.1 (S.2.2.2.2 _ m_1_175) (S.2.2.2.2 _ m_1_46) (S.2.2.2.2 _ m_obj) rfl (by rw [S.2.2.1]; exact hl.1) rfl dJxa1e45_init_da8c8_1 (Nat.le_of_ble_eq_true rfl) (Nat.le_of_ble_eq_true rfl) ?_
  refine W.eq (g2 := F0 m 4 ls []) rfl ?_
  exact g_vret hx hb hr hlk w (Nat.le_of_ble_eq_true rfl) (Nat.le_of_ble_eq_true rfl) dJxa1e45_init_da8c8_4 rfl
set_option maxHeartbeats 4000000 in
set_option maxRecDepth 100000 in
theorem c_AL_init (l : Launch) (D : va_G) (ar : Nat → ClassId) (κ : Nat → Nat) (G : gW) (sz : Nat) (o : Nat) (mc0 : Int32) (ed : Option Nat) (n0 : Int32) (ho : G o = some (.inr (5, [.int mc0, va_rf ed, .int n0]))) : Met l yJxc12de_init_da8c8 (lwC yJxc12de_init_da8c8 cJxc12de_init_da8c8 1 none) (rD 3 0 0) (g_Pc D vwCl (gT ar) (EX1 κ) G sz [.ref o]) (g_Qv D vwCl (g_A G sz) (fun u => u = ((g_up G o (.inr (5, [.int 0, va_rf ed, .int n0]))), sz))) 0 0 (g_A G sz) := by
  refine g_ofW (by decide +kernel) (Nat.le_of_ble_eq_true rfl) ?_
  intro p e s m below meth c ls S hr hlk hin hE w hl
  have hx := S.1
  have hb := S.2.1
  have hl : lv_has ls 1 [(0, .ref o)] := hl
  have lt_ho : o < sz := g_ltn w ho
  refine lv_aload_n hx hb dJxc12de_init_da8c8_0 rfl (lv_at hl 0 rfl) ?_
  refine g_callv w (g_runI (As := []) (rest := []) S hE w hl (c_AC_init l D ar κ G sz o mc0 ed n0 ho) (k_RJxc12de_1 S.2.2.2.2 ⟨Nat.le_of_ble_eq_true rfl, Nat.le_of_ble_eq_true rfl⟩) rfl rfl (Nat.le_of_ble_eq_true rfl) dJxc12de_init_da8c8_1 ⟨Nat.le_of_ble_eq_true rfl, Nat.le_of_ble_eq_true rfl⟩) (fun u H locs hp hnz w => ?_)
  obtain rfl := hp
  dsimp only at w
  refine lv_aload_n hx hb dJxc12de_init_da8c8_4 rfl (lv_at hl 0 rfl) ?_
  refine lv_iconst (v := 0) hx hb dJxc12de_init_da8c8_5 (by decide) ?_
  refine pf_RJxc12de_7_5 (fs1 := [.int 0, va_rf ed, .int n0]) S hE w ho rfl rfl (Nat.le_of_ble_eq_true rfl) rfl dJxc12de_init_da8c8_6 (fun H locs w => ?_)
  exact g_vret hx hb hr hlk w (Nat.le_of_ble_eq_true rfl) (Nat.le_of_ble_eq_true rfl) dJxc12de_init_da8c8_9 rfl
set_option maxHeartbeats 4000000 in
set_option maxRecDepth 100000 in
theorem c_ArrayList_init (l : Launch) (D : va_G) (ar : Nat → ClassId) (κ : Nat → Nat) (G : gW) (sz : Nat) (o : Nat) (ho : G o = some (.inr (5, [.int 0, .null, .int 0]))) : Met l yJx4a65c_init_da8c8 (lwC yJx4a65c_init_da8c8 cJx4a65c_init_da8c8 1 none) (rD 4 0 0) (g_Pc D vwCl (gT ar) (EX1 κ) G sz [.ref o]) (g_Qv D vwCl (g_A G sz) (fun u => u = ((g_up G o (.inr (5, [.int 0, .ref (κ 0), .int 0]))), sz))) 0 0 (g_A G sz) := by
  refine g_ofW (by decide +kernel) (Nat.le_of_ble_eq_true rfl) ?_
  intro p e s m below meth c ls S hr hlk hin hE w hl
  have hx := S.1
  have hb := S.2.1
  have hl : lv_has ls 1 [(0, .ref o)] := hl
  have lt_ho : o < sz := g_ltn w ho
  refine lv_aload_n hx hb dJx4a65c_init_da8c8_0 rfl (lv_at hl 0 rfl) ?_
  refine g_callv w (g_runI (As := []) (rest := []) S hE w hl (c_AL_init l D ar κ G sz o 0 none 0 ho) (k_RJx4a65c_1 S.2.2.2.2 ⟨Nat.le_of_ble_eq_true rfl, Nat.le_of_ble_eq_true rfl⟩) rfl rfl (Nat.le_of_ble_eq_true rfl) dJx4a65c_init_da8c8_1 ⟨Nat.le_of_ble_eq_true rfl, Nat.le_of_ble_eq_true rfl⟩) (fun u H locs hp hnz w => ?_)
  obtain rfl := hp
  dsimp only at w
  refine lv_aload_n hx hb dJx4a65c_init_da8c8_4 rfl (lv_at hl 0 rfl) ?_
  refine va_gets hx hb hE.2.2.2.2.1.1 w.2.2.1 S.2.2.2.1 (S.2.2.2.2 _ m_1_176) (fun _ h => h) dJx4a65c_init_da8c8_5 ?_
  refine pf_RJx4a65c_9_5 (fs1 := [.int 0, .ref (κ 0), .int 0]) S hE w g_up_s rfl rfl (Nat.le_of_ble_eq_true rfl) rfl dJx4a65c_init_da8c8_8 (fun H locs w => ?_)
  have w := g_eqw w g_over
  exact g_vret hx hb hr hlk w (Nat.le_of_ble_eq_true rfl) (Nat.le_of_ble_eq_true rfl) dJx4a65c_init_da8c8_11 rfl
set_option maxHeartbeats 4000000 in
set_option maxRecDepth 100000 in
theorem c_X7_init (l : Launch) (D : va_G) (ar : Nat → ClassId) (κ : Nat → Nat) (G : gW) (sz : Nat) (o : Nat) (ho : G o = some (.inr (13, [.null, .int 0, .long 0, .long 0]))) : Met l yX7_init (lwC yX7_init cX7_init 1 none) (rD 5 1 3) (g_Pc D vwCl (gT ar) (EX1 κ) G sz [.ref o]) (g_Qv D vwCl (g_A G sz) (fun u => u = ((g_up (g_up G sz (.inr (5, [.int 0, .ref (κ 0), .int 0]))) o (.inr (13, [.ref sz, .int 0, .long 0, .long 1]))), sz + 1))) 1 3 (g_A G sz) := by
  refine g_ofW (by decide +kernel) (Nat.le_of_ble_eq_true rfl) ?_
  intro p e s m below meth c ls S hr hlk hin hE w hl
  have hx := S.1
  have hb := S.2.1
  have hl : lv_has ls 1 [(0, .ref o)] := hl
  have lt_ho : o < sz := g_ltn w ho
  refine lv_aload_n hx hb dX7_init_0 rfl (lv_at hl 0 rfl) ?_
  refine W.objInit hx hb S.2.2.2.1 (S.2.2.2.2 _ m_1_163) (S.2.2.2.2 _ m_1_46) (S.2.2.2.2 _ m_obj) rfl (by rw [S.2.2.1]; exact hl.1) rfl dX7_init_1 (Nat.le_of_ble_eq_true rfl) (Nat.le_of_ble_eq_true rfl) ?_
  refine W.eq (g2 := F0 m 4 ls []) rfl ?_
  refine lv_aload_n hx hb dX7_init_4 rfl (lv_at hl 0 rfl) ?_
  refine nw_RX7_9 S hE w (Nat.le_of_ble_eq_true rfl) (Nat.le_of_ble_eq_true rfl) dX7_init_5 (fun H w => ?_)
  refine lv_dup hx hb dX7_init_8 rfl ?_
  refine g_callv w (g_runI (As := []) (rest := [.ref sz, .ref o]) S hE w hl (c_ArrayList_init l D ar κ (g_up G sz (.inr (5, [.int 0, .null, .int 0]))) (sz + 1) sz g_up_s) (k_RX7_11 S.2.2.2.2 ⟨Nat.le_of_ble_eq_true rfl, Nat.le_of_ble_eq_true rfl⟩) rfl rfl (Nat.le_of_ble_eq_true rfl) dX7_init_9 ⟨Nat.le_of_ble_eq_true rfl, Nat.le_of_ble_eq_true rfl⟩) (fun u H locs hp hnz w => ?_)
  obtain rfl := hp
  dsimp only at w
  have w := g_eqw w g_over
  refine pf_RX7_12_13 (fs1 := [.ref sz, .int 0, .long 0, .long 0]) S hE hin w (g_up_o (by omega) ho) rfl rfl (Nat.le_of_ble_eq_true rfl) rfl dX7_init_12 (fun H locs w => ?_)
  refine lv_aload_n hx hb dX7_init_15 rfl (lv_at hl 0 rfl) ?_
  refine lv_iconst (v := 0) hx hb dX7_init_16 (by decide) ?_
  refine pf_RX7_18_13 (fs1 := [.ref sz, .int 0, .long 0, .long 0]) S hE w g_up_s rfl rfl (Nat.le_of_ble_eq_true rfl) rfl dX7_init_17 (fun H locs w => ?_)
  have w := g_eqw w g_over
  refine lv_aload_n hx hb dX7_init_20 rfl (lv_at hl 0 rfl) ?_
  refine lv_lconst (v := 0) hx hb dX7_init_21 (by decide) ?_
  refine pf_RX7_22_13 (fs1 := [.ref sz, .int 0, .long 0, .long 0]) S hE w g_up_s rfl rfl (Nat.le_of_ble_eq_true rfl) rfl dX7_init_22 (fun H locs w => ?_)
  have w := g_eqw w g_over
  refine lv_aload_n hx hb dX7_init_25 rfl (lv_at hl 0 rfl) ?_
  refine lv_lconst (v := 1) hx hb dX7_init_26 (by decide) ?_
  refine pf_RX7_26_13 (fs1 := [.ref sz, .int 0, .long 0, .long 1]) S hE w g_up_s rfl rfl (Nat.le_of_ble_eq_true rfl) rfl dX7_init_27 (fun H locs w => ?_)
  have w := g_eqw w g_over
  exact g_vret hx hb hr hlk w (Nat.le_of_ble_eq_true rfl) (Nat.le_of_ble_eq_true rfl) dX7_init_30 rfl
/-- row of a longs' array filled up to i -/
def fillJ (f : Nat → Int64) (v : Int64) (i : Nat) : Nat → Int64 := fun k => if k < i then v else f k
theorem fillJ_0 {f : Nat → Int64} {v : Int64} : fillJ f v 0 = f := by funext k; simp [fillJ]
theorem fillJ_s {f : Nat → Int64} {v : Int64} {i : Nat} (h : i < 2 ^ 31) : vp_updL (fillJ f v i) (nI i).toNatClampNeg v = fillJ f v (i + 1) := by
  funext k
  rw [nI_clamp h]
  unfold fillJ vp_updL
  by_cases h1 : k = i
  · simp [h1]
  · by_cases h2 : k < i
    · have h3 : k < i + 1 := by omega
      simp [h1, h2, h3]
    · have h3 : ¬ k < i + 1 := by omega
      simp [h1, h2, h3]
set_option maxHeartbeats 4000000 in
set_option maxRecDepth 100000 in
theorem c_fillJ (l : Launch) (D : va_G) (ar : Nat → ClassId) (κ : Nat → Nat) (G : gW) (sz : Nat) (a : Nat) (v : Int64) (n : Nat) (f : Nat → Int64) (ha : G a = some (.inl (ar 1, n, .inr (.inl f)))) (hn : n < 2 ^ 31) : Met l yJ7_fill_d0a16 (lwC yJ7_fill_d0a16 cJ7_fill_d0a16 5 none) (rD 1 0 0) (g_Pc D vwCl (gT ar) (EX1 κ) G sz [.ref a, .long v]) (g_Qv D vwCl (g_A G sz) (fun u => u = (g_up G a (.inl (ar 1, n, .inr (.inl (fillJ f v n)))), sz))) 0 0 (g_A G sz) := by
  refine g_ofW (by decide +kernel) (Nat.le_of_ble_eq_true rfl) ?_
  intro p e s m below meth c ls S hr hlk hin hE w hl
  have hx := S.1
  have hb := S.2.1
  have hl : lv_has ls 5 [(0, .ref a), (1, .long v)] := hl
  refine lv_iconst (v := 0) hx hb dJ7_fill_d0a16_0 (by decide) ?_
  refine lv_istore_n (lv' := [(3, .int 0), (0, .ref a), (1, .long v)]) hx hb dJ7_fill_d0a16_1 rfl hl (by decide) rfl (fun ls hl => ?_)
  refine lv_aload_n hx hb dJ7_fill_d0a16_2 rfl (lv_at hl 1 rfl) ?_
  refine va_alen (v := Int32.ofNat n) hx hb hE.1 (g_1 w.1 ha) 0 1 rfl rfl rfl dJ7_fill_d0a16_3 ?_
  refine lv_istore (lv' := [(4, .int (Int32.ofNat n)), (3, .int 0), (0, .ref a), (1, .long v)]) hx hb dJ7_fill_d0a16_4 hl (by decide) rfl (fun ls hl => ?_)
  have key : ∀ (n9 i : Nat), i ≤ n → n + 1 ≤ i + n9 → ∀ (x9 : Int32), x9 = nI i → ∀ (H : Heap) (locs : List Loc) (ls : Array Slot), g_S D vwCl (g_A G sz) s.heap ((g_up G a (.inl (ar 1, n, .inr (.inl (fillJ f v i)))))) H locs (sz) → lv_has ls 5 [(3, .int x9), (4, .int (Int32.ofNat n)), (0, .ref a), (1, .long v)] → W p l e (rD 1 0 0) s m ([.ref a, .long v] : List Value).toArray below meth c H locs (0) (0) (MQ below (g_Qv D vwCl (g_A G sz) (fun u => u = (g_up G a (.inl (ar 1, n, .inr (.inl (fillJ f v n)))), sz))) ([.ref a, .long v] : List Value).toArray s 0 0 (g_A G sz)) (F0 m 6 ls []) := by
    intro n9
    induction n9 with
    | zero => intro i hi1 hi2; exact absurd hi2 (by omega)
    | succ n9 ih =>
      intro i hi1 hi2 x9 ex9 H locs ls w hl
      refine lv_iload_n hx hb dJ7_fill_d0a16_6 rfl (lv_at hl 0 rfl) ?_
      refine lv_iload hx hb dJ7_fill_d0a16_7 (lv_at hl 1 rfl) ?_
      refine lv_icmp_ge (tgt := 22) hx hb dJ7_fill_d0a16_9 (by decide) (fun c_9 => ?_) (fun c_9 => ?_)
      · have hin9 := lp_eq rfl ex9 hi1 hn c_9
        exact g_vret hx hb hr hlk w (by (try dsimp only [rD]); omega) (by (try dsimp only [rD]); omega) dJ7_fill_d0a16_22 (by rw [hin9])
      · have hlt9 := lp_lt rfl ex9 hi1 hn c_9
        refine lv_aload_n hx hb dJ7_fill_d0a16_12 rfl (lv_at hl 2 rfl) ?_
        refine lv_iload_n hx hb dJ7_fill_d0a16_13 rfl (lv_at hl 0 rfl) ?_
        refine lv_lload_n hx hb dJ7_fill_d0a16_14 rfl (lv_at hl 3 rfl) ?_
        refine g_last hx hb hE.1 w 1 g_up_s rfl (by rw [ex9]; exact vp_in_nI (by omega) hn) dJ7_fill_d0a16_15 (fun H locs w => ?_)
        have w := g_eqw w g_over
        refine lv_iinc (v := x9 + 1) (lv' := [(3, .int (x9 + 1)), (4, .int (Int32.ofNat n)), (0, .ref a), (1, .long v)]) hx hb dJ7_fill_d0a16_16 hl (k := 0) rfl rfl (by decide) rfl (fun ls hl => ?_)
        refine lv_goto (tgt := 6) hx hb dJ7_fill_d0a16_19 (by decide) ?_
        exact ih (i + 1) (by omega) (by omega) _ (by rw [ex9]; exact nI_1 i) _ _ _ (by rw [ex9, fillJ_s (by omega)] at w; exact w) (lv_sub hl [0, 1, 2, 3] rfl)
  exact key (n + 1) 0 (Nat.zero_le _) (by omega) 0 rfl _ _ _ (g_eqw w (by rw [fillJ_0]; exact (g_id ha).symm)) (lv_sub hl [1, 0, 2, 3] rfl)
end
section
theorem dX5_init_0 : decode cX5_init 0 = .ok (.aload_n 0, 1) := by decide +kernel
theorem dX5_init_1 : decode cX5_init 1 = .ok (.invokespecial 3, 3) := by decide +kernel
theorem dX5_init_4 : decode cX5_init 4 = .ok (.aload_n 0, 1) := by decide +kernel
theorem dX5_init_5 : decode cX5_init 5 = .ok (.bipush 60, 2) := by decide +kernel
theorem dX5_init_7 : decode cX5_init 7 = .ok (.anewarray 9, 3) := by decide +kernel
theorem dX5_init_10 : decode cX5_init 10 = .ok (.putfield 11, 3) := by decide +kernel
theorem dX5_init_13 : decode cX5_init 13 = .ok (.aload_n 0, 1) := by decide +kernel
theorem dX5_init_14 : decode cX5_init 14 = .ok (.bipush 60, 2) := by decide +kernel
theorem dX5_init_16 : decode cX5_init 16 = .ok (.anewarray 9, 3) := by decide +kernel
theorem dX5_init_19 : decode cX5_init 19 = .ok (.putfield 17, 3) := by decide +kernel
theorem dX5_init_22 : decode cX5_init 22 = .ok (.aload_n 0, 1) := by decide +kernel
theorem dX5_init_23 : decode cX5_init 23 = .ok (.iconst 0, 1) := by decide +kernel
theorem dX5_init_24 : decode cX5_init 24 = .ok (.putfield 20, 3) := by decide +kernel
theorem dX5_init_27 : decode cX5_init 27 = .ok (.aload_n 0, 1) := by decide +kernel
theorem dX5_init_28 : decode cX5_init 28 = .ok (.iconst 0, 1) := by decide +kernel
theorem dX5_init_29 : decode cX5_init 29 = .ok (.putfield 24, 3) := by decide +kernel
theorem dX5_init_32 : decode cX5_init 32 = .ok (.aload_n 0, 1) := by decide +kernel
theorem dX5_init_33 : decode cX5_init 33 = .ok (.iconst 0, 1) := by decide +kernel
theorem dX5_init_34 : decode cX5_init 34 = .ok (.putfield 27, 3) := by decide +kernel
theorem dX5_init_37 : decode cX5_init 37 = .ok (.iconst 0, 1) := by decide +kernel
theorem dX5_init_38 : decode cX5_init 38 = .ok (.istore_n 1, 1) := by decide +kernel
theorem dX5_init_39 : decode cX5_init 39 = .ok (.iload_n 1, 1) := by decide +kernel
theorem dX5_init_40 : decode cX5_init 40 = .ok (.aload_n 0, 1) := by decide +kernel
theorem dX5_init_41 : decode cX5_init 41 = .ok (.getfield 11, 3) := by decide +kernel
theorem dX5_init_44 : decode cX5_init 44 = .ok (.arraylength, 1) := by decide +kernel
theorem dX5_init_45 : decode cX5_init 45 = .ok (.if_icmp .ge 22, 3) := by decide +kernel
theorem dX5_init_48 : decode cX5_init 48 = .ok (.aload_n 0, 1) := by decide +kernel
theorem dX5_init_49 : decode cX5_init 49 = .ok (.getfield 11, 3) := by decide +kernel
theorem dX5_init_52 : decode cX5_init 52 = .ok (.iload_n 1, 1) := by decide +kernel
theorem dX5_init_53 : decode cX5_init 53 = .ok (.new 9, 3) := by decide +kernel
theorem dX5_init_56 : decode cX5_init 56 = .ok (.dup, 1) := by decide +kernel
theorem dX5_init_57 : decode cX5_init 57 = .ok (.invokespecial 30, 3) := by decide +kernel
theorem dX5_init_60 : decode cX5_init 60 = .ok (.aastore, 1) := by decide +kernel
theorem dX5_init_61 : decode cX5_init 61 = .ok (.iinc 1 1, 3) := by decide +kernel
theorem dX5_init_64 : decode cX5_init 64 = .ok (.goto (-25), 3) := by decide +kernel
theorem dX5_init_67 : decode cX5_init 67 = .ok (.return_, 1) := by decide +kernel
section SITES
variable {p : Program} {l : Launch} {e : Env} {R : Room} {s : State} {m : MethodId} {args : Array Value} {below : List Frame} {meth : Method} {c : Code} {H : Heap} {locs : List Loc} {cells slots : Nat} {Q : State → Prop}
variable {pc : Nat} {ls : Array Slot} {rest : List Value} {D : va_G} {ar : Nat → ClassId} {κ : Nat → Nat} {A : Nat → Prop} {a : Nat} {H0 : Heap} {G : gW} {nz nL : Nat} {cc : ByteArray}
theorem m_1_104 : (Cond.methodLink RX5 3 objectInit) ∈ lwA := lwA_mk (ck_1 _ (List.mem_of_getElem? (i := 104) rfl)) rfl
theorem m_1_105 : (Cond.classLink RX5 9 "Sendhouse$Thing") ∈ lwA := lwA_mk (ck_1 _ (List.mem_of_getElem? (i := 105) rfl)) rfl
theorem inA_RX5 : ∀ w ∈ u_ws RX5 TX5 5, w ∈ lwA := gA_r _ [185, 187, 189, 191, 193] (by decide +kernel) (by decide +kernel)
theorem m_1_138 : (Cond.fieldLink RX5 11 "Sendhouse$Things" "all" "[LSendhouse$Thing;") ∈ lwA := lwA_mk (ck_1 _ (List.mem_of_getElem? (i := 138) rfl)) rfl
theorem pf_RX5_11_11 {A9 : Nat → Prop} {H9 : Heap} {fs : List Value} {v : Value} (S : CallFix p m c cc nL s args lwA RX5) (hE : g_E D vwCl (gT ar) (EX1 κ) A9 s H9) (hin : meth.name = "<init>") (w : g_S D vwCl A H0 G H locs nz) (ha : G a = some (.inr (11, fs))) (hn : narrow (.array (.object "Sendhouse$Thing")) v = v) (hfit : fits (.array (.object "Sendhouse$Thing")) v = true) (hl : 0 < fs.length) {fs1 : List Value} (hfs : fs.set 0 v = fs1) (hdg : decode cc pc = .ok (.putfield 11, 3)) (kk : ∀ (H1 : Heap) (locs1 : List Loc), g_S D vwCl A H0 (g_up G a (.inr (11, fs1))) H1 locs1 nz → W p l e R s m args below meth c H1 locs1 cells slots Q (F0 m (pc + 3) ls rest)) : W p l e R s m args below meth c H locs cells slots Q (F0 m pc ls (v :: .ref a :: rest)) :=
  g_putF (ci := 11) (ty := (.array (.object "Sendhouse$Thing"))) (C := RX5) (T := TX5) (N := 5) S.1 S.2.1 S.2.2.2.2 inA_RX5 tyX5 tyX5_ok nmX5 S.2.2.2.1 hE.1 w ha rfl 0 (by decide) (S.2.2.2.2 _ m_1_138) (fun _ h => h) rfl hin rfl (by decide +kernel) hn hfit hl hdg (fun H1 l1 w1 => kk H1 l1 (by rw [← hfs]; exact w1))
theorem m_1_139 : (Cond.fieldLink RX5 17 "Sendhouse$Things" "reached" "[LSendhouse$Thing;") ∈ lwA := lwA_mk (ck_1 _ (List.mem_of_getElem? (i := 139) rfl)) rfl
theorem pf_RX5_17_11 {A9 : Nat → Prop} {H9 : Heap} {fs : List Value} {v : Value} (S : CallFix p m c cc nL s args lwA RX5) (hE : g_E D vwCl (gT ar) (EX1 κ) A9 s H9) (hin : meth.name = "<init>") (w : g_S D vwCl A H0 G H locs nz) (ha : G a = some (.inr (11, fs))) (hn : narrow (.array (.object "Sendhouse$Thing")) v = v) (hfit : fits (.array (.object "Sendhouse$Thing")) v = true) (hl : 1 < fs.length) {fs1 : List Value} (hfs : fs.set 1 v = fs1) (hdg : decode cc pc = .ok (.putfield 17, 3)) (kk : ∀ (H1 : Heap) (locs1 : List Loc), g_S D vwCl A H0 (g_up G a (.inr (11, fs1))) H1 locs1 nz → W p l e R s m args below meth c H1 locs1 cells slots Q (F0 m (pc + 3) ls rest)) : W p l e R s m args below meth c H locs cells slots Q (F0 m pc ls (v :: .ref a :: rest)) :=
  g_putF (ci := 11) (ty := (.array (.object "Sendhouse$Thing"))) (C := RX5) (T := TX5) (N := 5) S.1 S.2.1 S.2.2.2.2 inA_RX5 tyX5 tyX5_ok nmX5 S.2.2.2.1 hE.1 w ha rfl 1 (by decide) (S.2.2.2.2 _ m_1_139) (fun _ h => h) rfl hin rfl (by decide +kernel) hn hfit hl hdg (fun H1 l1 w1 => kk H1 l1 (by rw [← hfs]; exact w1))
theorem m_1_140 : (Cond.fieldLink RX5 20 "Sendhouse$Things" "count" "I") ∈ lwA := lwA_mk (ck_1 _ (List.mem_of_getElem? (i := 140) rfl)) rfl
theorem pf_RX5_20_11 {A9 : Nat → Prop} {H9 : Heap} {fs : List Value} {v : Value} (S : CallFix p m c cc nL s args lwA RX5) (hE : g_E D vwCl (gT ar) (EX1 κ) A9 s H9) (w : g_S D vwCl A H0 G H locs nz) (ha : G a = some (.inr (11, fs))) (hn : narrow .int v = v) (hfit : fits .int v = true) (hl : 2 < fs.length) {fs1 : List Value} (hfs : fs.set 2 v = fs1) (hdg : decode cc pc = .ok (.putfield 20, 3)) (kk : ∀ (H1 : Heap) (locs1 : List Loc), g_S D vwCl A H0 (g_up G a (.inr (11, fs1))) H1 locs1 nz → W p l e R s m args below meth c H1 locs1 cells slots Q (F0 m (pc + 3) ls rest)) : W p l e R s m args below meth c H locs cells slots Q (F0 m pc ls (v :: .ref a :: rest)) :=
  g_put (ci := 11) (ty := .int) (C := RX5) (T := TX5) (N := 5) S.1 S.2.1 S.2.2.2.2 inA_RX5 tyX5 tyX5_ok nmX5 S.2.2.2.1 hE.1 w ha rfl 2 (by decide) (S.2.2.2.2 _ m_1_140) (fun _ h => h) rfl (by decide +kernel) hn hfit hl hdg (fun H1 l1 w1 => kk H1 l1 (by rw [← hfs]; exact w1))
theorem m_1_142 : (Cond.fieldLink RX5 24 "Sendhouse$Things" "reachedCount" "I") ∈ lwA := lwA_mk (ck_1 _ (List.mem_of_getElem? (i := 142) rfl)) rfl
theorem pf_RX5_24_11 {A9 : Nat → Prop} {H9 : Heap} {fs : List Value} {v : Value} (S : CallFix p m c cc nL s args lwA RX5) (hE : g_E D vwCl (gT ar) (EX1 κ) A9 s H9) (w : g_S D vwCl A H0 G H locs nz) (ha : G a = some (.inr (11, fs))) (hn : narrow .int v = v) (hfit : fits .int v = true) (hl : 3 < fs.length) {fs1 : List Value} (hfs : fs.set 3 v = fs1) (hdg : decode cc pc = .ok (.putfield 24, 3)) (kk : ∀ (H1 : Heap) (locs1 : List Loc), g_S D vwCl A H0 (g_up G a (.inr (11, fs1))) H1 locs1 nz → W p l e R s m args below meth c H1 locs1 cells slots Q (F0 m (pc + 3) ls rest)) : W p l e R s m args below meth c H locs cells slots Q (F0 m pc ls (v :: .ref a :: rest)) :=
  g_put (ci := 11) (ty := .int) (C := RX5) (T := TX5) (N := 5) S.1 S.2.1 S.2.2.2.2 inA_RX5 tyX5 tyX5_ok nmX5 S.2.2.2.1 hE.1 w ha rfl 3 (by decide) (S.2.2.2.2 _ m_1_142) (fun _ h => h) rfl (by decide +kernel) hn hfit hl hdg (fun H1 l1 w1 => kk H1 l1 (by rw [← hfs]; exact w1))
theorem m_1_143 : (Cond.fieldLink RX5 27 "Sendhouse$Things" "made" "I") ∈ lwA := lwA_mk (ck_1 _ (List.mem_of_getElem? (i := 143) rfl)) rfl
theorem pf_RX5_27_11 {A9 : Nat → Prop} {H9 : Heap} {fs : List Value} {v : Value} (S : CallFix p m c cc nL s args lwA RX5) (hE : g_E D vwCl (gT ar) (EX1 κ) A9 s H9) (w : g_S D vwCl A H0 G H locs nz) (ha : G a = some (.inr (11, fs))) (hn : narrow .int v = v) (hfit : fits .int v = true) (hl : 4 < fs.length) {fs1 : List Value} (hfs : fs.set 4 v = fs1) (hdg : decode cc pc = .ok (.putfield 27, 3)) (kk : ∀ (H1 : Heap) (locs1 : List Loc), g_S D vwCl A H0 (g_up G a (.inr (11, fs1))) H1 locs1 nz → W p l e R s m args below meth c H1 locs1 cells slots Q (F0 m (pc + 3) ls rest)) : W p l e R s m args below meth c H locs cells slots Q (F0 m pc ls (v :: .ref a :: rest)) :=
  g_put (ci := 11) (ty := .int) (C := RX5) (T := TX5) (N := 5) S.1 S.2.1 S.2.2.2.2 inA_RX5 tyX5 tyX5_ok nmX5 S.2.2.2.1 hE.1 w ha rfl 4 (by decide) (S.2.2.2.2 _ m_1_143) (fun _ h => h) rfl (by decide +kernel) hn hfit hl hdg (fun H1 l1 w1 => kk H1 l1 (by rw [← hfs]; exact w1))
theorem gf_RX5_11_11 {A9 : Nat → Prop} {H9 : Heap} {fs : List Value} {v : Value} (S : CallFix p m c cc nL s args lwA RX5) (hE : g_E D vwCl (gT ar) (EX1 κ) A9 s H9) (w : g_S D vwCl A H0 G H locs nz) (ha : G a = some (.inr (11, fs))) (hv : fs[0]? = some v) (hdg : decode cc pc = .ok (.getfield 11, 3)) (kk : W p l e R s m args below meth c H locs cells slots Q (F0 m (pc + 3) ls (v :: rest))) : W p l e R s m args below meth c H locs cells slots Q (F0 m pc ls (.ref a :: rest)) :=
  va_get (ci := 11) (C := RX5) (T := TX5) (N := 5) S.1 S.2.1 S.2.2.2.2 inA_RX5 S.2.2.2.1 hE.1 (g_1 w.1 ha) 0 rfl rfl 0 (by decide) (S.2.2.2.2 _ m_1_138) (fun _ h => h) hv hdg kk
theorem m_1_107 : (Cond.instantiable RX4 5) ∈ lwA := lwA_mk (ck_1 _ (List.mem_of_getElem? (i := 107) rfl)) rfl
theorem m_1_5 : (Cond.initialized RX4) ∈ lwA := lwA_mk (ck_1 _ (List.mem_of_getElem? (i := 5) rfl)) rfl
theorem nw_RX5_9 {A9 : Nat → Prop} {H9 : Heap} (S : CallFix p m c cc nL s args lwA RX5) (hE : g_E D vwCl (gT ar) (EX1 κ) A9 s H9) (w : g_S D vwCl A H0 G H locs nz) (hcells : cells + 1 ≤ R.cells) (hslots : slots + 5 ≤ R.slots) (hdg : decode cc pc = .ok (.new 9, 3)) (kk : ∀ (H1 : Heap), g_S D vwCl A H0 (g_up G nz (.inr (10, [.null, .int 0, .int 0, .int 0, .int 0]))) H1 locs (nz + 1) → W p l e R s m args below meth c H1 locs (cells + 1) (slots + 5) Q (F0 m (pc + 3) ls (.ref nz :: rest))) : W p l e R s m args below meth c H locs cells slots Q (F0 m pc ls rest) :=
  g_new (ci := 10) (fs := [.null, .int 0, .int 0, .int 0, .int 0]) (C := RX4) (T := TX4) (N := 5) S.1 S.2.1 S.2.2.2.2 inA_RX4 tyX4 tyX4_ok S.2.2.2.1 (S.2.2.2.2 _ m_1_105) (S.2.2.2.2 _ m_1_107) (S.2.2.2.2 _ m_1_5) hE.1 w rfl (fun j hj => by rcases (show j = 0 ∨ j = 1 ∨ j = 2 ∨ j = 3 ∨ j = 4 by omega) with rfl | rfl | rfl | rfl | rfl <;> rfl) hcells hslots hdg kk
theorem m_1_110 : (Cond.code yX4_init cX4_init 1 none) ∈ lwA := lwA_mk (ck_1 _ (List.mem_of_getElem? (i := 110) rfl)) rfl
theorem m_1_109 : (Cond.instanceMethod yX4_init) ∈ lwA := lwA_mk (ck_1 _ (List.mem_of_getElem? (i := 109) rfl)) rfl
theorem k_RX5_30 {args : Array Value} {s : State} {R rm : Room} (hts : ∀ w ∈ lwA, w.before args s = true) (hN : va_Nw (.methodLinkNest RX5 30 yX4_init "Sendhouse") s) (hR : rm.frames + 1 ≤ R.frames ∧ 8 + (1 + 11) + rm.locals ≤ R.locals) : va_CN R s args RX5 30 yX4_init "Sendhouse" cX4_init 1 none (lwC yX4_init cX4_init 1 none) rm rm.cells rm.slots 0 ∧ yX4_init.name = "<init>" ∧ (Cond.instanceMethod yX4_init).before args s = true := ⟨va_cnB 0 hts (gd m_1_110) rfl rfl rfl hN (hts _ m_1_5) (by decide +kernel) hR, rfl, hts _ m_1_109⟩
end SITES
/-- i things behind each other from q on: an object and its eight places each -/
def thG (W : gW) (ar : Nat → ClassId) (q i : Nat) : gW := fun a => if q ≤ a ∧ a < q + 2 * i then (if (a - q) % 2 = 0 then some (.inr (10, [.ref (a + 1), .int 0, .int 0, .int 0, .int 0])) else some (.inl (ar 1, 8, .inr (.inl (fun _ => 0))))) else W a
def thF (q i : Nat) : Nat → Option Nat := fun k => if k < i then some (q + 2 * k) else none
theorem thG_0 {W : gW} {ar : Nat → ClassId} {q : Nat} : thG W ar q 0 = W := by
  funext a
  unfold thG
  rw [if_neg (by omega)]
theorem thG_b {W : gW} {ar : Nat → ClassId} {q i a : Nat} {e : va_E} (h : a < q) (hw : W a = some e) : thG W ar q i a = some e := by
  unfold thG
  rw [if_neg (by omega)]
  exact hw
theorem thG_s {W : gW} {ar : Nat → ClassId} {q i b a1 a2 : Nat} {e : va_E} (h1 : a1 = q + 2 * i) (h2 : a2 = q + 2 * i + 1) (hb : b < q) : g_up (g_up (g_up (thG W ar q i) a1 (.inr (10, [.ref a2, .int 0, .int 0, .int 0, .int 0]))) a2 (.inl (ar 1, 8, .inr (.inl (fun _ => 0))))) b e = thG (g_up W b e) ar q (i + 1) := by
  subst h1 h2
  funext a
  by_cases c0 : a = b
  · subst c0
    rw [g_up_s]
    unfold thG
    rw [if_neg (by omega), g_up_s]
  · rw [g_up_n c0]
    by_cases c1 : a = q + 2 * i + 1
    · subst c1
      rw [g_up_s]
      unfold thG
      rw [if_pos (by omega), if_neg (by omega)]
    · rw [g_up_n c1]
      by_cases c2 : a = q + 2 * i
      · subst c2
        rw [g_up_s]
        unfold thG
        rw [if_pos (by omega), if_pos (by omega)]
      · rw [g_up_n c2]
        unfold thG
        by_cases c3 : q ≤ a ∧ a < q + 2 * i
        · have c9 : q ≤ a ∧ a < q + 2 * (i + 1) := by omega
          rw [if_pos c3, if_pos c9]
        · rw [if_neg c3, if_neg (by omega), g_up_n c0]
theorem thF_0 {q : Nat} : thF q 0 = fun _ => none := by funext k; simp [thF]
theorem thF_s {q i y : Nat} (h : i < 2 ^ 31) (hy : y = q + 2 * i) : va_up (thF q i) (nI i).toNatClampNeg (some y) = thF q (i + 1) := by
  subst hy
  funext k
  rw [nI_clamp h]
  unfold va_up thF
  by_cases h1 : k = i
  · simp [h1]
  · by_cases h2 : k < i
    · have h3 : k < i + 1 := by omega
      simp [h1, h2, h3]
    · have h3 : ¬ k < i + 1 := by omega
      simp [h1, h2, h3]
/-- i frames from q on: an object and its three rows each -/
def frG (W : gW) (ar : Nat → ClassId) (q i : Nat) : gW := fun a => if q ≤ a ∧ a < q + 4 * i then (if (a - q) % 4 = 0 then some (.inr (7, [.ref (a + 1), .ref (a + 2), .ref (a + 3), .null, .long 502511173632, .int 0, .int 0])) else if (a - q) % 4 = 1 then some (.inl (ar 1, 2, .inr (.inl (fun _ => 0)))) else if (a - q) % 4 = 2 then some (.inl (ar 1, 4, .inr (.inl (fun _ => 0)))) else some (.inl (ar 1, 8, .inr (.inl (fun _ => 0))))) else W a
def frF (q i : Nat) : Nat → Option Nat := fun k => if k < i then some (q + 4 * k) else none
theorem frG_0 {W : gW} {ar : Nat → ClassId} {q : Nat} : frG W ar q 0 = W := by
  funext a
  unfold frG
  rw [if_neg (by omega)]
theorem frG_b {W : gW} {ar : Nat → ClassId} {q i a : Nat} {e : va_E} (h : a < q) (hw : W a = some e) : frG W ar q i a = some e := by
  unfold frG
  rw [if_neg (by omega)]
  exact hw
theorem frG_s {W : gW} {ar : Nat → ClassId} {q i b a1 a2 a3 a4 : Nat} {e : va_E} (h1 : a1 = q + 4 * i) (h2 : a2 = q + 4 * i + 1) (h3 : a3 = q + 4 * i + 2) (h4 : a4 = q + 4 * i + 3) (hb : b < q) : g_up (g_up (g_up (g_up (g_up (frG W ar q i) a1 (.inr (7, [.ref a2, .ref a3, .ref a4, .null, .long 502511173632, .int 0, .int 0]))) a2 (.inl (ar 1, 2, .inr (.inl (fun _ => 0))))) a3 (.inl (ar 1, 4, .inr (.inl (fun _ => 0))))) a4 (.inl (ar 1, 8, .inr (.inl (fun _ => 0))))) b e = frG (g_up W b e) ar q (i + 1) := by
  subst h1 h2 h3 h4
  funext a
  by_cases c0 : a = b
  · subst c0
    rw [g_up_s]
    unfold frG
    rw [if_neg (by omega), g_up_s]
  · rw [g_up_n c0]
    by_cases c1 : a = q + 4 * i + 3
    · subst c1
      rw [g_up_s]
      unfold frG
      rw [if_pos (by omega), if_neg (by omega), if_neg (by omega), if_neg (by omega)]
    · rw [g_up_n c1]
      by_cases c2 : a = q + 4 * i + 2
      · subst c2
        rw [g_up_s]
        unfold frG
        rw [if_pos (by omega), if_neg (by omega), if_neg (by omega), if_pos (by omega)]
      · rw [g_up_n c2]
        by_cases c4 : a = q + 4 * i + 1
        · subst c4
          rw [g_up_s]
          unfold frG
          rw [if_pos (by omega), if_neg (by omega), if_pos (by omega)]
        · rw [g_up_n c4]
          by_cases c5 : a = q + 4 * i
          · subst c5
            rw [g_up_s]
            unfold frG
            rw [if_pos (by omega), if_pos (by omega)]
          · rw [g_up_n c5]
            unfold frG
            by_cases c3 : q ≤ a ∧ a < q + 4 * i
            · have c9 : q ≤ a ∧ a < q + 4 * (i + 1) := by omega
              rw [if_pos c3, if_pos c9]
            · rw [if_neg c3, if_neg (by omega), g_up_n c0]
theorem frF_0 {q : Nat} : frF q 0 = fun _ => none := by funext k; simp [frF]
theorem frF_s {q i y : Nat} (h : i < 2 ^ 31) (hy : y = q + 4 * i) : va_up (frF q i) (nI i).toNatClampNeg (some y) = frF q (i + 1) := by
  subst hy
  funext k
  rw [nI_clamp h]
  unfold va_up frF
  by_cases h1 : k = i
  · simp [h1]
  · by_cases h2 : k < i
    · have h3 : k < i + 1 := by omega
      simp [h1, h2, h3]
    · have h3 : ¬ k < i + 1 := by omega
      simp [h1, h2, h3]
set_option maxHeartbeats 4000000 in
set_option maxRecDepth 100000 in
theorem c_X5_init (l : Launch) (D : va_G) (ar : Nat → ClassId) (κ : Nat → Nat) (G : gW) (sz : Nat) (o : Nat) (ho : G o = some (.inr (11, [.null, .null, .int 0, .int 0, .int 0]))) : Met l yX5_init (lwC yX5_init cX5_init 2 none) (rD 4 122 900) (g_Pc D vwCl (gT ar) (EX1 κ) G sz [.ref o]) (g_Qv D vwCl (g_A G sz) (fun u => u = ((thG (g_up (g_up (g_up G sz (.inl (ar 6, 60, .inr (.inr (.inr (.inr (thF (sz + 2) 60))))))) o (.inr (11, [.ref sz, .ref (sz + 1), .int 0, .int 0, .int 0]))) (sz + 1) (.inl (ar 6, 60, .inr (.inr (.inr (.inr (fun _ => none))))))) ar (sz + 2) 60), sz + 122))) 122 900 (g_A G sz) := by
  refine g_ofW (by decide +kernel) (Nat.le_of_ble_eq_true rfl) ?_
  intro p e s m below meth c ls S hr hlk hin hE w hl
  have hx := S.1
  have hb := S.2.1
  have hl : lv_has ls 2 [(0, .ref o)] := hl
  have lt_ho : o < sz := g_ltn w ho
  refine lv_aload_n hx hb dX5_init_0 rfl (lv_at hl 0 rfl) ?_
  refine W.objInit hx hb S.2.2.2.1 (S.2.2.2.2 _ m_1_104) (S.2.2.2.2 _ m_1_46) (S.2.2.2.2 _ m_obj) rfl (by rw [S.2.2.1]; exact hl.1) rfl dX5_init_1 (Nat.le_of_ble_eq_true rfl) (Nat.le_of_ble_eq_true rfl) ?_
  refine W.eq (g2 := F0 m 4 ls []) rfl ?_
  refine lv_aload_n hx hb dX5_init_4 rfl (lv_at hl 0 rfl) ?_
  refine lv_bipush (v := 60) hx hb dX5_init_5 (by decide) ?_
  refine g_newq (N' := 60) hx hb S.2.2.2.1 (S.2.2.2.2 _ m_1_105) (va_AO.use (C := "Sendhouse$Thing") (hE.2.1.1 _ (ckN_0 _ (List.mem_of_getElem? (i := 5) rfl)))) hE.1 w 6 rfl (by decide) rfl (Nat.le_of_ble_eq_true rfl) (Nat.le_of_ble_eq_true rfl) (Nat.le_of_ble_eq_true rfl) dX5_init_7 (fun H w => ?_)
  refine pf_RX5_11_11 (fs1 := [.ref sz, .null, .int 0, .int 0, .int 0]) S hE hin w (g_up_o (by omega) ho) rfl rfl (Nat.le_of_ble_eq_true rfl) rfl dX5_init_10 (fun H locs w => ?_)
  refine lv_aload_n hx hb dX5_init_13 rfl (lv_at hl 0 rfl) ?_
  refine lv_bipush (v := 60) hx hb dX5_init_14 (by decide) ?_
  refine g_newq (N' := 60) hx hb S.2.2.2.1 (S.2.2.2.2 _ m_1_105) (va_AO.use (C := "Sendhouse$Thing") (hE.2.1.1 _ (ckN_0 _ (List.mem_of_getElem? (i := 5) rfl)))) hE.1 w 6 rfl (by decide) rfl (Nat.le_of_ble_eq_true rfl) (Nat.le_of_ble_eq_true rfl) (Nat.le_of_ble_eq_true rfl) dX5_init_16 (fun H w => ?_)
  refine pf_RX5_17_11 (fs1 := [.ref sz, .ref (sz + 1), .int 0, .int 0, .int 0]) S hE hin w (g_up_o (by omega) g_up_s) rfl rfl (Nat.le_of_ble_eq_true rfl) rfl dX5_init_19 (fun H locs w => ?_)
  have w := g_eqw w (g_inn g_over (by omega))
  refine lv_aload_n hx hb dX5_init_22 rfl (lv_at hl 0 rfl) ?_
  refine lv_iconst (v := 0) hx hb dX5_init_23 (by decide) ?_
  refine pf_RX5_20_11 (fs1 := [.ref sz, .ref (sz + 1), .int 0, .int 0, .int 0]) S hE w (g_up_o (by omega) g_up_s) rfl rfl (Nat.le_of_ble_eq_true rfl) rfl dX5_init_24 (fun H locs w => ?_)
  have w := g_eqw w (g_inn g_over (by omega))
  refine lv_aload_n hx hb dX5_init_27 rfl (lv_at hl 0 rfl) ?_
  refine lv_iconst (v := 0) hx hb dX5_init_28 (by decide) ?_
  refine pf_RX5_24_11 (fs1 := [.ref sz, .ref (sz + 1), .int 0, .int 0, .int 0]) S hE w (g_up_o (by omega) g_up_s) rfl rfl (Nat.le_of_ble_eq_true rfl) rfl dX5_init_29 (fun H locs w => ?_)
  have w := g_eqw w (g_inn g_over (by omega))
  refine lv_aload_n hx hb dX5_init_32 rfl (lv_at hl 0 rfl) ?_
  refine lv_iconst (v := 0) hx hb dX5_init_33 (by decide) ?_
  refine pf_RX5_27_11 (fs1 := [.ref sz, .ref (sz + 1), .int 0, .int 0, .int 0]) S hE w (g_up_o (by omega) g_up_s) rfl rfl (Nat.le_of_ble_eq_true rfl) rfl dX5_init_34 (fun H locs w => ?_)
  have w := g_eqw w (g_inn g_over (by omega))
  refine lv_iconst (v := 0) hx hb dX5_init_37 (by decide) ?_
  refine lv_istore_n (lv' := [(1, .int 0), (0, .ref o)]) hx hb dX5_init_38 rfl hl (by decide) rfl (fun ls hl => ?_)
  have key : ∀ (n9 i : Nat), i ≤ 60 → 60 + 1 ≤ i + n9 → ∀ (x9 : Int32), x9 = nI i → ∀ (H : Heap) (locs : List Loc) (ls : Array Slot), g_S D vwCl (g_A G sz) s.heap ((thG (g_up (g_up (g_up G sz (.inl (ar 6, 60, .inr (.inr (.inr (.inr (thF (sz + 2) i))))))) o (.inr (11, [.ref sz, .ref (sz + 1), .int 0, .int 0, .int 0]))) (sz + 1) (.inl (ar 6, 60, .inr (.inr (.inr (.inr (fun _ => none))))))) ar (sz + 2) i)) H locs (sz + 2 + 2 * i) → lv_has ls 2 [(1, .int x9), (0, .ref o)] → W p l e (rD 4 122 900) s m ([.ref o] : List Value).toArray below meth c H locs (2 + 2 * i) (120 + 13 * i) (MQ below (g_Qv D vwCl (g_A G sz) (fun u => u = ((thG (g_up (g_up (g_up G sz (.inl (ar 6, 60, .inr (.inr (.inr (.inr (thF (sz + 2) 60))))))) o (.inr (11, [.ref sz, .ref (sz + 1), .int 0, .int 0, .int 0]))) (sz + 1) (.inl (ar 6, 60, .inr (.inr (.inr (.inr (fun _ => none))))))) ar (sz + 2) 60), sz + 122))) ([.ref o] : List Value).toArray s 122 900 (g_A G sz)) (F0 m 39 ls []) := by
    intro n9
    induction n9 with
    | zero => intro i hi1 hi2; exact absurd hi2 (by omega)
    | succ n9 ih =>
      intro i hi1 hi2 x9 ex9 H locs ls w hl
      refine lv_iload_n hx hb dX5_init_39 rfl (lv_at hl 0 rfl) ?_
      refine lv_aload_n hx hb dX5_init_40 rfl (lv_at hl 1 rfl) ?_
      refine gf_RX5_11_11 S hE w (thG_b (by omega) (g_up_o (by omega) g_up_s)) rfl dX5_init_41 ?_
      refine va_alen (v := 60) hx hb hE.1 (g_1 w.1 (thG_b (by omega) (g_up_o (by omega) (g_up_o (by omega) g_up_s)))) 0 6 rfl rfl rfl dX5_init_44 ?_
      refine lv_icmp_ge (tgt := 67) hx hb dX5_init_45 (by decide) (fun c_45 => ?_) (fun c_45 => ?_)
      · have hin9 := lp_eq (n := 60) rfl ex9 hi1 (by decide) c_45
        exact g_vret hx hb hr hlk w (by (try dsimp only [rD]); omega) (by (try dsimp only [rD]); omega) dX5_init_67 (by rw [hin9])
      · have hlt9 := lp_lt (n := 60) rfl ex9 hi1 (by decide) c_45
        refine lv_aload_n hx hb dX5_init_48 rfl (lv_at hl 1 rfl) ?_
        refine gf_RX5_11_11 S hE w (thG_b (by omega) (g_up_o (by omega) g_up_s)) rfl dX5_init_49 ?_
        refine lv_iload_n hx hb dX5_init_52 rfl (lv_at hl 0 rfl) ?_
        refine nw_RX5_9 S hE w (by (try dsimp only [rD]); omega) (by (try dsimp only [rD]); omega) dX5_init_53 (fun H w => ?_)
        refine lv_dup hx hb dX5_init_56 rfl ?_
        refine g_callv w (g_runIN (As := []) (rest := [.ref (sz + 2 + 2 * i), .int x9, .ref sz]) S hE w hl (c_X4_init l D ar κ (g_up (thG (g_up (g_up (g_up G sz (.inl (ar 6, 60, .inr (.inr (.inr (.inr (thF (sz + 2) i))))))) o (.inr (11, [.ref sz, .ref (sz + 1), .int 0, .int 0, .int 0]))) (sz + 1) (.inl (ar 6, 60, .inr (.inr (.inr (.inr (fun _ => none))))))) ar (sz + 2) i) (sz + 2 + 2 * i) (.inr (10, [.null, .int 0, .int 0, .int 0, .int 0]))) (sz + 2 + 2 * i + 1) (sz + 2 + 2 * i) g_up_s) (k_RX5_30 S.2.2.2.2 (hE.2.1.1 _ (ckN_0 _ (List.mem_of_getElem? (i := 6) rfl))) ⟨Nat.le_of_ble_eq_true rfl, Nat.le_of_ble_eq_true rfl⟩) rfl rfl (Nat.le_of_ble_eq_true rfl) dX5_init_57 ⟨(by (try dsimp only [rD]); omega), (by (try dsimp only [rD]); omega)⟩) (fun u H locs hp hnz w => ?_)
        obtain rfl := hp
        dsimp only at w
        have w := g_eqw w (g_inn g_over (by omega))
        refine g_astq (r := (RX4, TX4, 5)) hx hb hE.1 w 6 10 (g_up_o (by omega) (g_up_o (by omega) (thG_b (by omega) (g_up_o (by omega) (g_up_o (by omega) g_up_s))))) rfl (g_up_o (by omega) g_up_s) rfl (by rw [ex9]; exact vp_in_nI (by omega) (by decide)) dX5_init_60 (fun H locs w => ?_)
        refine lv_iinc (v := x9 + 1) (lv' := [(1, .int (x9 + 1)), (0, .ref o)]) hx hb dX5_init_61 hl (k := 0) rfl rfl (by decide) rfl (fun ls hl => ?_)
        refine lv_goto (tgt := 39) hx hb dX5_init_64 (by decide) ?_
        refine W.widen (k := 2 + 2 * (i + 1)) (n := 120 + 13 * (i + 1)) (by omega) (by omega) ?_
        rw [thG_s (by omega) (by omega) (by omega)] at w
        have w := g_eqw w (congrArg (fun X => thG X ar (sz + 2) (i + 1)) (g_inn (g_inn g_over (by omega)) (by omega)))
        rw [ex9, thF_s (by omega) (by omega)] at w
        exact ih (i + 1) (by omega) (by omega) _ (by rw [ex9]; exact nI_1 i) _ _ _ w (lv_sub hl [0, 1] rfl)
  exact key 61 0 (Nat.zero_le _) (by omega) 0 rfl _ _ _ (g_eqw w (by rw [thG_0, thF_0])) (lv_sub hl [0, 1] rfl)
end
section
theorem dX8_init_0 : decode cX8_init 0 = .ok (.aload_n 0, 1) := by decide +kernel
theorem dX8_init_1 : decode cX8_init 1 = .ok (.invokespecial 1, 3) := by decide +kernel
theorem dX8_init_4 : decode cX8_init 4 = .ok (.aload_n 0, 1) := by decide +kernel
theorem dX8_init_5 : decode cX8_init 5 = .ok (.new 7, 3) := by decide +kernel
theorem dX8_init_8 : decode cX8_init 8 = .ok (.dup, 1) := by decide +kernel
theorem dX8_init_9 : decode cX8_init 9 = .ok (.invokespecial 9, 3) := by decide +kernel
theorem dX8_init_12 : decode cX8_init 12 = .ok (.putfield 10, 3) := by decide +kernel
theorem dX8_init_15 : decode cX8_init 15 = .ok (.aload_n 0, 1) := by decide +kernel
theorem dX8_init_16 : decode cX8_init 16 = .ok (.sipush 192, 3) := by decide +kernel
theorem dX8_init_19 : decode cX8_init 19 = .ok (.anewarray 16, 3) := by decide +kernel
theorem dX8_init_22 : decode cX8_init 22 = .ok (.putfield 18, 3) := by decide +kernel
theorem dX8_init_25 : decode cX8_init 25 = .ok (.aload_n 0, 1) := by decide +kernel
theorem dX8_init_26 : decode cX8_init 26 = .ok (.new 22, 3) := by decide +kernel
theorem dX8_init_29 : decode cX8_init 29 = .ok (.dup, 1) := by decide +kernel
theorem dX8_init_30 : decode cX8_init 30 = .ok (.invokespecial 24, 3) := by decide +kernel
theorem dX8_init_33 : decode cX8_init 33 = .ok (.putfield 25, 3) := by decide +kernel
theorem dX8_init_36 : decode cX8_init 36 = .ok (.aload_n 0, 1) := by decide +kernel
theorem dX8_init_37 : decode cX8_init 37 = .ok (.iconst 0, 1) := by decide +kernel
theorem dX8_init_38 : decode cX8_init 38 = .ok (.putfield 29, 3) := by decide +kernel
theorem dX8_init_41 : decode cX8_init 41 = .ok (.aload_n 0, 1) := by decide +kernel
theorem dX8_init_42 : decode cX8_init 42 = .ok (.bipush 8, 2) := by decide +kernel
theorem dX8_init_44 : decode cX8_init 44 = .ok (.newarray .long, 2) := by decide +kernel
theorem dX8_init_46 : decode cX8_init 46 = .ok (.putfield 33, 3) := by decide +kernel
theorem dX8_init_49 : decode cX8_init 49 = .ok (.aload_n 0, 1) := by decide +kernel
theorem dX8_init_50 : decode cX8_init 50 = .ok (.new 37, 3) := by decide +kernel
theorem dX8_init_53 : decode cX8_init 53 = .ok (.dup, 1) := by decide +kernel
theorem dX8_init_54 : decode cX8_init 54 = .ok (.invokespecial 39, 3) := by decide +kernel
theorem dX8_init_57 : decode cX8_init 57 = .ok (.putfield 40, 3) := by decide +kernel
theorem dX8_init_60 : decode cX8_init 60 = .ok (.aload_n 0, 1) := by decide +kernel
theorem dX8_init_61 : decode cX8_init 61 = .ok (.bipush 12, 2) := by decide +kernel
theorem dX8_init_63 : decode cX8_init 63 = .ok (.anewarray 44, 3) := by decide +kernel
theorem dX8_init_66 : decode cX8_init 66 = .ok (.putfield 46, 3) := by decide +kernel
theorem dX8_init_69 : decode cX8_init 69 = .ok (.aload_n 0, 1) := by decide +kernel
theorem dX8_init_70 : decode cX8_init 70 = .ok (.iconst 0, 1) := by decide +kernel
theorem dX8_init_71 : decode cX8_init 71 = .ok (.putfield 50, 3) := by decide +kernel
theorem dX8_init_74 : decode cX8_init 74 = .ok (.aload_n 0, 1) := by decide +kernel
theorem dX8_init_75 : decode cX8_init 75 = .ok (.bipush 45, 2) := by decide +kernel
theorem dX8_init_77 : decode cX8_init 77 = .ok (.putfield 53, 3) := by decide +kernel
theorem dX8_init_80 : decode cX8_init 80 = .ok (.aload_n 0, 1) := by decide +kernel
theorem dX8_init_81 : decode cX8_init 81 = .ok (.bipush 32, 2) := by decide +kernel
theorem dX8_init_83 : decode cX8_init 83 = .ok (.putfield 57, 3) := by decide +kernel
theorem dX8_init_86 : decode cX8_init 86 = .ok (.aload_n 0, 1) := by decide +kernel
theorem dX8_init_87 : decode cX8_init 87 = .ok (.ldc2_w 60, 3) := by decide +kernel
theorem dX8_init_90 : decode cX8_init 90 = .ok (.putfield 62, 3) := by decide +kernel
theorem dX8_init_93 : decode cX8_init 93 = .ok (.aload_n 0, 1) := by decide +kernel
theorem dX8_init_94 : decode cX8_init 94 = .ok (.iconst 0, 1) := by decide +kernel
theorem dX8_init_95 : decode cX8_init 95 = .ok (.putfield 66, 3) := by decide +kernel
theorem dX8_init_98 : decode cX8_init 98 = .ok (.aload_n 0, 1) := by decide +kernel
theorem dX8_init_99 : decode cX8_init 99 = .ok (.new 69, 3) := by decide +kernel
theorem dX8_init_102 : decode cX8_init 102 = .ok (.dup, 1) := by decide +kernel
theorem dX8_init_103 : decode cX8_init 103 = .ok (.invokespecial 71, 3) := by decide +kernel
theorem dX8_init_106 : decode cX8_init 106 = .ok (.putfield 72, 3) := by decide +kernel
theorem dX8_init_109 : decode cX8_init 109 = .ok (.aload_n 0, 1) := by decide +kernel
theorem dX8_init_110 : decode cX8_init 110 = .ok (.getfield 33, 3) := by decide +kernel
theorem dX8_init_113 : decode cX8_init 113 = .ok (.ldc2_w 60, 3) := by decide +kernel
theorem dX8_init_116 : decode cX8_init 116 = .ok (.invokestatic 76, 3) := by decide +kernel
theorem dX8_init_119 : decode cX8_init 119 = .ok (.iconst 0, 1) := by decide +kernel
theorem dX8_init_120 : decode cX8_init 120 = .ok (.istore_n 1, 1) := by decide +kernel
theorem dX8_init_121 : decode cX8_init 121 = .ok (.iload_n 1, 1) := by decide +kernel
theorem dX8_init_122 : decode cX8_init 122 = .ok (.aload_n 0, 1) := by decide +kernel
theorem dX8_init_123 : decode cX8_init 123 = .ok (.getfield 46, 3) := by decide +kernel
theorem dX8_init_126 : decode cX8_init 126 = .ok (.arraylength, 1) := by decide +kernel
theorem dX8_init_127 : decode cX8_init 127 = .ok (.if_icmp .ge 22, 3) := by decide +kernel
theorem dX8_init_130 : decode cX8_init 130 = .ok (.aload_n 0, 1) := by decide +kernel
theorem dX8_init_131 : decode cX8_init 131 = .ok (.getfield 46, 3) := by decide +kernel
theorem dX8_init_134 : decode cX8_init 134 = .ok (.iload_n 1, 1) := by decide +kernel
theorem dX8_init_135 : decode cX8_init 135 = .ok (.new 44, 3) := by decide +kernel
theorem dX8_init_138 : decode cX8_init 138 = .ok (.dup, 1) := by decide +kernel
theorem dX8_init_139 : decode cX8_init 139 = .ok (.invokespecial 82, 3) := by decide +kernel
theorem dX8_init_142 : decode cX8_init 142 = .ok (.aastore, 1) := by decide +kernel
theorem dX8_init_143 : decode cX8_init 143 = .ok (.iinc 1 1, 3) := by decide +kernel
theorem dX8_init_146 : decode cX8_init 146 = .ok (.goto (-25), 3) := by decide +kernel
theorem dX8_init_149 : decode cX8_init 149 = .ok (.return_, 1) := by decide +kernel
section SITES
variable {p : Program} {l : Launch} {e : Env} {R : Room} {s : State} {m : MethodId} {args : Array Value} {below : List Frame} {meth : Method} {c : Code} {H : Heap} {locs : List Loc} {cells slots : Nat} {Q : State → Prop}
variable {pc : Nat} {ls : Array Slot} {rest : List Value} {D : va_G} {ar : Nat → ClassId} {κ : Nat → Nat} {A : Nat → Prop} {a : Nat} {H0 : Heap} {G : gW} {nz nL : Nat} {cc : ByteArray}
theorem m_1_45 : (Cond.methodLink RX8 1 objectInit) ∈ lwA := lwA_mk (ck_1 _ (List.mem_of_getElem? (i := 45) rfl)) rfl
theorem m_1_48 : (Cond.classLink RX8 7 RX0) ∈ lwA := lwA_mk (ck_1 _ (List.mem_of_getElem? (i := 48) rfl)) rfl
theorem m_1_49 : (Cond.instantiable RX0 3) ∈ lwA := lwA_mk (ck_1 _ (List.mem_of_getElem? (i := 49) rfl)) rfl
theorem nw_RX8_7 {A9 : Nat → Prop} {H9 : Heap} (S : CallFix p m c cc nL s args lwA RX8) (hE : g_E D vwCl (gT ar) (EX1 κ) A9 s H9) (w : g_S D vwCl A H0 G H locs nz) (hcells : cells + 1 ≤ R.cells) (hslots : slots + 3 ≤ R.slots) (hdg : decode cc pc = .ok (.new 7, 3)) (kk : ∀ (H1 : Heap), g_S D vwCl A H0 (g_up G nz (.inr (6, [.null, .null, .int 0]))) H1 locs (nz + 1) → W p l e R s m args below meth c H1 locs (cells + 1) (slots + 3) Q (F0 m (pc + 3) ls (.ref nz :: rest))) : W p l e R s m args below meth c H locs cells slots Q (F0 m pc ls rest) :=
  g_new (ci := 6) (fs := [.null, .null, .int 0]) (C := RX0) (T := TX0) (N := 3) S.1 S.2.1 S.2.2.2.2 inA_RX0 tyX0 tyX0_ok S.2.2.2.1 (S.2.2.2.2 _ m_1_48) (S.2.2.2.2 _ m_1_49) (S.2.2.2.2 _ m_1_2) hE.1 w rfl (fun j hj => by rcases (show j = 0 ∨ j = 1 ∨ j = 2 by omega) with rfl | rfl | rfl <;> rfl) hcells hslots hdg kk
theorem m_1_52 : (Cond.code yX0_init cX0_init 1 none) ∈ lwA := lwA_mk (ck_1 _ (List.mem_of_getElem? (i := 52) rfl)) rfl
theorem m_1_50 : (Cond.methodLink RX8 9 yX0_init) ∈ lwA := lwA_mk (ck_1 _ (List.mem_of_getElem? (i := 50) rfl)) rfl
theorem m_1_51 : (Cond.instanceMethod yX0_init) ∈ lwA := lwA_mk (ck_1 _ (List.mem_of_getElem? (i := 51) rfl)) rfl
theorem k_RX8_9 {args : Array Value} {s : State} {R rm : Room} (hts : ∀ w ∈ lwA, w.before args s = true) (hR : rm.frames + 1 ≤ R.frames ∧ 8 + (1 + 11) + rm.locals ≤ R.locals) : CallB R s args RX8 9 yX0_init cX0_init 1 none (lwC yX0_init cX0_init 1 none) rm rm.cells rm.slots 0 ∧ yX0_init.name = "<init>" ∧ (Cond.instanceMethod yX0_init).before args s = true := cwI 0 hts (gd m_1_52) rfl rfl rfl (hts _ m_1_2) (hts _ m_1_50) (hts _ m_1_51) rfl (by decide +kernel) hR
theorem inA_RX8 : ∀ w ∈ u_ws RX8 TX8 13, w ∈ lwA := gA_r _ [299, 301, 303, 305, 307, 309, 311, 313, 315, 317, 319, 321, 323] (by decide +kernel) (by decide +kernel)
theorem m_2_5 : (Cond.fieldLink RX8 10 "Sendhouse" "classes" "LSendhouse$Classes;") ∈ lwA := lwA_mk (ck_2 _ (List.mem_of_getElem? (i := 5) rfl)) rfl
theorem pf_RX8_10_14 {A9 : Nat → Prop} {H9 : Heap} {fs : List Value} {v : Value} (S : CallFix p m c cc nL s args lwA RX8) (hE : g_E D vwCl (gT ar) (EX1 κ) A9 s H9) (hin : meth.name = "<init>") (w : g_S D vwCl A H0 G H locs nz) (ha : G a = some (.inr (14, fs))) (hn : narrow (.object "Sendhouse$Classes") v = v) (hfit : fits (.object "Sendhouse$Classes") v = true) (hl : 0 < fs.length) {fs1 : List Value} (hfs : fs.set 0 v = fs1) (hdg : decode cc pc = .ok (.putfield 10, 3)) (kk : ∀ (H1 : Heap) (locs1 : List Loc), g_S D vwCl A H0 (g_up G a (.inr (14, fs1))) H1 locs1 nz → W p l e R s m args below meth c H1 locs1 cells slots Q (F0 m (pc + 3) ls rest)) : W p l e R s m args below meth c H locs cells slots Q (F0 m pc ls (v :: .ref a :: rest)) :=
  g_putF (ci := 14) (ty := (.object "Sendhouse$Classes")) (C := RX8) (T := TX8) (N := 13) S.1 S.2.1 S.2.2.2.2 inA_RX8 tyX8 tyX8_ok nmX8 S.2.2.2.1 hE.1 w ha rfl 0 (by decide) (S.2.2.2.2 _ m_2_5) (fun _ h => h) rfl hin rfl (by decide +kernel) hn hfit hl hdg (fun H1 l1 w1 => kk H1 l1 (by rw [← hfs]; exact w1))
theorem m_1_66 : (Cond.classLink RX8 16 "Sendhouse$Told") ∈ lwA := lwA_mk (ck_1 _ (List.mem_of_getElem? (i := 66) rfl)) rfl
theorem m_2_6 : (Cond.fieldLink RX8 18 "Sendhouse" "methods" "[LSendhouse$Told;") ∈ lwA := lwA_mk (ck_2 _ (List.mem_of_getElem? (i := 6) rfl)) rfl
theorem pf_RX8_18_14 {A9 : Nat → Prop} {H9 : Heap} {fs : List Value} {v : Value} (S : CallFix p m c cc nL s args lwA RX8) (hE : g_E D vwCl (gT ar) (EX1 κ) A9 s H9) (hin : meth.name = "<init>") (w : g_S D vwCl A H0 G H locs nz) (ha : G a = some (.inr (14, fs))) (hn : narrow (.array (.object "Sendhouse$Told")) v = v) (hfit : fits (.array (.object "Sendhouse$Told")) v = true) (hl : 1 < fs.length) {fs1 : List Value} (hfs : fs.set 1 v = fs1) (hdg : decode cc pc = .ok (.putfield 18, 3)) (kk : ∀ (H1 : Heap) (locs1 : List Loc), g_S D vwCl A H0 (g_up G a (.inr (14, fs1))) H1 locs1 nz → W p l e R s m args below meth c H1 locs1 cells slots Q (F0 m (pc + 3) ls rest)) : W p l e R s m args below meth c H locs cells slots Q (F0 m pc ls (v :: .ref a :: rest)) :=
  g_putF (ci := 14) (ty := (.array (.object "Sendhouse$Told"))) (C := RX8) (T := TX8) (N := 13) S.1 S.2.1 S.2.2.2.2 inA_RX8 tyX8 tyX8_ok nmX8 S.2.2.2.1 hE.1 w ha rfl 1 (by decide) (S.2.2.2.2 _ m_2_6) (fun _ h => h) rfl hin rfl (by decide +kernel) hn hfit hl hdg (fun H1 l1 w1 => kk H1 l1 (by rw [← hfs]; exact w1))
theorem m_1_68 : (Cond.classLink RX8 22 RX3) ∈ lwA := lwA_mk (ck_1 _ (List.mem_of_getElem? (i := 68) rfl)) rfl
theorem m_1_69 : (Cond.instantiable RX3 7) ∈ lwA := lwA_mk (ck_1 _ (List.mem_of_getElem? (i := 69) rfl)) rfl
theorem m_1_3 : (Cond.initialized RX3) ∈ lwA := lwA_mk (ck_1 _ (List.mem_of_getElem? (i := 3) rfl)) rfl
theorem nw_RX8_22 {A9 : Nat → Prop} {H9 : Heap} (S : CallFix p m c cc nL s args lwA RX8) (hE : g_E D vwCl (gT ar) (EX1 κ) A9 s H9) (w : g_S D vwCl A H0 G H locs nz) (hcells : cells + 1 ≤ R.cells) (hslots : slots + 7 ≤ R.slots) (hdg : decode cc pc = .ok (.new 22, 3)) (kk : ∀ (H1 : Heap), g_S D vwCl A H0 (g_up G nz (.inr (9, [.null, .null, .null, .null, .null, .int 0, .int 0]))) H1 locs (nz + 1) → W p l e R s m args below meth c H1 locs (cells + 1) (slots + 7) Q (F0 m (pc + 3) ls (.ref nz :: rest))) : W p l e R s m args below meth c H locs cells slots Q (F0 m pc ls rest) :=
  g_new (ci := 9) (fs := [.null, .null, .null, .null, .null, .int 0, .int 0]) (C := RX3) (T := TX3) (N := 7) S.1 S.2.1 S.2.2.2.2 inA_RX3 tyX3 tyX3_ok S.2.2.2.1 (S.2.2.2.2 _ m_1_68) (S.2.2.2.2 _ m_1_69) (S.2.2.2.2 _ m_1_3) hE.1 w rfl (fun j hj => by rcases (show j = 0 ∨ j = 1 ∨ j = 2 ∨ j = 3 ∨ j = 4 ∨ j = 5 ∨ j = 6 by omega) with rfl | rfl | rfl | rfl | rfl | rfl | rfl <;> rfl) hcells hslots hdg kk
theorem m_1_72 : (Cond.code yX3_init cX3_init 1 none) ∈ lwA := lwA_mk (ck_1 _ (List.mem_of_getElem? (i := 72) rfl)) rfl
theorem m_1_71 : (Cond.instanceMethod yX3_init) ∈ lwA := lwA_mk (ck_1 _ (List.mem_of_getElem? (i := 71) rfl)) rfl
theorem k_RX8_24 {args : Array Value} {s : State} {R rm : Room} (hts : ∀ w ∈ lwA, w.before args s = true) (hN : va_Nw (.methodLinkNest RX8 24 yX3_init "Sendhouse") s) (hR : rm.frames + 1 ≤ R.frames ∧ 8 + (1 + 11) + rm.locals ≤ R.locals) : va_CN R s args RX8 24 yX3_init "Sendhouse" cX3_init 1 none (lwC yX3_init cX3_init 1 none) rm rm.cells rm.slots 0 ∧ yX3_init.name = "<init>" ∧ (Cond.instanceMethod yX3_init).before args s = true := ⟨va_cnB 0 hts (gd m_1_72) rfl rfl rfl hN (hts _ m_1_3) (by decide +kernel) hR, rfl, hts _ m_1_71⟩
theorem m_2_7 : (Cond.fieldLink RX8 25 "Sendhouse" "typed" "LSendhouse$Rows;") ∈ lwA := lwA_mk (ck_2 _ (List.mem_of_getElem? (i := 7) rfl)) rfl
theorem pf_RX8_25_14 {A9 : Nat → Prop} {H9 : Heap} {fs : List Value} {v : Value} (S : CallFix p m c cc nL s args lwA RX8) (hE : g_E D vwCl (gT ar) (EX1 κ) A9 s H9) (w : g_S D vwCl A H0 G H locs nz) (ha : G a = some (.inr (14, fs))) (hn : narrow (.object "Sendhouse$Rows") v = v) (hfit : fits (.object "Sendhouse$Rows") v = true) (hl : 2 < fs.length) {fs1 : List Value} (hfs : fs.set 2 v = fs1) (hdg : decode cc pc = .ok (.putfield 25, 3)) (kk : ∀ (H1 : Heap) (locs1 : List Loc), g_S D vwCl A H0 (g_up G a (.inr (14, fs1))) H1 locs1 nz → W p l e R s m args below meth c H1 locs1 cells slots Q (F0 m (pc + 3) ls rest)) : W p l e R s m args below meth c H locs cells slots Q (F0 m pc ls (v :: .ref a :: rest)) :=
  g_put (ci := 14) (ty := (.object "Sendhouse$Rows")) (C := RX8) (T := TX8) (N := 13) S.1 S.2.1 S.2.2.2.2 inA_RX8 tyX8 tyX8_ok nmX8 S.2.2.2.1 hE.1 w ha rfl 2 (by decide) (S.2.2.2.2 _ m_2_7) (fun _ h => h) rfl (by decide +kernel) hn hfit hl hdg (fun H1 l1 w1 => kk H1 l1 (by rw [← hfs]; exact w1))
theorem m_2_8 : (Cond.fieldLink RX8 29 "Sendhouse" "hot" "I") ∈ lwA := lwA_mk (ck_2 _ (List.mem_of_getElem? (i := 8) rfl)) rfl
theorem pf_RX8_29_14 {A9 : Nat → Prop} {H9 : Heap} {fs : List Value} {v : Value} (S : CallFix p m c cc nL s args lwA RX8) (hE : g_E D vwCl (gT ar) (EX1 κ) A9 s H9) (w : g_S D vwCl A H0 G H locs nz) (ha : G a = some (.inr (14, fs))) (hn : narrow .int v = v) (hfit : fits .int v = true) (hl : 3 < fs.length) {fs1 : List Value} (hfs : fs.set 3 v = fs1) (hdg : decode cc pc = .ok (.putfield 29, 3)) (kk : ∀ (H1 : Heap) (locs1 : List Loc), g_S D vwCl A H0 (g_up G a (.inr (14, fs1))) H1 locs1 nz → W p l e R s m args below meth c H1 locs1 cells slots Q (F0 m (pc + 3) ls rest)) : W p l e R s m args below meth c H locs cells slots Q (F0 m pc ls (v :: .ref a :: rest)) :=
  g_put (ci := 14) (ty := .int) (C := RX8) (T := TX8) (N := 13) S.1 S.2.1 S.2.2.2.2 inA_RX8 tyX8 tyX8_ok nmX8 S.2.2.2.1 hE.1 w ha rfl 3 (by decide) (S.2.2.2.2 _ m_2_8) (fun _ h => h) rfl (by decide +kernel) hn hfit hl hdg (fun H1 l1 w1 => kk H1 l1 (by rw [← hfs]; exact w1))
theorem m_2_9 : (Cond.fieldLink RX8 33 "Sendhouse" "globals" "[J") ∈ lwA := lwA_mk (ck_2 _ (List.mem_of_getElem? (i := 9) rfl)) rfl
theorem pf_RX8_33_14 {A9 : Nat → Prop} {H9 : Heap} {fs : List Value} {v : Value} (S : CallFix p m c cc nL s args lwA RX8) (hE : g_E D vwCl (gT ar) (EX1 κ) A9 s H9) (hin : meth.name = "<init>") (w : g_S D vwCl A H0 G H locs nz) (ha : G a = some (.inr (14, fs))) (hn : narrow (.array .long) v = v) (hfit : fits (.array .long) v = true) (hl : 4 < fs.length) {fs1 : List Value} (hfs : fs.set 4 v = fs1) (hdg : decode cc pc = .ok (.putfield 33, 3)) (kk : ∀ (H1 : Heap) (locs1 : List Loc), g_S D vwCl A H0 (g_up G a (.inr (14, fs1))) H1 locs1 nz → W p l e R s m args below meth c H1 locs1 cells slots Q (F0 m (pc + 3) ls rest)) : W p l e R s m args below meth c H locs cells slots Q (F0 m pc ls (v :: .ref a :: rest)) :=
  g_putF (ci := 14) (ty := (.array .long)) (C := RX8) (T := TX8) (N := 13) S.1 S.2.1 S.2.2.2.2 inA_RX8 tyX8 tyX8_ok nmX8 S.2.2.2.1 hE.1 w ha rfl 4 (by decide) (S.2.2.2.2 _ m_2_9) (fun _ h => h) rfl hin rfl (by decide +kernel) hn hfit hl hdg (fun H1 l1 w1 => kk H1 l1 (by rw [← hfs]; exact w1))
theorem m_1_99 : (Cond.classLink RX8 37 RX5) ∈ lwA := lwA_mk (ck_1 _ (List.mem_of_getElem? (i := 99) rfl)) rfl
theorem m_1_100 : (Cond.instantiable RX5 5) ∈ lwA := lwA_mk (ck_1 _ (List.mem_of_getElem? (i := 100) rfl)) rfl
theorem m_1_4 : (Cond.initialized RX5) ∈ lwA := lwA_mk (ck_1 _ (List.mem_of_getElem? (i := 4) rfl)) rfl
theorem nw_RX8_37 {A9 : Nat → Prop} {H9 : Heap} (S : CallFix p m c cc nL s args lwA RX8) (hE : g_E D vwCl (gT ar) (EX1 κ) A9 s H9) (w : g_S D vwCl A H0 G H locs nz) (hcells : cells + 1 ≤ R.cells) (hslots : slots + 5 ≤ R.slots) (hdg : decode cc pc = .ok (.new 37, 3)) (kk : ∀ (H1 : Heap), g_S D vwCl A H0 (g_up G nz (.inr (11, [.null, .null, .int 0, .int 0, .int 0]))) H1 locs (nz + 1) → W p l e R s m args below meth c H1 locs (cells + 1) (slots + 5) Q (F0 m (pc + 3) ls (.ref nz :: rest))) : W p l e R s m args below meth c H locs cells slots Q (F0 m pc ls rest) :=
  g_new (ci := 11) (fs := [.null, .null, .int 0, .int 0, .int 0]) (C := RX5) (T := TX5) (N := 5) S.1 S.2.1 S.2.2.2.2 inA_RX5 tyX5 tyX5_ok S.2.2.2.1 (S.2.2.2.2 _ m_1_99) (S.2.2.2.2 _ m_1_100) (S.2.2.2.2 _ m_1_4) hE.1 w rfl (fun j hj => by rcases (show j = 0 ∨ j = 1 ∨ j = 2 ∨ j = 3 ∨ j = 4 by omega) with rfl | rfl | rfl | rfl | rfl <;> rfl) hcells hslots hdg kk
theorem m_1_103 : (Cond.code yX5_init cX5_init 2 none) ∈ lwA := lwA_mk (ck_1 _ (List.mem_of_getElem? (i := 103) rfl)) rfl
theorem m_1_101 : (Cond.methodLink RX8 39 yX5_init) ∈ lwA := lwA_mk (ck_1 _ (List.mem_of_getElem? (i := 101) rfl)) rfl
theorem m_1_102 : (Cond.instanceMethod yX5_init) ∈ lwA := lwA_mk (ck_1 _ (List.mem_of_getElem? (i := 102) rfl)) rfl
theorem k_RX8_39 {args : Array Value} {s : State} {R rm : Room} (hts : ∀ w ∈ lwA, w.before args s = true) (hR : rm.frames + 1 ≤ R.frames ∧ 8 + (2 + 11) + rm.locals ≤ R.locals) : CallB R s args RX8 39 yX5_init cX5_init 2 none (lwC yX5_init cX5_init 2 none) rm rm.cells rm.slots 0 ∧ yX5_init.name = "<init>" ∧ (Cond.instanceMethod yX5_init).before args s = true := cwI 0 hts (gd m_1_103) rfl rfl rfl (hts _ m_1_4) (hts _ m_1_101) (hts _ m_1_102) rfl (by decide +kernel) hR
theorem m_2_10 : (Cond.fieldLink RX8 40 "Sendhouse" "things" "LSendhouse$Things;") ∈ lwA := lwA_mk (ck_2 _ (List.mem_of_getElem? (i := 10) rfl)) rfl
theorem pf_RX8_40_14 {A9 : Nat → Prop} {H9 : Heap} {fs : List Value} {v : Value} (S : CallFix p m c cc nL s args lwA RX8) (hE : g_E D vwCl (gT ar) (EX1 κ) A9 s H9) (hin : meth.name = "<init>") (w : g_S D vwCl A H0 G H locs nz) (ha : G a = some (.inr (14, fs))) (hn : narrow (.object "Sendhouse$Things") v = v) (hfit : fits (.object "Sendhouse$Things") v = true) (hl : 5 < fs.length) {fs1 : List Value} (hfs : fs.set 5 v = fs1) (hdg : decode cc pc = .ok (.putfield 40, 3)) (kk : ∀ (H1 : Heap) (locs1 : List Loc), g_S D vwCl A H0 (g_up G a (.inr (14, fs1))) H1 locs1 nz → W p l e R s m args below meth c H1 locs1 cells slots Q (F0 m (pc + 3) ls rest)) : W p l e R s m args below meth c H locs cells slots Q (F0 m pc ls (v :: .ref a :: rest)) :=
  g_putF (ci := 14) (ty := (.object "Sendhouse$Things")) (C := RX8) (T := TX8) (N := 13) S.1 S.2.1 S.2.2.2.2 inA_RX8 tyX8 tyX8_ok nmX8 S.2.2.2.1 hE.1 w ha rfl 5 (by decide) (S.2.2.2.2 _ m_2_10) (fun _ h => h) rfl hin rfl (by decide +kernel) hn hfit hl hdg (fun H1 l1 w1 => kk H1 l1 (by rw [← hfs]; exact w1))
theorem m_1_155 : (Cond.classLink RX8 44 "Sendhouse$Frame") ∈ lwA := lwA_mk (ck_1 _ (List.mem_of_getElem? (i := 155) rfl)) rfl
theorem m_2_11 : (Cond.fieldLink RX8 46 "Sendhouse" "frames" "[LSendhouse$Frame;") ∈ lwA := lwA_mk (ck_2 _ (List.mem_of_getElem? (i := 11) rfl)) rfl
theorem pf_RX8_46_14 {A9 : Nat → Prop} {H9 : Heap} {fs : List Value} {v : Value} (S : CallFix p m c cc nL s args lwA RX8) (hE : g_E D vwCl (gT ar) (EX1 κ) A9 s H9) (hin : meth.name = "<init>") (w : g_S D vwCl A H0 G H locs nz) (ha : G a = some (.inr (14, fs))) (hn : narrow (.array (.object "Sendhouse$Frame")) v = v) (hfit : fits (.array (.object "Sendhouse$Frame")) v = true) (hl : 6 < fs.length) {fs1 : List Value} (hfs : fs.set 6 v = fs1) (hdg : decode cc pc = .ok (.putfield 46, 3)) (kk : ∀ (H1 : Heap) (locs1 : List Loc), g_S D vwCl A H0 (g_up G a (.inr (14, fs1))) H1 locs1 nz → W p l e R s m args below meth c H1 locs1 cells slots Q (F0 m (pc + 3) ls rest)) : W p l e R s m args below meth c H locs cells slots Q (F0 m pc ls (v :: .ref a :: rest)) :=
  g_putF (ci := 14) (ty := (.array (.object "Sendhouse$Frame"))) (C := RX8) (T := TX8) (N := 13) S.1 S.2.1 S.2.2.2.2 inA_RX8 tyX8 tyX8_ok nmX8 S.2.2.2.1 hE.1 w ha rfl 6 (by decide) (S.2.2.2.2 _ m_2_11) (fun _ h => h) rfl hin rfl (by decide +kernel) hn hfit hl hdg (fun H1 l1 w1 => kk H1 l1 (by rw [← hfs]; exact w1))
theorem m_2_12 : (Cond.fieldLink RX8 50 "Sendhouse" "frameCount" "I") ∈ lwA := lwA_mk (ck_2 _ (List.mem_of_getElem? (i := 12) rfl)) rfl
theorem pf_RX8_50_14 {A9 : Nat → Prop} {H9 : Heap} {fs : List Value} {v : Value} (S : CallFix p m c cc nL s args lwA RX8) (hE : g_E D vwCl (gT ar) (EX1 κ) A9 s H9) (w : g_S D vwCl A H0 G H locs nz) (ha : G a = some (.inr (14, fs))) (hn : narrow .int v = v) (hfit : fits .int v = true) (hl : 7 < fs.length) {fs1 : List Value} (hfs : fs.set 7 v = fs1) (hdg : decode cc pc = .ok (.putfield 50, 3)) (kk : ∀ (H1 : Heap) (locs1 : List Loc), g_S D vwCl A H0 (g_up G a (.inr (14, fs1))) H1 locs1 nz → W p l e R s m args below meth c H1 locs1 cells slots Q (F0 m (pc + 3) ls rest)) : W p l e R s m args below meth c H locs cells slots Q (F0 m pc ls (v :: .ref a :: rest)) :=
  g_put (ci := 14) (ty := .int) (C := RX8) (T := TX8) (N := 13) S.1 S.2.1 S.2.2.2.2 inA_RX8 tyX8 tyX8_ok nmX8 S.2.2.2.1 hE.1 w ha rfl 7 (by decide) (S.2.2.2.2 _ m_2_12) (fun _ h => h) rfl (by decide +kernel) hn hfit hl hdg (fun H1 l1 w1 => kk H1 l1 (by rw [← hfs]; exact w1))
theorem m_2_13 : (Cond.fieldLink RX8 53 "Sendhouse" "state" "C") ∈ lwA := lwA_mk (ck_2 _ (List.mem_of_getElem? (i := 13) rfl)) rfl
theorem pf_RX8_53_14 {A9 : Nat → Prop} {H9 : Heap} {fs : List Value} {v : Value} (S : CallFix p m c cc nL s args lwA RX8) (hE : g_E D vwCl (gT ar) (EX1 κ) A9 s H9) (w : g_S D vwCl A H0 G H locs nz) (ha : G a = some (.inr (14, fs))) (hn : narrow .char v = v) (hfit : fits .char v = true) (hl : 8 < fs.length) {fs1 : List Value} (hfs : fs.set 8 v = fs1) (hdg : decode cc pc = .ok (.putfield 53, 3)) (kk : ∀ (H1 : Heap) (locs1 : List Loc), g_S D vwCl A H0 (g_up G a (.inr (14, fs1))) H1 locs1 nz → W p l e R s m args below meth c H1 locs1 cells slots Q (F0 m (pc + 3) ls rest)) : W p l e R s m args below meth c H locs cells slots Q (F0 m pc ls (v :: .ref a :: rest)) :=
  g_put (ci := 14) (ty := .char) (C := RX8) (T := TX8) (N := 13) S.1 S.2.1 S.2.2.2.2 inA_RX8 tyX8 tyX8_ok nmX8 S.2.2.2.1 hE.1 w ha rfl 8 (by decide) (S.2.2.2.2 _ m_2_13) (fun _ h => h) rfl (by decide +kernel) hn hfit hl hdg (fun H1 l1 w1 => kk H1 l1 (by rw [← hfs]; exact w1))
theorem m_2_14 : (Cond.fieldLink RX8 57 "Sendhouse" "reason" "C") ∈ lwA := lwA_mk (ck_2 _ (List.mem_of_getElem? (i := 14) rfl)) rfl
theorem pf_RX8_57_14 {A9 : Nat → Prop} {H9 : Heap} {fs : List Value} {v : Value} (S : CallFix p m c cc nL s args lwA RX8) (hE : g_E D vwCl (gT ar) (EX1 κ) A9 s H9) (w : g_S D vwCl A H0 G H locs nz) (ha : G a = some (.inr (14, fs))) (hn : narrow .char v = v) (hfit : fits .char v = true) (hl : 9 < fs.length) {fs1 : List Value} (hfs : fs.set 9 v = fs1) (hdg : decode cc pc = .ok (.putfield 57, 3)) (kk : ∀ (H1 : Heap) (locs1 : List Loc), g_S D vwCl A H0 (g_up G a (.inr (14, fs1))) H1 locs1 nz → W p l e R s m args below meth c H1 locs1 cells slots Q (F0 m (pc + 3) ls rest)) : W p l e R s m args below meth c H locs cells slots Q (F0 m pc ls (v :: .ref a :: rest)) :=
  g_put (ci := 14) (ty := .char) (C := RX8) (T := TX8) (N := 13) S.1 S.2.1 S.2.2.2.2 inA_RX8 tyX8 tyX8_ok nmX8 S.2.2.2.1 hE.1 w ha rfl 9 (by decide) (S.2.2.2.2 _ m_2_14) (fun _ h => h) rfl (by decide +kernel) hn hfit hl hdg (fun H1 l1 w1 => kk H1 l1 (by rw [← hfs]; exact w1))
theorem m_2_15 : (Cond.fieldLink RX8 62 "Sendhouse" "answer" "J") ∈ lwA := lwA_mk (ck_2 _ (List.mem_of_getElem? (i := 15) rfl)) rfl
theorem pf_RX8_62_14 {A9 : Nat → Prop} {H9 : Heap} {fs : List Value} {v : Value} (S : CallFix p m c cc nL s args lwA RX8) (hE : g_E D vwCl (gT ar) (EX1 κ) A9 s H9) (w : g_S D vwCl A H0 G H locs nz) (ha : G a = some (.inr (14, fs))) (hn : narrow .long v = v) (hfit : fits .long v = true) (hl : 10 < fs.length) {fs1 : List Value} (hfs : fs.set 10 v = fs1) (hdg : decode cc pc = .ok (.putfield 62, 3)) (kk : ∀ (H1 : Heap) (locs1 : List Loc), g_S D vwCl A H0 (g_up G a (.inr (14, fs1))) H1 locs1 nz → W p l e R s m args below meth c H1 locs1 cells slots Q (F0 m (pc + 3) ls rest)) : W p l e R s m args below meth c H locs cells slots Q (F0 m pc ls (v :: .ref a :: rest)) :=
  g_put (ci := 14) (ty := .long) (C := RX8) (T := TX8) (N := 13) S.1 S.2.1 S.2.2.2.2 inA_RX8 tyX8 tyX8_ok nmX8 S.2.2.2.1 hE.1 w ha rfl 10 (by decide) (S.2.2.2.2 _ m_2_15) (fun _ h => h) rfl (by decide +kernel) hn hfit hl hdg (fun H1 l1 w1 => kk H1 l1 (by rw [← hfs]; exact w1))
theorem m_2_16 : (Cond.fieldLink RX8 66 "Sendhouse" "steps" "I") ∈ lwA := lwA_mk (ck_2 _ (List.mem_of_getElem? (i := 16) rfl)) rfl
theorem pf_RX8_66_14 {A9 : Nat → Prop} {H9 : Heap} {fs : List Value} {v : Value} (S : CallFix p m c cc nL s args lwA RX8) (hE : g_E D vwCl (gT ar) (EX1 κ) A9 s H9) (w : g_S D vwCl A H0 G H locs nz) (ha : G a = some (.inr (14, fs))) (hn : narrow .int v = v) (hfit : fits .int v = true) (hl : 11 < fs.length) {fs1 : List Value} (hfs : fs.set 11 v = fs1) (hdg : decode cc pc = .ok (.putfield 66, 3)) (kk : ∀ (H1 : Heap) (locs1 : List Loc), g_S D vwCl A H0 (g_up G a (.inr (14, fs1))) H1 locs1 nz → W p l e R s m args below meth c H1 locs1 cells slots Q (F0 m (pc + 3) ls rest)) : W p l e R s m args below meth c H locs cells slots Q (F0 m pc ls (v :: .ref a :: rest)) :=
  g_put (ci := 14) (ty := .int) (C := RX8) (T := TX8) (N := 13) S.1 S.2.1 S.2.2.2.2 inA_RX8 tyX8 tyX8_ok nmX8 S.2.2.2.1 hE.1 w ha rfl 11 (by decide) (S.2.2.2.2 _ m_2_16) (fun _ h => h) rfl (by decide +kernel) hn hfit hl hdg (fun H1 l1 w1 => kk H1 l1 (by rw [← hfs]; exact w1))
theorem m_1_158 : (Cond.classLink RX8 69 RX7) ∈ lwA := lwA_mk (ck_1 _ (List.mem_of_getElem? (i := 158) rfl)) rfl
theorem m_1_159 : (Cond.instantiable RX7 4) ∈ lwA := lwA_mk (ck_1 _ (List.mem_of_getElem? (i := 159) rfl)) rfl
theorem m_1_6 : (Cond.initialized RX7) ∈ lwA := lwA_mk (ck_1 _ (List.mem_of_getElem? (i := 6) rfl)) rfl
theorem nw_RX8_69 {A9 : Nat → Prop} {H9 : Heap} (S : CallFix p m c cc nL s args lwA RX8) (hE : g_E D vwCl (gT ar) (EX1 κ) A9 s H9) (w : g_S D vwCl A H0 G H locs nz) (hcells : cells + 1 ≤ R.cells) (hslots : slots + 4 ≤ R.slots) (hdg : decode cc pc = .ok (.new 69, 3)) (kk : ∀ (H1 : Heap), g_S D vwCl A H0 (g_up G nz (.inr (13, [.null, .int 0, .long 0, .long 0]))) H1 locs (nz + 1) → W p l e R s m args below meth c H1 locs (cells + 1) (slots + 4) Q (F0 m (pc + 3) ls (.ref nz :: rest))) : W p l e R s m args below meth c H locs cells slots Q (F0 m pc ls rest) :=
  g_new (ci := 13) (fs := [.null, .int 0, .long 0, .long 0]) (C := RX7) (T := TX7) (N := 4) S.1 S.2.1 S.2.2.2.2 inA_RX7 tyX7 tyX7_ok S.2.2.2.1 (S.2.2.2.2 _ m_1_158) (S.2.2.2.2 _ m_1_159) (S.2.2.2.2 _ m_1_6) hE.1 w rfl (fun j hj => by rcases (show j = 0 ∨ j = 1 ∨ j = 2 ∨ j = 3 by omega) with rfl | rfl | rfl | rfl <;> rfl) hcells hslots hdg kk
theorem m_1_162 : (Cond.code yX7_init cX7_init 1 none) ∈ lwA := lwA_mk (ck_1 _ (List.mem_of_getElem? (i := 162) rfl)) rfl
theorem m_1_161 : (Cond.instanceMethod yX7_init) ∈ lwA := lwA_mk (ck_1 _ (List.mem_of_getElem? (i := 161) rfl)) rfl
theorem k_RX8_71 {args : Array Value} {s : State} {R rm : Room} (hts : ∀ w ∈ lwA, w.before args s = true) (hN : va_Nw (.methodLinkNest RX8 71 yX7_init "Sendhouse") s) (hR : rm.frames + 1 ≤ R.frames ∧ 8 + (1 + 11) + rm.locals ≤ R.locals) : va_CN R s args RX8 71 yX7_init "Sendhouse" cX7_init 1 none (lwC yX7_init cX7_init 1 none) rm rm.cells rm.slots 0 ∧ yX7_init.name = "<init>" ∧ (Cond.instanceMethod yX7_init).before args s = true := ⟨va_cnB 0 hts (gd m_1_162) rfl rfl rfl hN (hts _ m_1_6) (by decide +kernel) hR, rfl, hts _ m_1_161⟩
theorem m_2_17 : (Cond.fieldLink RX8 72 "Sendhouse" "written" "LSendhouse$Written;") ∈ lwA := lwA_mk (ck_2 _ (List.mem_of_getElem? (i := 17) rfl)) rfl
theorem pf_RX8_72_14 {A9 : Nat → Prop} {H9 : Heap} {fs : List Value} {v : Value} (S : CallFix p m c cc nL s args lwA RX8) (hE : g_E D vwCl (gT ar) (EX1 κ) A9 s H9) (hin : meth.name = "<init>") (w : g_S D vwCl A H0 G H locs nz) (ha : G a = some (.inr (14, fs))) (hn : narrow (.object "Sendhouse$Written") v = v) (hfit : fits (.object "Sendhouse$Written") v = true) (hl : 12 < fs.length) {fs1 : List Value} (hfs : fs.set 12 v = fs1) (hdg : decode cc pc = .ok (.putfield 72, 3)) (kk : ∀ (H1 : Heap) (locs1 : List Loc), g_S D vwCl A H0 (g_up G a (.inr (14, fs1))) H1 locs1 nz → W p l e R s m args below meth c H1 locs1 cells slots Q (F0 m (pc + 3) ls rest)) : W p l e R s m args below meth c H locs cells slots Q (F0 m pc ls (v :: .ref a :: rest)) :=
  g_putF (ci := 14) (ty := (.object "Sendhouse$Written")) (C := RX8) (T := TX8) (N := 13) S.1 S.2.1 S.2.2.2.2 inA_RX8 tyX8 tyX8_ok nmX8 S.2.2.2.1 hE.1 w ha rfl 12 (by decide) (S.2.2.2.2 _ m_2_17) (fun _ h => h) rfl hin rfl (by decide +kernel) hn hfit hl hdg (fun H1 l1 w1 => kk H1 l1 (by rw [← hfs]; exact w1))
theorem gf_RX8_33_14 {A9 : Nat → Prop} {H9 : Heap} {fs : List Value} {v : Value} (S : CallFix p m c cc nL s args lwA RX8) (hE : g_E D vwCl (gT ar) (EX1 κ) A9 s H9) (w : g_S D vwCl A H0 G H locs nz) (ha : G a = some (.inr (14, fs))) (hv : fs[4]? = some v) (hdg : decode cc pc = .ok (.getfield 33, 3)) (kk : W p l e R s m args below meth c H locs cells slots Q (F0 m (pc + 3) ls (v :: rest))) : W p l e R s m args below meth c H locs cells slots Q (F0 m pc ls (.ref a :: rest)) :=
  va_get (ci := 14) (C := RX8) (T := TX8) (N := 13) S.1 S.2.1 S.2.2.2.2 inA_RX8 S.2.2.2.1 hE.1 (g_1 w.1 ha) 0 rfl rfl 4 (by decide) (S.2.2.2.2 _ m_2_9) (fun _ h => h) hv hdg kk
theorem m_1_211 : (Cond.code yJ7_fill_d0a16 cJ7_fill_d0a16 5 none) ∈ lwA := lwA_mk (ck_1 _ (List.mem_of_getElem? (i := 211) rfl)) rfl
theorem m_1_10 : (Cond.initialized RJ7) ∈ lwA := lwA_mk (ck_1 _ (List.mem_of_getElem? (i := 10) rfl)) rfl
theorem m_1_209 : (Cond.methodLink RX8 76 yJ7_fill_d0a16) ∈ lwA := lwA_mk (ck_1 _ (List.mem_of_getElem? (i := 209) rfl)) rfl
theorem m_1_210 : (Cond.static yJ7_fill_d0a16) ∈ lwA := lwA_mk (ck_1 _ (List.mem_of_getElem? (i := 210) rfl)) rfl
theorem k_RX8_76 {args : Array Value} {s : State} {R rm : Room} (hts : ∀ w ∈ lwA, w.before args s = true) (hR : rm.frames + 1 ≤ R.frames ∧ 8 + (5 + 11) + rm.locals ≤ R.locals) : CallB R s args RX8 76 yJ7_fill_d0a16 cJ7_fill_d0a16 5 none (lwC yJ7_fill_d0a16 cJ7_fill_d0a16 5 none) rm rm.cells rm.slots 2 ∧ (Cond.static yJ7_fill_d0a16).before args s = true := va_cwS 2 hts (gdT m_1_209 m_1_210 m_1_10 m_1_211) rfl rfl rfl (by decide +kernel) hR
theorem gf_RX8_46_14 {A9 : Nat → Prop} {H9 : Heap} {fs : List Value} {v : Value} (S : CallFix p m c cc nL s args lwA RX8) (hE : g_E D vwCl (gT ar) (EX1 κ) A9 s H9) (w : g_S D vwCl A H0 G H locs nz) (ha : G a = some (.inr (14, fs))) (hv : fs[6]? = some v) (hdg : decode cc pc = .ok (.getfield 46, 3)) (kk : W p l e R s m args below meth c H locs cells slots Q (F0 m (pc + 3) ls (v :: rest))) : W p l e R s m args below meth c H locs cells slots Q (F0 m pc ls (.ref a :: rest)) :=
  va_get (ci := 14) (C := RX8) (T := TX8) (N := 13) S.1 S.2.1 S.2.2.2.2 inA_RX8 S.2.2.2.1 hE.1 (g_1 w.1 ha) 0 rfl rfl 6 (by decide) (S.2.2.2.2 _ m_2_11) (fun _ h => h) hv hdg kk
theorem m_1_212 : (Cond.instantiable RX1 7) ∈ lwA := lwA_mk (ck_1 _ (List.mem_of_getElem? (i := 212) rfl)) rfl
theorem m_1_11 : (Cond.initialized RX1) ∈ lwA := lwA_mk (ck_1 _ (List.mem_of_getElem? (i := 11) rfl)) rfl
theorem nw_RX8_44 {A9 : Nat → Prop} {H9 : Heap} (S : CallFix p m c cc nL s args lwA RX8) (hE : g_E D vwCl (gT ar) (EX1 κ) A9 s H9) (w : g_S D vwCl A H0 G H locs nz) (hcells : cells + 1 ≤ R.cells) (hslots : slots + 7 ≤ R.slots) (hdg : decode cc pc = .ok (.new 44, 3)) (kk : ∀ (H1 : Heap), g_S D vwCl A H0 (g_up G nz (.inr (7, [.null, .null, .null, .null, .long 0, .int 0, .int 0]))) H1 locs (nz + 1) → W p l e R s m args below meth c H1 locs (cells + 1) (slots + 7) Q (F0 m (pc + 3) ls (.ref nz :: rest))) : W p l e R s m args below meth c H locs cells slots Q (F0 m pc ls rest) :=
  g_new (ci := 7) (fs := [.null, .null, .null, .null, .long 0, .int 0, .int 0]) (C := RX1) (T := TX1) (N := 7) S.1 S.2.1 S.2.2.2.2 inA_RX1 tyX1 tyX1_ok S.2.2.2.1 (S.2.2.2.2 _ m_1_155) (S.2.2.2.2 _ m_1_212) (S.2.2.2.2 _ m_1_11) hE.1 w rfl (fun j hj => by rcases (show j = 0 ∨ j = 1 ∨ j = 2 ∨ j = 3 ∨ j = 4 ∨ j = 5 ∨ j = 6 by omega) with rfl | rfl | rfl | rfl | rfl | rfl | rfl <;> rfl) hcells hslots hdg kk
theorem m_1_215 : (Cond.code yX1_init cX1_init 1 none) ∈ lwA := lwA_mk (ck_1 _ (List.mem_of_getElem? (i := 215) rfl)) rfl
theorem m_1_214 : (Cond.instanceMethod yX1_init) ∈ lwA := lwA_mk (ck_1 _ (List.mem_of_getElem? (i := 214) rfl)) rfl
theorem k_RX8_82 {args : Array Value} {s : State} {R rm : Room} (hts : ∀ w ∈ lwA, w.before args s = true) (hN : va_Nw (.methodLinkNest RX8 82 yX1_init "Sendhouse") s) (hR : rm.frames + 1 ≤ R.frames ∧ 8 + (1 + 11) + rm.locals ≤ R.locals) : va_CN R s args RX8 82 yX1_init "Sendhouse" cX1_init 1 none (lwC yX1_init cX1_init 1 none) rm rm.cells rm.slots 0 ∧ yX1_init.name = "<init>" ∧ (Cond.instanceMethod yX1_init).before args s = true := ⟨va_cnB 0 hts (gd m_1_215) rfl rfl rfl hN (hts _ m_1_11) (by decide +kernel) hR, rfl, hts _ m_1_214⟩
end SITES
set_option maxHeartbeats 4000000 in
set_option maxRecDepth 100000 in
theorem c_X8_init (l : Launch) (D : va_G) (ar : Nat → ClassId) (κ : Nat → Nat) (G : gW) (sz : Nat) (x : Nat) (hx0 : G x = some (.inr (14, [.null, .null, .null, .int 0, .null, .null, .null, .int 0, .int 0, .int 0, .long 0, .int 0, .null]))) : Met l yX8_init (lwC yX8_init cX8_init 2 none) (rD 6 185 1530) (g_Pc D vwCl (gT ar) (EX1 κ) G sz [.ref x]) (g_Qv D vwCl (g_A G sz) (fun u => u = ((frG (g_up (g_up (g_up (g_up (g_up (thG (g_up (g_up (g_up (g_up (g_up (g_up (g_up (g_up (g_up (g_up (g_up (g_up (g_up (g_up (g_up (g_up G sz (.inr (6, [.ref (sz + 1), .ref (sz + 2), .int 3]))) (sz + 1) (.inl (ar 0, 12, .inl (upd (fun _ => 0) (Int32.toNatClampNeg 0) (-1))))) (sz + 2) (.inl (ar 0, 12, .inl (fun _ => 0)))) x (.inr (14, [.ref sz, .ref (sz + 3), .ref (sz + 4), .int 0, .ref (sz + 10), .null, .null, .int 0, .int 0, .int 0, .long 0, .int 0, .null]))) (sz + 3) (.inl (ar 7, 192, .inr (.inr (.inr (.inr (fun _ => none))))))) (sz + 4) (.inr (9, [.ref (sz + 5), .ref (sz + 6), .ref (sz + 7), .ref (sz + 8), .ref (sz + 9), .int 0, .int 0]))) (sz + 5) (.inl (ar 2, 24, .inl (fun _ => 0)))) (sz + 6) (.inl (ar 0, 24, .inl (fun _ => 0)))) (sz + 7) (.inl (ar 0, 24, .inl (fun _ => 0)))) (sz + 8) (.inl (ar 0, 24, .inl (fun _ => 0)))) (sz + 9) (.inl (ar 0, 24, .inl (fun _ => 0)))) (sz + 10) (.inl (ar 1, 8, .inr (.inl (fun _ => 0))))) (sz + 11) (.inr (11, [.null, .null, .int 0, .int 0, .int 0]))) (sz + 12) (.inl (ar 6, 60, .inr (.inr (.inr (.inr (thF (sz + 14) 60))))))) (sz + 11) (.inr (11, [.ref (sz + 12), .ref (sz + 13), .int 0, .int 0, .int 0]))) (sz + 13) (.inl (ar 6, 60, .inr (.inr (.inr (.inr (fun _ => none))))))) ar (sz + 14) 60) x (.inr (14, [.ref sz, .ref (sz + 3), .ref (sz + 4), .int 0, .ref (sz + 10), .ref (sz + 11), .ref (sz + 134), .int 0, .int 45, .int 32, .long 502511173632, .int 0, .ref (sz + 135)]))) (sz + 134) (.inl (ar 5, 12, .inr (.inr (.inr (.inr (frF (sz + 137) 12))))))) (sz + 135) (.inr (13, [.ref (sz + 136), .int 0, .long 0, .long 1]))) (sz + 136) (.inr (5, [.int 0, .ref (κ 0), .int 0]))) (sz + 10) (.inl (ar 1, 8, .inr (.inl (fillJ (fun _ => 0) 502511173632 8))))) ar (sz + 137) 12), sz + 185))) 185 1530 (g_A G sz) := by
  refine g_ofW (by decide +kernel) (Nat.le_of_ble_eq_true rfl) ?_
  intro p e s m below meth c ls S hr hlk hin hE w hl
  have hx := S.1
  have hb := S.2.1
  have hl : lv_has ls 2 [(0, .ref x)] := hl
  have lt_hx0 : x < sz := g_ltn w hx0
  refine lv_aload_n hx hb dX8_init_0 rfl (lv_at hl 0 rfl) ?_
  refine W.objInit hx hb S.2.2.2.1 (S.2.2.2.2 _ m_1_45) (S.2.2.2.2 _ m_1_46) (S.2.2.2.2 _ m_obj) rfl (by rw [S.2.2.1]; exact hl.1) rfl dX8_init_1 (Nat.le_of_ble_eq_true rfl) (Nat.le_of_ble_eq_true rfl) ?_
  refine W.eq (g2 := F0 m 4 ls []) rfl ?_
  refine lv_aload_n hx hb dX8_init_4 rfl (lv_at hl 0 rfl) ?_
  refine nw_RX8_7 S hE w (Nat.le_of_ble_eq_true rfl) (Nat.le_of_ble_eq_true rfl) dX8_init_5 (fun H w => ?_)
  refine lv_dup hx hb dX8_init_8 rfl ?_
  refine g_callv w (g_runI (As := []) (rest := [.ref sz, .ref x]) S hE w hl (c_X0_init l D ar κ (g_up G sz (.inr (6, [.null, .null, .int 0]))) (sz + 1) sz g_up_s) (k_RX8_9 S.2.2.2.2 ⟨Nat.le_of_ble_eq_true rfl, Nat.le_of_ble_eq_true rfl⟩) rfl rfl (Nat.le_of_ble_eq_true rfl) dX8_init_9 ⟨Nat.le_of_ble_eq_true rfl, Nat.le_of_ble_eq_true rfl⟩) (fun u H locs hp hnz w => ?_)
  obtain rfl := hp
  dsimp only at w
  have w := g_eqw w (g_cng (g_inn g_over (by omega)))
  refine pf_RX8_10_14 (fs1 := [.ref sz, .null, .null, .int 0, .null, .null, .null, .int 0, .int 0, .int 0, .long 0, .int 0, .null]) S hE hin w (g_up_o (by omega) (g_up_o (by omega) (g_up_o (by omega) hx0))) rfl rfl (Nat.le_of_ble_eq_true rfl) rfl dX8_init_12 (fun H locs w => ?_)
  refine lv_aload_n hx hb dX8_init_15 rfl (lv_at hl 0 rfl) ?_
  refine lv_sipush (v := 192) hx hb dX8_init_16 (by decide) ?_
  refine g_newq (N' := 192) hx hb S.2.2.2.1 (S.2.2.2.2 _ m_1_66) (va_AO.use (C := "Sendhouse$Told") (hE.2.1.1 _ (ckN_0 _ (List.mem_of_getElem? (i := 1) rfl)))) hE.1 w 7 rfl (by decide) rfl (Nat.le_of_ble_eq_true rfl) (Nat.le_of_ble_eq_true rfl) (Nat.le_of_ble_eq_true rfl) dX8_init_19 (fun H w => ?_)
  refine pf_RX8_18_14 (fs1 := [.ref sz, .ref (sz + 3), .null, .int 0, .null, .null, .null, .int 0, .int 0, .int 0, .long 0, .int 0, .null]) S hE hin w (g_up_o (by omega) g_up_s) rfl rfl (Nat.le_of_ble_eq_true rfl) rfl dX8_init_22 (fun H locs w => ?_)
  have w := g_eqw w (g_inn g_over (by omega))
  refine lv_aload_n hx hb dX8_init_25 rfl (lv_at hl 0 rfl) ?_
  refine nw_RX8_22 S hE w (Nat.le_of_ble_eq_true rfl) (Nat.le_of_ble_eq_true rfl) dX8_init_26 (fun H w => ?_)
  refine lv_dup hx hb dX8_init_29 rfl ?_
  refine g_callv w (g_runIN (As := []) (rest := [.ref (sz + 4), .ref x]) S hE w hl (c_X3_init l D ar κ (g_up (g_up (g_up (g_up (g_up (g_up G sz (.inr (6, [.ref (sz + 1), .ref (sz + 2), .int 3]))) (sz + 1) (.inl (ar 0, 12, .inl (upd (fun _ => 0) (Int32.toNatClampNeg 0) (-1))))) (sz + 2) (.inl (ar 0, 12, .inl (fun _ => 0)))) x (.inr (14, [.ref sz, .ref (sz + 3), .null, .int 0, .null, .null, .null, .int 0, .int 0, .int 0, .long 0, .int 0, .null]))) (sz + 3) (.inl (ar 7, 192, .inr (.inr (.inr (.inr (fun _ => none))))))) (sz + 4) (.inr (9, [.null, .null, .null, .null, .null, .int 0, .int 0]))) (sz + 5) (sz + 4) g_up_s) (k_RX8_24 S.2.2.2.2 (hE.2.1.1 _ (ckN_0 _ (List.mem_of_getElem? (i := 2) rfl))) ⟨Nat.le_of_ble_eq_true rfl, Nat.le_of_ble_eq_true rfl⟩) rfl rfl (Nat.le_of_ble_eq_true rfl) dX8_init_30 ⟨Nat.le_of_ble_eq_true rfl, Nat.le_of_ble_eq_true rfl⟩) (fun u H locs hp hnz w => ?_)
  obtain rfl := hp
  dsimp only at w
  have w := g_eqw w (g_cng (g_cng (g_cng (g_cng (g_inn g_over (by omega))))))
  refine pf_RX8_25_14 (fs1 := [.ref sz, .ref (sz + 3), .ref (sz + 4), .int 0, .null, .null, .null, .int 0, .int 0, .int 0, .long 0, .int 0, .null]) S hE w (g_up_o (by omega) (g_up_o (by omega) (g_up_o (by omega) (g_up_o (by omega) (g_up_o (by omega) (g_up_o (by omega) (g_up_o (by omega) g_up_s))))))) rfl rfl (Nat.le_of_ble_eq_true rfl) rfl dX8_init_33 (fun H locs w => ?_)
  have w := g_eqw w (g_inn (g_inn (g_inn (g_inn (g_inn (g_inn (g_inn g_over (by omega)) (by omega)) (by omega)) (by omega)) (by omega)) (by omega)) (by omega))
  refine lv_aload_n hx hb dX8_init_36 rfl (lv_at hl 0 rfl) ?_
  refine lv_iconst (v := 0) hx hb dX8_init_37 (by decide) ?_
  refine pf_RX8_29_14 (fs1 := [.ref sz, .ref (sz + 3), .ref (sz + 4), .int 0, .null, .null, .null, .int 0, .int 0, .int 0, .long 0, .int 0, .null]) S hE w (g_up_o (by omega) (g_up_o (by omega) (g_up_o (by omega) (g_up_o (by omega) (g_up_o (by omega) (g_up_o (by omega) (g_up_o (by omega) g_up_s))))))) rfl rfl (Nat.le_of_ble_eq_true rfl) rfl dX8_init_38 (fun H locs w => ?_)
  have w := g_eqw w (g_inn (g_inn (g_inn (g_inn (g_inn (g_inn (g_inn g_over (by omega)) (by omega)) (by omega)) (by omega)) (by omega)) (by omega)) (by omega))
  refine lv_aload_n hx hb dX8_init_41 rfl (lv_at hl 0 rfl) ?_
  refine lv_bipush (v := 8) hx hb dX8_init_42 (by decide) ?_
  refine g_newa (atype := .long) (a0 := (8, .inr (.inl (fun _ => 0)))) hx hb (S.2.2.2.2 _ m_1_137) rfl hE.1 w 1 rfl rfl (by decide) rfl (Nat.le_of_ble_eq_true rfl) (Nat.le_of_ble_eq_true rfl) (Nat.le_of_ble_eq_true rfl) dX8_init_44 (fun H w => ?_)
  refine pf_RX8_33_14 (fs1 := [.ref sz, .ref (sz + 3), .ref (sz + 4), .int 0, .ref (sz + 10), .null, .null, .int 0, .int 0, .int 0, .long 0, .int 0, .null]) S hE hin w (g_up_o (by omega) (g_up_o (by omega) (g_up_o (by omega) (g_up_o (by omega) (g_up_o (by omega) (g_up_o (by omega) (g_up_o (by omega) (g_up_o (by omega) g_up_s)))))))) rfl rfl (Nat.le_of_ble_eq_true rfl) rfl dX8_init_46 (fun H locs w => ?_)
  have w := g_eqw w (g_inn (g_inn (g_inn (g_inn (g_inn (g_inn (g_inn (g_inn g_over (by omega)) (by omega)) (by omega)) (by omega)) (by omega)) (by omega)) (by omega)) (by omega))
  refine lv_aload_n hx hb dX8_init_49 rfl (lv_at hl 0 rfl) ?_
  refine nw_RX8_37 S hE w (Nat.le_of_ble_eq_true rfl) (Nat.le_of_ble_eq_true rfl) dX8_init_50 (fun H w => ?_)
  refine lv_dup hx hb dX8_init_53 rfl ?_
  refine g_callv w (g_runI (As := []) (rest := [.ref (sz + 11), .ref x]) S hE w hl (c_X5_init l D ar κ (g_up (g_up (g_up (g_up (g_up (g_up (g_up (g_up (g_up (g_up (g_up (g_up (g_up G sz (.inr (6, [.ref (sz + 1), .ref (sz + 2), .int 3]))) (sz + 1) (.inl (ar 0, 12, .inl (upd (fun _ => 0) (Int32.toNatClampNeg 0) (-1))))) (sz + 2) (.inl (ar 0, 12, .inl (fun _ => 0)))) x (.inr (14, [.ref sz, .ref (sz + 3), .ref (sz + 4), .int 0, .ref (sz + 10), .null, .null, .int 0, .int 0, .int 0, .long 0, .int 0, .null]))) (sz + 3) (.inl (ar 7, 192, .inr (.inr (.inr (.inr (fun _ => none))))))) (sz + 4) (.inr (9, [.ref (sz + 5), .ref (sz + 6), .ref (sz + 7), .ref (sz + 8), .ref (sz + 9), .int 0, .int 0]))) (sz + 5) (.inl (ar 2, 24, .inl (fun _ => 0)))) (sz + 6) (.inl (ar 0, 24, .inl (fun _ => 0)))) (sz + 7) (.inl (ar 0, 24, .inl (fun _ => 0)))) (sz + 8) (.inl (ar 0, 24, .inl (fun _ => 0)))) (sz + 9) (.inl (ar 0, 24, .inl (fun _ => 0)))) (sz + 10) (.inl (ar 1, 8, .inr (.inl (fun _ => 0))))) (sz + 11) (.inr (11, [.null, .null, .int 0, .int 0, .int 0]))) (sz + 12) (sz + 11) g_up_s) (k_RX8_39 S.2.2.2.2 ⟨Nat.le_of_ble_eq_true rfl, Nat.le_of_ble_eq_true rfl⟩) rfl rfl (Nat.le_of_ble_eq_true rfl) dX8_init_54 ⟨Nat.le_of_ble_eq_true rfl, Nat.le_of_ble_eq_true rfl⟩) (fun u H locs hp hnz w => ?_)
  obtain rfl := hp
  dsimp only at w
  refine pf_RX8_40_14 (fs1 := [.ref sz, .ref (sz + 3), .ref (sz + 4), .int 0, .ref (sz + 10), .ref (sz + 11), .null, .int 0, .int 0, .int 0, .long 0, .int 0, .null]) S hE hin w (thG_b (by omega) (g_up_o (by omega) (g_up_o (by omega) (g_up_o (by omega) (g_up_o (by omega) (g_up_o (by omega) (g_up_o (by omega) (g_up_o (by omega) (g_up_o (by omega) (g_up_o (by omega) (g_up_o (by omega) (g_up_o (by omega) (g_up_o (by omega) g_up_s))))))))))))) rfl rfl (Nat.le_of_ble_eq_true rfl) rfl dX8_init_57 (fun H locs w => ?_)
  refine lv_aload_n hx hb dX8_init_60 rfl (lv_at hl 0 rfl) ?_
  refine lv_bipush (v := 12) hx hb dX8_init_61 (by decide) ?_
  refine g_newq (N' := 12) hx hb S.2.2.2.1 (S.2.2.2.2 _ m_1_155) (va_AO.use (C := "Sendhouse$Frame") (hE.2.1.1 _ (ckN_0 _ (List.mem_of_getElem? (i := 17) rfl)))) hE.1 w 5 rfl (by decide) rfl (Nat.le_of_ble_eq_true rfl) (Nat.le_of_ble_eq_true rfl) (Nat.le_of_ble_eq_true rfl) dX8_init_63 (fun H w => ?_)
  refine pf_RX8_46_14 (fs1 := [.ref sz, .ref (sz + 3), .ref (sz + 4), .int 0, .ref (sz + 10), .ref (sz + 11), .ref (sz + 134), .int 0, .int 0, .int 0, .long 0, .int 0, .null]) S hE hin w (g_up_o (by omega) g_up_s) rfl rfl (Nat.le_of_ble_eq_true rfl) rfl dX8_init_66 (fun H locs w => ?_)
  have w := g_eqw w (g_inn g_over (by omega))
  refine lv_aload_n hx hb dX8_init_69 rfl (lv_at hl 0 rfl) ?_
  refine lv_iconst (v := 0) hx hb dX8_init_70 (by decide) ?_
  refine pf_RX8_50_14 (fs1 := [.ref sz, .ref (sz + 3), .ref (sz + 4), .int 0, .ref (sz + 10), .ref (sz + 11), .ref (sz + 134), .int 0, .int 0, .int 0, .long 0, .int 0, .null]) S hE w (g_up_o (by omega) g_up_s) rfl rfl (Nat.le_of_ble_eq_true rfl) rfl dX8_init_71 (fun H locs w => ?_)
  have w := g_eqw w (g_inn g_over (by omega))
  refine lv_aload_n hx hb dX8_init_74 rfl (lv_at hl 0 rfl) ?_
  refine lv_bipush (v := 45) hx hb dX8_init_75 (by decide) ?_
  refine pf_RX8_53_14 (fs1 := [.ref sz, .ref (sz + 3), .ref (sz + 4), .int 0, .ref (sz + 10), .ref (sz + 11), .ref (sz + 134), .int 0, .int 45, .int 0, .long 0, .int 0, .null]) S hE w (g_up_o (by omega) g_up_s) rfl rfl (Nat.le_of_ble_eq_true rfl) rfl dX8_init_77 (fun H locs w => ?_)
  have w := g_eqw w (g_inn g_over (by omega))
  refine lv_aload_n hx hb dX8_init_80 rfl (lv_at hl 0 rfl) ?_
  refine lv_bipush (v := 32) hx hb dX8_init_81 (by decide) ?_
  refine pf_RX8_57_14 (fs1 := [.ref sz, .ref (sz + 3), .ref (sz + 4), .int 0, .ref (sz + 10), .ref (sz + 11), .ref (sz + 134), .int 0, .int 45, .int 32, .long 0, .int 0, .null]) S hE w (g_up_o (by omega) g_up_s) rfl rfl (Nat.le_of_ble_eq_true rfl) rfl dX8_init_83 (fun H locs w => ?_)
  have w := g_eqw w (g_inn g_over (by omega))
  refine lv_aload_n hx hb dX8_init_86 rfl (lv_at hl 0 rfl) ?_
  refine lv_ldc2 hx hb S.2.2.2.1 (S.2.2.2.2 _ m_1_157) dX8_init_87 ?_
  refine pf_RX8_62_14 (fs1 := [.ref sz, .ref (sz + 3), .ref (sz + 4), .int 0, .ref (sz + 10), .ref (sz + 11), .ref (sz + 134), .int 0, .int 45, .int 32, .long 502511173632, .int 0, .null]) S hE w (g_up_o (by omega) g_up_s) rfl rfl (Nat.le_of_ble_eq_true rfl) rfl dX8_init_90 (fun H locs w => ?_)
  have w := g_eqw w (g_inn g_over (by omega))
  refine lv_aload_n hx hb dX8_init_93 rfl (lv_at hl 0 rfl) ?_
  refine lv_iconst (v := 0) hx hb dX8_init_94 (by decide) ?_
  refine pf_RX8_66_14 (fs1 := [.ref sz, .ref (sz + 3), .ref (sz + 4), .int 0, .ref (sz + 10), .ref (sz + 11), .ref (sz + 134), .int 0, .int 45, .int 32, .long 502511173632, .int 0, .null]) S hE w (g_up_o (by omega) g_up_s) rfl rfl (Nat.le_of_ble_eq_true rfl) rfl dX8_init_95 (fun H locs w => ?_)
  have w := g_eqw w (g_inn g_over (by omega))
  refine lv_aload_n hx hb dX8_init_98 rfl (lv_at hl 0 rfl) ?_
  refine nw_RX8_69 S hE w (Nat.le_of_ble_eq_true rfl) (Nat.le_of_ble_eq_true rfl) dX8_init_99 (fun H w => ?_)
  refine lv_dup hx hb dX8_init_102 rfl ?_
  refine g_callv w (g_runIN (As := []) (rest := [.ref (sz + 135), .ref x]) S hE w hl (c_X7_init l D ar κ (g_up (g_up (g_up (thG (g_up (g_up (g_up (g_up (g_up (g_up (g_up (g_up (g_up (g_up (g_up (g_up (g_up (g_up (g_up (g_up G sz (.inr (6, [.ref (sz + 1), .ref (sz + 2), .int 3]))) (sz + 1) (.inl (ar 0, 12, .inl (upd (fun _ => 0) (Int32.toNatClampNeg 0) (-1))))) (sz + 2) (.inl (ar 0, 12, .inl (fun _ => 0)))) x (.inr (14, [.ref sz, .ref (sz + 3), .ref (sz + 4), .int 0, .ref (sz + 10), .null, .null, .int 0, .int 0, .int 0, .long 0, .int 0, .null]))) (sz + 3) (.inl (ar 7, 192, .inr (.inr (.inr (.inr (fun _ => none))))))) (sz + 4) (.inr (9, [.ref (sz + 5), .ref (sz + 6), .ref (sz + 7), .ref (sz + 8), .ref (sz + 9), .int 0, .int 0]))) (sz + 5) (.inl (ar 2, 24, .inl (fun _ => 0)))) (sz + 6) (.inl (ar 0, 24, .inl (fun _ => 0)))) (sz + 7) (.inl (ar 0, 24, .inl (fun _ => 0)))) (sz + 8) (.inl (ar 0, 24, .inl (fun _ => 0)))) (sz + 9) (.inl (ar 0, 24, .inl (fun _ => 0)))) (sz + 10) (.inl (ar 1, 8, .inr (.inl (fun _ => 0))))) (sz + 11) (.inr (11, [.null, .null, .int 0, .int 0, .int 0]))) (sz + 12) (.inl (ar 6, 60, .inr (.inr (.inr (.inr (thF (sz + 14) 60))))))) (sz + 11) (.inr (11, [.ref (sz + 12), .ref (sz + 13), .int 0, .int 0, .int 0]))) (sz + 13) (.inl (ar 6, 60, .inr (.inr (.inr (.inr (fun _ => none))))))) ar (sz + 14) 60) x (.inr (14, [.ref sz, .ref (sz + 3), .ref (sz + 4), .int 0, .ref (sz + 10), .ref (sz + 11), .ref (sz + 134), .int 0, .int 45, .int 32, .long 502511173632, .int 0, .null]))) (sz + 134) (.inl (ar 5, 12, .inr (.inr (.inr (.inr (fun _ => none))))))) (sz + 135) (.inr (13, [.null, .int 0, .long 0, .long 0]))) (sz + 136) (sz + 135) g_up_s) (k_RX8_71 S.2.2.2.2 (hE.2.1.1 _ (ckN_0 _ (List.mem_of_getElem? (i := 18) rfl))) ⟨Nat.le_of_ble_eq_true rfl, Nat.le_of_ble_eq_true rfl⟩) rfl rfl (Nat.le_of_ble_eq_true rfl) dX8_init_103 ⟨Nat.le_of_ble_eq_true rfl, Nat.le_of_ble_eq_true rfl⟩) (fun u H locs hp hnz w => ?_)
  obtain rfl := hp
  dsimp only at w
  have w := g_eqw w (g_inn g_over (by omega))
  refine pf_RX8_72_14 (fs1 := [.ref sz, .ref (sz + 3), .ref (sz + 4), .int 0, .ref (sz + 10), .ref (sz + 11), .ref (sz + 134), .int 0, .int 45, .int 32, .long 502511173632, .int 0, .ref (sz + 135)]) S hE hin w (g_up_o (by omega) (g_up_o (by omega) (g_up_o (by omega) g_up_s))) rfl rfl (Nat.le_of_ble_eq_true rfl) rfl dX8_init_106 (fun H locs w => ?_)
  have w := g_eqw w (g_inn (g_inn (g_inn g_over (by omega)) (by omega)) (by omega))
  refine lv_aload_n hx hb dX8_init_109 rfl (lv_at hl 0 rfl) ?_
  refine gf_RX8_33_14 S hE w (g_up_o (by omega) (g_up_o (by omega) (g_up_o (by omega) g_up_s))) rfl dX8_init_110 ?_
  refine lv_ldc2 hx hb S.2.2.2.1 (S.2.2.2.2 _ m_1_157) dX8_init_113 ?_
  refine g_callv w (g_runS (As := [.ref (sz + 10), .long 502511173632]) (rest := []) S hE w hl (c_fillJ l D ar κ (g_up (g_up (g_up (g_up (thG (g_up (g_up (g_up (g_up (g_up (g_up (g_up (g_up (g_up (g_up (g_up (g_up (g_up (g_up (g_up (g_up G sz (.inr (6, [.ref (sz + 1), .ref (sz + 2), .int 3]))) (sz + 1) (.inl (ar 0, 12, .inl (upd (fun _ => 0) (Int32.toNatClampNeg 0) (-1))))) (sz + 2) (.inl (ar 0, 12, .inl (fun _ => 0)))) x (.inr (14, [.ref sz, .ref (sz + 3), .ref (sz + 4), .int 0, .ref (sz + 10), .null, .null, .int 0, .int 0, .int 0, .long 0, .int 0, .null]))) (sz + 3) (.inl (ar 7, 192, .inr (.inr (.inr (.inr (fun _ => none))))))) (sz + 4) (.inr (9, [.ref (sz + 5), .ref (sz + 6), .ref (sz + 7), .ref (sz + 8), .ref (sz + 9), .int 0, .int 0]))) (sz + 5) (.inl (ar 2, 24, .inl (fun _ => 0)))) (sz + 6) (.inl (ar 0, 24, .inl (fun _ => 0)))) (sz + 7) (.inl (ar 0, 24, .inl (fun _ => 0)))) (sz + 8) (.inl (ar 0, 24, .inl (fun _ => 0)))) (sz + 9) (.inl (ar 0, 24, .inl (fun _ => 0)))) (sz + 10) (.inl (ar 1, 8, .inr (.inl (fun _ => 0))))) (sz + 11) (.inr (11, [.null, .null, .int 0, .int 0, .int 0]))) (sz + 12) (.inl (ar 6, 60, .inr (.inr (.inr (.inr (thF (sz + 14) 60))))))) (sz + 11) (.inr (11, [.ref (sz + 12), .ref (sz + 13), .int 0, .int 0, .int 0]))) (sz + 13) (.inl (ar 6, 60, .inr (.inr (.inr (.inr (fun _ => none))))))) ar (sz + 14) 60) x (.inr (14, [.ref sz, .ref (sz + 3), .ref (sz + 4), .int 0, .ref (sz + 10), .ref (sz + 11), .ref (sz + 134), .int 0, .int 45, .int 32, .long 502511173632, .int 0, .ref (sz + 135)]))) (sz + 134) (.inl (ar 5, 12, .inr (.inr (.inr (.inr (fun _ => none))))))) (sz + 135) (.inr (13, [.ref (sz + 136), .int 0, .long 0, .long 1]))) (sz + 136) (.inr (5, [.int 0, .ref (κ 0), .int 0]))) (sz + 137) (sz + 10) 502511173632 8 (fun _ => 0) (g_up_o (by omega) (g_up_o (by omega) (g_up_o (by omega) (g_up_o (by omega) (thG_b (by omega) (g_up_o (by omega) (g_up_o (by omega) (g_up_o (by omega) (g_up_o (by omega) g_up_s))))))))) (by decide)) (k_RX8_76 S.2.2.2.2 ⟨Nat.le_of_ble_eq_true rfl, Nat.le_of_ble_eq_true rfl⟩) rfl rfl (Nat.le_of_ble_eq_true rfl) dX8_init_116 ⟨Nat.le_of_ble_eq_true rfl, Nat.le_of_ble_eq_true rfl⟩) (fun u H locs hp hnz w => ?_)
  obtain rfl := hp
  dsimp only at w
  refine lv_iconst (v := 0) hx hb dX8_init_119 (by decide) ?_
  refine lv_istore_n (lv' := [(1, .int 0), (0, .ref x)]) hx hb dX8_init_120 rfl hl (by decide) rfl (fun ls hl => ?_)
  have key : ∀ (n9 i : Nat), i ≤ 12 → 12 + 1 ≤ i + n9 → ∀ (x9 : Int32), x9 = nI i → ∀ (H : Heap) (locs : List Loc) (ls : Array Slot), g_S D vwCl (g_A G sz) s.heap ((frG (g_up (g_up (g_up (g_up (g_up (thG (g_up (g_up (g_up (g_up (g_up (g_up (g_up (g_up (g_up (g_up (g_up (g_up (g_up (g_up (g_up (g_up G sz (.inr (6, [.ref (sz + 1), .ref (sz + 2), .int 3]))) (sz + 1) (.inl (ar 0, 12, .inl (upd (fun _ => 0) (Int32.toNatClampNeg 0) (-1))))) (sz + 2) (.inl (ar 0, 12, .inl (fun _ => 0)))) x (.inr (14, [.ref sz, .ref (sz + 3), .ref (sz + 4), .int 0, .ref (sz + 10), .null, .null, .int 0, .int 0, .int 0, .long 0, .int 0, .null]))) (sz + 3) (.inl (ar 7, 192, .inr (.inr (.inr (.inr (fun _ => none))))))) (sz + 4) (.inr (9, [.ref (sz + 5), .ref (sz + 6), .ref (sz + 7), .ref (sz + 8), .ref (sz + 9), .int 0, .int 0]))) (sz + 5) (.inl (ar 2, 24, .inl (fun _ => 0)))) (sz + 6) (.inl (ar 0, 24, .inl (fun _ => 0)))) (sz + 7) (.inl (ar 0, 24, .inl (fun _ => 0)))) (sz + 8) (.inl (ar 0, 24, .inl (fun _ => 0)))) (sz + 9) (.inl (ar 0, 24, .inl (fun _ => 0)))) (sz + 10) (.inl (ar 1, 8, .inr (.inl (fun _ => 0))))) (sz + 11) (.inr (11, [.null, .null, .int 0, .int 0, .int 0]))) (sz + 12) (.inl (ar 6, 60, .inr (.inr (.inr (.inr (thF (sz + 14) 60))))))) (sz + 11) (.inr (11, [.ref (sz + 12), .ref (sz + 13), .int 0, .int 0, .int 0]))) (sz + 13) (.inl (ar 6, 60, .inr (.inr (.inr (.inr (fun _ => none))))))) ar (sz + 14) 60) x (.inr (14, [.ref sz, .ref (sz + 3), .ref (sz + 4), .int 0, .ref (sz + 10), .ref (sz + 11), .ref (sz + 134), .int 0, .int 45, .int 32, .long 502511173632, .int 0, .ref (sz + 135)]))) (sz + 134) (.inl (ar 5, 12, .inr (.inr (.inr (.inr (frF (sz + 137) i))))))) (sz + 135) (.inr (13, [.ref (sz + 136), .int 0, .long 0, .long 1]))) (sz + 136) (.inr (5, [.int 0, .ref (κ 0), .int 0]))) (sz + 10) (.inl (ar 1, 8, .inr (.inl (fillJ (fun _ => 0) 502511173632 8))))) ar (sz + 137) i)) H locs (sz + 137 + 4 * i) → lv_has ls 2 [(1, .int x9), (0, .ref x)] → W p l e (rD 6 185 1530) s m ([.ref x] : List Value).toArray below meth c H locs (137 + 4 * i) (1278 + 21 * i) (MQ below (g_Qv D vwCl (g_A G sz) (fun u => u = ((frG (g_up (g_up (g_up (g_up (g_up (thG (g_up (g_up (g_up (g_up (g_up (g_up (g_up (g_up (g_up (g_up (g_up (g_up (g_up (g_up (g_up (g_up G sz (.inr (6, [.ref (sz + 1), .ref (sz + 2), .int 3]))) (sz + 1) (.inl (ar 0, 12, .inl (upd (fun _ => 0) (Int32.toNatClampNeg 0) (-1))))) (sz + 2) (.inl (ar 0, 12, .inl (fun _ => 0)))) x (.inr (14, [.ref sz, .ref (sz + 3), .ref (sz + 4), .int 0, .ref (sz + 10), .null, .null, .int 0, .int 0, .int 0, .long 0, .int 0, .null]))) (sz + 3) (.inl (ar 7, 192, .inr (.inr (.inr (.inr (fun _ => none))))))) (sz + 4) (.inr (9, [.ref (sz + 5), .ref (sz + 6), .ref (sz + 7), .ref (sz + 8), .ref (sz + 9), .int 0, .int 0]))) (sz + 5) (.inl (ar 2, 24, .inl (fun _ => 0)))) (sz + 6) (.inl (ar 0, 24, .inl (fun _ => 0)))) (sz + 7) (.inl (ar 0, 24, .inl (fun _ => 0)))) (sz + 8) (.inl (ar 0, 24, .inl (fun _ => 0)))) (sz + 9) (.inl (ar 0, 24, .inl (fun _ => 0)))) (sz + 10) (.inl (ar 1, 8, .inr (.inl (fun _ => 0))))) (sz + 11) (.inr (11, [.null, .null, .int 0, .int 0, .int 0]))) (sz + 12) (.inl (ar 6, 60, .inr (.inr (.inr (.inr (thF (sz + 14) 60))))))) (sz + 11) (.inr (11, [.ref (sz + 12), .ref (sz + 13), .int 0, .int 0, .int 0]))) (sz + 13) (.inl (ar 6, 60, .inr (.inr (.inr (.inr (fun _ => none))))))) ar (sz + 14) 60) x (.inr (14, [.ref sz, .ref (sz + 3), .ref (sz + 4), .int 0, .ref (sz + 10), .ref (sz + 11), .ref (sz + 134), .int 0, .int 45, .int 32, .long 502511173632, .int 0, .ref (sz + 135)]))) (sz + 134) (.inl (ar 5, 12, .inr (.inr (.inr (.inr (frF (sz + 137) 12))))))) (sz + 135) (.inr (13, [.ref (sz + 136), .int 0, .long 0, .long 1]))) (sz + 136) (.inr (5, [.int 0, .ref (κ 0), .int 0]))) (sz + 10) (.inl (ar 1, 8, .inr (.inl (fillJ (fun _ => 0) 502511173632 8))))) ar (sz + 137) 12), sz + 185))) ([.ref x] : List Value).toArray s 185 1530 (g_A G sz)) (F0 m 121 ls []) := by
    intro n9
    induction n9 with
    | zero => intro i hi1 hi2; exact absurd hi2 (by omega)
    | succ n9 ih =>
      intro i hi1 hi2 x9 ex9 H locs ls w hl
      refine lv_iload_n hx hb dX8_init_121 rfl (lv_at hl 0 rfl) ?_
      refine lv_aload_n hx hb dX8_init_122 rfl (lv_at hl 1 rfl) ?_
      refine gf_RX8_46_14 S hE w (frG_b (by omega) (g_up_o (by omega) (g_up_o (by omega) (g_up_o (by omega) (g_up_o (by omega) g_up_s))))) rfl dX8_init_123 ?_
      refine va_alen (v := 12) hx hb hE.1 (g_1 w.1 (frG_b (by omega) (g_up_o (by omega) (g_up_o (by omega) (g_up_o (by omega) g_up_s))))) 0 5 rfl rfl rfl dX8_init_126 ?_
      refine lv_icmp_ge (tgt := 149) hx hb dX8_init_127 (by decide) (fun c_127 => ?_) (fun c_127 => ?_)
      · have hin9 := lp_eq (n := 12) rfl ex9 hi1 (by decide) c_127
        exact g_vret hx hb hr hlk w (by (try dsimp only [rD]); omega) (by (try dsimp only [rD]); omega) dX8_init_149 (by rw [hin9])
      · have hlt9 := lp_lt (n := 12) rfl ex9 hi1 (by decide) c_127
        refine lv_aload_n hx hb dX8_init_130 rfl (lv_at hl 1 rfl) ?_
        refine gf_RX8_46_14 S hE w (frG_b (by omega) (g_up_o (by omega) (g_up_o (by omega) (g_up_o (by omega) (g_up_o (by omega) g_up_s))))) rfl dX8_init_131 ?_
        refine lv_iload_n hx hb dX8_init_134 rfl (lv_at hl 0 rfl) ?_
        refine nw_RX8_44 S hE w (by (try dsimp only [rD]); omega) (by (try dsimp only [rD]); omega) dX8_init_135 (fun H w => ?_)
        refine lv_dup hx hb dX8_init_138 rfl ?_
        refine g_callv w (g_runIN (As := []) (rest := [.ref (sz + 137 + 4 * i), .int x9, .ref (sz + 134)]) S hE w hl (c_X1_init l D ar κ (g_up (frG (g_up (g_up (g_up (g_up (g_up (thG (g_up (g_up (g_up (g_up (g_up (g_up (g_up (g_up (g_up (g_up (g_up (g_up (g_up (g_up (g_up (g_up G sz (.inr (6, [.ref (sz + 1), .ref (sz + 2), .int 3]))) (sz + 1) (.inl (ar 0, 12, .inl (upd (fun _ => 0) (Int32.toNatClampNeg 0) (-1))))) (sz + 2) (.inl (ar 0, 12, .inl (fun _ => 0)))) x (.inr (14, [.ref sz, .ref (sz + 3), .ref (sz + 4), .int 0, .ref (sz + 10), .null, .null, .int 0, .int 0, .int 0, .long 0, .int 0, .null]))) (sz + 3) (.inl (ar 7, 192, .inr (.inr (.inr (.inr (fun _ => none))))))) (sz + 4) (.inr (9, [.ref (sz + 5), .ref (sz + 6), .ref (sz + 7), .ref (sz + 8), .ref (sz + 9), .int 0, .int 0]))) (sz + 5) (.inl (ar 2, 24, .inl (fun _ => 0)))) (sz + 6) (.inl (ar 0, 24, .inl (fun _ => 0)))) (sz + 7) (.inl (ar 0, 24, .inl (fun _ => 0)))) (sz + 8) (.inl (ar 0, 24, .inl (fun _ => 0)))) (sz + 9) (.inl (ar 0, 24, .inl (fun _ => 0)))) (sz + 10) (.inl (ar 1, 8, .inr (.inl (fun _ => 0))))) (sz + 11) (.inr (11, [.null, .null, .int 0, .int 0, .int 0]))) (sz + 12) (.inl (ar 6, 60, .inr (.inr (.inr (.inr (thF (sz + 14) 60))))))) (sz + 11) (.inr (11, [.ref (sz + 12), .ref (sz + 13), .int 0, .int 0, .int 0]))) (sz + 13) (.inl (ar 6, 60, .inr (.inr (.inr (.inr (fun _ => none))))))) ar (sz + 14) 60) x (.inr (14, [.ref sz, .ref (sz + 3), .ref (sz + 4), .int 0, .ref (sz + 10), .ref (sz + 11), .ref (sz + 134), .int 0, .int 45, .int 32, .long 502511173632, .int 0, .ref (sz + 135)]))) (sz + 134) (.inl (ar 5, 12, .inr (.inr (.inr (.inr (frF (sz + 137) i))))))) (sz + 135) (.inr (13, [.ref (sz + 136), .int 0, .long 0, .long 1]))) (sz + 136) (.inr (5, [.int 0, .ref (κ 0), .int 0]))) (sz + 10) (.inl (ar 1, 8, .inr (.inl (fillJ (fun _ => 0) 502511173632 8))))) ar (sz + 137) i) (sz + 137 + 4 * i) (.inr (7, [.null, .null, .null, .null, .long 0, .int 0, .int 0]))) (sz + 137 + 4 * i + 1) (sz + 137 + 4 * i) g_up_s) (k_RX8_82 S.2.2.2.2 (hE.2.1.1 _ (ckN_0 _ (List.mem_of_getElem? (i := 21) rfl))) ⟨Nat.le_of_ble_eq_true rfl, Nat.le_of_ble_eq_true rfl⟩) rfl rfl (Nat.le_of_ble_eq_true rfl) dX8_init_139 ⟨(by (try dsimp only [rD]); omega), (by (try dsimp only [rD]); omega)⟩) (fun u H locs hp hnz w => ?_)
        obtain rfl := hp
        dsimp only at w
        have w := g_eqw w (g_cng (g_cng (g_inn g_over (by omega))))
        refine g_astq (r := (RX1, TX1, 7)) hx hb hE.1 w 5 7 (g_up_o (by omega) (g_up_o (by omega) (g_up_o (by omega) (g_up_o (by omega) (frG_b (by omega) (g_up_o (by omega) (g_up_o (by omega) (g_up_o (by omega) g_up_s)))))))) rfl (g_up_o (by omega) (g_up_o (by omega) (g_up_o (by omega) g_up_s))) rfl (by rw [ex9]; exact vp_in_nI (by omega) (by decide)) dX8_init_142 (fun H locs w => ?_)
        refine lv_iinc (v := x9 + 1) (lv' := [(1, .int (x9 + 1)), (0, .ref x)]) hx hb dX8_init_143 hl (k := 0) rfl rfl (by decide) rfl (fun ls hl => ?_)
        refine lv_goto (tgt := 121) hx hb dX8_init_146 (by decide) ?_
        refine W.widen (k := 137 + 4 * (i + 1)) (n := 1278 + 21 * (i + 1)) (by omega) (by omega) ?_
        rw [frG_s (by omega) (by omega) (by omega) (by omega) (by omega)] at w
        have w := g_eqw w (congrArg (fun X => frG X ar (sz + 137) (i + 1)) (g_inn (g_inn (g_inn g_over (by omega)) (by omega)) (by omega)))
        rw [ex9, frF_s (by omega) (by omega)] at w
        exact ih (i + 1) (by omega) (by omega) _ (by rw [ex9]; exact nI_1 i) _ _ _ w (lv_sub hl [0, 1] rfl)
  exact key 13 0 (Nat.zero_le _) (by omega) 0 rfl _ _ _ (g_eqw w (by rw [frG_0, frF_0])) (lv_sub hl [0, 1] rfl)
end
section
theorem thG_o {W : gW} {ar : Nat → ClassId} {q i a : Nat} (ha : a = q) (h : 0 < i) : thG W ar q i a = some (.inr (10, [.ref (a + 1), .int 0, .int 0, .int 0, .int 0])) := by
  subst ha
  unfold thG
  rw [if_pos (by omega), if_pos (by omega)]
theorem thG_p {W : gW} {ar : Nat → ClassId} {q i a : Nat} (ha : a = q + 1) (h : 0 < i) : thG W ar q i a = some (.inl (ar 1, 8, .inr (.inl (fun _ => 0)))) := by
  subst ha
  unfold thG
  rw [if_pos (by omega), if_neg (by omega)]
/-- a house that was just made, at x, what it has from q on -/
def FH (ar : Nat → ClassId) (κ : Nat → Nat) (G : gW) (x q : Nat) : Prop := x < q ∧ G x = some (.inr (14, [.ref q, .ref (q + 3), .ref (q + 4), .int 0, .ref (q + 10), .ref (q + 11), .ref (q + 134), .int 0, .int 45, .int 32, .long 502511173632, .int 0, .ref (q + 135)])) ∧ G q = some (.inr (6, [.ref (q + 1), .ref (q + 2), .int 3])) ∧ G (q + 1) = some (.inl (ar 0, 12, .inl (upd (fun _ => 0) (Int32.toNatClampNeg 0) (-1)))) ∧ G (q + 2) = some (.inl (ar 0, 12, .inl (fun _ => 0))) ∧ G (q + 3) = some (.inl (ar 7, 192, .inr (.inr (.inr (.inr (fun _ => none)))))) ∧ G (q + 4) = some (.inr (9, [.ref (q + 5), .ref (q + 6), .ref (q + 7), .ref (q + 8), .ref (q + 9), .int 0, .int 0])) ∧ G (q + 5) = some (.inl (ar 2, 24, .inl (fun _ => 0))) ∧ G (q + 6) = some (.inl (ar 0, 24, .inl (fun _ => 0))) ∧ G (q + 7) = some (.inl (ar 0, 24, .inl (fun _ => 0))) ∧ G (q + 8) = some (.inl (ar 0, 24, .inl (fun _ => 0))) ∧ G (q + 9) = some (.inl (ar 0, 24, .inl (fun _ => 0))) ∧ G (q + 10) = some (.inl (ar 1, 8, .inr (.inl (fillJ (fun _ => 0) 502511173632 8)))) ∧ G (q + 11) = some (.inr (11, [.ref (q + 12), .ref (q + 13), .int 0, .int 0, .int 0])) ∧ G (q + 12) = some (.inl (ar 6, 60, .inr (.inr (.inr (.inr (thF (q + 14) 60)))))) ∧ G (q + 13) = some (.inl (ar 6, 60, .inr (.inr (.inr (.inr (fun _ => none)))))) ∧ G (q + 14) = some (.inr (10, [.ref (q + 15), .int 0, .int 0, .int 0, .int 0])) ∧ G (q + 15) = some (.inl (ar 1, 8, .inr (.inl (fun _ => 0)))) ∧ G (q + 134) = some (.inl (ar 5, 12, .inr (.inr (.inr (.inr (frF (q + 137) 12)))))) ∧ G (q + 135) = some (.inr (13, [.ref (q + 136), .int 0, .long 0, .long 1])) ∧ G (q + 136) = some (.inr (5, [.int 0, .ref (κ 0), .int 0]))
theorem FH_init (ar : Nat → ClassId) (κ : Nat → Nat) (G : gW) (x sz : Nat) (lt0 : x < sz) : FH ar κ ((frG (g_up (g_up (g_up (g_up (g_up (thG (g_up (g_up (g_up (g_up (g_up (g_up (g_up (g_up (g_up (g_up (g_up (g_up (g_up (g_up (g_up (g_up G sz (.inr (6, [.ref (sz + 1), .ref (sz + 2), .int 3]))) (sz + 1) (.inl (ar 0, 12, .inl (upd (fun _ => 0) (Int32.toNatClampNeg 0) (-1))))) (sz + 2) (.inl (ar 0, 12, .inl (fun _ => 0)))) x (.inr (14, [.ref sz, .ref (sz + 3), .ref (sz + 4), .int 0, .ref (sz + 10), .null, .null, .int 0, .int 0, .int 0, .long 0, .int 0, .null]))) (sz + 3) (.inl (ar 7, 192, .inr (.inr (.inr (.inr (fun _ => none))))))) (sz + 4) (.inr (9, [.ref (sz + 5), .ref (sz + 6), .ref (sz + 7), .ref (sz + 8), .ref (sz + 9), .int 0, .int 0]))) (sz + 5) (.inl (ar 2, 24, .inl (fun _ => 0)))) (sz + 6) (.inl (ar 0, 24, .inl (fun _ => 0)))) (sz + 7) (.inl (ar 0, 24, .inl (fun _ => 0)))) (sz + 8) (.inl (ar 0, 24, .inl (fun _ => 0)))) (sz + 9) (.inl (ar 0, 24, .inl (fun _ => 0)))) (sz + 10) (.inl (ar 1, 8, .inr (.inl (fun _ => 0))))) (sz + 11) (.inr (11, [.null, .null, .int 0, .int 0, .int 0]))) (sz + 12) (.inl (ar 6, 60, .inr (.inr (.inr (.inr (thF (sz + 14) 60))))))) (sz + 11) (.inr (11, [.ref (sz + 12), .ref (sz + 13), .int 0, .int 0, .int 0]))) (sz + 13) (.inl (ar 6, 60, .inr (.inr (.inr (.inr (fun _ => none))))))) ar (sz + 14) 60) x (.inr (14, [.ref sz, .ref (sz + 3), .ref (sz + 4), .int 0, .ref (sz + 10), .ref (sz + 11), .ref (sz + 134), .int 0, .int 45, .int 32, .long 502511173632, .int 0, .ref (sz + 135)]))) (sz + 134) (.inl (ar 5, 12, .inr (.inr (.inr (.inr (frF (sz + 137) 12))))))) (sz + 135) (.inr (13, [.ref (sz + 136), .int 0, .long 0, .long 1]))) (sz + 136) (.inr (5, [.int 0, .ref (κ 0), .int 0]))) (sz + 10) (.inl (ar 1, 8, .inr (.inl (fillJ (fun _ => 0) 502511173632 8))))) ar (sz + 137) 12)) x sz :=
  ⟨lt0, (frG_b (by omega) (g_up_o (by omega) (g_up_o (by omega) (g_up_o (by omega) (g_up_o (by omega) g_up_s))))), (frG_b (by omega) (g_up_o (by omega) (g_up_o (by omega) (g_up_o (by omega) (g_up_o (by omega) (g_up_o (by omega) (thG_b (by omega) (g_up_o (by omega) (g_up_o (by omega) (g_up_o (by omega) (g_up_o (by omega) (g_up_o (by omega) (g_up_o (by omega) (g_up_o (by omega) (g_up_o (by omega) (g_up_o (by omega) (g_up_o (by omega) (g_up_o (by omega) (g_up_o (by omega) (g_up_o (by omega) (g_up_o (by omega) (g_up_o (by omega) g_up_s)))))))))))))))))))))), (frG_b (by omega) (g_up_o (by omega) (g_up_o (by omega) (g_up_o (by omega) (g_up_o (by omega) (g_up_o (by omega) (thG_b (by omega) (g_up_o (by omega) (g_up_o (by omega) (g_up_o (by omega) (g_up_o (by omega) (g_up_o (by omega) (g_up_o (by omega) (g_up_o (by omega) (g_up_o (by omega) (g_up_o (by omega) (g_up_o (by omega) (g_up_o (by omega) (g_up_o (by omega) (g_up_o (by omega) (g_up_o (by omega) g_up_s))))))))))))))))))))), (frG_b (by omega) (g_up_o (by omega) (g_up_o (by omega) (g_up_o (by omega) (g_up_o (by omega) (g_up_o (by omega) (thG_b (by omega) (g_up_o (by omega) (g_up_o (by omega) (g_up_o (by omega) (g_up_o (by omega) (g_up_o (by omega) (g_up_o (by omega) (g_up_o (by omega) (g_up_o (by omega) (g_up_o (by omega) (g_up_o (by omega) (g_up_o (by omega) (g_up_o (by omega) (g_up_o (by omega) g_up_s)))))))))))))))))))), (frG_b (by omega) (g_up_o (by omega) (g_up_o (by omega) (g_up_o (by omega) (g_up_o (by omega) (g_up_o (by omega) (thG_b (by omega) (g_up_o (by omega) (g_up_o (by omega) (g_up_o (by omega) (g_up_o (by omega) (g_up_o (by omega) (g_up_o (by omega) (g_up_o (by omega) (g_up_o (by omega) (g_up_o (by omega) (g_up_o (by omega) (g_up_o (by omega) g_up_s)))))))))))))))))), (frG_b (by omega) (g_up_o (by omega) (g_up_o (by omega) (g_up_o (by omega) (g_up_o (by omega) (g_up_o (by omega) (thG_b (by omega) (g_up_o (by omega) (g_up_o (by omega) (g_up_o (by omega) (g_up_o (by omega) (g_up_o (by omega) (g_up_o (by omega) (g_up_o (by omega) (g_up_o (by omega) (g_up_o (by omega) (g_up_o (by omega) g_up_s))))))))))))))))), (frG_b (by omega) (g_up_o (by omega) (g_up_o (by omega) (g_up_o (by omega) (g_up_o (by omega) (g_up_o (by omega) (thG_b (by omega) (g_up_o (by omega) (g_up_o (by omega) (g_up_o (by omega) (g_up_o (by omega) (g_up_o (by omega) (g_up_o (by omega) (g_up_o (by omega) (g_up_o (by omega) (g_up_o (by omega) g_up_s)))))))))))))))), (frG_b (by omega) (g_up_o (by omega) (g_up_o (by omega) (g_up_o (by omega) (g_up_o (by omega) (g_up_o (by omega) (thG_b (by omega) (g_up_o (by omega) (g_up_o (by omega) (g_up_o (by omega) (g_up_o (by omega) (g_up_o (by omega) (g_up_o (by omega) (g_up_o (by omega) (g_up_o (by omega) g_up_s))))))))))))))), (frG_b (by omega) (g_up_o (by omega) (g_up_o (by omega) (g_up_o (by omega) (g_up_o (by omega) (g_up_o (by omega) (thG_b (by omega) (g_up_o (by omega) (g_up_o (by omega) (g_up_o (by omega) (g_up_o (by omega) (g_up_o (by omega) (g_up_o (by omega) (g_up_o (by omega) g_up_s)))))))))))))), (frG_b (by omega) (g_up_o (by omega) (g_up_o (by omega) (g_up_o (by omega) (g_up_o (by omega) (g_up_o (by omega) (thG_b (by omega) (g_up_o (by omega) (g_up_o (by omega) (g_up_o (by omega) (g_up_o (by omega) (g_up_o (by omega) (g_up_o (by omega) g_up_s))))))))))))), (frG_b (by omega) (g_up_o (by omega) (g_up_o (by omega) (g_up_o (by omega) (g_up_o (by omega) (g_up_o (by omega) (thG_b (by omega) (g_up_o (by omega) (g_up_o (by omega) (g_up_o (by omega) (g_up_o (by omega) (g_up_o (by omega) g_up_s)))))))))))), (frG_b (by omega) g_up_s), (frG_b (by omega) (g_up_o (by omega) (g_up_o (by omega) (g_up_o (by omega) (g_up_o (by omega) (g_up_o (by omega) (thG_b (by omega) (g_up_o (by omega) g_up_s)))))))), (frG_b (by omega) (g_up_o (by omega) (g_up_o (by omega) (g_up_o (by omega) (g_up_o (by omega) (g_up_o (by omega) (thG_b (by omega) (g_up_o (by omega) (g_up_o (by omega) g_up_s))))))))), (frG_b (by omega) (g_up_o (by omega) (g_up_o (by omega) (g_up_o (by omega) (g_up_o (by omega) (g_up_o (by omega) (thG_b (by omega) g_up_s))))))), (frG_b (by omega) (g_up_o (by omega) (g_up_o (by omega) (g_up_o (by omega) (g_up_o (by omega) (g_up_o (by omega) (thG_o rfl (by omega)))))))), (frG_b (by omega) (g_up_o (by omega) (g_up_o (by omega) (g_up_o (by omega) (g_up_o (by omega) (g_up_o (by omega) (thG_p rfl (by omega)))))))), (frG_b (by omega) (g_up_o (by omega) (g_up_o (by omega) (g_up_o (by omega) g_up_s)))), (frG_b (by omega) (g_up_o (by omega) (g_up_o (by omega) g_up_s))), (frG_b (by omega) (g_up_o (by omega) g_up_s))⟩
end
section
/-! a house's state, in plain values; where each of its cells lies; the world that holds it -/
abbrev Ro : Type := ((((Nat → Int32) × (Nat → Int32)) × ((Nat → Int32) × (Nat → Int32))) × (((Nat → Int32) × (Int32)) × (Int32)))
def Ro.l (v : Ro) : Nat → Int32 := v.1.1.1
def Ro.f (v : Ro) : Nat → Int32 := v.1.1.2
def Ro.g (v : Ro) : Nat → Int32 := v.1.2.1
def Ro.d (v : Ro) : Nat → Int32 := v.1.2.2
def Ro.q (v : Ro) : Nat → Int32 := v.2.1.1
def Ro.n (v : Ro) : Int32 := v.2.1.2
def Ro.k (v : Ro) : Int32 := v.2.2
def Ro.sl (v : Ro) (y : Nat → Int32) : Ro := (((y, v.f), (v.g, v.d)), ((v.q, v.n), v.k))
def Ro.sf (v : Ro) (y : Nat → Int32) : Ro := (((v.l, y), (v.g, v.d)), ((v.q, v.n), v.k))
def Ro.sg (v : Ro) (y : Nat → Int32) : Ro := (((v.l, v.f), (y, v.d)), ((v.q, v.n), v.k))
def Ro.sd (v : Ro) (y : Nat → Int32) : Ro := (((v.l, v.f), (v.g, y)), ((v.q, v.n), v.k))
def Ro.sq (v : Ro) (y : Nat → Int32) : Ro := (((v.l, v.f), (v.g, v.d)), ((y, v.n), v.k))
def Ro.sn (v : Ro) (y : Int32) : Ro := (((v.l, v.f), (v.g, v.d)), ((v.q, y), v.k))
def Ro.sk (v : Ro) (y : Int32) : Ro := (((v.l, v.f), (v.g, v.d)), ((v.q, v.n), y))
abbrev To : Type := ((((Int32) × (Int32)) × (Int32)) × (((Int32) × (Int32)) × (Nat)))
def To.c (v : To) : Int32 := v.1.1.1
def To.s (v : To) : Int32 := v.1.1.2
def To.a (v : To) : Int32 := v.1.2
def To.t (v : To) : Int32 := v.2.1.1
def To.n (v : To) : Int32 := v.2.1.2
def To.q (v : To) : Nat := v.2.2
def To.sc (v : To) (y : Int32) : To := (((y, v.s), v.a), ((v.t, v.n), v.q))
def To.ss (v : To) (y : Int32) : To := (((v.c, y), v.a), ((v.t, v.n), v.q))
def To.sa (v : To) (y : Int32) : To := (((v.c, v.s), y), ((v.t, v.n), v.q))
def To.st (v : To) (y : Int32) : To := (((v.c, v.s), v.a), ((y, v.n), v.q))
def To.sn (v : To) (y : Int32) : To := (((v.c, v.s), v.a), ((v.t, y), v.q))
def To.sq (v : To) (y : Nat) : To := (((v.c, v.s), v.a), ((v.t, v.n), y))
abbrev Th : Type := ((((Nat → Int64) × (Int32)) × (Int32)) × ((Int32) × (Int32)))
def Th.p (v : Th) : Nat → Int64 := v.1.1.1
def Th.n (v : Th) : Int32 := v.1.1.2
def Th.c (v : Th) : Int32 := v.1.2
def Th.z (v : Th) : Int32 := v.2.1
def Th.r (v : Th) : Int32 := v.2.2
def Th.sp (v : Th) (y : Nat → Int64) : Th := (((y, v.n), v.c), (v.z, v.r))
def Th.sn (v : Th) (y : Int32) : Th := (((v.p, y), v.c), (v.z, v.r))
def Th.sc (v : Th) (y : Int32) : Th := (((v.p, v.n), y), (v.z, v.r))
def Th.sz (v : Th) (y : Int32) : Th := (((v.p, v.n), v.c), (y, v.r))
def Th.sr (v : Th) (y : Int32) : Th := (((v.p, v.n), v.c), (v.z, y))
abbrev Fr : Type := ((((Nat → Int64) × (Nat → Int64)) × ((Nat → Int64) × (Option Nat))) × (((Int64) × (Int32)) × (Int32)))
def Fr.a (v : Fr) : Nat → Int64 := v.1.1.1
def Fr.t (v : Fr) : Nat → Int64 := v.1.1.2
def Fr.p (v : Fr) : Nat → Int64 := v.1.2.1
def Fr.o (v : Fr) : Option Nat := v.1.2.2
def Fr.v (v : Fr) : Int64 := v.2.1.1
def Fr.w (v : Fr) : Int32 := v.2.1.2
def Fr.d (v : Fr) : Int32 := v.2.2
def Fr.sa (v : Fr) (y : Nat → Int64) : Fr := (((y, v.t), (v.p, v.o)), ((v.v, v.w), v.d))
def Fr.st (v : Fr) (y : Nat → Int64) : Fr := (((v.a, y), (v.p, v.o)), ((v.v, v.w), v.d))
def Fr.sp (v : Fr) (y : Nat → Int64) : Fr := (((v.a, v.t), (y, v.o)), ((v.v, v.w), v.d))
def Fr.so (v : Fr) (y : Option Nat) : Fr := (((v.a, v.t), (v.p, y)), ((v.v, v.w), v.d))
def Fr.sv (v : Fr) (y : Int64) : Fr := (((v.a, v.t), (v.p, v.o)), ((y, v.w), v.d))
def Fr.sw (v : Fr) (y : Int32) : Fr := (((v.a, v.t), (v.p, v.o)), ((v.v, y), v.d))
def Fr.sd (v : Fr) (y : Int32) : Fr := (((v.a, v.t), (v.p, v.o)), ((v.v, v.w), y))
abbrev Ho : Type := ((((((Nat → Int32) × (Nat → Int32)) × ((Int32) × (Nat → Option Nat))) × (((Nat) × (Nat)) × (Nat))) × ((((Nat → To) × (Nat → Ro)) × ((Nat → Int64) × (Nat → Option (Fin 60)))) × (((Nat → Option (Fin 60)) × (Fin 60 → Th)) × (Int32)))) × (((((Int32) × (Int32)) × ((Fin 12 → Fr) × (Int32))) × (((Int32) × (Int32)) × (Int64))) × ((((Int32) × (Nat)) × (Nat → Nat → Int64)) × (((Int32) × (Int64)) × (Int64)))))
def Ho.ab (v : Ho) : Nat → Int32 := v.1.1.1.1.1
def Ho.fc (v : Ho) : Nat → Int32 := v.1.1.1.1.2
def Ho.cn (v : Ho) : Int32 := v.1.1.1.2.1
def Ho.me (v : Ho) : Nat → Option Nat := v.1.1.1.2.2
def Ho.nt (v : Ho) : Nat := v.1.1.2.1.1
def Ho.nr (v : Ho) : Nat := v.1.1.2.1.2
def Ho.ty (v : Ho) : Nat := v.1.1.2.2
def Ho.to (v : Ho) : Nat → To := v.1.2.1.1.1
def Ho.ro (v : Ho) : Nat → Ro := v.1.2.1.1.2
def Ho.gl (v : Ho) : Nat → Int64 := v.1.2.1.2.1
def Ho.al (v : Ho) : Nat → Option (Fin 60) := v.1.2.1.2.2
def Ho.re (v : Ho) : Nat → Option (Fin 60) := v.1.2.2.1.1
def Ho.th (v : Ho) : Fin 60 → Th := v.1.2.2.1.2
def Ho.tc (v : Ho) : Int32 := v.1.2.2.2
def Ho.rc (v : Ho) : Int32 := v.2.1.1.1.1
def Ho.mk (v : Ho) : Int32 := v.2.1.1.1.2
def Ho.fr (v : Ho) : Fin 12 → Fr := v.2.1.1.2.1
def Ho.fn (v : Ho) : Int32 := v.2.1.1.2.2
def Ho.st (v : Ho) : Int32 := v.2.1.2.1.1
def Ho.rs (v : Ho) : Int32 := v.2.1.2.1.2
def Ho.an (v : Ho) : Int64 := v.2.1.2.2
def Ho.sp (v : Ho) : Int32 := v.2.2.1.1.1
def Ho.np (v : Ho) : Nat := v.2.2.1.1.2
def Ho.pg (v : Ho) : Nat → Nat → Int64 := v.2.2.1.2
def Ho.wc (v : Ho) : Int32 := v.2.2.2.1.1
def Ho.ws (v : Ho) : Int64 := v.2.2.2.1.2
def Ho.wp (v : Ho) : Int64 := v.2.2.2.2
def Ho.sab (v : Ho) (y : Nat → Int32) : Ho := (((((y, v.fc), (v.cn, v.me)), ((v.nt, v.nr), v.ty)), (((v.to, v.ro), (v.gl, v.al)), ((v.re, v.th), v.tc))), ((((v.rc, v.mk), (v.fr, v.fn)), ((v.st, v.rs), v.an)), (((v.sp, v.np), v.pg), ((v.wc, v.ws), v.wp))))
def Ho.sfc (v : Ho) (y : Nat → Int32) : Ho := (((((v.ab, y), (v.cn, v.me)), ((v.nt, v.nr), v.ty)), (((v.to, v.ro), (v.gl, v.al)), ((v.re, v.th), v.tc))), ((((v.rc, v.mk), (v.fr, v.fn)), ((v.st, v.rs), v.an)), (((v.sp, v.np), v.pg), ((v.wc, v.ws), v.wp))))
def Ho.scn (v : Ho) (y : Int32) : Ho := (((((v.ab, v.fc), (y, v.me)), ((v.nt, v.nr), v.ty)), (((v.to, v.ro), (v.gl, v.al)), ((v.re, v.th), v.tc))), ((((v.rc, v.mk), (v.fr, v.fn)), ((v.st, v.rs), v.an)), (((v.sp, v.np), v.pg), ((v.wc, v.ws), v.wp))))
def Ho.sme (v : Ho) (y : Nat → Option Nat) : Ho := (((((v.ab, v.fc), (v.cn, y)), ((v.nt, v.nr), v.ty)), (((v.to, v.ro), (v.gl, v.al)), ((v.re, v.th), v.tc))), ((((v.rc, v.mk), (v.fr, v.fn)), ((v.st, v.rs), v.an)), (((v.sp, v.np), v.pg), ((v.wc, v.ws), v.wp))))
def Ho.snt (v : Ho) (y : Nat) : Ho := (((((v.ab, v.fc), (v.cn, v.me)), ((y, v.nr), v.ty)), (((v.to, v.ro), (v.gl, v.al)), ((v.re, v.th), v.tc))), ((((v.rc, v.mk), (v.fr, v.fn)), ((v.st, v.rs), v.an)), (((v.sp, v.np), v.pg), ((v.wc, v.ws), v.wp))))
def Ho.snr (v : Ho) (y : Nat) : Ho := (((((v.ab, v.fc), (v.cn, v.me)), ((v.nt, y), v.ty)), (((v.to, v.ro), (v.gl, v.al)), ((v.re, v.th), v.tc))), ((((v.rc, v.mk), (v.fr, v.fn)), ((v.st, v.rs), v.an)), (((v.sp, v.np), v.pg), ((v.wc, v.ws), v.wp))))
def Ho.sty (v : Ho) (y : Nat) : Ho := (((((v.ab, v.fc), (v.cn, v.me)), ((v.nt, v.nr), y)), (((v.to, v.ro), (v.gl, v.al)), ((v.re, v.th), v.tc))), ((((v.rc, v.mk), (v.fr, v.fn)), ((v.st, v.rs), v.an)), (((v.sp, v.np), v.pg), ((v.wc, v.ws), v.wp))))
def Ho.sto (v : Ho) (y : Nat → To) : Ho := (((((v.ab, v.fc), (v.cn, v.me)), ((v.nt, v.nr), v.ty)), (((y, v.ro), (v.gl, v.al)), ((v.re, v.th), v.tc))), ((((v.rc, v.mk), (v.fr, v.fn)), ((v.st, v.rs), v.an)), (((v.sp, v.np), v.pg), ((v.wc, v.ws), v.wp))))
def Ho.sro (v : Ho) (y : Nat → Ro) : Ho := (((((v.ab, v.fc), (v.cn, v.me)), ((v.nt, v.nr), v.ty)), (((v.to, y), (v.gl, v.al)), ((v.re, v.th), v.tc))), ((((v.rc, v.mk), (v.fr, v.fn)), ((v.st, v.rs), v.an)), (((v.sp, v.np), v.pg), ((v.wc, v.ws), v.wp))))
def Ho.sgl (v : Ho) (y : Nat → Int64) : Ho := (((((v.ab, v.fc), (v.cn, v.me)), ((v.nt, v.nr), v.ty)), (((v.to, v.ro), (y, v.al)), ((v.re, v.th), v.tc))), ((((v.rc, v.mk), (v.fr, v.fn)), ((v.st, v.rs), v.an)), (((v.sp, v.np), v.pg), ((v.wc, v.ws), v.wp))))
def Ho.sal (v : Ho) (y : Nat → Option (Fin 60)) : Ho := (((((v.ab, v.fc), (v.cn, v.me)), ((v.nt, v.nr), v.ty)), (((v.to, v.ro), (v.gl, y)), ((v.re, v.th), v.tc))), ((((v.rc, v.mk), (v.fr, v.fn)), ((v.st, v.rs), v.an)), (((v.sp, v.np), v.pg), ((v.wc, v.ws), v.wp))))
def Ho.sre (v : Ho) (y : Nat → Option (Fin 60)) : Ho := (((((v.ab, v.fc), (v.cn, v.me)), ((v.nt, v.nr), v.ty)), (((v.to, v.ro), (v.gl, v.al)), ((y, v.th), v.tc))), ((((v.rc, v.mk), (v.fr, v.fn)), ((v.st, v.rs), v.an)), (((v.sp, v.np), v.pg), ((v.wc, v.ws), v.wp))))
def Ho.sth (v : Ho) (y : Fin 60 → Th) : Ho := (((((v.ab, v.fc), (v.cn, v.me)), ((v.nt, v.nr), v.ty)), (((v.to, v.ro), (v.gl, v.al)), ((v.re, y), v.tc))), ((((v.rc, v.mk), (v.fr, v.fn)), ((v.st, v.rs), v.an)), (((v.sp, v.np), v.pg), ((v.wc, v.ws), v.wp))))
def Ho.stc (v : Ho) (y : Int32) : Ho := (((((v.ab, v.fc), (v.cn, v.me)), ((v.nt, v.nr), v.ty)), (((v.to, v.ro), (v.gl, v.al)), ((v.re, v.th), y))), ((((v.rc, v.mk), (v.fr, v.fn)), ((v.st, v.rs), v.an)), (((v.sp, v.np), v.pg), ((v.wc, v.ws), v.wp))))
def Ho.src (v : Ho) (y : Int32) : Ho := (((((v.ab, v.fc), (v.cn, v.me)), ((v.nt, v.nr), v.ty)), (((v.to, v.ro), (v.gl, v.al)), ((v.re, v.th), v.tc))), ((((y, v.mk), (v.fr, v.fn)), ((v.st, v.rs), v.an)), (((v.sp, v.np), v.pg), ((v.wc, v.ws), v.wp))))
def Ho.smk (v : Ho) (y : Int32) : Ho := (((((v.ab, v.fc), (v.cn, v.me)), ((v.nt, v.nr), v.ty)), (((v.to, v.ro), (v.gl, v.al)), ((v.re, v.th), v.tc))), ((((v.rc, y), (v.fr, v.fn)), ((v.st, v.rs), v.an)), (((v.sp, v.np), v.pg), ((v.wc, v.ws), v.wp))))
def Ho.sfr (v : Ho) (y : Fin 12 → Fr) : Ho := (((((v.ab, v.fc), (v.cn, v.me)), ((v.nt, v.nr), v.ty)), (((v.to, v.ro), (v.gl, v.al)), ((v.re, v.th), v.tc))), ((((v.rc, v.mk), (y, v.fn)), ((v.st, v.rs), v.an)), (((v.sp, v.np), v.pg), ((v.wc, v.ws), v.wp))))
def Ho.sfn (v : Ho) (y : Int32) : Ho := (((((v.ab, v.fc), (v.cn, v.me)), ((v.nt, v.nr), v.ty)), (((v.to, v.ro), (v.gl, v.al)), ((v.re, v.th), v.tc))), ((((v.rc, v.mk), (v.fr, y)), ((v.st, v.rs), v.an)), (((v.sp, v.np), v.pg), ((v.wc, v.ws), v.wp))))
def Ho.sst (v : Ho) (y : Int32) : Ho := (((((v.ab, v.fc), (v.cn, v.me)), ((v.nt, v.nr), v.ty)), (((v.to, v.ro), (v.gl, v.al)), ((v.re, v.th), v.tc))), ((((v.rc, v.mk), (v.fr, v.fn)), ((y, v.rs), v.an)), (((v.sp, v.np), v.pg), ((v.wc, v.ws), v.wp))))
def Ho.srs (v : Ho) (y : Int32) : Ho := (((((v.ab, v.fc), (v.cn, v.me)), ((v.nt, v.nr), v.ty)), (((v.to, v.ro), (v.gl, v.al)), ((v.re, v.th), v.tc))), ((((v.rc, v.mk), (v.fr, v.fn)), ((v.st, y), v.an)), (((v.sp, v.np), v.pg), ((v.wc, v.ws), v.wp))))
def Ho.san (v : Ho) (y : Int64) : Ho := (((((v.ab, v.fc), (v.cn, v.me)), ((v.nt, v.nr), v.ty)), (((v.to, v.ro), (v.gl, v.al)), ((v.re, v.th), v.tc))), ((((v.rc, v.mk), (v.fr, v.fn)), ((v.st, v.rs), y)), (((v.sp, v.np), v.pg), ((v.wc, v.ws), v.wp))))
def Ho.ssp (v : Ho) (y : Int32) : Ho := (((((v.ab, v.fc), (v.cn, v.me)), ((v.nt, v.nr), v.ty)), (((v.to, v.ro), (v.gl, v.al)), ((v.re, v.th), v.tc))), ((((v.rc, v.mk), (v.fr, v.fn)), ((v.st, v.rs), v.an)), (((y, v.np), v.pg), ((v.wc, v.ws), v.wp))))
def Ho.snp (v : Ho) (y : Nat) : Ho := (((((v.ab, v.fc), (v.cn, v.me)), ((v.nt, v.nr), v.ty)), (((v.to, v.ro), (v.gl, v.al)), ((v.re, v.th), v.tc))), ((((v.rc, v.mk), (v.fr, v.fn)), ((v.st, v.rs), v.an)), (((v.sp, y), v.pg), ((v.wc, v.ws), v.wp))))
def Ho.spg (v : Ho) (y : Nat → Nat → Int64) : Ho := (((((v.ab, v.fc), (v.cn, v.me)), ((v.nt, v.nr), v.ty)), (((v.to, v.ro), (v.gl, v.al)), ((v.re, v.th), v.tc))), ((((v.rc, v.mk), (v.fr, v.fn)), ((v.st, v.rs), v.an)), (((v.sp, v.np), y), ((v.wc, v.ws), v.wp))))
def Ho.swc (v : Ho) (y : Int32) : Ho := (((((v.ab, v.fc), (v.cn, v.me)), ((v.nt, v.nr), v.ty)), (((v.to, v.ro), (v.gl, v.al)), ((v.re, v.th), v.tc))), ((((v.rc, v.mk), (v.fr, v.fn)), ((v.st, v.rs), v.an)), (((v.sp, v.np), v.pg), ((y, v.ws), v.wp))))
def Ho.sws (v : Ho) (y : Int64) : Ho := (((((v.ab, v.fc), (v.cn, v.me)), ((v.nt, v.nr), v.ty)), (((v.to, v.ro), (v.gl, v.al)), ((v.re, v.th), v.tc))), ((((v.rc, v.mk), (v.fr, v.fn)), ((v.st, v.rs), v.an)), (((v.sp, v.np), v.pg), ((v.wc, y), v.wp))))
def Ho.swp (v : Ho) (y : Int64) : Ho := (((((v.ab, v.fc), (v.cn, v.me)), ((v.nt, v.nr), v.ty)), (((v.to, v.ro), (v.gl, v.al)), ((v.re, v.th), v.tc))), ((((v.rc, v.mk), (v.fr, v.fn)), ((v.st, v.rs), v.an)), (((v.sp, v.np), v.pg), ((v.wc, v.ws), y))))
abbrev Tg : Type := (Unit ⊕ Unit ⊕ Unit ⊕ Unit ⊕ Unit ⊕ Unit ⊕ Unit ⊕ Unit ⊕ Unit ⊕ Unit ⊕ Unit ⊕ Unit ⊕ Unit) ⊕ (Fin 60 ⊕ Fin 60) ⊕ (Fin 12 ⊕ Fin 12 ⊕ Fin 12 ⊕ Fin 12) ⊕ (Nat) ⊕ (Nat ⊕ Nat ⊕ Nat ⊕ Nat ⊕ Nat ⊕ Nat) ⊕ (Nat ⊕ Nat)
def Tg.ho : Tg := (.inl (.inl ()))
def Tg.cl : Tg := (.inl (.inr (.inl ())))
def Tg.ab : Tg := (.inl (.inr (.inr (.inl ()))))
def Tg.fc : Tg := (.inl (.inr (.inr (.inr (.inl ())))))
def Tg.me : Tg := (.inl (.inr (.inr (.inr (.inr (.inl ()))))))
def Tg.gl : Tg := (.inl (.inr (.inr (.inr (.inr (.inr (.inl ())))))))
def Tg.ts : Tg := (.inl (.inr (.inr (.inr (.inr (.inr (.inr (.inl ()))))))))
def Tg.al : Tg := (.inl (.inr (.inr (.inr (.inr (.inr (.inr (.inr (.inl ())))))))))
def Tg.re : Tg := (.inl (.inr (.inr (.inr (.inr (.inr (.inr (.inr (.inr (.inl ()))))))))))
def Tg.fs : Tg := (.inl (.inr (.inr (.inr (.inr (.inr (.inr (.inr (.inr (.inr (.inl ())))))))))))
def Tg.wr : Tg := (.inl (.inr (.inr (.inr (.inr (.inr (.inr (.inr (.inr (.inr (.inr (.inl ()))))))))))))
def Tg.pl : Tg := (.inl (.inr (.inr (.inr (.inr (.inr (.inr (.inr (.inr (.inr (.inr (.inr (.inl ())))))))))))))
def Tg.el : Tg := (.inl (.inr (.inr (.inr (.inr (.inr (.inr (.inr (.inr (.inr (.inr (.inr (.inr ())))))))))))))
def Tg.th (i : Fin 60) : Tg := (.inr (.inl (.inl i)))
def Tg.tp (i : Fin 60) : Tg := (.inr (.inl (.inr i)))
def Tg.fr (i : Fin 12) : Tg := (.inr (.inr (.inl (.inl i))))
def Tg.fa (i : Fin 12) : Tg := (.inr (.inr (.inl (.inr (.inl i)))))
def Tg.ft (i : Fin 12) : Tg := (.inr (.inr (.inl (.inr (.inr (.inl i))))))
def Tg.fp (i : Fin 12) : Tg := (.inr (.inr (.inl (.inr (.inr (.inr i))))))
def Tg.to (i : Nat) : Tg := (.inr (.inr (.inr (.inl i))))
def Tg.ro (i : Nat) : Tg := (.inr (.inr (.inr (.inr (.inl (.inl i))))))
def Tg.rl (i : Nat) : Tg := (.inr (.inr (.inr (.inr (.inl (.inr (.inl i)))))))
def Tg.rf (i : Nat) : Tg := (.inr (.inr (.inr (.inr (.inl (.inr (.inr (.inl i))))))))
def Tg.rg (i : Nat) : Tg := (.inr (.inr (.inr (.inr (.inl (.inr (.inr (.inr (.inl i)))))))))
def Tg.rd (i : Nat) : Tg := (.inr (.inr (.inr (.inr (.inl (.inr (.inr (.inr (.inr (.inl i))))))))))
def Tg.rq (i : Nat) : Tg := (.inr (.inr (.inr (.inr (.inl (.inr (.inr (.inr (.inr (.inr i))))))))))
def Tg.pg (i : Nat) : Tg := (.inr (.inr (.inr (.inr (.inr (.inl i))))))
def Tg.pv (i : Nat) : Tg := (.inr (.inr (.inr (.inr (.inr (.inr i))))))
abbrev Zo : Type := ((((Nat → Option Tg) × (Nat → Int32)) × ((Nat) × (Int32))) × (((Nat) × (Nat → Nat)) × (Nat → Nat)))
abbrev Xo : Type := (Tg → Nat) × Int32 × Zo
def Xo.f (v : Xo) : Tg → Nat := v.1
def Xo.ht (v : Xo) : Int32 := v.2.1
def Xo.z (v : Xo) : Zo := v.2.2
def Xo.b (v : Xo) : Nat → Option Tg := v.2.2.1.1.1
def Xo.cm (v : Xo) : Nat → Int32 := v.2.2.1.1.2
def Xo.ec (v : Xo) : Nat := v.2.2.1.2.1
def Xo.mc (v : Xo) : Int32 := v.2.2.1.2.2
def Xo.pe (v : Xo) : Nat := v.2.2.2.1.1
def Xo.pp (v : Xo) : Nat → Nat := v.2.2.2.1.2
def Xo.pq (v : Xo) : Nat → Nat := v.2.2.2.2
def Zo.b (z : Zo) : Nat → Option Tg := z.1.1.1
def mkZ (b : Nat → Option Tg) (cm : Nat → Int32) (ec : Nat) (mc : Int32) (pe : Nat) (pp : Nat → Nat) (pq : Nat → Nat) : Zo := (((b, cm), (ec, mc)), ((pe, pp), pq))
def Xo.pgs (x : Xo) (z : Zo) : Xo := (x.f, x.ht, z)
def Xo.sht (x : Xo) (y : Int32) : Xo := (x.f, y, x.2.2)
/-- where a cell lies -/
def Xo.a (x : Xo) : Tg → Nat := Sum.elim (Sum.elim (fun _ => x.f (.ho)) (Sum.elim (fun _ => x.f (.cl)) (Sum.elim (fun _ => x.f (.ab)) (Sum.elim (fun _ => x.f (.fc)) (Sum.elim (fun _ => x.f (.me)) (Sum.elim (fun _ => x.f (.gl)) (Sum.elim (fun _ => x.f (.ts)) (Sum.elim (fun _ => x.f (.al)) (Sum.elim (fun _ => x.f (.re)) (Sum.elim (fun _ => x.f (.fs)) (Sum.elim (fun _ => x.f (.wr)) (Sum.elim (fun _ => x.f (.pl)) ((fun _ => x.pe)))))))))))))) (Sum.elim (Sum.elim (fun i => x.f (.th i)) ((fun i => x.f (.tp i)))) (Sum.elim (Sum.elim (fun i => x.f (.fr i)) (Sum.elim (fun i => x.f (.fa i)) (Sum.elim (fun i => x.f (.ft i)) ((fun i => x.f (.fp i)))))) (Sum.elim ((fun i => x.f (.to i))) (Sum.elim (Sum.elim (fun i => x.f (.ro i)) (Sum.elim (fun i => x.f (.rl i)) (Sum.elim (fun i => x.f (.rf i)) (Sum.elim (fun i => x.f (.rg i)) (Sum.elim (fun i => x.f (.rd i)) ((fun i => x.f (.rq i)))))))) ((Sum.elim (fun i => x.pp i) ((fun i => x.pq i))))))))
def fF (k : Nat) : Option (Fin 12) := if h : k < 12 then some ⟨k, h⟩ else none
def updF {n : Nat} {α : Type} (f : Fin n → α) (i : Fin n) (v : α) : Fin n → α := fun j => cond (Nat.beq j.val i.val) v (f j)
def updN {α : Type} (f : Nat → α) (i : Nat) (v : α) : Nat → α := fun j => cond (Nat.beq j i) v (f j)
theorem updF_s {n : Nat} {α : Type} {f : Fin n → α} {i : Fin n} {v : α} : updF f i v i = v := by unfold updF; rw [Nat.beq_refl]; rfl
theorem updF_o {n : Nat} {α : Type} {f : Fin n → α} {i j : Fin n} {v : α} (h : j ≠ i) : updF f i v j = f j := by
  unfold updF
  have e : Nat.beq j.val i.val = false := Bool.eq_false_iff.mpr (fun q => h (Fin.ext (Nat.eq_of_beq_eq_true q)))
  rw [e]; rfl
theorem updN_s {α : Type} {f : Nat → α} {i : Nat} {v : α} : updN f i v i = v := by unfold updN; rw [Nat.beq_refl]; rfl
theorem updN_o {α : Type} {f : Nat → α} {i j : Nat} {v : α} (h : j ≠ i) : updN f i v j = f j := by
  unfold updN
  have e : Nat.beq j i = false := Bool.eq_false_iff.mpr (fun q => h (Nat.eq_of_beq_eq_true q))
  rw [e]; rfl
theorem updF_id {n : Nat} {α : Type} {f : Fin n → α} {i : Fin n} : updF f i (f i) = f := by
  funext j
  by_cases h : j = i
  · subst h; exact updF_s
  · exact updF_o h
theorem updN_id {α : Type} {f : Nat → α} {i : Nat} : updN f i (f i) = f := by
  funext j
  by_cases h : j = i
  · subst h; exact updN_s
  · exact updN_o h
theorem updF_2 {n : Nat} {α : Type} {f : Fin n → α} {i : Fin n} {v u : α} : updF (updF f i v) i u = updF f i u := by
  funext j
  by_cases h : j = i
  · subst h; rw [updF_s, updF_s]
  · rw [updF_o h, updF_o h, updF_o h]
theorem updN_2 {α : Type} {f : Nat → α} {i : Nat} {v u : α} : updN (updN f i v) i u = updN f i u := by
  funext j
  by_cases h : j = i
  · subst h; rw [updN_s, updN_s]
  · rw [updN_o h, updN_o h, updN_o h]
/-- one thing, one frame, one method, one list of rows set anew -/
def Ho.frS (S : Ho) (i : Fin 12) (v : Fr) : Ho := S.sfr (updF S.fr i v)
theorem frS_id {S : Ho} {i : Fin 12} : S.frS i (S.fr i) = S := by
  unfold Ho.frS; rw [updF_id]; rfl
theorem frS_s {S : Ho} {i : Fin 12} {v : Fr} : (S.frS i v).fr i = v := updF_s
theorem frS_o {S : Ho} {i j : Fin 12} {v : Fr} (h : j ≠ i) : (S.frS i v).fr j = S.fr j := updF_o h
theorem frS_2 {S : Ho} {i : Fin 12} {v u : Fr} : (S.frS i v).frS i u = S.frS i u := by
  show S.sfr (updF (updF S.fr i v) i u) = S.sfr (updF S.fr i u)
  rw [updF_2]
def Ho.thS (S : Ho) (i : Fin 60) (v : Th) : Ho := S.sth (updF S.th i v)
theorem thS_id {S : Ho} {i : Fin 60} : S.thS i (S.th i) = S := by
  unfold Ho.thS; rw [updF_id]; rfl
theorem thS_s {S : Ho} {i : Fin 60} {v : Th} : (S.thS i v).th i = v := updF_s
theorem thS_o {S : Ho} {i j : Fin 60} {v : Th} (h : j ≠ i) : (S.thS i v).th j = S.th j := updF_o h
theorem thS_2 {S : Ho} {i : Fin 60} {v u : Th} : (S.thS i v).thS i u = S.thS i u := by
  show S.sth (updF (updF S.th i v) i u) = S.sth (updF S.th i u)
  rw [updF_2]
def Ho.toS (S : Ho) (i : Nat) (v : To) : Ho := S.sto (updN S.to i v)
theorem toS_id {S : Ho} {i : Nat} : S.toS i (S.to i) = S := by
  unfold Ho.toS; rw [updN_id]; rfl
theorem toS_s {S : Ho} {i : Nat} {v : To} : (S.toS i v).to i = v := updN_s
theorem toS_o {S : Ho} {i j : Nat} {v : To} (h : j ≠ i) : (S.toS i v).to j = S.to j := updN_o h
theorem toS_2 {S : Ho} {i : Nat} {v u : To} : (S.toS i v).toS i u = S.toS i u := by
  show S.sto (updN (updN S.to i v) i u) = S.sto (updN S.to i u)
  rw [updN_2]
def Ho.roS (S : Ho) (i : Nat) (v : Ro) : Ho := S.sro (updN S.ro i v)
theorem roS_id {S : Ho} {i : Nat} : S.roS i (S.ro i) = S := by
  unfold Ho.roS; rw [updN_id]; rfl
theorem roS_s {S : Ho} {i : Nat} {v : Ro} : (S.roS i v).ro i = v := updN_s
theorem roS_o {S : Ho} {i j : Nat} {v : Ro} (h : j ≠ i) : (S.roS i v).ro j = S.ro j := updN_o h
theorem roS_2 {S : Ho} {i : Nat} {v u : Ro} : (S.roS i v).roS i u = S.roS i u := by
  show S.sro (updN (updN S.ro i v) i u) = S.sro (updN S.ro i u)
  rw [updN_2]
/-- which cells there are -/
def vl (S : Ho) : Tg → Bool := Sum.elim (Sum.elim (fun _ => true) (Sum.elim (fun _ => true) (Sum.elim (fun _ => true) (Sum.elim (fun _ => true) (Sum.elim (fun _ => true) (Sum.elim (fun _ => true) (Sum.elim (fun _ => true) (Sum.elim (fun _ => true) (Sum.elim (fun _ => true) (Sum.elim (fun _ => true) (Sum.elim (fun _ => true) (Sum.elim (fun _ => true) ((fun _ => decide (0 < S.np))))))))))))))) (Sum.elim (Sum.elim (fun _ => true) ((fun _ => true))) (Sum.elim (Sum.elim (fun _ => true) (Sum.elim (fun _ => true) (Sum.elim (fun _ => true) ((fun _ => true))))) (Sum.elim ((fun i => decide (i < S.nt))) (Sum.elim (Sum.elim (fun i => decide (i < S.nr)) (Sum.elim (fun i => decide (i < S.nr)) (Sum.elim (fun i => decide (i < S.nr)) (Sum.elim (fun i => decide (i < S.nr)) (Sum.elim (fun i => decide (i < S.nr)) ((fun i => decide (i < S.nr)))))))) ((Sum.elim (fun i => decide (i < S.np)) ((fun i => decide (i < S.np)))))))))
/-- what a cell holds -/
def cSg (κ : Nat → Nat) (ar : Nat → ClassId) (x : Xo) (f_ab : Nat → Int32) (f_fc : Nat → Int32) (f_cn : Int32) (f_me : Nat → Option Nat) (f_ty : Nat) (f_gl : Nat → Int64) (f_al : Nat → Option (Fin 60)) (f_re : Nat → Option (Fin 60)) (f_tc : Int32) (f_rc : Int32) (f_mk : Int32) (f_fn : Int32) (f_st : Int32) (f_rs : Int32) (f_an : Int64) (f_sp : Int32) (f_np : Nat) (f_wc : Int32) (f_ws : Int64) (f_wp : Int64) : Unit ⊕ Unit ⊕ Unit ⊕ Unit ⊕ Unit ⊕ Unit ⊕ Unit ⊕ Unit ⊕ Unit ⊕ Unit ⊕ Unit ⊕ Unit ⊕ Unit → va_E := Sum.elim (fun _ => (.inr (14, [.ref (x.f .cl), .ref (x.f .me), .ref (x.f (.ro f_ty)), .int x.ht, .ref (x.f .gl), .ref (x.f .ts), .ref (x.f .fs), .int f_fn, .int f_st, .int f_rs, .long f_an, .int f_sp, .ref (x.f .wr)]) : va_E)) (Sum.elim (fun _ => (.inr (6, [.ref (x.f .ab), .ref (x.f .fc), .int f_cn]) : va_E)) (Sum.elim (fun _ => (.inl (ar 0, 12, .inl f_ab) : va_E)) (Sum.elim (fun _ => (.inl (ar 0, 12, .inl f_fc) : va_E)) (Sum.elim (fun _ => (.inl (ar 7, 192, .inr (.inr (.inr (.inr (fun j9 => (f_me j9).map (fun k9 => x.f (.to k9))))))) : va_E)) (Sum.elim (fun _ => (.inl (ar 1, 8, .inr (.inl f_gl)) : va_E)) (Sum.elim (fun _ => (.inr (11, [.ref (x.f .al), .ref (x.f .re), .int f_tc, .int f_rc, .int f_mk]) : va_E)) (Sum.elim (fun _ => (.inl (ar 6, 60, .inr (.inr (.inr (.inr (fun j9 => (f_al j9).map (fun k9 => x.f (.th k9))))))) : va_E)) (Sum.elim (fun _ => (.inl (ar 6, 60, .inr (.inr (.inr (.inr (fun j9 => (f_re j9).map (fun k9 => x.f (.th k9))))))) : va_E)) (Sum.elim (fun _ => (.inl (ar 5, 12, .inr (.inr (.inr (.inr (fun j9 => (fF j9).map (fun k9 => x.f (.fr k9))))))) : va_E)) (Sum.elim (fun _ => (.inr (13, [.ref (x.f .pl), .int f_wc, .long f_ws, .long f_wp]) : va_E)) (Sum.elim (fun _ => (.inr (5, [.int x.mc, .ref (if f_np = 0 then κ 0 else x.pe), .int (Int32.ofNat f_np)]) : va_E)) ((fun _ => (.inl (ar 8, x.ec, .inr (.inr (.inr (.inr (fun j9 => if j9 < f_np then some (x.pp j9) else none))))) : va_E))))))))))))))
def cTh (ar : Nat → ClassId) (x : Xo) (f_th : Fin 60 → Th) : Fin 60 ⊕ Fin 60 → va_E := Sum.elim (fun i => (.inr (10, [.ref (x.f (.tp i)), .int (f_th i).n, .int (f_th i).c, .int (f_th i).z, .int (f_th i).r]) : va_E)) ((fun i => (.inl (ar 1, 8, .inr (.inl (f_th i).p)) : va_E)))
def cFr (ar : Nat → ClassId) (x : Xo) (f_fr : Fin 12 → Fr) : Fin 12 ⊕ Fin 12 ⊕ Fin 12 ⊕ Fin 12 → va_E := Sum.elim (fun i => (.inr (7, [.ref (x.f (.fa i)), .ref (x.f (.ft i)), .ref (x.f (.fp i)), va_rf ((f_fr i).o.map (fun k9 => x.f (.to k9))), .long (f_fr i).v, .int (f_fr i).w, .int (f_fr i).d]) : va_E)) (Sum.elim (fun i => (.inl (ar 1, 2, .inr (.inl (f_fr i).a)) : va_E)) (Sum.elim (fun i => (.inl (ar 1, 4, .inr (.inl (f_fr i).t)) : va_E)) ((fun i => (.inl (ar 1, 8, .inr (.inl (f_fr i).p)) : va_E)))))
def cTo (ar : Nat → ClassId) (x : Xo) (f_to : Nat → To) : Nat → va_E := (fun i => (.inr (12, [.int (f_to i).c, .int (f_to i).s, .int (f_to i).a, .int (f_to i).t, .ref (x.f (.ro (f_to i).q)), .int (f_to i).n, .int (x.cm i)]) : va_E))
def cRo (ar : Nat → ClassId) (x : Xo) (f_ro : Nat → Ro) : Nat ⊕ Nat ⊕ Nat ⊕ Nat ⊕ Nat ⊕ Nat → va_E := Sum.elim (fun i => (.inr (9, [.ref (x.f (.rl i)), .ref (x.f (.rf i)), .ref (x.f (.rg i)), .ref (x.f (.rd i)), .ref (x.f (.rq i)), .int (f_ro i).n, .int (f_ro i).k]) : va_E)) (Sum.elim (fun i => (.inl (ar 2, 24, .inl (f_ro i).l) : va_E)) (Sum.elim (fun i => (.inl (ar 0, 24, .inl (f_ro i).f) : va_E)) (Sum.elim (fun i => (.inl (ar 0, 24, .inl (f_ro i).g) : va_E)) (Sum.elim (fun i => (.inl (ar 0, 24, .inl (f_ro i).d) : va_E)) ((fun i => (.inl (ar 0, 24, .inl (f_ro i).q) : va_E)))))))
def cPg (ar : Nat → ClassId) (x : Xo) (f_pg : Nat → Nat → Int64) : Nat ⊕ Nat → va_E := Sum.elim (fun i => (.inr (8, [.ref (x.pq i)]) : va_E)) ((fun i => (.inl (ar 1, 512, .inr (.inl (f_pg i))) : va_E)))
def cellH (κ : Nat → Nat) (ar : Nat → ClassId) (x : Xo) (S : Ho) : Tg → va_E := Sum.elim (cSg κ ar x S.ab S.fc S.cn S.me S.ty S.gl S.al S.re S.tc S.rc S.mk S.fn S.st S.rs S.an S.sp S.np S.wc S.ws S.wp) (Sum.elim (cTh ar x S.th) (Sum.elim (cFr ar x S.fr) (Sum.elim (cTo ar x S.to) (Sum.elim (cRo ar x S.ro) ((cPg ar x S.pg))))))
def ov (κ : Nat → Nat) (ar : Nat → ClassId) (x : Xo) (S : Ho) (G : gW) : gW := fun a => match x.b a with
  | some t => some (cellH κ ar x S t)
  | none => G a
/-- the addresses and the numbers of methods are in order -/
def OK (x : Xo) (S : Ho) : Prop := (∀ t, vl S t = true → x.b (x.a t) = some t) ∧ (∀ a t, x.b a = some t → x.a t = a) ∧ (∀ j k, S.me j = some k → k < S.nt) ∧ (∀ i k, (S.fr i).o = some k → k < S.nt) ∧ (∀ k, k < S.nt → (S.to k).q < S.nr) ∧ S.ty < S.nr
section OV
variable {κ : Nat → Nat} {ar : Nat → ClassId} {x x' : Xo} {S S' T : Ho} {G : gW} {t : Tg} {c : va_E}
theorem OK.e (h : OK x S) : ∀ t, vl S t = true → x.b (x.a t) = some t := h.1
theorem OK.v (h : OK x S) : ∀ a t, x.b a = some t → x.a t = a := h.2.1
theorem OK.m (h : OK x S) {j k : Nat} (q : S.me j = some k) : k < S.nt := h.2.2.1 j k q
theorem OK.o (h : OK x S) {i : Fin 12} {k : Nat} (q : (S.fr i).o = some k) : k < S.nt := h.2.2.2.1 i k q
theorem OK.q (h : OK x S) {k : Nat} (q : k < S.nt) : (S.to k).q < S.nr := h.2.2.2.2.1 k q
theorem OK.y (h : OK x S) : S.ty < S.nr := h.2.2.2.2.2
theorem OK.e_to (h : OK x S) {i : Nat} (q : i < S.nt) : x.b (x.a (.to i)) = some (.to i) := h.1 (.to i) (decide_eq_true q)
theorem OK.e_ro (h : OK x S) {i : Nat} (q : i < S.nr) : x.b (x.a (.ro i)) = some (.ro i) := h.1 (.ro i) (decide_eq_true q)
theorem OK.e_rl (h : OK x S) {i : Nat} (q : i < S.nr) : x.b (x.a (.rl i)) = some (.rl i) := h.1 (.rl i) (decide_eq_true q)
theorem OK.e_rf (h : OK x S) {i : Nat} (q : i < S.nr) : x.b (x.a (.rf i)) = some (.rf i) := h.1 (.rf i) (decide_eq_true q)
theorem OK.e_rg (h : OK x S) {i : Nat} (q : i < S.nr) : x.b (x.a (.rg i)) = some (.rg i) := h.1 (.rg i) (decide_eq_true q)
theorem OK.e_rd (h : OK x S) {i : Nat} (q : i < S.nr) : x.b (x.a (.rd i)) = some (.rd i) := h.1 (.rd i) (decide_eq_true q)
theorem OK.e_rq (h : OK x S) {i : Nat} (q : i < S.nr) : x.b (x.a (.rq i)) = some (.rq i) := h.1 (.rq i) (decide_eq_true q)
theorem OK.e_pg (h : OK x S) {i : Nat} (q : i < S.np) : x.b (x.a (.pg i)) = some (.pg i) := h.1 (.pg i) (decide_eq_true q)
theorem OK.e_pv (h : OK x S) {i : Nat} (q : i < S.np) : x.b (x.a (.pv i)) = some (.pv i) := h.1 (.pv i) (decide_eq_true q)
theorem ov_r (h : x.b (x.a t) = some t) : ov κ ar x S G (x.a t) = some (cellH κ ar x S t) := by
  unfold ov
  rw [h]
theorem ov_w (hv : ∀ a t, x.b a = some t → x.a t = a) (h : x.b (x.a t) = some t) (hb : x'.b = x.b) (hc : c = cellH κ ar x' S' t) (hs : ∀ t', t' ≠ t → cellH κ ar x' S' t' = cellH κ ar x S t') : g_up (ov κ ar x S G) (x.a t) c = ov κ ar x' S' G := by
  funext a
  unfold g_up ov
  rw [hb]
  by_cases q : a = x.a t
  · subst q
    rw [if_pos rfl, h, hc]
  · rw [if_neg q]
    cases hba : x.b a with
    | none => rfl
    | some t' =>
      have h1 := hv a t' hba
      have h2 : t' ≠ t := fun z => q (by rw [← h1, z])
      simp only [hs t' h2]
theorem vl_same (hn : T.nt = S.nt) (hr : T.nr = S.nr) (hp : T.np = S.np) (t : Tg) : vl T t = vl S t := by
  unfold vl
  rw [hn, hr, hp]
theorem OK.same (h : OK x S) (hn : T.nt = S.nt) (hr : T.nr = S.nr) (hp : T.np = S.np) (hy : T.ty = S.ty) (hm : ∀ j k, T.me j = some k → k < S.nt) (ho : ∀ i k, (T.fr i).o = some k → k < S.nt) (hq : ∀ k, (T.to k).q = (S.to k).q) : OK x T :=
  ⟨fun t ht => h.e t (by rw [← vl_same hn hr hp t]; exact ht), h.v, fun j k q => by rw [hn]; exact hm j k q, fun i k q => by rw [hn]; exact ho i k q, fun k q => by rw [hq, hr]; exact h.q (by rw [← hn]; exact q), by rw [hy, hr]; exact h.y⟩
/-- a change that leaves methods, frames and pages alone -/
theorem OK.plain (h : OK x S) (hn : T.nt = S.nt) (hr : T.nr = S.nr) (hp : T.np = S.np) (hy : T.ty = S.ty) (hm : T.me = S.me) (ho : T.fr = S.fr) (ht : T.to = S.to) : OK x T :=
  h.same hn hr hp hy (fun j k q => h.m (by rw [← hm]; exact q)) (fun i k q => h.o (by rw [← ho]; exact q)) (fun k => by rw [ht])
theorem OK.frS (h : OK x S) {i : Fin 12} {v : Fr} (hv : ∀ k, v.o = some k → k < S.nt) : OK x (S.frS i v) :=
  h.same rfl rfl rfl rfl h.2.2.1 (fun j k q => by
    by_cases hj : j = i
    · subst hj
      rw [frS_s] at q
      exact hv k q
    · rw [frS_o hj] at q
      exact h.o q) (fun _ => rfl)
theorem OK.toS (h : OK x S) {i : Nat} {v : To} (hv : v.q = (S.to i).q) : OK x (S.toS i v) :=
  h.same rfl rfl rfl rfl h.2.2.1 h.2.2.2.1 (fun k => by
    by_cases hj : k = i
    · subst hj
      rw [toS_s]
      exact hv
    · rw [toS_o hj])
theorem OK.meS (h : OK x S) {i : Nat} {e : Option Nat} (he : ∀ k, e = some k → k < S.nt) : OK x (S.sme (updN S.me i e)) :=
  h.same rfl rfl rfl rfl (fun j k q => by
    have q' : updN S.me i e j = some k := q
    by_cases hj : j = i
    · subst hj
      rw [updN_s] at q'
      exact he k q'
    · rw [updN_o hj] at q'
      exact h.m q') h.2.2.2.1 (fun _ => rfl)
theorem up_map {α : Type} {g : Nat → Option α} {F : α → Nat} {i : Nat} {e : Option α} : va_up (fun j => (g j).map F) i (e.map F) = fun j => (updN g i e j).map F := by
  funext j
  by_cases h : j = i
  · subst h
    show va_up _ _ _ _ = Option.map F (updN g j e j)
    rw [updN_s]
    exact if_pos rfl
  · show va_up _ _ _ _ = Option.map F (updN g i e j)
    rw [updN_o h]
    exact if_neg h
theorem ov_rfr {i : Fin 12} {v : Fr} (h : x.b (x.a (.fr i)) = some (.fr i)) : ov κ ar x (S.frS i v) G (x.f (.fr i)) = some (.inr (7, [.ref (x.f (.fa i)), .ref (x.f (.ft i)), .ref (x.f (.fp i)), va_rf (v.o.map (fun k9 => x.f (.to k9))), .long v.v, .int v.w, .int v.d])) := by
  refine (ov_r (t := .fr i) h).trans ?_
  show some (.inr (7, [.ref (x.f (.fa i)), .ref (x.f (.ft i)), .ref (x.f (.fp i)), va_rf (((S.frS i v).fr i).o.map (fun k9 => x.f (.to k9))), .long ((S.frS i v).fr i).v, .int ((S.frS i v).fr i).w, .int ((S.frS i v).fr i).d]) : va_E) = _
  rw [frS_s]
theorem ov_rfa {i : Fin 12} {v : Fr} (h : x.b (x.a (.fa i)) = some (.fa i)) : ov κ ar x (S.frS i v) G (x.f (.fa i)) = some (.inl (ar 1, 2, .inr (.inl v.a))) := by
  refine (ov_r (t := .fa i) h).trans ?_
  show some (.inl (ar 1, 2, .inr (.inl ((S.frS i v).fr i).a)) : va_E) = _
  rw [frS_s]
theorem ov_rft {i : Fin 12} {v : Fr} (h : x.b (x.a (.ft i)) = some (.ft i)) : ov κ ar x (S.frS i v) G (x.f (.ft i)) = some (.inl (ar 1, 4, .inr (.inl v.t))) := by
  refine (ov_r (t := .ft i) h).trans ?_
  show some (.inl (ar 1, 4, .inr (.inl ((S.frS i v).fr i).t)) : va_E) = _
  rw [frS_s]
theorem ov_rfp {i : Fin 12} {v : Fr} (h : x.b (x.a (.fp i)) = some (.fp i)) : ov κ ar x (S.frS i v) G (x.f (.fp i)) = some (.inl (ar 1, 8, .inr (.inl v.p))) := by
  refine (ov_r (t := .fp i) h).trans ?_
  show some (.inl (ar 1, 8, .inr (.inl ((S.frS i v).fr i).p)) : va_E) = _
  rw [frS_s]
theorem ov_wfr0 {i : Fin 12} {g g' : Fin 12 → Fr} (hv : ∀ a t, x.b a = some t → x.a t = a) (h : x.b (x.a (.fr i)) = some (.fr i)) (hg : ∀ j, j ≠ i → g' j = g j) (hc : c = .inr (7, [.ref (x.f (.fa i)), .ref (x.f (.ft i)), .ref (x.f (.fp i)), va_rf ((g' i).o.map (fun k9 => x.f (.to k9))), .long (g' i).v, .int (g' i).w, .int (g' i).d])) (h_a : (g' i).a = (g i).a) (h_t : (g' i).t = (g i).t) (h_p : (g' i).p = (g i).p) : g_up (ov κ ar x (S.sfr g) G) (x.f (.fr i)) c = ov κ ar x (S.sfr g') G := by
  refine ov_w (t := .fr i) hv h rfl hc (fun t' q => ?_)
  rcases t' with j | j | j | j | j | j
  · rfl
  · rfl
  · rcases j with j | j | j | j
    · by_cases hj : j = i
      · subst hj
        exact absurd rfl q
      · show (.inr (7, [.ref (x.f (.fa j)), .ref (x.f (.ft j)), .ref (x.f (.fp j)), va_rf ((g' j).o.map (fun k9 => x.f (.to k9))), .long (g' j).v, .int (g' j).w, .int (g' j).d]) : va_E) = .inr (7, [.ref (x.f (.fa j)), .ref (x.f (.ft j)), .ref (x.f (.fp j)), va_rf ((g j).o.map (fun k9 => x.f (.to k9))), .long (g j).v, .int (g j).w, .int (g j).d])
        rw [hg j hj]
    · by_cases hj : j = i
      · subst hj
        show (.inl (ar 1, 2, .inr (.inl (g' j).a)) : va_E) = .inl (ar 1, 2, .inr (.inl (g j).a))
        rw [h_a]
      · show (.inl (ar 1, 2, .inr (.inl (g' j).a)) : va_E) = .inl (ar 1, 2, .inr (.inl (g j).a))
        rw [hg j hj]
    · by_cases hj : j = i
      · subst hj
        show (.inl (ar 1, 4, .inr (.inl (g' j).t)) : va_E) = .inl (ar 1, 4, .inr (.inl (g j).t))
        rw [h_t]
      · show (.inl (ar 1, 4, .inr (.inl (g' j).t)) : va_E) = .inl (ar 1, 4, .inr (.inl (g j).t))
        rw [hg j hj]
    · by_cases hj : j = i
      · subst hj
        show (.inl (ar 1, 8, .inr (.inl (g' j).p)) : va_E) = .inl (ar 1, 8, .inr (.inl (g j).p))
        rw [h_p]
      · show (.inl (ar 1, 8, .inr (.inl (g' j).p)) : va_E) = .inl (ar 1, 8, .inr (.inl (g j).p))
        rw [hg j hj]
  · rfl
  · rfl
  · rfl
theorem ov_wfr {i : Fin 12} {v v' : Fr} (hv : ∀ a t, x.b a = some t → x.a t = a) (h : x.b (x.a (.fr i)) = some (.fr i)) (hc : c = .inr (7, [.ref (x.f (.fa i)), .ref (x.f (.ft i)), .ref (x.f (.fp i)), va_rf (v'.o.map (fun k9 => x.f (.to k9))), .long v'.v, .int v'.w, .int v'.d])) (h_a : v'.a = v.a) (h_t : v'.t = v.t) (h_p : v'.p = v.p) : g_up (ov κ ar x (S.frS i v) G) (x.f (.fr i)) c = ov κ ar x (S.frS i v') G :=
  ov_wfr0 (g := updF S.fr i v) (g' := updF S.fr i v') hv h (fun j hj => by rw [updF_o hj, updF_o hj]) (by rw [updF_s]; exact hc) (by rw [updF_s, updF_s]; exact h_a) (by rw [updF_s, updF_s]; exact h_t) (by rw [updF_s, updF_s]; exact h_p)
theorem ov_wfa0 {i : Fin 12} {g g' : Fin 12 → Fr} (hv : ∀ a t, x.b a = some t → x.a t = a) (h : x.b (x.a (.fa i)) = some (.fa i)) (hg : ∀ j, j ≠ i → g' j = g j) (hc : c = .inl (ar 1, 2, .inr (.inl (g' i).a))) (h_t : (g' i).t = (g i).t) (h_p : (g' i).p = (g i).p) (h_o : (g' i).o = (g i).o) (h_v : (g' i).v = (g i).v) (h_w : (g' i).w = (g i).w) (h_d : (g' i).d = (g i).d) : g_up (ov κ ar x (S.sfr g) G) (x.f (.fa i)) c = ov κ ar x (S.sfr g') G := by
  refine ov_w (t := .fa i) hv h rfl hc (fun t' q => ?_)
  rcases t' with j | j | j | j | j | j
  · rfl
  · rfl
  · rcases j with j | j | j | j
    · by_cases hj : j = i
      · subst hj
        show (.inr (7, [.ref (x.f (.fa j)), .ref (x.f (.ft j)), .ref (x.f (.fp j)), va_rf ((g' j).o.map (fun k9 => x.f (.to k9))), .long (g' j).v, .int (g' j).w, .int (g' j).d]) : va_E) = .inr (7, [.ref (x.f (.fa j)), .ref (x.f (.ft j)), .ref (x.f (.fp j)), va_rf ((g j).o.map (fun k9 => x.f (.to k9))), .long (g j).v, .int (g j).w, .int (g j).d])
        rw [h_o, h_v, h_w, h_d]
      · show (.inr (7, [.ref (x.f (.fa j)), .ref (x.f (.ft j)), .ref (x.f (.fp j)), va_rf ((g' j).o.map (fun k9 => x.f (.to k9))), .long (g' j).v, .int (g' j).w, .int (g' j).d]) : va_E) = .inr (7, [.ref (x.f (.fa j)), .ref (x.f (.ft j)), .ref (x.f (.fp j)), va_rf ((g j).o.map (fun k9 => x.f (.to k9))), .long (g j).v, .int (g j).w, .int (g j).d])
        rw [hg j hj]
    · by_cases hj : j = i
      · subst hj
        exact absurd rfl q
      · show (.inl (ar 1, 2, .inr (.inl (g' j).a)) : va_E) = .inl (ar 1, 2, .inr (.inl (g j).a))
        rw [hg j hj]
    · by_cases hj : j = i
      · subst hj
        show (.inl (ar 1, 4, .inr (.inl (g' j).t)) : va_E) = .inl (ar 1, 4, .inr (.inl (g j).t))
        rw [h_t]
      · show (.inl (ar 1, 4, .inr (.inl (g' j).t)) : va_E) = .inl (ar 1, 4, .inr (.inl (g j).t))
        rw [hg j hj]
    · by_cases hj : j = i
      · subst hj
        show (.inl (ar 1, 8, .inr (.inl (g' j).p)) : va_E) = .inl (ar 1, 8, .inr (.inl (g j).p))
        rw [h_p]
      · show (.inl (ar 1, 8, .inr (.inl (g' j).p)) : va_E) = .inl (ar 1, 8, .inr (.inl (g j).p))
        rw [hg j hj]
  · rfl
  · rfl
  · rfl
theorem ov_wfa {i : Fin 12} {v v' : Fr} (hv : ∀ a t, x.b a = some t → x.a t = a) (h : x.b (x.a (.fa i)) = some (.fa i)) (hc : c = .inl (ar 1, 2, .inr (.inl v'.a))) (h_t : v'.t = v.t) (h_p : v'.p = v.p) (h_o : v'.o = v.o) (h_v : v'.v = v.v) (h_w : v'.w = v.w) (h_d : v'.d = v.d) : g_up (ov κ ar x (S.frS i v) G) (x.f (.fa i)) c = ov κ ar x (S.frS i v') G :=
  ov_wfa0 (g := updF S.fr i v) (g' := updF S.fr i v') hv h (fun j hj => by rw [updF_o hj, updF_o hj]) (by rw [updF_s]; exact hc) (by rw [updF_s, updF_s]; exact h_t) (by rw [updF_s, updF_s]; exact h_p) (by rw [updF_s, updF_s]; exact h_o) (by rw [updF_s, updF_s]; exact h_v) (by rw [updF_s, updF_s]; exact h_w) (by rw [updF_s, updF_s]; exact h_d)
theorem ov_wft0 {i : Fin 12} {g g' : Fin 12 → Fr} (hv : ∀ a t, x.b a = some t → x.a t = a) (h : x.b (x.a (.ft i)) = some (.ft i)) (hg : ∀ j, j ≠ i → g' j = g j) (hc : c = .inl (ar 1, 4, .inr (.inl (g' i).t))) (h_a : (g' i).a = (g i).a) (h_p : (g' i).p = (g i).p) (h_o : (g' i).o = (g i).o) (h_v : (g' i).v = (g i).v) (h_w : (g' i).w = (g i).w) (h_d : (g' i).d = (g i).d) : g_up (ov κ ar x (S.sfr g) G) (x.f (.ft i)) c = ov κ ar x (S.sfr g') G := by
  refine ov_w (t := .ft i) hv h rfl hc (fun t' q => ?_)
  rcases t' with j | j | j | j | j | j
  · rfl
  · rfl
  · rcases j with j | j | j | j
    · by_cases hj : j = i
      · subst hj
        show (.inr (7, [.ref (x.f (.fa j)), .ref (x.f (.ft j)), .ref (x.f (.fp j)), va_rf ((g' j).o.map (fun k9 => x.f (.to k9))), .long (g' j).v, .int (g' j).w, .int (g' j).d]) : va_E) = .inr (7, [.ref (x.f (.fa j)), .ref (x.f (.ft j)), .ref (x.f (.fp j)), va_rf ((g j).o.map (fun k9 => x.f (.to k9))), .long (g j).v, .int (g j).w, .int (g j).d])
        rw [h_o, h_v, h_w, h_d]
      · show (.inr (7, [.ref (x.f (.fa j)), .ref (x.f (.ft j)), .ref (x.f (.fp j)), va_rf ((g' j).o.map (fun k9 => x.f (.to k9))), .long (g' j).v, .int (g' j).w, .int (g' j).d]) : va_E) = .inr (7, [.ref (x.f (.fa j)), .ref (x.f (.ft j)), .ref (x.f (.fp j)), va_rf ((g j).o.map (fun k9 => x.f (.to k9))), .long (g j).v, .int (g j).w, .int (g j).d])
        rw [hg j hj]
    · by_cases hj : j = i
      · subst hj
        show (.inl (ar 1, 2, .inr (.inl (g' j).a)) : va_E) = .inl (ar 1, 2, .inr (.inl (g j).a))
        rw [h_a]
      · show (.inl (ar 1, 2, .inr (.inl (g' j).a)) : va_E) = .inl (ar 1, 2, .inr (.inl (g j).a))
        rw [hg j hj]
    · by_cases hj : j = i
      · subst hj
        exact absurd rfl q
      · show (.inl (ar 1, 4, .inr (.inl (g' j).t)) : va_E) = .inl (ar 1, 4, .inr (.inl (g j).t))
        rw [hg j hj]
    · by_cases hj : j = i
      · subst hj
        show (.inl (ar 1, 8, .inr (.inl (g' j).p)) : va_E) = .inl (ar 1, 8, .inr (.inl (g j).p))
        rw [h_p]
      · show (.inl (ar 1, 8, .inr (.inl (g' j).p)) : va_E) = .inl (ar 1, 8, .inr (.inl (g j).p))
        rw [hg j hj]
  · rfl
  · rfl
  · rfl
theorem ov_wft {i : Fin 12} {v v' : Fr} (hv : ∀ a t, x.b a = some t → x.a t = a) (h : x.b (x.a (.ft i)) = some (.ft i)) (hc : c = .inl (ar 1, 4, .inr (.inl v'.t))) (h_a : v'.a = v.a) (h_p : v'.p = v.p) (h_o : v'.o = v.o) (h_v : v'.v = v.v) (h_w : v'.w = v.w) (h_d : v'.d = v.d) : g_up (ov κ ar x (S.frS i v) G) (x.f (.ft i)) c = ov κ ar x (S.frS i v') G :=
  ov_wft0 (g := updF S.fr i v) (g' := updF S.fr i v') hv h (fun j hj => by rw [updF_o hj, updF_o hj]) (by rw [updF_s]; exact hc) (by rw [updF_s, updF_s]; exact h_a) (by rw [updF_s, updF_s]; exact h_p) (by rw [updF_s, updF_s]; exact h_o) (by rw [updF_s, updF_s]; exact h_v) (by rw [updF_s, updF_s]; exact h_w) (by rw [updF_s, updF_s]; exact h_d)
theorem ov_wfp0 {i : Fin 12} {g g' : Fin 12 → Fr} (hv : ∀ a t, x.b a = some t → x.a t = a) (h : x.b (x.a (.fp i)) = some (.fp i)) (hg : ∀ j, j ≠ i → g' j = g j) (hc : c = .inl (ar 1, 8, .inr (.inl (g' i).p))) (h_a : (g' i).a = (g i).a) (h_t : (g' i).t = (g i).t) (h_o : (g' i).o = (g i).o) (h_v : (g' i).v = (g i).v) (h_w : (g' i).w = (g i).w) (h_d : (g' i).d = (g i).d) : g_up (ov κ ar x (S.sfr g) G) (x.f (.fp i)) c = ov κ ar x (S.sfr g') G := by
  refine ov_w (t := .fp i) hv h rfl hc (fun t' q => ?_)
  rcases t' with j | j | j | j | j | j
  · rfl
  · rfl
  · rcases j with j | j | j | j
    · by_cases hj : j = i
      · subst hj
        show (.inr (7, [.ref (x.f (.fa j)), .ref (x.f (.ft j)), .ref (x.f (.fp j)), va_rf ((g' j).o.map (fun k9 => x.f (.to k9))), .long (g' j).v, .int (g' j).w, .int (g' j).d]) : va_E) = .inr (7, [.ref (x.f (.fa j)), .ref (x.f (.ft j)), .ref (x.f (.fp j)), va_rf ((g j).o.map (fun k9 => x.f (.to k9))), .long (g j).v, .int (g j).w, .int (g j).d])
        rw [h_o, h_v, h_w, h_d]
      · show (.inr (7, [.ref (x.f (.fa j)), .ref (x.f (.ft j)), .ref (x.f (.fp j)), va_rf ((g' j).o.map (fun k9 => x.f (.to k9))), .long (g' j).v, .int (g' j).w, .int (g' j).d]) : va_E) = .inr (7, [.ref (x.f (.fa j)), .ref (x.f (.ft j)), .ref (x.f (.fp j)), va_rf ((g j).o.map (fun k9 => x.f (.to k9))), .long (g j).v, .int (g j).w, .int (g j).d])
        rw [hg j hj]
    · by_cases hj : j = i
      · subst hj
        show (.inl (ar 1, 2, .inr (.inl (g' j).a)) : va_E) = .inl (ar 1, 2, .inr (.inl (g j).a))
        rw [h_a]
      · show (.inl (ar 1, 2, .inr (.inl (g' j).a)) : va_E) = .inl (ar 1, 2, .inr (.inl (g j).a))
        rw [hg j hj]
    · by_cases hj : j = i
      · subst hj
        show (.inl (ar 1, 4, .inr (.inl (g' j).t)) : va_E) = .inl (ar 1, 4, .inr (.inl (g j).t))
        rw [h_t]
      · show (.inl (ar 1, 4, .inr (.inl (g' j).t)) : va_E) = .inl (ar 1, 4, .inr (.inl (g j).t))
        rw [hg j hj]
    · by_cases hj : j = i
      · subst hj
        exact absurd rfl q
      · show (.inl (ar 1, 8, .inr (.inl (g' j).p)) : va_E) = .inl (ar 1, 8, .inr (.inl (g j).p))
        rw [hg j hj]
  · rfl
  · rfl
  · rfl
theorem ov_wfp {i : Fin 12} {v v' : Fr} (hv : ∀ a t, x.b a = some t → x.a t = a) (h : x.b (x.a (.fp i)) = some (.fp i)) (hc : c = .inl (ar 1, 8, .inr (.inl v'.p))) (h_a : v'.a = v.a) (h_t : v'.t = v.t) (h_o : v'.o = v.o) (h_v : v'.v = v.v) (h_w : v'.w = v.w) (h_d : v'.d = v.d) : g_up (ov κ ar x (S.frS i v) G) (x.f (.fp i)) c = ov κ ar x (S.frS i v') G :=
  ov_wfp0 (g := updF S.fr i v) (g' := updF S.fr i v') hv h (fun j hj => by rw [updF_o hj, updF_o hj]) (by rw [updF_s]; exact hc) (by rw [updF_s, updF_s]; exact h_a) (by rw [updF_s, updF_s]; exact h_t) (by rw [updF_s, updF_s]; exact h_o) (by rw [updF_s, updF_s]; exact h_v) (by rw [updF_s, updF_s]; exact h_w) (by rw [updF_s, updF_s]; exact h_d)
theorem ov_rth {i : Fin 60} {v : Th} (h : x.b (x.a (.th i)) = some (.th i)) : ov κ ar x (S.thS i v) G (x.f (.th i)) = some (.inr (10, [.ref (x.f (.tp i)), .int v.n, .int v.c, .int v.z, .int v.r])) := by
  refine (ov_r (t := .th i) h).trans ?_
  show some (.inr (10, [.ref (x.f (.tp i)), .int ((S.thS i v).th i).n, .int ((S.thS i v).th i).c, .int ((S.thS i v).th i).z, .int ((S.thS i v).th i).r]) : va_E) = _
  rw [thS_s]
theorem ov_rtp {i : Fin 60} {v : Th} (h : x.b (x.a (.tp i)) = some (.tp i)) : ov κ ar x (S.thS i v) G (x.f (.tp i)) = some (.inl (ar 1, 8, .inr (.inl v.p))) := by
  refine (ov_r (t := .tp i) h).trans ?_
  show some (.inl (ar 1, 8, .inr (.inl ((S.thS i v).th i).p)) : va_E) = _
  rw [thS_s]
theorem ov_wth0 {i : Fin 60} {g g' : Fin 60 → Th} (hv : ∀ a t, x.b a = some t → x.a t = a) (h : x.b (x.a (.th i)) = some (.th i)) (hg : ∀ j, j ≠ i → g' j = g j) (hc : c = .inr (10, [.ref (x.f (.tp i)), .int (g' i).n, .int (g' i).c, .int (g' i).z, .int (g' i).r])) (h_p : (g' i).p = (g i).p) : g_up (ov κ ar x (S.sth g) G) (x.f (.th i)) c = ov κ ar x (S.sth g') G := by
  refine ov_w (t := .th i) hv h rfl hc (fun t' q => ?_)
  rcases t' with j | j | j | j | j | j
  · rfl
  · rcases j with j | j
    · by_cases hj : j = i
      · subst hj
        exact absurd rfl q
      · show (.inr (10, [.ref (x.f (.tp j)), .int (g' j).n, .int (g' j).c, .int (g' j).z, .int (g' j).r]) : va_E) = .inr (10, [.ref (x.f (.tp j)), .int (g j).n, .int (g j).c, .int (g j).z, .int (g j).r])
        rw [hg j hj]
    · by_cases hj : j = i
      · subst hj
        show (.inl (ar 1, 8, .inr (.inl (g' j).p)) : va_E) = .inl (ar 1, 8, .inr (.inl (g j).p))
        rw [h_p]
      · show (.inl (ar 1, 8, .inr (.inl (g' j).p)) : va_E) = .inl (ar 1, 8, .inr (.inl (g j).p))
        rw [hg j hj]
  · rfl
  · rfl
  · rfl
  · rfl
theorem ov_wth {i : Fin 60} {v v' : Th} (hv : ∀ a t, x.b a = some t → x.a t = a) (h : x.b (x.a (.th i)) = some (.th i)) (hc : c = .inr (10, [.ref (x.f (.tp i)), .int v'.n, .int v'.c, .int v'.z, .int v'.r])) (h_p : v'.p = v.p) : g_up (ov κ ar x (S.thS i v) G) (x.f (.th i)) c = ov κ ar x (S.thS i v') G :=
  ov_wth0 (g := updF S.th i v) (g' := updF S.th i v') hv h (fun j hj => by rw [updF_o hj, updF_o hj]) (by rw [updF_s]; exact hc) (by rw [updF_s, updF_s]; exact h_p)
theorem ov_wtp0 {i : Fin 60} {g g' : Fin 60 → Th} (hv : ∀ a t, x.b a = some t → x.a t = a) (h : x.b (x.a (.tp i)) = some (.tp i)) (hg : ∀ j, j ≠ i → g' j = g j) (hc : c = .inl (ar 1, 8, .inr (.inl (g' i).p))) (h_n : (g' i).n = (g i).n) (h_c : (g' i).c = (g i).c) (h_z : (g' i).z = (g i).z) (h_r : (g' i).r = (g i).r) : g_up (ov κ ar x (S.sth g) G) (x.f (.tp i)) c = ov κ ar x (S.sth g') G := by
  refine ov_w (t := .tp i) hv h rfl hc (fun t' q => ?_)
  rcases t' with j | j | j | j | j | j
  · rfl
  · rcases j with j | j
    · by_cases hj : j = i
      · subst hj
        show (.inr (10, [.ref (x.f (.tp j)), .int (g' j).n, .int (g' j).c, .int (g' j).z, .int (g' j).r]) : va_E) = .inr (10, [.ref (x.f (.tp j)), .int (g j).n, .int (g j).c, .int (g j).z, .int (g j).r])
        rw [h_n, h_c, h_z, h_r]
      · show (.inr (10, [.ref (x.f (.tp j)), .int (g' j).n, .int (g' j).c, .int (g' j).z, .int (g' j).r]) : va_E) = .inr (10, [.ref (x.f (.tp j)), .int (g j).n, .int (g j).c, .int (g j).z, .int (g j).r])
        rw [hg j hj]
    · by_cases hj : j = i
      · subst hj
        exact absurd rfl q
      · show (.inl (ar 1, 8, .inr (.inl (g' j).p)) : va_E) = .inl (ar 1, 8, .inr (.inl (g j).p))
        rw [hg j hj]
  · rfl
  · rfl
  · rfl
  · rfl
theorem ov_wtp {i : Fin 60} {v v' : Th} (hv : ∀ a t, x.b a = some t → x.a t = a) (h : x.b (x.a (.tp i)) = some (.tp i)) (hc : c = .inl (ar 1, 8, .inr (.inl v'.p))) (h_n : v'.n = v.n) (h_c : v'.c = v.c) (h_z : v'.z = v.z) (h_r : v'.r = v.r) : g_up (ov κ ar x (S.thS i v) G) (x.f (.tp i)) c = ov κ ar x (S.thS i v') G :=
  ov_wtp0 (g := updF S.th i v) (g' := updF S.th i v') hv h (fun j hj => by rw [updF_o hj, updF_o hj]) (by rw [updF_s]; exact hc) (by rw [updF_s, updF_s]; exact h_n) (by rw [updF_s, updF_s]; exact h_c) (by rw [updF_s, updF_s]; exact h_z) (by rw [updF_s, updF_s]; exact h_r)
theorem ov_rto {i : Nat} {v : To} (h : x.b (x.a (.to i)) = some (.to i)) : ov κ ar x (S.toS i v) G (x.f (.to i)) = some (.inr (12, [.int v.c, .int v.s, .int v.a, .int v.t, .ref (x.f (.ro v.q)), .int v.n, .int (x.cm i)])) := by
  refine (ov_r (t := .to i) h).trans ?_
  show some (.inr (12, [.int ((S.toS i v).to i).c, .int ((S.toS i v).to i).s, .int ((S.toS i v).to i).a, .int ((S.toS i v).to i).t, .ref (x.f (.ro ((S.toS i v).to i).q)), .int ((S.toS i v).to i).n, .int (x.cm i)]) : va_E) = _
  rw [toS_s]
theorem ov_wto0 {i : Nat} {g g' : Nat → To} (hv : ∀ a t, x.b a = some t → x.a t = a) (h : x.b (x.a (.to i)) = some (.to i)) (hg : ∀ j, j ≠ i → g' j = g j) (hc : c = .inr (12, [.int (g' i).c, .int (g' i).s, .int (g' i).a, .int (g' i).t, .ref (x.f (.ro (g' i).q)), .int (g' i).n, .int (x.cm i)])) : g_up (ov κ ar x (S.sto g) G) (x.f (.to i)) c = ov κ ar x (S.sto g') G := by
  refine ov_w (t := .to i) hv h rfl hc (fun t' q => ?_)
  rcases t' with j | j | j | j | j | j
  · rfl
  · rfl
  · rfl
  · by_cases hj : j = i
    · subst hj
      exact absurd rfl q
    · show (.inr (12, [.int (g' j).c, .int (g' j).s, .int (g' j).a, .int (g' j).t, .ref (x.f (.ro (g' j).q)), .int (g' j).n, .int (x.cm j)]) : va_E) = .inr (12, [.int (g j).c, .int (g j).s, .int (g j).a, .int (g j).t, .ref (x.f (.ro (g j).q)), .int (g j).n, .int (x.cm j)])
      rw [hg j hj]
  · rfl
  · rfl
theorem ov_wto {i : Nat} {v v' : To} (hv : ∀ a t, x.b a = some t → x.a t = a) (h : x.b (x.a (.to i)) = some (.to i)) (hc : c = .inr (12, [.int v'.c, .int v'.s, .int v'.a, .int v'.t, .ref (x.f (.ro v'.q)), .int v'.n, .int (x.cm i)])) : g_up (ov κ ar x (S.toS i v) G) (x.f (.to i)) c = ov κ ar x (S.toS i v') G :=
  ov_wto0 (g := updN S.to i v) (g' := updN S.to i v') hv h (fun j hj => by rw [updN_o hj, updN_o hj]) (by rw [updN_s]; exact hc) 
theorem ov_rro {i : Nat} {v : Ro} (h : x.b (x.a (.ro i)) = some (.ro i)) : ov κ ar x (S.roS i v) G (x.f (.ro i)) = some (.inr (9, [.ref (x.f (.rl i)), .ref (x.f (.rf i)), .ref (x.f (.rg i)), .ref (x.f (.rd i)), .ref (x.f (.rq i)), .int v.n, .int v.k])) := by
  refine (ov_r (t := .ro i) h).trans ?_
  show some (.inr (9, [.ref (x.f (.rl i)), .ref (x.f (.rf i)), .ref (x.f (.rg i)), .ref (x.f (.rd i)), .ref (x.f (.rq i)), .int ((S.roS i v).ro i).n, .int ((S.roS i v).ro i).k]) : va_E) = _
  rw [roS_s]
theorem ov_rrl {i : Nat} {v : Ro} (h : x.b (x.a (.rl i)) = some (.rl i)) : ov κ ar x (S.roS i v) G (x.f (.rl i)) = some (.inl (ar 2, 24, .inl v.l)) := by
  refine (ov_r (t := .rl i) h).trans ?_
  show some (.inl (ar 2, 24, .inl ((S.roS i v).ro i).l) : va_E) = _
  rw [roS_s]
theorem ov_rrf {i : Nat} {v : Ro} (h : x.b (x.a (.rf i)) = some (.rf i)) : ov κ ar x (S.roS i v) G (x.f (.rf i)) = some (.inl (ar 0, 24, .inl v.f)) := by
  refine (ov_r (t := .rf i) h).trans ?_
  show some (.inl (ar 0, 24, .inl ((S.roS i v).ro i).f) : va_E) = _
  rw [roS_s]
theorem ov_rrg {i : Nat} {v : Ro} (h : x.b (x.a (.rg i)) = some (.rg i)) : ov κ ar x (S.roS i v) G (x.f (.rg i)) = some (.inl (ar 0, 24, .inl v.g)) := by
  refine (ov_r (t := .rg i) h).trans ?_
  show some (.inl (ar 0, 24, .inl ((S.roS i v).ro i).g) : va_E) = _
  rw [roS_s]
theorem ov_rrd {i : Nat} {v : Ro} (h : x.b (x.a (.rd i)) = some (.rd i)) : ov κ ar x (S.roS i v) G (x.f (.rd i)) = some (.inl (ar 0, 24, .inl v.d)) := by
  refine (ov_r (t := .rd i) h).trans ?_
  show some (.inl (ar 0, 24, .inl ((S.roS i v).ro i).d) : va_E) = _
  rw [roS_s]
theorem ov_rrq {i : Nat} {v : Ro} (h : x.b (x.a (.rq i)) = some (.rq i)) : ov κ ar x (S.roS i v) G (x.f (.rq i)) = some (.inl (ar 0, 24, .inl v.q)) := by
  refine (ov_r (t := .rq i) h).trans ?_
  show some (.inl (ar 0, 24, .inl ((S.roS i v).ro i).q) : va_E) = _
  rw [roS_s]
theorem ov_wro0 {i : Nat} {g g' : Nat → Ro} (hv : ∀ a t, x.b a = some t → x.a t = a) (h : x.b (x.a (.ro i)) = some (.ro i)) (hg : ∀ j, j ≠ i → g' j = g j) (hc : c = .inr (9, [.ref (x.f (.rl i)), .ref (x.f (.rf i)), .ref (x.f (.rg i)), .ref (x.f (.rd i)), .ref (x.f (.rq i)), .int (g' i).n, .int (g' i).k])) (h_l : (g' i).l = (g i).l) (h_f : (g' i).f = (g i).f) (h_g : (g' i).g = (g i).g) (h_d : (g' i).d = (g i).d) (h_q : (g' i).q = (g i).q) : g_up (ov κ ar x (S.sro g) G) (x.f (.ro i)) c = ov κ ar x (S.sro g') G := by
  refine ov_w (t := .ro i) hv h rfl hc (fun t' q => ?_)
  rcases t' with j | j | j | j | j | j
  · rfl
  · rfl
  · rfl
  · rfl
  · rcases j with j | j | j | j | j | j
    · by_cases hj : j = i
      · subst hj
        exact absurd rfl q
      · show (.inr (9, [.ref (x.f (.rl j)), .ref (x.f (.rf j)), .ref (x.f (.rg j)), .ref (x.f (.rd j)), .ref (x.f (.rq j)), .int (g' j).n, .int (g' j).k]) : va_E) = .inr (9, [.ref (x.f (.rl j)), .ref (x.f (.rf j)), .ref (x.f (.rg j)), .ref (x.f (.rd j)), .ref (x.f (.rq j)), .int (g j).n, .int (g j).k])
        rw [hg j hj]
    · by_cases hj : j = i
      · subst hj
        show (.inl (ar 2, 24, .inl (g' j).l) : va_E) = .inl (ar 2, 24, .inl (g j).l)
        rw [h_l]
      · show (.inl (ar 2, 24, .inl (g' j).l) : va_E) = .inl (ar 2, 24, .inl (g j).l)
        rw [hg j hj]
    · by_cases hj : j = i
      · subst hj
        show (.inl (ar 0, 24, .inl (g' j).f) : va_E) = .inl (ar 0, 24, .inl (g j).f)
        rw [h_f]
      · show (.inl (ar 0, 24, .inl (g' j).f) : va_E) = .inl (ar 0, 24, .inl (g j).f)
        rw [hg j hj]
    · by_cases hj : j = i
      · subst hj
        show (.inl (ar 0, 24, .inl (g' j).g) : va_E) = .inl (ar 0, 24, .inl (g j).g)
        rw [h_g]
      · show (.inl (ar 0, 24, .inl (g' j).g) : va_E) = .inl (ar 0, 24, .inl (g j).g)
        rw [hg j hj]
    · by_cases hj : j = i
      · subst hj
        show (.inl (ar 0, 24, .inl (g' j).d) : va_E) = .inl (ar 0, 24, .inl (g j).d)
        rw [h_d]
      · show (.inl (ar 0, 24, .inl (g' j).d) : va_E) = .inl (ar 0, 24, .inl (g j).d)
        rw [hg j hj]
    · by_cases hj : j = i
      · subst hj
        show (.inl (ar 0, 24, .inl (g' j).q) : va_E) = .inl (ar 0, 24, .inl (g j).q)
        rw [h_q]
      · show (.inl (ar 0, 24, .inl (g' j).q) : va_E) = .inl (ar 0, 24, .inl (g j).q)
        rw [hg j hj]
  · rfl
theorem ov_wro {i : Nat} {v v' : Ro} (hv : ∀ a t, x.b a = some t → x.a t = a) (h : x.b (x.a (.ro i)) = some (.ro i)) (hc : c = .inr (9, [.ref (x.f (.rl i)), .ref (x.f (.rf i)), .ref (x.f (.rg i)), .ref (x.f (.rd i)), .ref (x.f (.rq i)), .int v'.n, .int v'.k])) (h_l : v'.l = v.l) (h_f : v'.f = v.f) (h_g : v'.g = v.g) (h_d : v'.d = v.d) (h_q : v'.q = v.q) : g_up (ov κ ar x (S.roS i v) G) (x.f (.ro i)) c = ov κ ar x (S.roS i v') G :=
  ov_wro0 (g := updN S.ro i v) (g' := updN S.ro i v') hv h (fun j hj => by rw [updN_o hj, updN_o hj]) (by rw [updN_s]; exact hc) (by rw [updN_s, updN_s]; exact h_l) (by rw [updN_s, updN_s]; exact h_f) (by rw [updN_s, updN_s]; exact h_g) (by rw [updN_s, updN_s]; exact h_d) (by rw [updN_s, updN_s]; exact h_q)
theorem ov_wrl0 {i : Nat} {g g' : Nat → Ro} (hv : ∀ a t, x.b a = some t → x.a t = a) (h : x.b (x.a (.rl i)) = some (.rl i)) (hg : ∀ j, j ≠ i → g' j = g j) (hc : c = .inl (ar 2, 24, .inl (g' i).l)) (h_f : (g' i).f = (g i).f) (h_g : (g' i).g = (g i).g) (h_d : (g' i).d = (g i).d) (h_q : (g' i).q = (g i).q) (h_n : (g' i).n = (g i).n) (h_k : (g' i).k = (g i).k) : g_up (ov κ ar x (S.sro g) G) (x.f (.rl i)) c = ov κ ar x (S.sro g') G := by
  refine ov_w (t := .rl i) hv h rfl hc (fun t' q => ?_)
  rcases t' with j | j | j | j | j | j
  · rfl
  · rfl
  · rfl
  · rfl
  · rcases j with j | j | j | j | j | j
    · by_cases hj : j = i
      · subst hj
        show (.inr (9, [.ref (x.f (.rl j)), .ref (x.f (.rf j)), .ref (x.f (.rg j)), .ref (x.f (.rd j)), .ref (x.f (.rq j)), .int (g' j).n, .int (g' j).k]) : va_E) = .inr (9, [.ref (x.f (.rl j)), .ref (x.f (.rf j)), .ref (x.f (.rg j)), .ref (x.f (.rd j)), .ref (x.f (.rq j)), .int (g j).n, .int (g j).k])
        rw [h_n, h_k]
      · show (.inr (9, [.ref (x.f (.rl j)), .ref (x.f (.rf j)), .ref (x.f (.rg j)), .ref (x.f (.rd j)), .ref (x.f (.rq j)), .int (g' j).n, .int (g' j).k]) : va_E) = .inr (9, [.ref (x.f (.rl j)), .ref (x.f (.rf j)), .ref (x.f (.rg j)), .ref (x.f (.rd j)), .ref (x.f (.rq j)), .int (g j).n, .int (g j).k])
        rw [hg j hj]
    · by_cases hj : j = i
      · subst hj
        exact absurd rfl q
      · show (.inl (ar 2, 24, .inl (g' j).l) : va_E) = .inl (ar 2, 24, .inl (g j).l)
        rw [hg j hj]
    · by_cases hj : j = i
      · subst hj
        show (.inl (ar 0, 24, .inl (g' j).f) : va_E) = .inl (ar 0, 24, .inl (g j).f)
        rw [h_f]
      · show (.inl (ar 0, 24, .inl (g' j).f) : va_E) = .inl (ar 0, 24, .inl (g j).f)
        rw [hg j hj]
    · by_cases hj : j = i
      · subst hj
        show (.inl (ar 0, 24, .inl (g' j).g) : va_E) = .inl (ar 0, 24, .inl (g j).g)
        rw [h_g]
      · show (.inl (ar 0, 24, .inl (g' j).g) : va_E) = .inl (ar 0, 24, .inl (g j).g)
        rw [hg j hj]
    · by_cases hj : j = i
      · subst hj
        show (.inl (ar 0, 24, .inl (g' j).d) : va_E) = .inl (ar 0, 24, .inl (g j).d)
        rw [h_d]
      · show (.inl (ar 0, 24, .inl (g' j).d) : va_E) = .inl (ar 0, 24, .inl (g j).d)
        rw [hg j hj]
    · by_cases hj : j = i
      · subst hj
        show (.inl (ar 0, 24, .inl (g' j).q) : va_E) = .inl (ar 0, 24, .inl (g j).q)
        rw [h_q]
      · show (.inl (ar 0, 24, .inl (g' j).q) : va_E) = .inl (ar 0, 24, .inl (g j).q)
        rw [hg j hj]
  · rfl
theorem ov_wrl {i : Nat} {v v' : Ro} (hv : ∀ a t, x.b a = some t → x.a t = a) (h : x.b (x.a (.rl i)) = some (.rl i)) (hc : c = .inl (ar 2, 24, .inl v'.l)) (h_f : v'.f = v.f) (h_g : v'.g = v.g) (h_d : v'.d = v.d) (h_q : v'.q = v.q) (h_n : v'.n = v.n) (h_k : v'.k = v.k) : g_up (ov κ ar x (S.roS i v) G) (x.f (.rl i)) c = ov κ ar x (S.roS i v') G :=
  ov_wrl0 (g := updN S.ro i v) (g' := updN S.ro i v') hv h (fun j hj => by rw [updN_o hj, updN_o hj]) (by rw [updN_s]; exact hc) (by rw [updN_s, updN_s]; exact h_f) (by rw [updN_s, updN_s]; exact h_g) (by rw [updN_s, updN_s]; exact h_d) (by rw [updN_s, updN_s]; exact h_q) (by rw [updN_s, updN_s]; exact h_n) (by rw [updN_s, updN_s]; exact h_k)
theorem ov_wrf0 {i : Nat} {g g' : Nat → Ro} (hv : ∀ a t, x.b a = some t → x.a t = a) (h : x.b (x.a (.rf i)) = some (.rf i)) (hg : ∀ j, j ≠ i → g' j = g j) (hc : c = .inl (ar 0, 24, .inl (g' i).f)) (h_l : (g' i).l = (g i).l) (h_g : (g' i).g = (g i).g) (h_d : (g' i).d = (g i).d) (h_q : (g' i).q = (g i).q) (h_n : (g' i).n = (g i).n) (h_k : (g' i).k = (g i).k) : g_up (ov κ ar x (S.sro g) G) (x.f (.rf i)) c = ov κ ar x (S.sro g') G := by
  refine ov_w (t := .rf i) hv h rfl hc (fun t' q => ?_)
  rcases t' with j | j | j | j | j | j
  · rfl
  · rfl
  · rfl
  · rfl
  · rcases j with j | j | j | j | j | j
    · by_cases hj : j = i
      · subst hj
        show (.inr (9, [.ref (x.f (.rl j)), .ref (x.f (.rf j)), .ref (x.f (.rg j)), .ref (x.f (.rd j)), .ref (x.f (.rq j)), .int (g' j).n, .int (g' j).k]) : va_E) = .inr (9, [.ref (x.f (.rl j)), .ref (x.f (.rf j)), .ref (x.f (.rg j)), .ref (x.f (.rd j)), .ref (x.f (.rq j)), .int (g j).n, .int (g j).k])
        rw [h_n, h_k]
      · show (.inr (9, [.ref (x.f (.rl j)), .ref (x.f (.rf j)), .ref (x.f (.rg j)), .ref (x.f (.rd j)), .ref (x.f (.rq j)), .int (g' j).n, .int (g' j).k]) : va_E) = .inr (9, [.ref (x.f (.rl j)), .ref (x.f (.rf j)), .ref (x.f (.rg j)), .ref (x.f (.rd j)), .ref (x.f (.rq j)), .int (g j).n, .int (g j).k])
        rw [hg j hj]
    · by_cases hj : j = i
      · subst hj
        show (.inl (ar 2, 24, .inl (g' j).l) : va_E) = .inl (ar 2, 24, .inl (g j).l)
        rw [h_l]
      · show (.inl (ar 2, 24, .inl (g' j).l) : va_E) = .inl (ar 2, 24, .inl (g j).l)
        rw [hg j hj]
    · by_cases hj : j = i
      · subst hj
        exact absurd rfl q
      · show (.inl (ar 0, 24, .inl (g' j).f) : va_E) = .inl (ar 0, 24, .inl (g j).f)
        rw [hg j hj]
    · by_cases hj : j = i
      · subst hj
        show (.inl (ar 0, 24, .inl (g' j).g) : va_E) = .inl (ar 0, 24, .inl (g j).g)
        rw [h_g]
      · show (.inl (ar 0, 24, .inl (g' j).g) : va_E) = .inl (ar 0, 24, .inl (g j).g)
        rw [hg j hj]
    · by_cases hj : j = i
      · subst hj
        show (.inl (ar 0, 24, .inl (g' j).d) : va_E) = .inl (ar 0, 24, .inl (g j).d)
        rw [h_d]
      · show (.inl (ar 0, 24, .inl (g' j).d) : va_E) = .inl (ar 0, 24, .inl (g j).d)
        rw [hg j hj]
    · by_cases hj : j = i
      · subst hj
        show (.inl (ar 0, 24, .inl (g' j).q) : va_E) = .inl (ar 0, 24, .inl (g j).q)
        rw [h_q]
      · show (.inl (ar 0, 24, .inl (g' j).q) : va_E) = .inl (ar 0, 24, .inl (g j).q)
        rw [hg j hj]
  · rfl
theorem ov_wrf {i : Nat} {v v' : Ro} (hv : ∀ a t, x.b a = some t → x.a t = a) (h : x.b (x.a (.rf i)) = some (.rf i)) (hc : c = .inl (ar 0, 24, .inl v'.f)) (h_l : v'.l = v.l) (h_g : v'.g = v.g) (h_d : v'.d = v.d) (h_q : v'.q = v.q) (h_n : v'.n = v.n) (h_k : v'.k = v.k) : g_up (ov κ ar x (S.roS i v) G) (x.f (.rf i)) c = ov κ ar x (S.roS i v') G :=
  ov_wrf0 (g := updN S.ro i v) (g' := updN S.ro i v') hv h (fun j hj => by rw [updN_o hj, updN_o hj]) (by rw [updN_s]; exact hc) (by rw [updN_s, updN_s]; exact h_l) (by rw [updN_s, updN_s]; exact h_g) (by rw [updN_s, updN_s]; exact h_d) (by rw [updN_s, updN_s]; exact h_q) (by rw [updN_s, updN_s]; exact h_n) (by rw [updN_s, updN_s]; exact h_k)
theorem ov_wrg0 {i : Nat} {g g' : Nat → Ro} (hv : ∀ a t, x.b a = some t → x.a t = a) (h : x.b (x.a (.rg i)) = some (.rg i)) (hg : ∀ j, j ≠ i → g' j = g j) (hc : c = .inl (ar 0, 24, .inl (g' i).g)) (h_l : (g' i).l = (g i).l) (h_f : (g' i).f = (g i).f) (h_d : (g' i).d = (g i).d) (h_q : (g' i).q = (g i).q) (h_n : (g' i).n = (g i).n) (h_k : (g' i).k = (g i).k) : g_up (ov κ ar x (S.sro g) G) (x.f (.rg i)) c = ov κ ar x (S.sro g') G := by
  refine ov_w (t := .rg i) hv h rfl hc (fun t' q => ?_)
  rcases t' with j | j | j | j | j | j
  · rfl
  · rfl
  · rfl
  · rfl
  · rcases j with j | j | j | j | j | j
    · by_cases hj : j = i
      · subst hj
        show (.inr (9, [.ref (x.f (.rl j)), .ref (x.f (.rf j)), .ref (x.f (.rg j)), .ref (x.f (.rd j)), .ref (x.f (.rq j)), .int (g' j).n, .int (g' j).k]) : va_E) = .inr (9, [.ref (x.f (.rl j)), .ref (x.f (.rf j)), .ref (x.f (.rg j)), .ref (x.f (.rd j)), .ref (x.f (.rq j)), .int (g j).n, .int (g j).k])
        rw [h_n, h_k]
      · show (.inr (9, [.ref (x.f (.rl j)), .ref (x.f (.rf j)), .ref (x.f (.rg j)), .ref (x.f (.rd j)), .ref (x.f (.rq j)), .int (g' j).n, .int (g' j).k]) : va_E) = .inr (9, [.ref (x.f (.rl j)), .ref (x.f (.rf j)), .ref (x.f (.rg j)), .ref (x.f (.rd j)), .ref (x.f (.rq j)), .int (g j).n, .int (g j).k])
        rw [hg j hj]
    · by_cases hj : j = i
      · subst hj
        show (.inl (ar 2, 24, .inl (g' j).l) : va_E) = .inl (ar 2, 24, .inl (g j).l)
        rw [h_l]
      · show (.inl (ar 2, 24, .inl (g' j).l) : va_E) = .inl (ar 2, 24, .inl (g j).l)
        rw [hg j hj]
    · by_cases hj : j = i
      · subst hj
        show (.inl (ar 0, 24, .inl (g' j).f) : va_E) = .inl (ar 0, 24, .inl (g j).f)
        rw [h_f]
      · show (.inl (ar 0, 24, .inl (g' j).f) : va_E) = .inl (ar 0, 24, .inl (g j).f)
        rw [hg j hj]
    · by_cases hj : j = i
      · subst hj
        exact absurd rfl q
      · show (.inl (ar 0, 24, .inl (g' j).g) : va_E) = .inl (ar 0, 24, .inl (g j).g)
        rw [hg j hj]
    · by_cases hj : j = i
      · subst hj
        show (.inl (ar 0, 24, .inl (g' j).d) : va_E) = .inl (ar 0, 24, .inl (g j).d)
        rw [h_d]
      · show (.inl (ar 0, 24, .inl (g' j).d) : va_E) = .inl (ar 0, 24, .inl (g j).d)
        rw [hg j hj]
    · by_cases hj : j = i
      · subst hj
        show (.inl (ar 0, 24, .inl (g' j).q) : va_E) = .inl (ar 0, 24, .inl (g j).q)
        rw [h_q]
      · show (.inl (ar 0, 24, .inl (g' j).q) : va_E) = .inl (ar 0, 24, .inl (g j).q)
        rw [hg j hj]
  · rfl
theorem ov_wrg {i : Nat} {v v' : Ro} (hv : ∀ a t, x.b a = some t → x.a t = a) (h : x.b (x.a (.rg i)) = some (.rg i)) (hc : c = .inl (ar 0, 24, .inl v'.g)) (h_l : v'.l = v.l) (h_f : v'.f = v.f) (h_d : v'.d = v.d) (h_q : v'.q = v.q) (h_n : v'.n = v.n) (h_k : v'.k = v.k) : g_up (ov κ ar x (S.roS i v) G) (x.f (.rg i)) c = ov κ ar x (S.roS i v') G :=
  ov_wrg0 (g := updN S.ro i v) (g' := updN S.ro i v') hv h (fun j hj => by rw [updN_o hj, updN_o hj]) (by rw [updN_s]; exact hc) (by rw [updN_s, updN_s]; exact h_l) (by rw [updN_s, updN_s]; exact h_f) (by rw [updN_s, updN_s]; exact h_d) (by rw [updN_s, updN_s]; exact h_q) (by rw [updN_s, updN_s]; exact h_n) (by rw [updN_s, updN_s]; exact h_k)
theorem ov_wrd0 {i : Nat} {g g' : Nat → Ro} (hv : ∀ a t, x.b a = some t → x.a t = a) (h : x.b (x.a (.rd i)) = some (.rd i)) (hg : ∀ j, j ≠ i → g' j = g j) (hc : c = .inl (ar 0, 24, .inl (g' i).d)) (h_l : (g' i).l = (g i).l) (h_f : (g' i).f = (g i).f) (h_g : (g' i).g = (g i).g) (h_q : (g' i).q = (g i).q) (h_n : (g' i).n = (g i).n) (h_k : (g' i).k = (g i).k) : g_up (ov κ ar x (S.sro g) G) (x.f (.rd i)) c = ov κ ar x (S.sro g') G := by
  refine ov_w (t := .rd i) hv h rfl hc (fun t' q => ?_)
  rcases t' with j | j | j | j | j | j
  · rfl
  · rfl
  · rfl
  · rfl
  · rcases j with j | j | j | j | j | j
    · by_cases hj : j = i
      · subst hj
        show (.inr (9, [.ref (x.f (.rl j)), .ref (x.f (.rf j)), .ref (x.f (.rg j)), .ref (x.f (.rd j)), .ref (x.f (.rq j)), .int (g' j).n, .int (g' j).k]) : va_E) = .inr (9, [.ref (x.f (.rl j)), .ref (x.f (.rf j)), .ref (x.f (.rg j)), .ref (x.f (.rd j)), .ref (x.f (.rq j)), .int (g j).n, .int (g j).k])
        rw [h_n, h_k]
      · show (.inr (9, [.ref (x.f (.rl j)), .ref (x.f (.rf j)), .ref (x.f (.rg j)), .ref (x.f (.rd j)), .ref (x.f (.rq j)), .int (g' j).n, .int (g' j).k]) : va_E) = .inr (9, [.ref (x.f (.rl j)), .ref (x.f (.rf j)), .ref (x.f (.rg j)), .ref (x.f (.rd j)), .ref (x.f (.rq j)), .int (g j).n, .int (g j).k])
        rw [hg j hj]
    · by_cases hj : j = i
      · subst hj
        show (.inl (ar 2, 24, .inl (g' j).l) : va_E) = .inl (ar 2, 24, .inl (g j).l)
        rw [h_l]
      · show (.inl (ar 2, 24, .inl (g' j).l) : va_E) = .inl (ar 2, 24, .inl (g j).l)
        rw [hg j hj]
    · by_cases hj : j = i
      · subst hj
        show (.inl (ar 0, 24, .inl (g' j).f) : va_E) = .inl (ar 0, 24, .inl (g j).f)
        rw [h_f]
      · show (.inl (ar 0, 24, .inl (g' j).f) : va_E) = .inl (ar 0, 24, .inl (g j).f)
        rw [hg j hj]
    · by_cases hj : j = i
      · subst hj
        show (.inl (ar 0, 24, .inl (g' j).g) : va_E) = .inl (ar 0, 24, .inl (g j).g)
        rw [h_g]
      · show (.inl (ar 0, 24, .inl (g' j).g) : va_E) = .inl (ar 0, 24, .inl (g j).g)
        rw [hg j hj]
    · by_cases hj : j = i
      · subst hj
        exact absurd rfl q
      · show (.inl (ar 0, 24, .inl (g' j).d) : va_E) = .inl (ar 0, 24, .inl (g j).d)
        rw [hg j hj]
    · by_cases hj : j = i
      · subst hj
        show (.inl (ar 0, 24, .inl (g' j).q) : va_E) = .inl (ar 0, 24, .inl (g j).q)
        rw [h_q]
      · show (.inl (ar 0, 24, .inl (g' j).q) : va_E) = .inl (ar 0, 24, .inl (g j).q)
        rw [hg j hj]
  · rfl
theorem ov_wrd {i : Nat} {v v' : Ro} (hv : ∀ a t, x.b a = some t → x.a t = a) (h : x.b (x.a (.rd i)) = some (.rd i)) (hc : c = .inl (ar 0, 24, .inl v'.d)) (h_l : v'.l = v.l) (h_f : v'.f = v.f) (h_g : v'.g = v.g) (h_q : v'.q = v.q) (h_n : v'.n = v.n) (h_k : v'.k = v.k) : g_up (ov κ ar x (S.roS i v) G) (x.f (.rd i)) c = ov κ ar x (S.roS i v') G :=
  ov_wrd0 (g := updN S.ro i v) (g' := updN S.ro i v') hv h (fun j hj => by rw [updN_o hj, updN_o hj]) (by rw [updN_s]; exact hc) (by rw [updN_s, updN_s]; exact h_l) (by rw [updN_s, updN_s]; exact h_f) (by rw [updN_s, updN_s]; exact h_g) (by rw [updN_s, updN_s]; exact h_q) (by rw [updN_s, updN_s]; exact h_n) (by rw [updN_s, updN_s]; exact h_k)
theorem ov_wrq0 {i : Nat} {g g' : Nat → Ro} (hv : ∀ a t, x.b a = some t → x.a t = a) (h : x.b (x.a (.rq i)) = some (.rq i)) (hg : ∀ j, j ≠ i → g' j = g j) (hc : c = .inl (ar 0, 24, .inl (g' i).q)) (h_l : (g' i).l = (g i).l) (h_f : (g' i).f = (g i).f) (h_g : (g' i).g = (g i).g) (h_d : (g' i).d = (g i).d) (h_n : (g' i).n = (g i).n) (h_k : (g' i).k = (g i).k) : g_up (ov κ ar x (S.sro g) G) (x.f (.rq i)) c = ov κ ar x (S.sro g') G := by
  refine ov_w (t := .rq i) hv h rfl hc (fun t' q => ?_)
  rcases t' with j | j | j | j | j | j
  · rfl
  · rfl
  · rfl
  · rfl
  · rcases j with j | j | j | j | j | j
    · by_cases hj : j = i
      · subst hj
        show (.inr (9, [.ref (x.f (.rl j)), .ref (x.f (.rf j)), .ref (x.f (.rg j)), .ref (x.f (.rd j)), .ref (x.f (.rq j)), .int (g' j).n, .int (g' j).k]) : va_E) = .inr (9, [.ref (x.f (.rl j)), .ref (x.f (.rf j)), .ref (x.f (.rg j)), .ref (x.f (.rd j)), .ref (x.f (.rq j)), .int (g j).n, .int (g j).k])
        rw [h_n, h_k]
      · show (.inr (9, [.ref (x.f (.rl j)), .ref (x.f (.rf j)), .ref (x.f (.rg j)), .ref (x.f (.rd j)), .ref (x.f (.rq j)), .int (g' j).n, .int (g' j).k]) : va_E) = .inr (9, [.ref (x.f (.rl j)), .ref (x.f (.rf j)), .ref (x.f (.rg j)), .ref (x.f (.rd j)), .ref (x.f (.rq j)), .int (g j).n, .int (g j).k])
        rw [hg j hj]
    · by_cases hj : j = i
      · subst hj
        show (.inl (ar 2, 24, .inl (g' j).l) : va_E) = .inl (ar 2, 24, .inl (g j).l)
        rw [h_l]
      · show (.inl (ar 2, 24, .inl (g' j).l) : va_E) = .inl (ar 2, 24, .inl (g j).l)
        rw [hg j hj]
    · by_cases hj : j = i
      · subst hj
        show (.inl (ar 0, 24, .inl (g' j).f) : va_E) = .inl (ar 0, 24, .inl (g j).f)
        rw [h_f]
      · show (.inl (ar 0, 24, .inl (g' j).f) : va_E) = .inl (ar 0, 24, .inl (g j).f)
        rw [hg j hj]
    · by_cases hj : j = i
      · subst hj
        show (.inl (ar 0, 24, .inl (g' j).g) : va_E) = .inl (ar 0, 24, .inl (g j).g)
        rw [h_g]
      · show (.inl (ar 0, 24, .inl (g' j).g) : va_E) = .inl (ar 0, 24, .inl (g j).g)
        rw [hg j hj]
    · by_cases hj : j = i
      · subst hj
        show (.inl (ar 0, 24, .inl (g' j).d) : va_E) = .inl (ar 0, 24, .inl (g j).d)
        rw [h_d]
      · show (.inl (ar 0, 24, .inl (g' j).d) : va_E) = .inl (ar 0, 24, .inl (g j).d)
        rw [hg j hj]
    · by_cases hj : j = i
      · subst hj
        exact absurd rfl q
      · show (.inl (ar 0, 24, .inl (g' j).q) : va_E) = .inl (ar 0, 24, .inl (g j).q)
        rw [hg j hj]
  · rfl
theorem ov_wrq {i : Nat} {v v' : Ro} (hv : ∀ a t, x.b a = some t → x.a t = a) (h : x.b (x.a (.rq i)) = some (.rq i)) (hc : c = .inl (ar 0, 24, .inl v'.q)) (h_l : v'.l = v.l) (h_f : v'.f = v.f) (h_g : v'.g = v.g) (h_d : v'.d = v.d) (h_n : v'.n = v.n) (h_k : v'.k = v.k) : g_up (ov κ ar x (S.roS i v) G) (x.f (.rq i)) c = ov κ ar x (S.roS i v') G :=
  ov_wrq0 (g := updN S.ro i v) (g' := updN S.ro i v') hv h (fun j hj => by rw [updN_o hj, updN_o hj]) (by rw [updN_s]; exact hc) (by rw [updN_s, updN_s]; exact h_l) (by rw [updN_s, updN_s]; exact h_f) (by rw [updN_s, updN_s]; exact h_g) (by rw [updN_s, updN_s]; exact h_d) (by rw [updN_s, updN_s]; exact h_n) (by rw [updN_s, updN_s]; exact h_k)
theorem ov_who (hv : ∀ a t, x.b a = some t → x.a t = a) (h : x.b (x.a .ho) = some .ho) (hc : c = .inr (14, [.ref (x.f .cl), .ref (x.f .me), .ref (x.f (.ro T.ty)), .int x.ht, .ref (x.f .gl), .ref (x.f .ts), .ref (x.f .fs), .int T.fn, .int T.st, .int T.rs, .long T.an, .int T.sp, .ref (x.f .wr)])) (h_ab : T.ab = S.ab) (h_fc : T.fc = S.fc) (h_cn : T.cn = S.cn) (h_me : T.me = S.me) (h_nt : T.nt = S.nt) (h_nr : T.nr = S.nr) (h_ty : T.ty = S.ty) (h_to : T.to = S.to) (h_ro : T.ro = S.ro) (h_gl : T.gl = S.gl) (h_al : T.al = S.al) (h_re : T.re = S.re) (h_th : T.th = S.th) (h_tc : T.tc = S.tc) (h_rc : T.rc = S.rc) (h_mk : T.mk = S.mk) (h_fr : T.fr = S.fr) (h_np : T.np = S.np) (h_pg : T.pg = S.pg) (h_wc : T.wc = S.wc) (h_ws : T.ws = S.ws) (h_wp : T.wp = S.wp) : g_up (ov κ ar x S G) (x.f .ho) c = ov κ ar x T G := by
  refine ov_w (t := .ho) hv h rfl hc (fun t' q => ?_)
  rcases t' with j | j | j | j | j | j
  · rcases j with ⟨⟩ | ⟨⟩ | ⟨⟩ | ⟨⟩ | ⟨⟩ | ⟨⟩ | ⟨⟩ | ⟨⟩ | ⟨⟩ | ⟨⟩ | ⟨⟩ | ⟨⟩ | ⟨⟩
    · exact absurd rfl q
    · show (.inr (6, [.ref (x.f .ab), .ref (x.f .fc), .int T.cn]) : va_E) = .inr (6, [.ref (x.f .ab), .ref (x.f .fc), .int S.cn])
      rw [h_cn]
    · show (.inl (ar 0, 12, .inl T.ab) : va_E) = .inl (ar 0, 12, .inl S.ab)
      rw [h_ab]
    · show (.inl (ar 0, 12, .inl T.fc) : va_E) = .inl (ar 0, 12, .inl S.fc)
      rw [h_fc]
    · show (.inl (ar 7, 192, .inr (.inr (.inr (.inr (fun j9 => (T.me j9).map (fun k9 => x.f (.to k9))))))) : va_E) = .inl (ar 7, 192, .inr (.inr (.inr (.inr (fun j9 => (S.me j9).map (fun k9 => x.f (.to k9)))))))
      rw [h_me]
    · show (.inl (ar 1, 8, .inr (.inl T.gl)) : va_E) = .inl (ar 1, 8, .inr (.inl S.gl))
      rw [h_gl]
    · show (.inr (11, [.ref (x.f .al), .ref (x.f .re), .int T.tc, .int T.rc, .int T.mk]) : va_E) = .inr (11, [.ref (x.f .al), .ref (x.f .re), .int S.tc, .int S.rc, .int S.mk])
      rw [h_tc, h_rc, h_mk]
    · show (.inl (ar 6, 60, .inr (.inr (.inr (.inr (fun j9 => (T.al j9).map (fun k9 => x.f (.th k9))))))) : va_E) = .inl (ar 6, 60, .inr (.inr (.inr (.inr (fun j9 => (S.al j9).map (fun k9 => x.f (.th k9)))))))
      rw [h_al]
    · show (.inl (ar 6, 60, .inr (.inr (.inr (.inr (fun j9 => (T.re j9).map (fun k9 => x.f (.th k9))))))) : va_E) = .inl (ar 6, 60, .inr (.inr (.inr (.inr (fun j9 => (S.re j9).map (fun k9 => x.f (.th k9)))))))
      rw [h_re]
    · rfl
    · show (.inr (13, [.ref (x.f .pl), .int T.wc, .long T.ws, .long T.wp]) : va_E) = .inr (13, [.ref (x.f .pl), .int S.wc, .long S.ws, .long S.wp])
      rw [h_wc, h_ws, h_wp]
    · show (.inr (5, [.int x.mc, .ref (if T.np = 0 then κ 0 else x.pe), .int (Int32.ofNat T.np)]) : va_E) = .inr (5, [.int x.mc, .ref (if S.np = 0 then κ 0 else x.pe), .int (Int32.ofNat S.np)])
      rw [h_np]
    · show (.inl (ar 8, x.ec, .inr (.inr (.inr (.inr (fun j9 => if j9 < T.np then some (x.pp j9) else none))))) : va_E) = .inl (ar 8, x.ec, .inr (.inr (.inr (.inr (fun j9 => if j9 < S.np then some (x.pp j9) else none)))))
      rw [h_np]
  · show cTh ar x T.th j = cTh ar x S.th j
    rw [h_th]
  · show cFr ar x T.fr j = cFr ar x S.fr j
    rw [h_fr]
  · show cTo ar x T.to j = cTo ar x S.to j
    rw [h_to]
  · show cRo ar x T.ro j = cRo ar x S.ro j
    rw [h_ro]
  · show cPg ar x T.pg j = cPg ar x S.pg j
    rw [h_pg]
theorem ov_wcl (hv : ∀ a t, x.b a = some t → x.a t = a) (h : x.b (x.a .cl) = some .cl) (hc : c = .inr (6, [.ref (x.f .ab), .ref (x.f .fc), .int T.cn])) (h_ab : T.ab = S.ab) (h_fc : T.fc = S.fc) (h_me : T.me = S.me) (h_nt : T.nt = S.nt) (h_nr : T.nr = S.nr) (h_ty : T.ty = S.ty) (h_to : T.to = S.to) (h_ro : T.ro = S.ro) (h_gl : T.gl = S.gl) (h_al : T.al = S.al) (h_re : T.re = S.re) (h_th : T.th = S.th) (h_tc : T.tc = S.tc) (h_rc : T.rc = S.rc) (h_mk : T.mk = S.mk) (h_fr : T.fr = S.fr) (h_fn : T.fn = S.fn) (h_st : T.st = S.st) (h_rs : T.rs = S.rs) (h_an : T.an = S.an) (h_sp : T.sp = S.sp) (h_np : T.np = S.np) (h_pg : T.pg = S.pg) (h_wc : T.wc = S.wc) (h_ws : T.ws = S.ws) (h_wp : T.wp = S.wp) : g_up (ov κ ar x S G) (x.f .cl) c = ov κ ar x T G := by
  refine ov_w (t := .cl) hv h rfl hc (fun t' q => ?_)
  rcases t' with j | j | j | j | j | j
  · rcases j with ⟨⟩ | ⟨⟩ | ⟨⟩ | ⟨⟩ | ⟨⟩ | ⟨⟩ | ⟨⟩ | ⟨⟩ | ⟨⟩ | ⟨⟩ | ⟨⟩ | ⟨⟩ | ⟨⟩
    · show (.inr (14, [.ref (x.f .cl), .ref (x.f .me), .ref (x.f (.ro T.ty)), .int x.ht, .ref (x.f .gl), .ref (x.f .ts), .ref (x.f .fs), .int T.fn, .int T.st, .int T.rs, .long T.an, .int T.sp, .ref (x.f .wr)]) : va_E) = .inr (14, [.ref (x.f .cl), .ref (x.f .me), .ref (x.f (.ro S.ty)), .int x.ht, .ref (x.f .gl), .ref (x.f .ts), .ref (x.f .fs), .int S.fn, .int S.st, .int S.rs, .long S.an, .int S.sp, .ref (x.f .wr)])
      rw [h_ty, h_fn, h_st, h_rs, h_an, h_sp]
    · exact absurd rfl q
    · show (.inl (ar 0, 12, .inl T.ab) : va_E) = .inl (ar 0, 12, .inl S.ab)
      rw [h_ab]
    · show (.inl (ar 0, 12, .inl T.fc) : va_E) = .inl (ar 0, 12, .inl S.fc)
      rw [h_fc]
    · show (.inl (ar 7, 192, .inr (.inr (.inr (.inr (fun j9 => (T.me j9).map (fun k9 => x.f (.to k9))))))) : va_E) = .inl (ar 7, 192, .inr (.inr (.inr (.inr (fun j9 => (S.me j9).map (fun k9 => x.f (.to k9)))))))
      rw [h_me]
    · show (.inl (ar 1, 8, .inr (.inl T.gl)) : va_E) = .inl (ar 1, 8, .inr (.inl S.gl))
      rw [h_gl]
    · show (.inr (11, [.ref (x.f .al), .ref (x.f .re), .int T.tc, .int T.rc, .int T.mk]) : va_E) = .inr (11, [.ref (x.f .al), .ref (x.f .re), .int S.tc, .int S.rc, .int S.mk])
      rw [h_tc, h_rc, h_mk]
    · show (.inl (ar 6, 60, .inr (.inr (.inr (.inr (fun j9 => (T.al j9).map (fun k9 => x.f (.th k9))))))) : va_E) = .inl (ar 6, 60, .inr (.inr (.inr (.inr (fun j9 => (S.al j9).map (fun k9 => x.f (.th k9)))))))
      rw [h_al]
    · show (.inl (ar 6, 60, .inr (.inr (.inr (.inr (fun j9 => (T.re j9).map (fun k9 => x.f (.th k9))))))) : va_E) = .inl (ar 6, 60, .inr (.inr (.inr (.inr (fun j9 => (S.re j9).map (fun k9 => x.f (.th k9)))))))
      rw [h_re]
    · rfl
    · show (.inr (13, [.ref (x.f .pl), .int T.wc, .long T.ws, .long T.wp]) : va_E) = .inr (13, [.ref (x.f .pl), .int S.wc, .long S.ws, .long S.wp])
      rw [h_wc, h_ws, h_wp]
    · show (.inr (5, [.int x.mc, .ref (if T.np = 0 then κ 0 else x.pe), .int (Int32.ofNat T.np)]) : va_E) = .inr (5, [.int x.mc, .ref (if S.np = 0 then κ 0 else x.pe), .int (Int32.ofNat S.np)])
      rw [h_np]
    · show (.inl (ar 8, x.ec, .inr (.inr (.inr (.inr (fun j9 => if j9 < T.np then some (x.pp j9) else none))))) : va_E) = .inl (ar 8, x.ec, .inr (.inr (.inr (.inr (fun j9 => if j9 < S.np then some (x.pp j9) else none)))))
      rw [h_np]
  · show cTh ar x T.th j = cTh ar x S.th j
    rw [h_th]
  · show cFr ar x T.fr j = cFr ar x S.fr j
    rw [h_fr]
  · show cTo ar x T.to j = cTo ar x S.to j
    rw [h_to]
  · show cRo ar x T.ro j = cRo ar x S.ro j
    rw [h_ro]
  · show cPg ar x T.pg j = cPg ar x S.pg j
    rw [h_pg]
theorem ov_wab (hv : ∀ a t, x.b a = some t → x.a t = a) (h : x.b (x.a .ab) = some .ab) (hc : c = .inl (ar 0, 12, .inl T.ab)) (h_fc : T.fc = S.fc) (h_cn : T.cn = S.cn) (h_me : T.me = S.me) (h_nt : T.nt = S.nt) (h_nr : T.nr = S.nr) (h_ty : T.ty = S.ty) (h_to : T.to = S.to) (h_ro : T.ro = S.ro) (h_gl : T.gl = S.gl) (h_al : T.al = S.al) (h_re : T.re = S.re) (h_th : T.th = S.th) (h_tc : T.tc = S.tc) (h_rc : T.rc = S.rc) (h_mk : T.mk = S.mk) (h_fr : T.fr = S.fr) (h_fn : T.fn = S.fn) (h_st : T.st = S.st) (h_rs : T.rs = S.rs) (h_an : T.an = S.an) (h_sp : T.sp = S.sp) (h_np : T.np = S.np) (h_pg : T.pg = S.pg) (h_wc : T.wc = S.wc) (h_ws : T.ws = S.ws) (h_wp : T.wp = S.wp) : g_up (ov κ ar x S G) (x.f .ab) c = ov κ ar x T G := by
  refine ov_w (t := .ab) hv h rfl hc (fun t' q => ?_)
  rcases t' with j | j | j | j | j | j
  · rcases j with ⟨⟩ | ⟨⟩ | ⟨⟩ | ⟨⟩ | ⟨⟩ | ⟨⟩ | ⟨⟩ | ⟨⟩ | ⟨⟩ | ⟨⟩ | ⟨⟩ | ⟨⟩ | ⟨⟩
    · show (.inr (14, [.ref (x.f .cl), .ref (x.f .me), .ref (x.f (.ro T.ty)), .int x.ht, .ref (x.f .gl), .ref (x.f .ts), .ref (x.f .fs), .int T.fn, .int T.st, .int T.rs, .long T.an, .int T.sp, .ref (x.f .wr)]) : va_E) = .inr (14, [.ref (x.f .cl), .ref (x.f .me), .ref (x.f (.ro S.ty)), .int x.ht, .ref (x.f .gl), .ref (x.f .ts), .ref (x.f .fs), .int S.fn, .int S.st, .int S.rs, .long S.an, .int S.sp, .ref (x.f .wr)])
      rw [h_ty, h_fn, h_st, h_rs, h_an, h_sp]
    · show (.inr (6, [.ref (x.f .ab), .ref (x.f .fc), .int T.cn]) : va_E) = .inr (6, [.ref (x.f .ab), .ref (x.f .fc), .int S.cn])
      rw [h_cn]
    · exact absurd rfl q
    · show (.inl (ar 0, 12, .inl T.fc) : va_E) = .inl (ar 0, 12, .inl S.fc)
      rw [h_fc]
    · show (.inl (ar 7, 192, .inr (.inr (.inr (.inr (fun j9 => (T.me j9).map (fun k9 => x.f (.to k9))))))) : va_E) = .inl (ar 7, 192, .inr (.inr (.inr (.inr (fun j9 => (S.me j9).map (fun k9 => x.f (.to k9)))))))
      rw [h_me]
    · show (.inl (ar 1, 8, .inr (.inl T.gl)) : va_E) = .inl (ar 1, 8, .inr (.inl S.gl))
      rw [h_gl]
    · show (.inr (11, [.ref (x.f .al), .ref (x.f .re), .int T.tc, .int T.rc, .int T.mk]) : va_E) = .inr (11, [.ref (x.f .al), .ref (x.f .re), .int S.tc, .int S.rc, .int S.mk])
      rw [h_tc, h_rc, h_mk]
    · show (.inl (ar 6, 60, .inr (.inr (.inr (.inr (fun j9 => (T.al j9).map (fun k9 => x.f (.th k9))))))) : va_E) = .inl (ar 6, 60, .inr (.inr (.inr (.inr (fun j9 => (S.al j9).map (fun k9 => x.f (.th k9)))))))
      rw [h_al]
    · show (.inl (ar 6, 60, .inr (.inr (.inr (.inr (fun j9 => (T.re j9).map (fun k9 => x.f (.th k9))))))) : va_E) = .inl (ar 6, 60, .inr (.inr (.inr (.inr (fun j9 => (S.re j9).map (fun k9 => x.f (.th k9)))))))
      rw [h_re]
    · rfl
    · show (.inr (13, [.ref (x.f .pl), .int T.wc, .long T.ws, .long T.wp]) : va_E) = .inr (13, [.ref (x.f .pl), .int S.wc, .long S.ws, .long S.wp])
      rw [h_wc, h_ws, h_wp]
    · show (.inr (5, [.int x.mc, .ref (if T.np = 0 then κ 0 else x.pe), .int (Int32.ofNat T.np)]) : va_E) = .inr (5, [.int x.mc, .ref (if S.np = 0 then κ 0 else x.pe), .int (Int32.ofNat S.np)])
      rw [h_np]
    · show (.inl (ar 8, x.ec, .inr (.inr (.inr (.inr (fun j9 => if j9 < T.np then some (x.pp j9) else none))))) : va_E) = .inl (ar 8, x.ec, .inr (.inr (.inr (.inr (fun j9 => if j9 < S.np then some (x.pp j9) else none)))))
      rw [h_np]
  · show cTh ar x T.th j = cTh ar x S.th j
    rw [h_th]
  · show cFr ar x T.fr j = cFr ar x S.fr j
    rw [h_fr]
  · show cTo ar x T.to j = cTo ar x S.to j
    rw [h_to]
  · show cRo ar x T.ro j = cRo ar x S.ro j
    rw [h_ro]
  · show cPg ar x T.pg j = cPg ar x S.pg j
    rw [h_pg]
theorem ov_wfc (hv : ∀ a t, x.b a = some t → x.a t = a) (h : x.b (x.a .fc) = some .fc) (hc : c = .inl (ar 0, 12, .inl T.fc)) (h_ab : T.ab = S.ab) (h_cn : T.cn = S.cn) (h_me : T.me = S.me) (h_nt : T.nt = S.nt) (h_nr : T.nr = S.nr) (h_ty : T.ty = S.ty) (h_to : T.to = S.to) (h_ro : T.ro = S.ro) (h_gl : T.gl = S.gl) (h_al : T.al = S.al) (h_re : T.re = S.re) (h_th : T.th = S.th) (h_tc : T.tc = S.tc) (h_rc : T.rc = S.rc) (h_mk : T.mk = S.mk) (h_fr : T.fr = S.fr) (h_fn : T.fn = S.fn) (h_st : T.st = S.st) (h_rs : T.rs = S.rs) (h_an : T.an = S.an) (h_sp : T.sp = S.sp) (h_np : T.np = S.np) (h_pg : T.pg = S.pg) (h_wc : T.wc = S.wc) (h_ws : T.ws = S.ws) (h_wp : T.wp = S.wp) : g_up (ov κ ar x S G) (x.f .fc) c = ov κ ar x T G := by
  refine ov_w (t := .fc) hv h rfl hc (fun t' q => ?_)
  rcases t' with j | j | j | j | j | j
  · rcases j with ⟨⟩ | ⟨⟩ | ⟨⟩ | ⟨⟩ | ⟨⟩ | ⟨⟩ | ⟨⟩ | ⟨⟩ | ⟨⟩ | ⟨⟩ | ⟨⟩ | ⟨⟩ | ⟨⟩
    · show (.inr (14, [.ref (x.f .cl), .ref (x.f .me), .ref (x.f (.ro T.ty)), .int x.ht, .ref (x.f .gl), .ref (x.f .ts), .ref (x.f .fs), .int T.fn, .int T.st, .int T.rs, .long T.an, .int T.sp, .ref (x.f .wr)]) : va_E) = .inr (14, [.ref (x.f .cl), .ref (x.f .me), .ref (x.f (.ro S.ty)), .int x.ht, .ref (x.f .gl), .ref (x.f .ts), .ref (x.f .fs), .int S.fn, .int S.st, .int S.rs, .long S.an, .int S.sp, .ref (x.f .wr)])
      rw [h_ty, h_fn, h_st, h_rs, h_an, h_sp]
    · show (.inr (6, [.ref (x.f .ab), .ref (x.f .fc), .int T.cn]) : va_E) = .inr (6, [.ref (x.f .ab), .ref (x.f .fc), .int S.cn])
      rw [h_cn]
    · show (.inl (ar 0, 12, .inl T.ab) : va_E) = .inl (ar 0, 12, .inl S.ab)
      rw [h_ab]
    · exact absurd rfl q
    · show (.inl (ar 7, 192, .inr (.inr (.inr (.inr (fun j9 => (T.me j9).map (fun k9 => x.f (.to k9))))))) : va_E) = .inl (ar 7, 192, .inr (.inr (.inr (.inr (fun j9 => (S.me j9).map (fun k9 => x.f (.to k9)))))))
      rw [h_me]
    · show (.inl (ar 1, 8, .inr (.inl T.gl)) : va_E) = .inl (ar 1, 8, .inr (.inl S.gl))
      rw [h_gl]
    · show (.inr (11, [.ref (x.f .al), .ref (x.f .re), .int T.tc, .int T.rc, .int T.mk]) : va_E) = .inr (11, [.ref (x.f .al), .ref (x.f .re), .int S.tc, .int S.rc, .int S.mk])
      rw [h_tc, h_rc, h_mk]
    · show (.inl (ar 6, 60, .inr (.inr (.inr (.inr (fun j9 => (T.al j9).map (fun k9 => x.f (.th k9))))))) : va_E) = .inl (ar 6, 60, .inr (.inr (.inr (.inr (fun j9 => (S.al j9).map (fun k9 => x.f (.th k9)))))))
      rw [h_al]
    · show (.inl (ar 6, 60, .inr (.inr (.inr (.inr (fun j9 => (T.re j9).map (fun k9 => x.f (.th k9))))))) : va_E) = .inl (ar 6, 60, .inr (.inr (.inr (.inr (fun j9 => (S.re j9).map (fun k9 => x.f (.th k9)))))))
      rw [h_re]
    · rfl
    · show (.inr (13, [.ref (x.f .pl), .int T.wc, .long T.ws, .long T.wp]) : va_E) = .inr (13, [.ref (x.f .pl), .int S.wc, .long S.ws, .long S.wp])
      rw [h_wc, h_ws, h_wp]
    · show (.inr (5, [.int x.mc, .ref (if T.np = 0 then κ 0 else x.pe), .int (Int32.ofNat T.np)]) : va_E) = .inr (5, [.int x.mc, .ref (if S.np = 0 then κ 0 else x.pe), .int (Int32.ofNat S.np)])
      rw [h_np]
    · show (.inl (ar 8, x.ec, .inr (.inr (.inr (.inr (fun j9 => if j9 < T.np then some (x.pp j9) else none))))) : va_E) = .inl (ar 8, x.ec, .inr (.inr (.inr (.inr (fun j9 => if j9 < S.np then some (x.pp j9) else none)))))
      rw [h_np]
  · show cTh ar x T.th j = cTh ar x S.th j
    rw [h_th]
  · show cFr ar x T.fr j = cFr ar x S.fr j
    rw [h_fr]
  · show cTo ar x T.to j = cTo ar x S.to j
    rw [h_to]
  · show cRo ar x T.ro j = cRo ar x S.ro j
    rw [h_ro]
  · show cPg ar x T.pg j = cPg ar x S.pg j
    rw [h_pg]
theorem ov_wme (hv : ∀ a t, x.b a = some t → x.a t = a) (h : x.b (x.a .me) = some .me) (hc : c = .inl (ar 7, 192, .inr (.inr (.inr (.inr (fun j9 => (T.me j9).map (fun k9 => x.f (.to k9)))))))) (h_ab : T.ab = S.ab) (h_fc : T.fc = S.fc) (h_cn : T.cn = S.cn) (h_nt : T.nt = S.nt) (h_nr : T.nr = S.nr) (h_ty : T.ty = S.ty) (h_to : T.to = S.to) (h_ro : T.ro = S.ro) (h_gl : T.gl = S.gl) (h_al : T.al = S.al) (h_re : T.re = S.re) (h_th : T.th = S.th) (h_tc : T.tc = S.tc) (h_rc : T.rc = S.rc) (h_mk : T.mk = S.mk) (h_fr : T.fr = S.fr) (h_fn : T.fn = S.fn) (h_st : T.st = S.st) (h_rs : T.rs = S.rs) (h_an : T.an = S.an) (h_sp : T.sp = S.sp) (h_np : T.np = S.np) (h_pg : T.pg = S.pg) (h_wc : T.wc = S.wc) (h_ws : T.ws = S.ws) (h_wp : T.wp = S.wp) : g_up (ov κ ar x S G) (x.f .me) c = ov κ ar x T G := by
  refine ov_w (t := .me) hv h rfl hc (fun t' q => ?_)
  rcases t' with j | j | j | j | j | j
  · rcases j with ⟨⟩ | ⟨⟩ | ⟨⟩ | ⟨⟩ | ⟨⟩ | ⟨⟩ | ⟨⟩ | ⟨⟩ | ⟨⟩ | ⟨⟩ | ⟨⟩ | ⟨⟩ | ⟨⟩
    · show (.inr (14, [.ref (x.f .cl), .ref (x.f .me), .ref (x.f (.ro T.ty)), .int x.ht, .ref (x.f .gl), .ref (x.f .ts), .ref (x.f .fs), .int T.fn, .int T.st, .int T.rs, .long T.an, .int T.sp, .ref (x.f .wr)]) : va_E) = .inr (14, [.ref (x.f .cl), .ref (x.f .me), .ref (x.f (.ro S.ty)), .int x.ht, .ref (x.f .gl), .ref (x.f .ts), .ref (x.f .fs), .int S.fn, .int S.st, .int S.rs, .long S.an, .int S.sp, .ref (x.f .wr)])
      rw [h_ty, h_fn, h_st, h_rs, h_an, h_sp]
    · show (.inr (6, [.ref (x.f .ab), .ref (x.f .fc), .int T.cn]) : va_E) = .inr (6, [.ref (x.f .ab), .ref (x.f .fc), .int S.cn])
      rw [h_cn]
    · show (.inl (ar 0, 12, .inl T.ab) : va_E) = .inl (ar 0, 12, .inl S.ab)
      rw [h_ab]
    · show (.inl (ar 0, 12, .inl T.fc) : va_E) = .inl (ar 0, 12, .inl S.fc)
      rw [h_fc]
    · exact absurd rfl q
    · show (.inl (ar 1, 8, .inr (.inl T.gl)) : va_E) = .inl (ar 1, 8, .inr (.inl S.gl))
      rw [h_gl]
    · show (.inr (11, [.ref (x.f .al), .ref (x.f .re), .int T.tc, .int T.rc, .int T.mk]) : va_E) = .inr (11, [.ref (x.f .al), .ref (x.f .re), .int S.tc, .int S.rc, .int S.mk])
      rw [h_tc, h_rc, h_mk]
    · show (.inl (ar 6, 60, .inr (.inr (.inr (.inr (fun j9 => (T.al j9).map (fun k9 => x.f (.th k9))))))) : va_E) = .inl (ar 6, 60, .inr (.inr (.inr (.inr (fun j9 => (S.al j9).map (fun k9 => x.f (.th k9)))))))
      rw [h_al]
    · show (.inl (ar 6, 60, .inr (.inr (.inr (.inr (fun j9 => (T.re j9).map (fun k9 => x.f (.th k9))))))) : va_E) = .inl (ar 6, 60, .inr (.inr (.inr (.inr (fun j9 => (S.re j9).map (fun k9 => x.f (.th k9)))))))
      rw [h_re]
    · rfl
    · show (.inr (13, [.ref (x.f .pl), .int T.wc, .long T.ws, .long T.wp]) : va_E) = .inr (13, [.ref (x.f .pl), .int S.wc, .long S.ws, .long S.wp])
      rw [h_wc, h_ws, h_wp]
    · show (.inr (5, [.int x.mc, .ref (if T.np = 0 then κ 0 else x.pe), .int (Int32.ofNat T.np)]) : va_E) = .inr (5, [.int x.mc, .ref (if S.np = 0 then κ 0 else x.pe), .int (Int32.ofNat S.np)])
      rw [h_np]
    · show (.inl (ar 8, x.ec, .inr (.inr (.inr (.inr (fun j9 => if j9 < T.np then some (x.pp j9) else none))))) : va_E) = .inl (ar 8, x.ec, .inr (.inr (.inr (.inr (fun j9 => if j9 < S.np then some (x.pp j9) else none)))))
      rw [h_np]
  · show cTh ar x T.th j = cTh ar x S.th j
    rw [h_th]
  · show cFr ar x T.fr j = cFr ar x S.fr j
    rw [h_fr]
  · show cTo ar x T.to j = cTo ar x S.to j
    rw [h_to]
  · show cRo ar x T.ro j = cRo ar x S.ro j
    rw [h_ro]
  · show cPg ar x T.pg j = cPg ar x S.pg j
    rw [h_pg]
theorem ov_wgl (hv : ∀ a t, x.b a = some t → x.a t = a) (h : x.b (x.a .gl) = some .gl) (hc : c = .inl (ar 1, 8, .inr (.inl T.gl))) (h_ab : T.ab = S.ab) (h_fc : T.fc = S.fc) (h_cn : T.cn = S.cn) (h_me : T.me = S.me) (h_nt : T.nt = S.nt) (h_nr : T.nr = S.nr) (h_ty : T.ty = S.ty) (h_to : T.to = S.to) (h_ro : T.ro = S.ro) (h_al : T.al = S.al) (h_re : T.re = S.re) (h_th : T.th = S.th) (h_tc : T.tc = S.tc) (h_rc : T.rc = S.rc) (h_mk : T.mk = S.mk) (h_fr : T.fr = S.fr) (h_fn : T.fn = S.fn) (h_st : T.st = S.st) (h_rs : T.rs = S.rs) (h_an : T.an = S.an) (h_sp : T.sp = S.sp) (h_np : T.np = S.np) (h_pg : T.pg = S.pg) (h_wc : T.wc = S.wc) (h_ws : T.ws = S.ws) (h_wp : T.wp = S.wp) : g_up (ov κ ar x S G) (x.f .gl) c = ov κ ar x T G := by
  refine ov_w (t := .gl) hv h rfl hc (fun t' q => ?_)
  rcases t' with j | j | j | j | j | j
  · rcases j with ⟨⟩ | ⟨⟩ | ⟨⟩ | ⟨⟩ | ⟨⟩ | ⟨⟩ | ⟨⟩ | ⟨⟩ | ⟨⟩ | ⟨⟩ | ⟨⟩ | ⟨⟩ | ⟨⟩
    · show (.inr (14, [.ref (x.f .cl), .ref (x.f .me), .ref (x.f (.ro T.ty)), .int x.ht, .ref (x.f .gl), .ref (x.f .ts), .ref (x.f .fs), .int T.fn, .int T.st, .int T.rs, .long T.an, .int T.sp, .ref (x.f .wr)]) : va_E) = .inr (14, [.ref (x.f .cl), .ref (x.f .me), .ref (x.f (.ro S.ty)), .int x.ht, .ref (x.f .gl), .ref (x.f .ts), .ref (x.f .fs), .int S.fn, .int S.st, .int S.rs, .long S.an, .int S.sp, .ref (x.f .wr)])
      rw [h_ty, h_fn, h_st, h_rs, h_an, h_sp]
    · show (.inr (6, [.ref (x.f .ab), .ref (x.f .fc), .int T.cn]) : va_E) = .inr (6, [.ref (x.f .ab), .ref (x.f .fc), .int S.cn])
      rw [h_cn]
    · show (.inl (ar 0, 12, .inl T.ab) : va_E) = .inl (ar 0, 12, .inl S.ab)
      rw [h_ab]
    · show (.inl (ar 0, 12, .inl T.fc) : va_E) = .inl (ar 0, 12, .inl S.fc)
      rw [h_fc]
    · show (.inl (ar 7, 192, .inr (.inr (.inr (.inr (fun j9 => (T.me j9).map (fun k9 => x.f (.to k9))))))) : va_E) = .inl (ar 7, 192, .inr (.inr (.inr (.inr (fun j9 => (S.me j9).map (fun k9 => x.f (.to k9)))))))
      rw [h_me]
    · exact absurd rfl q
    · show (.inr (11, [.ref (x.f .al), .ref (x.f .re), .int T.tc, .int T.rc, .int T.mk]) : va_E) = .inr (11, [.ref (x.f .al), .ref (x.f .re), .int S.tc, .int S.rc, .int S.mk])
      rw [h_tc, h_rc, h_mk]
    · show (.inl (ar 6, 60, .inr (.inr (.inr (.inr (fun j9 => (T.al j9).map (fun k9 => x.f (.th k9))))))) : va_E) = .inl (ar 6, 60, .inr (.inr (.inr (.inr (fun j9 => (S.al j9).map (fun k9 => x.f (.th k9)))))))
      rw [h_al]
    · show (.inl (ar 6, 60, .inr (.inr (.inr (.inr (fun j9 => (T.re j9).map (fun k9 => x.f (.th k9))))))) : va_E) = .inl (ar 6, 60, .inr (.inr (.inr (.inr (fun j9 => (S.re j9).map (fun k9 => x.f (.th k9)))))))
      rw [h_re]
    · rfl
    · show (.inr (13, [.ref (x.f .pl), .int T.wc, .long T.ws, .long T.wp]) : va_E) = .inr (13, [.ref (x.f .pl), .int S.wc, .long S.ws, .long S.wp])
      rw [h_wc, h_ws, h_wp]
    · show (.inr (5, [.int x.mc, .ref (if T.np = 0 then κ 0 else x.pe), .int (Int32.ofNat T.np)]) : va_E) = .inr (5, [.int x.mc, .ref (if S.np = 0 then κ 0 else x.pe), .int (Int32.ofNat S.np)])
      rw [h_np]
    · show (.inl (ar 8, x.ec, .inr (.inr (.inr (.inr (fun j9 => if j9 < T.np then some (x.pp j9) else none))))) : va_E) = .inl (ar 8, x.ec, .inr (.inr (.inr (.inr (fun j9 => if j9 < S.np then some (x.pp j9) else none)))))
      rw [h_np]
  · show cTh ar x T.th j = cTh ar x S.th j
    rw [h_th]
  · show cFr ar x T.fr j = cFr ar x S.fr j
    rw [h_fr]
  · show cTo ar x T.to j = cTo ar x S.to j
    rw [h_to]
  · show cRo ar x T.ro j = cRo ar x S.ro j
    rw [h_ro]
  · show cPg ar x T.pg j = cPg ar x S.pg j
    rw [h_pg]
theorem ov_wts (hv : ∀ a t, x.b a = some t → x.a t = a) (h : x.b (x.a .ts) = some .ts) (hc : c = .inr (11, [.ref (x.f .al), .ref (x.f .re), .int T.tc, .int T.rc, .int T.mk])) (h_ab : T.ab = S.ab) (h_fc : T.fc = S.fc) (h_cn : T.cn = S.cn) (h_me : T.me = S.me) (h_nt : T.nt = S.nt) (h_nr : T.nr = S.nr) (h_ty : T.ty = S.ty) (h_to : T.to = S.to) (h_ro : T.ro = S.ro) (h_gl : T.gl = S.gl) (h_al : T.al = S.al) (h_re : T.re = S.re) (h_th : T.th = S.th) (h_fr : T.fr = S.fr) (h_fn : T.fn = S.fn) (h_st : T.st = S.st) (h_rs : T.rs = S.rs) (h_an : T.an = S.an) (h_sp : T.sp = S.sp) (h_np : T.np = S.np) (h_pg : T.pg = S.pg) (h_wc : T.wc = S.wc) (h_ws : T.ws = S.ws) (h_wp : T.wp = S.wp) : g_up (ov κ ar x S G) (x.f .ts) c = ov κ ar x T G := by
  refine ov_w (t := .ts) hv h rfl hc (fun t' q => ?_)
  rcases t' with j | j | j | j | j | j
  · rcases j with ⟨⟩ | ⟨⟩ | ⟨⟩ | ⟨⟩ | ⟨⟩ | ⟨⟩ | ⟨⟩ | ⟨⟩ | ⟨⟩ | ⟨⟩ | ⟨⟩ | ⟨⟩ | ⟨⟩
    · show (.inr (14, [.ref (x.f .cl), .ref (x.f .me), .ref (x.f (.ro T.ty)), .int x.ht, .ref (x.f .gl), .ref (x.f .ts), .ref (x.f .fs), .int T.fn, .int T.st, .int T.rs, .long T.an, .int T.sp, .ref (x.f .wr)]) : va_E) = .inr (14, [.ref (x.f .cl), .ref (x.f .me), .ref (x.f (.ro S.ty)), .int x.ht, .ref (x.f .gl), .ref (x.f .ts), .ref (x.f .fs), .int S.fn, .int S.st, .int S.rs, .long S.an, .int S.sp, .ref (x.f .wr)])
      rw [h_ty, h_fn, h_st, h_rs, h_an, h_sp]
    · show (.inr (6, [.ref (x.f .ab), .ref (x.f .fc), .int T.cn]) : va_E) = .inr (6, [.ref (x.f .ab), .ref (x.f .fc), .int S.cn])
      rw [h_cn]
    · show (.inl (ar 0, 12, .inl T.ab) : va_E) = .inl (ar 0, 12, .inl S.ab)
      rw [h_ab]
    · show (.inl (ar 0, 12, .inl T.fc) : va_E) = .inl (ar 0, 12, .inl S.fc)
      rw [h_fc]
    · show (.inl (ar 7, 192, .inr (.inr (.inr (.inr (fun j9 => (T.me j9).map (fun k9 => x.f (.to k9))))))) : va_E) = .inl (ar 7, 192, .inr (.inr (.inr (.inr (fun j9 => (S.me j9).map (fun k9 => x.f (.to k9)))))))
      rw [h_me]
    · show (.inl (ar 1, 8, .inr (.inl T.gl)) : va_E) = .inl (ar 1, 8, .inr (.inl S.gl))
      rw [h_gl]
    · exact absurd rfl q
    · show (.inl (ar 6, 60, .inr (.inr (.inr (.inr (fun j9 => (T.al j9).map (fun k9 => x.f (.th k9))))))) : va_E) = .inl (ar 6, 60, .inr (.inr (.inr (.inr (fun j9 => (S.al j9).map (fun k9 => x.f (.th k9)))))))
      rw [h_al]
    · show (.inl (ar 6, 60, .inr (.inr (.inr (.inr (fun j9 => (T.re j9).map (fun k9 => x.f (.th k9))))))) : va_E) = .inl (ar 6, 60, .inr (.inr (.inr (.inr (fun j9 => (S.re j9).map (fun k9 => x.f (.th k9)))))))
      rw [h_re]
    · rfl
    · show (.inr (13, [.ref (x.f .pl), .int T.wc, .long T.ws, .long T.wp]) : va_E) = .inr (13, [.ref (x.f .pl), .int S.wc, .long S.ws, .long S.wp])
      rw [h_wc, h_ws, h_wp]
    · show (.inr (5, [.int x.mc, .ref (if T.np = 0 then κ 0 else x.pe), .int (Int32.ofNat T.np)]) : va_E) = .inr (5, [.int x.mc, .ref (if S.np = 0 then κ 0 else x.pe), .int (Int32.ofNat S.np)])
      rw [h_np]
    · show (.inl (ar 8, x.ec, .inr (.inr (.inr (.inr (fun j9 => if j9 < T.np then some (x.pp j9) else none))))) : va_E) = .inl (ar 8, x.ec, .inr (.inr (.inr (.inr (fun j9 => if j9 < S.np then some (x.pp j9) else none)))))
      rw [h_np]
  · show cTh ar x T.th j = cTh ar x S.th j
    rw [h_th]
  · show cFr ar x T.fr j = cFr ar x S.fr j
    rw [h_fr]
  · show cTo ar x T.to j = cTo ar x S.to j
    rw [h_to]
  · show cRo ar x T.ro j = cRo ar x S.ro j
    rw [h_ro]
  · show cPg ar x T.pg j = cPg ar x S.pg j
    rw [h_pg]
theorem ov_wal (hv : ∀ a t, x.b a = some t → x.a t = a) (h : x.b (x.a .al) = some .al) (hc : c = .inl (ar 6, 60, .inr (.inr (.inr (.inr (fun j9 => (T.al j9).map (fun k9 => x.f (.th k9)))))))) (h_ab : T.ab = S.ab) (h_fc : T.fc = S.fc) (h_cn : T.cn = S.cn) (h_me : T.me = S.me) (h_nt : T.nt = S.nt) (h_nr : T.nr = S.nr) (h_ty : T.ty = S.ty) (h_to : T.to = S.to) (h_ro : T.ro = S.ro) (h_gl : T.gl = S.gl) (h_re : T.re = S.re) (h_th : T.th = S.th) (h_tc : T.tc = S.tc) (h_rc : T.rc = S.rc) (h_mk : T.mk = S.mk) (h_fr : T.fr = S.fr) (h_fn : T.fn = S.fn) (h_st : T.st = S.st) (h_rs : T.rs = S.rs) (h_an : T.an = S.an) (h_sp : T.sp = S.sp) (h_np : T.np = S.np) (h_pg : T.pg = S.pg) (h_wc : T.wc = S.wc) (h_ws : T.ws = S.ws) (h_wp : T.wp = S.wp) : g_up (ov κ ar x S G) (x.f .al) c = ov κ ar x T G := by
  refine ov_w (t := .al) hv h rfl hc (fun t' q => ?_)
  rcases t' with j | j | j | j | j | j
  · rcases j with ⟨⟩ | ⟨⟩ | ⟨⟩ | ⟨⟩ | ⟨⟩ | ⟨⟩ | ⟨⟩ | ⟨⟩ | ⟨⟩ | ⟨⟩ | ⟨⟩ | ⟨⟩ | ⟨⟩
    · show (.inr (14, [.ref (x.f .cl), .ref (x.f .me), .ref (x.f (.ro T.ty)), .int x.ht, .ref (x.f .gl), .ref (x.f .ts), .ref (x.f .fs), .int T.fn, .int T.st, .int T.rs, .long T.an, .int T.sp, .ref (x.f .wr)]) : va_E) = .inr (14, [.ref (x.f .cl), .ref (x.f .me), .ref (x.f (.ro S.ty)), .int x.ht, .ref (x.f .gl), .ref (x.f .ts), .ref (x.f .fs), .int S.fn, .int S.st, .int S.rs, .long S.an, .int S.sp, .ref (x.f .wr)])
      rw [h_ty, h_fn, h_st, h_rs, h_an, h_sp]
    · show (.inr (6, [.ref (x.f .ab), .ref (x.f .fc), .int T.cn]) : va_E) = .inr (6, [.ref (x.f .ab), .ref (x.f .fc), .int S.cn])
      rw [h_cn]
    · show (.inl (ar 0, 12, .inl T.ab) : va_E) = .inl (ar 0, 12, .inl S.ab)
      rw [h_ab]
    · show (.inl (ar 0, 12, .inl T.fc) : va_E) = .inl (ar 0, 12, .inl S.fc)
      rw [h_fc]
    · show (.inl (ar 7, 192, .inr (.inr (.inr (.inr (fun j9 => (T.me j9).map (fun k9 => x.f (.to k9))))))) : va_E) = .inl (ar 7, 192, .inr (.inr (.inr (.inr (fun j9 => (S.me j9).map (fun k9 => x.f (.to k9)))))))
      rw [h_me]
    · show (.inl (ar 1, 8, .inr (.inl T.gl)) : va_E) = .inl (ar 1, 8, .inr (.inl S.gl))
      rw [h_gl]
    · show (.inr (11, [.ref (x.f .al), .ref (x.f .re), .int T.tc, .int T.rc, .int T.mk]) : va_E) = .inr (11, [.ref (x.f .al), .ref (x.f .re), .int S.tc, .int S.rc, .int S.mk])
      rw [h_tc, h_rc, h_mk]
    · exact absurd rfl q
    · show (.inl (ar 6, 60, .inr (.inr (.inr (.inr (fun j9 => (T.re j9).map (fun k9 => x.f (.th k9))))))) : va_E) = .inl (ar 6, 60, .inr (.inr (.inr (.inr (fun j9 => (S.re j9).map (fun k9 => x.f (.th k9)))))))
      rw [h_re]
    · rfl
    · show (.inr (13, [.ref (x.f .pl), .int T.wc, .long T.ws, .long T.wp]) : va_E) = .inr (13, [.ref (x.f .pl), .int S.wc, .long S.ws, .long S.wp])
      rw [h_wc, h_ws, h_wp]
    · show (.inr (5, [.int x.mc, .ref (if T.np = 0 then κ 0 else x.pe), .int (Int32.ofNat T.np)]) : va_E) = .inr (5, [.int x.mc, .ref (if S.np = 0 then κ 0 else x.pe), .int (Int32.ofNat S.np)])
      rw [h_np]
    · show (.inl (ar 8, x.ec, .inr (.inr (.inr (.inr (fun j9 => if j9 < T.np then some (x.pp j9) else none))))) : va_E) = .inl (ar 8, x.ec, .inr (.inr (.inr (.inr (fun j9 => if j9 < S.np then some (x.pp j9) else none)))))
      rw [h_np]
  · show cTh ar x T.th j = cTh ar x S.th j
    rw [h_th]
  · show cFr ar x T.fr j = cFr ar x S.fr j
    rw [h_fr]
  · show cTo ar x T.to j = cTo ar x S.to j
    rw [h_to]
  · show cRo ar x T.ro j = cRo ar x S.ro j
    rw [h_ro]
  · show cPg ar x T.pg j = cPg ar x S.pg j
    rw [h_pg]
theorem ov_wre (hv : ∀ a t, x.b a = some t → x.a t = a) (h : x.b (x.a .re) = some .re) (hc : c = .inl (ar 6, 60, .inr (.inr (.inr (.inr (fun j9 => (T.re j9).map (fun k9 => x.f (.th k9)))))))) (h_ab : T.ab = S.ab) (h_fc : T.fc = S.fc) (h_cn : T.cn = S.cn) (h_me : T.me = S.me) (h_nt : T.nt = S.nt) (h_nr : T.nr = S.nr) (h_ty : T.ty = S.ty) (h_to : T.to = S.to) (h_ro : T.ro = S.ro) (h_gl : T.gl = S.gl) (h_al : T.al = S.al) (h_th : T.th = S.th) (h_tc : T.tc = S.tc) (h_rc : T.rc = S.rc) (h_mk : T.mk = S.mk) (h_fr : T.fr = S.fr) (h_fn : T.fn = S.fn) (h_st : T.st = S.st) (h_rs : T.rs = S.rs) (h_an : T.an = S.an) (h_sp : T.sp = S.sp) (h_np : T.np = S.np) (h_pg : T.pg = S.pg) (h_wc : T.wc = S.wc) (h_ws : T.ws = S.ws) (h_wp : T.wp = S.wp) : g_up (ov κ ar x S G) (x.f .re) c = ov κ ar x T G := by
  refine ov_w (t := .re) hv h rfl hc (fun t' q => ?_)
  rcases t' with j | j | j | j | j | j
  · rcases j with ⟨⟩ | ⟨⟩ | ⟨⟩ | ⟨⟩ | ⟨⟩ | ⟨⟩ | ⟨⟩ | ⟨⟩ | ⟨⟩ | ⟨⟩ | ⟨⟩ | ⟨⟩ | ⟨⟩
    · show (.inr (14, [.ref (x.f .cl), .ref (x.f .me), .ref (x.f (.ro T.ty)), .int x.ht, .ref (x.f .gl), .ref (x.f .ts), .ref (x.f .fs), .int T.fn, .int T.st, .int T.rs, .long T.an, .int T.sp, .ref (x.f .wr)]) : va_E) = .inr (14, [.ref (x.f .cl), .ref (x.f .me), .ref (x.f (.ro S.ty)), .int x.ht, .ref (x.f .gl), .ref (x.f .ts), .ref (x.f .fs), .int S.fn, .int S.st, .int S.rs, .long S.an, .int S.sp, .ref (x.f .wr)])
      rw [h_ty, h_fn, h_st, h_rs, h_an, h_sp]
    · show (.inr (6, [.ref (x.f .ab), .ref (x.f .fc), .int T.cn]) : va_E) = .inr (6, [.ref (x.f .ab), .ref (x.f .fc), .int S.cn])
      rw [h_cn]
    · show (.inl (ar 0, 12, .inl T.ab) : va_E) = .inl (ar 0, 12, .inl S.ab)
      rw [h_ab]
    · show (.inl (ar 0, 12, .inl T.fc) : va_E) = .inl (ar 0, 12, .inl S.fc)
      rw [h_fc]
    · show (.inl (ar 7, 192, .inr (.inr (.inr (.inr (fun j9 => (T.me j9).map (fun k9 => x.f (.to k9))))))) : va_E) = .inl (ar 7, 192, .inr (.inr (.inr (.inr (fun j9 => (S.me j9).map (fun k9 => x.f (.to k9)))))))
      rw [h_me]
    · show (.inl (ar 1, 8, .inr (.inl T.gl)) : va_E) = .inl (ar 1, 8, .inr (.inl S.gl))
      rw [h_gl]
    · show (.inr (11, [.ref (x.f .al), .ref (x.f .re), .int T.tc, .int T.rc, .int T.mk]) : va_E) = .inr (11, [.ref (x.f .al), .ref (x.f .re), .int S.tc, .int S.rc, .int S.mk])
      rw [h_tc, h_rc, h_mk]
    · show (.inl (ar 6, 60, .inr (.inr (.inr (.inr (fun j9 => (T.al j9).map (fun k9 => x.f (.th k9))))))) : va_E) = .inl (ar 6, 60, .inr (.inr (.inr (.inr (fun j9 => (S.al j9).map (fun k9 => x.f (.th k9)))))))
      rw [h_al]
    · exact absurd rfl q
    · rfl
    · show (.inr (13, [.ref (x.f .pl), .int T.wc, .long T.ws, .long T.wp]) : va_E) = .inr (13, [.ref (x.f .pl), .int S.wc, .long S.ws, .long S.wp])
      rw [h_wc, h_ws, h_wp]
    · show (.inr (5, [.int x.mc, .ref (if T.np = 0 then κ 0 else x.pe), .int (Int32.ofNat T.np)]) : va_E) = .inr (5, [.int x.mc, .ref (if S.np = 0 then κ 0 else x.pe), .int (Int32.ofNat S.np)])
      rw [h_np]
    · show (.inl (ar 8, x.ec, .inr (.inr (.inr (.inr (fun j9 => if j9 < T.np then some (x.pp j9) else none))))) : va_E) = .inl (ar 8, x.ec, .inr (.inr (.inr (.inr (fun j9 => if j9 < S.np then some (x.pp j9) else none)))))
      rw [h_np]
  · show cTh ar x T.th j = cTh ar x S.th j
    rw [h_th]
  · show cFr ar x T.fr j = cFr ar x S.fr j
    rw [h_fr]
  · show cTo ar x T.to j = cTo ar x S.to j
    rw [h_to]
  · show cRo ar x T.ro j = cRo ar x S.ro j
    rw [h_ro]
  · show cPg ar x T.pg j = cPg ar x S.pg j
    rw [h_pg]
theorem ov_wwr (hv : ∀ a t, x.b a = some t → x.a t = a) (h : x.b (x.a .wr) = some .wr) (hc : c = .inr (13, [.ref (x.f .pl), .int T.wc, .long T.ws, .long T.wp])) (h_ab : T.ab = S.ab) (h_fc : T.fc = S.fc) (h_cn : T.cn = S.cn) (h_me : T.me = S.me) (h_nt : T.nt = S.nt) (h_nr : T.nr = S.nr) (h_ty : T.ty = S.ty) (h_to : T.to = S.to) (h_ro : T.ro = S.ro) (h_gl : T.gl = S.gl) (h_al : T.al = S.al) (h_re : T.re = S.re) (h_th : T.th = S.th) (h_tc : T.tc = S.tc) (h_rc : T.rc = S.rc) (h_mk : T.mk = S.mk) (h_fr : T.fr = S.fr) (h_fn : T.fn = S.fn) (h_st : T.st = S.st) (h_rs : T.rs = S.rs) (h_an : T.an = S.an) (h_sp : T.sp = S.sp) (h_np : T.np = S.np) (h_pg : T.pg = S.pg) : g_up (ov κ ar x S G) (x.f .wr) c = ov κ ar x T G := by
  refine ov_w (t := .wr) hv h rfl hc (fun t' q => ?_)
  rcases t' with j | j | j | j | j | j
  · rcases j with ⟨⟩ | ⟨⟩ | ⟨⟩ | ⟨⟩ | ⟨⟩ | ⟨⟩ | ⟨⟩ | ⟨⟩ | ⟨⟩ | ⟨⟩ | ⟨⟩ | ⟨⟩ | ⟨⟩
    · show (.inr (14, [.ref (x.f .cl), .ref (x.f .me), .ref (x.f (.ro T.ty)), .int x.ht, .ref (x.f .gl), .ref (x.f .ts), .ref (x.f .fs), .int T.fn, .int T.st, .int T.rs, .long T.an, .int T.sp, .ref (x.f .wr)]) : va_E) = .inr (14, [.ref (x.f .cl), .ref (x.f .me), .ref (x.f (.ro S.ty)), .int x.ht, .ref (x.f .gl), .ref (x.f .ts), .ref (x.f .fs), .int S.fn, .int S.st, .int S.rs, .long S.an, .int S.sp, .ref (x.f .wr)])
      rw [h_ty, h_fn, h_st, h_rs, h_an, h_sp]
    · show (.inr (6, [.ref (x.f .ab), .ref (x.f .fc), .int T.cn]) : va_E) = .inr (6, [.ref (x.f .ab), .ref (x.f .fc), .int S.cn])
      rw [h_cn]
    · show (.inl (ar 0, 12, .inl T.ab) : va_E) = .inl (ar 0, 12, .inl S.ab)
      rw [h_ab]
    · show (.inl (ar 0, 12, .inl T.fc) : va_E) = .inl (ar 0, 12, .inl S.fc)
      rw [h_fc]
    · show (.inl (ar 7, 192, .inr (.inr (.inr (.inr (fun j9 => (T.me j9).map (fun k9 => x.f (.to k9))))))) : va_E) = .inl (ar 7, 192, .inr (.inr (.inr (.inr (fun j9 => (S.me j9).map (fun k9 => x.f (.to k9)))))))
      rw [h_me]
    · show (.inl (ar 1, 8, .inr (.inl T.gl)) : va_E) = .inl (ar 1, 8, .inr (.inl S.gl))
      rw [h_gl]
    · show (.inr (11, [.ref (x.f .al), .ref (x.f .re), .int T.tc, .int T.rc, .int T.mk]) : va_E) = .inr (11, [.ref (x.f .al), .ref (x.f .re), .int S.tc, .int S.rc, .int S.mk])
      rw [h_tc, h_rc, h_mk]
    · show (.inl (ar 6, 60, .inr (.inr (.inr (.inr (fun j9 => (T.al j9).map (fun k9 => x.f (.th k9))))))) : va_E) = .inl (ar 6, 60, .inr (.inr (.inr (.inr (fun j9 => (S.al j9).map (fun k9 => x.f (.th k9)))))))
      rw [h_al]
    · show (.inl (ar 6, 60, .inr (.inr (.inr (.inr (fun j9 => (T.re j9).map (fun k9 => x.f (.th k9))))))) : va_E) = .inl (ar 6, 60, .inr (.inr (.inr (.inr (fun j9 => (S.re j9).map (fun k9 => x.f (.th k9)))))))
      rw [h_re]
    · rfl
    · exact absurd rfl q
    · show (.inr (5, [.int x.mc, .ref (if T.np = 0 then κ 0 else x.pe), .int (Int32.ofNat T.np)]) : va_E) = .inr (5, [.int x.mc, .ref (if S.np = 0 then κ 0 else x.pe), .int (Int32.ofNat S.np)])
      rw [h_np]
    · show (.inl (ar 8, x.ec, .inr (.inr (.inr (.inr (fun j9 => if j9 < T.np then some (x.pp j9) else none))))) : va_E) = .inl (ar 8, x.ec, .inr (.inr (.inr (.inr (fun j9 => if j9 < S.np then some (x.pp j9) else none)))))
      rw [h_np]
  · show cTh ar x T.th j = cTh ar x S.th j
    rw [h_th]
  · show cFr ar x T.fr j = cFr ar x S.fr j
    rw [h_fr]
  · show cTo ar x T.to j = cTo ar x S.to j
    rw [h_to]
  · show cRo ar x T.ro j = cRo ar x S.ro j
    rw [h_ro]
  · show cPg ar x T.pg j = cPg ar x S.pg j
    rw [h_pg]
end OV
/-- how the functions of a state are put together -/
def oc {α β : Type} (e : Option α) (a : β) (f : α → β) : β := match e with
  | none => a
  | some k => f k
theorem oc_n {α β : Type} {e : Option α} {a : β} {f : α → β} (h : e = none) : oc e a f = a := by rw [h]; rfl
theorem oc_s {α β : Type} {e : Option α} {a : β} {f : α → β} {k : α} (h : e = some k) : oc e a f = f k := by rw [h]; rfl
/-- how a method that may throw ends: with an answer, or thrown, and the state then -/
abbrev Rs (α : Type) : Type := (α × Ho) ⊕ (String × Ho)
def rc {α β : Type} (e : Rs α) (f : α → Ho → β) (g : String → Ho → β) : β := match e with
  | .inl q => f q.1 q.2
  | .inr q => g q.1 q.2
theorem rc_v {α β : Type} {e : Rs α} {f : α → Ho → β} {g : String → Ho → β} {r : α} {S : Ho} (h : e = .inl (r, S)) : rc e f g = f r S := by rw [h]; rfl
theorem rc_x {α β : Type} {e : Rs α} {f : α → Ho → β} {g : String → Ho → β} {E : String} {S : Ho} (h : e = .inr (E, S)) : rc e f g = g E S := by rw [h]; rfl
def pc {α β : Type} (e : α × Ho) (f : α → Ho → β) : β := f e.1 e.2
theorem pc_e {α β : Type} {e : α × Ho} {f : α → Ho → β} {r : α} {S : Ho} (h : e = (r, S)) : pc e f = f r S := by rw [h]; rfl
def vc {α β : Type} (e : α) (f : α → β) : β := f e
theorem vc_e {α β : Type} {e : α} {f : α → β} {S : α} (h : e = S) : vc e f = f S := by rw [h]; rfl
/-- how often a counting loop may go round -/
theorem FU_x : ∃ n : Nat, n = 2147483648 := ⟨_, rfl⟩
noncomputable def FU : Nat := Classical.choose FU_x
theorem FU_e : FU = 2147483648 := Classical.choose_spec FU_x
end
section
section HL
variable {p : Program} {l : Launch} {e : Env} {R : Room} {s : State} {m : MethodId} {args : Array Value} {below : List Frame} {meth : Method} {c : Code} {H : Heap} {locs : List Loc} {cells slots : Nat} {Q : State → Prop}
variable {pc : Nat} {ls : Array Slot} {rest : List Value} {cc : ByteArray}
/-! references that may be none; counters; switches -/
theorem lv_aload_nQ (hexec : p.tables.exec = Jvm.exec) (hb : c.code = cc) {k : Fin 4} {i : Nat} {r : Option Nat} (hdg : decode cc pc = .ok (.aload_n k, 1)) (hi : (k : Nat) = i) (hl : ls[i]? = some (.val (va_rf r)))
    (kk : W p l e R s m args below meth c H locs cells slots Q (F0 m (pc + 1) ls (va_rf r :: rest))) : W p l e R s m args below meth c H locs cells slots Q (F0 m pc ls rest) := by
  cases r with
  | none => exact lv_aload_nN hexec hb hdg hi hl kk
  | some x => exact lv_aload_n hexec hb hdg hi hl kk
theorem lv_aloadQ (hexec : p.tables.exec = Jvm.exec) (hb : c.code = cc) {i : Nat} {r : Option Nat} (hdg : decode cc pc = .ok (.aload i, 2)) (hl : ls[i]? = some (.val (va_rf r)))
    (kk : W p l e R s m args below meth c H locs cells slots Q (F0 m (pc + 2) ls (va_rf r :: rest))) : W p l e R s m args below meth c H locs cells slots Q (F0 m pc ls rest) := by
  cases r with
  | none => exact lv_aloadN hexec hb hdg hl kk
  | some x => exact lv_aload hexec hb hdg hl kk
theorem lv_astore_nQ (hexec : p.tables.exec = Jvm.exec) (hb : c.code = cc) {k : Fin 4} {i nL : Nat} {r : Option Nat} {lv lv' : List (Nat × Value)} (hdg : decode cc pc = .ok (.astore_n k, 1)) (hi : (k : Nat) = i) (h : lv_has ls nL lv) (hn : i < nL) (hl : (i, va_rf r) :: lv.filter (fun q => !(q.1 == i) && !(q.1 + 1 == i && q.2.category == 2)) = lv')
    (kk : ∀ ls' : Array Slot, lv_has ls' nL lv' → W p l e R s m args below meth c H locs cells slots Q (F0 m (pc + 1) ls' rest)) : W p l e R s m args below meth c H locs cells slots Q (F0 m pc ls (va_rf r :: rest)) := by
  cases r with
  | none => exact lv_astore_nN hexec hb hdg hi h hn hl kk
  | some x => exact lv_astore_n hexec hb hdg hi h hn hl kk
theorem lv_astoreQ (hexec : p.tables.exec = Jvm.exec) (hb : c.code = cc) {i nL : Nat} {r : Option Nat} {lv lv' : List (Nat × Value)} (hdg : decode cc pc = .ok (.astore i, 2)) (h : lv_has ls nL lv) (hn : i < nL) (hl : (i, va_rf r) :: lv.filter (fun q => !(q.1 == i) && !(q.1 + 1 == i && q.2.category == 2)) = lv')
    (kk : ∀ ls' : Array Slot, lv_has ls' nL lv' → W p l e R s m args below meth c H locs cells slots Q (F0 m (pc + 2) ls' rest)) : W p l e R s m args below meth c H locs cells slots Q (F0 m pc ls (va_rf r :: rest)) := by
  cases r with
  | none => exact lv_astoreN hexec hb hdg h hn hl kk
  | some x => exact lv_astore hexec hb hdg h hn hl kk
theorem va_rf_cat {r : Option Nat} : (va_rf r).category = 1 := by cases r <;> rfl
theorem lp_up {i n N : Nat} {x b : Int32} (hb : b = nI n) (ex : x = nI i) (hi : i ≤ N) (hn : n < 2 ^ 31) (hN : n ≤ N) (hN2 : N < 2 ^ 31) (c : ¬ b ≤ x) : i + 1 ≤ N := by
  rcases Nat.lt_or_ge i n with q | q
  · omega
  · exact absurd (by rw [hb, ex]; exact nI_le q (by omega)) c
theorem lp_fu {i : Nat} {x b : Int32} (ex : x = nI i) (hi : i ≤ 2147483647) (c : ¬ b ≤ x) : i + 1 ≤ 2147483647 := by
  rcases Nat.lt_or_ge i 2147483647 with q | q
  · omega
  · have e : i = 2147483647 := by omega
    subst e
    refine absurd ?_ c
    rw [ex, Int32.le_iff_toInt_le, nI_toInt (by decide)]
    have := Int32.toInt_lt b
    omega
theorem in_lt {i n N : Nat} {x b : Int32} (hb : b = nI n) (ex : x = nI i) (hi : i ≤ N) (hn : n < 2 ^ 31) (hN2 : N < 2 ^ 31) (c : ¬ b ≤ x) : vp_in x n := by
  rcases Nat.lt_or_ge i n with q | q
  · rw [ex]; exact vp_in_nI q hn
  · exact absurd (by rw [hb, ex]; exact nI_le q (by omega)) c
theorem kp_in {i : Nat} {x b k : Int32} (hb : b = nI 60) (ex : x = nI i) (hi : i ≤ 60) (c : ¬ b ≤ x) (h0 : 0 ≤ k) (h : ¬ x < k) : vp_in k 60 := by
  subst hb ex
  rw [Int32.le_iff_toInt_le, nI_toInt (by decide), nI_toInt (by omega)] at c
  rw [Int32.le_iff_toInt_le] at h0
  rw [Int32.lt_iff_toInt_lt, nI_toInt (by omega)] at h
  have e0 : (0 : Int32).toInt = 0 := by decide
  rw [vp_in_iff]
  omega
theorem kp_up {i : Nat} {x b k : Int32} (hb : b = nI 60) (ex : x = nI i) (hi : i ≤ 60) (c : ¬ b ≤ x) (h0 : 0 ≤ k) (h : ¬ x < k) : 0 ≤ k + 1 := by
  have h1 := kp_in hb ex hi c h0 h
  rw [vp_in_iff] at h1
  have hn : ¬ k < 0 := by
    rw [Int32.lt_iff_toInt_lt]
    have e0 : (0 : Int32).toInt = 0 := by decide
    omega
  obtain ⟨j, hj, e⟩ := nI_of hn
  rw [e, nI_toInt hj] at h1
  rw [e, nI_1, Int32.le_iff_toInt_le, nI_toInt (by omega)]
  have e0 : (0 : Int32).toInt = 0 := by decide
  omega
/-- none of these -/
def sw_no (x : Int32) : List Int32 → Prop
  | [] => True
  | k :: r => ¬ x = k ∧ sw_no x r
theorem sw_not {x : Int32} {ks : List Int32} (h : sw_no x ks) : ∀ k ∈ ks, ¬ x = k := by
  induction ks with
  | nil => intro k hk; cases hk
  | cons a r ih =>
    intro k hk
    rcases List.mem_cons.mp hk with e | e
    · rw [e]; exact h.1
    · exact ih h.2 k e
theorem sw_def {x : Int32} {ks : List Int32} {ps : List (Int × Int)} {dflt : Int} (h : sw_no x ks) (hp : ps.all (fun q => q.2 == dflt || ks.any (fun k => k.toInt == q.1)) = true) : Op.lookupswitch.offset ps dflt x.toInt = dflt := by
  induction ps with
  | nil => rfl
  | cons q r ih =>
    obtain ⟨a, o⟩ := q
    rw [List.all_cons, Bool.and_eq_true] at hp
    rw [Op.lookupswitch.offset_cons]
    by_cases ha : a = x.toInt
    · rw [if_pos ha]
      have h1 := hp.1
      rw [Bool.or_eq_true] at h1
      rcases h1 with h1 | h1
      · exact eq_of_beq h1
      · obtain ⟨k, hk, hk2⟩ := List.any_eq_true.mp h1
        have h2 : k.toInt = a := eq_of_beq hk2
        exact absurd (Int32.toInt_inj.mp (by rw [h2, ha])) (sw_not h k hk)
    · rw [if_neg ha]
      exact ih hp.2
theorem sw_tab (hexec : p.tables.exec = Jvm.exec) (hb : c.code = cc) {dflt lo hi : Int} {offs : Array Int} {len : Nat} {x : Int32} {tgt : Nat} {ks : List Int32} (hdg : decode cc pc = .ok (.tableswitch dflt lo hi offs, len)) (h : sw_no x ks)
    (hp : (hi - lo + 1 == offs.size && (List.range offs.size).all (fun j => offs[j]? == some dflt || ks.any (fun k => k.toInt == lo + (j : Int)))) = true) (ht : (pc : Int) + dflt = (tgt : Int))
    (kk : W p l e R s m args below meth c H locs cells slots Q (F0 m tgt ls rest)) : W p l e R s m args below meth c H locs cells slots Q (F0 m pc ls (.int x :: rest)) := by
  rw [Bool.and_eq_true] at hp
  have hz : hi - lo + 1 = offs.size := eq_of_beq hp.1
  by_cases h1 : x.toInt < lo ∨ hi < x.toInt
  · exact lv_tableOut hexec hb hdg h1 ht kk
  · have h2 : ¬ x.toInt < lo := fun q => h1 (Or.inl q)
    have h3 : ¬ hi < x.toInt := fun q => h1 (Or.inr q)
    have h4 : (x.toInt - lo).toNat < offs.size := by omega
    have h5 := List.all_eq_true.mp hp.2 (x.toInt - lo).toNat (List.mem_range.mpr h4)
    rw [Bool.or_eq_true] at h5
    rcases h5 with h5 | h5
    · exact lv_tableIn hexec hb hdg h2 h3 (eq_of_beq h5) ht kk
    · obtain ⟨k, hk, hk2⟩ := List.any_eq_true.mp h5
      have h6 : k.toInt = lo + ((x.toInt - lo).toNat : Int) := eq_of_beq hk2
      exact absurd (Int32.toInt_inj.mp (by rw [h6]; omega)) (sw_not h k hk)
end HL
section BXS
variable {κ : Nat → Nat} {ar : Nat → ClassId} {x : Xo} {S : Ho} {G : gW} {a : Nat} {e c : va_E}
theorem ov_o (h : x.b a = none) (hg : G a = some e) : ov κ ar x S G a = some e := by unfold ov; rw [h]; exact hg
theorem ov_b0 (h : ov κ ar x S G a = none) : x.b a = none := by
  unfold ov at h
  cases hb : x.b a with
  | none => rfl
  | some t => rw [hb] at h; cases h
theorem ov_new (h : x.b a = none) : g_up (ov κ ar x S G) a c = ov κ ar x S (g_up G a c) := by
  funext q
  unfold g_up ov
  by_cases hq : q = a
  · subst hq; rw [if_pos rfl, h]; simp only [if_true]
  · rw [if_neg hq]
    cases x.b q with
    | none => simp only [if_neg hq]
    | some t => rfl
/-- what pages come lies behind -/
def BX (x : Xo) (z : Zo) (sz : Nat) : Prop := ∀ a t, z.b a = some t → x.b a = some t ∨ sz ≤ a
theorem BX_t {z1 z2 : Zo} {n0 n1 : Nat} (h1 : BX x z1 n0) (h2 : BX (x.pgs z1) z2 n1) (h : n0 ≤ n1) : BX x z2 n0 := fun a t q => by
  rcases h2 a t q with q1 | q1
  · exact h1 a t q1
  · exact Or.inr (Nat.le_trans h q1)
end BXS
section NRW
variable {p : Program} {l : Launch} {e : Env} {R : Room} {s : State} {m : MethodId} {args : Array Value} {below : List Frame} {meth : Method} {c : Code} {H : Heap} {locs : List Loc} {cells slots : Nat}
/-- a small type's answer is cut down -/
theorem W.zretN {cc : ByteArray} {Qc : Array Value → State → Outcome → State → Prop} {free : Addr → Prop} {v0 v : Int32} {ty : FieldType} (hexec : p.tables.exec = Jvm.exec) (hb : c.code = cc) (hr : meth.sig.returnType = some ty) (hn : narrow ty (.int v0) = .int v)
    (hq : ∀ t : State, t.heap = H → s.WarmedH t.vm → Qc args s (.returned (some (.int v))) t) (hf : ∀ q ∈ locs, free q.base)
    {pc : Nat} {ls : Array Slot} (hdg : decode cc pc = .ok (.ireturn, 1)) (hlocks : meth.locks = false) : W p l e R s m args below meth c H locs cells slots (MQ below Qc args s cells slots free) (F0 m pc ls [.int v0]) := by
  intro T hT X
  obtain ⟨fs, hret, hrun, hended, hW, hframe⟩ := X.leave (v := some (.int v)) (fun h => by rw [hr] at h; cases h)
  have hmeth' : T.vm.method? m = some meth := X.method'
  refine ⟨T.setFrames fs, ?_, .returned (some (.int v)), hrun, hended, hq _ hT hW, locs, ⟨⟨_, rfl⟩, hW, hframe⟩, hf⟩
  jvm_step X.here [X.here.top, hexec, hb, hdg, hmeth', hr, hn]
  (try refine ⟨rfl, ?_⟩); (try refine ⟨rfl, ?_⟩)
  first | (intro acts; rw [hret _ acts rfl rfl rfl]) | rw [hret _ _ rfl rfl rfl]
  exact Steps.refl _
theorem g_zretN {D : va_G} {cl : List vw_C} {A : Nat → Prop} {u : gW} {nz mc ms pc : Nat} {ls : Array Slot} {cc : ByteArray} {post : Int32 → gW × Nat → Prop} {v0 v : Int32} {ty : FieldType} (hx : p.tables.exec = Jvm.exec) (hb : c.code = cc) (hr : meth.sig.returnType = some ty) (hlocks : meth.locks = false) (w : g_S D cl A s.heap u H locs nz) (hc : cells ≤ mc) (hs : slots ≤ ms) (hdg : decode cc pc = .ok (.ireturn, 1)) (hn : narrow ty (.int v0) = .int v) (hp : post v (u, nz)) :
    W p l e R s m args below meth c H locs cells slots (MQ below (g_Qi D cl A post) args s mc ms A) (F0 m pc ls [.int v0]) :=
  W.widen hc hs (W.zretN hx hb hr hn (fun t ht hW => ⟨⟨v, (u, nz), rfl, hp, by rw [ht]; exact w.1, w.2.1, by rw [ht]; exact w.2.2.2.2⟩, w.2.2.1.F ht⟩) w.2.2.1.2.2 hdg hlocks)
end NRW
end
section
theorem dX3_firstAt_0 : decode cX3_firstAt 0 = .ok (.iload_n 1, 1) := by decide +kernel
theorem dX3_firstAt_1 : decode cX3_firstAt 1 = .ok (.aload_n 0, 1) := by decide +kernel
theorem dX3_firstAt_2 : decode cX3_firstAt 2 = .ok (.getfield 15, 3) := by decide +kernel
theorem dX3_firstAt_5 : decode cX3_firstAt 5 = .ok (.arraylength, 1) := by decide +kernel
theorem dX3_firstAt_6 : decode cX3_firstAt 6 = .ok (.invokestatic 35, 3) := by decide +kernel
theorem dX3_firstAt_9 : decode cX3_firstAt 9 = .ok (.ifCond .eq 12, 3) := by decide +kernel
theorem dX3_firstAt_12 : decode cX3_firstAt 12 = .ok (.aload_n 0, 1) := by decide +kernel
theorem dX3_firstAt_13 : decode cX3_firstAt 13 = .ok (.getfield 15, 3) := by decide +kernel
theorem dX3_firstAt_16 : decode cX3_firstAt 16 = .ok (.iload_n 1, 1) := by decide +kernel
theorem dX3_firstAt_17 : decode cX3_firstAt 17 = .ok (.iaload, 1) := by decide +kernel
theorem dX3_firstAt_18 : decode cX3_firstAt 18 = .ok (.goto 4, 3) := by decide +kernel
theorem dX3_firstAt_21 : decode cX3_firstAt 21 = .ok (.iconst 0, 1) := by decide +kernel
theorem dX3_firstAt_22 : decode cX3_firstAt 22 = .ok (.ireturn, 1) := by decide +kernel
theorem dX3_secondAt_0 : decode cX3_secondAt 0 = .ok (.iload_n 1, 1) := by decide +kernel
theorem dX3_secondAt_1 : decode cX3_secondAt 1 = .ok (.aload_n 0, 1) := by decide +kernel
theorem dX3_secondAt_2 : decode cX3_secondAt 2 = .ok (.getfield 19, 3) := by decide +kernel
theorem dX3_secondAt_5 : decode cX3_secondAt 5 = .ok (.arraylength, 1) := by decide +kernel
theorem dX3_secondAt_6 : decode cX3_secondAt 6 = .ok (.invokestatic 35, 3) := by decide +kernel
theorem dX3_secondAt_9 : decode cX3_secondAt 9 = .ok (.ifCond .eq 12, 3) := by decide +kernel
theorem dX3_secondAt_12 : decode cX3_secondAt 12 = .ok (.aload_n 0, 1) := by decide +kernel
theorem dX3_secondAt_13 : decode cX3_secondAt 13 = .ok (.getfield 19, 3) := by decide +kernel
theorem dX3_secondAt_16 : decode cX3_secondAt 16 = .ok (.iload_n 1, 1) := by decide +kernel
theorem dX3_secondAt_17 : decode cX3_secondAt 17 = .ok (.iaload, 1) := by decide +kernel
theorem dX3_secondAt_18 : decode cX3_secondAt 18 = .ok (.goto 4, 3) := by decide +kernel
theorem dX3_secondAt_21 : decode cX3_secondAt 21 = .ok (.iconst 0, 1) := by decide +kernel
theorem dX3_secondAt_22 : decode cX3_secondAt 22 = .ok (.ireturn, 1) := by decide +kernel
theorem dX3_depthAt_0 : decode cX3_depthAt 0 = .ok (.iload_n 1, 1) := by decide +kernel
theorem dX3_depthAt_1 : decode cX3_depthAt 1 = .ok (.aload_n 0, 1) := by decide +kernel
theorem dX3_depthAt_2 : decode cX3_depthAt 2 = .ok (.getfield 22, 3) := by decide +kernel
theorem dX3_depthAt_5 : decode cX3_depthAt 5 = .ok (.arraylength, 1) := by decide +kernel
theorem dX3_depthAt_6 : decode cX3_depthAt 6 = .ok (.invokestatic 35, 3) := by decide +kernel
theorem dX3_depthAt_9 : decode cX3_depthAt 9 = .ok (.ifCond .eq 12, 3) := by decide +kernel
theorem dX3_depthAt_12 : decode cX3_depthAt 12 = .ok (.aload_n 0, 1) := by decide +kernel
theorem dX3_depthAt_13 : decode cX3_depthAt 13 = .ok (.getfield 22, 3) := by decide +kernel
theorem dX3_depthAt_16 : decode cX3_depthAt 16 = .ok (.iload_n 1, 1) := by decide +kernel
theorem dX3_depthAt_17 : decode cX3_depthAt 17 = .ok (.iaload, 1) := by decide +kernel
theorem dX3_depthAt_18 : decode cX3_depthAt 18 = .ok (.goto 4, 3) := by decide +kernel
theorem dX3_depthAt_21 : decode cX3_depthAt 21 = .ok (.iconst (-1), 1) := by decide +kernel
theorem dX3_depthAt_22 : decode cX3_depthAt 22 = .ok (.ireturn, 1) := by decide +kernel
theorem dX3_comeToAt_0 : decode cX3_comeToAt 0 = .ok (.iload_n 1, 1) := by decide +kernel
theorem dX3_comeToAt_1 : decode cX3_comeToAt 1 = .ok (.aload_n 0, 1) := by decide +kernel
theorem dX3_comeToAt_2 : decode cX3_comeToAt 2 = .ok (.getfield 25, 3) := by decide +kernel
theorem dX3_comeToAt_5 : decode cX3_comeToAt 5 = .ok (.arraylength, 1) := by decide +kernel
theorem dX3_comeToAt_6 : decode cX3_comeToAt 6 = .ok (.invokestatic 35, 3) := by decide +kernel
theorem dX3_comeToAt_9 : decode cX3_comeToAt 9 = .ok (.ifCond .eq 12, 3) := by decide +kernel
theorem dX3_comeToAt_12 : decode cX3_comeToAt 12 = .ok (.aload_n 0, 1) := by decide +kernel
theorem dX3_comeToAt_13 : decode cX3_comeToAt 13 = .ok (.getfield 25, 3) := by decide +kernel
theorem dX3_comeToAt_16 : decode cX3_comeToAt 16 = .ok (.iload_n 1, 1) := by decide +kernel
theorem dX3_comeToAt_17 : decode cX3_comeToAt 17 = .ok (.iaload, 1) := by decide +kernel
theorem dX3_comeToAt_18 : decode cX3_comeToAt 18 = .ok (.goto 4, 3) := by decide +kernel
theorem dX3_comeToAt_21 : decode cX3_comeToAt 21 = .ok (.iconst 0, 1) := by decide +kernel
theorem dX3_comeToAt_22 : decode cX3_comeToAt 22 = .ok (.ireturn, 1) := by decide +kernel
theorem dX3_letterAt_0 : decode cX3_letterAt 0 = .ok (.iload_n 1, 1) := by decide +kernel
theorem dX3_letterAt_1 : decode cX3_letterAt 1 = .ok (.aload_n 0, 1) := by decide +kernel
theorem dX3_letterAt_2 : decode cX3_letterAt 2 = .ok (.getfield 9, 3) := by decide +kernel
theorem dX3_letterAt_5 : decode cX3_letterAt 5 = .ok (.arraylength, 1) := by decide +kernel
theorem dX3_letterAt_6 : decode cX3_letterAt 6 = .ok (.invokestatic 35, 3) := by decide +kernel
theorem dX3_letterAt_9 : decode cX3_letterAt 9 = .ok (.ifCond .eq 12, 3) := by decide +kernel
theorem dX3_letterAt_12 : decode cX3_letterAt 12 = .ok (.aload_n 0, 1) := by decide +kernel
theorem dX3_letterAt_13 : decode cX3_letterAt 13 = .ok (.getfield 9, 3) := by decide +kernel
theorem dX3_letterAt_16 : decode cX3_letterAt 16 = .ok (.iload_n 1, 1) := by decide +kernel
theorem dX3_letterAt_17 : decode cX3_letterAt 17 = .ok (.caload, 1) := by decide +kernel
theorem dX3_letterAt_18 : decode cX3_letterAt 18 = .ok (.goto 5, 3) := by decide +kernel
theorem dX3_letterAt_21 : decode cX3_letterAt 21 = .ok (.bipush 114, 2) := by decide +kernel
theorem dX3_letterAt_23 : decode cX3_letterAt 23 = .ok (.ireturn, 1) := by decide +kernel
theorem dX3_takenBy_0 : decode cX3_takenBy 0 = .ok (.iload_n 0, 1) := by decide +kernel
theorem dX3_takenBy_1 : decode cX3_takenBy 1 = .ok (.lookupswitch 155 #[(42, 149), (43, 149), (45, 149), (47, 149), (60, 149), (61, 149), (77, 151), (97, 147), (99, 147), (102, 147), (103, 147), (106, 147), (109, 151), (110, 147), (115, 147), (116, 147), (117, 147)], 147) := by decide +kernel
theorem dX3_takenBy_148 : decode cX3_takenBy 148 = .ok (.iconst 0, 1) := by decide +kernel
theorem dX3_takenBy_149 : decode cX3_takenBy 149 = .ok (.ireturn, 1) := by decide +kernel
theorem dX3_takenBy_150 : decode cX3_takenBy 150 = .ok (.iconst 2, 1) := by decide +kernel
theorem dX3_takenBy_151 : decode cX3_takenBy 151 = .ok (.ireturn, 1) := by decide +kernel
theorem dX3_takenBy_152 : decode cX3_takenBy 152 = .ok (.iload_n 1, 1) := by decide +kernel
theorem dX3_takenBy_153 : decode cX3_takenBy 153 = .ok (.iconst 1, 1) := by decide +kernel
theorem dX3_takenBy_154 : decode cX3_takenBy 154 = .ok (.iadd, 1) := by decide +kernel
theorem dX3_takenBy_155 : decode cX3_takenBy 155 = .ok (.ireturn, 1) := by decide +kernel
theorem dX3_takenBy_156 : decode cX3_takenBy 156 = .ok (.iconst 1, 1) := by decide +kernel
theorem dX3_takenBy_157 : decode cX3_takenBy 157 = .ok (.ireturn, 1) := by decide +kernel
theorem dX3_putBy_0 : decode cX3_putBy 0 = .ok (.iload_n 0, 1) := by decide +kernel
theorem dX3_putBy_1 : decode cX3_putBy 1 = .ok (.lookupswitch 87 #[(70, 83), (71, 83), (84, 83), (100, 85), (106, 83), (112, 83), (114, 83), (119, 83), (121, 83)], 83) := by decide +kernel
theorem dX3_putBy_84 : decode cX3_putBy 84 = .ok (.iconst 0, 1) := by decide +kernel
theorem dX3_putBy_85 : decode cX3_putBy 85 = .ok (.ireturn, 1) := by decide +kernel
theorem dX3_putBy_86 : decode cX3_putBy 86 = .ok (.iconst 2, 1) := by decide +kernel
theorem dX3_putBy_87 : decode cX3_putBy 87 = .ok (.ireturn, 1) := by decide +kernel
theorem dX3_putBy_88 : decode cX3_putBy 88 = .ok (.iconst 1, 1) := by decide +kernel
theorem dX3_putBy_89 : decode cX3_putBy 89 = .ok (.ireturn, 1) := by decide +kernel
theorem dX1_cls_0 : decode cX1_cls 0 = .ok (.aload_n 0, 1) := by decide +kernel
theorem dX1_cls_1 : decode cX1_cls 1 = .ok (.getfield 21, 3) := by decide +kernel
theorem dX1_cls_4 : decode cX1_cls 4 = .ok (.ifnonnull 7, 3) := by decide +kernel
theorem dX1_cls_7 : decode cX1_cls 7 = .ok (.iconst 0, 1) := by decide +kernel
theorem dX1_cls_8 : decode cX1_cls 8 = .ok (.goto 10, 3) := by decide +kernel
theorem dX1_cls_11 : decode cX1_cls 11 = .ok (.aload_n 0, 1) := by decide +kernel
theorem dX1_cls_12 : decode cX1_cls 12 = .ok (.getfield 21, 3) := by decide +kernel
theorem dX1_cls_15 : decode cX1_cls 15 = .ok (.getfield 44, 3) := by decide +kernel
theorem dX1_cls_18 : decode cX1_cls 18 = .ok (.ireturn, 1) := by decide +kernel
theorem dX1_selector_0 : decode cX1_selector 0 = .ok (.aload_n 0, 1) := by decide +kernel
theorem dX1_selector_1 : decode cX1_selector 1 = .ok (.getfield 21, 3) := by decide +kernel
theorem dX1_selector_4 : decode cX1_selector 4 = .ok (.ifnonnull 7, 3) := by decide +kernel
theorem dX1_selector_7 : decode cX1_selector 7 = .ok (.iconst 0, 1) := by decide +kernel
theorem dX1_selector_8 : decode cX1_selector 8 = .ok (.goto 10, 3) := by decide +kernel
theorem dX1_selector_11 : decode cX1_selector 11 = .ok (.aload_n 0, 1) := by decide +kernel
theorem dX1_selector_12 : decode cX1_selector 12 = .ok (.getfield 21, 3) := by decide +kernel
theorem dX1_selector_15 : decode cX1_selector 15 = .ok (.getfield 49, 3) := by decide +kernel
theorem dX1_selector_18 : decode cX1_selector 18 = .ok (.ireturn, 1) := by decide +kernel
theorem dX1_letter_0 : decode cX1_letter 0 = .ok (.aload_n 0, 1) := by decide +kernel
theorem dX1_letter_1 : decode cX1_letter 1 = .ok (.getfield 21, 3) := by decide +kernel
theorem dX1_letter_4 : decode cX1_letter 4 = .ok (.ifnonnull 8, 3) := by decide +kernel
theorem dX1_letter_7 : decode cX1_letter 7 = .ok (.bipush 114, 2) := by decide +kernel
theorem dX1_letter_9 : decode cX1_letter 9 = .ok (.goto 17, 3) := by decide +kernel
theorem dX1_letter_12 : decode cX1_letter 12 = .ok (.aload_n 0, 1) := by decide +kernel
theorem dX1_letter_13 : decode cX1_letter 13 = .ok (.getfield 21, 3) := by decide +kernel
theorem dX1_letter_16 : decode cX1_letter 16 = .ok (.getfield 52, 3) := by decide +kernel
theorem dX1_letter_19 : decode cX1_letter 19 = .ok (.aload_n 0, 1) := by decide +kernel
theorem dX1_letter_20 : decode cX1_letter 20 = .ok (.getfield 31, 3) := by decide +kernel
theorem dX1_letter_23 : decode cX1_letter 23 = .ok (.invokevirtual 56, 3) := by decide +kernel
theorem dX1_letter_26 : decode cX1_letter 26 = .ok (.ireturn, 1) := by decide +kernel
theorem dX1_first_0 : decode cX1_first 0 = .ok (.aload_n 0, 1) := by decide +kernel
theorem dX1_first_1 : decode cX1_first 1 = .ok (.getfield 21, 3) := by decide +kernel
theorem dX1_first_4 : decode cX1_first 4 = .ok (.ifnonnull 7, 3) := by decide +kernel
theorem dX1_first_7 : decode cX1_first 7 = .ok (.iconst 0, 1) := by decide +kernel
theorem dX1_first_8 : decode cX1_first 8 = .ok (.goto 17, 3) := by decide +kernel
theorem dX1_first_11 : decode cX1_first 11 = .ok (.aload_n 0, 1) := by decide +kernel
theorem dX1_first_12 : decode cX1_first 12 = .ok (.getfield 21, 3) := by decide +kernel
theorem dX1_first_15 : decode cX1_first 15 = .ok (.getfield 52, 3) := by decide +kernel
theorem dX1_first_18 : decode cX1_first 18 = .ok (.aload_n 0, 1) := by decide +kernel
theorem dX1_first_19 : decode cX1_first 19 = .ok (.getfield 31, 3) := by decide +kernel
theorem dX1_first_22 : decode cX1_first 22 = .ok (.invokevirtual 62, 3) := by decide +kernel
theorem dX1_first_25 : decode cX1_first 25 = .ok (.ireturn, 1) := by decide +kernel
theorem dX1_second_0 : decode cX1_second 0 = .ok (.aload_n 0, 1) := by decide +kernel
theorem dX1_second_1 : decode cX1_second 1 = .ok (.getfield 21, 3) := by decide +kernel
theorem dX1_second_4 : decode cX1_second 4 = .ok (.ifnonnull 7, 3) := by decide +kernel
theorem dX1_second_7 : decode cX1_second 7 = .ok (.iconst 0, 1) := by decide +kernel
theorem dX1_second_8 : decode cX1_second 8 = .ok (.goto 17, 3) := by decide +kernel
theorem dX1_second_11 : decode cX1_second 11 = .ok (.aload_n 0, 1) := by decide +kernel
theorem dX1_second_12 : decode cX1_second 12 = .ok (.getfield 21, 3) := by decide +kernel
theorem dX1_second_15 : decode cX1_second 15 = .ok (.getfield 52, 3) := by decide +kernel
theorem dX1_second_18 : decode cX1_second 18 = .ok (.aload_n 0, 1) := by decide +kernel
theorem dX1_second_19 : decode cX1_second 19 = .ok (.getfield 31, 3) := by decide +kernel
theorem dX1_second_22 : decode cX1_second 22 = .ok (.invokevirtual 66, 3) := by decide +kernel
theorem dX1_second_25 : decode cX1_second 25 = .ok (.ireturn, 1) := by decide +kernel
theorem dX1_depthAsTold_0 : decode cX1_depthAsTold 0 = .ok (.aload_n 0, 1) := by decide +kernel
theorem dX1_depthAsTold_1 : decode cX1_depthAsTold 1 = .ok (.getfield 21, 3) := by decide +kernel
theorem dX1_depthAsTold_4 : decode cX1_depthAsTold 4 = .ok (.ifnonnull 7, 3) := by decide +kernel
theorem dX1_depthAsTold_7 : decode cX1_depthAsTold 7 = .ok (.iconst 0, 1) := by decide +kernel
theorem dX1_depthAsTold_8 : decode cX1_depthAsTold 8 = .ok (.goto 17, 3) := by decide +kernel
theorem dX1_depthAsTold_11 : decode cX1_depthAsTold 11 = .ok (.aload_n 0, 1) := by decide +kernel
theorem dX1_depthAsTold_12 : decode cX1_depthAsTold 12 = .ok (.getfield 21, 3) := by decide +kernel
theorem dX1_depthAsTold_15 : decode cX1_depthAsTold 15 = .ok (.getfield 52, 3) := by decide +kernel
theorem dX1_depthAsTold_18 : decode cX1_depthAsTold 18 = .ok (.aload_n 0, 1) := by decide +kernel
theorem dX1_depthAsTold_19 : decode cX1_depthAsTold 19 = .ok (.getfield 31, 3) := by decide +kernel
theorem dX1_depthAsTold_22 : decode cX1_depthAsTold 22 = .ok (.invokevirtual 69, 3) := by decide +kernel
theorem dX1_depthAsTold_25 : decode cX1_depthAsTold 25 = .ok (.ireturn, 1) := by decide +kernel
theorem dX1_push_0 : decode cX1_push 0 = .ok (.aload_n 0, 1) := by decide +kernel
theorem dX1_push_1 : decode cX1_push 1 = .ok (.getfield 35, 3) := by decide +kernel
theorem dX1_push_4 : decode cX1_push 4 = .ok (.aload_n 0, 1) := by decide +kernel
theorem dX1_push_5 : decode cX1_push 5 = .ok (.getfield 18, 3) := by decide +kernel
theorem dX1_push_8 : decode cX1_push 8 = .ok (.arraylength, 1) := by decide +kernel
theorem dX1_push_9 : decode cX1_push 9 = .ok (.invokestatic 72, 3) := by decide +kernel
theorem dX1_push_12 : decode cX1_push 12 = .ok (.ifCond .eq 23, 3) := by decide +kernel
theorem dX1_push_15 : decode cX1_push 15 = .ok (.aload_n 0, 1) := by decide +kernel
theorem dX1_push_16 : decode cX1_push 16 = .ok (.getfield 18, 3) := by decide +kernel
theorem dX1_push_19 : decode cX1_push 19 = .ok (.aload_n 0, 1) := by decide +kernel
theorem dX1_push_20 : decode cX1_push 20 = .ok (.getfield 35, 3) := by decide +kernel
theorem dX1_push_23 : decode cX1_push 23 = .ok (.lload_n 1, 1) := by decide +kernel
theorem dX1_push_24 : decode cX1_push 24 = .ok (.lastore, 1) := by decide +kernel
theorem dX1_push_25 : decode cX1_push 25 = .ok (.aload_n 0, 1) := by decide +kernel
theorem dX1_push_26 : decode cX1_push 26 = .ok (.dup, 1) := by decide +kernel
theorem dX1_push_27 : decode cX1_push 27 = .ok (.getfield 35, 3) := by decide +kernel
theorem dX1_push_30 : decode cX1_push 30 = .ok (.iconst 1, 1) := by decide +kernel
theorem dX1_push_31 : decode cX1_push 31 = .ok (.iadd, 1) := by decide +kernel
theorem dX1_push_32 : decode cX1_push 32 = .ok (.putfield 35, 3) := by decide +kernel
theorem dX1_push_35 : decode cX1_push 35 = .ok (.return_, 1) := by decide +kernel
theorem dX1_pop_0 : decode cX1_pop 0 = .ok (.aload_n 0, 1) := by decide +kernel
theorem dX1_pop_1 : decode cX1_pop 1 = .ok (.getfield 35, 3) := by decide +kernel
theorem dX1_pop_4 : decode cX1_pop 4 = .ok (.iconst 1, 1) := by decide +kernel
theorem dX1_pop_5 : decode cX1_pop 5 = .ok (.if_icmp .ge 7, 3) := by decide +kernel
theorem dX1_pop_8 : decode cX1_pop 8 = .ok (.ldc2_w 25, 3) := by decide +kernel
theorem dX1_pop_11 : decode cX1_pop 11 = .ok (.lreturn, 1) := by decide +kernel
theorem dX1_pop_12 : decode cX1_pop 12 = .ok (.aload_n 0, 1) := by decide +kernel
theorem dX1_pop_13 : decode cX1_pop 13 = .ok (.dup, 1) := by decide +kernel
theorem dX1_pop_14 : decode cX1_pop 14 = .ok (.getfield 35, 3) := by decide +kernel
theorem dX1_pop_17 : decode cX1_pop 17 = .ok (.iconst 1, 1) := by decide +kernel
theorem dX1_pop_18 : decode cX1_pop 18 = .ok (.isub, 1) := by decide +kernel
theorem dX1_pop_19 : decode cX1_pop 19 = .ok (.putfield 35, 3) := by decide +kernel
theorem dX1_pop_22 : decode cX1_pop 22 = .ok (.aload_n 0, 1) := by decide +kernel
theorem dX1_pop_23 : decode cX1_pop 23 = .ok (.getfield 18, 3) := by decide +kernel
theorem dX1_pop_26 : decode cX1_pop 26 = .ok (.aload_n 0, 1) := by decide +kernel
theorem dX1_pop_27 : decode cX1_pop 27 = .ok (.getfield 35, 3) := by decide +kernel
theorem dX1_pop_30 : decode cX1_pop 30 = .ok (.invokestatic 76, 3) := by decide +kernel
theorem dX1_pop_33 : decode cX1_pop 33 = .ok (.lreturn, 1) := by decide +kernel
theorem dX1_fromTop_0 : decode cX1_fromTop 0 = .ok (.aload_n 0, 1) := by decide +kernel
theorem dX1_fromTop_1 : decode cX1_fromTop 1 = .ok (.getfield 18, 3) := by decide +kernel
theorem dX1_fromTop_4 : decode cX1_fromTop 4 = .ok (.aload_n 0, 1) := by decide +kernel
theorem dX1_fromTop_5 : decode cX1_fromTop 5 = .ok (.getfield 35, 3) := by decide +kernel
theorem dX1_fromTop_8 : decode cX1_fromTop 8 = .ok (.iconst 1, 1) := by decide +kernel
theorem dX1_fromTop_9 : decode cX1_fromTop 9 = .ok (.isub, 1) := by decide +kernel
theorem dX1_fromTop_10 : decode cX1_fromTop 10 = .ok (.iload_n 1, 1) := by decide +kernel
theorem dX1_fromTop_11 : decode cX1_fromTop 11 = .ok (.isub, 1) := by decide +kernel
theorem dX1_fromTop_12 : decode cX1_fromTop 12 = .ok (.invokestatic 76, 3) := by decide +kernel
theorem dX1_fromTop_15 : decode cX1_fromTop 15 = .ok (.lreturn, 1) := by decide +kernel
theorem dX1_placesOf_0 : decode cX1_placesOf 0 = .ok (.iload_n 1, 1) := by decide +kernel
theorem dX1_placesOf_1 : decode cX1_placesOf 1 = .ok (.lookupswitch 65 #[(97, 27), (116, 46)], 27) := by decide +kernel
theorem dX1_placesOf_28 : decode cX1_placesOf 28 = .ok (.aload_n 0, 1) := by decide +kernel
theorem dX1_placesOf_29 : decode cX1_placesOf 29 = .ok (.getfield 21, 3) := by decide +kernel
theorem dX1_placesOf_32 : decode cX1_placesOf 32 = .ok (.ifnonnull 7, 3) := by decide +kernel
theorem dX1_placesOf_35 : decode cX1_placesOf 35 = .ok (.iconst 0, 1) := by decide +kernel
theorem dX1_placesOf_36 : decode cX1_placesOf 36 = .ok (.goto 10, 3) := by decide +kernel
theorem dX1_placesOf_39 : decode cX1_placesOf 39 = .ok (.aload_n 0, 1) := by decide +kernel
theorem dX1_placesOf_40 : decode cX1_placesOf 40 = .ok (.getfield 21, 3) := by decide +kernel
theorem dX1_placesOf_43 : decode cX1_placesOf 43 = .ok (.getfield 80, 3) := by decide +kernel
theorem dX1_placesOf_46 : decode cX1_placesOf 46 = .ok (.ireturn, 1) := by decide +kernel
theorem dX1_placesOf_47 : decode cX1_placesOf 47 = .ok (.aload_n 0, 1) := by decide +kernel
theorem dX1_placesOf_48 : decode cX1_placesOf 48 = .ok (.getfield 21, 3) := by decide +kernel
theorem dX1_placesOf_51 : decode cX1_placesOf 51 = .ok (.ifnonnull 7, 3) := by decide +kernel
theorem dX1_placesOf_54 : decode cX1_placesOf 54 = .ok (.iconst 0, 1) := by decide +kernel
theorem dX1_placesOf_55 : decode cX1_placesOf 55 = .ok (.goto 10, 3) := by decide +kernel
theorem dX1_placesOf_58 : decode cX1_placesOf 58 = .ok (.aload_n 0, 1) := by decide +kernel
theorem dX1_placesOf_59 : decode cX1_placesOf 59 = .ok (.getfield 21, 3) := by decide +kernel
theorem dX1_placesOf_62 : decode cX1_placesOf 62 = .ok (.getfield 82, 3) := by decide +kernel
theorem dX1_placesOf_65 : decode cX1_placesOf 65 = .ok (.ireturn, 1) := by decide +kernel
theorem dX1_placesOf_66 : decode cX1_placesOf 66 = .ok (.aload_n 0, 1) := by decide +kernel
theorem dX1_placesOf_67 : decode cX1_placesOf 67 = .ok (.getfield 35, 3) := by decide +kernel
theorem dX1_placesOf_70 : decode cX1_placesOf 70 = .ok (.ireturn, 1) := by decide +kernel
theorem dX1_placeOf_0 : decode cX1_placeOf 0 = .ok (.iload_n 1, 1) := by decide +kernel
theorem dX1_placeOf_1 : decode cX1_placeOf 1 = .ok (.lookupswitch 45 #[(97, 27), (116, 36)], 27) := by decide +kernel
theorem dX1_placeOf_28 : decode cX1_placeOf 28 = .ok (.aload_n 0, 1) := by decide +kernel
theorem dX1_placeOf_29 : decode cX1_placeOf 29 = .ok (.getfield 9, 3) := by decide +kernel
theorem dX1_placeOf_32 : decode cX1_placeOf 32 = .ok (.iload_n 2, 1) := by decide +kernel
theorem dX1_placeOf_33 : decode cX1_placeOf 33 = .ok (.invokestatic 76, 3) := by decide +kernel
theorem dX1_placeOf_36 : decode cX1_placeOf 36 = .ok (.lreturn, 1) := by decide +kernel
theorem dX1_placeOf_37 : decode cX1_placeOf 37 = .ok (.aload_n 0, 1) := by decide +kernel
theorem dX1_placeOf_38 : decode cX1_placeOf 38 = .ok (.getfield 15, 3) := by decide +kernel
theorem dX1_placeOf_41 : decode cX1_placeOf 41 = .ok (.iload_n 2, 1) := by decide +kernel
theorem dX1_placeOf_42 : decode cX1_placeOf 42 = .ok (.invokestatic 76, 3) := by decide +kernel
theorem dX1_placeOf_45 : decode cX1_placeOf 45 = .ok (.lreturn, 1) := by decide +kernel
theorem dX1_placeOf_46 : decode cX1_placeOf 46 = .ok (.aload_n 0, 1) := by decide +kernel
theorem dX1_placeOf_47 : decode cX1_placeOf 47 = .ok (.getfield 18, 3) := by decide +kernel
theorem dX1_placeOf_50 : decode cX1_placeOf 50 = .ok (.iload_n 2, 1) := by decide +kernel
theorem dX1_placeOf_51 : decode cX1_placeOf 51 = .ok (.invokestatic 76, 3) := by decide +kernel
theorem dX1_placeOf_54 : decode cX1_placeOf 54 = .ok (.lreturn, 1) := by decide +kernel
theorem dX1_places_0 : decode cX1_places 0 = .ok (.iconst 1, 1) := by decide +kernel
theorem dX1_places_1 : decode cX1_places 1 = .ok (.aload_n 0, 1) := by decide +kernel
theorem dX1_places_2 : decode cX1_places 2 = .ok (.bipush 97, 2) := by decide +kernel
theorem dX1_places_4 : decode cX1_places 4 = .ok (.invokevirtual 84, 3) := by decide +kernel
theorem dX1_places_7 : decode cX1_places 7 = .ok (.iadd, 1) := by decide +kernel
theorem dX1_places_8 : decode cX1_places 8 = .ok (.aload_n 0, 1) := by decide +kernel
theorem dX1_places_9 : decode cX1_places 9 = .ok (.bipush 116, 2) := by decide +kernel
theorem dX1_places_11 : decode cX1_places 11 = .ok (.invokevirtual 84, 3) := by decide +kernel
theorem dX1_places_14 : decode cX1_places 14 = .ok (.iadd, 1) := by decide +kernel
theorem dX1_places_15 : decode cX1_places 15 = .ok (.aload_n 0, 1) := by decide +kernel
theorem dX1_places_16 : decode cX1_places 16 = .ok (.getfield 35, 3) := by decide +kernel
theorem dX1_places_19 : decode cX1_places 19 = .ok (.iadd, 1) := by decide +kernel
theorem dX1_places_20 : decode cX1_places 20 = .ok (.ireturn, 1) := by decide +kernel
theorem dX1_place_0 : decode cX1_place 0 = .ok (.iload_n 1, 1) := by decide +kernel
theorem dX1_place_1 : decode cX1_place 1 = .ok (.iconst 1, 1) := by decide +kernel
theorem dX1_place_2 : decode cX1_place 2 = .ok (.isub, 1) := by decide +kernel
theorem dX1_place_3 : decode cX1_place 3 = .ok (.istore_n 2, 1) := by decide +kernel
theorem dX1_place_4 : decode cX1_place 4 = .ok (.iload_n 2, 1) := by decide +kernel
theorem dX1_place_5 : decode cX1_place 5 = .ok (.aload_n 0, 1) := by decide +kernel
theorem dX1_place_6 : decode cX1_place 6 = .ok (.bipush 97, 2) := by decide +kernel
theorem dX1_place_8 : decode cX1_place 8 = .ok (.invokevirtual 84, 3) := by decide +kernel
theorem dX1_place_11 : decode cX1_place 11 = .ok (.isub, 1) := by decide +kernel
theorem dX1_place_12 : decode cX1_place 12 = .ok (.istore_n 3, 1) := by decide +kernel
theorem dX1_place_13 : decode cX1_place 13 = .ok (.iload_n 1, 1) := by decide +kernel
theorem dX1_place_14 : decode cX1_place 14 = .ok (.ifCond .ne 8, 3) := by decide +kernel
theorem dX1_place_17 : decode cX1_place 17 = .ok (.aload_n 0, 1) := by decide +kernel
theorem dX1_place_18 : decode cX1_place 18 = .ok (.getfield 27, 3) := by decide +kernel
theorem dX1_place_21 : decode cX1_place 21 = .ok (.lreturn, 1) := by decide +kernel
theorem dX1_place_22 : decode cX1_place 22 = .ok (.iload_n 3, 1) := by decide +kernel
theorem dX1_place_23 : decode cX1_place 23 = .ok (.ifCond .ge 11, 3) := by decide +kernel
theorem dX1_place_26 : decode cX1_place 26 = .ok (.aload_n 0, 1) := by decide +kernel
theorem dX1_place_27 : decode cX1_place 27 = .ok (.bipush 97, 2) := by decide +kernel
theorem dX1_place_29 : decode cX1_place 29 = .ok (.iload_n 2, 1) := by decide +kernel
theorem dX1_place_30 : decode cX1_place 30 = .ok (.invokevirtual 88, 3) := by decide +kernel
theorem dX1_place_33 : decode cX1_place 33 = .ok (.lreturn, 1) := by decide +kernel
theorem dX1_place_34 : decode cX1_place 34 = .ok (.iload_n 3, 1) := by decide +kernel
theorem dX1_place_35 : decode cX1_place 35 = .ok (.aload_n 0, 1) := by decide +kernel
theorem dX1_place_36 : decode cX1_place 36 = .ok (.bipush 116, 2) := by decide +kernel
theorem dX1_place_38 : decode cX1_place 38 = .ok (.invokevirtual 84, 3) := by decide +kernel
theorem dX1_place_41 : decode cX1_place 41 = .ok (.if_icmp .ge 11, 3) := by decide +kernel
theorem dX1_place_44 : decode cX1_place 44 = .ok (.aload_n 0, 1) := by decide +kernel
theorem dX1_place_45 : decode cX1_place 45 = .ok (.bipush 116, 2) := by decide +kernel
theorem dX1_place_47 : decode cX1_place 47 = .ok (.iload_n 3, 1) := by decide +kernel
theorem dX1_place_48 : decode cX1_place 48 = .ok (.invokevirtual 88, 3) := by decide +kernel
theorem dX1_place_51 : decode cX1_place 51 = .ok (.lreturn, 1) := by decide +kernel
theorem dX1_place_52 : decode cX1_place 52 = .ok (.aload_n 0, 1) := by decide +kernel
theorem dX1_place_53 : decode cX1_place 53 = .ok (.bipush 112, 2) := by decide +kernel
theorem dX1_place_55 : decode cX1_place 55 = .ok (.iload_n 3, 1) := by decide +kernel
theorem dX1_place_56 : decode cX1_place 56 = .ok (.aload_n 0, 1) := by decide +kernel
theorem dX1_place_57 : decode cX1_place 57 = .ok (.bipush 116, 2) := by decide +kernel
theorem dX1_place_59 : decode cX1_place 59 = .ok (.invokevirtual 84, 3) := by decide +kernel
theorem dX1_place_62 : decode cX1_place 62 = .ok (.isub, 1) := by decide +kernel
theorem dX1_place_63 : decode cX1_place 63 = .ok (.invokevirtual 88, 3) := by decide +kernel
theorem dX1_place_66 : decode cX1_place 66 = .ok (.lreturn, 1) := by decide +kernel
theorem dX1_open_0 : decode cX1_open 0 = .ok (.aload_n 0, 1) := by decide +kernel
theorem dX1_open_1 : decode cX1_open 1 = .ok (.aload_n 1, 1) := by decide +kernel
theorem dX1_open_2 : decode cX1_open 2 = .ok (.putfield 21, 3) := by decide +kernel
theorem dX1_open_5 : decode cX1_open 5 = .ok (.aload_n 0, 1) := by decide +kernel
theorem dX1_open_6 : decode cX1_open 6 = .ok (.lload_n 2, 1) := by decide +kernel
theorem dX1_open_7 : decode cX1_open 7 = .ok (.putfield 27, 3) := by decide +kernel
theorem dX1_open_10 : decode cX1_open 10 = .ok (.aload_n 0, 1) := by decide +kernel
theorem dX1_open_11 : decode cX1_open 11 = .ok (.iconst 0, 1) := by decide +kernel
theorem dX1_open_12 : decode cX1_open 12 = .ok (.putfield 31, 3) := by decide +kernel
theorem dX1_open_15 : decode cX1_open 15 = .ok (.aload_n 0, 1) := by decide +kernel
theorem dX1_open_16 : decode cX1_open 16 = .ok (.iconst 0, 1) := by decide +kernel
theorem dX1_open_17 : decode cX1_open 17 = .ok (.putfield 35, 3) := by decide +kernel
theorem dX1_open_20 : decode cX1_open 20 = .ok (.aload_n 0, 1) := by decide +kernel
theorem dX1_open_21 : decode cX1_open 21 = .ok (.getfield 15, 3) := by decide +kernel
theorem dX1_open_24 : decode cX1_open 24 = .ok (.ldc2_w 25, 3) := by decide +kernel
theorem dX1_open_27 : decode cX1_open 27 = .ok (.invokestatic 38, 3) := by decide +kernel
theorem dX1_open_30 : decode cX1_open 30 = .ok (.return_, 1) := by decide +kernel
section SITES
variable {p : Program} {l : Launch} {e : Env} {R : Room} {s : State} {m : MethodId} {args : Array Value} {below : List Frame} {meth : Method} {c : Code} {H : Heap} {locs : List Loc} {cells slots : Nat} {Q : State → Prop}
variable {pc : Nat} {ls : Array Slot} {rest : List Value} {D : va_G} {ar : Nat → ClassId} {κ : Nat → Nat} {A : Nat → Prop} {a : Nat} {H0 : Heap} {G : gW} {nz nL : Nat} {cc : ByteArray}
theorem gf_RX3_22_9 {A9 : Nat → Prop} {H9 : Heap} {fs : List Value} {v : Value} (S : CallFix p m c cc nL s args lwA RX3) (hE : g_E D vwCl (gT ar) (EX1 κ) A9 s H9) (w : g_S D vwCl A H0 G H locs nz) (ha : G a = some (.inr (9, fs))) (hv : fs[3]? = some v) (hdg : decode cc pc = .ok (.getfield 22, 3)) (kk : W p l e R s m args below meth c H locs cells slots Q (F0 m (pc + 3) ls (v :: rest))) : W p l e R s m args below meth c H locs cells slots Q (F0 m pc ls (.ref a :: rest)) :=
  va_get (ci := 9) (C := RX3) (T := TX3) (N := 7) S.1 S.2.1 S.2.2.2.2 inA_RX3 S.2.2.2.1 hE.1 (g_1 w.1 ha) 0 rfl rfl 3 (by decide) (S.2.2.2.2 _ m_1_77) (fun _ h => h) hv hdg kk
theorem gf_RX3_25_9 {A9 : Nat → Prop} {H9 : Heap} {fs : List Value} {v : Value} (S : CallFix p m c cc nL s args lwA RX3) (hE : g_E D vwCl (gT ar) (EX1 κ) A9 s H9) (w : g_S D vwCl A H0 G H locs nz) (ha : G a = some (.inr (9, fs))) (hv : fs[4]? = some v) (hdg : decode cc pc = .ok (.getfield 25, 3)) (kk : W p l e R s m args below meth c H locs cells slots Q (F0 m (pc + 3) ls (v :: rest))) : W p l e R s m args below meth c H locs cells slots Q (F0 m pc ls (.ref a :: rest)) :=
  va_get (ci := 9) (C := RX3) (T := TX3) (N := 7) S.1 S.2.1 S.2.2.2.2 inA_RX3 S.2.2.2.1 hE.1 (g_1 w.1 ha) 0 rfl rfl 4 (by decide) (S.2.2.2.2 _ m_1_78) (fun _ h => h) hv hdg kk
theorem gf_RX1_21_7 {A9 : Nat → Prop} {H9 : Heap} {fs : List Value} {v : Value} (S : CallFix p m c cc nL s args lwA RX1) (hE : g_E D vwCl (gT ar) (EX1 κ) A9 s H9) (w : g_S D vwCl A H0 G H locs nz) (ha : G a = some (.inr (7, fs))) (hv : fs[3]? = some v) (hdg : decode cc pc = .ok (.getfield 21, 3)) (kk : W p l e R s m args below meth c H locs cells slots Q (F0 m (pc + 3) ls (v :: rest))) : W p l e R s m args below meth c H locs cells slots Q (F0 m pc ls (.ref a :: rest)) :=
  va_get (ci := 7) (C := RX1) (T := TX1) (N := 7) S.1 S.2.1 S.2.2.2.2 inA_RX1 S.2.2.2.1 hE.1 (g_1 w.1 ha) 0 rfl rfl 3 (by decide) (S.2.2.2.2 _ m_1_223) (fun _ h => h) hv hdg kk
theorem inA_RX6 : ∀ w ∈ u_ws RX6 TX6 7, w ∈ lwA := gA_r _ [1470, 1472, 1474, 1476, 1478, 1480, 1482] (by decide +kernel) (by decide +kernel)
theorem gf_RX1_44_12 {A9 : Nat → Prop} {H9 : Heap} {fs : List Value} {v : Value} (S : CallFix p m c cc nL s args lwA RX1) (hE : g_E D vwCl (gT ar) (EX1 κ) A9 s H9) (w : g_S D vwCl A H0 G H locs nz) (ha : G a = some (.inr (12, fs))) (hv : fs[0]? = some v) (hdg : decode cc pc = .ok (.getfield 44, 3)) (kk : W p l e R s m args below meth c H locs cells slots Q (F0 m (pc + 3) ls (v :: rest))) : W p l e R s m args below meth c H locs cells slots Q (F0 m pc ls (.ref a :: rest)) :=
  va_getN (ci := 12) (C := RX6) (T := TX6) (N := 7) S.1 S.2.1 S.2.2.2.2 inA_RX6 S.2.2.2.1 hE.1 (g_1 w.1 ha) 0 rfl rfl 0 (by decide) (va_Nw.use rfl (hE.2.1.1 _ (ckN_1 _ (List.mem_of_getElem? (i := 27) rfl)))) (fun _ h => h) hv hdg kk
theorem gf_RX1_49_12 {A9 : Nat → Prop} {H9 : Heap} {fs : List Value} {v : Value} (S : CallFix p m c cc nL s args lwA RX1) (hE : g_E D vwCl (gT ar) (EX1 κ) A9 s H9) (w : g_S D vwCl A H0 G H locs nz) (ha : G a = some (.inr (12, fs))) (hv : fs[1]? = some v) (hdg : decode cc pc = .ok (.getfield 49, 3)) (kk : W p l e R s m args below meth c H locs cells slots Q (F0 m (pc + 3) ls (v :: rest))) : W p l e R s m args below meth c H locs cells slots Q (F0 m pc ls (.ref a :: rest)) :=
  va_getN (ci := 12) (C := RX6) (T := TX6) (N := 7) S.1 S.2.1 S.2.2.2.2 inA_RX6 S.2.2.2.1 hE.1 (g_1 w.1 ha) 0 rfl rfl 1 (by decide) (va_Nw.use rfl (hE.2.1.1 _ (ckN_1 _ (List.mem_of_getElem? (i := 29) rfl)))) (fun _ h => h) hv hdg kk
theorem gf_RX1_52_12 {A9 : Nat → Prop} {H9 : Heap} {fs : List Value} {v : Value} (S : CallFix p m c cc nL s args lwA RX1) (hE : g_E D vwCl (gT ar) (EX1 κ) A9 s H9) (w : g_S D vwCl A H0 G H locs nz) (ha : G a = some (.inr (12, fs))) (hv : fs[4]? = some v) (hdg : decode cc pc = .ok (.getfield 52, 3)) (kk : W p l e R s m args below meth c H locs cells slots Q (F0 m (pc + 3) ls (v :: rest))) : W p l e R s m args below meth c H locs cells slots Q (F0 m pc ls (.ref a :: rest)) :=
  va_getN (ci := 12) (C := RX6) (T := TX6) (N := 7) S.1 S.2.1 S.2.2.2.2 inA_RX6 S.2.2.2.1 hE.1 (g_1 w.1 ha) 0 rfl rfl 4 (by decide) (va_Nw.use rfl (hE.2.1.1 _ (ckN_1 _ (List.mem_of_getElem? (i := 33) rfl)))) (fun _ h => h) hv hdg kk
theorem gf_RX1_31_7 {A9 : Nat → Prop} {H9 : Heap} {fs : List Value} {v : Value} (S : CallFix p m c cc nL s args lwA RX1) (hE : g_E D vwCl (gT ar) (EX1 κ) A9 s H9) (w : g_S D vwCl A H0 G H locs nz) (ha : G a = some (.inr (7, fs))) (hv : fs[5]? = some v) (hdg : decode cc pc = .ok (.getfield 31, 3)) (kk : W p l e R s m args below meth c H locs cells slots Q (F0 m (pc + 3) ls (v :: rest))) : W p l e R s m args below meth c H locs cells slots Q (F0 m pc ls (.ref a :: rest)) :=
  va_get (ci := 7) (C := RX1) (T := TX1) (N := 7) S.1 S.2.1 S.2.2.2.2 inA_RX1 S.2.2.2.1 hE.1 (g_1 w.1 ha) 0 rfl rfl 5 (by decide) (S.2.2.2.2 _ m_1_226) (fun _ h => h) hv hdg kk
theorem m_3_149 : (Cond.code yX3_letterAt cX3_letterAt 2 (some .char)) ∈ lwA := lwA_mk (ck_3 _ (List.mem_of_getElem? (i := 149) rfl)) rfl
theorem m_3_146 : (Cond.methodLink RX1 56 yX3_letterAt) ∈ lwA := lwA_mk (ck_3 _ (List.mem_of_getElem? (i := 146) rfl)) rfl
theorem m_3_147 : (Cond.instanceMethod yX3_letterAt) ∈ lwA := lwA_mk (ck_3 _ (List.mem_of_getElem? (i := 147) rfl)) rfl
theorem m_3_148 : (Cond.selects RX3 yX3_letterAt yX3_letterAt) ∈ lwA := lwA_mk (ck_3 _ (List.mem_of_getElem? (i := 148) rfl)) rfl
theorem k_RX1_56 {args : Array Value} {s : State} {R rm : Room} (hts : ∀ w ∈ lwA, w.before args s = true) (hR : rm.frames + 1 ≤ R.frames ∧ 8 + (2 + 11) + rm.locals ≤ R.locals) : CallW R s args RX1 RX3 56 yX3_letterAt cX3_letterAt 2 (some .char) (lwC yX3_letterAt cX3_letterAt 2 (some .char)) rm rm.cells rm.slots 1 := cwV 1 hts (gdV m_3_146 m_3_147 m_3_148 m_1_3 m_3_149) rfl rfl rfl (by decide +kernel) hR
theorem m_3_158 : (Cond.code yX3_firstAt cX3_firstAt 2 (some .int)) ∈ lwA := lwA_mk (ck_3 _ (List.mem_of_getElem? (i := 158) rfl)) rfl
theorem m_3_155 : (Cond.methodLink RX1 62 yX3_firstAt) ∈ lwA := lwA_mk (ck_3 _ (List.mem_of_getElem? (i := 155) rfl)) rfl
theorem m_3_156 : (Cond.instanceMethod yX3_firstAt) ∈ lwA := lwA_mk (ck_3 _ (List.mem_of_getElem? (i := 156) rfl)) rfl
theorem m_3_157 : (Cond.selects RX3 yX3_firstAt yX3_firstAt) ∈ lwA := lwA_mk (ck_3 _ (List.mem_of_getElem? (i := 157) rfl)) rfl
theorem k_RX1_62 {args : Array Value} {s : State} {R rm : Room} (hts : ∀ w ∈ lwA, w.before args s = true) (hR : rm.frames + 1 ≤ R.frames ∧ 8 + (2 + 11) + rm.locals ≤ R.locals) : CallW R s args RX1 RX3 62 yX3_firstAt cX3_firstAt 2 (some .int) (lwC yX3_firstAt cX3_firstAt 2 (some .int)) rm rm.cells rm.slots 1 := cwV 1 hts (gdV m_3_155 m_3_156 m_3_157 m_1_3 m_3_158) rfl rfl rfl (by decide +kernel) hR
theorem m_3_239 : (Cond.code yX3_secondAt cX3_secondAt 2 (some .int)) ∈ lwA := lwA_mk (ck_3 _ (List.mem_of_getElem? (i := 239) rfl)) rfl
theorem m_3_236 : (Cond.methodLink RX1 66 yX3_secondAt) ∈ lwA := lwA_mk (ck_3 _ (List.mem_of_getElem? (i := 236) rfl)) rfl
theorem m_3_237 : (Cond.instanceMethod yX3_secondAt) ∈ lwA := lwA_mk (ck_3 _ (List.mem_of_getElem? (i := 237) rfl)) rfl
theorem m_3_238 : (Cond.selects RX3 yX3_secondAt yX3_secondAt) ∈ lwA := lwA_mk (ck_3 _ (List.mem_of_getElem? (i := 238) rfl)) rfl
theorem k_RX1_66 {args : Array Value} {s : State} {R rm : Room} (hts : ∀ w ∈ lwA, w.before args s = true) (hR : rm.frames + 1 ≤ R.frames ∧ 8 + (2 + 11) + rm.locals ≤ R.locals) : CallW R s args RX1 RX3 66 yX3_secondAt cX3_secondAt 2 (some .int) (lwC yX3_secondAt cX3_secondAt 2 (some .int)) rm rm.cells rm.slots 1 := cwV 1 hts (gdV m_3_236 m_3_237 m_3_238 m_1_3 m_3_239) rfl rfl rfl (by decide +kernel) hR
theorem m_7_48 : (Cond.code yX3_depthAt cX3_depthAt 2 (some .int)) ∈ lwA := lwA_mk (ck_7 _ (List.mem_of_getElem? (i := 48) rfl)) rfl
theorem ck_8 : ∀ w ∈ tables_1_8, w ∈ lw_tbl := fun _ h => List.mem_append_right _ (List.mem_append_right _ (List.mem_append_right _ (List.mem_append_right _ (List.mem_append_right _ (List.mem_append_right _ (List.mem_append_right _ (List.mem_append_right _ (h))))))))
theorem m_8_82 : (Cond.methodLink RX1 69 yX3_depthAt) ∈ lwA := lwA_mk (ck_8 _ (List.mem_of_getElem? (i := 82) rfl)) rfl
theorem m_7_46 : (Cond.instanceMethod yX3_depthAt) ∈ lwA := lwA_mk (ck_7 _ (List.mem_of_getElem? (i := 46) rfl)) rfl
theorem m_7_47 : (Cond.selects RX3 yX3_depthAt yX3_depthAt) ∈ lwA := lwA_mk (ck_7 _ (List.mem_of_getElem? (i := 47) rfl)) rfl
theorem k_RX1_69 {args : Array Value} {s : State} {R rm : Room} (hts : ∀ w ∈ lwA, w.before args s = true) (hR : rm.frames + 1 ≤ R.frames ∧ 8 + (2 + 11) + rm.locals ≤ R.locals) : CallW R s args RX1 RX3 69 yX3_depthAt cX3_depthAt 2 (some .int) (lwC yX3_depthAt cX3_depthAt 2 (some .int)) rm rm.cells rm.slots 1 := cwV 1 hts (gdV m_8_82 m_7_46 m_7_47 m_1_3 m_7_48) rfl rfl rfl (by decide +kernel) hR
theorem gf_RX1_35_7 {A9 : Nat → Prop} {H9 : Heap} {fs : List Value} {v : Value} (S : CallFix p m c cc nL s args lwA RX1) (hE : g_E D vwCl (gT ar) (EX1 κ) A9 s H9) (w : g_S D vwCl A H0 G H locs nz) (ha : G a = some (.inr (7, fs))) (hv : fs[6]? = some v) (hdg : decode cc pc = .ok (.getfield 35, 3)) (kk : W p l e R s m args below meth c H locs cells slots Q (F0 m (pc + 3) ls (v :: rest))) : W p l e R s m args below meth c H locs cells slots Q (F0 m pc ls (.ref a :: rest)) :=
  va_get (ci := 7) (C := RX1) (T := TX1) (N := 7) S.1 S.2.1 S.2.2.2.2 inA_RX1 S.2.2.2.1 hE.1 (g_1 w.1 ha) 0 rfl rfl 6 (by decide) (S.2.2.2.2 _ m_1_228) (fun _ h => h) hv hdg kk
theorem gf_RX1_18_7 {A9 : Nat → Prop} {H9 : Heap} {fs : List Value} {v : Value} (S : CallFix p m c cc nL s args lwA RX1) (hE : g_E D vwCl (gT ar) (EX1 κ) A9 s H9) (w : g_S D vwCl A H0 G H locs nz) (ha : G a = some (.inr (7, fs))) (hv : fs[2]? = some v) (hdg : decode cc pc = .ok (.getfield 18, 3)) (kk : W p l e R s m args below meth c H locs cells slots Q (F0 m (pc + 3) ls (v :: rest))) : W p l e R s m args below meth c H locs cells slots Q (F0 m pc ls (.ref a :: rest)) :=
  va_get (ci := 7) (C := RX1) (T := TX1) (N := 7) S.1 S.2.1 S.2.2.2.2 inA_RX1 S.2.2.2.1 hE.1 (g_1 w.1 ha) 0 rfl rfl 2 (by decide) (S.2.2.2.2 _ m_1_222) (fun _ h => h) hv hdg kk
theorem k_RX1_72 {args : Array Value} {s : State} {R rm : Room} (hts : ∀ w ∈ lwA, w.before args s = true) (hN : va_Nw (.methodLinkNest RX1 72 yX8_isBelow "Sendhouse") s) (hR : rm.frames + 1 ≤ R.frames ∧ 8 + (2 + 11) + rm.locals ≤ R.locals) : va_CN R s args RX1 72 yX8_isBelow "Sendhouse" cX8_isBelow 2 (some .boolean) (lwC yX8_isBelow cX8_isBelow 2 (some .boolean)) rm rm.cells rm.slots 2 ∧ (Cond.static yX8_isBelow).before args s = true ∧ True := ⟨va_cnB 2 hts (gd m_2_157) rfl rfl rfl hN (hts _ m_1_1) (by decide +kernel) hR, hts _ m_2_156, trivial⟩
theorem m_3_20 : (Cond.code yX8_placeAt cX8_placeAt 2 (some .long)) ∈ lwA := lwA_mk (ck_3 _ (List.mem_of_getElem? (i := 20) rfl)) rfl
theorem m_3_19 : (Cond.static yX8_placeAt) ∈ lwA := lwA_mk (ck_3 _ (List.mem_of_getElem? (i := 19) rfl)) rfl
theorem k_RX1_76 {args : Array Value} {s : State} {R rm : Room} (hts : ∀ w ∈ lwA, w.before args s = true) (hN : va_Nw (.methodLinkNest RX1 76 yX8_placeAt "Sendhouse") s) (hR : rm.frames + 1 ≤ R.frames ∧ 8 + (2 + 11) + rm.locals ≤ R.locals) : va_CN R s args RX1 76 yX8_placeAt "Sendhouse" cX8_placeAt 2 (some .long) (lwC yX8_placeAt cX8_placeAt 2 (some .long)) rm rm.cells rm.slots 2 ∧ (Cond.static yX8_placeAt).before args s = true ∧ True := ⟨va_cnB 2 hts (gd m_3_20) rfl rfl rfl hN (hts _ m_1_1) (by decide +kernel) hR, hts _ m_3_19, trivial⟩
theorem gf_RX1_80_12 {A9 : Nat → Prop} {H9 : Heap} {fs : List Value} {v : Value} (S : CallFix p m c cc nL s args lwA RX1) (hE : g_E D vwCl (gT ar) (EX1 κ) A9 s H9) (w : g_S D vwCl A H0 G H locs nz) (ha : G a = some (.inr (12, fs))) (hv : fs[2]? = some v) (hdg : decode cc pc = .ok (.getfield 80, 3)) (kk : W p l e R s m args below meth c H locs cells slots Q (F0 m (pc + 3) ls (v :: rest))) : W p l e R s m args below meth c H locs cells slots Q (F0 m pc ls (.ref a :: rest)) :=
  va_getN (ci := 12) (C := RX6) (T := TX6) (N := 7) S.1 S.2.1 S.2.2.2.2 inA_RX6 S.2.2.2.1 hE.1 (g_1 w.1 ha) 0 rfl rfl 2 (by decide) (va_Nw.use rfl (hE.2.1.1 _ (ckN_1 _ (List.mem_of_getElem? (i := 30) rfl)))) (fun _ h => h) hv hdg kk
theorem gf_RX1_82_12 {A9 : Nat → Prop} {H9 : Heap} {fs : List Value} {v : Value} (S : CallFix p m c cc nL s args lwA RX1) (hE : g_E D vwCl (gT ar) (EX1 κ) A9 s H9) (w : g_S D vwCl A H0 G H locs nz) (ha : G a = some (.inr (12, fs))) (hv : fs[3]? = some v) (hdg : decode cc pc = .ok (.getfield 82, 3)) (kk : W p l e R s m args below meth c H locs cells slots Q (F0 m (pc + 3) ls (v :: rest))) : W p l e R s m args below meth c H locs cells slots Q (F0 m pc ls (.ref a :: rest)) :=
  va_getN (ci := 12) (C := RX6) (T := TX6) (N := 7) S.1 S.2.1 S.2.2.2.2 inA_RX6 S.2.2.2.1 hE.1 (g_1 w.1 ha) 0 rfl rfl 3 (by decide) (va_Nw.use rfl (hE.2.1.1 _ (ckN_1 _ (List.mem_of_getElem? (i := 32) rfl)))) (fun _ h => h) hv hdg kk
theorem gf_RX1_9_7 {A9 : Nat → Prop} {H9 : Heap} {fs : List Value} {v : Value} (S : CallFix p m c cc nL s args lwA RX1) (hE : g_E D vwCl (gT ar) (EX1 κ) A9 s H9) (w : g_S D vwCl A H0 G H locs nz) (ha : G a = some (.inr (7, fs))) (hv : fs[0]? = some v) (hdg : decode cc pc = .ok (.getfield 9, 3)) (kk : W p l e R s m args below meth c H locs cells slots Q (F0 m (pc + 3) ls (v :: rest))) : W p l e R s m args below meth c H locs cells slots Q (F0 m pc ls (.ref a :: rest)) :=
  va_get (ci := 7) (C := RX1) (T := TX1) (N := 7) S.1 S.2.1 S.2.2.2.2 inA_RX1 S.2.2.2.1 hE.1 (g_1 w.1 ha) 0 rfl rfl 0 (by decide) (S.2.2.2.2 _ m_1_218) (fun _ h => h) hv hdg kk
theorem gf_RX1_15_7 {A9 : Nat → Prop} {H9 : Heap} {fs : List Value} {v : Value} (S : CallFix p m c cc nL s args lwA RX1) (hE : g_E D vwCl (gT ar) (EX1 κ) A9 s H9) (w : g_S D vwCl A H0 G H locs nz) (ha : G a = some (.inr (7, fs))) (hv : fs[1]? = some v) (hdg : decode cc pc = .ok (.getfield 15, 3)) (kk : W p l e R s m args below meth c H locs cells slots Q (F0 m (pc + 3) ls (v :: rest))) : W p l e R s m args below meth c H locs cells slots Q (F0 m pc ls (.ref a :: rest)) :=
  va_get (ci := 7) (C := RX1) (T := TX1) (N := 7) S.1 S.2.1 S.2.2.2.2 inA_RX1 S.2.2.2.1 hE.1 (g_1 w.1 ha) 0 rfl rfl 1 (by decide) (S.2.2.2.2 _ m_1_220) (fun _ h => h) hv hdg kk
theorem m_3_9 : (Cond.code yX1_placesOf cX1_placesOf 2 (some .int)) ∈ lwA := lwA_mk (ck_3 _ (List.mem_of_getElem? (i := 9) rfl)) rfl
theorem m_3_6 : (Cond.methodLink RX1 84 yX1_placesOf) ∈ lwA := lwA_mk (ck_3 _ (List.mem_of_getElem? (i := 6) rfl)) rfl
theorem m_3_7 : (Cond.instanceMethod yX1_placesOf) ∈ lwA := lwA_mk (ck_3 _ (List.mem_of_getElem? (i := 7) rfl)) rfl
theorem m_3_8 : (Cond.selects RX1 yX1_placesOf yX1_placesOf) ∈ lwA := lwA_mk (ck_3 _ (List.mem_of_getElem? (i := 8) rfl)) rfl
theorem k_RX1_84 {args : Array Value} {s : State} {R rm : Room} (hts : ∀ w ∈ lwA, w.before args s = true) (hR : rm.frames + 1 ≤ R.frames ∧ 8 + (2 + 11) + rm.locals ≤ R.locals) : CallW R s args RX1 RX1 84 yX1_placesOf cX1_placesOf 2 (some .int) (lwC yX1_placesOf cX1_placesOf 2 (some .int)) rm rm.cells rm.slots 1 := cwV 1 hts (gdV m_3_6 m_3_7 m_3_8 m_1_11 m_3_9) rfl rfl rfl (by decide +kernel) hR
theorem m_3_17 : (Cond.code yX1_placeOf cX1_placeOf 3 (some .long)) ∈ lwA := lwA_mk (ck_3 _ (List.mem_of_getElem? (i := 17) rfl)) rfl
theorem m_3_14 : (Cond.methodLink RX1 88 yX1_placeOf) ∈ lwA := lwA_mk (ck_3 _ (List.mem_of_getElem? (i := 14) rfl)) rfl
theorem m_3_15 : (Cond.instanceMethod yX1_placeOf) ∈ lwA := lwA_mk (ck_3 _ (List.mem_of_getElem? (i := 15) rfl)) rfl
theorem m_3_16 : (Cond.selects RX1 yX1_placeOf yX1_placeOf) ∈ lwA := lwA_mk (ck_3 _ (List.mem_of_getElem? (i := 16) rfl)) rfl
theorem k_RX1_88 {args : Array Value} {s : State} {R rm : Room} (hts : ∀ w ∈ lwA, w.before args s = true) (hR : rm.frames + 1 ≤ R.frames ∧ 8 + (3 + 11) + rm.locals ≤ R.locals) : CallW R s args RX1 RX1 88 yX1_placeOf cX1_placeOf 3 (some .long) (lwC yX1_placeOf cX1_placeOf 3 (some .long)) rm rm.cells rm.slots 2 := cwV 2 hts (gdV m_3_14 m_3_15 m_3_16 m_1_11 m_3_17) rfl rfl rfl (by decide +kernel) hR
theorem gf_RX1_27_7 {A9 : Nat → Prop} {H9 : Heap} {fs : List Value} {v : Value} (S : CallFix p m c cc nL s args lwA RX1) (hE : g_E D vwCl (gT ar) (EX1 κ) A9 s H9) (w : g_S D vwCl A H0 G H locs nz) (ha : G a = some (.inr (7, fs))) (hv : fs[4]? = some v) (hdg : decode cc pc = .ok (.getfield 27, 3)) (kk : W p l e R s m args below meth c H locs cells slots Q (F0 m (pc + 3) ls (v :: rest))) : W p l e R s m args below meth c H locs cells slots Q (F0 m pc ls (.ref a :: rest)) :=
  va_get (ci := 7) (C := RX1) (T := TX1) (N := 7) S.1 S.2.1 S.2.2.2.2 inA_RX1 S.2.2.2.1 hE.1 (g_1 w.1 ha) 0 rfl rfl 4 (by decide) (S.2.2.2.2 _ m_1_224) (fun _ h => h) hv hdg kk
theorem m_3_114 : (Cond.methodLink RX1 38 yJ7_fill_d0a16) ∈ lwA := lwA_mk (ck_3 _ (List.mem_of_getElem? (i := 114) rfl)) rfl
theorem k_RX1_38 {args : Array Value} {s : State} {R rm : Room} (hts : ∀ w ∈ lwA, w.before args s = true) (hR : rm.frames + 1 ≤ R.frames ∧ 8 + (5 + 11) + rm.locals ≤ R.locals) : CallB R s args RX1 38 yJ7_fill_d0a16 cJ7_fill_d0a16 5 none (lwC yJ7_fill_d0a16 cJ7_fill_d0a16 5 none) rm rm.cells rm.slots 2 ∧ (Cond.static yJ7_fill_d0a16).before args s = true := va_cwS 2 hts (gdT m_3_114 m_1_210 m_1_10 m_1_211) rfl rfl rfl (by decide +kernel) hR
end SITES
def sX3_firstAt (Z : Ho) (k0 : Nat) (i0 : Int32) : Int32 := if isB i0 24 = 0 then (0) else (((Z.ro k0).f) (Int32.toNatClampNeg i0))
theorem sX3_firstAt_u (Z : Ho) (k0 : Nat) (i0 : Int32) : sX3_firstAt Z k0 i0 = if isB i0 24 = 0 then (0) else (((Z.ro k0).f) (Int32.toNatClampNeg i0)) := rfl
set_option maxHeartbeats 4000000 in
set_option maxRecDepth 100000 in
theorem hX3_firstAt (l : Launch) (D : va_G) (ar : Nat → ClassId) (κ : Nat → Nat) (G : gW) (x : Xo) (Z : Ho) (sz : Nat) (k0 : Nat) (i0 : Int32) (hk : OK x Z) (hv_k0 : k0 < Z.nr) : Met l yX3_firstAt (lwC yX3_firstAt cX3_firstAt 2 (some .int)) (rD 3 0 0) (g_Pc D vwCl (gT ar) (EX1 κ) (ov κ ar x Z G) sz [.ref (x.f (.ro k0)), .int i0]) (g_Qi D vwCl (g_A (ov κ ar x Z G) sz) (fun r u => r = sX3_firstAt Z k0 i0 ∧ u = (ov κ ar x Z G, sz))) 0 0 (g_A (ov κ ar x Z G) sz) := by
  refine g_ofW (by decide +kernel) (Nat.le_of_ble_eq_true rfl) ?_
  intro p e s m below meth c ls S hr hlk hin hE w hl
  have hx := S.1
  have hb := S.2.1
  have hl : lv_has ls 2 [(0, .ref (x.f (.ro k0))), (1, .int i0)] := hl
  refine lv_iload_n hx hb dX3_firstAt_0 rfl (lv_at hl 1 rfl) ?_
  refine lv_aload_n hx hb dX3_firstAt_1 rfl (lv_at hl 0 rfl) ?_
  refine gf_RX3_15_9 (v := .ref (x.f (.rf k0))) S hE w (ov_r (t := .ro k0) (hk.e_ro hv_k0)) rfl dX3_firstAt_2 ?_
  refine va_alen (v := 24) hx hb hE.1 (g_1 w.1 (ov_r (t := .rf k0) (hk.e_rf hv_k0))) 0 0 rfl rfl rfl dX3_firstAt_5 ?_
  refine g_calli w (g_runSN (As := [.int i0, .int 24]) (rest := []) S hE w hl (c_X8_isBelow l D ar κ (ov κ ar x Z G) sz i0 24) (k_RX3_35 S.2.2.2.2 (hE.2.1.1 _ (ckN_1 _ (List.mem_of_getElem? (i := 8) rfl))) ⟨Nat.le_of_ble_eq_true rfl, Nat.le_of_ble_eq_true rfl⟩) rfl rfl (Nat.le_of_ble_eq_true rfl) dX3_firstAt_6 ⟨Nat.le_of_ble_eq_true rfl, Nat.le_of_ble_eq_true rfl⟩) (fun r u H locs hp hnz w => ?_)
  obtain ⟨rfl, rfl⟩ := hp
  dsimp only at w
  refine lv_if_eq (tgt := 21) hx hb dX3_firstAt_9 (by decide) (fun c_9 => ?_) (fun c_9 => ?_)
  · refine lv_iconst (v := 0) hx hb dX3_firstAt_21 (by decide) ?_
    exact g_iret hx hb hr hlk w (Nat.le_of_ble_eq_true rfl) (Nat.le_of_ble_eq_true rfl) dX3_firstAt_22 ⟨(((sX3_firstAt_u Z k0 i0).trans (if_pos c_9))).symm, rfl⟩
  · refine lv_aload_n hx hb dX3_firstAt_12 rfl (lv_at hl 0 rfl) ?_
    refine gf_RX3_15_9 (v := .ref (x.f (.rf k0))) S hE w (ov_r (t := .ro k0) (hk.e_ro hv_k0)) rfl dX3_firstAt_13 ?_
    refine lv_iload_n hx hb dX3_firstAt_16 rfl (lv_at hl 1 rfl) ?_
    refine va_iald hx hb hE.1 (g_1 w.1 (ov_r (t := .rf k0) (hk.e_rf hv_k0))) 0 0 rfl rfl (vinB (n := 24) rfl (by decide) c_9) dX3_firstAt_17 ?_
    show W p l e _ s m _ below meth c _ _ _ _ _ (F0 m 18 ls [.int (((Z.ro k0).f) (Int32.toNatClampNeg i0))])
    refine lv_goto (tgt := 22) hx hb dX3_firstAt_18 (by decide) ?_
    exact g_iret hx hb hr hlk w (Nat.le_of_ble_eq_true rfl) (Nat.le_of_ble_eq_true rfl) dX3_firstAt_22 ⟨(((sX3_firstAt_u Z k0 i0).trans (if_neg c_9))).symm, rfl⟩
def sX3_secondAt (Z : Ho) (k0 : Nat) (i0 : Int32) : Int32 := if isB i0 24 = 0 then (0) else (((Z.ro k0).g) (Int32.toNatClampNeg i0))
theorem sX3_secondAt_u (Z : Ho) (k0 : Nat) (i0 : Int32) : sX3_secondAt Z k0 i0 = if isB i0 24 = 0 then (0) else (((Z.ro k0).g) (Int32.toNatClampNeg i0)) := rfl
set_option maxHeartbeats 4000000 in
set_option maxRecDepth 100000 in
theorem hX3_secondAt (l : Launch) (D : va_G) (ar : Nat → ClassId) (κ : Nat → Nat) (G : gW) (x : Xo) (Z : Ho) (sz : Nat) (k0 : Nat) (i0 : Int32) (hk : OK x Z) (hv_k0 : k0 < Z.nr) : Met l yX3_secondAt (lwC yX3_secondAt cX3_secondAt 2 (some .int)) (rD 3 0 0) (g_Pc D vwCl (gT ar) (EX1 κ) (ov κ ar x Z G) sz [.ref (x.f (.ro k0)), .int i0]) (g_Qi D vwCl (g_A (ov κ ar x Z G) sz) (fun r u => r = sX3_secondAt Z k0 i0 ∧ u = (ov κ ar x Z G, sz))) 0 0 (g_A (ov κ ar x Z G) sz) := by
  refine g_ofW (by decide +kernel) (Nat.le_of_ble_eq_true rfl) ?_
  intro p e s m below meth c ls S hr hlk hin hE w hl
  have hx := S.1
  have hb := S.2.1
  have hl : lv_has ls 2 [(0, .ref (x.f (.ro k0))), (1, .int i0)] := hl
  refine lv_iload_n hx hb dX3_secondAt_0 rfl (lv_at hl 1 rfl) ?_
  refine lv_aload_n hx hb dX3_secondAt_1 rfl (lv_at hl 0 rfl) ?_
  refine gf_RX3_19_9 (v := .ref (x.f (.rg k0))) S hE w (ov_r (t := .ro k0) (hk.e_ro hv_k0)) rfl dX3_secondAt_2 ?_
  refine va_alen (v := 24) hx hb hE.1 (g_1 w.1 (ov_r (t := .rg k0) (hk.e_rg hv_k0))) 0 0 rfl rfl rfl dX3_secondAt_5 ?_
  refine g_calli w (g_runSN (As := [.int i0, .int 24]) (rest := []) S hE w hl (c_X8_isBelow l D ar κ (ov κ ar x Z G) sz i0 24) (k_RX3_35 S.2.2.2.2 (hE.2.1.1 _ (ckN_1 _ (List.mem_of_getElem? (i := 8) rfl))) ⟨Nat.le_of_ble_eq_true rfl, Nat.le_of_ble_eq_true rfl⟩) rfl rfl (Nat.le_of_ble_eq_true rfl) dX3_secondAt_6 ⟨Nat.le_of_ble_eq_true rfl, Nat.le_of_ble_eq_true rfl⟩) (fun r u H locs hp hnz w => ?_)
  obtain ⟨rfl, rfl⟩ := hp
  dsimp only at w
  refine lv_if_eq (tgt := 21) hx hb dX3_secondAt_9 (by decide) (fun c_9 => ?_) (fun c_9 => ?_)
  · refine lv_iconst (v := 0) hx hb dX3_secondAt_21 (by decide) ?_
    exact g_iret hx hb hr hlk w (Nat.le_of_ble_eq_true rfl) (Nat.le_of_ble_eq_true rfl) dX3_secondAt_22 ⟨(((sX3_secondAt_u Z k0 i0).trans (if_pos c_9))).symm, rfl⟩
  · refine lv_aload_n hx hb dX3_secondAt_12 rfl (lv_at hl 0 rfl) ?_
    refine gf_RX3_19_9 (v := .ref (x.f (.rg k0))) S hE w (ov_r (t := .ro k0) (hk.e_ro hv_k0)) rfl dX3_secondAt_13 ?_
    refine lv_iload_n hx hb dX3_secondAt_16 rfl (lv_at hl 1 rfl) ?_
    refine va_iald hx hb hE.1 (g_1 w.1 (ov_r (t := .rg k0) (hk.e_rg hv_k0))) 0 0 rfl rfl (vinB (n := 24) rfl (by decide) c_9) dX3_secondAt_17 ?_
    show W p l e _ s m _ below meth c _ _ _ _ _ (F0 m 18 ls [.int (((Z.ro k0).g) (Int32.toNatClampNeg i0))])
    refine lv_goto (tgt := 22) hx hb dX3_secondAt_18 (by decide) ?_
    exact g_iret hx hb hr hlk w (Nat.le_of_ble_eq_true rfl) (Nat.le_of_ble_eq_true rfl) dX3_secondAt_22 ⟨(((sX3_secondAt_u Z k0 i0).trans (if_neg c_9))).symm, rfl⟩
def sX3_depthAt (Z : Ho) (k0 : Nat) (i0 : Int32) : Int32 := if isB i0 24 = 0 then ((-1)) else (((Z.ro k0).d) (Int32.toNatClampNeg i0))
theorem sX3_depthAt_u (Z : Ho) (k0 : Nat) (i0 : Int32) : sX3_depthAt Z k0 i0 = if isB i0 24 = 0 then ((-1)) else (((Z.ro k0).d) (Int32.toNatClampNeg i0)) := rfl
set_option maxHeartbeats 4000000 in
set_option maxRecDepth 100000 in
theorem hX3_depthAt (l : Launch) (D : va_G) (ar : Nat → ClassId) (κ : Nat → Nat) (G : gW) (x : Xo) (Z : Ho) (sz : Nat) (k0 : Nat) (i0 : Int32) (hk : OK x Z) (hv_k0 : k0 < Z.nr) : Met l yX3_depthAt (lwC yX3_depthAt cX3_depthAt 2 (some .int)) (rD 3 0 0) (g_Pc D vwCl (gT ar) (EX1 κ) (ov κ ar x Z G) sz [.ref (x.f (.ro k0)), .int i0]) (g_Qi D vwCl (g_A (ov κ ar x Z G) sz) (fun r u => r = sX3_depthAt Z k0 i0 ∧ u = (ov κ ar x Z G, sz))) 0 0 (g_A (ov κ ar x Z G) sz) := by
  refine g_ofW (by decide +kernel) (Nat.le_of_ble_eq_true rfl) ?_
  intro p e s m below meth c ls S hr hlk hin hE w hl
  have hx := S.1
  have hb := S.2.1
  have hl : lv_has ls 2 [(0, .ref (x.f (.ro k0))), (1, .int i0)] := hl
  refine lv_iload_n hx hb dX3_depthAt_0 rfl (lv_at hl 1 rfl) ?_
  refine lv_aload_n hx hb dX3_depthAt_1 rfl (lv_at hl 0 rfl) ?_
  refine gf_RX3_22_9 (v := .ref (x.f (.rd k0))) S hE w (ov_r (t := .ro k0) (hk.e_ro hv_k0)) rfl dX3_depthAt_2 ?_
  refine va_alen (v := 24) hx hb hE.1 (g_1 w.1 (ov_r (t := .rd k0) (hk.e_rd hv_k0))) 0 0 rfl rfl rfl dX3_depthAt_5 ?_
  refine g_calli w (g_runSN (As := [.int i0, .int 24]) (rest := []) S hE w hl (c_X8_isBelow l D ar κ (ov κ ar x Z G) sz i0 24) (k_RX3_35 S.2.2.2.2 (hE.2.1.1 _ (ckN_1 _ (List.mem_of_getElem? (i := 8) rfl))) ⟨Nat.le_of_ble_eq_true rfl, Nat.le_of_ble_eq_true rfl⟩) rfl rfl (Nat.le_of_ble_eq_true rfl) dX3_depthAt_6 ⟨Nat.le_of_ble_eq_true rfl, Nat.le_of_ble_eq_true rfl⟩) (fun r u H locs hp hnz w => ?_)
  obtain ⟨rfl, rfl⟩ := hp
  dsimp only at w
  refine lv_if_eq (tgt := 21) hx hb dX3_depthAt_9 (by decide) (fun c_9 => ?_) (fun c_9 => ?_)
  · refine lv_iconst (v := (-1)) hx hb dX3_depthAt_21 (by decide) ?_
    exact g_iret hx hb hr hlk w (Nat.le_of_ble_eq_true rfl) (Nat.le_of_ble_eq_true rfl) dX3_depthAt_22 ⟨(((sX3_depthAt_u Z k0 i0).trans (if_pos c_9))).symm, rfl⟩
  · refine lv_aload_n hx hb dX3_depthAt_12 rfl (lv_at hl 0 rfl) ?_
    refine gf_RX3_22_9 (v := .ref (x.f (.rd k0))) S hE w (ov_r (t := .ro k0) (hk.e_ro hv_k0)) rfl dX3_depthAt_13 ?_
    refine lv_iload_n hx hb dX3_depthAt_16 rfl (lv_at hl 1 rfl) ?_
    refine va_iald hx hb hE.1 (g_1 w.1 (ov_r (t := .rd k0) (hk.e_rd hv_k0))) 0 0 rfl rfl (vinB (n := 24) rfl (by decide) c_9) dX3_depthAt_17 ?_
    show W p l e _ s m _ below meth c _ _ _ _ _ (F0 m 18 ls [.int (((Z.ro k0).d) (Int32.toNatClampNeg i0))])
    refine lv_goto (tgt := 22) hx hb dX3_depthAt_18 (by decide) ?_
    exact g_iret hx hb hr hlk w (Nat.le_of_ble_eq_true rfl) (Nat.le_of_ble_eq_true rfl) dX3_depthAt_22 ⟨(((sX3_depthAt_u Z k0 i0).trans (if_neg c_9))).symm, rfl⟩
def sX3_comeToAt (Z : Ho) (k0 : Nat) (i0 : Int32) : Int32 := if isB i0 24 = 0 then (0) else (((Z.ro k0).q) (Int32.toNatClampNeg i0))
theorem sX3_comeToAt_u (Z : Ho) (k0 : Nat) (i0 : Int32) : sX3_comeToAt Z k0 i0 = if isB i0 24 = 0 then (0) else (((Z.ro k0).q) (Int32.toNatClampNeg i0)) := rfl
set_option maxHeartbeats 4000000 in
set_option maxRecDepth 100000 in
theorem hX3_comeToAt (l : Launch) (D : va_G) (ar : Nat → ClassId) (κ : Nat → Nat) (G : gW) (x : Xo) (Z : Ho) (sz : Nat) (k0 : Nat) (i0 : Int32) (hk : OK x Z) (hv_k0 : k0 < Z.nr) : Met l yX3_comeToAt (lwC yX3_comeToAt cX3_comeToAt 2 (some .int)) (rD 3 0 0) (g_Pc D vwCl (gT ar) (EX1 κ) (ov κ ar x Z G) sz [.ref (x.f (.ro k0)), .int i0]) (g_Qi D vwCl (g_A (ov κ ar x Z G) sz) (fun r u => r = sX3_comeToAt Z k0 i0 ∧ u = (ov κ ar x Z G, sz))) 0 0 (g_A (ov κ ar x Z G) sz) := by
  refine g_ofW (by decide +kernel) (Nat.le_of_ble_eq_true rfl) ?_
  intro p e s m below meth c ls S hr hlk hin hE w hl
  have hx := S.1
  have hb := S.2.1
  have hl : lv_has ls 2 [(0, .ref (x.f (.ro k0))), (1, .int i0)] := hl
  refine lv_iload_n hx hb dX3_comeToAt_0 rfl (lv_at hl 1 rfl) ?_
  refine lv_aload_n hx hb dX3_comeToAt_1 rfl (lv_at hl 0 rfl) ?_
  refine gf_RX3_25_9 (v := .ref (x.f (.rq k0))) S hE w (ov_r (t := .ro k0) (hk.e_ro hv_k0)) rfl dX3_comeToAt_2 ?_
  refine va_alen (v := 24) hx hb hE.1 (g_1 w.1 (ov_r (t := .rq k0) (hk.e_rq hv_k0))) 0 0 rfl rfl rfl dX3_comeToAt_5 ?_
  refine g_calli w (g_runSN (As := [.int i0, .int 24]) (rest := []) S hE w hl (c_X8_isBelow l D ar κ (ov κ ar x Z G) sz i0 24) (k_RX3_35 S.2.2.2.2 (hE.2.1.1 _ (ckN_1 _ (List.mem_of_getElem? (i := 8) rfl))) ⟨Nat.le_of_ble_eq_true rfl, Nat.le_of_ble_eq_true rfl⟩) rfl rfl (Nat.le_of_ble_eq_true rfl) dX3_comeToAt_6 ⟨Nat.le_of_ble_eq_true rfl, Nat.le_of_ble_eq_true rfl⟩) (fun r u H locs hp hnz w => ?_)
  obtain ⟨rfl, rfl⟩ := hp
  dsimp only at w
  refine lv_if_eq (tgt := 21) hx hb dX3_comeToAt_9 (by decide) (fun c_9 => ?_) (fun c_9 => ?_)
  · refine lv_iconst (v := 0) hx hb dX3_comeToAt_21 (by decide) ?_
    exact g_iret hx hb hr hlk w (Nat.le_of_ble_eq_true rfl) (Nat.le_of_ble_eq_true rfl) dX3_comeToAt_22 ⟨(((sX3_comeToAt_u Z k0 i0).trans (if_pos c_9))).symm, rfl⟩
  · refine lv_aload_n hx hb dX3_comeToAt_12 rfl (lv_at hl 0 rfl) ?_
    refine gf_RX3_25_9 (v := .ref (x.f (.rq k0))) S hE w (ov_r (t := .ro k0) (hk.e_ro hv_k0)) rfl dX3_comeToAt_13 ?_
    refine lv_iload_n hx hb dX3_comeToAt_16 rfl (lv_at hl 1 rfl) ?_
    refine va_iald hx hb hE.1 (g_1 w.1 (ov_r (t := .rq k0) (hk.e_rq hv_k0))) 0 0 rfl rfl (vinB (n := 24) rfl (by decide) c_9) dX3_comeToAt_17 ?_
    show W p l e _ s m _ below meth c _ _ _ _ _ (F0 m 18 ls [.int (((Z.ro k0).q) (Int32.toNatClampNeg i0))])
    refine lv_goto (tgt := 22) hx hb dX3_comeToAt_18 (by decide) ?_
    exact g_iret hx hb hr hlk w (Nat.le_of_ble_eq_true rfl) (Nat.le_of_ble_eq_true rfl) dX3_comeToAt_22 ⟨(((sX3_comeToAt_u Z k0 i0).trans (if_neg c_9))).symm, rfl⟩
def sX3_letterAt (Z : Ho) (k0 : Nat) (i0 : Int32) : Int32 := if isB i0 24 = 0 then (114) else (vp_nar .char (((Z.ro k0).l) (Int32.toNatClampNeg i0)))
theorem sX3_letterAt_u (Z : Ho) (k0 : Nat) (i0 : Int32) : sX3_letterAt Z k0 i0 = if isB i0 24 = 0 then (114) else (vp_nar .char (((Z.ro k0).l) (Int32.toNatClampNeg i0))) := rfl
set_option maxHeartbeats 4000000 in
set_option maxRecDepth 100000 in
theorem hX3_letterAt (l : Launch) (D : va_G) (ar : Nat → ClassId) (κ : Nat → Nat) (G : gW) (x : Xo) (Z : Ho) (sz : Nat) (k0 : Nat) (i0 : Int32) (hk : OK x Z) (hv_k0 : k0 < Z.nr) : Met l yX3_letterAt (lwC yX3_letterAt cX3_letterAt 2 (some .char)) (rD 3 0 0) (g_Pc D vwCl (gT ar) (EX1 κ) (ov κ ar x Z G) sz [.ref (x.f (.ro k0)), .int i0]) (g_Qi D vwCl (g_A (ov κ ar x Z G) sz) (fun r u => r = sX3_letterAt Z k0 i0 ∧ u = (ov κ ar x Z G, sz))) 0 0 (g_A (ov κ ar x Z G) sz) := by
  refine g_ofW (by decide +kernel) (Nat.le_of_ble_eq_true rfl) ?_
  intro p e s m below meth c ls S hr hlk hin hE w hl
  have hx := S.1
  have hb := S.2.1
  have hl : lv_has ls 2 [(0, .ref (x.f (.ro k0))), (1, .int i0)] := hl
  refine lv_iload_n hx hb dX3_letterAt_0 rfl (lv_at hl 1 rfl) ?_
  refine lv_aload_n hx hb dX3_letterAt_1 rfl (lv_at hl 0 rfl) ?_
  refine gf_RX3_9_9 (v := .ref (x.f (.rl k0))) S hE w (ov_r (t := .ro k0) (hk.e_ro hv_k0)) rfl dX3_letterAt_2 ?_
  refine va_alen (v := 24) hx hb hE.1 (g_1 w.1 (ov_r (t := .rl k0) (hk.e_rl hv_k0))) 0 2 rfl rfl rfl dX3_letterAt_5 ?_
  refine g_calli w (g_runSN (As := [.int i0, .int 24]) (rest := []) S hE w hl (c_X8_isBelow l D ar κ (ov κ ar x Z G) sz i0 24) (k_RX3_35 S.2.2.2.2 (hE.2.1.1 _ (ckN_1 _ (List.mem_of_getElem? (i := 8) rfl))) ⟨Nat.le_of_ble_eq_true rfl, Nat.le_of_ble_eq_true rfl⟩) rfl rfl (Nat.le_of_ble_eq_true rfl) dX3_letterAt_6 ⟨Nat.le_of_ble_eq_true rfl, Nat.le_of_ble_eq_true rfl⟩) (fun r u H locs hp hnz w => ?_)
  obtain ⟨rfl, rfl⟩ := hp
  dsimp only at w
  refine lv_if_eq (tgt := 21) hx hb dX3_letterAt_9 (by decide) (fun c_9 => ?_) (fun c_9 => ?_)
  · refine lv_bipush (v := 114) hx hb dX3_letterAt_21 (by decide) ?_
    exact g_zret hx hb hr hlk w (Nat.le_of_ble_eq_true rfl) (Nat.le_of_ble_eq_true rfl) dX3_letterAt_23 rfl ⟨(((sX3_letterAt_u Z k0 i0).trans (if_pos c_9))).symm, rfl⟩
  · refine lv_aload_n hx hb dX3_letterAt_12 rfl (lv_at hl 0 rfl) ?_
    refine gf_RX3_9_9 (v := .ref (x.f (.rl k0))) S hE w (ov_r (t := .ro k0) (hk.e_ro hv_k0)) rfl dX3_letterAt_13 ?_
    refine lv_iload_n hx hb dX3_letterAt_16 rfl (lv_at hl 1 rfl) ?_
    refine va_cald hx hb hE.1 (g_1 w.1 (ov_r (t := .rl k0) (hk.e_rl hv_k0))) 0 2 rfl rfl (vinB (n := 24) rfl (by decide) c_9) dX3_letterAt_17 ?_
    show W p l e _ s m _ below meth c _ _ _ _ _ (F0 m 18 ls [.int (((Z.ro k0).l) (Int32.toNatClampNeg i0))])
    refine lv_goto (tgt := 23) hx hb dX3_letterAt_18 (by decide) ?_
    exact g_zretN (v := vp_nar .char (((Z.ro k0).l) (Int32.toNatClampNeg i0))) hx hb hr hlk w (Nat.le_of_ble_eq_true rfl) (Nat.le_of_ble_eq_true rfl) dX3_letterAt_23 rfl ⟨(((sX3_letterAt_u Z k0 i0).trans (if_neg c_9))).symm, rfl⟩
def sX3_takenBy (Z : Ho) (c0 : Int32) (n0 : Int32) : Int32 := if c0 = 42 ∨ c0 = 43 ∨ c0 = 45 ∨ c0 = 47 ∨ c0 = 60 ∨ c0 = 61 then (2) else (if c0 = 77 ∨ c0 = 109 then (n0 + 1) else (if c0 = 97 ∨ c0 = 99 ∨ c0 = 102 ∨ c0 = 103 ∨ c0 = 106 ∨ c0 = 110 ∨ c0 = 115 ∨ c0 = 116 ∨ c0 = 117 then (0) else (1)))
theorem sX3_takenBy_u (Z : Ho) (c0 : Int32) (n0 : Int32) : sX3_takenBy Z c0 n0 = if c0 = 42 ∨ c0 = 43 ∨ c0 = 45 ∨ c0 = 47 ∨ c0 = 60 ∨ c0 = 61 then (2) else (if c0 = 77 ∨ c0 = 109 then (n0 + 1) else (if c0 = 97 ∨ c0 = 99 ∨ c0 = 102 ∨ c0 = 103 ∨ c0 = 106 ∨ c0 = 110 ∨ c0 = 115 ∨ c0 = 116 ∨ c0 = 117 then (0) else (1))) := rfl
set_option maxHeartbeats 4000000 in
set_option maxRecDepth 100000 in
theorem hX3_takenBy (l : Launch) (D : va_G) (ar : Nat → ClassId) (κ : Nat → Nat) (G : gW) (x : Xo) (Z : Ho) (sz : Nat) (c0 : Int32) (n0 : Int32) (hk : OK x Z) : Met l yX3_takenBy (lwC yX3_takenBy cX3_takenBy 2 (some .int)) (rD 3 0 0) (g_Pc D vwCl (gT ar) (EX1 κ) (ov κ ar x Z G) sz [.int c0, .int n0]) (g_Qi D vwCl (g_A (ov κ ar x Z G) sz) (fun r u => r = sX3_takenBy Z c0 n0 ∧ u = (ov κ ar x Z G, sz))) 0 0 (g_A (ov κ ar x Z G) sz) := by
  refine g_ofW (by decide +kernel) (Nat.le_of_ble_eq_true rfl) ?_
  intro p e s m below meth c ls S hr hlk hin hE w hl
  have hx := S.1
  have hb := S.2.1
  have hl : lv_has ls 2 [(0, .int c0), (1, .int n0)] := hl
  refine lv_iload_n hx hb dX3_takenBy_0 rfl (lv_at hl 0 rfl) ?_
  by_cases c_1_0 : c0 = 42 ∨ c0 = 43 ∨ c0 = 45 ∨ c0 = 47 ∨ c0 = 60 ∨ c0 = 61
  · refine lv_lookup (off := 149) (tgt := 150) hx hb dX3_takenBy_1 (by decide) (by rcases c_1_0 with h9 | h9 | h9 | h9 | h9 | h9 <;> (rw [h9]; decide)) (by decide) ?_
    refine lv_iconst (v := 2) hx hb dX3_takenBy_150 (by decide) ?_
    exact g_iret hx hb hr hlk w (Nat.le_of_ble_eq_true rfl) (Nat.le_of_ble_eq_true rfl) dX3_takenBy_151 ⟨(((sX3_takenBy_u Z c0 n0).trans (if_pos c_1_0))).symm, rfl⟩
  by_cases c_1_1 : c0 = 77 ∨ c0 = 109
  · refine lv_lookup (off := 151) (tgt := 152) hx hb dX3_takenBy_1 (by decide) (by rcases c_1_1 with h9 | h9 <;> (rw [h9]; decide)) (by decide) ?_
    refine lv_iload_n hx hb dX3_takenBy_152 rfl (lv_at hl 1 rfl) ?_
    refine lv_iconst (v := 1) hx hb dX3_takenBy_153 (by decide) ?_
    refine lv_iadd hx hb dX3_takenBy_154 ?_
    exact g_iret hx hb hr hlk w (Nat.le_of_ble_eq_true rfl) (Nat.le_of_ble_eq_true rfl) dX3_takenBy_155 ⟨(((sX3_takenBy_u Z c0 n0).trans ((if_neg c_1_0).trans (if_pos c_1_1)))).symm, rfl⟩
  by_cases c_1_2 : c0 = 97 ∨ c0 = 99 ∨ c0 = 102 ∨ c0 = 103 ∨ c0 = 106 ∨ c0 = 110 ∨ c0 = 115 ∨ c0 = 116 ∨ c0 = 117
  · refine lv_lookup (off := 147) (tgt := 148) hx hb dX3_takenBy_1 (by decide) (by rcases c_1_2 with h9 | h9 | h9 | h9 | h9 | h9 | h9 | h9 | h9 <;> (rw [h9]; decide)) (by decide) ?_
    refine lv_iconst (v := 0) hx hb dX3_takenBy_148 (by decide) ?_
    exact g_iret hx hb hr hlk w (Nat.le_of_ble_eq_true rfl) (Nat.le_of_ble_eq_true rfl) dX3_takenBy_149 ⟨(((sX3_takenBy_u Z c0 n0).trans ((if_neg c_1_0).trans ((if_neg c_1_1).trans (if_pos c_1_2))))).symm, rfl⟩
  refine lv_lookup (off := 155) (tgt := 156) hx hb dX3_takenBy_1 (by decide) (sw_def (ks := [42, 43, 45, 47, 60, 61, 77, 97, 99, 102, 103, 106, 109, 110, 115, 116, 117]) ⟨(fun h9 => c_1_0 (Or.inl h9)), (fun h9 => c_1_0 (Or.inr (Or.inl h9))), (fun h9 => c_1_0 (Or.inr (Or.inr (Or.inl h9)))), (fun h9 => c_1_0 (Or.inr (Or.inr (Or.inr (Or.inl h9))))), (fun h9 => c_1_0 (Or.inr (Or.inr (Or.inr (Or.inr (Or.inl h9)))))), (fun h9 => c_1_0 (Or.inr (Or.inr (Or.inr (Or.inr (Or.inr (h9))))))), (fun h9 => c_1_1 (Or.inl h9)), (fun h9 => c_1_2 (Or.inl h9)), (fun h9 => c_1_2 (Or.inr (Or.inl h9))), (fun h9 => c_1_2 (Or.inr (Or.inr (Or.inl h9)))), (fun h9 => c_1_2 (Or.inr (Or.inr (Or.inr (Or.inl h9))))), (fun h9 => c_1_2 (Or.inr (Or.inr (Or.inr (Or.inr (Or.inl h9)))))), (fun h9 => c_1_1 (Or.inr (h9))), (fun h9 => c_1_2 (Or.inr (Or.inr (Or.inr (Or.inr (Or.inr (Or.inl h9))))))), (fun h9 => c_1_2 (Or.inr (Or.inr (Or.inr (Or.inr (Or.inr (Or.inr (Or.inl h9)))))))), (fun h9 => c_1_2 (Or.inr (Or.inr (Or.inr (Or.inr (Or.inr (Or.inr (Or.inr (Or.inl h9))))))))), (fun h9 => c_1_2 (Or.inr (Or.inr (Or.inr (Or.inr (Or.inr (Or.inr (Or.inr (Or.inr (h9)))))))))), trivial⟩ (by decide +kernel)) (by decide) ?_
  refine lv_iconst (v := 1) hx hb dX3_takenBy_156 (by decide) ?_
  exact g_iret hx hb hr hlk w (Nat.le_of_ble_eq_true rfl) (Nat.le_of_ble_eq_true rfl) dX3_takenBy_157 ⟨(((sX3_takenBy_u Z c0 n0).trans ((if_neg c_1_0).trans ((if_neg c_1_1).trans (if_neg c_1_2))))).symm, rfl⟩
def sX3_putBy (Z : Ho) (c0 : Int32) : Int32 := if c0 = 70 ∨ c0 = 71 ∨ c0 = 84 ∨ c0 = 106 ∨ c0 = 112 ∨ c0 = 114 ∨ c0 = 119 ∨ c0 = 121 then (0) else (if c0 = 100 then (2) else (1))
theorem sX3_putBy_u (Z : Ho) (c0 : Int32) : sX3_putBy Z c0 = if c0 = 70 ∨ c0 = 71 ∨ c0 = 84 ∨ c0 = 106 ∨ c0 = 112 ∨ c0 = 114 ∨ c0 = 119 ∨ c0 = 121 then (0) else (if c0 = 100 then (2) else (1)) := rfl
set_option maxHeartbeats 4000000 in
set_option maxRecDepth 100000 in
theorem hX3_putBy (l : Launch) (D : va_G) (ar : Nat → ClassId) (κ : Nat → Nat) (G : gW) (x : Xo) (Z : Ho) (sz : Nat) (c0 : Int32) (hk : OK x Z) : Met l yX3_putBy (lwC yX3_putBy cX3_putBy 1 (some .int)) (rD 3 0 0) (g_Pc D vwCl (gT ar) (EX1 κ) (ov κ ar x Z G) sz [.int c0]) (g_Qi D vwCl (g_A (ov κ ar x Z G) sz) (fun r u => r = sX3_putBy Z c0 ∧ u = (ov κ ar x Z G, sz))) 0 0 (g_A (ov κ ar x Z G) sz) := by
  refine g_ofW (by decide +kernel) (Nat.le_of_ble_eq_true rfl) ?_
  intro p e s m below meth c ls S hr hlk hin hE w hl
  have hx := S.1
  have hb := S.2.1
  have hl : lv_has ls 1 [(0, .int c0)] := hl
  refine lv_iload_n hx hb dX3_putBy_0 rfl (lv_at hl 0 rfl) ?_
  by_cases c_1_0 : c0 = 70 ∨ c0 = 71 ∨ c0 = 84 ∨ c0 = 106 ∨ c0 = 112 ∨ c0 = 114 ∨ c0 = 119 ∨ c0 = 121
  · refine lv_lookup (off := 83) (tgt := 84) hx hb dX3_putBy_1 (by decide) (by rcases c_1_0 with h9 | h9 | h9 | h9 | h9 | h9 | h9 | h9 <;> (rw [h9]; decide)) (by decide) ?_
    refine lv_iconst (v := 0) hx hb dX3_putBy_84 (by decide) ?_
    exact g_iret hx hb hr hlk w (Nat.le_of_ble_eq_true rfl) (Nat.le_of_ble_eq_true rfl) dX3_putBy_85 ⟨(((sX3_putBy_u Z c0).trans (if_pos c_1_0))).symm, rfl⟩
  by_cases c_1_1 : c0 = 100
  · refine lv_lookup (off := 85) (tgt := 86) hx hb dX3_putBy_1 (by decide) (by have h9 := c_1_1; (rw [h9]; decide)) (by decide) ?_
    refine lv_iconst (v := 2) hx hb dX3_putBy_86 (by decide) ?_
    exact g_iret hx hb hr hlk w (Nat.le_of_ble_eq_true rfl) (Nat.le_of_ble_eq_true rfl) dX3_putBy_87 ⟨(((sX3_putBy_u Z c0).trans ((if_neg c_1_0).trans (if_pos c_1_1)))).symm, rfl⟩
  refine lv_lookup (off := 87) (tgt := 88) hx hb dX3_putBy_1 (by decide) (sw_def (ks := [70, 71, 84, 100, 106, 112, 114, 119, 121]) ⟨(fun h9 => c_1_0 (Or.inl h9)), (fun h9 => c_1_0 (Or.inr (Or.inl h9))), (fun h9 => c_1_0 (Or.inr (Or.inr (Or.inl h9)))), c_1_1, (fun h9 => c_1_0 (Or.inr (Or.inr (Or.inr (Or.inl h9))))), (fun h9 => c_1_0 (Or.inr (Or.inr (Or.inr (Or.inr (Or.inl h9)))))), (fun h9 => c_1_0 (Or.inr (Or.inr (Or.inr (Or.inr (Or.inr (Or.inl h9))))))), (fun h9 => c_1_0 (Or.inr (Or.inr (Or.inr (Or.inr (Or.inr (Or.inr (Or.inl h9)))))))), (fun h9 => c_1_0 (Or.inr (Or.inr (Or.inr (Or.inr (Or.inr (Or.inr (Or.inr (h9))))))))), trivial⟩ (by decide +kernel)) (by decide) ?_
  refine lv_iconst (v := 1) hx hb dX3_putBy_88 (by decide) ?_
  exact g_iret hx hb hr hlk w (Nat.le_of_ble_eq_true rfl) (Nat.le_of_ble_eq_true rfl) dX3_putBy_89 ⟨(((sX3_putBy_u Z c0).trans ((if_neg c_1_0).trans (if_neg c_1_1)))).symm, rfl⟩
def sX3_enlist (Z : Ho) (k0 : Nat) (c0 : Int32) (v0 : Int32) (y0 : Int32) : Ho := if isB ((Z.ro k0).n) 24 = 0 then (Z) else ((Z.roS k0 (((((Z.ro k0).sl (upd ((Z.ro k0).l) (Int32.toNatClampNeg ((Z.ro k0).n)) (vp_nar .char c0))).sf (upd ((Z.ro k0).f) (Int32.toNatClampNeg ((Z.ro k0).n)) v0)).sg (upd ((Z.ro k0).g) (Int32.toNatClampNeg ((Z.ro k0).n)) y0)).sn (((Z.ro k0).n) + 1))))
theorem sX3_enlist_u (Z : Ho) (k0 : Nat) (c0 : Int32) (v0 : Int32) (y0 : Int32) : sX3_enlist Z k0 c0 v0 y0 = if isB ((Z.ro k0).n) 24 = 0 then (Z) else ((Z.roS k0 (((((Z.ro k0).sl (upd ((Z.ro k0).l) (Int32.toNatClampNeg ((Z.ro k0).n)) (vp_nar .char c0))).sf (upd ((Z.ro k0).f) (Int32.toNatClampNeg ((Z.ro k0).n)) v0)).sg (upd ((Z.ro k0).g) (Int32.toNatClampNeg ((Z.ro k0).n)) y0)).sn (((Z.ro k0).n) + 1)))) := rfl
set_option maxHeartbeats 4000000 in
set_option maxRecDepth 100000 in
theorem hX3_enlist (l : Launch) (D : va_G) (ar : Nat → ClassId) (κ : Nat → Nat) (G : gW) (x : Xo) (Z : Ho) (sz : Nat) (k0 : Nat) (c0 : Int32) (v0 : Int32) (y0 : Int32) (hk : OK x Z) (hv_k0 : k0 < Z.nr) : Met l yX3_enlist (lwC yX3_enlist cX3_enlist 4 none) (rD 4 0 0) (g_Pc D vwCl (gT ar) (EX1 κ) (ov κ ar x Z G) sz [.ref (x.f (.ro k0)), .int c0, .int v0, .int y0]) (g_Qv D vwCl (g_A (ov κ ar x Z G) sz) (fun u => ∃ T9 : Ho, sX3_enlist Z k0 c0 v0 y0 = T9 ∧ u = (ov κ ar x T9 G, sz) ∧ OK x T9)) 0 0 (g_A (ov κ ar x Z G) sz) := by
  refine g_ofW (by decide +kernel) (Nat.le_of_ble_eq_true rfl) ?_
  intro p e s m below meth c ls S hr hlk hin hE w hl
  have hx := S.1
  have hb := S.2.1
  have hl : lv_has ls 4 [(0, .ref (x.f (.ro k0))), (1, .int c0), (2, .int v0), (3, .int y0)] := hl
  refine lv_aload_n hx hb dX3_enlist_0 rfl (lv_at hl 0 rfl) ?_
  refine gf_RX3_28_9 (v := .int ((Z.ro k0).n)) S hE w (ov_r (t := .ro k0) (hk.e_ro hv_k0)) rfl dX3_enlist_1 ?_
  refine lv_bipush (v := 24) hx hb dX3_enlist_4 (by decide) ?_
  refine g_calli w (g_runSN (As := [.int ((Z.ro k0).n), .int 24]) (rest := []) S hE w hl (c_X8_isBelow l D ar κ (ov κ ar x Z G) sz ((Z.ro k0).n) 24) (k_RX3_35 S.2.2.2.2 (hE.2.1.1 _ (ckN_1 _ (List.mem_of_getElem? (i := 8) rfl))) ⟨Nat.le_of_ble_eq_true rfl, Nat.le_of_ble_eq_true rfl⟩) rfl rfl (Nat.le_of_ble_eq_true rfl) dX3_enlist_6 ⟨Nat.le_of_ble_eq_true rfl, Nat.le_of_ble_eq_true rfl⟩) (fun r u H locs hp hnz w => ?_)
  obtain ⟨rfl, rfl⟩ := hp
  dsimp only at w
  refine lv_if_eq (tgt := 52) hx hb dX3_enlist_9 (by decide) (fun c_9 => ?_) (fun c_9 => ?_)
  · exact g_vret hx hb hr hlk w (Nat.le_of_ble_eq_true rfl) (Nat.le_of_ble_eq_true rfl) dX3_enlist_52 ⟨_, ((sX3_enlist_u Z k0 c0 v0 y0).trans (if_pos c_9)), rfl, hk⟩
  · refine lv_aload_n hx hb dX3_enlist_12 rfl (lv_at hl 0 rfl) ?_
    refine gf_RX3_9_9 (v := .ref (x.f (.rl k0))) S hE w (ov_r (t := .ro k0) (hk.e_ro hv_k0)) rfl dX3_enlist_13 ?_
    refine lv_aload_n hx hb dX3_enlist_16 rfl (lv_at hl 0 rfl) ?_
    refine gf_RX3_28_9 (v := .int ((Z.ro k0).n)) S hE w (ov_r (t := .ro k0) (hk.e_ro hv_k0)) rfl dX3_enlist_17 ?_
    refine lv_iload_n hx hb dX3_enlist_20 rfl (lv_at hl 1 rfl) ?_
    refine g_cast hx hb hE.1 w 2 (ov_r (t := .rl k0) (hk.e_rl hv_k0)) rfl (vinB (n := 24) rfl (by decide) c_9) dX3_enlist_21 (fun H locs w => ?_)
    have w := g_eqw w (congrArg (fun Z9 => g_up (ov κ ar x Z9 G) (x.f (.rl k0)) (.inl (ar 2, 24, .inl (upd ((Z.ro k0).l) (Int32.toNatClampNeg ((Z.ro k0).n)) (vp_nar .char c0))))) (roS_id (S := Z) (i := k0)).symm)
    have w : g_S D vwCl (g_A (ov κ ar x Z G) sz) s.heap (ov κ ar x (Z.roS k0 ((Z.ro k0).sl (upd ((Z.ro k0).l) (Int32.toNatClampNeg ((Z.ro k0).n)) (vp_nar .char c0)))) G) H _ sz := g_eqw w (ov_wrl (S := Z) (v := (Z.ro k0)) (v' := ((Z.ro k0).sl (upd ((Z.ro k0).l) (Int32.toNatClampNeg ((Z.ro k0).n)) (vp_nar .char c0)))) hk.v (hk.e_rl hv_k0) rfl rfl rfl rfl rfl rfl rfl)
    refine lv_aload_n hx hb dX3_enlist_22 rfl (lv_at hl 0 rfl) ?_
    refine gf_RX3_15_9 (v := .ref (x.f (.rf k0))) S hE w (ov_rro (hk.e_ro hv_k0)) rfl dX3_enlist_23 ?_
    refine lv_aload_n hx hb dX3_enlist_26 rfl (lv_at hl 0 rfl) ?_
    refine gf_RX3_28_9 (v := .int ((Z.ro k0).n)) S hE w (ov_rro (hk.e_ro hv_k0)) rfl dX3_enlist_27 ?_
    refine lv_iload_n hx hb dX3_enlist_30 rfl (lv_at hl 2 rfl) ?_
    refine g_iast hx hb hE.1 w 0 (ov_rrf (hk.e_rf hv_k0)) rfl (vinB (n := 24) rfl (by decide) c_9) dX3_enlist_31 (fun H locs w => ?_)
    have w : g_S D vwCl (g_A (ov κ ar x Z G) sz) s.heap (ov κ ar x (Z.roS k0 (((Z.ro k0).sl (upd ((Z.ro k0).l) (Int32.toNatClampNeg ((Z.ro k0).n)) (vp_nar .char c0))).sf (upd ((Z.ro k0).f) (Int32.toNatClampNeg ((Z.ro k0).n)) v0))) G) H _ sz := g_eqw w (ov_wrf (S := Z) (v := ((Z.ro k0).sl (upd ((Z.ro k0).l) (Int32.toNatClampNeg ((Z.ro k0).n)) (vp_nar .char c0)))) (v' := (((Z.ro k0).sl (upd ((Z.ro k0).l) (Int32.toNatClampNeg ((Z.ro k0).n)) (vp_nar .char c0))).sf (upd ((Z.ro k0).f) (Int32.toNatClampNeg ((Z.ro k0).n)) v0))) hk.v (hk.e_rf hv_k0) rfl rfl rfl rfl rfl rfl rfl)
    refine lv_aload_n hx hb dX3_enlist_32 rfl (lv_at hl 0 rfl) ?_
    refine gf_RX3_19_9 (v := .ref (x.f (.rg k0))) S hE w (ov_rro (hk.e_ro hv_k0)) rfl dX3_enlist_33 ?_
    refine lv_aload_n hx hb dX3_enlist_36 rfl (lv_at hl 0 rfl) ?_
    refine gf_RX3_28_9 (v := .int ((Z.ro k0).n)) S hE w (ov_rro (hk.e_ro hv_k0)) rfl dX3_enlist_37 ?_
    refine lv_iload_n hx hb dX3_enlist_40 rfl (lv_at hl 3 rfl) ?_
    refine g_iast hx hb hE.1 w 0 (ov_rrg (hk.e_rg hv_k0)) rfl (vinB (n := 24) rfl (by decide) c_9) dX3_enlist_41 (fun H locs w => ?_)
    have w : g_S D vwCl (g_A (ov κ ar x Z G) sz) s.heap (ov κ ar x (Z.roS k0 ((((Z.ro k0).sl (upd ((Z.ro k0).l) (Int32.toNatClampNeg ((Z.ro k0).n)) (vp_nar .char c0))).sf (upd ((Z.ro k0).f) (Int32.toNatClampNeg ((Z.ro k0).n)) v0)).sg (upd ((Z.ro k0).g) (Int32.toNatClampNeg ((Z.ro k0).n)) y0))) G) H _ sz := g_eqw w (ov_wrg (S := Z) (v := (((Z.ro k0).sl (upd ((Z.ro k0).l) (Int32.toNatClampNeg ((Z.ro k0).n)) (vp_nar .char c0))).sf (upd ((Z.ro k0).f) (Int32.toNatClampNeg ((Z.ro k0).n)) v0))) (v' := ((((Z.ro k0).sl (upd ((Z.ro k0).l) (Int32.toNatClampNeg ((Z.ro k0).n)) (vp_nar .char c0))).sf (upd ((Z.ro k0).f) (Int32.toNatClampNeg ((Z.ro k0).n)) v0)).sg (upd ((Z.ro k0).g) (Int32.toNatClampNeg ((Z.ro k0).n)) y0))) hk.v (hk.e_rg hv_k0) rfl rfl rfl rfl rfl rfl rfl)
    refine lv_aload_n hx hb dX3_enlist_42 rfl (lv_at hl 0 rfl) ?_
    refine lv_dup hx hb dX3_enlist_43 rfl ?_
    refine gf_RX3_28_9 (v := .int ((Z.ro k0).n)) S hE w (ov_rro (hk.e_ro hv_k0)) rfl dX3_enlist_44 ?_
    refine lv_iconst (v := 1) hx hb dX3_enlist_47 (by decide) ?_
    refine lv_iadd hx hb dX3_enlist_48 ?_
    refine pf_RX3_28_9 (fs1 := [.ref (x.f (.rl k0)), .ref (x.f (.rf k0)), .ref (x.f (.rg k0)), .ref (x.f (.rd k0)), .ref (x.f (.rq k0)), .int (((Z.ro k0).n) + 1), .int ((Z.ro k0).k)]) S hE w (ov_rro (hk.e_ro hv_k0)) rfl rfl (Nat.le_of_ble_eq_true rfl) rfl dX3_enlist_49 (fun H locs w => ?_)
    have w : g_S D vwCl (g_A (ov κ ar x Z G) sz) s.heap (ov κ ar x (Z.roS k0 (((((Z.ro k0).sl (upd ((Z.ro k0).l) (Int32.toNatClampNeg ((Z.ro k0).n)) (vp_nar .char c0))).sf (upd ((Z.ro k0).f) (Int32.toNatClampNeg ((Z.ro k0).n)) v0)).sg (upd ((Z.ro k0).g) (Int32.toNatClampNeg ((Z.ro k0).n)) y0)).sn (((Z.ro k0).n) + 1))) G) H _ sz := g_eqw w (ov_wro (S := Z) (v := ((((Z.ro k0).sl (upd ((Z.ro k0).l) (Int32.toNatClampNeg ((Z.ro k0).n)) (vp_nar .char c0))).sf (upd ((Z.ro k0).f) (Int32.toNatClampNeg ((Z.ro k0).n)) v0)).sg (upd ((Z.ro k0).g) (Int32.toNatClampNeg ((Z.ro k0).n)) y0))) (v' := (((((Z.ro k0).sl (upd ((Z.ro k0).l) (Int32.toNatClampNeg ((Z.ro k0).n)) (vp_nar .char c0))).sf (upd ((Z.ro k0).f) (Int32.toNatClampNeg ((Z.ro k0).n)) v0)).sg (upd ((Z.ro k0).g) (Int32.toNatClampNeg ((Z.ro k0).n)) y0)).sn (((Z.ro k0).n) + 1))) hk.v (hk.e_ro hv_k0) rfl rfl rfl rfl rfl rfl)
    exact g_vret hx hb hr hlk w (Nat.le_of_ble_eq_true rfl) (Nat.le_of_ble_eq_true rfl) dX3_enlist_52 ⟨_, ((sX3_enlist_u Z k0 c0 v0 y0).trans (if_neg c_9)), rfl, (hk.plain (T := (Z.roS k0 (((((Z.ro k0).sl (upd ((Z.ro k0).l) (Int32.toNatClampNeg ((Z.ro k0).n)) (vp_nar .char c0))).sf (upd ((Z.ro k0).f) (Int32.toNatClampNeg ((Z.ro k0).n)) v0)).sg (upd ((Z.ro k0).g) (Int32.toNatClampNeg ((Z.ro k0).n)) y0)).sn (((Z.ro k0).n) + 1)))) rfl rfl rfl rfl rfl rfl rfl)⟩
def sX1_cls (Z : Ho) (i0 : Fin 12) : Int32 := oc ((Z.fr i0).o) (0) (fun k1 => (Z.to k1).c)
theorem sX1_cls_u (Z : Ho) (i0 : Fin 12) : sX1_cls Z i0 = oc ((Z.fr i0).o) (0) (fun k1 => (Z.to k1).c) := rfl
set_option maxHeartbeats 4000000 in
set_option maxRecDepth 100000 in
theorem hX1_cls (l : Launch) (D : va_G) (ar : Nat → ClassId) (κ : Nat → Nat) (G : gW) (x : Xo) (Z : Ho) (sz : Nat) (i0 : Fin 12) (hk : OK x Z) : Met l yX1_cls (lwC yX1_cls cX1_cls 1 (some .int)) (rD 4 0 0) (g_Pc D vwCl (gT ar) (EX1 κ) (ov κ ar x Z G) sz [.ref (x.f (.fr i0))]) (g_Qi D vwCl (g_A (ov κ ar x Z G) sz) (fun r u => r = sX1_cls Z i0 ∧ u = (ov κ ar x Z G, sz))) 0 0 (g_A (ov κ ar x Z G) sz) := by
  refine g_ofW (by decide +kernel) (Nat.le_of_ble_eq_true rfl) ?_
  intro p e s m below meth c ls S hr hlk hin hE w hl
  have hx := S.1
  have hb := S.2.1
  have hl : lv_has ls 1 [(0, .ref (x.f (.fr i0)))] := hl
  refine lv_aload_n hx hb dX1_cls_0 rfl (lv_at hl 0 rfl) ?_
  refine gf_RX1_21_7 (v := va_rf (((Z.fr i0).o).map (fun k9 => x.f (.to k9)))) S hE w (ov_r (t := .fr i0) (hk.e (.fr i0) rfl)) rfl dX1_cls_1 ?_
  rcases he2 : (Z.fr i0).o with _ | k1
  · show W p l e _ s m _ below meth c _ _ _ _ _ (F0 m 4 ls [.null])
    refine lv_ifnonnullN hx hb dX1_cls_4 ?_
    refine lv_iconst (v := 0) hx hb dX1_cls_7 (by decide) ?_
    refine lv_goto (tgt := 18) hx hb dX1_cls_8 (by decide) ?_
    exact g_iret hx hb hr hlk w (Nat.le_of_ble_eq_true rfl) (Nat.le_of_ble_eq_true rfl) dX1_cls_18 ⟨(((sX1_cls_u Z i0).trans (oc_n he2))).symm, rfl⟩
  · show W p l e _ s m _ below meth c _ _ _ _ _ (F0 m 4 ls [.ref (x.f (.to k1))])
    refine lv_ifnonnull (tgt := 11) hx hb dX1_cls_4 (by decide) ?_
    refine lv_aload_n hx hb dX1_cls_11 rfl (lv_at hl 0 rfl) ?_
    refine gf_RX1_21_7 (v := va_rf (((Z.fr i0).o).map (fun k9 => x.f (.to k9)))) S hE w (ov_r (t := .fr i0) (hk.e (.fr i0) rfl)) rfl dX1_cls_12 ?_
    rw [he2]
    show W p l e _ s m _ below meth c _ _ _ _ _ (F0 m 15 ls [.ref (x.f (.to k1))])
    refine gf_RX1_44_12 (v := .int ((Z.to k1).c)) S hE w (ov_r (t := .to k1) (hk.e_to (hk.o he2))) rfl dX1_cls_15 ?_
    exact g_iret hx hb hr hlk w (Nat.le_of_ble_eq_true rfl) (Nat.le_of_ble_eq_true rfl) dX1_cls_18 ⟨(((sX1_cls_u Z i0).trans (oc_s he2))).symm, rfl⟩
def sX1_selector (Z : Ho) (i0 : Fin 12) : Int32 := oc ((Z.fr i0).o) (0) (fun k1 => (Z.to k1).s)
theorem sX1_selector_u (Z : Ho) (i0 : Fin 12) : sX1_selector Z i0 = oc ((Z.fr i0).o) (0) (fun k1 => (Z.to k1).s) := rfl
set_option maxHeartbeats 4000000 in
set_option maxRecDepth 100000 in
theorem hX1_selector (l : Launch) (D : va_G) (ar : Nat → ClassId) (κ : Nat → Nat) (G : gW) (x : Xo) (Z : Ho) (sz : Nat) (i0 : Fin 12) (hk : OK x Z) : Met l yX1_selector (lwC yX1_selector cX1_selector 1 (some .int)) (rD 4 0 0) (g_Pc D vwCl (gT ar) (EX1 κ) (ov κ ar x Z G) sz [.ref (x.f (.fr i0))]) (g_Qi D vwCl (g_A (ov κ ar x Z G) sz) (fun r u => r = sX1_selector Z i0 ∧ u = (ov κ ar x Z G, sz))) 0 0 (g_A (ov κ ar x Z G) sz) := by
  refine g_ofW (by decide +kernel) (Nat.le_of_ble_eq_true rfl) ?_
  intro p e s m below meth c ls S hr hlk hin hE w hl
  have hx := S.1
  have hb := S.2.1
  have hl : lv_has ls 1 [(0, .ref (x.f (.fr i0)))] := hl
  refine lv_aload_n hx hb dX1_selector_0 rfl (lv_at hl 0 rfl) ?_
  refine gf_RX1_21_7 (v := va_rf (((Z.fr i0).o).map (fun k9 => x.f (.to k9)))) S hE w (ov_r (t := .fr i0) (hk.e (.fr i0) rfl)) rfl dX1_selector_1 ?_
  rcases he2 : (Z.fr i0).o with _ | k1
  · show W p l e _ s m _ below meth c _ _ _ _ _ (F0 m 4 ls [.null])
    refine lv_ifnonnullN hx hb dX1_selector_4 ?_
    refine lv_iconst (v := 0) hx hb dX1_selector_7 (by decide) ?_
    refine lv_goto (tgt := 18) hx hb dX1_selector_8 (by decide) ?_
    exact g_iret hx hb hr hlk w (Nat.le_of_ble_eq_true rfl) (Nat.le_of_ble_eq_true rfl) dX1_selector_18 ⟨(((sX1_selector_u Z i0).trans (oc_n he2))).symm, rfl⟩
  · show W p l e _ s m _ below meth c _ _ _ _ _ (F0 m 4 ls [.ref (x.f (.to k1))])
    refine lv_ifnonnull (tgt := 11) hx hb dX1_selector_4 (by decide) ?_
    refine lv_aload_n hx hb dX1_selector_11 rfl (lv_at hl 0 rfl) ?_
    refine gf_RX1_21_7 (v := va_rf (((Z.fr i0).o).map (fun k9 => x.f (.to k9)))) S hE w (ov_r (t := .fr i0) (hk.e (.fr i0) rfl)) rfl dX1_selector_12 ?_
    rw [he2]
    show W p l e _ s m _ below meth c _ _ _ _ _ (F0 m 15 ls [.ref (x.f (.to k1))])
    refine gf_RX1_49_12 (v := .int ((Z.to k1).s)) S hE w (ov_r (t := .to k1) (hk.e_to (hk.o he2))) rfl dX1_selector_15 ?_
    exact g_iret hx hb hr hlk w (Nat.le_of_ble_eq_true rfl) (Nat.le_of_ble_eq_true rfl) dX1_selector_18 ⟨(((sX1_selector_u Z i0).trans (oc_s he2))).symm, rfl⟩
def sX1_letter (Z : Ho) (i0 : Fin 12) : Int32 := oc ((Z.fr i0).o) (114) (fun k1 => vp_nar .char (sX3_letterAt Z ((Z.to k1).q) ((Z.fr i0).w)))
theorem sX1_letter_u (Z : Ho) (i0 : Fin 12) : sX1_letter Z i0 = oc ((Z.fr i0).o) (114) (fun k1 => vp_nar .char (sX3_letterAt Z ((Z.to k1).q) ((Z.fr i0).w))) := rfl
set_option maxHeartbeats 4000000 in
set_option maxRecDepth 100000 in
theorem hX1_letter (l : Launch) (D : va_G) (ar : Nat → ClassId) (κ : Nat → Nat) (G : gW) (x : Xo) (Z : Ho) (sz : Nat) (i0 : Fin 12) (hk : OK x Z) : Met l yX1_letter (lwC yX1_letter cX1_letter 1 (some .char)) (rD 5 0 0) (g_Pc D vwCl (gT ar) (EX1 κ) (ov κ ar x Z G) sz [.ref (x.f (.fr i0))]) (g_Qi D vwCl (g_A (ov κ ar x Z G) sz) (fun r u => r = sX1_letter Z i0 ∧ u = (ov κ ar x Z G, sz))) 0 0 (g_A (ov κ ar x Z G) sz) := by
  refine g_ofW (by decide +kernel) (Nat.le_of_ble_eq_true rfl) ?_
  intro p e s m below meth c ls S hr hlk hin hE w hl
  have hx := S.1
  have hb := S.2.1
  have hl : lv_has ls 1 [(0, .ref (x.f (.fr i0)))] := hl
  refine lv_aload_n hx hb dX1_letter_0 rfl (lv_at hl 0 rfl) ?_
  refine gf_RX1_21_7 (v := va_rf (((Z.fr i0).o).map (fun k9 => x.f (.to k9)))) S hE w (ov_r (t := .fr i0) (hk.e (.fr i0) rfl)) rfl dX1_letter_1 ?_
  rcases he2 : (Z.fr i0).o with _ | k1
  · show W p l e _ s m _ below meth c _ _ _ _ _ (F0 m 4 ls [.null])
    refine lv_ifnonnullN hx hb dX1_letter_4 ?_
    refine lv_bipush (v := 114) hx hb dX1_letter_7 (by decide) ?_
    refine lv_goto (tgt := 26) hx hb dX1_letter_9 (by decide) ?_
    exact g_zret hx hb hr hlk w (Nat.le_of_ble_eq_true rfl) (Nat.le_of_ble_eq_true rfl) dX1_letter_26 rfl ⟨(((sX1_letter_u Z i0).trans (oc_n he2))).symm, rfl⟩
  · show W p l e _ s m _ below meth c _ _ _ _ _ (F0 m 4 ls [.ref (x.f (.to k1))])
    refine lv_ifnonnull (tgt := 12) hx hb dX1_letter_4 (by decide) ?_
    refine lv_aload_n hx hb dX1_letter_12 rfl (lv_at hl 0 rfl) ?_
    refine gf_RX1_21_7 (v := va_rf (((Z.fr i0).o).map (fun k9 => x.f (.to k9)))) S hE w (ov_r (t := .fr i0) (hk.e (.fr i0) rfl)) rfl dX1_letter_13 ?_
    rw [he2]
    show W p l e _ s m _ below meth c _ _ _ _ _ (F0 m 16 ls [.ref (x.f (.to k1))])
    refine gf_RX1_52_12 (v := .ref (x.f (.ro ((Z.to k1).q)))) S hE w (ov_r (t := .to k1) (hk.e_to (hk.o he2))) rfl dX1_letter_16 ?_
    refine lv_aload_n hx hb dX1_letter_19 rfl (lv_at hl 0 rfl) ?_
    refine gf_RX1_31_7 (v := .int ((Z.fr i0).w)) S hE w (ov_r (t := .fr i0) (hk.e (.fr i0) rfl)) rfl dX1_letter_20 ?_
    refine g_calli w (g_runV (As := [.int ((Z.fr i0).w)]) (rest := []) S hE w hl (hX3_letterAt l D ar κ G x Z sz ((Z.to k1).q) ((Z.fr i0).w) hk (hk.q (hk.o he2))) (k_RX1_56 S.2.2.2.2 ⟨Nat.le_of_ble_eq_true rfl, Nat.le_of_ble_eq_true rfl⟩) (ov_r (t := .ro ((Z.to k1).q)) (hk.e_ro (hk.q (hk.o he2)))) rfl rfl rfl rfl (Nat.le_of_ble_eq_true rfl) dX1_letter_23 ⟨Nat.le_of_ble_eq_true rfl, Nat.le_of_ble_eq_true rfl⟩) (fun r u H locs hp hnz w => ?_)
    obtain ⟨rfl, rfl⟩ := hp
    dsimp only at w
    exact g_zretN (v := vp_nar .char (sX3_letterAt Z ((Z.to k1).q) ((Z.fr i0).w))) hx hb hr hlk w (Nat.le_of_ble_eq_true rfl) (Nat.le_of_ble_eq_true rfl) dX1_letter_26 rfl ⟨(((sX1_letter_u Z i0).trans (oc_s he2))).symm, rfl⟩
def sX1_first (Z : Ho) (i0 : Fin 12) : Int32 := oc ((Z.fr i0).o) (0) (fun k1 => sX3_firstAt Z ((Z.to k1).q) ((Z.fr i0).w))
theorem sX1_first_u (Z : Ho) (i0 : Fin 12) : sX1_first Z i0 = oc ((Z.fr i0).o) (0) (fun k1 => sX3_firstAt Z ((Z.to k1).q) ((Z.fr i0).w)) := rfl
set_option maxHeartbeats 4000000 in
set_option maxRecDepth 100000 in
theorem hX1_first (l : Launch) (D : va_G) (ar : Nat → ClassId) (κ : Nat → Nat) (G : gW) (x : Xo) (Z : Ho) (sz : Nat) (i0 : Fin 12) (hk : OK x Z) : Met l yX1_first (lwC yX1_first cX1_first 1 (some .int)) (rD 5 0 0) (g_Pc D vwCl (gT ar) (EX1 κ) (ov κ ar x Z G) sz [.ref (x.f (.fr i0))]) (g_Qi D vwCl (g_A (ov κ ar x Z G) sz) (fun r u => r = sX1_first Z i0 ∧ u = (ov κ ar x Z G, sz))) 0 0 (g_A (ov κ ar x Z G) sz) := by
  refine g_ofW (by decide +kernel) (Nat.le_of_ble_eq_true rfl) ?_
  intro p e s m below meth c ls S hr hlk hin hE w hl
  have hx := S.1
  have hb := S.2.1
  have hl : lv_has ls 1 [(0, .ref (x.f (.fr i0)))] := hl
  refine lv_aload_n hx hb dX1_first_0 rfl (lv_at hl 0 rfl) ?_
  refine gf_RX1_21_7 (v := va_rf (((Z.fr i0).o).map (fun k9 => x.f (.to k9)))) S hE w (ov_r (t := .fr i0) (hk.e (.fr i0) rfl)) rfl dX1_first_1 ?_
  rcases he2 : (Z.fr i0).o with _ | k1
  · show W p l e _ s m _ below meth c _ _ _ _ _ (F0 m 4 ls [.null])
    refine lv_ifnonnullN hx hb dX1_first_4 ?_
    refine lv_iconst (v := 0) hx hb dX1_first_7 (by decide) ?_
    refine lv_goto (tgt := 25) hx hb dX1_first_8 (by decide) ?_
    exact g_iret hx hb hr hlk w (Nat.le_of_ble_eq_true rfl) (Nat.le_of_ble_eq_true rfl) dX1_first_25 ⟨(((sX1_first_u Z i0).trans (oc_n he2))).symm, rfl⟩
  · show W p l e _ s m _ below meth c _ _ _ _ _ (F0 m 4 ls [.ref (x.f (.to k1))])
    refine lv_ifnonnull (tgt := 11) hx hb dX1_first_4 (by decide) ?_
    refine lv_aload_n hx hb dX1_first_11 rfl (lv_at hl 0 rfl) ?_
    refine gf_RX1_21_7 (v := va_rf (((Z.fr i0).o).map (fun k9 => x.f (.to k9)))) S hE w (ov_r (t := .fr i0) (hk.e (.fr i0) rfl)) rfl dX1_first_12 ?_
    rw [he2]
    show W p l e _ s m _ below meth c _ _ _ _ _ (F0 m 15 ls [.ref (x.f (.to k1))])
    refine gf_RX1_52_12 (v := .ref (x.f (.ro ((Z.to k1).q)))) S hE w (ov_r (t := .to k1) (hk.e_to (hk.o he2))) rfl dX1_first_15 ?_
    refine lv_aload_n hx hb dX1_first_18 rfl (lv_at hl 0 rfl) ?_
    refine gf_RX1_31_7 (v := .int ((Z.fr i0).w)) S hE w (ov_r (t := .fr i0) (hk.e (.fr i0) rfl)) rfl dX1_first_19 ?_
    refine g_calli w (g_runV (As := [.int ((Z.fr i0).w)]) (rest := []) S hE w hl (hX3_firstAt l D ar κ G x Z sz ((Z.to k1).q) ((Z.fr i0).w) hk (hk.q (hk.o he2))) (k_RX1_62 S.2.2.2.2 ⟨Nat.le_of_ble_eq_true rfl, Nat.le_of_ble_eq_true rfl⟩) (ov_r (t := .ro ((Z.to k1).q)) (hk.e_ro (hk.q (hk.o he2)))) rfl rfl rfl rfl (Nat.le_of_ble_eq_true rfl) dX1_first_22 ⟨Nat.le_of_ble_eq_true rfl, Nat.le_of_ble_eq_true rfl⟩) (fun r u H locs hp hnz w => ?_)
    obtain ⟨rfl, rfl⟩ := hp
    dsimp only at w
    exact g_iret hx hb hr hlk w (Nat.le_of_ble_eq_true rfl) (Nat.le_of_ble_eq_true rfl) dX1_first_25 ⟨(((sX1_first_u Z i0).trans (oc_s he2))).symm, rfl⟩
def sX1_second (Z : Ho) (i0 : Fin 12) : Int32 := oc ((Z.fr i0).o) (0) (fun k1 => sX3_secondAt Z ((Z.to k1).q) ((Z.fr i0).w))
theorem sX1_second_u (Z : Ho) (i0 : Fin 12) : sX1_second Z i0 = oc ((Z.fr i0).o) (0) (fun k1 => sX3_secondAt Z ((Z.to k1).q) ((Z.fr i0).w)) := rfl
set_option maxHeartbeats 4000000 in
set_option maxRecDepth 100000 in
theorem hX1_second (l : Launch) (D : va_G) (ar : Nat → ClassId) (κ : Nat → Nat) (G : gW) (x : Xo) (Z : Ho) (sz : Nat) (i0 : Fin 12) (hk : OK x Z) : Met l yX1_second (lwC yX1_second cX1_second 1 (some .int)) (rD 5 0 0) (g_Pc D vwCl (gT ar) (EX1 κ) (ov κ ar x Z G) sz [.ref (x.f (.fr i0))]) (g_Qi D vwCl (g_A (ov κ ar x Z G) sz) (fun r u => r = sX1_second Z i0 ∧ u = (ov κ ar x Z G, sz))) 0 0 (g_A (ov κ ar x Z G) sz) := by
  refine g_ofW (by decide +kernel) (Nat.le_of_ble_eq_true rfl) ?_
  intro p e s m below meth c ls S hr hlk hin hE w hl
  have hx := S.1
  have hb := S.2.1
  have hl : lv_has ls 1 [(0, .ref (x.f (.fr i0)))] := hl
  refine lv_aload_n hx hb dX1_second_0 rfl (lv_at hl 0 rfl) ?_
  refine gf_RX1_21_7 (v := va_rf (((Z.fr i0).o).map (fun k9 => x.f (.to k9)))) S hE w (ov_r (t := .fr i0) (hk.e (.fr i0) rfl)) rfl dX1_second_1 ?_
  rcases he2 : (Z.fr i0).o with _ | k1
  · show W p l e _ s m _ below meth c _ _ _ _ _ (F0 m 4 ls [.null])
    refine lv_ifnonnullN hx hb dX1_second_4 ?_
    refine lv_iconst (v := 0) hx hb dX1_second_7 (by decide) ?_
    refine lv_goto (tgt := 25) hx hb dX1_second_8 (by decide) ?_
    exact g_iret hx hb hr hlk w (Nat.le_of_ble_eq_true rfl) (Nat.le_of_ble_eq_true rfl) dX1_second_25 ⟨(((sX1_second_u Z i0).trans (oc_n he2))).symm, rfl⟩
  · show W p l e _ s m _ below meth c _ _ _ _ _ (F0 m 4 ls [.ref (x.f (.to k1))])
    refine lv_ifnonnull (tgt := 11) hx hb dX1_second_4 (by decide) ?_
    refine lv_aload_n hx hb dX1_second_11 rfl (lv_at hl 0 rfl) ?_
    refine gf_RX1_21_7 (v := va_rf (((Z.fr i0).o).map (fun k9 => x.f (.to k9)))) S hE w (ov_r (t := .fr i0) (hk.e (.fr i0) rfl)) rfl dX1_second_12 ?_
    rw [he2]
    show W p l e _ s m _ below meth c _ _ _ _ _ (F0 m 15 ls [.ref (x.f (.to k1))])
    refine gf_RX1_52_12 (v := .ref (x.f (.ro ((Z.to k1).q)))) S hE w (ov_r (t := .to k1) (hk.e_to (hk.o he2))) rfl dX1_second_15 ?_
    refine lv_aload_n hx hb dX1_second_18 rfl (lv_at hl 0 rfl) ?_
    refine gf_RX1_31_7 (v := .int ((Z.fr i0).w)) S hE w (ov_r (t := .fr i0) (hk.e (.fr i0) rfl)) rfl dX1_second_19 ?_
    refine g_calli w (g_runV (As := [.int ((Z.fr i0).w)]) (rest := []) S hE w hl (hX3_secondAt l D ar κ G x Z sz ((Z.to k1).q) ((Z.fr i0).w) hk (hk.q (hk.o he2))) (k_RX1_66 S.2.2.2.2 ⟨Nat.le_of_ble_eq_true rfl, Nat.le_of_ble_eq_true rfl⟩) (ov_r (t := .ro ((Z.to k1).q)) (hk.e_ro (hk.q (hk.o he2)))) rfl rfl rfl rfl (Nat.le_of_ble_eq_true rfl) dX1_second_22 ⟨Nat.le_of_ble_eq_true rfl, Nat.le_of_ble_eq_true rfl⟩) (fun r u H locs hp hnz w => ?_)
    obtain ⟨rfl, rfl⟩ := hp
    dsimp only at w
    exact g_iret hx hb hr hlk w (Nat.le_of_ble_eq_true rfl) (Nat.le_of_ble_eq_true rfl) dX1_second_25 ⟨(((sX1_second_u Z i0).trans (oc_s he2))).symm, rfl⟩
def sX1_depthAsTold (Z : Ho) (i0 : Fin 12) : Int32 := oc ((Z.fr i0).o) (0) (fun k1 => sX3_depthAt Z ((Z.to k1).q) ((Z.fr i0).w))
theorem sX1_depthAsTold_u (Z : Ho) (i0 : Fin 12) : sX1_depthAsTold Z i0 = oc ((Z.fr i0).o) (0) (fun k1 => sX3_depthAt Z ((Z.to k1).q) ((Z.fr i0).w)) := rfl
set_option maxHeartbeats 4000000 in
set_option maxRecDepth 100000 in
theorem hX1_depthAsTold (l : Launch) (D : va_G) (ar : Nat → ClassId) (κ : Nat → Nat) (G : gW) (x : Xo) (Z : Ho) (sz : Nat) (i0 : Fin 12) (hk : OK x Z) : Met l yX1_depthAsTold (lwC yX1_depthAsTold cX1_depthAsTold 1 (some .int)) (rD 5 0 0) (g_Pc D vwCl (gT ar) (EX1 κ) (ov κ ar x Z G) sz [.ref (x.f (.fr i0))]) (g_Qi D vwCl (g_A (ov κ ar x Z G) sz) (fun r u => r = sX1_depthAsTold Z i0 ∧ u = (ov κ ar x Z G, sz))) 0 0 (g_A (ov κ ar x Z G) sz) := by
  refine g_ofW (by decide +kernel) (Nat.le_of_ble_eq_true rfl) ?_
  intro p e s m below meth c ls S hr hlk hin hE w hl
  have hx := S.1
  have hb := S.2.1
  have hl : lv_has ls 1 [(0, .ref (x.f (.fr i0)))] := hl
  refine lv_aload_n hx hb dX1_depthAsTold_0 rfl (lv_at hl 0 rfl) ?_
  refine gf_RX1_21_7 (v := va_rf (((Z.fr i0).o).map (fun k9 => x.f (.to k9)))) S hE w (ov_r (t := .fr i0) (hk.e (.fr i0) rfl)) rfl dX1_depthAsTold_1 ?_
  rcases he2 : (Z.fr i0).o with _ | k1
  · show W p l e _ s m _ below meth c _ _ _ _ _ (F0 m 4 ls [.null])
    refine lv_ifnonnullN hx hb dX1_depthAsTold_4 ?_
    refine lv_iconst (v := 0) hx hb dX1_depthAsTold_7 (by decide) ?_
    refine lv_goto (tgt := 25) hx hb dX1_depthAsTold_8 (by decide) ?_
    exact g_iret hx hb hr hlk w (Nat.le_of_ble_eq_true rfl) (Nat.le_of_ble_eq_true rfl) dX1_depthAsTold_25 ⟨(((sX1_depthAsTold_u Z i0).trans (oc_n he2))).symm, rfl⟩
  · show W p l e _ s m _ below meth c _ _ _ _ _ (F0 m 4 ls [.ref (x.f (.to k1))])
    refine lv_ifnonnull (tgt := 11) hx hb dX1_depthAsTold_4 (by decide) ?_
    refine lv_aload_n hx hb dX1_depthAsTold_11 rfl (lv_at hl 0 rfl) ?_
    refine gf_RX1_21_7 (v := va_rf (((Z.fr i0).o).map (fun k9 => x.f (.to k9)))) S hE w (ov_r (t := .fr i0) (hk.e (.fr i0) rfl)) rfl dX1_depthAsTold_12 ?_
    rw [he2]
    show W p l e _ s m _ below meth c _ _ _ _ _ (F0 m 15 ls [.ref (x.f (.to k1))])
    refine gf_RX1_52_12 (v := .ref (x.f (.ro ((Z.to k1).q)))) S hE w (ov_r (t := .to k1) (hk.e_to (hk.o he2))) rfl dX1_depthAsTold_15 ?_
    refine lv_aload_n hx hb dX1_depthAsTold_18 rfl (lv_at hl 0 rfl) ?_
    refine gf_RX1_31_7 (v := .int ((Z.fr i0).w)) S hE w (ov_r (t := .fr i0) (hk.e (.fr i0) rfl)) rfl dX1_depthAsTold_19 ?_
    refine g_calli w (g_runV (As := [.int ((Z.fr i0).w)]) (rest := []) S hE w hl (hX3_depthAt l D ar κ G x Z sz ((Z.to k1).q) ((Z.fr i0).w) hk (hk.q (hk.o he2))) (k_RX1_69 S.2.2.2.2 ⟨Nat.le_of_ble_eq_true rfl, Nat.le_of_ble_eq_true rfl⟩) (ov_r (t := .ro ((Z.to k1).q)) (hk.e_ro (hk.q (hk.o he2)))) rfl rfl rfl rfl (Nat.le_of_ble_eq_true rfl) dX1_depthAsTold_22 ⟨Nat.le_of_ble_eq_true rfl, Nat.le_of_ble_eq_true rfl⟩) (fun r u H locs hp hnz w => ?_)
    obtain ⟨rfl, rfl⟩ := hp
    dsimp only at w
    exact g_iret hx hb hr hlk w (Nat.le_of_ble_eq_true rfl) (Nat.le_of_ble_eq_true rfl) dX1_depthAsTold_25 ⟨(((sX1_depthAsTold_u Z i0).trans (oc_s he2))).symm, rfl⟩
def sX1_push (Z : Ho) (i0 : Fin 12) (v0 : Int64) : Ho := if isB ((Z.fr i0).d) 8 = 0 then (Z) else ((Z.frS i0 (((Z.fr i0).sp (vp_updL ((Z.fr i0).p) (Int32.toNatClampNeg ((Z.fr i0).d)) v0)).sd (((Z.fr i0).d) + 1))))
theorem sX1_push_u (Z : Ho) (i0 : Fin 12) (v0 : Int64) : sX1_push Z i0 v0 = if isB ((Z.fr i0).d) 8 = 0 then (Z) else ((Z.frS i0 (((Z.fr i0).sp (vp_updL ((Z.fr i0).p) (Int32.toNatClampNeg ((Z.fr i0).d)) v0)).sd (((Z.fr i0).d) + 1)))) := rfl
set_option maxHeartbeats 4000000 in
set_option maxRecDepth 100000 in
theorem hX1_push (l : Launch) (D : va_G) (ar : Nat → ClassId) (κ : Nat → Nat) (G : gW) (x : Xo) (Z : Ho) (sz : Nat) (i0 : Fin 12) (v0 : Int64) (hk : OK x Z) : Met l yX1_push (lwC yX1_push cX1_push 3 none) (rD 4 0 0) (g_Pc D vwCl (gT ar) (EX1 κ) (ov κ ar x Z G) sz [.ref (x.f (.fr i0)), .long v0]) (g_Qv D vwCl (g_A (ov κ ar x Z G) sz) (fun u => ∃ T9 : Ho, sX1_push Z i0 v0 = T9 ∧ u = (ov κ ar x T9 G, sz) ∧ OK x T9)) 0 0 (g_A (ov κ ar x Z G) sz) := by
  refine g_ofW (by decide +kernel) (Nat.le_of_ble_eq_true rfl) ?_
  intro p e s m below meth c ls S hr hlk hin hE w hl
  have hx := S.1
  have hb := S.2.1
  have hl : lv_has ls 3 [(0, .ref (x.f (.fr i0))), (1, .long v0)] := hl
  refine lv_aload_n hx hb dX1_push_0 rfl (lv_at hl 0 rfl) ?_
  refine gf_RX1_35_7 (v := .int ((Z.fr i0).d)) S hE w (ov_r (t := .fr i0) (hk.e (.fr i0) rfl)) rfl dX1_push_1 ?_
  refine lv_aload_n hx hb dX1_push_4 rfl (lv_at hl 0 rfl) ?_
  refine gf_RX1_18_7 (v := .ref (x.f (.fp i0))) S hE w (ov_r (t := .fr i0) (hk.e (.fr i0) rfl)) rfl dX1_push_5 ?_
  refine va_alen (v := 8) hx hb hE.1 (g_1 w.1 (ov_r (t := .fp i0) (hk.e (.fp i0) rfl))) 0 1 rfl rfl rfl dX1_push_8 ?_
  refine g_calli w (g_runSN (As := [.int ((Z.fr i0).d), .int 8]) (rest := []) S hE w hl (c_X8_isBelow l D ar κ (ov κ ar x Z G) sz ((Z.fr i0).d) 8) (k_RX1_72 S.2.2.2.2 (hE.2.1.1 _ (ckN_1 _ (List.mem_of_getElem? (i := 10) rfl))) ⟨Nat.le_of_ble_eq_true rfl, Nat.le_of_ble_eq_true rfl⟩) rfl rfl (Nat.le_of_ble_eq_true rfl) dX1_push_9 ⟨Nat.le_of_ble_eq_true rfl, Nat.le_of_ble_eq_true rfl⟩) (fun r u H locs hp hnz w => ?_)
  obtain ⟨rfl, rfl⟩ := hp
  dsimp only at w
  refine lv_if_eq (tgt := 35) hx hb dX1_push_12 (by decide) (fun c_12 => ?_) (fun c_12 => ?_)
  · exact g_vret hx hb hr hlk w (Nat.le_of_ble_eq_true rfl) (Nat.le_of_ble_eq_true rfl) dX1_push_35 ⟨_, ((sX1_push_u Z i0 v0).trans (if_pos c_12)), rfl, hk⟩
  · refine lv_aload_n hx hb dX1_push_15 rfl (lv_at hl 0 rfl) ?_
    refine gf_RX1_18_7 (v := .ref (x.f (.fp i0))) S hE w (ov_r (t := .fr i0) (hk.e (.fr i0) rfl)) rfl dX1_push_16 ?_
    refine lv_aload_n hx hb dX1_push_19 rfl (lv_at hl 0 rfl) ?_
    refine gf_RX1_35_7 (v := .int ((Z.fr i0).d)) S hE w (ov_r (t := .fr i0) (hk.e (.fr i0) rfl)) rfl dX1_push_20 ?_
    refine lv_lload_n hx hb dX1_push_23 rfl (lv_at hl 1 rfl) ?_
    refine g_last hx hb hE.1 w 1 (ov_r (t := .fp i0) (hk.e (.fp i0) rfl)) rfl (vinB (n := 8) rfl (by decide) c_12) dX1_push_24 (fun H locs w => ?_)
    have w := g_eqw w (congrArg (fun Z9 => g_up (ov κ ar x Z9 G) (x.f (.fp i0)) (.inl (ar 1, 8, .inr (.inl (vp_updL ((Z.fr i0).p) (Int32.toNatClampNeg ((Z.fr i0).d)) v0))))) (frS_id (S := Z) (i := i0)).symm)
    have w : g_S D vwCl (g_A (ov κ ar x Z G) sz) s.heap (ov κ ar x (Z.frS i0 ((Z.fr i0).sp (vp_updL ((Z.fr i0).p) (Int32.toNatClampNeg ((Z.fr i0).d)) v0))) G) H _ sz := g_eqw w (ov_wfp (S := Z) (v := (Z.fr i0)) (v' := ((Z.fr i0).sp (vp_updL ((Z.fr i0).p) (Int32.toNatClampNeg ((Z.fr i0).d)) v0))) hk.v (hk.e (.fp i0) rfl) rfl rfl rfl rfl rfl rfl rfl)
    refine lv_aload_n hx hb dX1_push_25 rfl (lv_at hl 0 rfl) ?_
    refine lv_dup hx hb dX1_push_26 rfl ?_
    refine gf_RX1_35_7 (v := .int ((Z.fr i0).d)) S hE w (ov_rfr (hk.e (.fr i0) rfl)) rfl dX1_push_27 ?_
    refine lv_iconst (v := 1) hx hb dX1_push_30 (by decide) ?_
    refine lv_iadd hx hb dX1_push_31 ?_
    refine pf_RX1_35_7 (fs1 := [.ref (x.f (.fa i0)), .ref (x.f (.ft i0)), .ref (x.f (.fp i0)), va_rf (((Z.fr i0).o).map (fun k9 => x.f (.to k9))), .long ((Z.fr i0).v), .int ((Z.fr i0).w), .int (((Z.fr i0).d) + 1)]) S hE w (ov_rfr (hk.e (.fr i0) rfl)) rfl rfl (Nat.le_of_ble_eq_true rfl) rfl dX1_push_32 (fun H locs w => ?_)
    have w : g_S D vwCl (g_A (ov κ ar x Z G) sz) s.heap (ov κ ar x (Z.frS i0 (((Z.fr i0).sp (vp_updL ((Z.fr i0).p) (Int32.toNatClampNeg ((Z.fr i0).d)) v0)).sd (((Z.fr i0).d) + 1))) G) H _ sz := g_eqw w (ov_wfr (S := Z) (v := ((Z.fr i0).sp (vp_updL ((Z.fr i0).p) (Int32.toNatClampNeg ((Z.fr i0).d)) v0))) (v' := (((Z.fr i0).sp (vp_updL ((Z.fr i0).p) (Int32.toNatClampNeg ((Z.fr i0).d)) v0)).sd (((Z.fr i0).d) + 1))) hk.v (hk.e (.fr i0) rfl) rfl rfl rfl rfl)
    exact g_vret hx hb hr hlk w (Nat.le_of_ble_eq_true rfl) (Nat.le_of_ble_eq_true rfl) dX1_push_35 ⟨_, ((sX1_push_u Z i0 v0).trans (if_neg c_12)), rfl, (OK.frS (S := Z) hk (fun k9 q9 => hk.o (i := i0) q9))⟩
def sX1_pop (Z : Ho) (i0 : Fin 12) : Int64 × Ho := if 1 ≤ (Z.fr i0).d then ((pA ((Z.fr i0).p) 8 (((Z.fr i0).d) - 1), (Z.frS i0 ((Z.fr i0).sd (((Z.fr i0).d) - 1))))) else ((502511173632, Z))
theorem sX1_pop_u (Z : Ho) (i0 : Fin 12) : sX1_pop Z i0 = if 1 ≤ (Z.fr i0).d then ((pA ((Z.fr i0).p) 8 (((Z.fr i0).d) - 1), (Z.frS i0 ((Z.fr i0).sd (((Z.fr i0).d) - 1))))) else ((502511173632, Z)) := rfl
set_option maxHeartbeats 4000000 in
set_option maxRecDepth 100000 in
theorem hX1_pop (l : Launch) (D : va_G) (ar : Nat → ClassId) (κ : Nat → Nat) (G : gW) (x : Xo) (Z : Ho) (sz : Nat) (i0 : Fin 12) (hk : OK x Z) : Met l yX1_pop (lwC yX1_pop cX1_pop 1 (some .long)) (rD 4 0 0) (g_Pc D vwCl (gT ar) (EX1 κ) (ov κ ar x Z G) sz [.ref (x.f (.fr i0))]) (g_Ql D vwCl (g_A (ov κ ar x Z G) sz) (fun r u => ∃ T9 : Ho, sX1_pop Z i0 = (r, T9) ∧ u = (ov κ ar x T9 G, sz) ∧ OK x T9)) 0 0 (g_A (ov κ ar x Z G) sz) := by
  refine g_ofW (by decide +kernel) (Nat.le_of_ble_eq_true rfl) ?_
  intro p e s m below meth c ls S hr hlk hin hE w hl
  have hx := S.1
  have hb := S.2.1
  have hl : lv_has ls 1 [(0, .ref (x.f (.fr i0)))] := hl
  refine lv_aload_n hx hb dX1_pop_0 rfl (lv_at hl 0 rfl) ?_
  refine gf_RX1_35_7 (v := .int ((Z.fr i0).d)) S hE w (ov_r (t := .fr i0) (hk.e (.fr i0) rfl)) rfl dX1_pop_1 ?_
  refine lv_iconst (v := 1) hx hb dX1_pop_4 (by decide) ?_
  refine lv_icmp_ge (tgt := 12) hx hb dX1_pop_5 (by decide) (fun c_5 => ?_) (fun c_5 => ?_)
  · refine lv_aload_n hx hb dX1_pop_12 rfl (lv_at hl 0 rfl) ?_
    refine lv_dup hx hb dX1_pop_13 rfl ?_
    refine gf_RX1_35_7 (v := .int ((Z.fr i0).d)) S hE w (ov_r (t := .fr i0) (hk.e (.fr i0) rfl)) rfl dX1_pop_14 ?_
    refine lv_iconst (v := 1) hx hb dX1_pop_17 (by decide) ?_
    refine lv_isub hx hb dX1_pop_18 ?_
    refine pf_RX1_35_7 (fs1 := [.ref (x.f (.fa i0)), .ref (x.f (.ft i0)), .ref (x.f (.fp i0)), va_rf (((Z.fr i0).o).map (fun k9 => x.f (.to k9))), .long ((Z.fr i0).v), .int ((Z.fr i0).w), .int (((Z.fr i0).d) - 1)]) S hE w (ov_r (t := .fr i0) (hk.e (.fr i0) rfl)) rfl rfl (Nat.le_of_ble_eq_true rfl) rfl dX1_pop_19 (fun H locs w => ?_)
    have w := g_eqw w (congrArg (fun Z9 => g_up (ov κ ar x Z9 G) (x.f (.fr i0)) (.inr (7, [.ref (x.f (.fa i0)), .ref (x.f (.ft i0)), .ref (x.f (.fp i0)), va_rf (((Z.fr i0).o).map (fun k9 => x.f (.to k9))), .long ((Z.fr i0).v), .int ((Z.fr i0).w), .int (((Z.fr i0).d) - 1)]))) (frS_id (S := Z) (i := i0)).symm)
    have w : g_S D vwCl (g_A (ov κ ar x Z G) sz) s.heap (ov κ ar x (Z.frS i0 ((Z.fr i0).sd (((Z.fr i0).d) - 1))) G) H _ sz := g_eqw w (ov_wfr (S := Z) (v := (Z.fr i0)) (v' := ((Z.fr i0).sd (((Z.fr i0).d) - 1))) hk.v (hk.e (.fr i0) rfl) rfl rfl rfl rfl)
    refine lv_aload_n hx hb dX1_pop_22 rfl (lv_at hl 0 rfl) ?_
    refine gf_RX1_18_7 (v := .ref (x.f (.fp i0))) S hE w (ov_rfr (hk.e (.fr i0) rfl)) rfl dX1_pop_23 ?_
    refine lv_aload_n hx hb dX1_pop_26 rfl (lv_at hl 0 rfl) ?_
    refine gf_RX1_35_7 (v := .int (((Z.fr i0).d) - 1)) S hE w (ov_rfr (hk.e (.fr i0) rfl)) rfl dX1_pop_27 ?_
    refine g_calll w (g_runSN (As := [.ref (x.f (.fp i0)), .int (((Z.fr i0).d) - 1)]) (rest := []) S hE w hl (c_X8_placeAt l D ar κ (ov κ ar x (Z.frS i0 ((Z.fr i0).sd (((Z.fr i0).d) - 1))) G) sz (x.f (.fp i0)) (((Z.fr i0).d) - 1) 8 ((Z.fr i0).p) (ov_rfp (hk.e (.fp i0) rfl)) (by decide)) (k_RX1_76 S.2.2.2.2 (hE.2.1.1 _ (ckN_1 _ (List.mem_of_getElem? (i := 2) rfl))) ⟨Nat.le_of_ble_eq_true rfl, Nat.le_of_ble_eq_true rfl⟩) rfl rfl (Nat.le_of_ble_eq_true rfl) dX1_pop_30 ⟨Nat.le_of_ble_eq_true rfl, Nat.le_of_ble_eq_true rfl⟩) (fun r u H locs hp hnz w => ?_)
    obtain ⟨rfl, rfl⟩ := hp
    dsimp only at w
    exact g_lret hx hb hr hlk w (Nat.le_of_ble_eq_true rfl) (Nat.le_of_ble_eq_true rfl) dX1_pop_33 ⟨_, ((sX1_pop_u Z i0).trans (if_pos c_5)), rfl, (OK.frS (S := Z) hk (fun k9 q9 => hk.o (i := i0) q9))⟩
  · refine lv_ldc2 hx hb S.2.2.2.1 (S.2.2.2.2 _ m_1_217) dX1_pop_8 ?_
    exact g_lret hx hb hr hlk w (Nat.le_of_ble_eq_true rfl) (Nat.le_of_ble_eq_true rfl) dX1_pop_11 ⟨_, ((sX1_pop_u Z i0).trans (if_neg c_5)), rfl, hk⟩
def sX1_fromTop (Z : Ho) (i0 : Fin 12) (j0 : Int32) : Int64 := pA ((Z.fr i0).p) 8 ((((Z.fr i0).d) - 1) - j0)
theorem sX1_fromTop_u (Z : Ho) (i0 : Fin 12) (j0 : Int32) : sX1_fromTop Z i0 j0 = pA ((Z.fr i0).p) 8 ((((Z.fr i0).d) - 1) - j0) := rfl
set_option maxHeartbeats 4000000 in
set_option maxRecDepth 100000 in
theorem hX1_fromTop (l : Launch) (D : va_G) (ar : Nat → ClassId) (κ : Nat → Nat) (G : gW) (x : Xo) (Z : Ho) (sz : Nat) (i0 : Fin 12) (j0 : Int32) (hk : OK x Z) : Met l yX1_fromTop (lwC yX1_fromTop cX1_fromTop 2 (some .long)) (rD 4 0 0) (g_Pc D vwCl (gT ar) (EX1 κ) (ov κ ar x Z G) sz [.ref (x.f (.fr i0)), .int j0]) (g_Ql D vwCl (g_A (ov κ ar x Z G) sz) (fun r u => r = sX1_fromTop Z i0 j0 ∧ u = (ov κ ar x Z G, sz))) 0 0 (g_A (ov κ ar x Z G) sz) := by
  refine g_ofW (by decide +kernel) (Nat.le_of_ble_eq_true rfl) ?_
  intro p e s m below meth c ls S hr hlk hin hE w hl
  have hx := S.1
  have hb := S.2.1
  have hl : lv_has ls 2 [(0, .ref (x.f (.fr i0))), (1, .int j0)] := hl
  refine lv_aload_n hx hb dX1_fromTop_0 rfl (lv_at hl 0 rfl) ?_
  refine gf_RX1_18_7 (v := .ref (x.f (.fp i0))) S hE w (ov_r (t := .fr i0) (hk.e (.fr i0) rfl)) rfl dX1_fromTop_1 ?_
  refine lv_aload_n hx hb dX1_fromTop_4 rfl (lv_at hl 0 rfl) ?_
  refine gf_RX1_35_7 (v := .int ((Z.fr i0).d)) S hE w (ov_r (t := .fr i0) (hk.e (.fr i0) rfl)) rfl dX1_fromTop_5 ?_
  refine lv_iconst (v := 1) hx hb dX1_fromTop_8 (by decide) ?_
  refine lv_isub hx hb dX1_fromTop_9 ?_
  refine lv_iload_n hx hb dX1_fromTop_10 rfl (lv_at hl 1 rfl) ?_
  refine lv_isub hx hb dX1_fromTop_11 ?_
  refine g_calll w (g_runSN (As := [.ref (x.f (.fp i0)), .int ((((Z.fr i0).d) - 1) - j0)]) (rest := []) S hE w hl (c_X8_placeAt l D ar κ (ov κ ar x Z G) sz (x.f (.fp i0)) ((((Z.fr i0).d) - 1) - j0) 8 ((Z.fr i0).p) (ov_r (t := .fp i0) (hk.e (.fp i0) rfl)) (by decide)) (k_RX1_76 S.2.2.2.2 (hE.2.1.1 _ (ckN_1 _ (List.mem_of_getElem? (i := 2) rfl))) ⟨Nat.le_of_ble_eq_true rfl, Nat.le_of_ble_eq_true rfl⟩) rfl rfl (Nat.le_of_ble_eq_true rfl) dX1_fromTop_12 ⟨Nat.le_of_ble_eq_true rfl, Nat.le_of_ble_eq_true rfl⟩) (fun r u H locs hp hnz w => ?_)
  obtain ⟨rfl, rfl⟩ := hp
  dsimp only at w
  exact g_lret hx hb hr hlk w (Nat.le_of_ble_eq_true rfl) (Nat.le_of_ble_eq_true rfl) dX1_fromTop_15 ⟨((sX1_fromTop_u Z i0 j0)).symm, rfl⟩
def sX1_placesOf (Z : Ho) (i0 : Fin 12) (c0 : Int32) : Int32 := if c0 = 97 then (oc ((Z.fr i0).o) (0) (fun k1 => (Z.to k1).a)) else (if c0 = 116 then (oc ((Z.fr i0).o) (0) (fun k3 => (Z.to k3).t)) else ((Z.fr i0).d))
theorem sX1_placesOf_u (Z : Ho) (i0 : Fin 12) (c0 : Int32) : sX1_placesOf Z i0 c0 = if c0 = 97 then (oc ((Z.fr i0).o) (0) (fun k1 => (Z.to k1).a)) else (if c0 = 116 then (oc ((Z.fr i0).o) (0) (fun k3 => (Z.to k3).t)) else ((Z.fr i0).d)) := rfl
set_option maxHeartbeats 4000000 in
set_option maxRecDepth 100000 in
theorem hX1_placesOf (l : Launch) (D : va_G) (ar : Nat → ClassId) (κ : Nat → Nat) (G : gW) (x : Xo) (Z : Ho) (sz : Nat) (i0 : Fin 12) (c0 : Int32) (hk : OK x Z) : Met l yX1_placesOf (lwC yX1_placesOf cX1_placesOf 2 (some .int)) (rD 4 0 0) (g_Pc D vwCl (gT ar) (EX1 κ) (ov κ ar x Z G) sz [.ref (x.f (.fr i0)), .int c0]) (g_Qi D vwCl (g_A (ov κ ar x Z G) sz) (fun r u => r = sX1_placesOf Z i0 c0 ∧ u = (ov κ ar x Z G, sz))) 0 0 (g_A (ov κ ar x Z G) sz) := by
  refine g_ofW (by decide +kernel) (Nat.le_of_ble_eq_true rfl) ?_
  intro p e s m below meth c ls S hr hlk hin hE w hl
  have hx := S.1
  have hb := S.2.1
  have hl : lv_has ls 2 [(0, .ref (x.f (.fr i0))), (1, .int c0)] := hl
  refine lv_iload_n hx hb dX1_placesOf_0 rfl (lv_at hl 1 rfl) ?_
  by_cases c_1_0 : c0 = 97
  · refine lv_lookup (off := 27) (tgt := 28) hx hb dX1_placesOf_1 (by decide) (by have h9 := c_1_0; (rw [h9]; decide)) (by decide) ?_
    refine lv_aload_n hx hb dX1_placesOf_28 rfl (lv_at hl 0 rfl) ?_
    refine gf_RX1_21_7 (v := va_rf (((Z.fr i0).o).map (fun k9 => x.f (.to k9)))) S hE w (ov_r (t := .fr i0) (hk.e (.fr i0) rfl)) rfl dX1_placesOf_29 ?_
    rcases he2 : (Z.fr i0).o with _ | k1
    · show W p l e _ s m _ below meth c _ _ _ _ _ (F0 m 32 ls [.null])
      refine lv_ifnonnullN hx hb dX1_placesOf_32 ?_
      refine lv_iconst (v := 0) hx hb dX1_placesOf_35 (by decide) ?_
      refine lv_goto (tgt := 46) hx hb dX1_placesOf_36 (by decide) ?_
      exact g_iret hx hb hr hlk w (Nat.le_of_ble_eq_true rfl) (Nat.le_of_ble_eq_true rfl) dX1_placesOf_46 ⟨(((sX1_placesOf_u Z i0 c0).trans ((if_pos c_1_0).trans (oc_n he2)))).symm, rfl⟩
    · show W p l e _ s m _ below meth c _ _ _ _ _ (F0 m 32 ls [.ref (x.f (.to k1))])
      refine lv_ifnonnull (tgt := 39) hx hb dX1_placesOf_32 (by decide) ?_
      refine lv_aload_n hx hb dX1_placesOf_39 rfl (lv_at hl 0 rfl) ?_
      refine gf_RX1_21_7 (v := va_rf (((Z.fr i0).o).map (fun k9 => x.f (.to k9)))) S hE w (ov_r (t := .fr i0) (hk.e (.fr i0) rfl)) rfl dX1_placesOf_40 ?_
      rw [he2]
      show W p l e _ s m _ below meth c _ _ _ _ _ (F0 m 43 ls [.ref (x.f (.to k1))])
      refine gf_RX1_80_12 (v := .int ((Z.to k1).a)) S hE w (ov_r (t := .to k1) (hk.e_to (hk.o he2))) rfl dX1_placesOf_43 ?_
      exact g_iret hx hb hr hlk w (Nat.le_of_ble_eq_true rfl) (Nat.le_of_ble_eq_true rfl) dX1_placesOf_46 ⟨(((sX1_placesOf_u Z i0 c0).trans ((if_pos c_1_0).trans (oc_s he2)))).symm, rfl⟩
  by_cases c_1_1 : c0 = 116
  · refine lv_lookup (off := 46) (tgt := 47) hx hb dX1_placesOf_1 (by decide) (by have h9 := c_1_1; (rw [h9]; decide)) (by decide) ?_
    refine lv_aload_n hx hb dX1_placesOf_47 rfl (lv_at hl 0 rfl) ?_
    refine gf_RX1_21_7 (v := va_rf (((Z.fr i0).o).map (fun k9 => x.f (.to k9)))) S hE w (ov_r (t := .fr i0) (hk.e (.fr i0) rfl)) rfl dX1_placesOf_48 ?_
    rcases he4 : (Z.fr i0).o with _ | k3
    · show W p l e _ s m _ below meth c _ _ _ _ _ (F0 m 51 ls [.null])
      refine lv_ifnonnullN hx hb dX1_placesOf_51 ?_
      refine lv_iconst (v := 0) hx hb dX1_placesOf_54 (by decide) ?_
      refine lv_goto (tgt := 65) hx hb dX1_placesOf_55 (by decide) ?_
      exact g_iret hx hb hr hlk w (Nat.le_of_ble_eq_true rfl) (Nat.le_of_ble_eq_true rfl) dX1_placesOf_65 ⟨(((sX1_placesOf_u Z i0 c0).trans ((if_neg c_1_0).trans ((if_pos c_1_1).trans (oc_n he4))))).symm, rfl⟩
    · show W p l e _ s m _ below meth c _ _ _ _ _ (F0 m 51 ls [.ref (x.f (.to k3))])
      refine lv_ifnonnull (tgt := 58) hx hb dX1_placesOf_51 (by decide) ?_
      refine lv_aload_n hx hb dX1_placesOf_58 rfl (lv_at hl 0 rfl) ?_
      refine gf_RX1_21_7 (v := va_rf (((Z.fr i0).o).map (fun k9 => x.f (.to k9)))) S hE w (ov_r (t := .fr i0) (hk.e (.fr i0) rfl)) rfl dX1_placesOf_59 ?_
      rw [he4]
      show W p l e _ s m _ below meth c _ _ _ _ _ (F0 m 62 ls [.ref (x.f (.to k3))])
      refine gf_RX1_82_12 (v := .int ((Z.to k3).t)) S hE w (ov_r (t := .to k3) (hk.e_to (hk.o he4))) rfl dX1_placesOf_62 ?_
      exact g_iret hx hb hr hlk w (Nat.le_of_ble_eq_true rfl) (Nat.le_of_ble_eq_true rfl) dX1_placesOf_65 ⟨(((sX1_placesOf_u Z i0 c0).trans ((if_neg c_1_0).trans ((if_pos c_1_1).trans (oc_s he4))))).symm, rfl⟩
  refine lv_lookup (off := 65) (tgt := 66) hx hb dX1_placesOf_1 (by decide) (sw_def (ks := [97, 116]) ⟨c_1_0, c_1_1, trivial⟩ (by decide +kernel)) (by decide) ?_
  refine lv_aload_n hx hb dX1_placesOf_66 rfl (lv_at hl 0 rfl) ?_
  refine gf_RX1_35_7 (v := .int ((Z.fr i0).d)) S hE w (ov_r (t := .fr i0) (hk.e (.fr i0) rfl)) rfl dX1_placesOf_67 ?_
  exact g_iret hx hb hr hlk w (Nat.le_of_ble_eq_true rfl) (Nat.le_of_ble_eq_true rfl) dX1_placesOf_70 ⟨(((sX1_placesOf_u Z i0 c0).trans ((if_neg c_1_0).trans (if_neg c_1_1)))).symm, rfl⟩
def sX1_placeOf (Z : Ho) (i0 : Fin 12) (c0 : Int32) (j0 : Int32) : Int64 := if c0 = 97 then (pA ((Z.fr i0).a) 2 j0) else (if c0 = 116 then (pA ((Z.fr i0).t) 4 j0) else (pA ((Z.fr i0).p) 8 j0))
theorem sX1_placeOf_u (Z : Ho) (i0 : Fin 12) (c0 : Int32) (j0 : Int32) : sX1_placeOf Z i0 c0 j0 = if c0 = 97 then (pA ((Z.fr i0).a) 2 j0) else (if c0 = 116 then (pA ((Z.fr i0).t) 4 j0) else (pA ((Z.fr i0).p) 8 j0)) := rfl
set_option maxHeartbeats 4000000 in
set_option maxRecDepth 100000 in
theorem hX1_placeOf (l : Launch) (D : va_G) (ar : Nat → ClassId) (κ : Nat → Nat) (G : gW) (x : Xo) (Z : Ho) (sz : Nat) (i0 : Fin 12) (c0 : Int32) (j0 : Int32) (hk : OK x Z) : Met l yX1_placeOf (lwC yX1_placeOf cX1_placeOf 3 (some .long)) (rD 4 0 0) (g_Pc D vwCl (gT ar) (EX1 κ) (ov κ ar x Z G) sz [.ref (x.f (.fr i0)), .int c0, .int j0]) (g_Ql D vwCl (g_A (ov κ ar x Z G) sz) (fun r u => r = sX1_placeOf Z i0 c0 j0 ∧ u = (ov κ ar x Z G, sz))) 0 0 (g_A (ov κ ar x Z G) sz) := by
  refine g_ofW (by decide +kernel) (Nat.le_of_ble_eq_true rfl) ?_
  intro p e s m below meth c ls S hr hlk hin hE w hl
  have hx := S.1
  have hb := S.2.1
  have hl : lv_has ls 3 [(0, .ref (x.f (.fr i0))), (1, .int c0), (2, .int j0)] := hl
  refine lv_iload_n hx hb dX1_placeOf_0 rfl (lv_at hl 1 rfl) ?_
  by_cases c_1_0 : c0 = 97
  · refine lv_lookup (off := 27) (tgt := 28) hx hb dX1_placeOf_1 (by decide) (by have h9 := c_1_0; (rw [h9]; decide)) (by decide) ?_
    refine lv_aload_n hx hb dX1_placeOf_28 rfl (lv_at hl 0 rfl) ?_
    refine gf_RX1_9_7 (v := .ref (x.f (.fa i0))) S hE w (ov_r (t := .fr i0) (hk.e (.fr i0) rfl)) rfl dX1_placeOf_29 ?_
    refine lv_iload_n hx hb dX1_placeOf_32 rfl (lv_at hl 2 rfl) ?_
    refine g_calll w (g_runSN (As := [.ref (x.f (.fa i0)), .int j0]) (rest := []) S hE w hl (c_X8_placeAt l D ar κ (ov κ ar x Z G) sz (x.f (.fa i0)) j0 2 ((Z.fr i0).a) (ov_r (t := .fa i0) (hk.e (.fa i0) rfl)) (by decide)) (k_RX1_76 S.2.2.2.2 (hE.2.1.1 _ (ckN_1 _ (List.mem_of_getElem? (i := 2) rfl))) ⟨Nat.le_of_ble_eq_true rfl, Nat.le_of_ble_eq_true rfl⟩) rfl rfl (Nat.le_of_ble_eq_true rfl) dX1_placeOf_33 ⟨Nat.le_of_ble_eq_true rfl, Nat.le_of_ble_eq_true rfl⟩) (fun r u H locs hp hnz w => ?_)
    obtain ⟨rfl, rfl⟩ := hp
    dsimp only at w
    exact g_lret hx hb hr hlk w (Nat.le_of_ble_eq_true rfl) (Nat.le_of_ble_eq_true rfl) dX1_placeOf_36 ⟨(((sX1_placeOf_u Z i0 c0 j0).trans (if_pos c_1_0))).symm, rfl⟩
  by_cases c_1_1 : c0 = 116
  · refine lv_lookup (off := 36) (tgt := 37) hx hb dX1_placeOf_1 (by decide) (by have h9 := c_1_1; (rw [h9]; decide)) (by decide) ?_
    refine lv_aload_n hx hb dX1_placeOf_37 rfl (lv_at hl 0 rfl) ?_
    refine gf_RX1_15_7 (v := .ref (x.f (.ft i0))) S hE w (ov_r (t := .fr i0) (hk.e (.fr i0) rfl)) rfl dX1_placeOf_38 ?_
    refine lv_iload_n hx hb dX1_placeOf_41 rfl (lv_at hl 2 rfl) ?_
    refine g_calll w (g_runSN (As := [.ref (x.f (.ft i0)), .int j0]) (rest := []) S hE w hl (c_X8_placeAt l D ar κ (ov κ ar x Z G) sz (x.f (.ft i0)) j0 4 ((Z.fr i0).t) (ov_r (t := .ft i0) (hk.e (.ft i0) rfl)) (by decide)) (k_RX1_76 S.2.2.2.2 (hE.2.1.1 _ (ckN_1 _ (List.mem_of_getElem? (i := 2) rfl))) ⟨Nat.le_of_ble_eq_true rfl, Nat.le_of_ble_eq_true rfl⟩) rfl rfl (Nat.le_of_ble_eq_true rfl) dX1_placeOf_42 ⟨Nat.le_of_ble_eq_true rfl, Nat.le_of_ble_eq_true rfl⟩) (fun r u H locs hp hnz w => ?_)
    obtain ⟨rfl, rfl⟩ := hp
    dsimp only at w
    exact g_lret hx hb hr hlk w (Nat.le_of_ble_eq_true rfl) (Nat.le_of_ble_eq_true rfl) dX1_placeOf_45 ⟨(((sX1_placeOf_u Z i0 c0 j0).trans ((if_neg c_1_0).trans (if_pos c_1_1)))).symm, rfl⟩
  refine lv_lookup (off := 45) (tgt := 46) hx hb dX1_placeOf_1 (by decide) (sw_def (ks := [97, 116]) ⟨c_1_0, c_1_1, trivial⟩ (by decide +kernel)) (by decide) ?_
  refine lv_aload_n hx hb dX1_placeOf_46 rfl (lv_at hl 0 rfl) ?_
  refine gf_RX1_18_7 (v := .ref (x.f (.fp i0))) S hE w (ov_r (t := .fr i0) (hk.e (.fr i0) rfl)) rfl dX1_placeOf_47 ?_
  refine lv_iload_n hx hb dX1_placeOf_50 rfl (lv_at hl 2 rfl) ?_
  refine g_calll w (g_runSN (As := [.ref (x.f (.fp i0)), .int j0]) (rest := []) S hE w hl (c_X8_placeAt l D ar κ (ov κ ar x Z G) sz (x.f (.fp i0)) j0 8 ((Z.fr i0).p) (ov_r (t := .fp i0) (hk.e (.fp i0) rfl)) (by decide)) (k_RX1_76 S.2.2.2.2 (hE.2.1.1 _ (ckN_1 _ (List.mem_of_getElem? (i := 2) rfl))) ⟨Nat.le_of_ble_eq_true rfl, Nat.le_of_ble_eq_true rfl⟩) rfl rfl (Nat.le_of_ble_eq_true rfl) dX1_placeOf_51 ⟨Nat.le_of_ble_eq_true rfl, Nat.le_of_ble_eq_true rfl⟩) (fun r u H locs hp hnz w => ?_)
  obtain ⟨rfl, rfl⟩ := hp
  dsimp only at w
  exact g_lret hx hb hr hlk w (Nat.le_of_ble_eq_true rfl) (Nat.le_of_ble_eq_true rfl) dX1_placeOf_54 ⟨(((sX1_placeOf_u Z i0 c0 j0).trans ((if_neg c_1_0).trans (if_neg c_1_1)))).symm, rfl⟩
def sX1_places (Z : Ho) (i0 : Fin 12) : Int32 := ((1 + (sX1_placesOf Z i0 97)) + (sX1_placesOf Z i0 116)) + ((Z.fr i0).d)
theorem sX1_places_u (Z : Ho) (i0 : Fin 12) : sX1_places Z i0 = ((1 + (sX1_placesOf Z i0 97)) + (sX1_placesOf Z i0 116)) + ((Z.fr i0).d) := rfl
set_option maxHeartbeats 4000000 in
set_option maxRecDepth 100000 in
theorem hX1_places (l : Launch) (D : va_G) (ar : Nat → ClassId) (κ : Nat → Nat) (G : gW) (x : Xo) (Z : Ho) (sz : Nat) (i0 : Fin 12) (hk : OK x Z) : Met l yX1_places (lwC yX1_places cX1_places 1 (some .int)) (rD 5 0 0) (g_Pc D vwCl (gT ar) (EX1 κ) (ov κ ar x Z G) sz [.ref (x.f (.fr i0))]) (g_Qi D vwCl (g_A (ov κ ar x Z G) sz) (fun r u => r = sX1_places Z i0 ∧ u = (ov κ ar x Z G, sz))) 0 0 (g_A (ov κ ar x Z G) sz) := by
  refine g_ofW (by decide +kernel) (Nat.le_of_ble_eq_true rfl) ?_
  intro p e s m below meth c ls S hr hlk hin hE w hl
  have hx := S.1
  have hb := S.2.1
  have hl : lv_has ls 1 [(0, .ref (x.f (.fr i0)))] := hl
  refine lv_iconst (v := 1) hx hb dX1_places_0 (by decide) ?_
  refine lv_aload_n hx hb dX1_places_1 rfl (lv_at hl 0 rfl) ?_
  refine lv_bipush (v := 97) hx hb dX1_places_2 (by decide) ?_
  refine g_calli w (g_runV (As := [.int 97]) (rest := [.int 1]) S hE w hl (hX1_placesOf l D ar κ G x Z sz i0 97 hk ) (k_RX1_84 S.2.2.2.2 ⟨Nat.le_of_ble_eq_true rfl, Nat.le_of_ble_eq_true rfl⟩) (ov_r (t := .fr i0) (hk.e (.fr i0) rfl)) rfl rfl rfl rfl (Nat.le_of_ble_eq_true rfl) dX1_places_4 ⟨Nat.le_of_ble_eq_true rfl, Nat.le_of_ble_eq_true rfl⟩) (fun r u H locs hp hnz w => ?_)
  obtain ⟨rfl, rfl⟩ := hp
  dsimp only at w
  refine lv_iadd hx hb dX1_places_7 ?_
  refine lv_aload_n hx hb dX1_places_8 rfl (lv_at hl 0 rfl) ?_
  refine lv_bipush (v := 116) hx hb dX1_places_9 (by decide) ?_
  refine g_calli w (g_runV (As := [.int 116]) (rest := [.int (1 + (sX1_placesOf Z i0 97))]) S hE w hl (hX1_placesOf l D ar κ G x Z sz i0 116 hk ) (k_RX1_84 S.2.2.2.2 ⟨Nat.le_of_ble_eq_true rfl, Nat.le_of_ble_eq_true rfl⟩) (ov_r (t := .fr i0) (hk.e (.fr i0) rfl)) rfl rfl rfl rfl (Nat.le_of_ble_eq_true rfl) dX1_places_11 ⟨Nat.le_of_ble_eq_true rfl, Nat.le_of_ble_eq_true rfl⟩) (fun r u H locs hp hnz w => ?_)
  obtain ⟨rfl, rfl⟩ := hp
  dsimp only at w
  refine lv_iadd hx hb dX1_places_14 ?_
  refine lv_aload_n hx hb dX1_places_15 rfl (lv_at hl 0 rfl) ?_
  refine gf_RX1_35_7 (v := .int ((Z.fr i0).d)) S hE w (ov_r (t := .fr i0) (hk.e (.fr i0) rfl)) rfl dX1_places_16 ?_
  refine lv_iadd hx hb dX1_places_19 ?_
  exact g_iret hx hb hr hlk w (Nat.le_of_ble_eq_true rfl) (Nat.le_of_ble_eq_true rfl) dX1_places_20 ⟨((sX1_places_u Z i0)).symm, rfl⟩
def sX1_place (Z : Ho) (i0 : Fin 12) (j0 : Int32) : Int64 := if j0 = 0 then ((Z.fr i0).v) else (if 0 ≤ (j0 - 1) - (sX1_placesOf Z i0 97) then (if sX1_placesOf Z i0 116 ≤ (j0 - 1) - (sX1_placesOf Z i0 97) then (sX1_placeOf Z i0 112 (((j0 - 1) - (sX1_placesOf Z i0 97)) - (sX1_placesOf Z i0 116))) else (sX1_placeOf Z i0 116 ((j0 - 1) - (sX1_placesOf Z i0 97)))) else (sX1_placeOf Z i0 97 (j0 - 1)))
theorem sX1_place_u (Z : Ho) (i0 : Fin 12) (j0 : Int32) : sX1_place Z i0 j0 = if j0 = 0 then ((Z.fr i0).v) else (if 0 ≤ (j0 - 1) - (sX1_placesOf Z i0 97) then (if sX1_placesOf Z i0 116 ≤ (j0 - 1) - (sX1_placesOf Z i0 97) then (sX1_placeOf Z i0 112 (((j0 - 1) - (sX1_placesOf Z i0 97)) - (sX1_placesOf Z i0 116))) else (sX1_placeOf Z i0 116 ((j0 - 1) - (sX1_placesOf Z i0 97)))) else (sX1_placeOf Z i0 97 (j0 - 1))) := rfl
set_option maxHeartbeats 4000000 in
set_option maxRecDepth 100000 in
theorem hX1_place (l : Launch) (D : va_G) (ar : Nat → ClassId) (κ : Nat → Nat) (G : gW) (x : Xo) (Z : Ho) (sz : Nat) (i0 : Fin 12) (j0 : Int32) (hk : OK x Z) : Met l yX1_place (lwC yX1_place cX1_place 4 (some .long)) (rD 5 0 0) (g_Pc D vwCl (gT ar) (EX1 κ) (ov κ ar x Z G) sz [.ref (x.f (.fr i0)), .int j0]) (g_Ql D vwCl (g_A (ov κ ar x Z G) sz) (fun r u => r = sX1_place Z i0 j0 ∧ u = (ov κ ar x Z G, sz))) 0 0 (g_A (ov κ ar x Z G) sz) := by
  refine g_ofW (by decide +kernel) (Nat.le_of_ble_eq_true rfl) ?_
  intro p e s m below meth c ls S hr hlk hin hE w hl
  have hx := S.1
  have hb := S.2.1
  have hl : lv_has ls 4 [(0, .ref (x.f (.fr i0))), (1, .int j0)] := hl
  refine lv_iload_n hx hb dX1_place_0 rfl (lv_at hl 1 rfl) ?_
  refine lv_iconst (v := 1) hx hb dX1_place_1 (by decide) ?_
  refine lv_isub hx hb dX1_place_2 ?_
  refine lv_istore_n (lv' := [(2, .int (j0 - 1)), (0, .ref (x.f (.fr i0))), (1, .int j0)]) hx hb dX1_place_3 rfl hl (by decide) rfl (fun ls hl => ?_)
  refine lv_iload_n hx hb dX1_place_4 rfl (lv_at hl 0 rfl) ?_
  refine lv_aload_n hx hb dX1_place_5 rfl (lv_at hl 1 rfl) ?_
  refine lv_bipush (v := 97) hx hb dX1_place_6 (by decide) ?_
  refine g_calli w (g_runV (As := [.int 97]) (rest := [.int (j0 - 1)]) S hE w hl (hX1_placesOf l D ar κ G x Z sz i0 97 hk ) (k_RX1_84 S.2.2.2.2 ⟨Nat.le_of_ble_eq_true rfl, Nat.le_of_ble_eq_true rfl⟩) (ov_r (t := .fr i0) (hk.e (.fr i0) rfl)) rfl rfl rfl rfl (Nat.le_of_ble_eq_true rfl) dX1_place_8 ⟨Nat.le_of_ble_eq_true rfl, Nat.le_of_ble_eq_true rfl⟩) (fun r u H locs hp hnz w => ?_)
  obtain ⟨rfl, rfl⟩ := hp
  dsimp only at w
  refine lv_isub hx hb dX1_place_11 ?_
  refine lv_istore_n (lv' := [(3, .int ((j0 - 1) - (sX1_placesOf Z i0 97))), (2, .int (j0 - 1)), (0, .ref (x.f (.fr i0))), (1, .int j0)]) hx hb dX1_place_12 rfl hl (by decide) rfl (fun ls hl => ?_)
  refine lv_iload_n hx hb dX1_place_13 rfl (lv_at hl 3 rfl) ?_
  refine lv_if_ne (tgt := 22) hx hb dX1_place_14 (by decide) (fun c_14 => ?_) (fun c_14 => ?_)
  · refine lv_iload_n hx hb dX1_place_22 rfl (lv_at hl 0 rfl) ?_
    refine lv_if_ge (tgt := 34) hx hb dX1_place_23 (by decide) (fun c_23 => ?_) (fun c_23 => ?_)
    · refine lv_iload_n hx hb dX1_place_34 rfl (lv_at hl 0 rfl) ?_
      refine lv_aload_n hx hb dX1_place_35 rfl (lv_at hl 2 rfl) ?_
      refine lv_bipush (v := 116) hx hb dX1_place_36 (by decide) ?_
      refine g_calli w (g_runV (As := [.int 116]) (rest := [.int ((j0 - 1) - (sX1_placesOf Z i0 97))]) S hE w hl (hX1_placesOf l D ar κ G x Z sz i0 116 hk ) (k_RX1_84 S.2.2.2.2 ⟨Nat.le_of_ble_eq_true rfl, Nat.le_of_ble_eq_true rfl⟩) (ov_r (t := .fr i0) (hk.e (.fr i0) rfl)) rfl rfl rfl rfl (Nat.le_of_ble_eq_true rfl) dX1_place_38 ⟨Nat.le_of_ble_eq_true rfl, Nat.le_of_ble_eq_true rfl⟩) (fun r u H locs hp hnz w => ?_)
      obtain ⟨rfl, rfl⟩ := hp
      dsimp only at w
      refine lv_icmp_ge (tgt := 52) hx hb dX1_place_41 (by decide) (fun c_41 => ?_) (fun c_41 => ?_)
      · refine lv_aload_n hx hb dX1_place_52 rfl (lv_at hl 2 rfl) ?_
        refine lv_bipush (v := 112) hx hb dX1_place_53 (by decide) ?_
        refine lv_iload_n hx hb dX1_place_55 rfl (lv_at hl 0 rfl) ?_
        refine lv_aload_n hx hb dX1_place_56 rfl (lv_at hl 2 rfl) ?_
        refine lv_bipush (v := 116) hx hb dX1_place_57 (by decide) ?_
        refine g_calli w (g_runV (As := [.int 116]) (rest := [.int ((j0 - 1) - (sX1_placesOf Z i0 97)), .int 112, .ref (x.f (.fr i0))]) S hE w hl (hX1_placesOf l D ar κ G x Z sz i0 116 hk ) (k_RX1_84 S.2.2.2.2 ⟨Nat.le_of_ble_eq_true rfl, Nat.le_of_ble_eq_true rfl⟩) (ov_r (t := .fr i0) (hk.e (.fr i0) rfl)) rfl rfl rfl rfl (Nat.le_of_ble_eq_true rfl) dX1_place_59 ⟨Nat.le_of_ble_eq_true rfl, Nat.le_of_ble_eq_true rfl⟩) (fun r u H locs hp hnz w => ?_)
        obtain ⟨rfl, rfl⟩ := hp
        dsimp only at w
        refine lv_isub hx hb dX1_place_62 ?_
        refine g_calll w (g_runV (As := [.int 112, .int (((j0 - 1) - (sX1_placesOf Z i0 97)) - (sX1_placesOf Z i0 116))]) (rest := []) S hE w hl (hX1_placeOf l D ar κ G x Z sz i0 112 (((j0 - 1) - (sX1_placesOf Z i0 97)) - (sX1_placesOf Z i0 116)) hk ) (k_RX1_88 S.2.2.2.2 ⟨Nat.le_of_ble_eq_true rfl, Nat.le_of_ble_eq_true rfl⟩) (ov_r (t := .fr i0) (hk.e (.fr i0) rfl)) rfl rfl rfl rfl (Nat.le_of_ble_eq_true rfl) dX1_place_63 ⟨Nat.le_of_ble_eq_true rfl, Nat.le_of_ble_eq_true rfl⟩) (fun r u H locs hp hnz w => ?_)
        obtain ⟨rfl, rfl⟩ := hp
        dsimp only at w
        exact g_lret hx hb hr hlk w (Nat.le_of_ble_eq_true rfl) (Nat.le_of_ble_eq_true rfl) dX1_place_66 ⟨(((sX1_place_u Z i0 j0).trans ((if_neg c_14).trans ((if_pos c_23).trans (if_pos c_41))))).symm, rfl⟩
      · refine lv_aload_n hx hb dX1_place_44 rfl (lv_at hl 2 rfl) ?_
        refine lv_bipush (v := 116) hx hb dX1_place_45 (by decide) ?_
        refine lv_iload_n hx hb dX1_place_47 rfl (lv_at hl 0 rfl) ?_
        refine g_calll w (g_runV (As := [.int 116, .int ((j0 - 1) - (sX1_placesOf Z i0 97))]) (rest := []) S hE w hl (hX1_placeOf l D ar κ G x Z sz i0 116 ((j0 - 1) - (sX1_placesOf Z i0 97)) hk ) (k_RX1_88 S.2.2.2.2 ⟨Nat.le_of_ble_eq_true rfl, Nat.le_of_ble_eq_true rfl⟩) (ov_r (t := .fr i0) (hk.e (.fr i0) rfl)) rfl rfl rfl rfl (Nat.le_of_ble_eq_true rfl) dX1_place_48 ⟨Nat.le_of_ble_eq_true rfl, Nat.le_of_ble_eq_true rfl⟩) (fun r u H locs hp hnz w => ?_)
        obtain ⟨rfl, rfl⟩ := hp
        dsimp only at w
        exact g_lret hx hb hr hlk w (Nat.le_of_ble_eq_true rfl) (Nat.le_of_ble_eq_true rfl) dX1_place_51 ⟨(((sX1_place_u Z i0 j0).trans ((if_neg c_14).trans ((if_pos c_23).trans (if_neg c_41))))).symm, rfl⟩
    · refine lv_aload_n hx hb dX1_place_26 rfl (lv_at hl 2 rfl) ?_
      refine lv_bipush (v := 97) hx hb dX1_place_27 (by decide) ?_
      refine lv_iload_n hx hb dX1_place_29 rfl (lv_at hl 1 rfl) ?_
      refine g_calll w (g_runV (As := [.int 97, .int (j0 - 1)]) (rest := []) S hE w hl (hX1_placeOf l D ar κ G x Z sz i0 97 (j0 - 1) hk ) (k_RX1_88 S.2.2.2.2 ⟨Nat.le_of_ble_eq_true rfl, Nat.le_of_ble_eq_true rfl⟩) (ov_r (t := .fr i0) (hk.e (.fr i0) rfl)) rfl rfl rfl rfl (Nat.le_of_ble_eq_true rfl) dX1_place_30 ⟨Nat.le_of_ble_eq_true rfl, Nat.le_of_ble_eq_true rfl⟩) (fun r u H locs hp hnz w => ?_)
      obtain ⟨rfl, rfl⟩ := hp
      dsimp only at w
      exact g_lret hx hb hr hlk w (Nat.le_of_ble_eq_true rfl) (Nat.le_of_ble_eq_true rfl) dX1_place_33 ⟨(((sX1_place_u Z i0 j0).trans ((if_neg c_14).trans (if_neg c_23)))).symm, rfl⟩
  · refine lv_aload_n hx hb dX1_place_17 rfl (lv_at hl 2 rfl) ?_
    refine gf_RX1_27_7 (v := .long ((Z.fr i0).v)) S hE w (ov_r (t := .fr i0) (hk.e (.fr i0) rfl)) rfl dX1_place_18 ?_
    exact g_lret hx hb hr hlk w (Nat.le_of_ble_eq_true rfl) (Nat.le_of_ble_eq_true rfl) dX1_place_21 ⟨(((sX1_place_u Z i0 j0).trans (if_pos c_14))).symm, rfl⟩
def sX1_open (Z : Ho) (i0 : Fin 12) (k0 : Nat) (v0 : Int64) : Ho := (Z.frS i0 ((((((Z.fr i0).so (some k0)).sv v0).sw 0).sd 0).st (fillJ ((Z.fr i0).t) 502511173632 4)))
theorem sX1_open_u (Z : Ho) (i0 : Fin 12) (k0 : Nat) (v0 : Int64) : sX1_open Z i0 k0 v0 = (Z.frS i0 ((((((Z.fr i0).so (some k0)).sv v0).sw 0).sd 0).st (fillJ ((Z.fr i0).t) 502511173632 4))) := rfl
set_option maxHeartbeats 4000000 in
set_option maxRecDepth 100000 in
theorem hX1_open (l : Launch) (D : va_G) (ar : Nat → ClassId) (κ : Nat → Nat) (G : gW) (x : Xo) (Z : Ho) (sz : Nat) (i0 : Fin 12) (k0 : Nat) (v0 : Int64) (hk : OK x Z) (hv_k0 : k0 < Z.nt) : Met l yX1_open (lwC yX1_open cX1_open 4 none) (rD 5 0 0) (g_Pc D vwCl (gT ar) (EX1 κ) (ov κ ar x Z G) sz [.ref (x.f (.fr i0)), .ref (x.f (.to k0)), .long v0]) (g_Qv D vwCl (g_A (ov κ ar x Z G) sz) (fun u => ∃ T9 : Ho, sX1_open Z i0 k0 v0 = T9 ∧ u = (ov κ ar x T9 G, sz) ∧ OK x T9)) 0 0 (g_A (ov κ ar x Z G) sz) := by
  refine g_ofW (by decide +kernel) (Nat.le_of_ble_eq_true rfl) ?_
  intro p e s m below meth c ls S hr hlk hin hE w hl
  have hx := S.1
  have hb := S.2.1
  have hl : lv_has ls 4 [(0, .ref (x.f (.fr i0))), (1, .ref (x.f (.to k0))), (2, .long v0)] := hl
  refine lv_aload_n hx hb dX1_open_0 rfl (lv_at hl 0 rfl) ?_
  refine lv_aload_n hx hb dX1_open_1 rfl (lv_at hl 1 rfl) ?_
  refine pf_RX1_21_7 (fs1 := [.ref (x.f (.fa i0)), .ref (x.f (.ft i0)), .ref (x.f (.fp i0)), .ref (x.f (.to k0)), .long ((Z.fr i0).v), .int ((Z.fr i0).w), .int ((Z.fr i0).d)]) S hE w (ov_r (t := .fr i0) (hk.e (.fr i0) rfl)) rfl rfl (Nat.le_of_ble_eq_true rfl) rfl dX1_open_2 (fun H locs w => ?_)
  have w := g_eqw w (congrArg (fun Z9 => g_up (ov κ ar x Z9 G) (x.f (.fr i0)) (.inr (7, [.ref (x.f (.fa i0)), .ref (x.f (.ft i0)), .ref (x.f (.fp i0)), .ref (x.f (.to k0)), .long ((Z.fr i0).v), .int ((Z.fr i0).w), .int ((Z.fr i0).d)]))) (frS_id (S := Z) (i := i0)).symm)
  have w : g_S D vwCl (g_A (ov κ ar x Z G) sz) s.heap (ov κ ar x (Z.frS i0 ((Z.fr i0).so (some k0))) G) H _ sz := g_eqw w (ov_wfr (S := Z) (v := (Z.fr i0)) (v' := ((Z.fr i0).so (some k0))) hk.v (hk.e (.fr i0) rfl) rfl rfl rfl rfl)
  refine lv_aload_n hx hb dX1_open_5 rfl (lv_at hl 0 rfl) ?_
  refine lv_lload_n hx hb dX1_open_6 rfl (lv_at hl 2 rfl) ?_
  refine pf_RX1_27_7 (fs1 := [.ref (x.f (.fa i0)), .ref (x.f (.ft i0)), .ref (x.f (.fp i0)), va_rf (((some k0)).map (fun k9 => x.f (.to k9))), .long v0, .int ((Z.fr i0).w), .int ((Z.fr i0).d)]) S hE w (ov_rfr (hk.e (.fr i0) rfl)) rfl rfl (Nat.le_of_ble_eq_true rfl) rfl dX1_open_7 (fun H locs w => ?_)
  have w : g_S D vwCl (g_A (ov κ ar x Z G) sz) s.heap (ov κ ar x (Z.frS i0 (((Z.fr i0).so (some k0)).sv v0)) G) H _ sz := g_eqw w (ov_wfr (S := Z) (v := ((Z.fr i0).so (some k0))) (v' := (((Z.fr i0).so (some k0)).sv v0)) hk.v (hk.e (.fr i0) rfl) rfl rfl rfl rfl)
  refine lv_aload_n hx hb dX1_open_10 rfl (lv_at hl 0 rfl) ?_
  refine lv_iconst (v := 0) hx hb dX1_open_11 (by decide) ?_
  refine pf_RX1_31_7 (fs1 := [.ref (x.f (.fa i0)), .ref (x.f (.ft i0)), .ref (x.f (.fp i0)), va_rf (((some k0)).map (fun k9 => x.f (.to k9))), .long v0, .int 0, .int ((Z.fr i0).d)]) S hE w (ov_rfr (hk.e (.fr i0) rfl)) rfl rfl (Nat.le_of_ble_eq_true rfl) rfl dX1_open_12 (fun H locs w => ?_)
  have w : g_S D vwCl (g_A (ov κ ar x Z G) sz) s.heap (ov κ ar x (Z.frS i0 ((((Z.fr i0).so (some k0)).sv v0).sw 0)) G) H _ sz := g_eqw w (ov_wfr (S := Z) (v := (((Z.fr i0).so (some k0)).sv v0)) (v' := ((((Z.fr i0).so (some k0)).sv v0).sw 0)) hk.v (hk.e (.fr i0) rfl) rfl rfl rfl rfl)
  refine lv_aload_n hx hb dX1_open_15 rfl (lv_at hl 0 rfl) ?_
  refine lv_iconst (v := 0) hx hb dX1_open_16 (by decide) ?_
  refine pf_RX1_35_7 (fs1 := [.ref (x.f (.fa i0)), .ref (x.f (.ft i0)), .ref (x.f (.fp i0)), va_rf (((some k0)).map (fun k9 => x.f (.to k9))), .long v0, .int 0, .int 0]) S hE w (ov_rfr (hk.e (.fr i0) rfl)) rfl rfl (Nat.le_of_ble_eq_true rfl) rfl dX1_open_17 (fun H locs w => ?_)
  have w : g_S D vwCl (g_A (ov κ ar x Z G) sz) s.heap (ov κ ar x (Z.frS i0 (((((Z.fr i0).so (some k0)).sv v0).sw 0).sd 0)) G) H _ sz := g_eqw w (ov_wfr (S := Z) (v := ((((Z.fr i0).so (some k0)).sv v0).sw 0)) (v' := (((((Z.fr i0).so (some k0)).sv v0).sw 0).sd 0)) hk.v (hk.e (.fr i0) rfl) rfl rfl rfl rfl)
  refine lv_aload_n hx hb dX1_open_20 rfl (lv_at hl 0 rfl) ?_
  refine gf_RX1_15_7 (v := .ref (x.f (.ft i0))) S hE w (ov_rfr (hk.e (.fr i0) rfl)) rfl dX1_open_21 ?_
  refine lv_ldc2 hx hb S.2.2.2.1 (S.2.2.2.2 _ m_1_217) dX1_open_24 ?_
  refine g_callv w (g_runS (As := [.ref (x.f (.ft i0)), .long 502511173632]) (rest := []) S hE w hl (c_fillJ l D ar κ (ov κ ar x (Z.frS i0 (((((Z.fr i0).so (some k0)).sv v0).sw 0).sd 0)) G) sz (x.f (.ft i0)) 502511173632 4 ((Z.fr i0).t) (ov_rft (hk.e (.ft i0) rfl)) (by decide)) (k_RX1_38 S.2.2.2.2 ⟨Nat.le_of_ble_eq_true rfl, Nat.le_of_ble_eq_true rfl⟩) rfl rfl (Nat.le_of_ble_eq_true rfl) dX1_open_27 ⟨Nat.le_of_ble_eq_true rfl, Nat.le_of_ble_eq_true rfl⟩) (fun u H locs hp hnz w => ?_)
  obtain rfl := hp
  dsimp only at w
  have w : g_S D vwCl (g_A (ov κ ar x Z G) sz) s.heap (ov κ ar x (Z.frS i0 ((((((Z.fr i0).so (some k0)).sv v0).sw 0).sd 0).st (fillJ ((Z.fr i0).t) 502511173632 4))) G) H _ sz := g_eqw w (ov_wft (S := Z) (v := (((((Z.fr i0).so (some k0)).sv v0).sw 0).sd 0)) (v' := ((((((Z.fr i0).so (some k0)).sv v0).sw 0).sd 0).st (fillJ ((Z.fr i0).t) 502511173632 4))) hk.v (hk.e (.ft i0) rfl) rfl rfl rfl rfl rfl rfl rfl)
  exact g_vret hx hb hr hlk w (Nat.le_of_ble_eq_true rfl) (Nat.le_of_ble_eq_true rfl) dX1_open_30 ⟨_, (sX1_open_u Z i0 k0 v0), rfl, (OK.frS (S := Z) hk (fun k9 q9 => by cases q9; exact hv_k0))⟩
end
section
theorem dX4_hasField_0 : decode cX4_hasField 0 = .ok (.iload_n 1, 1) := by decide +kernel
theorem dX4_hasField_1 : decode cX4_hasField 1 = .ok (.aload_n 0, 1) := by decide +kernel
theorem dX4_hasField_2 : decode cX4_hasField 2 = .ok (.getfield 22, 3) := by decide +kernel
theorem dX4_hasField_5 : decode cX4_hasField 5 = .ok (.invokestatic 37, 3) := by decide +kernel
theorem dX4_hasField_8 : decode cX4_hasField 8 = .ok (.ireturn, 1) := by decide +kernel
theorem dX4_open_0 : decode cX4_open 0 = .ok (.aload_n 0, 1) := by decide +kernel
theorem dX4_open_1 : decode cX4_open 1 = .ok (.iload_n 1, 1) := by decide +kernel
theorem dX4_open_2 : decode cX4_open 2 = .ok (.putfield 15, 3) := by decide +kernel
theorem dX4_open_5 : decode cX4_open 5 = .ok (.aload_n 0, 1) := by decide +kernel
theorem dX4_open_6 : decode cX4_open 6 = .ok (.iload_n 2, 1) := by decide +kernel
theorem dX4_open_7 : decode cX4_open 7 = .ok (.putfield 19, 3) := by decide +kernel
theorem dX4_open_10 : decode cX4_open 10 = .ok (.aload_n 0, 1) := by decide +kernel
theorem dX4_open_11 : decode cX4_open 11 = .ok (.iload_n 3, 1) := by decide +kernel
theorem dX4_open_12 : decode cX4_open 12 = .ok (.putfield 22, 3) := by decide +kernel
theorem dX4_open_15 : decode cX4_open 15 = .ok (.aload_n 0, 1) := by decide +kernel
theorem dX4_open_16 : decode cX4_open 16 = .ok (.iconst 0, 1) := by decide +kernel
theorem dX4_open_17 : decode cX4_open 17 = .ok (.putfield 25, 3) := by decide +kernel
theorem dX4_open_20 : decode cX4_open 20 = .ok (.aload_n 0, 1) := by decide +kernel
theorem dX4_open_21 : decode cX4_open 21 = .ok (.getfield 9, 3) := by decide +kernel
theorem dX4_open_24 : decode cX4_open 24 = .ok (.ldc2_w 29, 3) := by decide +kernel
theorem dX4_open_27 : decode cX4_open 27 = .ok (.invokestatic 31, 3) := by decide +kernel
theorem dX4_open_30 : decode cX4_open 30 = .ok (.return_, 1) := by decide +kernel
theorem dX5_isFull_0 : decode cX5_isFull 0 = .ok (.aload_n 0, 1) := by decide +kernel
theorem dX5_isFull_1 : decode cX5_isFull 1 = .ok (.getfield 20, 3) := by decide +kernel
theorem dX5_isFull_4 : decode cX5_isFull 4 = .ok (.bipush 60, 2) := by decide +kernel
theorem dX5_isFull_6 : decode cX5_isFull 6 = .ok (.if_icmp .lt 7, 3) := by decide +kernel
theorem dX5_isFull_9 : decode cX5_isFull 9 = .ok (.iconst 1, 1) := by decide +kernel
theorem dX5_isFull_10 : decode cX5_isFull 10 = .ok (.goto 4, 3) := by decide +kernel
theorem dX5_isFull_13 : decode cX5_isFull 13 = .ok (.iconst 0, 1) := by decide +kernel
theorem dX5_isFull_14 : decode cX5_isFull 14 = .ok (.ireturn, 1) := by decide +kernel
theorem dX5_inOrder_0 : decode cX5_inOrder 0 = .ok (.iload_n 1, 1) := by decide +kernel
theorem dX5_inOrder_1 : decode cX5_inOrder 1 = .ok (.aload_n 0, 1) := by decide +kernel
theorem dX5_inOrder_2 : decode cX5_inOrder 2 = .ok (.getfield 20, 3) := by decide +kernel
theorem dX5_inOrder_5 : decode cX5_inOrder 5 = .ok (.invokestatic 31, 3) := by decide +kernel
theorem dX5_inOrder_8 : decode cX5_inOrder 8 = .ok (.ifCond .eq 24, 3) := by decide +kernel
theorem dX5_inOrder_11 : decode cX5_inOrder 11 = .ok (.iload_n 1, 1) := by decide +kernel
theorem dX5_inOrder_12 : decode cX5_inOrder 12 = .ok (.aload_n 0, 1) := by decide +kernel
theorem dX5_inOrder_13 : decode cX5_inOrder 13 = .ok (.getfield 11, 3) := by decide +kernel
theorem dX5_inOrder_16 : decode cX5_inOrder 16 = .ok (.arraylength, 1) := by decide +kernel
theorem dX5_inOrder_17 : decode cX5_inOrder 17 = .ok (.invokestatic 31, 3) := by decide +kernel
theorem dX5_inOrder_20 : decode cX5_inOrder 20 = .ok (.ifCond .eq 12, 3) := by decide +kernel
theorem dX5_inOrder_23 : decode cX5_inOrder 23 = .ok (.aload_n 0, 1) := by decide +kernel
theorem dX5_inOrder_24 : decode cX5_inOrder 24 = .ok (.getfield 11, 3) := by decide +kernel
theorem dX5_inOrder_27 : decode cX5_inOrder 27 = .ok (.iload_n 1, 1) := by decide +kernel
theorem dX5_inOrder_28 : decode cX5_inOrder 28 = .ok (.aaload, 1) := by decide +kernel
theorem dX5_inOrder_29 : decode cX5_inOrder 29 = .ok (.goto 4, 3) := by decide +kernel
theorem dX5_inOrder_32 : decode cX5_inOrder 32 = .ok (.aconst_null, 1) := by decide +kernel
theorem dX5_inOrder_33 : decode cX5_inOrder 33 = .ok (.areturn, 1) := by decide +kernel
theorem dX5_enlist_0 : decode cX5_enlist 0 = .ok (.aload_n 0, 1) := by decide +kernel
theorem dX5_enlist_1 : decode cX5_enlist 1 = .ok (.getfield 27, 3) := by decide +kernel
theorem dX5_enlist_4 : decode cX5_enlist 4 = .ok (.istore_n 3, 1) := by decide +kernel
theorem dX5_enlist_5 : decode cX5_enlist 5 = .ok (.aload_n 0, 1) := by decide +kernel
theorem dX5_enlist_6 : decode cX5_enlist 6 = .ok (.getfield 20, 3) := by decide +kernel
theorem dX5_enlist_9 : decode cX5_enlist 9 = .ok (.aload_n 0, 1) := by decide +kernel
theorem dX5_enlist_10 : decode cX5_enlist 10 = .ok (.getfield 11, 3) := by decide +kernel
theorem dX5_enlist_13 : decode cX5_enlist 13 = .ok (.arraylength, 1) := by decide +kernel
theorem dX5_enlist_14 : decode cX5_enlist 14 = .ok (.invokestatic 31, 3) := by decide +kernel
theorem dX5_enlist_17 : decode cX5_enlist 17 = .ok (.ifCond .eq 15, 3) := by decide +kernel
theorem dX5_enlist_20 : decode cX5_enlist 20 = .ok (.aload_n 0, 1) := by decide +kernel
theorem dX5_enlist_21 : decode cX5_enlist 21 = .ok (.getfield 11, 3) := by decide +kernel
theorem dX5_enlist_24 : decode cX5_enlist 24 = .ok (.aload_n 0, 1) := by decide +kernel
theorem dX5_enlist_25 : decode cX5_enlist 25 = .ok (.getfield 20, 3) := by decide +kernel
theorem dX5_enlist_28 : decode cX5_enlist 28 = .ok (.aaload, 1) := by decide +kernel
theorem dX5_enlist_29 : decode cX5_enlist 29 = .ok (.goto 4, 3) := by decide +kernel
theorem dX5_enlist_32 : decode cX5_enlist 32 = .ok (.aconst_null, 1) := by decide +kernel
theorem dX5_enlist_33 : decode cX5_enlist 33 = .ok (.astore 4, 2) := by decide +kernel
theorem dX5_enlist_35 : decode cX5_enlist 35 = .ok (.aload 4, 2) := by decide +kernel
theorem dX5_enlist_37 : decode cX5_enlist 37 = .ok (.ifnull 31, 3) := by decide +kernel
theorem dX5_enlist_40 : decode cX5_enlist 40 = .ok (.aload 4, 2) := by decide +kernel
theorem dX5_enlist_42 : decode cX5_enlist 42 = .ok (.iload_n 3, 1) := by decide +kernel
theorem dX5_enlist_43 : decode cX5_enlist 43 = .ok (.iload_n 1, 1) := by decide +kernel
theorem dX5_enlist_44 : decode cX5_enlist 44 = .ok (.iload_n 2, 1) := by decide +kernel
theorem dX5_enlist_45 : decode cX5_enlist 45 = .ok (.invokevirtual 35, 3) := by decide +kernel
theorem dX5_enlist_48 : decode cX5_enlist 48 = .ok (.aload_n 0, 1) := by decide +kernel
theorem dX5_enlist_49 : decode cX5_enlist 49 = .ok (.dup, 1) := by decide +kernel
theorem dX5_enlist_50 : decode cX5_enlist 50 = .ok (.getfield 20, 3) := by decide +kernel
theorem dX5_enlist_53 : decode cX5_enlist 53 = .ok (.iconst 1, 1) := by decide +kernel
theorem dX5_enlist_54 : decode cX5_enlist 54 = .ok (.iadd, 1) := by decide +kernel
theorem dX5_enlist_55 : decode cX5_enlist 55 = .ok (.putfield 20, 3) := by decide +kernel
theorem dX5_enlist_58 : decode cX5_enlist 58 = .ok (.aload_n 0, 1) := by decide +kernel
theorem dX5_enlist_59 : decode cX5_enlist 59 = .ok (.dup, 1) := by decide +kernel
theorem dX5_enlist_60 : decode cX5_enlist 60 = .ok (.getfield 27, 3) := by decide +kernel
theorem dX5_enlist_63 : decode cX5_enlist 63 = .ok (.iconst 1, 1) := by decide +kernel
theorem dX5_enlist_64 : decode cX5_enlist 64 = .ok (.iadd, 1) := by decide +kernel
theorem dX5_enlist_65 : decode cX5_enlist 65 = .ok (.putfield 27, 3) := by decide +kernel
theorem dX5_enlist_68 : decode cX5_enlist 68 = .ok (.iload_n 3, 1) := by decide +kernel
theorem dX5_enlist_69 : decode cX5_enlist 69 = .ok (.ireturn, 1) := by decide +kernel
theorem dX5_withNumber_0 : decode cX5_withNumber 0 = .ok (.iconst 0, 1) := by decide +kernel
theorem dX5_withNumber_1 : decode cX5_withNumber 1 = .ok (.istore_n 2, 1) := by decide +kernel
theorem dX5_withNumber_2 : decode cX5_withNumber 2 = .ok (.aload_n 0, 1) := by decide +kernel
theorem dX5_withNumber_3 : decode cX5_withNumber 3 = .ok (.getfield 20, 3) := by decide +kernel
theorem dX5_withNumber_6 : decode cX5_withNumber 6 = .ok (.iconst 1, 1) := by decide +kernel
theorem dX5_withNumber_7 : decode cX5_withNumber 7 = .ok (.isub, 1) := by decide +kernel
theorem dX5_withNumber_8 : decode cX5_withNumber 8 = .ok (.istore_n 3, 1) := by decide +kernel
theorem dX5_withNumber_9 : decode cX5_withNumber 9 = .ok (.iconst 0, 1) := by decide +kernel
theorem dX5_withNumber_10 : decode cX5_withNumber 10 = .ok (.istore 4, 2) := by decide +kernel
theorem dX5_withNumber_12 : decode cX5_withNumber 12 = .ok (.iload 4, 2) := by decide +kernel
theorem dX5_withNumber_14 : decode cX5_withNumber 14 = .ok (.bipush 60, 2) := by decide +kernel
theorem dX5_withNumber_16 : decode cX5_withNumber 16 = .ok (.if_icmp .ge 86, 3) := by decide +kernel
theorem dX5_withNumber_19 : decode cX5_withNumber 19 = .ok (.iload_n 2, 1) := by decide +kernel
theorem dX5_withNumber_20 : decode cX5_withNumber 20 = .ok (.iload_n 3, 1) := by decide +kernel
theorem dX5_withNumber_21 : decode cX5_withNumber 21 = .ok (.if_icmp .gt 81, 3) := by decide +kernel
theorem dX5_withNumber_24 : decode cX5_withNumber 24 = .ok (.iload_n 2, 1) := by decide +kernel
theorem dX5_withNumber_25 : decode cX5_withNumber 25 = .ok (.iload_n 3, 1) := by decide +kernel
theorem dX5_withNumber_26 : decode cX5_withNumber 26 = .ok (.iadd, 1) := by decide +kernel
theorem dX5_withNumber_27 : decode cX5_withNumber 27 = .ok (.iconst 2, 1) := by decide +kernel
theorem dX5_withNumber_28 : decode cX5_withNumber 28 = .ok (.idiv, 1) := by decide +kernel
theorem dX5_withNumber_29 : decode cX5_withNumber 29 = .ok (.istore 5, 2) := by decide +kernel
theorem dX5_withNumber_31 : decode cX5_withNumber 31 = .ok (.iload 5, 2) := by decide +kernel
theorem dX5_withNumber_33 : decode cX5_withNumber 33 = .ok (.aload_n 0, 1) := by decide +kernel
theorem dX5_withNumber_34 : decode cX5_withNumber 34 = .ok (.getfield 11, 3) := by decide +kernel
theorem dX5_withNumber_37 : decode cX5_withNumber 37 = .ok (.arraylength, 1) := by decide +kernel
theorem dX5_withNumber_38 : decode cX5_withNumber 38 = .ok (.invokestatic 31, 3) := by decide +kernel
theorem dX5_withNumber_41 : decode cX5_withNumber 41 = .ok (.ifCond .eq 13, 3) := by decide +kernel
theorem dX5_withNumber_44 : decode cX5_withNumber 44 = .ok (.aload_n 0, 1) := by decide +kernel
theorem dX5_withNumber_45 : decode cX5_withNumber 45 = .ok (.getfield 11, 3) := by decide +kernel
theorem dX5_withNumber_48 : decode cX5_withNumber 48 = .ok (.iload 5, 2) := by decide +kernel
theorem dX5_withNumber_50 : decode cX5_withNumber 50 = .ok (.aaload, 1) := by decide +kernel
theorem dX5_withNumber_51 : decode cX5_withNumber 51 = .ok (.goto 4, 3) := by decide +kernel
theorem dX5_withNumber_54 : decode cX5_withNumber 54 = .ok (.aconst_null, 1) := by decide +kernel
theorem dX5_withNumber_55 : decode cX5_withNumber 55 = .ok (.astore 6, 2) := by decide +kernel
theorem dX5_withNumber_57 : decode cX5_withNumber 57 = .ok (.aload 6, 2) := by decide +kernel
theorem dX5_withNumber_59 : decode cX5_withNumber 59 = .ok (.ifnull 12, 3) := by decide +kernel
theorem dX5_withNumber_62 : decode cX5_withNumber 62 = .ok (.aload 6, 2) := by decide +kernel
theorem dX5_withNumber_64 : decode cX5_withNumber 64 = .ok (.getfield 39, 3) := by decide +kernel
theorem dX5_withNumber_67 : decode cX5_withNumber 67 = .ok (.iload_n 1, 1) := by decide +kernel
theorem dX5_withNumber_68 : decode cX5_withNumber 68 = .ok (.if_icmp .ne 6, 3) := by decide +kernel
theorem dX5_withNumber_71 : decode cX5_withNumber 71 = .ok (.aload 6, 2) := by decide +kernel
theorem dX5_withNumber_73 : decode cX5_withNumber 73 = .ok (.areturn, 1) := by decide +kernel
theorem dX5_withNumber_74 : decode cX5_withNumber 74 = .ok (.aload 6, 2) := by decide +kernel
theorem dX5_withNumber_76 : decode cX5_withNumber 76 = .ok (.getfield 39, 3) := by decide +kernel
theorem dX5_withNumber_79 : decode cX5_withNumber 79 = .ok (.iload_n 1, 1) := by decide +kernel
theorem dX5_withNumber_80 : decode cX5_withNumber 80 = .ok (.if_icmp .ge 11, 3) := by decide +kernel
theorem dX5_withNumber_83 : decode cX5_withNumber 83 = .ok (.iload 5, 2) := by decide +kernel
theorem dX5_withNumber_85 : decode cX5_withNumber 85 = .ok (.iconst 1, 1) := by decide +kernel
theorem dX5_withNumber_86 : decode cX5_withNumber 86 = .ok (.iadd, 1) := by decide +kernel
theorem dX5_withNumber_87 : decode cX5_withNumber 87 = .ok (.istore_n 2, 1) := by decide +kernel
theorem dX5_withNumber_88 : decode cX5_withNumber 88 = .ok (.goto 8, 3) := by decide +kernel
theorem dX5_withNumber_91 : decode cX5_withNumber 91 = .ok (.iload 5, 2) := by decide +kernel
theorem dX5_withNumber_93 : decode cX5_withNumber 93 = .ok (.iconst 1, 1) := by decide +kernel
theorem dX5_withNumber_94 : decode cX5_withNumber 94 = .ok (.isub, 1) := by decide +kernel
theorem dX5_withNumber_95 : decode cX5_withNumber 95 = .ok (.istore_n 3, 1) := by decide +kernel
theorem dX5_withNumber_96 : decode cX5_withNumber 96 = .ok (.iinc 4 1, 3) := by decide +kernel
theorem dX5_withNumber_99 : decode cX5_withNumber 99 = .ok (.goto (-87), 3) := by decide +kernel
theorem dX5_withNumber_102 : decode cX5_withNumber 102 = .ok (.aconst_null, 1) := by decide +kernel
theorem dX5_withNumber_103 : decode cX5_withNumber 103 = .ok (.areturn, 1) := by decide +kernel
theorem dX5_ofValue_0 : decode cX5_ofValue 0 = .ok (.lload_n 1, 1) := by decide +kernel
theorem dX5_ofValue_1 : decode cX5_ofValue 1 = .ok (.invokestatic 42, 3) := by decide +kernel
theorem dX5_ofValue_4 : decode cX5_ofValue 4 = .ok (.ifCond .eq 14, 3) := by decide +kernel
theorem dX5_ofValue_7 : decode cX5_ofValue 7 = .ok (.aload_n 0, 1) := by decide +kernel
theorem dX5_ofValue_8 : decode cX5_ofValue 8 = .ok (.lload_n 1, 1) := by decide +kernel
theorem dX5_ofValue_9 : decode cX5_ofValue 9 = .ok (.invokestatic 46, 3) := by decide +kernel
theorem dX5_ofValue_12 : decode cX5_ofValue 12 = .ok (.invokevirtual 50, 3) := by decide +kernel
theorem dX5_ofValue_15 : decode cX5_ofValue 15 = .ok (.goto 4, 3) := by decide +kernel
theorem dX5_ofValue_18 : decode cX5_ofValue 18 = .ok (.aconst_null, 1) := by decide +kernel
theorem dX5_ofValue_19 : decode cX5_ofValue 19 = .ok (.areturn, 1) := by decide +kernel
theorem dX5_classOfValue_0 : decode cX5_classOfValue 0 = .ok (.lload_n 1, 1) := by decide +kernel
theorem dX5_classOfValue_1 : decode cX5_classOfValue 1 = .ok (.invokestatic 54, 3) := by decide +kernel
theorem dX5_classOfValue_4 : decode cX5_classOfValue 4 = .ok (.ifCond .eq 5, 3) := by decide +kernel
theorem dX5_classOfValue_7 : decode cX5_classOfValue 7 = .ok (.iconst 1, 1) := by decide +kernel
theorem dX5_classOfValue_8 : decode cX5_classOfValue 8 = .ok (.ireturn, 1) := by decide +kernel
theorem dX5_classOfValue_9 : decode cX5_classOfValue 9 = .ok (.aload_n 0, 1) := by decide +kernel
theorem dX5_classOfValue_10 : decode cX5_classOfValue 10 = .ok (.lload_n 1, 1) := by decide +kernel
theorem dX5_classOfValue_11 : decode cX5_classOfValue 11 = .ok (.invokevirtual 57, 3) := by decide +kernel
theorem dX5_classOfValue_14 : decode cX5_classOfValue 14 = .ok (.astore_n 3, 1) := by decide +kernel
theorem dX5_classOfValue_15 : decode cX5_classOfValue 15 = .ok (.aload_n 3, 1) := by decide +kernel
theorem dX5_classOfValue_16 : decode cX5_classOfValue 16 = .ok (.ifnonnull 7, 3) := by decide +kernel
theorem dX5_classOfValue_19 : decode cX5_classOfValue 19 = .ok (.iconst 2, 1) := by decide +kernel
theorem dX5_classOfValue_20 : decode cX5_classOfValue 20 = .ok (.goto 7, 3) := by decide +kernel
theorem dX5_classOfValue_23 : decode cX5_classOfValue 23 = .ok (.aload_n 3, 1) := by decide +kernel
theorem dX5_classOfValue_24 : decode cX5_classOfValue 24 = .ok (.getfield 61, 3) := by decide +kernel
theorem dX5_classOfValue_27 : decode cX5_classOfValue 27 = .ok (.ireturn, 1) := by decide +kernel
theorem dX5_has_0 : decode cX5_has 0 = .ok (.lload_n 1, 1) := by decide +kernel
theorem dX5_has_1 : decode cX5_has 1 = .ok (.invokestatic 42, 3) := by decide +kernel
theorem dX5_has_4 : decode cX5_has 4 = .ok (.ifCond .eq 11, 3) := by decide +kernel
theorem dX5_has_7 : decode cX5_has 7 = .ok (.aload_n 0, 1) := by decide +kernel
theorem dX5_has_8 : decode cX5_has 8 = .ok (.lload_n 1, 1) := by decide +kernel
theorem dX5_has_9 : decode cX5_has 9 = .ok (.invokevirtual 57, 3) := by decide +kernel
theorem dX5_has_12 : decode cX5_has 12 = .ok (.ifnull 7, 3) := by decide +kernel
theorem dX5_has_15 : decode cX5_has 15 = .ok (.iconst 1, 1) := by decide +kernel
theorem dX5_has_16 : decode cX5_has 16 = .ok (.goto 4, 3) := by decide +kernel
theorem dX5_has_19 : decode cX5_has 19 = .ok (.iconst 0, 1) := by decide +kernel
theorem dX5_has_20 : decode cX5_has 20 = .ok (.ireturn, 1) := by decide +kernel
theorem dX5_hasPlacesThere_0 : decode cX5_hasPlacesThere 0 = .ok (.iconst 0, 1) := by decide +kernel
theorem dX5_hasPlacesThere_1 : decode cX5_hasPlacesThere 1 = .ok (.istore_n 2, 1) := by decide +kernel
theorem dX5_hasPlacesThere_2 : decode cX5_hasPlacesThere 2 = .ok (.iload_n 2, 1) := by decide +kernel
theorem dX5_hasPlacesThere_3 : decode cX5_hasPlacesThere 3 = .ok (.aload_n 1, 1) := by decide +kernel
theorem dX5_hasPlacesThere_4 : decode cX5_hasPlacesThere 4 = .ok (.getfield 71, 3) := by decide +kernel
theorem dX5_hasPlacesThere_7 : decode cX5_hasPlacesThere 7 = .ok (.if_icmp .ge 26, 3) := by decide +kernel
theorem dX5_hasPlacesThere_10 : decode cX5_hasPlacesThere 10 = .ok (.aload_n 0, 1) := by decide +kernel
theorem dX5_hasPlacesThere_11 : decode cX5_hasPlacesThere 11 = .ok (.aload_n 1, 1) := by decide +kernel
theorem dX5_hasPlacesThere_12 : decode cX5_hasPlacesThere 12 = .ok (.getfield 74, 3) := by decide +kernel
theorem dX5_hasPlacesThere_15 : decode cX5_hasPlacesThere 15 = .ok (.iload_n 2, 1) := by decide +kernel
theorem dX5_hasPlacesThere_16 : decode cX5_hasPlacesThere 16 = .ok (.invokestatic 78, 3) := by decide +kernel
theorem dX5_hasPlacesThere_19 : decode cX5_hasPlacesThere 19 = .ok (.invokevirtual 82, 3) := by decide +kernel
theorem dX5_hasPlacesThere_22 : decode cX5_hasPlacesThere 22 = .ok (.ifCond .ne 5, 3) := by decide +kernel
theorem dX5_hasPlacesThere_25 : decode cX5_hasPlacesThere 25 = .ok (.iconst 0, 1) := by decide +kernel
theorem dX5_hasPlacesThere_26 : decode cX5_hasPlacesThere 26 = .ok (.ireturn, 1) := by decide +kernel
theorem dX5_hasPlacesThere_27 : decode cX5_hasPlacesThere 27 = .ok (.iinc 2 1, 3) := by decide +kernel
theorem dX5_hasPlacesThere_30 : decode cX5_hasPlacesThere 30 = .ok (.goto (-28), 3) := by decide +kernel
theorem dX5_hasPlacesThere_33 : decode cX5_hasPlacesThere 33 = .ok (.iconst 1, 1) := by decide +kernel
theorem dX5_hasPlacesThere_34 : decode cX5_hasPlacesThere 34 = .ok (.ireturn, 1) := by decide +kernel
theorem dX5_hasFieldsThere_0 : decode cX5_hasFieldsThere 0 = .ok (.iconst 0, 1) := by decide +kernel
theorem dX5_hasFieldsThere_1 : decode cX5_hasFieldsThere 1 = .ok (.istore_n 1, 1) := by decide +kernel
theorem dX5_hasFieldsThere_2 : decode cX5_hasFieldsThere 2 = .ok (.iload_n 1, 1) := by decide +kernel
theorem dX5_hasFieldsThere_3 : decode cX5_hasFieldsThere 3 = .ok (.aload_n 0, 1) := by decide +kernel
theorem dX5_hasFieldsThere_4 : decode cX5_hasFieldsThere 4 = .ok (.getfield 20, 3) := by decide +kernel
theorem dX5_hasFieldsThere_7 : decode cX5_hasFieldsThere 7 = .ok (.if_icmp .ge 29, 3) := by decide +kernel
theorem dX5_hasFieldsThere_10 : decode cX5_hasFieldsThere 10 = .ok (.aload_n 0, 1) := by decide +kernel
theorem dX5_hasFieldsThere_11 : decode cX5_hasFieldsThere 11 = .ok (.iload_n 1, 1) := by decide +kernel
theorem dX5_hasFieldsThere_12 : decode cX5_hasFieldsThere 12 = .ok (.invokevirtual 64, 3) := by decide +kernel
theorem dX5_hasFieldsThere_15 : decode cX5_hasFieldsThere 15 = .ok (.astore_n 2, 1) := by decide +kernel
theorem dX5_hasFieldsThere_16 : decode cX5_hasFieldsThere 16 = .ok (.aload_n 2, 1) := by decide +kernel
theorem dX5_hasFieldsThere_17 : decode cX5_hasFieldsThere 17 = .ok (.ifnull 11, 3) := by decide +kernel
theorem dX5_hasFieldsThere_20 : decode cX5_hasFieldsThere 20 = .ok (.aload_n 0, 1) := by decide +kernel
theorem dX5_hasFieldsThere_21 : decode cX5_hasFieldsThere 21 = .ok (.aload_n 2, 1) := by decide +kernel
theorem dX5_hasFieldsThere_22 : decode cX5_hasFieldsThere 22 = .ok (.invokevirtual 67, 3) := by decide +kernel
theorem dX5_hasFieldsThere_25 : decode cX5_hasFieldsThere 25 = .ok (.ifCond .ne 5, 3) := by decide +kernel
theorem dX5_hasFieldsThere_28 : decode cX5_hasFieldsThere 28 = .ok (.iconst 0, 1) := by decide +kernel
theorem dX5_hasFieldsThere_29 : decode cX5_hasFieldsThere 29 = .ok (.ireturn, 1) := by decide +kernel
theorem dX5_hasFieldsThere_30 : decode cX5_hasFieldsThere 30 = .ok (.iinc 1 1, 3) := by decide +kernel
theorem dX5_hasFieldsThere_33 : decode cX5_hasFieldsThere 33 = .ok (.goto (-31), 3) := by decide +kernel
theorem dX5_hasFieldsThere_36 : decode cX5_hasFieldsThere 36 = .ok (.iconst 1, 1) := by decide +kernel
theorem dX5_hasFieldsThere_37 : decode cX5_hasFieldsThere 37 = .ok (.ireturn, 1) := by decide +kernel
theorem dX5_reach_0 : decode cX5_reach 0 = .ok (.aload_n 0, 1) := by decide +kernel
theorem dX5_reach_1 : decode cX5_reach 1 = .ok (.lload_n 1, 1) := by decide +kernel
theorem dX5_reach_2 : decode cX5_reach 2 = .ok (.invokevirtual 57, 3) := by decide +kernel
theorem dX5_reach_5 : decode cX5_reach 5 = .ok (.astore_n 3, 1) := by decide +kernel
theorem dX5_reach_6 : decode cX5_reach 6 = .ok (.aload_n 3, 1) := by decide +kernel
theorem dX5_reach_7 : decode cX5_reach 7 = .ok (.ifnull 50, 3) := by decide +kernel
theorem dX5_reach_10 : decode cX5_reach 10 = .ok (.aload_n 3, 1) := by decide +kernel
theorem dX5_reach_11 : decode cX5_reach 11 = .ok (.getfield 85, 3) := by decide +kernel
theorem dX5_reach_14 : decode cX5_reach 14 = .ok (.ifCond .ne 43, 3) := by decide +kernel
theorem dX5_reach_17 : decode cX5_reach 17 = .ok (.aload_n 0, 1) := by decide +kernel
theorem dX5_reach_18 : decode cX5_reach 18 = .ok (.getfield 24, 3) := by decide +kernel
theorem dX5_reach_21 : decode cX5_reach 21 = .ok (.aload_n 0, 1) := by decide +kernel
theorem dX5_reach_22 : decode cX5_reach 22 = .ok (.getfield 17, 3) := by decide +kernel
theorem dX5_reach_25 : decode cX5_reach 25 = .ok (.arraylength, 1) := by decide +kernel
theorem dX5_reach_26 : decode cX5_reach 26 = .ok (.invokestatic 31, 3) := by decide +kernel
theorem dX5_reach_29 : decode cX5_reach 29 = .ok (.ifCond .eq 28, 3) := by decide +kernel
theorem dX5_reach_32 : decode cX5_reach 32 = .ok (.aload_n 3, 1) := by decide +kernel
theorem dX5_reach_33 : decode cX5_reach 33 = .ok (.iconst 1, 1) := by decide +kernel
theorem dX5_reach_34 : decode cX5_reach 34 = .ok (.putfield 85, 3) := by decide +kernel
theorem dX5_reach_37 : decode cX5_reach 37 = .ok (.aload_n 0, 1) := by decide +kernel
theorem dX5_reach_38 : decode cX5_reach 38 = .ok (.getfield 17, 3) := by decide +kernel
theorem dX5_reach_41 : decode cX5_reach 41 = .ok (.aload_n 0, 1) := by decide +kernel
theorem dX5_reach_42 : decode cX5_reach 42 = .ok (.getfield 24, 3) := by decide +kernel
theorem dX5_reach_45 : decode cX5_reach 45 = .ok (.aload_n 3, 1) := by decide +kernel
theorem dX5_reach_46 : decode cX5_reach 46 = .ok (.aastore, 1) := by decide +kernel
theorem dX5_reach_47 : decode cX5_reach 47 = .ok (.aload_n 0, 1) := by decide +kernel
theorem dX5_reach_48 : decode cX5_reach 48 = .ok (.dup, 1) := by decide +kernel
theorem dX5_reach_49 : decode cX5_reach 49 = .ok (.getfield 24, 3) := by decide +kernel
theorem dX5_reach_52 : decode cX5_reach 52 = .ok (.iconst 1, 1) := by decide +kernel
theorem dX5_reach_53 : decode cX5_reach 53 = .ok (.iadd, 1) := by decide +kernel
theorem dX5_reach_54 : decode cX5_reach 54 = .ok (.putfield 24, 3) := by decide +kernel
theorem dX5_reach_57 : decode cX5_reach 57 = .ok (.return_, 1) := by decide +kernel
theorem dX5_reachFields_0 : decode cX5_reachFields 0 = .ok (.iconst 0, 1) := by decide +kernel
theorem dX5_reachFields_1 : decode cX5_reachFields 1 = .ok (.istore_n 1, 1) := by decide +kernel
theorem dX5_reachFields_2 : decode cX5_reachFields 2 = .ok (.iload_n 1, 1) := by decide +kernel
theorem dX5_reachFields_3 : decode cX5_reachFields 3 = .ok (.aload_n 0, 1) := by decide +kernel
theorem dX5_reachFields_4 : decode cX5_reachFields 4 = .ok (.getfield 17, 3) := by decide +kernel
theorem dX5_reachFields_7 : decode cX5_reachFields 7 = .ok (.arraylength, 1) := by decide +kernel
theorem dX5_reachFields_8 : decode cX5_reachFields 8 = .ok (.if_icmp .ge 56, 3) := by decide +kernel
theorem dX5_reachFields_11 : decode cX5_reachFields 11 = .ok (.iload_n 1, 1) := by decide +kernel
theorem dX5_reachFields_12 : decode cX5_reachFields 12 = .ok (.aload_n 0, 1) := by decide +kernel
theorem dX5_reachFields_13 : decode cX5_reachFields 13 = .ok (.getfield 24, 3) := by decide +kernel
theorem dX5_reachFields_16 : decode cX5_reachFields 16 = .ok (.if_icmp .ge 48, 3) := by decide +kernel
theorem dX5_reachFields_19 : decode cX5_reachFields 19 = .ok (.aload_n 0, 1) := by decide +kernel
theorem dX5_reachFields_20 : decode cX5_reachFields 20 = .ok (.getfield 17, 3) := by decide +kernel
theorem dX5_reachFields_23 : decode cX5_reachFields 23 = .ok (.iload_n 1, 1) := by decide +kernel
theorem dX5_reachFields_24 : decode cX5_reachFields 24 = .ok (.aaload, 1) := by decide +kernel
theorem dX5_reachFields_25 : decode cX5_reachFields 25 = .ok (.astore_n 2, 1) := by decide +kernel
theorem dX5_reachFields_26 : decode cX5_reachFields 26 = .ok (.iconst 0, 1) := by decide +kernel
theorem dX5_reachFields_27 : decode cX5_reachFields 27 = .ok (.istore_n 3, 1) := by decide +kernel
theorem dX5_reachFields_28 : decode cX5_reachFields 28 = .ok (.aload_n 2, 1) := by decide +kernel
theorem dX5_reachFields_29 : decode cX5_reachFields 29 = .ok (.ifnull 29, 3) := by decide +kernel
theorem dX5_reachFields_32 : decode cX5_reachFields 32 = .ok (.iload_n 3, 1) := by decide +kernel
theorem dX5_reachFields_33 : decode cX5_reachFields 33 = .ok (.aload_n 2, 1) := by decide +kernel
theorem dX5_reachFields_34 : decode cX5_reachFields 34 = .ok (.getfield 71, 3) := by decide +kernel
theorem dX5_reachFields_37 : decode cX5_reachFields 37 = .ok (.if_icmp .ge 21, 3) := by decide +kernel
theorem dX5_reachFields_40 : decode cX5_reachFields 40 = .ok (.aload_n 0, 1) := by decide +kernel
theorem dX5_reachFields_41 : decode cX5_reachFields 41 = .ok (.aload_n 2, 1) := by decide +kernel
theorem dX5_reachFields_42 : decode cX5_reachFields 42 = .ok (.getfield 74, 3) := by decide +kernel
theorem dX5_reachFields_45 : decode cX5_reachFields 45 = .ok (.iload_n 3, 1) := by decide +kernel
theorem dX5_reachFields_46 : decode cX5_reachFields 46 = .ok (.invokestatic 78, 3) := by decide +kernel
theorem dX5_reachFields_49 : decode cX5_reachFields 49 = .ok (.invokevirtual 88, 3) := by decide +kernel
theorem dX5_reachFields_52 : decode cX5_reachFields 52 = .ok (.iinc 3 1, 3) := by decide +kernel
theorem dX5_reachFields_55 : decode cX5_reachFields 55 = .ok (.goto (-27), 3) := by decide +kernel
theorem dX5_reachFields_58 : decode cX5_reachFields 58 = .ok (.iinc 1 1, 3) := by decide +kernel
theorem dX5_reachFields_61 : decode cX5_reachFields 61 = .ok (.goto (-59), 3) := by decide +kernel
theorem dX5_reachFields_64 : decode cX5_reachFields 64 = .ok (.return_, 1) := by decide +kernel
theorem dX5_sweep_0 : decode cX5_sweep 0 = .ok (.aload_n 0, 1) := by decide +kernel
theorem dX5_sweep_1 : decode cX5_sweep 1 = .ok (.getfield 20, 3) := by decide +kernel
theorem dX5_sweep_4 : decode cX5_sweep 4 = .ok (.istore_n 1, 1) := by decide +kernel
theorem dX5_sweep_5 : decode cX5_sweep 5 = .ok (.iconst 0, 1) := by decide +kernel
theorem dX5_sweep_6 : decode cX5_sweep 6 = .ok (.istore_n 2, 1) := by decide +kernel
theorem dX5_sweep_7 : decode cX5_sweep 7 = .ok (.iconst 0, 1) := by decide +kernel
theorem dX5_sweep_8 : decode cX5_sweep 8 = .ok (.istore_n 3, 1) := by decide +kernel
theorem dX5_sweep_9 : decode cX5_sweep 9 = .ok (.iload_n 3, 1) := by decide +kernel
theorem dX5_sweep_10 : decode cX5_sweep 10 = .ok (.iload_n 1, 1) := by decide +kernel
theorem dX5_sweep_11 : decode cX5_sweep 11 = .ok (.if_icmp .ge 73, 3) := by decide +kernel
theorem dX5_sweep_14 : decode cX5_sweep 14 = .ok (.iload_n 3, 1) := by decide +kernel
theorem dX5_sweep_15 : decode cX5_sweep 15 = .ok (.aload_n 0, 1) := by decide +kernel
theorem dX5_sweep_16 : decode cX5_sweep 16 = .ok (.getfield 11, 3) := by decide +kernel
theorem dX5_sweep_19 : decode cX5_sweep 19 = .ok (.arraylength, 1) := by decide +kernel
theorem dX5_sweep_20 : decode cX5_sweep 20 = .ok (.if_icmp .ge 64, 3) := by decide +kernel
theorem dX5_sweep_23 : decode cX5_sweep 23 = .ok (.aload_n 0, 1) := by decide +kernel
theorem dX5_sweep_24 : decode cX5_sweep 24 = .ok (.getfield 11, 3) := by decide +kernel
theorem dX5_sweep_27 : decode cX5_sweep 27 = .ok (.iload_n 3, 1) := by decide +kernel
theorem dX5_sweep_28 : decode cX5_sweep 28 = .ok (.aaload, 1) := by decide +kernel
theorem dX5_sweep_29 : decode cX5_sweep 29 = .ok (.astore 4, 2) := by decide +kernel
theorem dX5_sweep_31 : decode cX5_sweep 31 = .ok (.aload 4, 2) := by decide +kernel
theorem dX5_sweep_33 : decode cX5_sweep 33 = .ok (.ifnull 45, 3) := by decide +kernel
theorem dX5_sweep_36 : decode cX5_sweep 36 = .ok (.aload 4, 2) := by decide +kernel
theorem dX5_sweep_38 : decode cX5_sweep 38 = .ok (.getfield 85, 3) := by decide +kernel
theorem dX5_sweep_41 : decode cX5_sweep 41 = .ok (.ifCond .eq 37, 3) := by decide +kernel
theorem dX5_sweep_44 : decode cX5_sweep 44 = .ok (.iload_n 2, 1) := by decide +kernel
theorem dX5_sweep_45 : decode cX5_sweep 45 = .ok (.iload_n 3, 1) := by decide +kernel
theorem dX5_sweep_46 : decode cX5_sweep 46 = .ok (.if_icmp .gt 32, 3) := by decide +kernel
theorem dX5_sweep_49 : decode cX5_sweep 49 = .ok (.aload 4, 2) := by decide +kernel
theorem dX5_sweep_51 : decode cX5_sweep 51 = .ok (.iconst 0, 1) := by decide +kernel
theorem dX5_sweep_52 : decode cX5_sweep 52 = .ok (.putfield 85, 3) := by decide +kernel
theorem dX5_sweep_55 : decode cX5_sweep 55 = .ok (.aload_n 0, 1) := by decide +kernel
theorem dX5_sweep_56 : decode cX5_sweep 56 = .ok (.getfield 11, 3) := by decide +kernel
theorem dX5_sweep_59 : decode cX5_sweep 59 = .ok (.iload_n 3, 1) := by decide +kernel
theorem dX5_sweep_60 : decode cX5_sweep 60 = .ok (.aload_n 0, 1) := by decide +kernel
theorem dX5_sweep_61 : decode cX5_sweep 61 = .ok (.getfield 11, 3) := by decide +kernel
theorem dX5_sweep_64 : decode cX5_sweep 64 = .ok (.iload_n 2, 1) := by decide +kernel
theorem dX5_sweep_65 : decode cX5_sweep 65 = .ok (.aaload, 1) := by decide +kernel
theorem dX5_sweep_66 : decode cX5_sweep 66 = .ok (.aastore, 1) := by decide +kernel
theorem dX5_sweep_67 : decode cX5_sweep 67 = .ok (.aload_n 0, 1) := by decide +kernel
theorem dX5_sweep_68 : decode cX5_sweep 68 = .ok (.getfield 11, 3) := by decide +kernel
theorem dX5_sweep_71 : decode cX5_sweep 71 = .ok (.iload_n 2, 1) := by decide +kernel
theorem dX5_sweep_72 : decode cX5_sweep 72 = .ok (.aload 4, 2) := by decide +kernel
theorem dX5_sweep_74 : decode cX5_sweep 74 = .ok (.aastore, 1) := by decide +kernel
theorem dX5_sweep_75 : decode cX5_sweep 75 = .ok (.iinc 2 1, 3) := by decide +kernel
theorem dX5_sweep_78 : decode cX5_sweep 78 = .ok (.iinc 3 1, 3) := by decide +kernel
theorem dX5_sweep_81 : decode cX5_sweep 81 = .ok (.goto (-72), 3) := by decide +kernel
theorem dX5_sweep_84 : decode cX5_sweep 84 = .ok (.aload_n 0, 1) := by decide +kernel
theorem dX5_sweep_85 : decode cX5_sweep 85 = .ok (.iload_n 2, 1) := by decide +kernel
theorem dX5_sweep_86 : decode cX5_sweep 86 = .ok (.putfield 20, 3) := by decide +kernel
theorem dX5_sweep_89 : decode cX5_sweep 89 = .ok (.aload_n 0, 1) := by decide +kernel
theorem dX5_sweep_90 : decode cX5_sweep 90 = .ok (.iconst 0, 1) := by decide +kernel
theorem dX5_sweep_91 : decode cX5_sweep 91 = .ok (.putfield 24, 3) := by decide +kernel
theorem dX5_sweep_94 : decode cX5_sweep 94 = .ok (.iload_n 1, 1) := by decide +kernel
theorem dX5_sweep_95 : decode cX5_sweep 95 = .ok (.iload_n 2, 1) := by decide +kernel
theorem dX5_sweep_96 : decode cX5_sweep 96 = .ok (.isub, 1) := by decide +kernel
theorem dX5_sweep_97 : decode cX5_sweep 97 = .ok (.ireturn, 1) := by decide +kernel
section SITES
variable {p : Program} {l : Launch} {e : Env} {R : Room} {s : State} {m : MethodId} {args : Array Value} {below : List Frame} {meth : Method} {c : Code} {H : Heap} {locs : List Loc} {cells slots : Nat} {Q : State → Prop}
variable {pc : Nat} {ls : Array Slot} {rest : List Value} {D : va_G} {ar : Nat → ClassId} {κ : Nat → Nat} {A : Nat → Prop} {a : Nat} {H0 : Heap} {G : gW} {nz nL : Nat} {cc : ByteArray}
theorem gf_RX4_22_10 {A9 : Nat → Prop} {H9 : Heap} {fs : List Value} {v : Value} (S : CallFix p m c cc nL s args lwA RX4) (hE : g_E D vwCl (gT ar) (EX1 κ) A9 s H9) (w : g_S D vwCl A H0 G H locs nz) (ha : G a = some (.inr (10, fs))) (hv : fs[3]? = some v) (hdg : decode cc pc = .ok (.getfield 22, 3)) (kk : W p l e R s m args below meth c H locs cells slots Q (F0 m (pc + 3) ls (v :: rest))) : W p l e R s m args below meth c H locs cells slots Q (F0 m pc ls (.ref a :: rest)) :=
  va_get (ci := 10) (C := RX4) (T := TX4) (N := 5) S.1 S.2.1 S.2.2.2.2 inA_RX4 S.2.2.2.1 hE.1 (g_1 w.1 ha) 0 rfl rfl 3 (by decide) (S.2.2.2.2 _ m_1_121) (fun _ h => h) hv hdg kk
theorem k_RX4_37 {args : Array Value} {s : State} {R rm : Room} (hts : ∀ w ∈ lwA, w.before args s = true) (hN : va_Nw (.methodLinkNest RX4 37 yX8_isBelow "Sendhouse") s) (hR : rm.frames + 1 ≤ R.frames ∧ 8 + (2 + 11) + rm.locals ≤ R.locals) : va_CN R s args RX4 37 yX8_isBelow "Sendhouse" cX8_isBelow 2 (some .boolean) (lwC yX8_isBelow cX8_isBelow 2 (some .boolean)) rm rm.cells rm.slots 2 ∧ (Cond.static yX8_isBelow).before args s = true ∧ True := ⟨va_cnB 2 hts (gd m_2_157) rfl rfl rfl hN (hts _ m_1_1) (by decide +kernel) hR, hts _ m_2_156, trivial⟩
theorem gf_RX4_9_10 {A9 : Nat → Prop} {H9 : Heap} {fs : List Value} {v : Value} (S : CallFix p m c cc nL s args lwA RX4) (hE : g_E D vwCl (gT ar) (EX1 κ) A9 s H9) (w : g_S D vwCl A H0 G H locs nz) (ha : G a = some (.inr (10, fs))) (hv : fs[0]? = some v) (hdg : decode cc pc = .ok (.getfield 9, 3)) (kk : W p l e R s m args below meth c H locs cells slots Q (F0 m (pc + 3) ls (v :: rest))) : W p l e R s m args below meth c H locs cells slots Q (F0 m pc ls (.ref a :: rest)) :=
  va_get (ci := 10) (C := RX4) (T := TX4) (N := 5) S.1 S.2.1 S.2.2.2.2 inA_RX4 S.2.2.2.1 hE.1 (g_1 w.1 ha) 0 rfl rfl 0 (by decide) (S.2.2.2.2 _ m_1_112) (fun _ h => h) hv hdg kk
theorem m_3_226 : (Cond.constantLong RX4 29 (502511173632)) ∈ lwA := lwA_mk (ck_3 _ (List.mem_of_getElem? (i := 226) rfl)) rfl
theorem m_3_227 : (Cond.methodLink RX4 31 yJ7_fill_d0a16) ∈ lwA := lwA_mk (ck_3 _ (List.mem_of_getElem? (i := 227) rfl)) rfl
theorem k_RX4_31 {args : Array Value} {s : State} {R rm : Room} (hts : ∀ w ∈ lwA, w.before args s = true) (hR : rm.frames + 1 ≤ R.frames ∧ 8 + (5 + 11) + rm.locals ≤ R.locals) : CallB R s args RX4 31 yJ7_fill_d0a16 cJ7_fill_d0a16 5 none (lwC yJ7_fill_d0a16 cJ7_fill_d0a16 5 none) rm rm.cells rm.slots 2 ∧ (Cond.static yJ7_fill_d0a16).before args s = true := va_cwS 2 hts (gdT m_3_227 m_1_210 m_1_10 m_1_211) rfl rfl rfl (by decide +kernel) hR
theorem gf_RX5_20_11 {A9 : Nat → Prop} {H9 : Heap} {fs : List Value} {v : Value} (S : CallFix p m c cc nL s args lwA RX5) (hE : g_E D vwCl (gT ar) (EX1 κ) A9 s H9) (w : g_S D vwCl A H0 G H locs nz) (ha : G a = some (.inr (11, fs))) (hv : fs[2]? = some v) (hdg : decode cc pc = .ok (.getfield 20, 3)) (kk : W p l e R s m args below meth c H locs cells slots Q (F0 m (pc + 3) ls (v :: rest))) : W p l e R s m args below meth c H locs cells slots Q (F0 m pc ls (.ref a :: rest)) :=
  va_get (ci := 11) (C := RX5) (T := TX5) (N := 5) S.1 S.2.1 S.2.2.2.2 inA_RX5 S.2.2.2.1 hE.1 (g_1 w.1 ha) 0 rfl rfl 2 (by decide) (S.2.2.2.2 _ m_1_140) (fun _ h => h) hv hdg kk
theorem k_RX5_31 {args : Array Value} {s : State} {R rm : Room} (hts : ∀ w ∈ lwA, w.before args s = true) (hN : va_Nw (.methodLinkNest RX5 31 yX8_isBelow "Sendhouse") s) (hR : rm.frames + 1 ≤ R.frames ∧ 8 + (2 + 11) + rm.locals ≤ R.locals) : va_CN R s args RX5 31 yX8_isBelow "Sendhouse" cX8_isBelow 2 (some .boolean) (lwC yX8_isBelow cX8_isBelow 2 (some .boolean)) rm rm.cells rm.slots 2 ∧ (Cond.static yX8_isBelow).before args s = true ∧ True := ⟨va_cnB 2 hts (gd m_2_157) rfl rfl rfl hN (hts _ m_1_1) (by decide +kernel) hR, hts _ m_2_156, trivial⟩
theorem gf_RX5_27_11 {A9 : Nat → Prop} {H9 : Heap} {fs : List Value} {v : Value} (S : CallFix p m c cc nL s args lwA RX5) (hE : g_E D vwCl (gT ar) (EX1 κ) A9 s H9) (w : g_S D vwCl A H0 G H locs nz) (ha : G a = some (.inr (11, fs))) (hv : fs[4]? = some v) (hdg : decode cc pc = .ok (.getfield 27, 3)) (kk : W p l e R s m args below meth c H locs cells slots Q (F0 m (pc + 3) ls (v :: rest))) : W p l e R s m args below meth c H locs cells slots Q (F0 m pc ls (.ref a :: rest)) :=
  va_get (ci := 11) (C := RX5) (T := TX5) (N := 5) S.1 S.2.1 S.2.2.2.2 inA_RX5 S.2.2.2.1 hE.1 (g_1 w.1 ha) 0 rfl rfl 4 (by decide) (S.2.2.2.2 _ m_1_143) (fun _ h => h) hv hdg kk
theorem m_3_225 : (Cond.code yX4_open cX4_open 4 none) ∈ lwA := lwA_mk (ck_3 _ (List.mem_of_getElem? (i := 225) rfl)) rfl
theorem m_3_222 : (Cond.methodLink RX5 35 yX4_open) ∈ lwA := lwA_mk (ck_3 _ (List.mem_of_getElem? (i := 222) rfl)) rfl
theorem m_3_223 : (Cond.instanceMethod yX4_open) ∈ lwA := lwA_mk (ck_3 _ (List.mem_of_getElem? (i := 223) rfl)) rfl
theorem m_3_224 : (Cond.selects RX4 yX4_open yX4_open) ∈ lwA := lwA_mk (ck_3 _ (List.mem_of_getElem? (i := 224) rfl)) rfl
theorem k_RX5_35 {args : Array Value} {s : State} {R rm : Room} (hts : ∀ w ∈ lwA, w.before args s = true) (hR : rm.frames + 1 ≤ R.frames ∧ 8 + (4 + 11) + rm.locals ≤ R.locals) : CallW R s args RX5 RX4 35 yX4_open cX4_open 4 none (lwC yX4_open cX4_open 4 none) rm rm.cells rm.slots 3 := cwV 3 hts (gdV m_3_222 m_3_223 m_3_224 m_1_5 m_3_225) rfl rfl rfl (by decide +kernel) hR
theorem gf_RX5_39_10 {A9 : Nat → Prop} {H9 : Heap} {fs : List Value} {v : Value} (S : CallFix p m c cc nL s args lwA RX5) (hE : g_E D vwCl (gT ar) (EX1 κ) A9 s H9) (w : g_S D vwCl A H0 G H locs nz) (ha : G a = some (.inr (10, fs))) (hv : fs[1]? = some v) (hdg : decode cc pc = .ok (.getfield 39, 3)) (kk : W p l e R s m args below meth c H locs cells slots Q (F0 m (pc + 3) ls (v :: rest))) : W p l e R s m args below meth c H locs cells slots Q (F0 m pc ls (.ref a :: rest)) :=
  va_getN (ci := 10) (C := RX4) (T := TX4) (N := 5) S.1 S.2.1 S.2.2.2.2 inA_RX4 S.2.2.2.1 hE.1 (g_1 w.1 ha) 0 rfl rfl 1 (by decide) (va_Nw.use rfl (hE.2.1.1 _ (ckN_0 _ (List.mem_of_getElem? (i := 9) rfl)))) (fun _ h => h) hv hdg kk
theorem m_2_222 : (Cond.code yX8_isThing cX8_isThing 2 (some .boolean)) ∈ lwA := lwA_mk (ck_2 _ (List.mem_of_getElem? (i := 222) rfl)) rfl
theorem m_2_221 : (Cond.static yX8_isThing) ∈ lwA := lwA_mk (ck_2 _ (List.mem_of_getElem? (i := 221) rfl)) rfl
theorem k_RX5_42 {args : Array Value} {s : State} {R rm : Room} (hts : ∀ w ∈ lwA, w.before args s = true) (hN : va_Nw (.methodLinkNest RX5 42 yX8_isThing "Sendhouse") s) (hR : rm.frames + 1 ≤ R.frames ∧ 8 + (2 + 11) + rm.locals ≤ R.locals) : va_CN R s args RX5 42 yX8_isThing "Sendhouse" cX8_isThing 2 (some .boolean) (lwC yX8_isThing cX8_isThing 2 (some .boolean)) rm rm.cells rm.slots 1 ∧ (Cond.static yX8_isThing).before args s = true ∧ True := ⟨va_cnB 1 hts (gd m_2_222) rfl rfl rfl hN (hts _ m_1_1) (by decide +kernel) hR, hts _ m_2_221, trivial⟩
theorem m_2_228 : (Cond.code yX8_numberOf cX8_numberOf 2 (some .int)) ∈ lwA := lwA_mk (ck_2 _ (List.mem_of_getElem? (i := 228) rfl)) rfl
theorem m_2_227 : (Cond.static yX8_numberOf) ∈ lwA := lwA_mk (ck_2 _ (List.mem_of_getElem? (i := 227) rfl)) rfl
theorem k_RX5_46 {args : Array Value} {s : State} {R rm : Room} (hts : ∀ w ∈ lwA, w.before args s = true) (hN : va_Nw (.methodLinkNest RX5 46 yX8_numberOf "Sendhouse") s) (hR : rm.frames + 1 ≤ R.frames ∧ 8 + (2 + 11) + rm.locals ≤ R.locals) : va_CN R s args RX5 46 yX8_numberOf "Sendhouse" cX8_numberOf 2 (some .int) (lwC yX8_numberOf cX8_numberOf 2 (some .int)) rm rm.cells rm.slots 1 ∧ (Cond.static yX8_numberOf).before args s = true ∧ True := ⟨va_cnB 1 hts (gd m_2_228) rfl rfl rfl hN (hts _ m_1_1) (by decide +kernel) hR, hts _ m_2_227, trivial⟩
theorem m_2_232 : (Cond.code yX5_withNumber cX5_withNumber 7 (some (.object "Sendhouse$Thing"))) ∈ lwA := lwA_mk (ck_2 _ (List.mem_of_getElem? (i := 232) rfl)) rfl
theorem m_2_229 : (Cond.methodLink RX5 50 yX5_withNumber) ∈ lwA := lwA_mk (ck_2 _ (List.mem_of_getElem? (i := 229) rfl)) rfl
theorem m_2_230 : (Cond.instanceMethod yX5_withNumber) ∈ lwA := lwA_mk (ck_2 _ (List.mem_of_getElem? (i := 230) rfl)) rfl
theorem m_2_231 : (Cond.selects RX5 yX5_withNumber yX5_withNumber) ∈ lwA := lwA_mk (ck_2 _ (List.mem_of_getElem? (i := 231) rfl)) rfl
theorem k_RX5_50 {args : Array Value} {s : State} {R rm : Room} (hts : ∀ w ∈ lwA, w.before args s = true) (hR : rm.frames + 1 ≤ R.frames ∧ 8 + (7 + 11) + rm.locals ≤ R.locals) : CallW R s args RX5 RX5 50 yX5_withNumber cX5_withNumber 7 (some (.object "Sendhouse$Thing")) (lwC yX5_withNumber cX5_withNumber 7 (some (.object "Sendhouse$Thing"))) rm rm.cells rm.slots 1 := cwV 1 hts (gdV m_2_229 m_2_230 m_2_231 m_1_4 m_2_232) rfl rfl rfl (by decide +kernel) hR
theorem m_3_81 : (Cond.code yX8_isNumber cX8_isNumber 2 (some .boolean)) ∈ lwA := lwA_mk (ck_3 _ (List.mem_of_getElem? (i := 81) rfl)) rfl
theorem m_3_80 : (Cond.static yX8_isNumber) ∈ lwA := lwA_mk (ck_3 _ (List.mem_of_getElem? (i := 80) rfl)) rfl
theorem k_RX5_54 {args : Array Value} {s : State} {R rm : Room} (hts : ∀ w ∈ lwA, w.before args s = true) (hN : va_Nw (.methodLinkNest RX5 54 yX8_isNumber "Sendhouse") s) (hR : rm.frames + 1 ≤ R.frames ∧ 8 + (2 + 11) + rm.locals ≤ R.locals) : va_CN R s args RX5 54 yX8_isNumber "Sendhouse" cX8_isNumber 2 (some .boolean) (lwC yX8_isNumber cX8_isNumber 2 (some .boolean)) rm rm.cells rm.slots 1 ∧ (Cond.static yX8_isNumber).before args s = true ∧ True := ⟨va_cnB 1 hts (gd m_3_81) rfl rfl rfl hN (hts _ m_1_1) (by decide +kernel) hR, hts _ m_3_80, trivial⟩
theorem m_2_219 : (Cond.code yX5_ofValue cX5_ofValue 3 (some (.object "Sendhouse$Thing"))) ∈ lwA := lwA_mk (ck_2 _ (List.mem_of_getElem? (i := 219) rfl)) rfl
theorem m_2_216 : (Cond.methodLink RX5 57 yX5_ofValue) ∈ lwA := lwA_mk (ck_2 _ (List.mem_of_getElem? (i := 216) rfl)) rfl
theorem m_2_217 : (Cond.instanceMethod yX5_ofValue) ∈ lwA := lwA_mk (ck_2 _ (List.mem_of_getElem? (i := 217) rfl)) rfl
theorem m_2_218 : (Cond.selects RX5 yX5_ofValue yX5_ofValue) ∈ lwA := lwA_mk (ck_2 _ (List.mem_of_getElem? (i := 218) rfl)) rfl
theorem k_RX5_57 {args : Array Value} {s : State} {R rm : Room} (hts : ∀ w ∈ lwA, w.before args s = true) (hR : rm.frames + 1 ≤ R.frames ∧ 8 + (3 + 11) + rm.locals ≤ R.locals) : CallW R s args RX5 RX5 57 yX5_ofValue cX5_ofValue 3 (some (.object "Sendhouse$Thing")) (lwC yX5_ofValue cX5_ofValue 3 (some (.object "Sendhouse$Thing"))) rm rm.cells rm.slots 1 := cwV 1 hts (gdV m_2_216 m_2_217 m_2_218 m_1_4 m_2_219) rfl rfl rfl (by decide +kernel) hR
theorem gf_RX5_61_10 {A9 : Nat → Prop} {H9 : Heap} {fs : List Value} {v : Value} (S : CallFix p m c cc nL s args lwA RX5) (hE : g_E D vwCl (gT ar) (EX1 κ) A9 s H9) (w : g_S D vwCl A H0 G H locs nz) (ha : G a = some (.inr (10, fs))) (hv : fs[2]? = some v) (hdg : decode cc pc = .ok (.getfield 61, 3)) (kk : W p l e R s m args below meth c H locs cells slots Q (F0 m (pc + 3) ls (v :: rest))) : W p l e R s m args below meth c H locs cells slots Q (F0 m pc ls (.ref a :: rest)) :=
  va_getN (ci := 10) (C := RX4) (T := TX4) (N := 5) S.1 S.2.1 S.2.2.2.2 inA_RX4 S.2.2.2.1 hE.1 (g_1 w.1 ha) 0 rfl rfl 2 (by decide) (va_Nw.use rfl (hE.2.1.1 _ (ckN_0 _ (List.mem_of_getElem? (i := 11) rfl)))) (fun _ h => h) hv hdg kk
theorem gf_RX5_71_10 {A9 : Nat → Prop} {H9 : Heap} {fs : List Value} {v : Value} (S : CallFix p m c cc nL s args lwA RX5) (hE : g_E D vwCl (gT ar) (EX1 κ) A9 s H9) (w : g_S D vwCl A H0 G H locs nz) (ha : G a = some (.inr (10, fs))) (hv : fs[3]? = some v) (hdg : decode cc pc = .ok (.getfield 71, 3)) (kk : W p l e R s m args below meth c H locs cells slots Q (F0 m (pc + 3) ls (v :: rest))) : W p l e R s m args below meth c H locs cells slots Q (F0 m pc ls (.ref a :: rest)) :=
  va_getN (ci := 10) (C := RX4) (T := TX4) (N := 5) S.1 S.2.1 S.2.2.2.2 inA_RX4 S.2.2.2.1 hE.1 (g_1 w.1 ha) 0 rfl rfl 3 (by decide) (va_Nw.use rfl (hE.2.1.1 _ (ckN_0 _ (List.mem_of_getElem? (i := 13) rfl)))) (fun _ h => h) hv hdg kk
theorem gf_RX5_74_10 {A9 : Nat → Prop} {H9 : Heap} {fs : List Value} {v : Value} (S : CallFix p m c cc nL s args lwA RX5) (hE : g_E D vwCl (gT ar) (EX1 κ) A9 s H9) (w : g_S D vwCl A H0 G H locs nz) (ha : G a = some (.inr (10, fs))) (hv : fs[0]? = some v) (hdg : decode cc pc = .ok (.getfield 74, 3)) (kk : W p l e R s m args below meth c H locs cells slots Q (F0 m (pc + 3) ls (v :: rest))) : W p l e R s m args below meth c H locs cells slots Q (F0 m pc ls (.ref a :: rest)) :=
  va_getN (ci := 10) (C := RX4) (T := TX4) (N := 5) S.1 S.2.1 S.2.2.2.2 inA_RX4 S.2.2.2.1 hE.1 (g_1 w.1 ha) 0 rfl rfl 0 (by decide) (va_Nw.use rfl (hE.2.1.1 _ (ckN_0 _ (List.mem_of_getElem? (i := 7) rfl)))) (fun _ h => h) hv hdg kk
theorem k_RX5_78 {args : Array Value} {s : State} {R rm : Room} (hts : ∀ w ∈ lwA, w.before args s = true) (hN : va_Nw (.methodLinkNest RX5 78 yX8_placeAt "Sendhouse") s) (hR : rm.frames + 1 ≤ R.frames ∧ 8 + (2 + 11) + rm.locals ≤ R.locals) : va_CN R s args RX5 78 yX8_placeAt "Sendhouse" cX8_placeAt 2 (some .long) (lwC yX8_placeAt cX8_placeAt 2 (some .long)) rm rm.cells rm.slots 2 ∧ (Cond.static yX8_placeAt).before args s = true ∧ True := ⟨va_cnB 2 hts (gd m_3_20) rfl rfl rfl hN (hts _ m_1_1) (by decide +kernel) hR, hts _ m_3_19, trivial⟩
theorem m_8_51 : (Cond.code yX5_has cX5_has 3 (some .boolean)) ∈ lwA := lwA_mk (ck_8 _ (List.mem_of_getElem? (i := 51) rfl)) rfl
theorem m_8_65 : (Cond.methodLink RX5 82 yX5_has) ∈ lwA := lwA_mk (ck_8 _ (List.mem_of_getElem? (i := 65) rfl)) rfl
theorem m_8_49 : (Cond.instanceMethod yX5_has) ∈ lwA := lwA_mk (ck_8 _ (List.mem_of_getElem? (i := 49) rfl)) rfl
theorem m_8_50 : (Cond.selects RX5 yX5_has yX5_has) ∈ lwA := lwA_mk (ck_8 _ (List.mem_of_getElem? (i := 50) rfl)) rfl
theorem k_RX5_82 {args : Array Value} {s : State} {R rm : Room} (hts : ∀ w ∈ lwA, w.before args s = true) (hR : rm.frames + 1 ≤ R.frames ∧ 8 + (3 + 11) + rm.locals ≤ R.locals) : CallW R s args RX5 RX5 82 yX5_has cX5_has 3 (some .boolean) (lwC yX5_has cX5_has 3 (some .boolean)) rm rm.cells rm.slots 1 := cwV 1 hts (gdV m_8_65 m_8_49 m_8_50 m_1_4 m_8_51) rfl rfl rfl (by decide +kernel) hR
theorem m_8_15 : (Cond.code yX5_inOrder cX5_inOrder 2 (some (.object "Sendhouse$Thing"))) ∈ lwA := lwA_mk (ck_8 _ (List.mem_of_getElem? (i := 15) rfl)) rfl
theorem m_8_60 : (Cond.methodLink RX5 64 yX5_inOrder) ∈ lwA := lwA_mk (ck_8 _ (List.mem_of_getElem? (i := 60) rfl)) rfl
theorem m_8_13 : (Cond.instanceMethod yX5_inOrder) ∈ lwA := lwA_mk (ck_8 _ (List.mem_of_getElem? (i := 13) rfl)) rfl
theorem m_8_14 : (Cond.selects RX5 yX5_inOrder yX5_inOrder) ∈ lwA := lwA_mk (ck_8 _ (List.mem_of_getElem? (i := 14) rfl)) rfl
theorem k_RX5_64 {args : Array Value} {s : State} {R rm : Room} (hts : ∀ w ∈ lwA, w.before args s = true) (hR : rm.frames + 1 ≤ R.frames ∧ 8 + (2 + 11) + rm.locals ≤ R.locals) : CallW R s args RX5 RX5 64 yX5_inOrder cX5_inOrder 2 (some (.object "Sendhouse$Thing")) (lwC yX5_inOrder cX5_inOrder 2 (some (.object "Sendhouse$Thing"))) rm rm.cells rm.slots 1 := cwV 1 hts (gdV m_8_60 m_8_13 m_8_14 m_1_4 m_8_15) rfl rfl rfl (by decide +kernel) hR
theorem m_8_64 : (Cond.code yX5_hasPlacesThere cX5_hasPlacesThere 3 (some .boolean)) ∈ lwA := lwA_mk (ck_8 _ (List.mem_of_getElem? (i := 64) rfl)) rfl
theorem m_8_61 : (Cond.methodLink RX5 67 yX5_hasPlacesThere) ∈ lwA := lwA_mk (ck_8 _ (List.mem_of_getElem? (i := 61) rfl)) rfl
theorem m_8_63 : (Cond.instanceMethod yX5_hasPlacesThere) ∈ lwA := lwA_mk (ck_8 _ (List.mem_of_getElem? (i := 63) rfl)) rfl
theorem ms_37 : (Cond.selects RX5 yX5_hasPlacesThere yX5_hasPlacesThere) ∈ lwA := lwA_mk (List.mem_append_left _ (List.mem_of_getElem? (i := 37) rfl)) rfl
theorem k_RX5_67 {args : Array Value} {s : State} {R rm : Room} (hts : ∀ w ∈ lwA, w.before args s = true) (hR : rm.frames + 1 ≤ R.frames ∧ 8 + (3 + 11) + rm.locals ≤ R.locals) : CallW R s args RX5 RX5 67 yX5_hasPlacesThere cX5_hasPlacesThere 3 (some .boolean) (lwC yX5_hasPlacesThere cX5_hasPlacesThere 3 (some .boolean)) rm rm.cells rm.slots 1 := cwV 1 hts (gdV m_8_61 m_8_63 ms_37 m_1_4 m_8_64) rfl rfl rfl (by decide +kernel) hR
theorem gf_RX5_85_10 {A9 : Nat → Prop} {H9 : Heap} {fs : List Value} {v : Value} (S : CallFix p m c cc nL s args lwA RX5) (hE : g_E D vwCl (gT ar) (EX1 κ) A9 s H9) (w : g_S D vwCl A H0 G H locs nz) (ha : G a = some (.inr (10, fs))) (hv : fs[4]? = some v) (hdg : decode cc pc = .ok (.getfield 85, 3)) (kk : W p l e R s m args below meth c H locs cells slots Q (F0 m (pc + 3) ls (v :: rest))) : W p l e R s m args below meth c H locs cells slots Q (F0 m pc ls (.ref a :: rest)) :=
  va_getN (ci := 10) (C := RX4) (T := TX4) (N := 5) S.1 S.2.1 S.2.2.2.2 inA_RX4 S.2.2.2.1 hE.1 (g_1 w.1 ha) 0 rfl rfl 4 (by decide) (va_Nw.use rfl (hE.2.1.1 _ (ckN_0 _ (List.mem_of_getElem? (i := 15) rfl)))) (fun _ h => h) hv hdg kk
theorem gf_RX5_24_11 {A9 : Nat → Prop} {H9 : Heap} {fs : List Value} {v : Value} (S : CallFix p m c cc nL s args lwA RX5) (hE : g_E D vwCl (gT ar) (EX1 κ) A9 s H9) (w : g_S D vwCl A H0 G H locs nz) (ha : G a = some (.inr (11, fs))) (hv : fs[3]? = some v) (hdg : decode cc pc = .ok (.getfield 24, 3)) (kk : W p l e R s m args below meth c H locs cells slots Q (F0 m (pc + 3) ls (v :: rest))) : W p l e R s m args below meth c H locs cells slots Q (F0 m pc ls (.ref a :: rest)) :=
  va_get (ci := 11) (C := RX5) (T := TX5) (N := 5) S.1 S.2.1 S.2.2.2.2 inA_RX5 S.2.2.2.1 hE.1 (g_1 w.1 ha) 0 rfl rfl 3 (by decide) (S.2.2.2.2 _ m_1_142) (fun _ h => h) hv hdg kk
theorem gf_RX5_17_11 {A9 : Nat → Prop} {H9 : Heap} {fs : List Value} {v : Value} (S : CallFix p m c cc nL s args lwA RX5) (hE : g_E D vwCl (gT ar) (EX1 κ) A9 s H9) (w : g_S D vwCl A H0 G H locs nz) (ha : G a = some (.inr (11, fs))) (hv : fs[1]? = some v) (hdg : decode cc pc = .ok (.getfield 17, 3)) (kk : W p l e R s m args below meth c H locs cells slots Q (F0 m (pc + 3) ls (v :: rest))) : W p l e R s m args below meth c H locs cells slots Q (F0 m pc ls (.ref a :: rest)) :=
  va_get (ci := 11) (C := RX5) (T := TX5) (N := 5) S.1 S.2.1 S.2.2.2.2 inA_RX5 S.2.2.2.1 hE.1 (g_1 w.1 ha) 0 rfl rfl 1 (by decide) (S.2.2.2.2 _ m_1_139) (fun _ h => h) hv hdg kk
theorem pf_RX5_85_10 {A9 : Nat → Prop} {H9 : Heap} {fs : List Value} {v : Value} (S : CallFix p m c cc nL s args lwA RX5) (hE : g_E D vwCl (gT ar) (EX1 κ) A9 s H9) (w : g_S D vwCl A H0 G H locs nz) (ha : G a = some (.inr (10, fs))) (hn : narrow .boolean v = v) (hfit : fits .boolean v = true) (hl : 4 < fs.length) {fs1 : List Value} (hfs : fs.set 4 v = fs1) (hdg : decode cc pc = .ok (.putfield 85, 3)) (kk : ∀ (H1 : Heap) (locs1 : List Loc), g_S D vwCl A H0 (g_up G a (.inr (10, fs1))) H1 locs1 nz → W p l e R s m args below meth c H1 locs1 cells slots Q (F0 m (pc + 3) ls rest)) : W p l e R s m args below meth c H locs cells slots Q (F0 m pc ls (v :: .ref a :: rest)) :=
  g_putN (ci := 10) (ty := .boolean) (C := RX4) (T := TX4) (N := 5) S.1 S.2.1 S.2.2.2.2 inA_RX4 tyX4 tyX4_ok nmX4 S.2.2.2.1 hE.1 w ha rfl 4 (by decide) (va_Nw.use rfl (hE.2.1.1 _ (ckN_0 _ (List.mem_of_getElem? (i := 15) rfl)))) (fun _ h => h) rfl (by decide +kernel) hn hfit hl hdg (fun H1 l1 w1 => kk H1 l1 (by rw [← hfs]; exact w1))
theorem m_2_215 : (Cond.code yX5_reach cX5_reach 4 none) ∈ lwA := lwA_mk (ck_2 _ (List.mem_of_getElem? (i := 215) rfl)) rfl
theorem m_3_26 : (Cond.methodLink RX5 88 yX5_reach) ∈ lwA := lwA_mk (ck_3 _ (List.mem_of_getElem? (i := 26) rfl)) rfl
theorem m_2_213 : (Cond.instanceMethod yX5_reach) ∈ lwA := lwA_mk (ck_2 _ (List.mem_of_getElem? (i := 213) rfl)) rfl
theorem m_2_214 : (Cond.selects RX5 yX5_reach yX5_reach) ∈ lwA := lwA_mk (ck_2 _ (List.mem_of_getElem? (i := 214) rfl)) rfl
theorem k_RX5_88 {args : Array Value} {s : State} {R rm : Room} (hts : ∀ w ∈ lwA, w.before args s = true) (hR : rm.frames + 1 ≤ R.frames ∧ 8 + (4 + 11) + rm.locals ≤ R.locals) : CallW R s args RX5 RX5 88 yX5_reach cX5_reach 4 none (lwC yX5_reach cX5_reach 4 none) rm rm.cells rm.slots 1 := cwV 1 hts (gdV m_3_26 m_2_213 m_2_214 m_1_4 m_2_215) rfl rfl rfl (by decide +kernel) hR
end SITES
def sX4_hasField (Z : Ho) (i0 : Fin 60) (j0 : Int32) : Int32 := vp_nar .boolean (isB j0 ((Z.th i0).z))
theorem sX4_hasField_u (Z : Ho) (i0 : Fin 60) (j0 : Int32) : sX4_hasField Z i0 j0 = vp_nar .boolean (isB j0 ((Z.th i0).z)) := rfl
set_option maxHeartbeats 4000000 in
set_option maxRecDepth 100000 in
theorem hX4_hasField (l : Launch) (D : va_G) (ar : Nat → ClassId) (κ : Nat → Nat) (G : gW) (x : Xo) (Z : Ho) (sz : Nat) (i0 : Fin 60) (j0 : Int32) (hk : OK x Z) : Met l yX4_hasField (lwC yX4_hasField cX4_hasField 2 (some .boolean)) (rD 3 0 0) (g_Pc D vwCl (gT ar) (EX1 κ) (ov κ ar x Z G) sz [.ref (x.f (.th i0)), .int j0]) (g_Qi D vwCl (g_A (ov κ ar x Z G) sz) (fun r u => r = sX4_hasField Z i0 j0 ∧ u = (ov κ ar x Z G, sz))) 0 0 (g_A (ov κ ar x Z G) sz) := by
  refine g_ofW (by decide +kernel) (Nat.le_of_ble_eq_true rfl) ?_
  intro p e s m below meth c ls S hr hlk hin hE w hl
  have hx := S.1
  have hb := S.2.1
  have hl : lv_has ls 2 [(0, .ref (x.f (.th i0))), (1, .int j0)] := hl
  refine lv_iload_n hx hb dX4_hasField_0 rfl (lv_at hl 1 rfl) ?_
  refine lv_aload_n hx hb dX4_hasField_1 rfl (lv_at hl 0 rfl) ?_
  refine gf_RX4_22_10 (v := .int ((Z.th i0).z)) S hE w (ov_r (t := .th i0) (hk.e (.th i0) rfl)) rfl dX4_hasField_2 ?_
  refine g_calli w (g_runSN (As := [.int j0, .int ((Z.th i0).z)]) (rest := []) S hE w hl (c_X8_isBelow l D ar κ (ov κ ar x Z G) sz j0 ((Z.th i0).z)) (k_RX4_37 S.2.2.2.2 (hE.2.1.1 _ (ckN_1 _ (List.mem_of_getElem? (i := 9) rfl))) ⟨Nat.le_of_ble_eq_true rfl, Nat.le_of_ble_eq_true rfl⟩) rfl rfl (Nat.le_of_ble_eq_true rfl) dX4_hasField_5 ⟨Nat.le_of_ble_eq_true rfl, Nat.le_of_ble_eq_true rfl⟩) (fun r u H locs hp hnz w => ?_)
  obtain ⟨rfl, rfl⟩ := hp
  dsimp only at w
  exact g_zretN (v := vp_nar .boolean (isB j0 ((Z.th i0).z))) hx hb hr hlk w (Nat.le_of_ble_eq_true rfl) (Nat.le_of_ble_eq_true rfl) dX4_hasField_8 rfl ⟨((sX4_hasField_u Z i0 j0)).symm, rfl⟩
def sX4_open (Z : Ho) (i0 : Fin 60) (a0 : Int32) (b0 : Int32) (c0 : Int32) : Ho := (Z.thS i0 ((((((Z.th i0).sn a0).sc b0).sz c0).sr 0).sp (fillJ ((Z.th i0).p) 502511173632 8)))
theorem sX4_open_u (Z : Ho) (i0 : Fin 60) (a0 : Int32) (b0 : Int32) (c0 : Int32) : sX4_open Z i0 a0 b0 c0 = (Z.thS i0 ((((((Z.th i0).sn a0).sc b0).sz c0).sr 0).sp (fillJ ((Z.th i0).p) 502511173632 8))) := rfl
set_option maxHeartbeats 4000000 in
set_option maxRecDepth 100000 in
theorem hX4_open (l : Launch) (D : va_G) (ar : Nat → ClassId) (κ : Nat → Nat) (G : gW) (x : Xo) (Z : Ho) (sz : Nat) (i0 : Fin 60) (a0 : Int32) (b0 : Int32) (c0 : Int32) (hk : OK x Z) : Met l yX4_open (lwC yX4_open cX4_open 4 none) (rD 4 0 0) (g_Pc D vwCl (gT ar) (EX1 κ) (ov κ ar x Z G) sz [.ref (x.f (.th i0)), .int a0, .int b0, .int c0]) (g_Qv D vwCl (g_A (ov κ ar x Z G) sz) (fun u => ∃ T9 : Ho, sX4_open Z i0 a0 b0 c0 = T9 ∧ u = (ov κ ar x T9 G, sz) ∧ OK x T9)) 0 0 (g_A (ov κ ar x Z G) sz) := by
  refine g_ofW (by decide +kernel) (Nat.le_of_ble_eq_true rfl) ?_
  intro p e s m below meth c ls S hr hlk hin hE w hl
  have hx := S.1
  have hb := S.2.1
  have hl : lv_has ls 4 [(0, .ref (x.f (.th i0))), (1, .int a0), (2, .int b0), (3, .int c0)] := hl
  refine lv_aload_n hx hb dX4_open_0 rfl (lv_at hl 0 rfl) ?_
  refine lv_iload_n hx hb dX4_open_1 rfl (lv_at hl 1 rfl) ?_
  refine pf_RX4_15_10 (fs1 := [.ref (x.f (.tp i0)), .int a0, .int ((Z.th i0).c), .int ((Z.th i0).z), .int ((Z.th i0).r)]) S hE w (ov_r (t := .th i0) (hk.e (.th i0) rfl)) rfl rfl (Nat.le_of_ble_eq_true rfl) rfl dX4_open_2 (fun H locs w => ?_)
  have w := g_eqw w (congrArg (fun Z9 => g_up (ov κ ar x Z9 G) (x.f (.th i0)) (.inr (10, [.ref (x.f (.tp i0)), .int a0, .int ((Z.th i0).c), .int ((Z.th i0).z), .int ((Z.th i0).r)]))) (thS_id (S := Z) (i := i0)).symm)
  have w : g_S D vwCl (g_A (ov κ ar x Z G) sz) s.heap (ov κ ar x (Z.thS i0 ((Z.th i0).sn a0)) G) H _ sz := g_eqw w (ov_wth (S := Z) (v := (Z.th i0)) (v' := ((Z.th i0).sn a0)) hk.v (hk.e (.th i0) rfl) rfl rfl)
  refine lv_aload_n hx hb dX4_open_5 rfl (lv_at hl 0 rfl) ?_
  refine lv_iload_n hx hb dX4_open_6 rfl (lv_at hl 2 rfl) ?_
  refine pf_RX4_19_10 (fs1 := [.ref (x.f (.tp i0)), .int a0, .int b0, .int ((Z.th i0).z), .int ((Z.th i0).r)]) S hE w (ov_rth (hk.e (.th i0) rfl)) rfl rfl (Nat.le_of_ble_eq_true rfl) rfl dX4_open_7 (fun H locs w => ?_)
  have w : g_S D vwCl (g_A (ov κ ar x Z G) sz) s.heap (ov κ ar x (Z.thS i0 (((Z.th i0).sn a0).sc b0)) G) H _ sz := g_eqw w (ov_wth (S := Z) (v := ((Z.th i0).sn a0)) (v' := (((Z.th i0).sn a0).sc b0)) hk.v (hk.e (.th i0) rfl) rfl rfl)
  refine lv_aload_n hx hb dX4_open_10 rfl (lv_at hl 0 rfl) ?_
  refine lv_iload_n hx hb dX4_open_11 rfl (lv_at hl 3 rfl) ?_
  refine pf_RX4_22_10 (fs1 := [.ref (x.f (.tp i0)), .int a0, .int b0, .int c0, .int ((Z.th i0).r)]) S hE w (ov_rth (hk.e (.th i0) rfl)) rfl rfl (Nat.le_of_ble_eq_true rfl) rfl dX4_open_12 (fun H locs w => ?_)
  have w : g_S D vwCl (g_A (ov κ ar x Z G) sz) s.heap (ov κ ar x (Z.thS i0 ((((Z.th i0).sn a0).sc b0).sz c0)) G) H _ sz := g_eqw w (ov_wth (S := Z) (v := (((Z.th i0).sn a0).sc b0)) (v' := ((((Z.th i0).sn a0).sc b0).sz c0)) hk.v (hk.e (.th i0) rfl) rfl rfl)
  refine lv_aload_n hx hb dX4_open_15 rfl (lv_at hl 0 rfl) ?_
  refine lv_iconst (v := 0) hx hb dX4_open_16 (by decide) ?_
  refine pf_RX4_25_10 (fs1 := [.ref (x.f (.tp i0)), .int a0, .int b0, .int c0, .int 0]) S hE w (ov_rth (hk.e (.th i0) rfl)) rfl rfl (Nat.le_of_ble_eq_true rfl) rfl dX4_open_17 (fun H locs w => ?_)
  have w : g_S D vwCl (g_A (ov κ ar x Z G) sz) s.heap (ov κ ar x (Z.thS i0 (((((Z.th i0).sn a0).sc b0).sz c0).sr 0)) G) H _ sz := g_eqw w (ov_wth (S := Z) (v := ((((Z.th i0).sn a0).sc b0).sz c0)) (v' := (((((Z.th i0).sn a0).sc b0).sz c0).sr 0)) hk.v (hk.e (.th i0) rfl) rfl rfl)
  refine lv_aload_n hx hb dX4_open_20 rfl (lv_at hl 0 rfl) ?_
  refine gf_RX4_9_10 (v := .ref (x.f (.tp i0))) S hE w (ov_rth (hk.e (.th i0) rfl)) rfl dX4_open_21 ?_
  refine lv_ldc2 hx hb S.2.2.2.1 (S.2.2.2.2 _ m_3_226) dX4_open_24 ?_
  refine g_callv w (g_runS (As := [.ref (x.f (.tp i0)), .long 502511173632]) (rest := []) S hE w hl (c_fillJ l D ar κ (ov κ ar x (Z.thS i0 (((((Z.th i0).sn a0).sc b0).sz c0).sr 0)) G) sz (x.f (.tp i0)) 502511173632 8 ((Z.th i0).p) (ov_rtp (hk.e (.tp i0) rfl)) (by decide)) (k_RX4_31 S.2.2.2.2 ⟨Nat.le_of_ble_eq_true rfl, Nat.le_of_ble_eq_true rfl⟩) rfl rfl (Nat.le_of_ble_eq_true rfl) dX4_open_27 ⟨Nat.le_of_ble_eq_true rfl, Nat.le_of_ble_eq_true rfl⟩) (fun u H locs hp hnz w => ?_)
  obtain rfl := hp
  dsimp only at w
  have w : g_S D vwCl (g_A (ov κ ar x Z G) sz) s.heap (ov κ ar x (Z.thS i0 ((((((Z.th i0).sn a0).sc b0).sz c0).sr 0).sp (fillJ ((Z.th i0).p) 502511173632 8))) G) H _ sz := g_eqw w (ov_wtp (S := Z) (v := (((((Z.th i0).sn a0).sc b0).sz c0).sr 0)) (v' := ((((((Z.th i0).sn a0).sc b0).sz c0).sr 0).sp (fillJ ((Z.th i0).p) 502511173632 8))) hk.v (hk.e (.tp i0) rfl) rfl rfl rfl rfl rfl)
  exact g_vret hx hb hr hlk w (Nat.le_of_ble_eq_true rfl) (Nat.le_of_ble_eq_true rfl) dX4_open_30 ⟨_, (sX4_open_u Z i0 a0 b0 c0), rfl, (hk.plain (T := (Z.thS i0 ((((((Z.th i0).sn a0).sc b0).sz c0).sr 0).sp (fillJ ((Z.th i0).p) 502511173632 8)))) rfl rfl rfl rfl rfl rfl rfl)⟩
def sX5_isFull (Z : Ho) : Int32 := if Z.tc < 60 then (0) else (1)
theorem sX5_isFull_u (Z : Ho) : sX5_isFull Z = if Z.tc < 60 then (0) else (1) := rfl
set_option maxHeartbeats 4000000 in
set_option maxRecDepth 100000 in
theorem hX5_isFull (l : Launch) (D : va_G) (ar : Nat → ClassId) (κ : Nat → Nat) (G : gW) (x : Xo) (Z : Ho) (sz : Nat) (hk : OK x Z) : Met l yX5_isFull (lwC yX5_isFull cX5_isFull 1 (some .boolean)) (rD 3 0 0) (g_Pc D vwCl (gT ar) (EX1 κ) (ov κ ar x Z G) sz [.ref (x.f .ts)]) (g_Qi D vwCl (g_A (ov κ ar x Z G) sz) (fun r u => r = sX5_isFull Z ∧ u = (ov κ ar x Z G, sz))) 0 0 (g_A (ov κ ar x Z G) sz) := by
  refine g_ofW (by decide +kernel) (Nat.le_of_ble_eq_true rfl) ?_
  intro p e s m below meth c ls S hr hlk hin hE w hl
  have hx := S.1
  have hb := S.2.1
  have hl : lv_has ls 1 [(0, .ref (x.f .ts))] := hl
  refine lv_aload_n hx hb dX5_isFull_0 rfl (lv_at hl 0 rfl) ?_
  refine gf_RX5_20_11 (v := .int Z.tc) S hE w (ov_r (t := .ts) (hk.e (.ts) rfl)) rfl dX5_isFull_1 ?_
  refine lv_bipush (v := 60) hx hb dX5_isFull_4 (by decide) ?_
  refine lv_icmp_lt (tgt := 13) hx hb dX5_isFull_6 (by decide) (fun c_6 => ?_) (fun c_6 => ?_)
  · refine lv_iconst (v := 0) hx hb dX5_isFull_13 (by decide) ?_
    exact g_zret hx hb hr hlk w (Nat.le_of_ble_eq_true rfl) (Nat.le_of_ble_eq_true rfl) dX5_isFull_14 rfl ⟨(((sX5_isFull_u Z).trans (if_pos c_6))).symm, rfl⟩
  · refine lv_iconst (v := 1) hx hb dX5_isFull_9 (by decide) ?_
    refine lv_goto (tgt := 14) hx hb dX5_isFull_10 (by decide) ?_
    exact g_zret hx hb hr hlk w (Nat.le_of_ble_eq_true rfl) (Nat.le_of_ble_eq_true rfl) dX5_isFull_14 rfl ⟨(((sX5_isFull_u Z).trans (if_neg c_6))).symm, rfl⟩
def sX5_inOrder (Z : Ho) (j0 : Int32) : Option (Fin 60) := if isB j0 Z.tc = 0 then (none) else (if isB j0 60 = 0 then (none) else (Z.al (Int32.toNatClampNeg j0)))
theorem sX5_inOrder_u (Z : Ho) (j0 : Int32) : sX5_inOrder Z j0 = if isB j0 Z.tc = 0 then (none) else (if isB j0 60 = 0 then (none) else (Z.al (Int32.toNatClampNeg j0))) := rfl
set_option maxHeartbeats 4000000 in
set_option maxRecDepth 100000 in
theorem hX5_inOrder (l : Launch) (D : va_G) (ar : Nat → ClassId) (κ : Nat → Nat) (G : gW) (x : Xo) (Z : Ho) (sz : Nat) (j0 : Int32) (hk : OK x Z) : Met l yX5_inOrder (lwC yX5_inOrder cX5_inOrder 2 (some (.object "Sendhouse$Thing"))) (rD 3 0 0) (g_Pc D vwCl (gT ar) (EX1 κ) (ov κ ar x Z G) sz [.ref (x.f .ts), .int j0]) (g_Qq D vwCl (g_A (ov κ ar x Z G) sz) (fun r u => r = Option.map (fun k9 => x.f (.th k9)) (sX5_inOrder Z j0) ∧ u = (ov κ ar x Z G, sz))) 0 0 (g_A (ov κ ar x Z G) sz) := by
  refine g_ofW (by decide +kernel) (Nat.le_of_ble_eq_true rfl) ?_
  intro p e s m below meth c ls S hr hlk hin hE w hl
  have hx := S.1
  have hb := S.2.1
  have hl : lv_has ls 2 [(0, .ref (x.f .ts)), (1, .int j0)] := hl
  refine lv_iload_n hx hb dX5_inOrder_0 rfl (lv_at hl 1 rfl) ?_
  refine lv_aload_n hx hb dX5_inOrder_1 rfl (lv_at hl 0 rfl) ?_
  refine gf_RX5_20_11 (v := .int Z.tc) S hE w (ov_r (t := .ts) (hk.e (.ts) rfl)) rfl dX5_inOrder_2 ?_
  refine g_calli w (g_runSN (As := [.int j0, .int Z.tc]) (rest := []) S hE w hl (c_X8_isBelow l D ar κ (ov κ ar x Z G) sz j0 Z.tc) (k_RX5_31 S.2.2.2.2 (hE.2.1.1 _ (ckN_1 _ (List.mem_of_getElem? (i := 1) rfl))) ⟨Nat.le_of_ble_eq_true rfl, Nat.le_of_ble_eq_true rfl⟩) rfl rfl (Nat.le_of_ble_eq_true rfl) dX5_inOrder_5 ⟨Nat.le_of_ble_eq_true rfl, Nat.le_of_ble_eq_true rfl⟩) (fun r u H locs hp hnz w => ?_)
  obtain ⟨rfl, rfl⟩ := hp
  dsimp only at w
  refine lv_if_eq (tgt := 32) hx hb dX5_inOrder_8 (by decide) (fun c_8 => ?_) (fun c_8 => ?_)
  · refine lv_null hx hb dX5_inOrder_32 ?_
    exact g_qret (r := none) hx hb hr (Or.inl ⟨_, rfl⟩) hlk w (Nat.le_of_ble_eq_true rfl) (Nat.le_of_ble_eq_true rfl) dX5_inOrder_33 ⟨congrArg (Option.map (fun k9 => x.f (.th k9))) ((((sX5_inOrder_u Z j0).trans (if_pos c_8))).symm), rfl⟩
  · refine lv_iload_n hx hb dX5_inOrder_11 rfl (lv_at hl 1 rfl) ?_
    refine lv_aload_n hx hb dX5_inOrder_12 rfl (lv_at hl 0 rfl) ?_
    refine gf_RX5_11_11 (v := .ref (x.f .al)) S hE w (ov_r (t := .ts) (hk.e (.ts) rfl)) rfl dX5_inOrder_13 ?_
    refine va_alen (v := 60) hx hb hE.1 (g_1 w.1 (ov_r (t := .al) (hk.e (.al) rfl))) 0 6 rfl rfl rfl dX5_inOrder_16 ?_
    refine g_calli w (g_runSN (As := [.int j0, .int 60]) (rest := []) S hE w hl (c_X8_isBelow l D ar κ (ov κ ar x Z G) sz j0 60) (k_RX5_31 S.2.2.2.2 (hE.2.1.1 _ (ckN_1 _ (List.mem_of_getElem? (i := 1) rfl))) ⟨Nat.le_of_ble_eq_true rfl, Nat.le_of_ble_eq_true rfl⟩) rfl rfl (Nat.le_of_ble_eq_true rfl) dX5_inOrder_17 ⟨Nat.le_of_ble_eq_true rfl, Nat.le_of_ble_eq_true rfl⟩) (fun r u H locs hp hnz w => ?_)
    obtain ⟨rfl, rfl⟩ := hp
    dsimp only at w
    refine lv_if_eq (tgt := 32) hx hb dX5_inOrder_20 (by decide) (fun c_20 => ?_) (fun c_20 => ?_)
    · refine lv_null hx hb dX5_inOrder_32 ?_
      exact g_qret (r := none) hx hb hr (Or.inl ⟨_, rfl⟩) hlk w (Nat.le_of_ble_eq_true rfl) (Nat.le_of_ble_eq_true rfl) dX5_inOrder_33 ⟨congrArg (Option.map (fun k9 => x.f (.th k9))) ((((sX5_inOrder_u Z j0).trans ((if_neg c_8).trans (if_pos c_20)))).symm), rfl⟩
    · refine lv_aload_n hx hb dX5_inOrder_23 rfl (lv_at hl 0 rfl) ?_
      refine gf_RX5_11_11 (v := .ref (x.f .al)) S hE w (ov_r (t := .ts) (hk.e (.ts) rfl)) rfl dX5_inOrder_24 ?_
      refine lv_iload_n hx hb dX5_inOrder_27 rfl (lv_at hl 1 rfl) ?_
      refine va_aldq hx hb hE.1 (g_1 w.1 (ov_r (t := .al) (hk.e (.al) rfl))) 0 6 rfl rfl (vinB (n := 60) rfl (by decide) c_20) dX5_inOrder_28 ?_
      show W p l e _ s m _ below meth c _ _ _ _ _ (F0 m 29 ls [va_rf ((Z.al (Int32.toNatClampNeg j0)).map (fun k9 => x.f (.th k9)))])
      refine lv_goto (tgt := 33) hx hb dX5_inOrder_29 (by decide) ?_
      exact g_qret (r := Option.map (fun k9 => x.f (.th k9)) (Z.al (Int32.toNatClampNeg j0))) hx hb hr (Or.inl ⟨_, rfl⟩) hlk w (Nat.le_of_ble_eq_true rfl) (Nat.le_of_ble_eq_true rfl) dX5_inOrder_33 ⟨congrArg (Option.map (fun k9 => x.f (.th k9))) ((((sX5_inOrder_u Z j0).trans ((if_neg c_8).trans (if_neg c_20)))).symm), rfl⟩
def sX5_enlist (Z : Ho) (c0 : Int32) (z0 : Int32) : Int32 × Ho := if isB Z.tc 60 = 0 then ((Z.mk, Z)) else (oc (Z.al (Int32.toNatClampNeg Z.tc)) ((Z.mk, Z)) (fun k1 => vc (sX4_open Z k1 Z.mk c0 z0) (fun T3 => (Z.mk, ((T3.stc (T3.tc + 1)).smk (T3.mk + 1))))))
theorem sX5_enlist_u (Z : Ho) (c0 : Int32) (z0 : Int32) : sX5_enlist Z c0 z0 = if isB Z.tc 60 = 0 then ((Z.mk, Z)) else (oc (Z.al (Int32.toNatClampNeg Z.tc)) ((Z.mk, Z)) (fun k1 => vc (sX4_open Z k1 Z.mk c0 z0) (fun T3 => (Z.mk, ((T3.stc (T3.tc + 1)).smk (T3.mk + 1)))))) := rfl
set_option maxHeartbeats 4000000 in
set_option maxRecDepth 100000 in
theorem hX5_enlist (l : Launch) (D : va_G) (ar : Nat → ClassId) (κ : Nat → Nat) (G : gW) (x : Xo) (Z : Ho) (sz : Nat) (c0 : Int32) (z0 : Int32) (hk : OK x Z) : Met l yX5_enlist (lwC yX5_enlist cX5_enlist 5 (some .int)) (rD 6 0 0) (g_Pc D vwCl (gT ar) (EX1 κ) (ov κ ar x Z G) sz [.ref (x.f .ts), .int c0, .int z0]) (g_Qi D vwCl (g_A (ov κ ar x Z G) sz) (fun r u => ∃ T9 : Ho, sX5_enlist Z c0 z0 = (r, T9) ∧ u = (ov κ ar x T9 G, sz) ∧ OK x T9)) 0 0 (g_A (ov κ ar x Z G) sz) := by
  refine g_ofW (by decide +kernel) (Nat.le_of_ble_eq_true rfl) ?_
  intro p e s m below meth c ls S hr hlk hin hE w hl
  have hx := S.1
  have hb := S.2.1
  have hl : lv_has ls 5 [(0, .ref (x.f .ts)), (1, .int c0), (2, .int z0)] := hl
  refine lv_aload_n hx hb dX5_enlist_0 rfl (lv_at hl 0 rfl) ?_
  refine gf_RX5_27_11 (v := .int Z.mk) S hE w (ov_r (t := .ts) (hk.e (.ts) rfl)) rfl dX5_enlist_1 ?_
  refine lv_istore_n (lv' := [(3, .int Z.mk), (0, .ref (x.f .ts)), (1, .int c0), (2, .int z0)]) hx hb dX5_enlist_4 rfl hl (by decide) rfl (fun ls hl => ?_)
  refine lv_aload_n hx hb dX5_enlist_5 rfl (lv_at hl 1 rfl) ?_
  refine gf_RX5_20_11 (v := .int Z.tc) S hE w (ov_r (t := .ts) (hk.e (.ts) rfl)) rfl dX5_enlist_6 ?_
  refine lv_aload_n hx hb dX5_enlist_9 rfl (lv_at hl 1 rfl) ?_
  refine gf_RX5_11_11 (v := .ref (x.f .al)) S hE w (ov_r (t := .ts) (hk.e (.ts) rfl)) rfl dX5_enlist_10 ?_
  refine va_alen (v := 60) hx hb hE.1 (g_1 w.1 (ov_r (t := .al) (hk.e (.al) rfl))) 0 6 rfl rfl rfl dX5_enlist_13 ?_
  refine g_calli w (g_runSN (As := [.int Z.tc, .int 60]) (rest := []) S hE w hl (c_X8_isBelow l D ar κ (ov κ ar x Z G) sz Z.tc 60) (k_RX5_31 S.2.2.2.2 (hE.2.1.1 _ (ckN_1 _ (List.mem_of_getElem? (i := 1) rfl))) ⟨Nat.le_of_ble_eq_true rfl, Nat.le_of_ble_eq_true rfl⟩) rfl rfl (Nat.le_of_ble_eq_true rfl) dX5_enlist_14 ⟨Nat.le_of_ble_eq_true rfl, Nat.le_of_ble_eq_true rfl⟩) (fun r u H locs hp hnz w => ?_)
  obtain ⟨rfl, rfl⟩ := hp
  dsimp only at w
  refine lv_if_eq (tgt := 32) hx hb dX5_enlist_17 (by decide) (fun c_17 => ?_) (fun c_17 => ?_)
  · refine lv_null hx hb dX5_enlist_32 ?_
    refine lv_astoreN (lv' := [(4, .null), (3, .int Z.mk), (0, .ref (x.f .ts)), (1, .int c0), (2, .int z0)]) hx hb dX5_enlist_33 hl (by decide) rfl (fun ls hl => ?_)
    refine lv_aloadN hx hb dX5_enlist_35 (lv_at hl 0 rfl) ?_
    refine lv_ifnullN (tgt := 68) hx hb dX5_enlist_37 (by decide) ?_
    refine lv_iload_n hx hb dX5_enlist_68 rfl (lv_at hl 1 rfl) ?_
    exact g_iret hx hb hr hlk w (Nat.le_of_ble_eq_true rfl) (Nat.le_of_ble_eq_true rfl) dX5_enlist_69 ⟨_, ((sX5_enlist_u Z c0 z0).trans (if_pos c_17)), rfl, hk⟩
  · refine lv_aload_n hx hb dX5_enlist_20 rfl (lv_at hl 1 rfl) ?_
    refine gf_RX5_11_11 (v := .ref (x.f .al)) S hE w (ov_r (t := .ts) (hk.e (.ts) rfl)) rfl dX5_enlist_21 ?_
    refine lv_aload_n hx hb dX5_enlist_24 rfl (lv_at hl 1 rfl) ?_
    refine gf_RX5_20_11 (v := .int Z.tc) S hE w (ov_r (t := .ts) (hk.e (.ts) rfl)) rfl dX5_enlist_25 ?_
    refine va_aldq hx hb hE.1 (g_1 w.1 (ov_r (t := .al) (hk.e (.al) rfl))) 0 6 rfl rfl (vinB (n := 60) rfl (by decide) c_17) dX5_enlist_28 ?_
    show W p l e _ s m _ below meth c _ _ _ _ _ (F0 m 29 ls [va_rf ((Z.al (Int32.toNatClampNeg Z.tc)).map (fun k9 => x.f (.th k9)))])
    refine lv_goto (tgt := 33) hx hb dX5_enlist_29 (by decide) ?_
    refine lv_astoreQ (lv' := [(4, va_rf ((Z.al (Int32.toNatClampNeg Z.tc)).map (fun k9 => x.f (.th k9)))), (3, .int Z.mk), (0, .ref (x.f .ts)), (1, .int c0), (2, .int z0)]) hx hb dX5_enlist_33 hl (by decide) rfl (fun ls hl => ?_)
    refine lv_aloadQ hx hb dX5_enlist_35 (lv_at hl 0 rfl) ?_
    rcases he2 : Z.al (Int32.toNatClampNeg Z.tc) with _ | k1
    · have hl : lv_has ls 5 [(4, .null), (3, .int Z.mk), (0, .ref (x.f .ts)), (1, .int c0), (2, .int z0)] := by rw [he2] at hl; exact hl
      show W p l e _ s m _ below meth c _ _ _ _ _ (F0 m 37 ls [.null])
      refine lv_ifnullN (tgt := 68) hx hb dX5_enlist_37 (by decide) ?_
      refine lv_iload_n hx hb dX5_enlist_68 rfl (lv_at hl 1 rfl) ?_
      exact g_iret hx hb hr hlk w (Nat.le_of_ble_eq_true rfl) (Nat.le_of_ble_eq_true rfl) dX5_enlist_69 ⟨_, ((sX5_enlist_u Z c0 z0).trans ((if_neg c_17).trans (oc_n he2))), rfl, hk⟩
    · have hl : lv_has ls 5 [(4, .ref (x.f (.th k1))), (3, .int Z.mk), (0, .ref (x.f .ts)), (1, .int c0), (2, .int z0)] := by rw [he2] at hl; exact hl
      show W p l e _ s m _ below meth c _ _ _ _ _ (F0 m 37 ls [.ref (x.f (.th k1))])
      refine lv_ifnull hx hb dX5_enlist_37 ?_
      refine lv_aload hx hb dX5_enlist_40 (lv_at hl 0 rfl) ?_
      refine lv_iload_n hx hb dX5_enlist_42 rfl (lv_at hl 1 rfl) ?_
      refine lv_iload_n hx hb dX5_enlist_43 rfl (lv_at hl 3 rfl) ?_
      refine lv_iload_n hx hb dX5_enlist_44 rfl (lv_at hl 4 rfl) ?_
      refine g_callv w (g_runV (As := [.int Z.mk, .int c0, .int z0]) (rest := []) S hE w hl (hX4_open l D ar κ G x Z sz k1 Z.mk c0 z0 hk ) (k_RX5_35 S.2.2.2.2 ⟨Nat.le_of_ble_eq_true rfl, Nat.le_of_ble_eq_true rfl⟩) (ov_r (t := .th k1) (hk.e (.th k1) rfl)) rfl rfl rfl rfl (Nat.le_of_ble_eq_true rfl) dX5_enlist_45 ⟨Nat.le_of_ble_eq_true rfl, Nat.le_of_ble_eq_true rfl⟩) (fun u H locs hp hnz w => ?_)
      obtain ⟨T3, e4, hu9, hk5⟩ := hp
      subst hu9
      dsimp only at w
      refine lv_aload_n hx hb dX5_enlist_48 rfl (lv_at hl 2 rfl) ?_
      refine lv_dup hx hb dX5_enlist_49 rfl ?_
      refine gf_RX5_20_11 (v := .int T3.tc) S hE w (ov_r (t := .ts) (hk5.e (.ts) rfl)) rfl dX5_enlist_50 ?_
      refine lv_iconst (v := 1) hx hb dX5_enlist_53 (by decide) ?_
      refine lv_iadd hx hb dX5_enlist_54 ?_
      refine pf_RX5_20_11 (fs1 := [.ref (x.f .al), .ref (x.f .re), .int (T3.tc + 1), .int T3.rc, .int T3.mk]) S hE w (ov_r (t := .ts) (hk5.e (.ts) rfl)) rfl rfl (Nat.le_of_ble_eq_true rfl) rfl dX5_enlist_55 (fun H locs w => ?_)
      have w : g_S D vwCl (g_A (ov κ ar x Z G) sz) s.heap (ov κ ar x (T3.stc (T3.tc + 1)) G) H _ sz := g_eqw w (ov_wts (S := T3) (T := (T3.stc (T3.tc + 1))) hk5.v (hk5.e (.ts) rfl) rfl rfl rfl rfl rfl rfl rfl rfl rfl rfl rfl rfl rfl rfl rfl rfl rfl rfl rfl rfl rfl rfl rfl rfl rfl)
      refine lv_aload_n hx hb dX5_enlist_58 rfl (lv_at hl 2 rfl) ?_
      refine lv_dup hx hb dX5_enlist_59 rfl ?_
      refine gf_RX5_27_11 (v := .int T3.mk) S hE w (ov_r (t := .ts) (hk5.e (.ts) rfl)) rfl dX5_enlist_60 ?_
      refine lv_iconst (v := 1) hx hb dX5_enlist_63 (by decide) ?_
      refine lv_iadd hx hb dX5_enlist_64 ?_
      refine pf_RX5_27_11 (fs1 := [.ref (x.f .al), .ref (x.f .re), .int (T3.tc + 1), .int T3.rc, .int (T3.mk + 1)]) S hE w (ov_r (t := .ts) (hk5.e (.ts) rfl)) rfl rfl (Nat.le_of_ble_eq_true rfl) rfl dX5_enlist_65 (fun H locs w => ?_)
      have w : g_S D vwCl (g_A (ov κ ar x Z G) sz) s.heap (ov κ ar x ((T3.stc (T3.tc + 1)).smk (T3.mk + 1)) G) H _ sz := g_eqw w (ov_wts (S := (T3.stc (T3.tc + 1))) (T := ((T3.stc (T3.tc + 1)).smk (T3.mk + 1))) hk5.v (hk5.e (.ts) rfl) rfl rfl rfl rfl rfl rfl rfl rfl rfl rfl rfl rfl rfl rfl rfl rfl rfl rfl rfl rfl rfl rfl rfl rfl rfl)
      refine lv_iload_n hx hb dX5_enlist_68 rfl (lv_at hl 1 rfl) ?_
      exact g_iret hx hb hr hlk w (Nat.le_of_ble_eq_true rfl) (Nat.le_of_ble_eq_true rfl) dX5_enlist_69 ⟨_, ((sX5_enlist_u Z c0 z0).trans ((if_neg c_17).trans ((oc_s he2).trans (vc_e e4)))), rfl, (hk5.plain (T := ((T3.stc (T3.tc + 1)).smk (T3.mk + 1))) rfl rfl rfl rfl rfl rfl rfl)⟩
def LX5_withNumber_12 (n0 : Int32) : Nat → Int32 → Int32 → Int32 → Ho → Option (Fin 60)
  | 0, _, _, _, Z => none
  | nx1 + 1, x1, lox1, hhx1, Z => if 60 ≤ x1 then (none) else (if hhx1 < lox1 then (none) else (if isB ((lox1 + hhx1) / 2) 60 = 0 then (none) else (oc (Z.al (Int32.toNatClampNeg ((lox1 + hhx1) / 2))) (none) (fun k5 => if (Z.th k5).n = n0 then (some k5) else (if n0 ≤ (Z.th k5).n then (LX5_withNumber_12 n0 nx1 (x1 + 1) lox1 (((lox1 + hhx1) / 2) - 1) Z) else (LX5_withNumber_12 n0 nx1 (x1 + 1) (((lox1 + hhx1) / 2) + 1) hhx1 Z))))))
theorem LX5_withNumber_12_u (n0 : Int32) (nx1 : Nat) (x1 : Int32) (lox1 : Int32) (hhx1 : Int32) (Z : Ho) : LX5_withNumber_12 n0 (nx1 + 1) x1 lox1 hhx1 Z = if 60 ≤ x1 then (none) else (if hhx1 < lox1 then (none) else (if isB ((lox1 + hhx1) / 2) 60 = 0 then (none) else (oc (Z.al (Int32.toNatClampNeg ((lox1 + hhx1) / 2))) (none) (fun k5 => if (Z.th k5).n = n0 then (some k5) else (if n0 ≤ (Z.th k5).n then (LX5_withNumber_12 n0 nx1 (x1 + 1) lox1 (((lox1 + hhx1) / 2) - 1) Z) else (LX5_withNumber_12 n0 nx1 (x1 + 1) (((lox1 + hhx1) / 2) + 1) hhx1 Z)))))) := rfl
def sX5_withNumber (Z : Ho) (n0 : Int32) : Option (Fin 60) := LX5_withNumber_12 n0 61 0 0 (Z.tc - 1) Z
theorem sX5_withNumber_u (Z : Ho) (n0 : Int32) : sX5_withNumber Z n0 = LX5_withNumber_12 n0 61 0 0 (Z.tc - 1) Z := rfl
set_option maxHeartbeats 4000000 in
set_option maxRecDepth 100000 in
theorem hX5_withNumber (l : Launch) (D : va_G) (ar : Nat → ClassId) (κ : Nat → Nat) (G : gW) (x : Xo) (Z : Ho) (sz : Nat) (n0 : Int32) (hk : OK x Z) : Met l yX5_withNumber (lwC yX5_withNumber cX5_withNumber 7 (some (.object "Sendhouse$Thing"))) (rD 4 0 0) (g_Pc D vwCl (gT ar) (EX1 κ) (ov κ ar x Z G) sz [.ref (x.f .ts), .int n0]) (g_Qq D vwCl (g_A (ov κ ar x Z G) sz) (fun r u => r = Option.map (fun k9 => x.f (.th k9)) (sX5_withNumber Z n0) ∧ u = (ov κ ar x Z G, sz))) 0 0 (g_A (ov κ ar x Z G) sz) := by
  refine g_ofW (by decide +kernel) (Nat.le_of_ble_eq_true rfl) ?_
  intro p e s m below meth c ls S hr hlk hin hE w hl
  have hx := S.1
  have hb := S.2.1
  have hl : lv_has ls 7 [(0, .ref (x.f .ts)), (1, .int n0)] := hl
  refine lv_iconst (v := 0) hx hb dX5_withNumber_0 (by decide) ?_
  refine lv_istore_n (lv' := [(2, .int 0), (0, .ref (x.f .ts)), (1, .int n0)]) hx hb dX5_withNumber_1 rfl hl (by decide) rfl (fun ls hl => ?_)
  refine lv_aload_n hx hb dX5_withNumber_2 rfl (lv_at hl 1 rfl) ?_
  refine gf_RX5_20_11 (v := .int Z.tc) S hE w (ov_r (t := .ts) (hk.e (.ts) rfl)) rfl dX5_withNumber_3 ?_
  refine lv_iconst (v := 1) hx hb dX5_withNumber_6 (by decide) ?_
  refine lv_isub hx hb dX5_withNumber_7 ?_
  refine lv_istore_n (lv' := [(3, .int (Z.tc - 1)), (2, .int 0), (0, .ref (x.f .ts)), (1, .int n0)]) hx hb dX5_withNumber_8 rfl hl (by decide) rfl (fun ls hl => ?_)
  refine lv_iconst (v := 0) hx hb dX5_withNumber_9 (by decide) ?_
  refine lv_istore (lv' := [(4, .int 0), (3, .int (Z.tc - 1)), (2, .int 0), (0, .ref (x.f .ts)), (1, .int n0)]) hx hb dX5_withNumber_10 hl (by decide) rfl (fun ls hl => ?_)
  have key4 : ∀ (nx1 ix1 : Nat), ix1 ≤ 60 → 60 + 1 ≤ ix1 + nx1 → ∀ (x1 : Int32), x1 = nI ix1 → ∀ (lox1 : Int32), ∀ (hhx1 : Int32), sX5_withNumber Z n0 = LX5_withNumber_12 n0 nx1 x1 lox1 hhx1 Z → ∀ (H : Heap) (locs : List Loc) (ls : Array Slot), g_S D vwCl (g_A (ov κ ar x Z G) sz) s.heap (ov κ ar x Z G) H locs sz → lv_has ls 7 [(4, .int x1), (2, .int lox1), (3, .int hhx1), (0, .ref (x.f .ts)), (1, .int n0)] → W p l e (rD 4 0 0) s m ([.ref (x.f .ts), .int n0] : List Value).toArray below meth c H locs 0 0 (MQ below (g_Qq D vwCl (g_A (ov κ ar x Z G) sz) (fun r u => r = Option.map (fun k9 => x.f (.th k9)) (sX5_withNumber Z n0) ∧ u = (ov κ ar x Z G, sz))) ([.ref (x.f .ts), .int n0] : List Value).toArray s 0 0 (g_A (ov κ ar x Z G) sz)) (F0 m 12 ls []) := by
    intro nx1
    induction nx1 with
    | zero => intro ix1 hix1 hi2; exact absurd hi2 (by omega)
    | succ nx1 ihx1 =>
      intro ix1 hix1 hi2 x1 exx1 lox1 hhx1 hsp3 H locs ls w hl
      refine lv_iload hx hb dX5_withNumber_12 (lv_at hl 0 rfl) ?_
      refine lv_bipush (v := 60) hx hb dX5_withNumber_14 (by decide) ?_
      refine lv_icmp_ge (tgt := 102) hx hb dX5_withNumber_16 (by decide) (fun c_16 => ?_) (fun c_16 => ?_)
      · refine lv_null hx hb dX5_withNumber_102 ?_
        exact g_qret (r := none) hx hb hr (Or.inl ⟨_, rfl⟩) hlk w (Nat.le_of_ble_eq_true rfl) (Nat.le_of_ble_eq_true rfl) dX5_withNumber_103 ⟨congrArg (Option.map (fun k9 => x.f (.th k9))) ((((hsp3).trans ((LX5_withNumber_12_u n0 nx1 x1 lox1 hhx1 Z).trans (if_pos c_16)))).symm), rfl⟩
      · refine lv_iload_n hx hb dX5_withNumber_19 rfl (lv_at hl 1 rfl) ?_
        refine lv_iload_n hx hb dX5_withNumber_20 rfl (lv_at hl 2 rfl) ?_
        refine lv_icmp_gt (tgt := 102) hx hb dX5_withNumber_21 (by decide) (fun c_21 => ?_) (fun c_21 => ?_)
        · refine lv_null hx hb dX5_withNumber_102 ?_
          exact g_qret (r := none) hx hb hr (Or.inl ⟨_, rfl⟩) hlk w (Nat.le_of_ble_eq_true rfl) (Nat.le_of_ble_eq_true rfl) dX5_withNumber_103 ⟨congrArg (Option.map (fun k9 => x.f (.th k9))) ((((hsp3).trans ((LX5_withNumber_12_u n0 nx1 x1 lox1 hhx1 Z).trans ((if_neg c_16).trans (if_pos c_21))))).symm), rfl⟩
        · refine lv_iload_n hx hb dX5_withNumber_24 rfl (lv_at hl 1 rfl) ?_
          refine lv_iload_n hx hb dX5_withNumber_25 rfl (lv_at hl 2 rfl) ?_
          refine lv_iadd hx hb dX5_withNumber_26 ?_
          refine lv_iconst (v := 2) hx hb dX5_withNumber_27 (by decide) ?_
          refine lv_idiv hx hb dX5_withNumber_28 (by decide) ?_
          refine lv_istore (lv' := [(5, .int ((lox1 + hhx1) / 2)), (4, .int x1), (2, .int lox1), (3, .int hhx1), (0, .ref (x.f .ts)), (1, .int n0)]) hx hb dX5_withNumber_29 hl (by decide) rfl (fun ls hl => ?_)
          refine lv_iload hx hb dX5_withNumber_31 (lv_at hl 0 rfl) ?_
          refine lv_aload_n hx hb dX5_withNumber_33 rfl (lv_at hl 4 rfl) ?_
          refine gf_RX5_11_11 (v := .ref (x.f .al)) S hE w (ov_r (t := .ts) (hk.e (.ts) rfl)) rfl dX5_withNumber_34 ?_
          refine va_alen (v := 60) hx hb hE.1 (g_1 w.1 (ov_r (t := .al) (hk.e (.al) rfl))) 0 6 rfl rfl rfl dX5_withNumber_37 ?_
          refine g_calli w (g_runSN (As := [.int ((lox1 + hhx1) / 2), .int 60]) (rest := []) S hE w hl (c_X8_isBelow l D ar κ (ov κ ar x Z G) sz ((lox1 + hhx1) / 2) 60) (k_RX5_31 S.2.2.2.2 (hE.2.1.1 _ (ckN_1 _ (List.mem_of_getElem? (i := 1) rfl))) ⟨Nat.le_of_ble_eq_true rfl, Nat.le_of_ble_eq_true rfl⟩) rfl rfl (Nat.le_of_ble_eq_true rfl) dX5_withNumber_38 ⟨Nat.le_of_ble_eq_true rfl, Nat.le_of_ble_eq_true rfl⟩) (fun r u H locs hp hnz w => ?_)
          obtain ⟨rfl, rfl⟩ := hp
          dsimp only at w
          refine lv_if_eq (tgt := 54) hx hb dX5_withNumber_41 (by decide) (fun c_41 => ?_) (fun c_41 => ?_)
          · refine lv_null hx hb dX5_withNumber_54 ?_
            refine lv_astoreN (lv' := [(6, .null), (5, .int ((lox1 + hhx1) / 2)), (4, .int x1), (2, .int lox1), (3, .int hhx1), (0, .ref (x.f .ts)), (1, .int n0)]) hx hb dX5_withNumber_55 hl (by decide) rfl (fun ls hl => ?_)
            refine lv_aloadN hx hb dX5_withNumber_57 (lv_at hl 0 rfl) ?_
            refine lv_ifnullN (tgt := 71) hx hb dX5_withNumber_59 (by decide) ?_
            refine lv_aloadN hx hb dX5_withNumber_71 (lv_at hl 0 rfl) ?_
            exact g_qret (r := none) hx hb hr (Or.inl ⟨_, rfl⟩) hlk w (Nat.le_of_ble_eq_true rfl) (Nat.le_of_ble_eq_true rfl) dX5_withNumber_73 ⟨congrArg (Option.map (fun k9 => x.f (.th k9))) ((((hsp3).trans ((LX5_withNumber_12_u n0 nx1 x1 lox1 hhx1 Z).trans ((if_neg c_16).trans ((if_neg c_21).trans (if_pos c_41)))))).symm), rfl⟩
          · refine lv_aload_n hx hb dX5_withNumber_44 rfl (lv_at hl 4 rfl) ?_
            refine gf_RX5_11_11 (v := .ref (x.f .al)) S hE w (ov_r (t := .ts) (hk.e (.ts) rfl)) rfl dX5_withNumber_45 ?_
            refine lv_iload hx hb dX5_withNumber_48 (lv_at hl 0 rfl) ?_
            refine va_aldq hx hb hE.1 (g_1 w.1 (ov_r (t := .al) (hk.e (.al) rfl))) 0 6 rfl rfl (vinB (n := 60) rfl (by decide) c_41) dX5_withNumber_50 ?_
            show W p l e _ s m _ below meth c _ _ _ _ _ (F0 m 51 ls [va_rf ((Z.al (Int32.toNatClampNeg ((lox1 + hhx1) / 2))).map (fun k9 => x.f (.th k9)))])
            refine lv_goto (tgt := 55) hx hb dX5_withNumber_51 (by decide) ?_
            refine lv_astoreQ (lv' := [(6, va_rf ((Z.al (Int32.toNatClampNeg ((lox1 + hhx1) / 2))).map (fun k9 => x.f (.th k9)))), (5, .int ((lox1 + hhx1) / 2)), (4, .int x1), (2, .int lox1), (3, .int hhx1), (0, .ref (x.f .ts)), (1, .int n0)]) hx hb dX5_withNumber_55 hl (by decide) rfl (fun ls hl => ?_)
            refine lv_aloadQ hx hb dX5_withNumber_57 (lv_at hl 0 rfl) ?_
            rcases he6 : Z.al (Int32.toNatClampNeg ((lox1 + hhx1) / 2)) with _ | k5
            · have hl : lv_has ls 7 [(6, .null), (5, .int ((lox1 + hhx1) / 2)), (4, .int x1), (2, .int lox1), (3, .int hhx1), (0, .ref (x.f .ts)), (1, .int n0)] := by rw [he6] at hl; exact hl
              show W p l e _ s m _ below meth c _ _ _ _ _ (F0 m 59 ls [.null])
              refine lv_ifnullN (tgt := 71) hx hb dX5_withNumber_59 (by decide) ?_
              refine lv_aloadN hx hb dX5_withNumber_71 (lv_at hl 0 rfl) ?_
              exact g_qret (r := none) hx hb hr (Or.inl ⟨_, rfl⟩) hlk w (Nat.le_of_ble_eq_true rfl) (Nat.le_of_ble_eq_true rfl) dX5_withNumber_73 ⟨congrArg (Option.map (fun k9 => x.f (.th k9))) ((((hsp3).trans ((LX5_withNumber_12_u n0 nx1 x1 lox1 hhx1 Z).trans ((if_neg c_16).trans ((if_neg c_21).trans ((if_neg c_41).trans (oc_n he6))))))).symm), rfl⟩
            · have hl : lv_has ls 7 [(6, .ref (x.f (.th k5))), (5, .int ((lox1 + hhx1) / 2)), (4, .int x1), (2, .int lox1), (3, .int hhx1), (0, .ref (x.f .ts)), (1, .int n0)] := by rw [he6] at hl; exact hl
              show W p l e _ s m _ below meth c _ _ _ _ _ (F0 m 59 ls [.ref (x.f (.th k5))])
              refine lv_ifnull hx hb dX5_withNumber_59 ?_
              refine lv_aload hx hb dX5_withNumber_62 (lv_at hl 0 rfl) ?_
              refine gf_RX5_39_10 (v := .int ((Z.th k5).n)) S hE w (ov_r (t := .th k5) (hk.e (.th k5) rfl)) rfl dX5_withNumber_64 ?_
              refine lv_iload_n hx hb dX5_withNumber_67 rfl (lv_at hl 6 rfl) ?_
              refine lv_icmp_ne (tgt := 74) hx hb dX5_withNumber_68 (by decide) (fun c_68 => ?_) (fun c_68 => ?_)
              · refine lv_aload hx hb dX5_withNumber_74 (lv_at hl 0 rfl) ?_
                refine gf_RX5_39_10 (v := .int ((Z.th k5).n)) S hE w (ov_r (t := .th k5) (hk.e (.th k5) rfl)) rfl dX5_withNumber_76 ?_
                refine lv_iload_n hx hb dX5_withNumber_79 rfl (lv_at hl 6 rfl) ?_
                refine lv_icmp_ge (tgt := 91) hx hb dX5_withNumber_80 (by decide) (fun c_80 => ?_) (fun c_80 => ?_)
                · refine lv_iload hx hb dX5_withNumber_91 (lv_at hl 1 rfl) ?_
                  refine lv_iconst (v := 1) hx hb dX5_withNumber_93 (by decide) ?_
                  refine lv_isub hx hb dX5_withNumber_94 ?_
                  refine lv_istore_n (lv' := [(3, .int (((lox1 + hhx1) / 2) - 1)), (6, .ref (x.f (.th k5))), (5, .int ((lox1 + hhx1) / 2)), (4, .int x1), (2, .int lox1), (0, .ref (x.f .ts)), (1, .int n0)]) hx hb dX5_withNumber_95 rfl hl (by decide) rfl (fun ls hl => ?_)
                  refine lv_iinc (v := x1 + 1) (lv' := [(4, .int (x1 + 1)), (3, .int (((lox1 + hhx1) / 2) - 1)), (6, .ref (x.f (.th k5))), (5, .int ((lox1 + hhx1) / 2)), (2, .int lox1), (0, .ref (x.f .ts)), (1, .int n0)]) hx hb dX5_withNumber_96 hl (k := 3) rfl rfl (by decide) rfl (fun ls hl => ?_)
                  refine lv_goto (tgt := 12) hx hb dX5_withNumber_99 (by decide) ?_
                  exact ihx1 (ix1 + 1) (lp_up (n := 60) rfl exx1 hix1 (by decide) (by decide) (by decide) c_16) (by omega) (x1 + 1) (by rw [exx1]; exact nI_1 ix1) lox1 (((lox1 + hhx1) / 2) - 1) ((hsp3).trans ((LX5_withNumber_12_u n0 nx1 x1 lox1 hhx1 Z).trans ((if_neg c_16).trans ((if_neg c_21).trans ((if_neg c_41).trans ((oc_s he6).trans ((if_neg c_68).trans (if_pos c_80)))))))) H _ ls w (lv_sub hl [0, 4, 1, 5, 6] rfl)
                · refine lv_iload hx hb dX5_withNumber_83 (lv_at hl 1 rfl) ?_
                  refine lv_iconst (v := 1) hx hb dX5_withNumber_85 (by decide) ?_
                  refine lv_iadd hx hb dX5_withNumber_86 ?_
                  refine lv_istore_n (lv' := [(2, .int (((lox1 + hhx1) / 2) + 1)), (6, .ref (x.f (.th k5))), (5, .int ((lox1 + hhx1) / 2)), (4, .int x1), (3, .int hhx1), (0, .ref (x.f .ts)), (1, .int n0)]) hx hb dX5_withNumber_87 rfl hl (by decide) rfl (fun ls hl => ?_)
                  refine lv_goto (tgt := 96) hx hb dX5_withNumber_88 (by decide) ?_
                  refine lv_iinc (v := x1 + 1) (lv' := [(4, .int (x1 + 1)), (2, .int (((lox1 + hhx1) / 2) + 1)), (6, .ref (x.f (.th k5))), (5, .int ((lox1 + hhx1) / 2)), (3, .int hhx1), (0, .ref (x.f .ts)), (1, .int n0)]) hx hb dX5_withNumber_96 hl (k := 3) rfl rfl (by decide) rfl (fun ls hl => ?_)
                  refine lv_goto (tgt := 12) hx hb dX5_withNumber_99 (by decide) ?_
                  exact ihx1 (ix1 + 1) (lp_up (n := 60) rfl exx1 hix1 (by decide) (by decide) (by decide) c_16) (by omega) (x1 + 1) (by rw [exx1]; exact nI_1 ix1) (((lox1 + hhx1) / 2) + 1) hhx1 ((hsp3).trans ((LX5_withNumber_12_u n0 nx1 x1 lox1 hhx1 Z).trans ((if_neg c_16).trans ((if_neg c_21).trans ((if_neg c_41).trans ((oc_s he6).trans ((if_neg c_68).trans (if_neg c_80)))))))) H _ ls w (lv_sub hl [0, 1, 4, 5, 6] rfl)
              · refine lv_aload hx hb dX5_withNumber_71 (lv_at hl 0 rfl) ?_
                exact g_qret (r := (some (x.f (.th k5)))) hx hb hr (Or.inl ⟨_, rfl⟩) hlk w (Nat.le_of_ble_eq_true rfl) (Nat.le_of_ble_eq_true rfl) dX5_withNumber_73 ⟨congrArg (Option.map (fun k9 => x.f (.th k9))) ((((hsp3).trans ((LX5_withNumber_12_u n0 nx1 x1 lox1 hhx1 Z).trans ((if_neg c_16).trans ((if_neg c_21).trans ((if_neg c_41).trans ((oc_s he6).trans (if_pos c_68)))))))).symm), rfl⟩
  exact key4 61 0 (Nat.zero_le _) (by decide) 0 rfl 0 (Z.tc - 1) (sX5_withNumber_u Z n0) _ _ _ w (lv_sub hl [0, 2, 1, 3, 4] rfl)
def sX5_ofValue (Z : Ho) (v0 : Int64) : Option (Fin 60) := if isT v0 = 0 then (none) else (sX5_withNumber Z (nf v0))
theorem sX5_ofValue_u (Z : Ho) (v0 : Int64) : sX5_ofValue Z v0 = if isT v0 = 0 then (none) else (sX5_withNumber Z (nf v0)) := rfl
set_option maxHeartbeats 4000000 in
set_option maxRecDepth 100000 in
theorem hX5_ofValue (l : Launch) (D : va_G) (ar : Nat → ClassId) (κ : Nat → Nat) (G : gW) (x : Xo) (Z : Ho) (sz : Nat) (v0 : Int64) (hk : OK x Z) : Met l yX5_ofValue (lwC yX5_ofValue cX5_ofValue 3 (some (.object "Sendhouse$Thing"))) (rD 5 0 0) (g_Pc D vwCl (gT ar) (EX1 κ) (ov κ ar x Z G) sz [.ref (x.f .ts), .long v0]) (g_Qq D vwCl (g_A (ov κ ar x Z G) sz) (fun r u => r = Option.map (fun k9 => x.f (.th k9)) (sX5_ofValue Z v0) ∧ u = (ov κ ar x Z G, sz))) 0 0 (g_A (ov κ ar x Z G) sz) := by
  refine g_ofW (by decide +kernel) (Nat.le_of_ble_eq_true rfl) ?_
  intro p e s m below meth c ls S hr hlk hin hE w hl
  have hx := S.1
  have hb := S.2.1
  have hl : lv_has ls 3 [(0, .ref (x.f .ts)), (1, .long v0)] := hl
  refine lv_lload_n hx hb dX5_ofValue_0 rfl (lv_at hl 1 rfl) ?_
  refine g_calli w (g_runSN (As := [.long v0]) (rest := []) S hE w hl (c_X8_isThing l D ar κ (ov κ ar x Z G) sz v0) (k_RX5_42 S.2.2.2.2 (hE.2.1.1 _ (ckN_0 _ (List.mem_of_getElem? (i := 39) rfl))) ⟨Nat.le_of_ble_eq_true rfl, Nat.le_of_ble_eq_true rfl⟩) rfl rfl (Nat.le_of_ble_eq_true rfl) dX5_ofValue_1 ⟨Nat.le_of_ble_eq_true rfl, Nat.le_of_ble_eq_true rfl⟩) (fun r u H locs hp hnz w => ?_)
  obtain ⟨rfl, rfl⟩ := hp
  dsimp only at w
  refine lv_if_eq (tgt := 18) hx hb dX5_ofValue_4 (by decide) (fun c_4 => ?_) (fun c_4 => ?_)
  · refine lv_null hx hb dX5_ofValue_18 ?_
    exact g_qret (r := none) hx hb hr (Or.inl ⟨_, rfl⟩) hlk w (Nat.le_of_ble_eq_true rfl) (Nat.le_of_ble_eq_true rfl) dX5_ofValue_19 ⟨congrArg (Option.map (fun k9 => x.f (.th k9))) ((((sX5_ofValue_u Z v0).trans (if_pos c_4))).symm), rfl⟩
  · refine lv_aload_n hx hb dX5_ofValue_7 rfl (lv_at hl 0 rfl) ?_
    refine lv_lload_n hx hb dX5_ofValue_8 rfl (lv_at hl 1 rfl) ?_
    refine g_calli w (g_runSN (As := [.long v0]) (rest := [.ref (x.f .ts)]) S hE w hl (c_X8_numberOf l D ar κ (ov κ ar x Z G) sz v0) (k_RX5_46 S.2.2.2.2 (hE.2.1.1 _ (ckN_1 _ (List.mem_of_getElem? (i := 0) rfl))) ⟨Nat.le_of_ble_eq_true rfl, Nat.le_of_ble_eq_true rfl⟩) rfl rfl (Nat.le_of_ble_eq_true rfl) dX5_ofValue_9 ⟨Nat.le_of_ble_eq_true rfl, Nat.le_of_ble_eq_true rfl⟩) (fun r u H locs hp hnz w => ?_)
    obtain ⟨rfl, rfl⟩ := hp
    dsimp only at w
    refine g_callq w (g_runV (As := [.int (nf v0)]) (rest := []) S hE w hl (hX5_withNumber l D ar κ G x Z sz (nf v0) hk ) (k_RX5_50 S.2.2.2.2 ⟨Nat.le_of_ble_eq_true rfl, Nat.le_of_ble_eq_true rfl⟩) (ov_r (t := .ts) (hk.e (.ts) rfl)) rfl rfl rfl rfl (Nat.le_of_ble_eq_true rfl) dX5_ofValue_12 ⟨Nat.le_of_ble_eq_true rfl, Nat.le_of_ble_eq_true rfl⟩) (fun r u H locs hp hnz w => ?_)
    obtain ⟨rfl, rfl⟩ := hp
    dsimp only at w
    refine lv_goto (tgt := 19) hx hb dX5_ofValue_15 (by decide) ?_
    exact g_qret (r := Option.map (fun k9 => x.f (.th k9)) (sX5_withNumber Z (nf v0))) hx hb hr (Or.inl ⟨_, rfl⟩) hlk w (Nat.le_of_ble_eq_true rfl) (Nat.le_of_ble_eq_true rfl) dX5_ofValue_19 ⟨congrArg (Option.map (fun k9 => x.f (.th k9))) ((((sX5_ofValue_u Z v0).trans (if_neg c_4))).symm), rfl⟩
def sX5_classOfValue (Z : Ho) (v0 : Int64) : Int32 := if isN v0 = 0 then (oc (sX5_ofValue Z v0) (2) (fun k1 => (Z.th k1).c)) else (1)
theorem sX5_classOfValue_u (Z : Ho) (v0 : Int64) : sX5_classOfValue Z v0 = if isN v0 = 0 then (oc (sX5_ofValue Z v0) (2) (fun k1 => (Z.th k1).c)) else (1) := rfl
set_option maxHeartbeats 4000000 in
set_option maxRecDepth 100000 in
theorem hX5_classOfValue (l : Launch) (D : va_G) (ar : Nat → ClassId) (κ : Nat → Nat) (G : gW) (x : Xo) (Z : Ho) (sz : Nat) (v0 : Int64) (hk : OK x Z) : Met l yX5_classOfValue (lwC yX5_classOfValue cX5_classOfValue 4 (some .int)) (rD 6 0 0) (g_Pc D vwCl (gT ar) (EX1 κ) (ov κ ar x Z G) sz [.ref (x.f .ts), .long v0]) (g_Qi D vwCl (g_A (ov κ ar x Z G) sz) (fun r u => r = sX5_classOfValue Z v0 ∧ u = (ov κ ar x Z G, sz))) 0 0 (g_A (ov κ ar x Z G) sz) := by
  refine g_ofW (by decide +kernel) (Nat.le_of_ble_eq_true rfl) ?_
  intro p e s m below meth c ls S hr hlk hin hE w hl
  have hx := S.1
  have hb := S.2.1
  have hl : lv_has ls 4 [(0, .ref (x.f .ts)), (1, .long v0)] := hl
  refine lv_lload_n hx hb dX5_classOfValue_0 rfl (lv_at hl 1 rfl) ?_
  refine g_calli w (g_runSN (As := [.long v0]) (rest := []) S hE w hl (c_X8_isNumber l D ar κ (ov κ ar x Z G) sz v0) (k_RX5_54 S.2.2.2.2 (hE.2.1.1 _ (ckN_1 _ (List.mem_of_getElem? (i := 6) rfl))) ⟨Nat.le_of_ble_eq_true rfl, Nat.le_of_ble_eq_true rfl⟩) rfl rfl (Nat.le_of_ble_eq_true rfl) dX5_classOfValue_1 ⟨Nat.le_of_ble_eq_true rfl, Nat.le_of_ble_eq_true rfl⟩) (fun r u H locs hp hnz w => ?_)
  obtain ⟨rfl, rfl⟩ := hp
  dsimp only at w
  refine lv_if_eq (tgt := 9) hx hb dX5_classOfValue_4 (by decide) (fun c_4 => ?_) (fun c_4 => ?_)
  · refine lv_aload_n hx hb dX5_classOfValue_9 rfl (lv_at hl 0 rfl) ?_
    refine lv_lload_n hx hb dX5_classOfValue_10 rfl (lv_at hl 1 rfl) ?_
    refine g_callq w (g_runV (As := [.long v0]) (rest := []) S hE w hl (hX5_ofValue l D ar κ G x Z sz v0 hk ) (k_RX5_57 S.2.2.2.2 ⟨Nat.le_of_ble_eq_true rfl, Nat.le_of_ble_eq_true rfl⟩) (ov_r (t := .ts) (hk.e (.ts) rfl)) rfl rfl rfl rfl (Nat.le_of_ble_eq_true rfl) dX5_classOfValue_11 ⟨Nat.le_of_ble_eq_true rfl, Nat.le_of_ble_eq_true rfl⟩) (fun r u H locs hp hnz w => ?_)
    obtain ⟨rfl, rfl⟩ := hp
    dsimp only at w
    refine lv_astore_nQ (lv' := [(3, va_rf ((sX5_ofValue Z v0).map (fun k9 => x.f (.th k9)))), (0, .ref (x.f .ts)), (1, .long v0)]) hx hb dX5_classOfValue_14 rfl hl (by decide) rfl (fun ls hl => ?_)
    refine lv_aload_nQ hx hb dX5_classOfValue_15 rfl (lv_at hl 0 rfl) ?_
    rcases he2 : sX5_ofValue Z v0 with _ | k1
    · have hl : lv_has ls 4 [(3, .null), (0, .ref (x.f .ts)), (1, .long v0)] := by rw [he2] at hl; exact hl
      show W p l e _ s m _ below meth c _ _ _ _ _ (F0 m 16 ls [.null])
      refine lv_ifnonnullN hx hb dX5_classOfValue_16 ?_
      refine lv_iconst (v := 2) hx hb dX5_classOfValue_19 (by decide) ?_
      refine lv_goto (tgt := 27) hx hb dX5_classOfValue_20 (by decide) ?_
      exact g_iret hx hb hr hlk w (Nat.le_of_ble_eq_true rfl) (Nat.le_of_ble_eq_true rfl) dX5_classOfValue_27 ⟨(((sX5_classOfValue_u Z v0).trans ((if_pos c_4).trans (oc_n he2)))).symm, rfl⟩
    · have hl : lv_has ls 4 [(3, .ref (x.f (.th k1))), (0, .ref (x.f .ts)), (1, .long v0)] := by rw [he2] at hl; exact hl
      show W p l e _ s m _ below meth c _ _ _ _ _ (F0 m 16 ls [.ref (x.f (.th k1))])
      refine lv_ifnonnull (tgt := 23) hx hb dX5_classOfValue_16 (by decide) ?_
      refine lv_aload_n hx hb dX5_classOfValue_23 rfl (lv_at hl 0 rfl) ?_
      refine gf_RX5_61_10 (v := .int ((Z.th k1).c)) S hE w (ov_r (t := .th k1) (hk.e (.th k1) rfl)) rfl dX5_classOfValue_24 ?_
      exact g_iret hx hb hr hlk w (Nat.le_of_ble_eq_true rfl) (Nat.le_of_ble_eq_true rfl) dX5_classOfValue_27 ⟨(((sX5_classOfValue_u Z v0).trans ((if_pos c_4).trans (oc_s he2)))).symm, rfl⟩
  · refine lv_iconst (v := 1) hx hb dX5_classOfValue_7 (by decide) ?_
    exact g_iret hx hb hr hlk w (Nat.le_of_ble_eq_true rfl) (Nat.le_of_ble_eq_true rfl) dX5_classOfValue_8 ⟨(((sX5_classOfValue_u Z v0).trans (if_neg c_4))).symm, rfl⟩
def sX5_has (Z : Ho) (v0 : Int64) : Int32 := if isT v0 = 0 then (1) else (oc (sX5_ofValue Z v0) (0) (fun k1 => 1))
theorem sX5_has_u (Z : Ho) (v0 : Int64) : sX5_has Z v0 = if isT v0 = 0 then (1) else (oc (sX5_ofValue Z v0) (0) (fun k1 => 1)) := rfl
set_option maxHeartbeats 4000000 in
set_option maxRecDepth 100000 in
theorem hX5_has (l : Launch) (D : va_G) (ar : Nat → ClassId) (κ : Nat → Nat) (G : gW) (x : Xo) (Z : Ho) (sz : Nat) (v0 : Int64) (hk : OK x Z) : Met l yX5_has (lwC yX5_has cX5_has 3 (some .boolean)) (rD 6 0 0) (g_Pc D vwCl (gT ar) (EX1 κ) (ov κ ar x Z G) sz [.ref (x.f .ts), .long v0]) (g_Qi D vwCl (g_A (ov κ ar x Z G) sz) (fun r u => r = sX5_has Z v0 ∧ u = (ov κ ar x Z G, sz))) 0 0 (g_A (ov κ ar x Z G) sz) := by
  refine g_ofW (by decide +kernel) (Nat.le_of_ble_eq_true rfl) ?_
  intro p e s m below meth c ls S hr hlk hin hE w hl
  have hx := S.1
  have hb := S.2.1
  have hl : lv_has ls 3 [(0, .ref (x.f .ts)), (1, .long v0)] := hl
  refine lv_lload_n hx hb dX5_has_0 rfl (lv_at hl 1 rfl) ?_
  refine g_calli w (g_runSN (As := [.long v0]) (rest := []) S hE w hl (c_X8_isThing l D ar κ (ov κ ar x Z G) sz v0) (k_RX5_42 S.2.2.2.2 (hE.2.1.1 _ (ckN_0 _ (List.mem_of_getElem? (i := 39) rfl))) ⟨Nat.le_of_ble_eq_true rfl, Nat.le_of_ble_eq_true rfl⟩) rfl rfl (Nat.le_of_ble_eq_true rfl) dX5_has_1 ⟨Nat.le_of_ble_eq_true rfl, Nat.le_of_ble_eq_true rfl⟩) (fun r u H locs hp hnz w => ?_)
  obtain ⟨rfl, rfl⟩ := hp
  dsimp only at w
  refine lv_if_eq (tgt := 15) hx hb dX5_has_4 (by decide) (fun c_4 => ?_) (fun c_4 => ?_)
  · refine lv_iconst (v := 1) hx hb dX5_has_15 (by decide) ?_
    refine lv_goto (tgt := 20) hx hb dX5_has_16 (by decide) ?_
    exact g_zret hx hb hr hlk w (Nat.le_of_ble_eq_true rfl) (Nat.le_of_ble_eq_true rfl) dX5_has_20 rfl ⟨(((sX5_has_u Z v0).trans (if_pos c_4))).symm, rfl⟩
  · refine lv_aload_n hx hb dX5_has_7 rfl (lv_at hl 0 rfl) ?_
    refine lv_lload_n hx hb dX5_has_8 rfl (lv_at hl 1 rfl) ?_
    refine g_callq w (g_runV (As := [.long v0]) (rest := []) S hE w hl (hX5_ofValue l D ar κ G x Z sz v0 hk ) (k_RX5_57 S.2.2.2.2 ⟨Nat.le_of_ble_eq_true rfl, Nat.le_of_ble_eq_true rfl⟩) (ov_r (t := .ts) (hk.e (.ts) rfl)) rfl rfl rfl rfl (Nat.le_of_ble_eq_true rfl) dX5_has_9 ⟨Nat.le_of_ble_eq_true rfl, Nat.le_of_ble_eq_true rfl⟩) (fun r u H locs hp hnz w => ?_)
    obtain ⟨rfl, rfl⟩ := hp
    dsimp only at w
    rcases he2 : sX5_ofValue Z v0 with _ | k1
    · show W p l e _ s m _ below meth c _ _ _ _ _ (F0 m 12 ls [.null])
      refine lv_ifnullN (tgt := 19) hx hb dX5_has_12 (by decide) ?_
      refine lv_iconst (v := 0) hx hb dX5_has_19 (by decide) ?_
      exact g_zret hx hb hr hlk w (Nat.le_of_ble_eq_true rfl) (Nat.le_of_ble_eq_true rfl) dX5_has_20 rfl ⟨(((sX5_has_u Z v0).trans ((if_neg c_4).trans (oc_n he2)))).symm, rfl⟩
    · show W p l e _ s m _ below meth c _ _ _ _ _ (F0 m 12 ls [.ref (x.f (.th k1))])
      refine lv_ifnull hx hb dX5_has_12 ?_
      refine lv_iconst (v := 1) hx hb dX5_has_15 (by decide) ?_
      refine lv_goto (tgt := 20) hx hb dX5_has_16 (by decide) ?_
      exact g_zret hx hb hr hlk w (Nat.le_of_ble_eq_true rfl) (Nat.le_of_ble_eq_true rfl) dX5_has_20 rfl ⟨(((sX5_has_u Z v0).trans ((if_neg c_4).trans (oc_s he2)))).symm, rfl⟩
noncomputable def LX5_hasPlacesThere_2 (i0 : Fin 60) : Nat → Int32 → Ho → Int32
  | 0, _, Z => 0
  | nx1 + 1, x1, Z => if (Z.th i0).z ≤ x1 then (1) else (if sX5_has Z (pA ((Z.th i0).p) 8 x1) = 0 then (0) else (LX5_hasPlacesThere_2 i0 nx1 (x1 + 1) Z))
theorem LX5_hasPlacesThere_2_u (i0 : Fin 60) (nx1 : Nat) (x1 : Int32) (Z : Ho) : LX5_hasPlacesThere_2 i0 (nx1 + 1) x1 Z = if (Z.th i0).z ≤ x1 then (1) else (if sX5_has Z (pA ((Z.th i0).p) 8 x1) = 0 then (0) else (LX5_hasPlacesThere_2 i0 nx1 (x1 + 1) Z)) := rfl
noncomputable def sX5_hasPlacesThere (Z : Ho) (i0 : Fin 60) : Int32 := LX5_hasPlacesThere_2 i0 FU 0 Z
theorem sX5_hasPlacesThere_u (Z : Ho) (i0 : Fin 60) : sX5_hasPlacesThere Z i0 = LX5_hasPlacesThere_2 i0 FU 0 Z := rfl
set_option maxHeartbeats 4000000 in
set_option maxRecDepth 100000 in
theorem hX5_hasPlacesThere (l : Launch) (D : va_G) (ar : Nat → ClassId) (κ : Nat → Nat) (G : gW) (x : Xo) (Z : Ho) (sz : Nat) (i0 : Fin 60) (hk : OK x Z) : Met l yX5_hasPlacesThere (lwC yX5_hasPlacesThere cX5_hasPlacesThere 3 (some .boolean)) (rD 7 0 0) (g_Pc D vwCl (gT ar) (EX1 κ) (ov κ ar x Z G) sz [.ref (x.f .ts), .ref (x.f (.th i0))]) (g_Qi D vwCl (g_A (ov κ ar x Z G) sz) (fun r u => r = sX5_hasPlacesThere Z i0 ∧ u = (ov κ ar x Z G, sz))) 0 0 (g_A (ov κ ar x Z G) sz) := by
  refine g_ofW (by decide +kernel) (Nat.le_of_ble_eq_true rfl) ?_
  intro p e s m below meth c ls S hr hlk hin hE w hl
  have hx := S.1
  have hb := S.2.1
  have hl : lv_has ls 3 [(0, .ref (x.f .ts)), (1, .ref (x.f (.th i0)))] := hl
  refine lv_iconst (v := 0) hx hb dX5_hasPlacesThere_0 (by decide) ?_
  refine lv_istore_n (lv' := [(2, .int 0), (0, .ref (x.f .ts)), (1, .ref (x.f (.th i0)))]) hx hb dX5_hasPlacesThere_1 rfl hl (by decide) rfl (fun ls hl => ?_)
  have key4 : ∀ (nx1 ix1 : Nat), ix1 ≤ 2147483647 → 2147483647 + 1 ≤ ix1 + nx1 → ∀ (x1 : Int32), x1 = nI ix1 → sX5_hasPlacesThere Z i0 = LX5_hasPlacesThere_2 i0 nx1 x1 Z → ∀ (H : Heap) (locs : List Loc) (ls : Array Slot), g_S D vwCl (g_A (ov κ ar x Z G) sz) s.heap (ov κ ar x Z G) H locs sz → lv_has ls 3 [(2, .int x1), (0, .ref (x.f .ts)), (1, .ref (x.f (.th i0)))] → W p l e (rD 7 0 0) s m ([.ref (x.f .ts), .ref (x.f (.th i0))] : List Value).toArray below meth c H locs 0 0 (MQ below (g_Qi D vwCl (g_A (ov κ ar x Z G) sz) (fun r u => r = sX5_hasPlacesThere Z i0 ∧ u = (ov κ ar x Z G, sz))) ([.ref (x.f .ts), .ref (x.f (.th i0))] : List Value).toArray s 0 0 (g_A (ov κ ar x Z G) sz)) (F0 m 2 ls []) := by
    intro nx1
    induction nx1 with
    | zero => intro ix1 hix1 hi2; exact absurd hi2 (by omega)
    | succ nx1 ihx1 =>
      intro ix1 hix1 hi2 x1 exx1 hsp3 H locs ls w hl
      refine lv_iload_n hx hb dX5_hasPlacesThere_2 rfl (lv_at hl 0 rfl) ?_
      refine lv_aload_n hx hb dX5_hasPlacesThere_3 rfl (lv_at hl 2 rfl) ?_
      refine gf_RX5_71_10 (v := .int ((Z.th i0).z)) S hE w (ov_r (t := .th i0) (hk.e (.th i0) rfl)) rfl dX5_hasPlacesThere_4 ?_
      refine lv_icmp_ge (tgt := 33) hx hb dX5_hasPlacesThere_7 (by decide) (fun c_7 => ?_) (fun c_7 => ?_)
      · refine lv_iconst (v := 1) hx hb dX5_hasPlacesThere_33 (by decide) ?_
        exact g_zret hx hb hr hlk w (Nat.le_of_ble_eq_true rfl) (Nat.le_of_ble_eq_true rfl) dX5_hasPlacesThere_34 rfl ⟨(((hsp3).trans ((LX5_hasPlacesThere_2_u i0 nx1 x1 Z).trans (if_pos c_7)))).symm, rfl⟩
      · refine lv_aload_n hx hb dX5_hasPlacesThere_10 rfl (lv_at hl 1 rfl) ?_
        refine lv_aload_n hx hb dX5_hasPlacesThere_11 rfl (lv_at hl 2 rfl) ?_
        refine gf_RX5_74_10 (v := .ref (x.f (.tp i0))) S hE w (ov_r (t := .th i0) (hk.e (.th i0) rfl)) rfl dX5_hasPlacesThere_12 ?_
        refine lv_iload_n hx hb dX5_hasPlacesThere_15 rfl (lv_at hl 0 rfl) ?_
        refine g_calll w (g_runSN (As := [.ref (x.f (.tp i0)), .int x1]) (rest := [.ref (x.f .ts)]) S hE w hl (c_X8_placeAt l D ar κ (ov κ ar x Z G) sz (x.f (.tp i0)) x1 8 ((Z.th i0).p) (ov_r (t := .tp i0) (hk.e (.tp i0) rfl)) (by decide)) (k_RX5_78 S.2.2.2.2 (hE.2.1.1 _ (ckN_1 _ (List.mem_of_getElem? (i := 3) rfl))) ⟨Nat.le_of_ble_eq_true rfl, Nat.le_of_ble_eq_true rfl⟩) rfl rfl (Nat.le_of_ble_eq_true rfl) dX5_hasPlacesThere_16 ⟨Nat.le_of_ble_eq_true rfl, Nat.le_of_ble_eq_true rfl⟩) (fun r u H locs hp hnz w => ?_)
        obtain ⟨rfl, rfl⟩ := hp
        dsimp only at w
        refine g_calli w (g_runV (As := [.long (pA ((Z.th i0).p) 8 x1)]) (rest := []) S hE w hl (hX5_has l D ar κ G x Z sz (pA ((Z.th i0).p) 8 x1) hk ) (k_RX5_82 S.2.2.2.2 ⟨Nat.le_of_ble_eq_true rfl, Nat.le_of_ble_eq_true rfl⟩) (ov_r (t := .ts) (hk.e (.ts) rfl)) rfl rfl rfl rfl (Nat.le_of_ble_eq_true rfl) dX5_hasPlacesThere_19 ⟨Nat.le_of_ble_eq_true rfl, Nat.le_of_ble_eq_true rfl⟩) (fun r u H locs hp hnz w => ?_)
        obtain ⟨rfl, rfl⟩ := hp
        dsimp only at w
        refine lv_if_ne (tgt := 27) hx hb dX5_hasPlacesThere_22 (by decide) (fun c_22 => ?_) (fun c_22 => ?_)
        · refine lv_iinc (v := x1 + 1) (lv' := [(2, .int (x1 + 1)), (0, .ref (x.f .ts)), (1, .ref (x.f (.th i0)))]) hx hb dX5_hasPlacesThere_27 hl (k := 0) rfl rfl (by decide) rfl (fun ls hl => ?_)
          refine lv_goto (tgt := 2) hx hb dX5_hasPlacesThere_30 (by decide) ?_
          exact ihx1 (ix1 + 1) (lp_fu exx1 hix1 c_7) (by omega) (x1 + 1) (by rw [exx1]; exact nI_1 ix1) ((hsp3).trans ((LX5_hasPlacesThere_2_u i0 nx1 x1 Z).trans ((if_neg c_7).trans (if_neg c_22)))) H _ ls w (lv_sub hl [0, 1, 2] rfl)
        · refine lv_iconst (v := 0) hx hb dX5_hasPlacesThere_25 (by decide) ?_
          exact g_zret hx hb hr hlk w (Nat.le_of_ble_eq_true rfl) (Nat.le_of_ble_eq_true rfl) dX5_hasPlacesThere_26 rfl ⟨(((hsp3).trans ((LX5_hasPlacesThere_2_u i0 nx1 x1 Z).trans ((if_neg c_7).trans (if_pos c_22))))).symm, rfl⟩
  exact key4 FU 0 (Nat.zero_le _) (by rw [FU_e]; decide) 0 rfl (sX5_hasPlacesThere_u Z i0) _ _ _ w (lv_sub hl [0, 1, 2] rfl)
noncomputable def LX5_hasFieldsThere_2 : Nat → Int32 → Ho → Int32
  | 0, _, Z => 0
  | nx1 + 1, x1, Z => if Z.tc ≤ x1 then (1) else (oc (sX5_inOrder Z x1) (0) (fun k5 => if sX5_hasPlacesThere Z k5 = 0 then (0) else (LX5_hasFieldsThere_2 nx1 (x1 + 1) Z)))
theorem LX5_hasFieldsThere_2_u (nx1 : Nat) (x1 : Int32) (Z : Ho) : LX5_hasFieldsThere_2 (nx1 + 1) x1 Z = if Z.tc ≤ x1 then (1) else (oc (sX5_inOrder Z x1) (0) (fun k5 => if sX5_hasPlacesThere Z k5 = 0 then (0) else (LX5_hasFieldsThere_2 nx1 (x1 + 1) Z))) := rfl
noncomputable def sX5_hasFieldsThere (Z : Ho) : Int32 := LX5_hasFieldsThere_2 FU 0 Z
theorem sX5_hasFieldsThere_u (Z : Ho) : sX5_hasFieldsThere Z = LX5_hasFieldsThere_2 FU 0 Z := rfl
set_option maxHeartbeats 4000000 in
set_option maxRecDepth 100000 in
theorem hX5_hasFieldsThere (l : Launch) (D : va_G) (ar : Nat → ClassId) (κ : Nat → Nat) (G : gW) (x : Xo) (Z : Ho) (sz : Nat) (hk : OK x Z) : Met l yX5_hasFieldsThere (lwC yX5_hasFieldsThere cX5_hasFieldsThere 3 (some .boolean)) (rD 8 0 0) (g_Pc D vwCl (gT ar) (EX1 κ) (ov κ ar x Z G) sz [.ref (x.f .ts)]) (g_Qi D vwCl (g_A (ov κ ar x Z G) sz) (fun r u => r = sX5_hasFieldsThere Z ∧ u = (ov κ ar x Z G, sz))) 0 0 (g_A (ov κ ar x Z G) sz) := by
  refine g_ofW (by decide +kernel) (Nat.le_of_ble_eq_true rfl) ?_
  intro p e s m below meth c ls S hr hlk hin hE w hl
  have hx := S.1
  have hb := S.2.1
  have hl : lv_has ls 3 [(0, .ref (x.f .ts))] := hl
  refine lv_iconst (v := 0) hx hb dX5_hasFieldsThere_0 (by decide) ?_
  refine lv_istore_n (lv' := [(1, .int 0), (0, .ref (x.f .ts))]) hx hb dX5_hasFieldsThere_1 rfl hl (by decide) rfl (fun ls hl => ?_)
  have key4 : ∀ (nx1 ix1 : Nat), ix1 ≤ 2147483647 → 2147483647 + 1 ≤ ix1 + nx1 → ∀ (x1 : Int32), x1 = nI ix1 → sX5_hasFieldsThere Z = LX5_hasFieldsThere_2 nx1 x1 Z → ∀ (H : Heap) (locs : List Loc) (ls : Array Slot), g_S D vwCl (g_A (ov κ ar x Z G) sz) s.heap (ov κ ar x Z G) H locs sz → lv_has ls 3 [(1, .int x1), (0, .ref (x.f .ts))] → W p l e (rD 8 0 0) s m ([.ref (x.f .ts)] : List Value).toArray below meth c H locs 0 0 (MQ below (g_Qi D vwCl (g_A (ov κ ar x Z G) sz) (fun r u => r = sX5_hasFieldsThere Z ∧ u = (ov κ ar x Z G, sz))) ([.ref (x.f .ts)] : List Value).toArray s 0 0 (g_A (ov κ ar x Z G) sz)) (F0 m 2 ls []) := by
    intro nx1
    induction nx1 with
    | zero => intro ix1 hix1 hi2; exact absurd hi2 (by omega)
    | succ nx1 ihx1 =>
      intro ix1 hix1 hi2 x1 exx1 hsp3 H locs ls w hl
      refine lv_iload_n hx hb dX5_hasFieldsThere_2 rfl (lv_at hl 0 rfl) ?_
      refine lv_aload_n hx hb dX5_hasFieldsThere_3 rfl (lv_at hl 1 rfl) ?_
      refine gf_RX5_20_11 (v := .int Z.tc) S hE w (ov_r (t := .ts) (hk.e (.ts) rfl)) rfl dX5_hasFieldsThere_4 ?_
      refine lv_icmp_ge (tgt := 36) hx hb dX5_hasFieldsThere_7 (by decide) (fun c_7 => ?_) (fun c_7 => ?_)
      · refine lv_iconst (v := 1) hx hb dX5_hasFieldsThere_36 (by decide) ?_
        exact g_zret hx hb hr hlk w (Nat.le_of_ble_eq_true rfl) (Nat.le_of_ble_eq_true rfl) dX5_hasFieldsThere_37 rfl ⟨(((hsp3).trans ((LX5_hasFieldsThere_2_u nx1 x1 Z).trans (if_pos c_7)))).symm, rfl⟩
      · refine lv_aload_n hx hb dX5_hasFieldsThere_10 rfl (lv_at hl 1 rfl) ?_
        refine lv_iload_n hx hb dX5_hasFieldsThere_11 rfl (lv_at hl 0 rfl) ?_
        refine g_callq w (g_runV (As := [.int x1]) (rest := []) S hE w hl (hX5_inOrder l D ar κ G x Z sz x1 hk ) (k_RX5_64 S.2.2.2.2 ⟨Nat.le_of_ble_eq_true rfl, Nat.le_of_ble_eq_true rfl⟩) (ov_r (t := .ts) (hk.e (.ts) rfl)) rfl rfl rfl rfl (Nat.le_of_ble_eq_true rfl) dX5_hasFieldsThere_12 ⟨Nat.le_of_ble_eq_true rfl, Nat.le_of_ble_eq_true rfl⟩) (fun r u H locs hp hnz w => ?_)
        obtain ⟨rfl, rfl⟩ := hp
        dsimp only at w
        refine lv_astore_nQ (lv' := [(2, va_rf ((sX5_inOrder Z x1).map (fun k9 => x.f (.th k9)))), (1, .int x1), (0, .ref (x.f .ts))]) hx hb dX5_hasFieldsThere_15 rfl hl (by decide) rfl (fun ls hl => ?_)
        refine lv_aload_nQ hx hb dX5_hasFieldsThere_16 rfl (lv_at hl 0 rfl) ?_
        rcases he6 : sX5_inOrder Z x1 with _ | k5
        · have hl : lv_has ls 3 [(2, .null), (1, .int x1), (0, .ref (x.f .ts))] := by rw [he6] at hl; exact hl
          show W p l e _ s m _ below meth c _ _ _ _ _ (F0 m 17 ls [.null])
          refine lv_ifnullN (tgt := 28) hx hb dX5_hasFieldsThere_17 (by decide) ?_
          refine lv_iconst (v := 0) hx hb dX5_hasFieldsThere_28 (by decide) ?_
          exact g_zret hx hb hr hlk w (Nat.le_of_ble_eq_true rfl) (Nat.le_of_ble_eq_true rfl) dX5_hasFieldsThere_29 rfl ⟨(((hsp3).trans ((LX5_hasFieldsThere_2_u nx1 x1 Z).trans ((if_neg c_7).trans (oc_n he6))))).symm, rfl⟩
        · have hl : lv_has ls 3 [(2, .ref (x.f (.th k5))), (1, .int x1), (0, .ref (x.f .ts))] := by rw [he6] at hl; exact hl
          show W p l e _ s m _ below meth c _ _ _ _ _ (F0 m 17 ls [.ref (x.f (.th k5))])
          refine lv_ifnull hx hb dX5_hasFieldsThere_17 ?_
          refine lv_aload_n hx hb dX5_hasFieldsThere_20 rfl (lv_at hl 2 rfl) ?_
          refine lv_aload_n hx hb dX5_hasFieldsThere_21 rfl (lv_at hl 0 rfl) ?_
          refine g_calli w (g_runV (As := [.ref (x.f (.th k5))]) (rest := []) S hE w hl (hX5_hasPlacesThere l D ar κ G x Z sz k5 hk ) (k_RX5_67 S.2.2.2.2 ⟨Nat.le_of_ble_eq_true rfl, Nat.le_of_ble_eq_true rfl⟩) (ov_r (t := .ts) (hk.e (.ts) rfl)) rfl rfl rfl rfl (Nat.le_of_ble_eq_true rfl) dX5_hasFieldsThere_22 ⟨Nat.le_of_ble_eq_true rfl, Nat.le_of_ble_eq_true rfl⟩) (fun r u H locs hp hnz w => ?_)
          obtain ⟨rfl, rfl⟩ := hp
          dsimp only at w
          refine lv_if_ne (tgt := 30) hx hb dX5_hasFieldsThere_25 (by decide) (fun c_25 => ?_) (fun c_25 => ?_)
          · refine lv_iinc (v := x1 + 1) (lv' := [(1, .int (x1 + 1)), (2, .ref (x.f (.th k5))), (0, .ref (x.f .ts))]) hx hb dX5_hasFieldsThere_30 hl (k := 1) rfl rfl (by decide) rfl (fun ls hl => ?_)
            refine lv_goto (tgt := 2) hx hb dX5_hasFieldsThere_33 (by decide) ?_
            exact ihx1 (ix1 + 1) (lp_fu exx1 hix1 c_7) (by omega) (x1 + 1) (by rw [exx1]; exact nI_1 ix1) ((hsp3).trans ((LX5_hasFieldsThere_2_u nx1 x1 Z).trans ((if_neg c_7).trans ((oc_s he6).trans (if_neg c_25))))) H _ ls w (lv_sub hl [0, 2] rfl)
          · refine lv_iconst (v := 0) hx hb dX5_hasFieldsThere_28 (by decide) ?_
            exact g_zret hx hb hr hlk w (Nat.le_of_ble_eq_true rfl) (Nat.le_of_ble_eq_true rfl) dX5_hasFieldsThere_29 rfl ⟨(((hsp3).trans ((LX5_hasFieldsThere_2_u nx1 x1 Z).trans ((if_neg c_7).trans ((oc_s he6).trans (if_pos c_25)))))).symm, rfl⟩
  exact key4 FU 0 (Nat.zero_le _) (by rw [FU_e]; decide) 0 rfl (sX5_hasFieldsThere_u Z) _ _ _ w (lv_sub hl [0, 1] rfl)
def sX5_reach (Z : Ho) (v0 : Int64) : Ho := oc (sX5_ofValue Z v0) (Z) (fun k1 => if (Z.th k1).r = 0 then (if isB Z.rc 60 = 0 then (Z) else ((((Z.sre (updN Z.re (Int32.toNatClampNeg Z.rc) (some k1))).src (Z.rc + 1)).thS k1 ((Z.th k1).sr 1)))) else (Z))
theorem sX5_reach_u (Z : Ho) (v0 : Int64) : sX5_reach Z v0 = oc (sX5_ofValue Z v0) (Z) (fun k1 => if (Z.th k1).r = 0 then (if isB Z.rc 60 = 0 then (Z) else ((((Z.sre (updN Z.re (Int32.toNatClampNeg Z.rc) (some k1))).src (Z.rc + 1)).thS k1 ((Z.th k1).sr 1)))) else (Z)) := rfl
set_option maxHeartbeats 4000000 in
set_option maxRecDepth 100000 in
theorem hX5_reach (l : Launch) (D : va_G) (ar : Nat → ClassId) (κ : Nat → Nat) (G : gW) (x : Xo) (Z : Ho) (sz : Nat) (v0 : Int64) (hk : OK x Z) : Met l yX5_reach (lwC yX5_reach cX5_reach 4 none) (rD 6 0 0) (g_Pc D vwCl (gT ar) (EX1 κ) (ov κ ar x Z G) sz [.ref (x.f .ts), .long v0]) (g_Qv D vwCl (g_A (ov κ ar x Z G) sz) (fun u => ∃ T9 : Ho, sX5_reach Z v0 = T9 ∧ u = (ov κ ar x T9 G, sz) ∧ OK x T9)) 0 0 (g_A (ov κ ar x Z G) sz) := by
  refine g_ofW (by decide +kernel) (Nat.le_of_ble_eq_true rfl) ?_
  intro p e s m below meth c ls S hr hlk hin hE w hl
  have hx := S.1
  have hb := S.2.1
  have hl : lv_has ls 4 [(0, .ref (x.f .ts)), (1, .long v0)] := hl
  refine lv_aload_n hx hb dX5_reach_0 rfl (lv_at hl 0 rfl) ?_
  refine lv_lload_n hx hb dX5_reach_1 rfl (lv_at hl 1 rfl) ?_
  refine g_callq w (g_runV (As := [.long v0]) (rest := []) S hE w hl (hX5_ofValue l D ar κ G x Z sz v0 hk ) (k_RX5_57 S.2.2.2.2 ⟨Nat.le_of_ble_eq_true rfl, Nat.le_of_ble_eq_true rfl⟩) (ov_r (t := .ts) (hk.e (.ts) rfl)) rfl rfl rfl rfl (Nat.le_of_ble_eq_true rfl) dX5_reach_2 ⟨Nat.le_of_ble_eq_true rfl, Nat.le_of_ble_eq_true rfl⟩) (fun r u H locs hp hnz w => ?_)
  obtain ⟨rfl, rfl⟩ := hp
  dsimp only at w
  refine lv_astore_nQ (lv' := [(3, va_rf ((sX5_ofValue Z v0).map (fun k9 => x.f (.th k9)))), (0, .ref (x.f .ts)), (1, .long v0)]) hx hb dX5_reach_5 rfl hl (by decide) rfl (fun ls hl => ?_)
  refine lv_aload_nQ hx hb dX5_reach_6 rfl (lv_at hl 0 rfl) ?_
  rcases he2 : sX5_ofValue Z v0 with _ | k1
  · have hl : lv_has ls 4 [(3, .null), (0, .ref (x.f .ts)), (1, .long v0)] := by rw [he2] at hl; exact hl
    show W p l e _ s m _ below meth c _ _ _ _ _ (F0 m 7 ls [.null])
    refine lv_ifnullN (tgt := 57) hx hb dX5_reach_7 (by decide) ?_
    exact g_vret hx hb hr hlk w (Nat.le_of_ble_eq_true rfl) (Nat.le_of_ble_eq_true rfl) dX5_reach_57 ⟨_, ((sX5_reach_u Z v0).trans (oc_n he2)), rfl, hk⟩
  · have hl : lv_has ls 4 [(3, .ref (x.f (.th k1))), (0, .ref (x.f .ts)), (1, .long v0)] := by rw [he2] at hl; exact hl
    show W p l e _ s m _ below meth c _ _ _ _ _ (F0 m 7 ls [.ref (x.f (.th k1))])
    refine lv_ifnull hx hb dX5_reach_7 ?_
    refine lv_aload_n hx hb dX5_reach_10 rfl (lv_at hl 0 rfl) ?_
    refine gf_RX5_85_10 (v := .int ((Z.th k1).r)) S hE w (ov_r (t := .th k1) (hk.e (.th k1) rfl)) rfl dX5_reach_11 ?_
    refine lv_if_ne (tgt := 57) hx hb dX5_reach_14 (by decide) (fun c_14 => ?_) (fun c_14 => ?_)
    · exact g_vret hx hb hr hlk w (Nat.le_of_ble_eq_true rfl) (Nat.le_of_ble_eq_true rfl) dX5_reach_57 ⟨_, ((sX5_reach_u Z v0).trans ((oc_s he2).trans (if_neg c_14))), rfl, hk⟩
    · refine lv_aload_n hx hb dX5_reach_17 rfl (lv_at hl 1 rfl) ?_
      refine gf_RX5_24_11 (v := .int Z.rc) S hE w (ov_r (t := .ts) (hk.e (.ts) rfl)) rfl dX5_reach_18 ?_
      refine lv_aload_n hx hb dX5_reach_21 rfl (lv_at hl 1 rfl) ?_
      refine gf_RX5_17_11 (v := .ref (x.f .re)) S hE w (ov_r (t := .ts) (hk.e (.ts) rfl)) rfl dX5_reach_22 ?_
      refine va_alen (v := 60) hx hb hE.1 (g_1 w.1 (ov_r (t := .re) (hk.e (.re) rfl))) 0 6 rfl rfl rfl dX5_reach_25 ?_
      refine g_calli w (g_runSN (As := [.int Z.rc, .int 60]) (rest := []) S hE w hl (c_X8_isBelow l D ar κ (ov κ ar x Z G) sz Z.rc 60) (k_RX5_31 S.2.2.2.2 (hE.2.1.1 _ (ckN_1 _ (List.mem_of_getElem? (i := 1) rfl))) ⟨Nat.le_of_ble_eq_true rfl, Nat.le_of_ble_eq_true rfl⟩) rfl rfl (Nat.le_of_ble_eq_true rfl) dX5_reach_26 ⟨Nat.le_of_ble_eq_true rfl, Nat.le_of_ble_eq_true rfl⟩) (fun r u H locs hp hnz w => ?_)
      obtain ⟨rfl, rfl⟩ := hp
      dsimp only at w
      refine lv_if_eq (tgt := 57) hx hb dX5_reach_29 (by decide) (fun c_29 => ?_) (fun c_29 => ?_)
      · exact g_vret hx hb hr hlk w (Nat.le_of_ble_eq_true rfl) (Nat.le_of_ble_eq_true rfl) dX5_reach_57 ⟨_, ((sX5_reach_u Z v0).trans ((oc_s he2).trans ((if_pos c_14).trans (if_pos c_29)))), rfl, hk⟩
      · refine lv_aload_n hx hb dX5_reach_32 rfl (lv_at hl 0 rfl) ?_
        refine lv_iconst (v := 1) hx hb dX5_reach_33 (by decide) ?_
        refine pf_RX5_85_10 (fs1 := [.ref (x.f (.tp k1)), .int ((Z.th k1).n), .int ((Z.th k1).c), .int ((Z.th k1).z), .int 1]) S hE w (ov_r (t := .th k1) (hk.e (.th k1) rfl)) rfl rfl (Nat.le_of_ble_eq_true rfl) rfl dX5_reach_34 (fun H locs w => ?_)
        have w := g_eqw w (congrArg (fun Z9 => g_up (ov κ ar x Z9 G) (x.f (.th k1)) (.inr (10, [.ref (x.f (.tp k1)), .int ((Z.th k1).n), .int ((Z.th k1).c), .int ((Z.th k1).z), .int 1]))) (thS_id (S := Z) (i := k1)).symm)
        have w : g_S D vwCl (g_A (ov κ ar x Z G) sz) s.heap (ov κ ar x (Z.thS k1 ((Z.th k1).sr 1)) G) H _ sz := g_eqw w (ov_wth (S := Z) (v := (Z.th k1)) (v' := ((Z.th k1).sr 1)) hk.v (hk.e (.th k1) rfl) rfl rfl)
        refine lv_aload_n hx hb dX5_reach_37 rfl (lv_at hl 1 rfl) ?_
        refine gf_RX5_17_11 (v := .ref (x.f .re)) S hE w (ov_r (t := .ts) (hk.e (.ts) rfl)) rfl dX5_reach_38 ?_
        refine lv_aload_n hx hb dX5_reach_41 rfl (lv_at hl 1 rfl) ?_
        refine gf_RX5_24_11 (v := .int Z.rc) S hE w (ov_r (t := .ts) (hk.e (.ts) rfl)) rfl dX5_reach_42 ?_
        refine lv_aload_n hx hb dX5_reach_45 rfl (lv_at hl 0 rfl) ?_
        refine g_astq (r := (RX4, TX4, 5)) hx hb hE.1 w 6 10 (ov_r (t := .re) (hk.e (.re) rfl)) rfl (ov_rth (hk.e (.th k1) rfl)) rfl (vinB (n := 60) rfl (by decide) c_29) dX5_reach_46 (fun H locs w => ?_)
        have w := g_eqw w (congrArg (fun Z9 => g_up (ov κ ar x (Z.thS k1 ((Z.th k1).sr 1)) G) (x.f .re) (.inl (ar 6, 60, .inr (.inr (.inr (.inr Z9)))))) (up_map (g := Z.re) (F := (fun k9 => x.f (.th k9))) (i := (Int32.toNatClampNeg Z.rc)) (e := (some k1))))
        have w : g_S D vwCl (g_A (ov κ ar x Z G) sz) s.heap (ov κ ar x ((Z.sre (updN Z.re (Int32.toNatClampNeg Z.rc) (some k1))).thS k1 ((Z.th k1).sr 1)) G) H _ sz := g_eqw w (ov_wre (S := (Z.thS k1 ((Z.th k1).sr 1))) (T := ((Z.sre (updN Z.re (Int32.toNatClampNeg Z.rc) (some k1))).thS k1 ((Z.th k1).sr 1))) hk.v (hk.e .re rfl) rfl rfl rfl rfl rfl rfl rfl rfl rfl rfl rfl rfl rfl rfl rfl rfl rfl rfl rfl rfl rfl rfl rfl rfl rfl rfl rfl)
        refine lv_aload_n hx hb dX5_reach_47 rfl (lv_at hl 1 rfl) ?_
        refine lv_dup hx hb dX5_reach_48 rfl ?_
        refine gf_RX5_24_11 (v := .int Z.rc) S hE w (ov_r (t := .ts) (hk.e (.ts) rfl)) rfl dX5_reach_49 ?_
        refine lv_iconst (v := 1) hx hb dX5_reach_52 (by decide) ?_
        refine lv_iadd hx hb dX5_reach_53 ?_
        refine pf_RX5_24_11 (fs1 := [.ref (x.f .al), .ref (x.f .re), .int Z.tc, .int (Z.rc + 1), .int Z.mk]) S hE w (ov_r (t := .ts) (hk.e (.ts) rfl)) rfl rfl (Nat.le_of_ble_eq_true rfl) rfl dX5_reach_54 (fun H locs w => ?_)
        have w : g_S D vwCl (g_A (ov κ ar x Z G) sz) s.heap (ov κ ar x (((Z.sre (updN Z.re (Int32.toNatClampNeg Z.rc) (some k1))).src (Z.rc + 1)).thS k1 ((Z.th k1).sr 1)) G) H _ sz := g_eqw w (ov_wts (S := ((Z.sre (updN Z.re (Int32.toNatClampNeg Z.rc) (some k1))).thS k1 ((Z.th k1).sr 1))) (T := (((Z.sre (updN Z.re (Int32.toNatClampNeg Z.rc) (some k1))).src (Z.rc + 1)).thS k1 ((Z.th k1).sr 1))) hk.v (hk.e (.ts) rfl) rfl rfl rfl rfl rfl rfl rfl rfl rfl rfl rfl rfl rfl rfl rfl rfl rfl rfl rfl rfl rfl rfl rfl rfl rfl)
        exact g_vret hx hb hr hlk w (Nat.le_of_ble_eq_true rfl) (Nat.le_of_ble_eq_true rfl) dX5_reach_57 ⟨_, ((sX5_reach_u Z v0).trans ((oc_s he2).trans ((if_pos c_14).trans (if_neg c_29)))), rfl, ((hk.plain (T := ((Z.sre (updN Z.re (Int32.toNatClampNeg Z.rc) (some k1))).src (Z.rc + 1))) rfl rfl rfl rfl rfl rfl rfl).plain (T := (((Z.sre (updN Z.re (Int32.toNatClampNeg Z.rc) (some k1))).src (Z.rc + 1)).thS k1 ((Z.th k1).sr 1))) rfl rfl rfl rfl rfl rfl rfl)⟩
noncomputable def LX5_reachFields_28 (x1 : Int32) (S2 : Ho) : Nat → Int32 → Ho → Ho
  | 0, _, S8 => S8
  | nx7 + 1, x7, S8 => oc (S2.re (Int32.toNatClampNeg x1)) (S8) (fun k13 => if (S8.th k13).z ≤ x7 then (S8) else (vc (sX5_reach S8 (pA ((S8.th k13).p) 8 x7)) (fun T21 => LX5_reachFields_28 x1 S2 nx7 (x7 + 1) T21)))
theorem LX5_reachFields_28_u (x1 : Int32) (S2 : Ho) (nx7 : Nat) (x7 : Int32) (S8 : Ho) : LX5_reachFields_28 x1 S2 (nx7 + 1) x7 S8 = oc (S2.re (Int32.toNatClampNeg x1)) (S8) (fun k13 => if (S8.th k13).z ≤ x7 then (S8) else (vc (sX5_reach S8 (pA ((S8.th k13).p) 8 x7)) (fun T21 => LX5_reachFields_28 x1 S2 nx7 (x7 + 1) T21))) := rfl
noncomputable def LX5_reachFields_2 (Z : Ho) : Nat → Int32 → Ho → Ho
  | 0, _, S2 => S2
  | nx1 + 1, x1, S2 => if 60 ≤ x1 then (S2) else (if S2.rc ≤ x1 then (S2) else (vc (LX5_reachFields_28 x1 S2 FU 0 S2) (fun T10 => LX5_reachFields_2 Z nx1 (x1 + 1) T10)))
theorem LX5_reachFields_2_u (Z : Ho) (nx1 : Nat) (x1 : Int32) (S2 : Ho) : LX5_reachFields_2 Z (nx1 + 1) x1 S2 = if 60 ≤ x1 then (S2) else (if S2.rc ≤ x1 then (S2) else (vc (LX5_reachFields_28 x1 S2 FU 0 S2) (fun T10 => LX5_reachFields_2 Z nx1 (x1 + 1) T10))) := rfl
noncomputable def sX5_reachFields (Z : Ho) : Ho := LX5_reachFields_2 Z 61 0 Z
theorem sX5_reachFields_u (Z : Ho) : sX5_reachFields Z = LX5_reachFields_2 Z 61 0 Z := rfl
set_option maxHeartbeats 4000000 in
set_option maxRecDepth 100000 in
theorem hX5_reachFields (l : Launch) (D : va_G) (ar : Nat → ClassId) (κ : Nat → Nat) (G : gW) (x : Xo) (Z : Ho) (sz : Nat) (hk : OK x Z) : Met l yX5_reachFields (lwC yX5_reachFields cX5_reachFields 4 none) (rD 7 0 0) (g_Pc D vwCl (gT ar) (EX1 κ) (ov κ ar x Z G) sz [.ref (x.f .ts)]) (g_Qv D vwCl (g_A (ov κ ar x Z G) sz) (fun u => ∃ T9 : Ho, sX5_reachFields Z = T9 ∧ u = (ov κ ar x T9 G, sz) ∧ OK x T9)) 0 0 (g_A (ov κ ar x Z G) sz) := by
  refine g_ofW (by decide +kernel) (Nat.le_of_ble_eq_true rfl) ?_
  intro p e s m below meth c ls S hr hlk hin hE w hl
  have hx := S.1
  have hb := S.2.1
  have hl : lv_has ls 4 [(0, .ref (x.f .ts))] := hl
  refine lv_iconst (v := 0) hx hb dX5_reachFields_0 (by decide) ?_
  refine lv_istore_n (lv' := [(1, .int 0), (0, .ref (x.f .ts))]) hx hb dX5_reachFields_1 rfl hl (by decide) rfl (fun ls hl => ?_)
  have key6 : ∀ (nx1 ix1 : Nat), ix1 ≤ 60 → 60 + 1 ≤ ix1 + nx1 → ∀ (x1 : Int32), x1 = nI ix1 → ∀ (S2 : Ho), OK x S2 → sX5_reachFields Z = LX5_reachFields_2 Z nx1 x1 S2 → ∀ (H : Heap) (locs : List Loc) (ls : Array Slot), g_S D vwCl (g_A (ov κ ar x Z G) sz) s.heap (ov κ ar x S2 G) H locs sz → lv_has ls 4 [(1, .int x1), (0, .ref (x.f .ts))] → W p l e (rD 7 0 0) s m ([.ref (x.f .ts)] : List Value).toArray below meth c H locs 0 0 (MQ below (g_Qv D vwCl (g_A (ov κ ar x Z G) sz) (fun u => ∃ T9 : Ho, sX5_reachFields Z = T9 ∧ u = (ov κ ar x T9 G, sz) ∧ OK x T9)) ([.ref (x.f .ts)] : List Value).toArray s 0 0 (g_A (ov κ ar x Z G) sz)) (F0 m 2 ls []) := by
    intro nx1
    induction nx1 with
    | zero => intro ix1 hix1 hi2; exact absurd hi2 (by omega)
    | succ nx1 ihx1 =>
      intro ix1 hix1 hi2 x1 exx1 S2 hk3 hsp5 H locs ls w hl
      refine lv_iload_n hx hb dX5_reachFields_2 rfl (lv_at hl 0 rfl) ?_
      refine lv_aload_n hx hb dX5_reachFields_3 rfl (lv_at hl 1 rfl) ?_
      refine gf_RX5_17_11 (v := .ref (x.f .re)) S hE w (ov_r (t := .ts) (hk3.e (.ts) rfl)) rfl dX5_reachFields_4 ?_
      refine va_alen (v := 60) hx hb hE.1 (g_1 w.1 (ov_r (t := .re) (hk3.e (.re) rfl))) 0 6 rfl rfl rfl dX5_reachFields_7 ?_
      refine lv_icmp_ge (tgt := 64) hx hb dX5_reachFields_8 (by decide) (fun c_8 => ?_) (fun c_8 => ?_)
      · exact g_vret hx hb hr hlk w (Nat.le_of_ble_eq_true rfl) (Nat.le_of_ble_eq_true rfl) dX5_reachFields_64 ⟨_, ((hsp5).trans ((LX5_reachFields_2_u Z nx1 x1 S2).trans (if_pos c_8))), rfl, hk3⟩
      · refine lv_iload_n hx hb dX5_reachFields_11 rfl (lv_at hl 0 rfl) ?_
        refine lv_aload_n hx hb dX5_reachFields_12 rfl (lv_at hl 1 rfl) ?_
        refine gf_RX5_24_11 (v := .int S2.rc) S hE w (ov_r (t := .ts) (hk3.e (.ts) rfl)) rfl dX5_reachFields_13 ?_
        refine lv_icmp_ge (tgt := 64) hx hb dX5_reachFields_16 (by decide) (fun c_16 => ?_) (fun c_16 => ?_)
        · exact g_vret hx hb hr hlk w (Nat.le_of_ble_eq_true rfl) (Nat.le_of_ble_eq_true rfl) dX5_reachFields_64 ⟨_, ((hsp5).trans ((LX5_reachFields_2_u Z nx1 x1 S2).trans ((if_neg c_8).trans (if_pos c_16)))), rfl, hk3⟩
        · refine lv_aload_n hx hb dX5_reachFields_19 rfl (lv_at hl 1 rfl) ?_
          refine gf_RX5_17_11 (v := .ref (x.f .re)) S hE w (ov_r (t := .ts) (hk3.e (.ts) rfl)) rfl dX5_reachFields_20 ?_
          refine lv_iload_n hx hb dX5_reachFields_23 rfl (lv_at hl 0 rfl) ?_
          refine va_aldq hx hb hE.1 (g_1 w.1 (ov_r (t := .re) (hk3.e (.re) rfl))) 0 6 rfl rfl (in_lt (n := 60) rfl exx1 hix1 (by decide) (by decide) c_8) dX5_reachFields_24 ?_
          show W p l e _ s m _ below meth c _ _ _ _ _ (F0 m 25 ls [va_rf ((S2.re (Int32.toNatClampNeg x1)).map (fun k9 => x.f (.th k9)))])
          refine lv_astore_nQ (lv' := [(2, va_rf ((S2.re (Int32.toNatClampNeg x1)).map (fun k9 => x.f (.th k9)))), (1, .int x1), (0, .ref (x.f .ts))]) hx hb dX5_reachFields_25 rfl hl (by decide) rfl (fun ls hl => ?_)
          refine lv_iconst (v := 0) hx hb dX5_reachFields_26 (by decide) ?_
          refine lv_istore_n (lv' := [(3, .int 0), (2, va_rf ((S2.re (Int32.toNatClampNeg x1)).map (fun k9 => x.f (.th k9)))), (1, .int x1), (0, .ref (x.f .ts))]) hx hb dX5_reachFields_27 rfl hl (by decide) (by generalize S2.re (Int32.toNatClampNeg x1) = z9; cases z9 <;> rfl) (fun ls hl => ?_)
          have key12 : ∀ (nx7 ix7 : Nat), ix7 ≤ 2147483647 → 2147483647 + 1 ≤ ix7 + nx7 → ∀ (x7 : Int32), x7 = nI ix7 → ∀ (S8 : Ho), OK x S8 → (LX5_reachFields_28 x1 S2 FU 0 S2) = LX5_reachFields_28 x1 S2 nx7 x7 S8 → ∀ (H : Heap) (locs : List Loc) (ls : Array Slot), g_S D vwCl (g_A (ov κ ar x Z G) sz) s.heap (ov κ ar x S8 G) H locs sz → lv_has ls 4 [(3, .int x7), (2, va_rf ((S2.re (Int32.toNatClampNeg x1)).map (fun k9 => x.f (.th k9)))), (1, .int x1), (0, .ref (x.f .ts))] → W p l e (rD 7 0 0) s m ([.ref (x.f .ts)] : List Value).toArray below meth c H locs 0 0 (MQ below (g_Qv D vwCl (g_A (ov κ ar x Z G) sz) (fun u => ∃ T9 : Ho, sX5_reachFields Z = T9 ∧ u = (ov κ ar x T9 G, sz) ∧ OK x T9)) ([.ref (x.f .ts)] : List Value).toArray s 0 0 (g_A (ov κ ar x Z G) sz)) (F0 m 28 ls []) := by
            intro nx7
            induction nx7 with
            | zero => intro ix7 hix7 hi2; exact absurd hi2 (by omega)
            | succ nx7 ihx7 =>
              intro ix7 hix7 hi2 x7 exx7 S8 hk9 hsp11 H locs ls w hl
              refine lv_aload_nQ hx hb dX5_reachFields_28 rfl (lv_at hl 1 rfl) ?_
              rcases he14 : S2.re (Int32.toNatClampNeg x1) with _ | k13
              · have hl : lv_has ls 4 [(3, .int x7), (2, .null), (1, .int x1), (0, .ref (x.f .ts))] := by rw [he14] at hl; exact hl
                show W p l e _ s m _ below meth c _ _ _ _ _ (F0 m 29 ls [.null])
                refine lv_ifnullN (tgt := 58) hx hb dX5_reachFields_29 (by decide) ?_
                have hx15 : LX5_reachFields_28 x1 S2 FU 0 S2 = S8 := ((hsp11).trans ((LX5_reachFields_28_u x1 S2 nx7 x7 S8).trans (oc_n he14)))
                obtain ⟨T10, eT16⟩ : ∃ T9 : Ho, S8 = T9 := ⟨_, rfl⟩
                rw [eT16] at hx15 w
                have hk17 : OK x T10 := eT16 ▸ hk9
                have hl : lv_has ls 4 [(2, .null), (1, .int x1), (0, .ref (x.f .ts))] := lv_sub hl [1, 2, 3] rfl
                have hl : lv_has ls 4 [(2, va_rf ((S2.re (Int32.toNatClampNeg x1)).map (fun k9 => x.f (.th k9)))), (1, .int x1), (0, .ref (x.f .ts))] := by rw [he14]; exact hl
                refine lv_iinc (v := x1 + 1) (lv' := [(1, .int (x1 + 1)), (2, va_rf ((S2.re (Int32.toNatClampNeg x1)).map (fun k9 => x.f (.th k9)))), (0, .ref (x.f .ts))]) hx hb dX5_reachFields_58 hl (k := 1) rfl rfl (by decide) rfl (fun ls hl => ?_)
                refine lv_goto (tgt := 2) hx hb dX5_reachFields_61 (by decide) ?_
                exact ihx1 (ix1 + 1) (lp_up (n := 60) rfl exx1 hix1 (by decide) (by decide) (by decide) c_8) (by omega) (x1 + 1) (by rw [exx1]; exact nI_1 ix1) T10 hk17 ((hsp5).trans ((LX5_reachFields_2_u Z nx1 x1 S2).trans ((if_neg c_8).trans ((if_neg c_16).trans (vc_e hx15))))) H _ ls w (lv_sub hl [0, 2] rfl)
              · have hl : lv_has ls 4 [(3, .int x7), (2, .ref (x.f (.th k13))), (1, .int x1), (0, .ref (x.f .ts))] := by rw [he14] at hl; exact hl
                show W p l e _ s m _ below meth c _ _ _ _ _ (F0 m 29 ls [.ref (x.f (.th k13))])
                refine lv_ifnull hx hb dX5_reachFields_29 ?_
                refine lv_iload_n hx hb dX5_reachFields_32 rfl (lv_at hl 0 rfl) ?_
                refine lv_aload_n hx hb dX5_reachFields_33 rfl (lv_at hl 1 rfl) ?_
                refine gf_RX5_71_10 (v := .int ((S8.th k13).z)) S hE w (ov_r (t := .th k13) (hk9.e (.th k13) rfl)) rfl dX5_reachFields_34 ?_
                refine lv_icmp_ge (tgt := 58) hx hb dX5_reachFields_37 (by decide) (fun c_37 => ?_) (fun c_37 => ?_)
                · have hx18 : LX5_reachFields_28 x1 S2 FU 0 S2 = S8 := ((hsp11).trans ((LX5_reachFields_28_u x1 S2 nx7 x7 S8).trans ((oc_s he14).trans (if_pos c_37))))
                  obtain ⟨T10, eT19⟩ : ∃ T9 : Ho, S8 = T9 := ⟨_, rfl⟩
                  rw [eT19] at hx18 w
                  have hk20 : OK x T10 := eT19 ▸ hk9
                  have hl : lv_has ls 4 [(2, .ref (x.f (.th k13))), (1, .int x1), (0, .ref (x.f .ts))] := lv_sub hl [1, 2, 3] rfl
                  have hl : lv_has ls 4 [(2, va_rf ((S2.re (Int32.toNatClampNeg x1)).map (fun k9 => x.f (.th k9)))), (1, .int x1), (0, .ref (x.f .ts))] := by rw [he14]; exact hl
                  refine lv_iinc (v := x1 + 1) (lv' := [(1, .int (x1 + 1)), (2, va_rf ((S2.re (Int32.toNatClampNeg x1)).map (fun k9 => x.f (.th k9)))), (0, .ref (x.f .ts))]) hx hb dX5_reachFields_58 hl (k := 1) rfl rfl (by decide) rfl (fun ls hl => ?_)
                  refine lv_goto (tgt := 2) hx hb dX5_reachFields_61 (by decide) ?_
                  exact ihx1 (ix1 + 1) (lp_up (n := 60) rfl exx1 hix1 (by decide) (by decide) (by decide) c_8) (by omega) (x1 + 1) (by rw [exx1]; exact nI_1 ix1) T10 hk20 ((hsp5).trans ((LX5_reachFields_2_u Z nx1 x1 S2).trans ((if_neg c_8).trans ((if_neg c_16).trans (vc_e hx18))))) H _ ls w (lv_sub hl [0, 2] rfl)
                · refine lv_aload_n hx hb dX5_reachFields_40 rfl (lv_at hl 3 rfl) ?_
                  refine lv_aload_n hx hb dX5_reachFields_41 rfl (lv_at hl 1 rfl) ?_
                  refine gf_RX5_74_10 (v := .ref (x.f (.tp k13))) S hE w (ov_r (t := .th k13) (hk9.e (.th k13) rfl)) rfl dX5_reachFields_42 ?_
                  refine lv_iload_n hx hb dX5_reachFields_45 rfl (lv_at hl 0 rfl) ?_
                  refine g_calll w (g_runSN (As := [.ref (x.f (.tp k13)), .int x7]) (rest := [.ref (x.f .ts)]) S hE w hl (c_X8_placeAt l D ar κ (ov κ ar x S8 G) sz (x.f (.tp k13)) x7 8 ((S8.th k13).p) (ov_r (t := .tp k13) (hk9.e (.tp k13) rfl)) (by decide)) (k_RX5_78 S.2.2.2.2 (hE.2.1.1 _ (ckN_1 _ (List.mem_of_getElem? (i := 3) rfl))) ⟨Nat.le_of_ble_eq_true rfl, Nat.le_of_ble_eq_true rfl⟩) rfl rfl (Nat.le_of_ble_eq_true rfl) dX5_reachFields_46 ⟨Nat.le_of_ble_eq_true rfl, Nat.le_of_ble_eq_true rfl⟩) (fun r u H locs hp hnz w => ?_)
                  obtain ⟨rfl, rfl⟩ := hp
                  dsimp only at w
                  refine g_callv w (g_runV (As := [.long (pA ((S8.th k13).p) 8 x7)]) (rest := []) S hE w hl (hX5_reach l D ar κ G x S8 sz (pA ((S8.th k13).p) 8 x7) hk9 ) (k_RX5_88 S.2.2.2.2 ⟨Nat.le_of_ble_eq_true rfl, Nat.le_of_ble_eq_true rfl⟩) (ov_r (t := .ts) (hk9.e (.ts) rfl)) rfl rfl rfl rfl (Nat.le_of_ble_eq_true rfl) dX5_reachFields_49 ⟨Nat.le_of_ble_eq_true rfl, Nat.le_of_ble_eq_true rfl⟩) (fun u H locs hp hnz w => ?_)
                  obtain ⟨T21, e22, hu9, hk23⟩ := hp
                  subst hu9
                  dsimp only at w
                  refine lv_iinc (v := x7 + 1) (lv' := [(3, .int (x7 + 1)), (2, .ref (x.f (.th k13))), (1, .int x1), (0, .ref (x.f .ts))]) hx hb dX5_reachFields_52 hl (k := 0) rfl rfl (by decide) rfl (fun ls hl => ?_)
                  refine lv_goto (tgt := 28) hx hb dX5_reachFields_55 (by decide) ?_
                  have hl : lv_has ls 4 [(3, .int (x7 + 1)), (2, va_rf ((S2.re (Int32.toNatClampNeg x1)).map (fun k9 => x.f (.th k9)))), (1, .int x1), (0, .ref (x.f .ts))] := by rw [he14]; exact hl
                  exact ihx7 (ix7 + 1) (lp_fu exx7 hix7 c_37) (by omega) (x7 + 1) (by rw [exx7]; exact nI_1 ix7) T21 hk23 ((hsp11).trans ((LX5_reachFields_28_u x1 S2 nx7 x7 S8).trans ((oc_s he14).trans ((if_neg c_37).trans (vc_e e22))))) H _ ls w (lv_sub hl [0, 1, 2, 3] rfl)
          exact key12 FU 0 (Nat.zero_le _) (by rw [FU_e]; decide) 0 rfl S2 hk3 rfl _ _ _ w (lv_sub hl [0, 1, 2, 3] rfl)
  exact key6 61 0 (Nat.zero_le _) (by decide) 0 rfl Z hk (sX5_reachFields_u Z) _ _ _ w (lv_sub hl [0, 1] rfl)
def LX5_sweep_9 (Z : Ho) : Nat → Int32 → Int32 → Ho → Int32 × Ho
  | 0, _, _, S2 => (0, S2)
  | nx1 + 1, x1, kpx1, S2 => if Z.tc ≤ x1 then ((Z.tc - kpx1, ((S2.stc kpx1).src 0))) else (if 60 ≤ x1 then ((Z.tc - kpx1, ((S2.stc kpx1).src 0))) else (oc (S2.al (Int32.toNatClampNeg x1)) (LX5_sweep_9 Z nx1 (x1 + 1) kpx1 S2) (fun k8 => if (S2.th k8).r = 0 then (LX5_sweep_9 Z nx1 (x1 + 1) kpx1 S2) else (if x1 < kpx1 then (LX5_sweep_9 Z nx1 (x1 + 1) kpx1 S2) else (oc (S2.al (Int32.toNatClampNeg kpx1)) (vc (((S2.sal (updN (updN S2.al (Int32.toNatClampNeg x1) none) (Int32.toNatClampNeg kpx1) (some k8))).thS k8 ((S2.th k8).sr 0))) (fun T12 => LX5_sweep_9 Z nx1 (x1 + 1) (kpx1 + 1) T12)) (fun k10 => vc ((S2.thS k8 ((S2.th k8).sr 0))) (fun T15 => vc ((T15.sal (updN (updN T15.al (Int32.toNatClampNeg x1) (some k10)) (Int32.toNatClampNeg kpx1) (some k8)))) (fun T18 => LX5_sweep_9 Z nx1 (x1 + 1) (kpx1 + 1) T18))))))))
theorem LX5_sweep_9_u (Z : Ho) (nx1 : Nat) (x1 : Int32) (kpx1 : Int32) (S2 : Ho) : LX5_sweep_9 Z (nx1 + 1) x1 kpx1 S2 = if Z.tc ≤ x1 then ((Z.tc - kpx1, ((S2.stc kpx1).src 0))) else (if 60 ≤ x1 then ((Z.tc - kpx1, ((S2.stc kpx1).src 0))) else (oc (S2.al (Int32.toNatClampNeg x1)) (LX5_sweep_9 Z nx1 (x1 + 1) kpx1 S2) (fun k8 => if (S2.th k8).r = 0 then (LX5_sweep_9 Z nx1 (x1 + 1) kpx1 S2) else (if x1 < kpx1 then (LX5_sweep_9 Z nx1 (x1 + 1) kpx1 S2) else (oc (S2.al (Int32.toNatClampNeg kpx1)) (vc (((S2.sal (updN (updN S2.al (Int32.toNatClampNeg x1) none) (Int32.toNatClampNeg kpx1) (some k8))).thS k8 ((S2.th k8).sr 0))) (fun T12 => LX5_sweep_9 Z nx1 (x1 + 1) (kpx1 + 1) T12)) (fun k10 => vc ((S2.thS k8 ((S2.th k8).sr 0))) (fun T15 => vc ((T15.sal (updN (updN T15.al (Int32.toNatClampNeg x1) (some k10)) (Int32.toNatClampNeg kpx1) (some k8)))) (fun T18 => LX5_sweep_9 Z nx1 (x1 + 1) (kpx1 + 1) T18)))))))) := rfl
def sX5_sweep (Z : Ho) : Int32 × Ho := LX5_sweep_9 Z 61 0 0 Z
theorem sX5_sweep_u (Z : Ho) : sX5_sweep Z = LX5_sweep_9 Z 61 0 0 Z := rfl
set_option maxHeartbeats 4000000 in
set_option maxRecDepth 100000 in
theorem hX5_sweep (l : Launch) (D : va_G) (ar : Nat → ClassId) (κ : Nat → Nat) (G : gW) (x : Xo) (Z : Ho) (sz : Nat) (hk : OK x Z) : Met l yX5_sweep (lwC yX5_sweep cX5_sweep 5 (some .int)) (rD 4 0 0) (g_Pc D vwCl (gT ar) (EX1 κ) (ov κ ar x Z G) sz [.ref (x.f .ts)]) (g_Qi D vwCl (g_A (ov κ ar x Z G) sz) (fun r u => ∃ T9 : Ho, sX5_sweep Z = (r, T9) ∧ u = (ov κ ar x T9 G, sz) ∧ OK x T9)) 0 0 (g_A (ov κ ar x Z G) sz) := by
  refine g_ofW (by decide +kernel) (Nat.le_of_ble_eq_true rfl) ?_
  intro p e s m below meth c ls S hr hlk hin hE w hl
  have hx := S.1
  have hb := S.2.1
  have hl : lv_has ls 5 [(0, .ref (x.f .ts))] := hl
  refine lv_aload_n hx hb dX5_sweep_0 rfl (lv_at hl 0 rfl) ?_
  refine gf_RX5_20_11 (v := .int Z.tc) S hE w (ov_r (t := .ts) (hk.e (.ts) rfl)) rfl dX5_sweep_1 ?_
  refine lv_istore_n (lv' := [(1, .int Z.tc), (0, .ref (x.f .ts))]) hx hb dX5_sweep_4 rfl hl (by decide) rfl (fun ls hl => ?_)
  refine lv_iconst (v := 0) hx hb dX5_sweep_5 (by decide) ?_
  refine lv_istore_n (lv' := [(2, .int 0), (1, .int Z.tc), (0, .ref (x.f .ts))]) hx hb dX5_sweep_6 rfl hl (by decide) rfl (fun ls hl => ?_)
  refine lv_iconst (v := 0) hx hb dX5_sweep_7 (by decide) ?_
  refine lv_istore_n (lv' := [(3, .int 0), (2, .int 0), (1, .int Z.tc), (0, .ref (x.f .ts))]) hx hb dX5_sweep_8 rfl hl (by decide) rfl (fun ls hl => ?_)
  have key6 : ∀ (nx1 ix1 : Nat), ix1 ≤ 60 → 60 + 1 ≤ ix1 + nx1 → ∀ (x1 : Int32), x1 = nI ix1 → ∀ (kpx1 : Int32), (0 ≤ kpx1) → ∀ (S2 : Ho), OK x S2 → sX5_sweep Z = LX5_sweep_9 Z nx1 x1 kpx1 S2 → ∀ (H : Heap) (locs : List Loc) (ls : Array Slot), g_S D vwCl (g_A (ov κ ar x Z G) sz) s.heap (ov κ ar x S2 G) H locs sz → lv_has ls 5 [(3, .int x1), (2, .int kpx1), (1, .int Z.tc), (0, .ref (x.f .ts))] → W p l e (rD 4 0 0) s m ([.ref (x.f .ts)] : List Value).toArray below meth c H locs 0 0 (MQ below (g_Qi D vwCl (g_A (ov κ ar x Z G) sz) (fun r u => ∃ T9 : Ho, sX5_sweep Z = (r, T9) ∧ u = (ov κ ar x T9 G, sz) ∧ OK x T9)) ([.ref (x.f .ts)] : List Value).toArray s 0 0 (g_A (ov κ ar x Z G) sz)) (F0 m 9 ls []) := by
    intro nx1
    induction nx1 with
    | zero => intro ix1 hix1 hi2; exact absurd hi2 (by omega)
    | succ nx1 ihx1 =>
      intro ix1 hix1 hi2 x1 exx1 kpx1 hinv7 S2 hk3 hsp5 H locs ls w hl
      refine lv_iload_n hx hb dX5_sweep_9 rfl (lv_at hl 0 rfl) ?_
      refine lv_iload_n hx hb dX5_sweep_10 rfl (lv_at hl 2 rfl) ?_
      refine lv_icmp_ge (tgt := 84) hx hb dX5_sweep_11 (by decide) (fun c_11 => ?_) (fun c_11 => ?_)
      · refine lv_aload_n hx hb dX5_sweep_84 rfl (lv_at hl 3 rfl) ?_
        refine lv_iload_n hx hb dX5_sweep_85 rfl (lv_at hl 1 rfl) ?_
        refine pf_RX5_20_11 (fs1 := [.ref (x.f .al), .ref (x.f .re), .int kpx1, .int S2.rc, .int S2.mk]) S hE w (ov_r (t := .ts) (hk3.e (.ts) rfl)) rfl rfl (Nat.le_of_ble_eq_true rfl) rfl dX5_sweep_86 (fun H locs w => ?_)
        have w : g_S D vwCl (g_A (ov κ ar x Z G) sz) s.heap (ov κ ar x (S2.stc kpx1) G) H _ sz := g_eqw w (ov_wts (S := S2) (T := (S2.stc kpx1)) hk3.v (hk3.e (.ts) rfl) rfl rfl rfl rfl rfl rfl rfl rfl rfl rfl rfl rfl rfl rfl rfl rfl rfl rfl rfl rfl rfl rfl rfl rfl rfl)
        refine lv_aload_n hx hb dX5_sweep_89 rfl (lv_at hl 3 rfl) ?_
        refine lv_iconst (v := 0) hx hb dX5_sweep_90 (by decide) ?_
        refine pf_RX5_24_11 (fs1 := [.ref (x.f .al), .ref (x.f .re), .int kpx1, .int 0, .int S2.mk]) S hE w (ov_r (t := .ts) (hk3.e (.ts) rfl)) rfl rfl (Nat.le_of_ble_eq_true rfl) rfl dX5_sweep_91 (fun H locs w => ?_)
        have w : g_S D vwCl (g_A (ov κ ar x Z G) sz) s.heap (ov κ ar x ((S2.stc kpx1).src 0) G) H _ sz := g_eqw w (ov_wts (S := (S2.stc kpx1)) (T := ((S2.stc kpx1).src 0)) hk3.v (hk3.e (.ts) rfl) rfl rfl rfl rfl rfl rfl rfl rfl rfl rfl rfl rfl rfl rfl rfl rfl rfl rfl rfl rfl rfl rfl rfl rfl rfl)
        refine lv_iload_n hx hb dX5_sweep_94 rfl (lv_at hl 2 rfl) ?_
        refine lv_iload_n hx hb dX5_sweep_95 rfl (lv_at hl 1 rfl) ?_
        refine lv_isub hx hb dX5_sweep_96 ?_
        exact g_iret hx hb hr hlk w (Nat.le_of_ble_eq_true rfl) (Nat.le_of_ble_eq_true rfl) dX5_sweep_97 ⟨_, ((hsp5).trans ((LX5_sweep_9_u Z nx1 x1 kpx1 S2).trans (if_pos c_11))), rfl, (hk3.plain (T := ((S2.stc kpx1).src 0)) rfl rfl rfl rfl rfl rfl rfl)⟩
      · refine lv_iload_n hx hb dX5_sweep_14 rfl (lv_at hl 0 rfl) ?_
        refine lv_aload_n hx hb dX5_sweep_15 rfl (lv_at hl 3 rfl) ?_
        refine gf_RX5_11_11 (v := .ref (x.f .al)) S hE w (ov_r (t := .ts) (hk3.e (.ts) rfl)) rfl dX5_sweep_16 ?_
        refine va_alen (v := 60) hx hb hE.1 (g_1 w.1 (ov_r (t := .al) (hk3.e (.al) rfl))) 0 6 rfl rfl rfl dX5_sweep_19 ?_
        refine lv_icmp_ge (tgt := 84) hx hb dX5_sweep_20 (by decide) (fun c_20 => ?_) (fun c_20 => ?_)
        · refine lv_aload_n hx hb dX5_sweep_84 rfl (lv_at hl 3 rfl) ?_
          refine lv_iload_n hx hb dX5_sweep_85 rfl (lv_at hl 1 rfl) ?_
          refine pf_RX5_20_11 (fs1 := [.ref (x.f .al), .ref (x.f .re), .int kpx1, .int S2.rc, .int S2.mk]) S hE w (ov_r (t := .ts) (hk3.e (.ts) rfl)) rfl rfl (Nat.le_of_ble_eq_true rfl) rfl dX5_sweep_86 (fun H locs w => ?_)
          have w : g_S D vwCl (g_A (ov κ ar x Z G) sz) s.heap (ov κ ar x (S2.stc kpx1) G) H _ sz := g_eqw w (ov_wts (S := S2) (T := (S2.stc kpx1)) hk3.v (hk3.e (.ts) rfl) rfl rfl rfl rfl rfl rfl rfl rfl rfl rfl rfl rfl rfl rfl rfl rfl rfl rfl rfl rfl rfl rfl rfl rfl rfl)
          refine lv_aload_n hx hb dX5_sweep_89 rfl (lv_at hl 3 rfl) ?_
          refine lv_iconst (v := 0) hx hb dX5_sweep_90 (by decide) ?_
          refine pf_RX5_24_11 (fs1 := [.ref (x.f .al), .ref (x.f .re), .int kpx1, .int 0, .int S2.mk]) S hE w (ov_r (t := .ts) (hk3.e (.ts) rfl)) rfl rfl (Nat.le_of_ble_eq_true rfl) rfl dX5_sweep_91 (fun H locs w => ?_)
          have w : g_S D vwCl (g_A (ov κ ar x Z G) sz) s.heap (ov κ ar x ((S2.stc kpx1).src 0) G) H _ sz := g_eqw w (ov_wts (S := (S2.stc kpx1)) (T := ((S2.stc kpx1).src 0)) hk3.v (hk3.e (.ts) rfl) rfl rfl rfl rfl rfl rfl rfl rfl rfl rfl rfl rfl rfl rfl rfl rfl rfl rfl rfl rfl rfl rfl rfl rfl rfl)
          refine lv_iload_n hx hb dX5_sweep_94 rfl (lv_at hl 2 rfl) ?_
          refine lv_iload_n hx hb dX5_sweep_95 rfl (lv_at hl 1 rfl) ?_
          refine lv_isub hx hb dX5_sweep_96 ?_
          exact g_iret hx hb hr hlk w (Nat.le_of_ble_eq_true rfl) (Nat.le_of_ble_eq_true rfl) dX5_sweep_97 ⟨_, ((hsp5).trans ((LX5_sweep_9_u Z nx1 x1 kpx1 S2).trans ((if_neg c_11).trans (if_pos c_20)))), rfl, (hk3.plain (T := ((S2.stc kpx1).src 0)) rfl rfl rfl rfl rfl rfl rfl)⟩
        · refine lv_aload_n hx hb dX5_sweep_23 rfl (lv_at hl 3 rfl) ?_
          refine gf_RX5_11_11 (v := .ref (x.f .al)) S hE w (ov_r (t := .ts) (hk3.e (.ts) rfl)) rfl dX5_sweep_24 ?_
          refine lv_iload_n hx hb dX5_sweep_27 rfl (lv_at hl 0 rfl) ?_
          refine va_aldq hx hb hE.1 (g_1 w.1 (ov_r (t := .al) (hk3.e (.al) rfl))) 0 6 rfl rfl (in_lt (n := 60) rfl exx1 hix1 (by decide) (by decide) c_20) dX5_sweep_28 ?_
          show W p l e _ s m _ below meth c _ _ _ _ _ (F0 m 29 ls [va_rf ((S2.al (Int32.toNatClampNeg x1)).map (fun k9 => x.f (.th k9)))])
          refine lv_astoreQ (lv' := [(4, va_rf ((S2.al (Int32.toNatClampNeg x1)).map (fun k9 => x.f (.th k9)))), (3, .int x1), (2, .int kpx1), (1, .int Z.tc), (0, .ref (x.f .ts))]) hx hb dX5_sweep_29 hl (by decide) rfl (fun ls hl => ?_)
          refine lv_aloadQ hx hb dX5_sweep_31 (lv_at hl 0 rfl) ?_
          rcases he9 : S2.al (Int32.toNatClampNeg x1) with _ | k8
          · have hl : lv_has ls 5 [(4, .null), (3, .int x1), (2, .int kpx1), (1, .int Z.tc), (0, .ref (x.f .ts))] := by rw [he9] at hl; exact hl
            show W p l e _ s m _ below meth c _ _ _ _ _ (F0 m 33 ls [.null])
            refine lv_ifnullN (tgt := 78) hx hb dX5_sweep_33 (by decide) ?_
            refine lv_iinc (v := x1 + 1) (lv' := [(3, .int (x1 + 1)), (4, .null), (2, .int kpx1), (1, .int Z.tc), (0, .ref (x.f .ts))]) hx hb dX5_sweep_78 hl (k := 1) rfl rfl (by decide) rfl (fun ls hl => ?_)
            refine lv_goto (tgt := 9) hx hb dX5_sweep_81 (by decide) ?_
            exact ihx1 (ix1 + 1) (lp_up (n := 60) rfl exx1 hix1 (by decide) (by decide) (by decide) c_20) (by omega) (x1 + 1) (by rw [exx1]; exact nI_1 ix1) kpx1 hinv7 S2 hk3 ((hsp5).trans ((LX5_sweep_9_u Z nx1 x1 kpx1 S2).trans ((if_neg c_11).trans ((if_neg c_20).trans (oc_n he9))))) H _ ls w (lv_sub hl [0, 2, 3, 4] rfl)
          · have hl : lv_has ls 5 [(4, .ref (x.f (.th k8))), (3, .int x1), (2, .int kpx1), (1, .int Z.tc), (0, .ref (x.f .ts))] := by rw [he9] at hl; exact hl
            show W p l e _ s m _ below meth c _ _ _ _ _ (F0 m 33 ls [.ref (x.f (.th k8))])
            refine lv_ifnull hx hb dX5_sweep_33 ?_
            refine lv_aload hx hb dX5_sweep_36 (lv_at hl 0 rfl) ?_
            refine gf_RX5_85_10 (v := .int ((S2.th k8).r)) S hE w (ov_r (t := .th k8) (hk3.e (.th k8) rfl)) rfl dX5_sweep_38 ?_
            refine lv_if_eq (tgt := 78) hx hb dX5_sweep_41 (by decide) (fun c_41 => ?_) (fun c_41 => ?_)
            · refine lv_iinc (v := x1 + 1) (lv' := [(3, .int (x1 + 1)), (4, .ref (x.f (.th k8))), (2, .int kpx1), (1, .int Z.tc), (0, .ref (x.f .ts))]) hx hb dX5_sweep_78 hl (k := 1) rfl rfl (by decide) rfl (fun ls hl => ?_)
              refine lv_goto (tgt := 9) hx hb dX5_sweep_81 (by decide) ?_
              exact ihx1 (ix1 + 1) (lp_up (n := 60) rfl exx1 hix1 (by decide) (by decide) (by decide) c_20) (by omega) (x1 + 1) (by rw [exx1]; exact nI_1 ix1) kpx1 hinv7 S2 hk3 ((hsp5).trans ((LX5_sweep_9_u Z nx1 x1 kpx1 S2).trans ((if_neg c_11).trans ((if_neg c_20).trans ((oc_s he9).trans (if_pos c_41)))))) H _ ls w (lv_sub hl [0, 2, 3, 4] rfl)
            · refine lv_iload_n hx hb dX5_sweep_44 rfl (lv_at hl 2 rfl) ?_
              refine lv_iload_n hx hb dX5_sweep_45 rfl (lv_at hl 1 rfl) ?_
              refine lv_icmp_gt (tgt := 78) hx hb dX5_sweep_46 (by decide) (fun c_46 => ?_) (fun c_46 => ?_)
              · refine lv_iinc (v := x1 + 1) (lv' := [(3, .int (x1 + 1)), (4, .ref (x.f (.th k8))), (2, .int kpx1), (1, .int Z.tc), (0, .ref (x.f .ts))]) hx hb dX5_sweep_78 hl (k := 1) rfl rfl (by decide) rfl (fun ls hl => ?_)
                refine lv_goto (tgt := 9) hx hb dX5_sweep_81 (by decide) ?_
                exact ihx1 (ix1 + 1) (lp_up (n := 60) rfl exx1 hix1 (by decide) (by decide) (by decide) c_20) (by omega) (x1 + 1) (by rw [exx1]; exact nI_1 ix1) kpx1 hinv7 S2 hk3 ((hsp5).trans ((LX5_sweep_9_u Z nx1 x1 kpx1 S2).trans ((if_neg c_11).trans ((if_neg c_20).trans ((oc_s he9).trans ((if_neg c_41).trans (if_pos c_46))))))) H _ ls w (lv_sub hl [0, 2, 3, 4] rfl)
              · refine lv_aload hx hb dX5_sweep_49 (lv_at hl 0 rfl) ?_
                refine lv_iconst (v := 0) hx hb dX5_sweep_51 (by decide) ?_
                refine pf_RX5_85_10 (fs1 := [.ref (x.f (.tp k8)), .int ((S2.th k8).n), .int ((S2.th k8).c), .int ((S2.th k8).z), .int 0]) S hE w (ov_r (t := .th k8) (hk3.e (.th k8) rfl)) rfl rfl (Nat.le_of_ble_eq_true rfl) rfl dX5_sweep_52 (fun H locs w => ?_)
                have w := g_eqw w (congrArg (fun Z9 => g_up (ov κ ar x Z9 G) (x.f (.th k8)) (.inr (10, [.ref (x.f (.tp k8)), .int ((S2.th k8).n), .int ((S2.th k8).c), .int ((S2.th k8).z), .int 0]))) (thS_id (S := S2) (i := k8)).symm)
                have w : g_S D vwCl (g_A (ov κ ar x Z G) sz) s.heap (ov κ ar x (S2.thS k8 ((S2.th k8).sr 0)) G) H _ sz := g_eqw w (ov_wth (S := S2) (v := (S2.th k8)) (v' := ((S2.th k8).sr 0)) hk3.v (hk3.e (.th k8) rfl) rfl rfl)
                refine lv_aload_n hx hb dX5_sweep_55 rfl (lv_at hl 4 rfl) ?_
                refine gf_RX5_11_11 (v := .ref (x.f .al)) S hE w (ov_r (t := .ts) (hk3.e (.ts) rfl)) rfl dX5_sweep_56 ?_
                refine lv_iload_n hx hb dX5_sweep_59 rfl (lv_at hl 1 rfl) ?_
                refine lv_aload_n hx hb dX5_sweep_60 rfl (lv_at hl 4 rfl) ?_
                refine gf_RX5_11_11 (v := .ref (x.f .al)) S hE w (ov_r (t := .ts) (hk3.e (.ts) rfl)) rfl dX5_sweep_61 ?_
                refine lv_iload_n hx hb dX5_sweep_64 rfl (lv_at hl 2 rfl) ?_
                refine va_aldq hx hb hE.1 (g_1 w.1 (ov_r (t := .al) (hk3.e (.al) rfl))) 0 6 rfl rfl (kp_in rfl exx1 hix1 c_20 hinv7 c_46) dX5_sweep_65 ?_
                show W p l e _ s m _ below meth c _ _ _ _ _ (F0 m 66 ls [va_rf ((S2.al (Int32.toNatClampNeg kpx1)).map (fun k9 => x.f (.th k9))), .int x1, .ref (x.f .al)])
                rcases he11 : S2.al (Int32.toNatClampNeg kpx1) with _ | k10
                · show W p l e _ s m _ below meth c _ _ _ _ _ (F0 m 66 ls [.null, .int x1, .ref (x.f .al)])
                  refine g_astqN hx hb hE.1 w 6 (ov_r (t := .al) (hk3.e (.al) rfl)) rfl (in_lt (n := 60) rfl exx1 hix1 (by decide) (by decide) c_20) dX5_sweep_66 (fun H locs w => ?_)
                  have w := g_eqw w (congrArg (fun Z9 => g_up (ov κ ar x (S2.thS k8 ((S2.th k8).sr 0)) G) (x.f .al) (.inl (ar 6, 60, .inr (.inr (.inr (.inr Z9)))))) (up_map (g := S2.al) (F := (fun k9 => x.f (.th k9))) (i := (Int32.toNatClampNeg x1)) (e := none)))
                  have w : g_S D vwCl (g_A (ov κ ar x Z G) sz) s.heap (ov κ ar x ((S2.sal (updN S2.al (Int32.toNatClampNeg x1) none)).thS k8 ((S2.th k8).sr 0)) G) H _ sz := g_eqw w (ov_wal (S := (S2.thS k8 ((S2.th k8).sr 0))) (T := ((S2.sal (updN S2.al (Int32.toNatClampNeg x1) none)).thS k8 ((S2.th k8).sr 0))) hk3.v (hk3.e .al rfl) rfl rfl rfl rfl rfl rfl rfl rfl rfl rfl rfl rfl rfl rfl rfl rfl rfl rfl rfl rfl rfl rfl rfl rfl rfl rfl rfl)
                  refine lv_aload_n hx hb dX5_sweep_67 rfl (lv_at hl 4 rfl) ?_
                  refine gf_RX5_11_11 (v := .ref (x.f .al)) S hE w (ov_r (t := .ts) (hk3.e (.ts) rfl)) rfl dX5_sweep_68 ?_
                  refine lv_iload_n hx hb dX5_sweep_71 rfl (lv_at hl 2 rfl) ?_
                  refine lv_aload hx hb dX5_sweep_72 (lv_at hl 0 rfl) ?_
                  refine g_astq (r := (RX4, TX4, 5)) hx hb hE.1 w 6 10 (ov_r (t := .al) (hk3.e (.al) rfl)) rfl (ov_rth (hk3.e (.th k8) rfl)) rfl (kp_in rfl exx1 hix1 c_20 hinv7 c_46) dX5_sweep_74 (fun H locs w => ?_)
                  have w := g_eqw w (congrArg (fun Z9 => g_up (ov κ ar x ((S2.sal (updN S2.al (Int32.toNatClampNeg x1) none)).thS k8 ((S2.th k8).sr 0)) G) (x.f .al) (.inl (ar 6, 60, .inr (.inr (.inr (.inr Z9)))))) (up_map (g := (updN S2.al (Int32.toNatClampNeg x1) none)) (F := (fun k9 => x.f (.th k9))) (i := (Int32.toNatClampNeg kpx1)) (e := (some k8))))
                  have w : g_S D vwCl (g_A (ov κ ar x Z G) sz) s.heap (ov κ ar x ((S2.sal (updN (updN S2.al (Int32.toNatClampNeg x1) none) (Int32.toNatClampNeg kpx1) (some k8))).thS k8 ((S2.th k8).sr 0)) G) H _ sz := g_eqw w (ov_wal (S := ((S2.sal (updN S2.al (Int32.toNatClampNeg x1) none)).thS k8 ((S2.th k8).sr 0))) (T := ((S2.sal (updN (updN S2.al (Int32.toNatClampNeg x1) none) (Int32.toNatClampNeg kpx1) (some k8))).thS k8 ((S2.th k8).sr 0))) hk3.v (hk3.e .al rfl) rfl rfl rfl rfl rfl rfl rfl rfl rfl rfl rfl rfl rfl rfl rfl rfl rfl rfl rfl rfl rfl rfl rfl rfl rfl rfl rfl)
                  refine lv_iinc (v := kpx1 + 1) (lv' := [(2, .int (kpx1 + 1)), (4, .ref (x.f (.th k8))), (3, .int x1), (1, .int Z.tc), (0, .ref (x.f .ts))]) hx hb dX5_sweep_75 hl (k := 2) rfl rfl (by decide) rfl (fun ls hl => ?_)
                  refine lv_iinc (v := x1 + 1) (lv' := [(3, .int (x1 + 1)), (2, .int (kpx1 + 1)), (4, .ref (x.f (.th k8))), (1, .int Z.tc), (0, .ref (x.f .ts))]) hx hb dX5_sweep_78 hl (k := 2) rfl rfl (by decide) rfl (fun ls hl => ?_)
                  refine lv_goto (tgt := 9) hx hb dX5_sweep_81 (by decide) ?_
                  have hk140 : OK x ((S2.sal (updN (updN S2.al (Int32.toNatClampNeg x1) none) (Int32.toNatClampNeg kpx1) (some k8))).thS k8 ((S2.th k8).sr 0)) := ((hk3.plain (T := (S2.sal (updN (updN S2.al (Int32.toNatClampNeg x1) none) (Int32.toNatClampNeg kpx1) (some k8)))) rfl rfl rfl rfl rfl rfl rfl).plain (T := ((S2.sal (updN (updN S2.al (Int32.toNatClampNeg x1) none) (Int32.toNatClampNeg kpx1) (some k8))).thS k8 ((S2.th k8).sr 0))) rfl rfl rfl rfl rfl rfl rfl)
                  obtain ⟨T12, eT13⟩ : ∃ T9 : Ho, ((S2.sal (updN (updN S2.al (Int32.toNatClampNeg x1) none) (Int32.toNatClampNeg kpx1) (some k8))).thS k8 ((S2.th k8).sr 0)) = T9 := ⟨_, rfl⟩
                  have hk14 : OK x T12 := eT13 ▸ hk140
                  have w := g_eqw w (congrArg (fun Z9 => ov κ ar x Z9 G) eT13)
                  exact ihx1 (ix1 + 1) (lp_up (n := 60) rfl exx1 hix1 (by decide) (by decide) (by decide) c_20) (by omega) (x1 + 1) (by rw [exx1]; exact nI_1 ix1) (kpx1 + 1) (kp_up rfl exx1 hix1 c_20 hinv7 c_46) T12 hk14 ((hsp5).trans ((LX5_sweep_9_u Z nx1 x1 kpx1 S2).trans ((if_neg c_11).trans ((if_neg c_20).trans ((oc_s he9).trans ((if_neg c_41).trans ((if_neg c_46).trans ((oc_n he11).trans (vc_e eT13))))))))) H _ ls w (lv_sub hl [0, 1, 3, 4] rfl)
                · show W p l e _ s m _ below meth c _ _ _ _ _ (F0 m 66 ls [.ref (x.f (.th k10)), .int x1, .ref (x.f .al)])
                  have hk170 : OK x (S2.thS k8 ((S2.th k8).sr 0)) := (hk3.plain (T := (S2.thS k8 ((S2.th k8).sr 0))) rfl rfl rfl rfl rfl rfl rfl)
                  obtain ⟨T15, eT16⟩ : ∃ T9 : Ho, (S2.thS k8 ((S2.th k8).sr 0)) = T9 := ⟨_, rfl⟩
                  have hk17 : OK x T15 := eT16 ▸ hk170
                  have w := g_eqw w (congrArg (fun Z9 => ov κ ar x Z9 G) eT16)
                  refine g_astq (r := (RX4, TX4, 5)) hx hb hE.1 w 6 10 (ov_r (t := .al) (hk17.e (.al) rfl)) rfl (ov_r (t := .th k10) (hk17.e (.th k10) rfl)) rfl (in_lt (n := 60) rfl exx1 hix1 (by decide) (by decide) c_20) dX5_sweep_66 (fun H locs w => ?_)
                  have w := g_eqw w (congrArg (fun Z9 => g_up (ov κ ar x T15 G) (x.f .al) (.inl (ar 6, 60, .inr (.inr (.inr (.inr Z9)))))) (up_map (g := T15.al) (F := (fun k9 => x.f (.th k9))) (i := (Int32.toNatClampNeg x1)) (e := (some k10))))
                  have w : g_S D vwCl (g_A (ov κ ar x Z G) sz) s.heap (ov κ ar x (T15.sal (updN T15.al (Int32.toNatClampNeg x1) (some k10))) G) H _ sz := g_eqw w (ov_wal (S := T15) (T := (T15.sal (updN T15.al (Int32.toNatClampNeg x1) (some k10)))) hk17.v (hk17.e .al rfl) rfl rfl rfl rfl rfl rfl rfl rfl rfl rfl rfl rfl rfl rfl rfl rfl rfl rfl rfl rfl rfl rfl rfl rfl rfl rfl rfl)
                  refine lv_aload_n hx hb dX5_sweep_67 rfl (lv_at hl 4 rfl) ?_
                  refine gf_RX5_11_11 (v := .ref (x.f .al)) S hE w (ov_r (t := .ts) (hk17.e (.ts) rfl)) rfl dX5_sweep_68 ?_
                  refine lv_iload_n hx hb dX5_sweep_71 rfl (lv_at hl 2 rfl) ?_
                  refine lv_aload hx hb dX5_sweep_72 (lv_at hl 0 rfl) ?_
                  refine g_astq (r := (RX4, TX4, 5)) hx hb hE.1 w 6 10 (ov_r (t := .al) (hk17.e (.al) rfl)) rfl (ov_r (t := .th k8) (hk17.e (.th k8) rfl)) rfl (kp_in rfl exx1 hix1 c_20 hinv7 c_46) dX5_sweep_74 (fun H locs w => ?_)
                  have w := g_eqw w (congrArg (fun Z9 => g_up (ov κ ar x (T15.sal (updN T15.al (Int32.toNatClampNeg x1) (some k10))) G) (x.f .al) (.inl (ar 6, 60, .inr (.inr (.inr (.inr Z9)))))) (up_map (g := (updN T15.al (Int32.toNatClampNeg x1) (some k10))) (F := (fun k9 => x.f (.th k9))) (i := (Int32.toNatClampNeg kpx1)) (e := (some k8))))
                  have w : g_S D vwCl (g_A (ov κ ar x Z G) sz) s.heap (ov κ ar x (T15.sal (updN (updN T15.al (Int32.toNatClampNeg x1) (some k10)) (Int32.toNatClampNeg kpx1) (some k8))) G) H _ sz := g_eqw w (ov_wal (S := (T15.sal (updN T15.al (Int32.toNatClampNeg x1) (some k10)))) (T := (T15.sal (updN (updN T15.al (Int32.toNatClampNeg x1) (some k10)) (Int32.toNatClampNeg kpx1) (some k8)))) hk17.v (hk17.e .al rfl) rfl rfl rfl rfl rfl rfl rfl rfl rfl rfl rfl rfl rfl rfl rfl rfl rfl rfl rfl rfl rfl rfl rfl rfl rfl rfl rfl)
                  refine lv_iinc (v := kpx1 + 1) (lv' := [(2, .int (kpx1 + 1)), (4, .ref (x.f (.th k8))), (3, .int x1), (1, .int Z.tc), (0, .ref (x.f .ts))]) hx hb dX5_sweep_75 hl (k := 2) rfl rfl (by decide) rfl (fun ls hl => ?_)
                  refine lv_iinc (v := x1 + 1) (lv' := [(3, .int (x1 + 1)), (2, .int (kpx1 + 1)), (4, .ref (x.f (.th k8))), (1, .int Z.tc), (0, .ref (x.f .ts))]) hx hb dX5_sweep_78 hl (k := 2) rfl rfl (by decide) rfl (fun ls hl => ?_)
                  refine lv_goto (tgt := 9) hx hb dX5_sweep_81 (by decide) ?_
                  have hk200 : OK x (T15.sal (updN (updN T15.al (Int32.toNatClampNeg x1) (some k10)) (Int32.toNatClampNeg kpx1) (some k8))) := (hk17.plain (T := (T15.sal (updN (updN T15.al (Int32.toNatClampNeg x1) (some k10)) (Int32.toNatClampNeg kpx1) (some k8)))) rfl rfl rfl rfl rfl rfl rfl)
                  obtain ⟨T18, eT19⟩ : ∃ T9 : Ho, (T15.sal (updN (updN T15.al (Int32.toNatClampNeg x1) (some k10)) (Int32.toNatClampNeg kpx1) (some k8))) = T9 := ⟨_, rfl⟩
                  have hk20 : OK x T18 := eT19 ▸ hk200
                  have w := g_eqw w (congrArg (fun Z9 => ov κ ar x Z9 G) eT19)
                  exact ihx1 (ix1 + 1) (lp_up (n := 60) rfl exx1 hix1 (by decide) (by decide) (by decide) c_20) (by omega) (x1 + 1) (by rw [exx1]; exact nI_1 ix1) (kpx1 + 1) (kp_up rfl exx1 hix1 c_20 hinv7 c_46) T18 hk20 ((hsp5).trans ((LX5_sweep_9_u Z nx1 x1 kpx1 S2).trans ((if_neg c_11).trans ((if_neg c_20).trans ((oc_s he9).trans ((if_neg c_41).trans ((if_neg c_46).trans ((oc_s he11).trans ((vc_e eT16).trans (vc_e eT19)))))))))) H _ ls w (lv_sub hl [0, 1, 3, 4] rfl)
  exact key6 61 0 (Nat.zero_le _) (by decide) 0 rfl 0 (by decide) Z hk (sX5_sweep_u Z) _ _ _ w (lv_sub hl [0, 1, 2, 3] rfl)
end
