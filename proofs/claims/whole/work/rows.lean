section
-- ===== PART A: goes FIRST, ahead of the names: the tables' words, and 'selects' of the private methods out of them =====
/-- a private method of a class that the tables say can be made, by its rows of tables_1 -/
def lw_okq (q : MethodName × Nat) : Prop := (q.1.cls ≠ "java/lang/invoke/MethodHandle" ∧ q.1.cls ≠ "java/lang/invoke/VarHandle") ∧ Cond.instantiable q.1.cls q.2 ∈ tables_1 ∧ Cond.privateMethod q.1 ∈ tables_1 ∧ Cond.instanceMethod q.1 ∈ tables_1
theorem lw_p0 : lw_okq (⟨"ChainLedger$Sha", "load", "([BIII)V"⟩, 2) := ⟨⟨by decide +kernel, by decide +kernel⟩, List.mem_of_getElem? (i := 51) (by decide +kernel), List.mem_of_getElem? (i := 531) (by decide +kernel), List.mem_of_getElem? (i := 532) (by decide +kernel)⟩
theorem lw_p1 : lw_okq (⟨"ChainLedger$Sha", "mix", "()V"⟩, 2) := ⟨⟨by decide +kernel, by decide +kernel⟩, List.mem_of_getElem? (i := 51) (by decide +kernel), List.mem_of_getElem? (i := 535) (by decide +kernel), List.mem_of_getElem? (i := 536) (by decide +kernel)⟩
theorem lw_p2 : lw_okq (⟨"ChainLedger$Block", "readPayments", "(LChainLedger$Sha;)Z"⟩, 17) := ⟨⟨by decide +kernel, by decide +kernel⟩, List.mem_of_getElem? (i := 181) (by decide +kernel), List.mem_of_getElem? (i := 545) (by decide +kernel), List.mem_of_getElem? (i := 546) (by decide +kernel)⟩
theorem lw_p3 : lw_okq (⟨"ChainLedger$Payment", "readInputs", "(II)I"⟩, 16) := ⟨⟨by decide +kernel, by decide +kernel⟩, List.mem_of_getElem? (i := 359) (by decide +kernel), List.mem_of_getElem? (i := 555) (by decide +kernel), List.mem_of_getElem? (i := 556) (by decide +kernel)⟩
theorem lw_p4 : lw_okq (⟨"ChainLedger$Payment", "behindScript", "(II)I"⟩, 16) := ⟨⟨by decide +kernel, by decide +kernel⟩, List.mem_of_getElem? (i := 359) (by decide +kernel), List.mem_of_getElem? (i := 559) (by decide +kernel), List.mem_of_getElem? (i := 560) (by decide +kernel)⟩
theorem lw_p5 : lw_okq (⟨"ChainLedger$Payment", "readOutputs", "(II)I"⟩, 16) := ⟨⟨by decide +kernel, by decide +kernel⟩, List.mem_of_getElem? (i := 359) (by decide +kernel), List.mem_of_getElem? (i := 563) (by decide +kernel), List.mem_of_getElem? (i := 564) (by decide +kernel)⟩
theorem lw_p6 : lw_okq (⟨"ChainLedger$Block", "idsDiffer", "()Z"⟩, 17) := ⟨⟨by decide +kernel, by decide +kernel⟩, List.mem_of_getElem? (i := 181) (by decide +kernel), List.mem_of_getElem? (i := 567) (by decide +kernel), List.mem_of_getElem? (i := 568) (by decide +kernel)⟩
theorem lw_p7 : lw_okq (⟨"ChainLedger$Block", "rootFits", "(LChainLedger$Sha;[B)Z"⟩, 17) := ⟨⟨by decide +kernel, by decide +kernel⟩, List.mem_of_getElem? (i := 181) (by decide +kernel), List.mem_of_getElem? (i := 574) (by decide +kernel), List.mem_of_getElem? (i := 575) (by decide +kernel)⟩
theorem lw_p8 : lw_okq (⟨"ChainLedger$Chain", "findStored", "([B)LChainLedger$Block;"⟩, 17) := ⟨⟨by decide +kernel, by decide +kernel⟩, List.mem_of_getElem? (i := 132) (by decide +kernel), List.mem_of_getElem? (i := 584) (by decide +kernel), List.mem_of_getElem? (i := 585) (by decide +kernel)⟩
theorem lw_p9 : lw_okq (⟨"ChainLedger$Chain", "isHeld", "([B)Z"⟩, 17) := ⟨⟨by decide +kernel, by decide +kernel⟩, List.mem_of_getElem? (i := 132) (by decide +kernel), List.mem_of_getElem? (i := 589) (by decide +kernel), List.mem_of_getElem? (i := 590) (by decide +kernel)⟩
theorem lw_p10 : lw_okq (⟨"ChainLedger$Chain", "followsRules", "(LChainLedger$Block;LChainLedger$Block;)Z"⟩, 17) := ⟨⟨by decide +kernel, by decide +kernel⟩, List.mem_of_getElem? (i := 132) (by decide +kernel), List.mem_of_getElem? (i := 611) (by decide +kernel), List.mem_of_getElem? (i := 612) (by decide +kernel)⟩
theorem lw_p11 : lw_okq (⟨"ChainLedger$Chain", "medianTime", "(LChainLedger$Block;)I"⟩, 17) := ⟨⟨by decide +kernel, by decide +kernel⟩, List.mem_of_getElem? (i := 132) (by decide +kernel), List.mem_of_getElem? (i := 615) (by decide +kernel), List.mem_of_getElem? (i := 616) (by decide +kernel)⟩
theorem lw_p12 : lw_okq (⟨"ChainLedger$Chain", "hasRoomFor", "(LChainLedger$Block;)Z"⟩, 17) := ⟨⟨by decide +kernel, by decide +kernel⟩, List.mem_of_getElem? (i := 132) (by decide +kernel), List.mem_of_getElem? (i := 630) (by decide +kernel), List.mem_of_getElem? (i := 631) (by decide +kernel)⟩
theorem lw_p13 : lw_okq (⟨"java/util/ArrayList", "add", "(Ljava/lang/Object;[Ljava/lang/Object;I)V"⟩, 3) := ⟨⟨by decide +kernel, by decide +kernel⟩, List.mem_of_getElem? (i := 147) (by decide +kernel), List.mem_of_getElem? (i := 655) (by decide +kernel), List.mem_of_getElem? (i := 656) (by decide +kernel)⟩
theorem lw_p14 : lw_okq (⟨"java/util/ArrayList", "grow", "()[Ljava/lang/Object;"⟩, 3) := ⟨⟨by decide +kernel, by decide +kernel⟩, List.mem_of_getElem? (i := 147) (by decide +kernel), List.mem_of_getElem? (i := 659) (by decide +kernel), List.mem_of_getElem? (i := 660) (by decide +kernel)⟩
theorem lw_p15 : lw_okq (⟨"java/util/ArrayList", "grow", "(I)[Ljava/lang/Object;"⟩, 3) := ⟨⟨by decide +kernel, by decide +kernel⟩, List.mem_of_getElem? (i := 147) (by decide +kernel), List.mem_of_getElem? (i := 663) (by decide +kernel), List.mem_of_getElem? (i := 664) (by decide +kernel)⟩
def lw_privs_1 : List (MethodName × Nat) := [(⟨"ChainLedger$Sha", "load", "([BIII)V"⟩, 2), (⟨"ChainLedger$Sha", "mix", "()V"⟩, 2), (⟨"ChainLedger$Block", "readPayments", "(LChainLedger$Sha;)Z"⟩, 17), (⟨"ChainLedger$Payment", "readInputs", "(II)I"⟩, 16), (⟨"ChainLedger$Payment", "behindScript", "(II)I"⟩, 16), (⟨"ChainLedger$Payment", "readOutputs", "(II)I"⟩, 16), (⟨"ChainLedger$Block", "idsDiffer", "()Z"⟩, 17), (⟨"ChainLedger$Block", "rootFits", "(LChainLedger$Sha;[B)Z"⟩, 17), (⟨"ChainLedger$Chain", "findStored", "([B)LChainLedger$Block;"⟩, 17), (⟨"ChainLedger$Chain", "isHeld", "([B)Z"⟩, 17), (⟨"ChainLedger$Chain", "followsRules", "(LChainLedger$Block;LChainLedger$Block;)Z"⟩, 17), (⟨"ChainLedger$Chain", "medianTime", "(LChainLedger$Block;)I"⟩, 17), (⟨"ChainLedger$Chain", "hasRoomFor", "(LChainLedger$Block;)Z"⟩, 17), (⟨"java/util/ArrayList", "add", "(Ljava/lang/Object;[Ljava/lang/Object;I)V"⟩, 3), (⟨"java/util/ArrayList", "grow", "()[Ljava/lang/Object;"⟩, 3), (⟨"java/util/ArrayList", "grow", "(I)[Ljava/lang/Object;"⟩, 3)]
theorem lw_r1 : ∀ q ∈ lw_privs_1, lw_okq q := List.forall_mem_cons.mpr ⟨lw_p0, List.forall_mem_cons.mpr ⟨lw_p1, List.forall_mem_cons.mpr ⟨lw_p2, List.forall_mem_cons.mpr ⟨lw_p3, List.forall_mem_cons.mpr ⟨lw_p4, List.forall_mem_cons.mpr ⟨lw_p5, List.forall_mem_cons.mpr ⟨lw_p6, List.forall_mem_cons.mpr ⟨lw_p7, List.forall_mem_cons.mpr ⟨lw_p8, List.forall_mem_cons.mpr ⟨lw_p9, List.forall_mem_cons.mpr ⟨lw_p10, List.forall_mem_cons.mpr ⟨lw_p11, List.forall_mem_cons.mpr ⟨lw_p12, List.forall_mem_cons.mpr ⟨lw_p13, List.forall_mem_cons.mpr ⟨lw_p14, List.forall_mem_cons.mpr ⟨lw_p15, fun _ h => absurd h List.not_mem_nil⟩⟩⟩⟩⟩⟩⟩⟩⟩⟩⟩⟩⟩⟩⟩⟩
theorem lw_p16 : lw_okq (⟨"ChainLedger$Chain", "store", "(LChainLedger$Block;LChainLedger$Block;)V"⟩, 17) := ⟨⟨by decide +kernel, by decide +kernel⟩, List.mem_of_getElem? (i := 132) (by decide +kernel), List.mem_of_getElem? (i := 704) (by decide +kernel), List.mem_of_getElem? (i := 705) (by decide +kernel)⟩
theorem lw_p17 : lw_okq (⟨"ChainLedger$Chain", "releaseHeld", "()V"⟩, 17) := ⟨⟨by decide +kernel, by decide +kernel⟩, List.mem_of_getElem? (i := 132) (by decide +kernel), List.mem_of_getElem? (i := 709) (by decide +kernel), List.mem_of_getElem? (i := 710) (by decide +kernel)⟩
theorem lw_p18 : lw_okq (⟨"ChainLedger$Chain", "firstReady", "()I"⟩, 17) := ⟨⟨by decide +kernel, by decide +kernel⟩, List.mem_of_getElem? (i := 132) (by decide +kernel), List.mem_of_getElem? (i := 713) (by decide +kernel), List.mem_of_getElem? (i := 714) (by decide +kernel)⟩
theorem lw_p19 : lw_okq (⟨"java/util/ArrayList", "fastRemove", "([Ljava/lang/Object;I)V"⟩, 3) := ⟨⟨by decide +kernel, by decide +kernel⟩, List.mem_of_getElem? (i := 147) (by decide +kernel), List.mem_of_getElem? (i := 721) (by decide +kernel), List.mem_of_getElem? (i := 722) (by decide +kernel)⟩
theorem lw_p20 : lw_okq (⟨"ChainLedger$Chain", "findPathTo", "(LChainLedger$Block;)Z"⟩, 17) := ⟨⟨by decide +kernel, by decide +kernel⟩, List.mem_of_getElem? (i := 132) (by decide +kernel), List.mem_of_getElem? (i := 734) (by decide +kernel), List.mem_of_getElem? (i := 735) (by decide +kernel)⟩
theorem lw_p21 : lw_okq (⟨"ChainLedger$Chain", "retractTo", "(LChainLedger$Block;)V"⟩, 17) := ⟨⟨by decide +kernel, by decide +kernel⟩, List.mem_of_getElem? (i := 132) (by decide +kernel), List.mem_of_getElem? (i := 738) (by decide +kernel), List.mem_of_getElem? (i := 739) (by decide +kernel)⟩
theorem lw_p22 : lw_okq (⟨"ChainLedger$Chain", "retract", "(LChainLedger$Block;)V"⟩, 17) := ⟨⟨by decide +kernel, by decide +kernel⟩, List.mem_of_getElem? (i := 132) (by decide +kernel), List.mem_of_getElem? (i := 742) (by decide +kernel), List.mem_of_getElem? (i := 743) (by decide +kernel)⟩
theorem lw_p23 : lw_okq (⟨"ChainLedger$Coins", "placeOf", "([BII)I"⟩, 1) := ⟨⟨by decide +kernel, by decide +kernel⟩, List.mem_of_getElem? (i := 138) (by decide +kernel), List.mem_of_getElem? (i := 776) (by decide +kernel), List.mem_of_getElem? (i := 777) (by decide +kernel)⟩
theorem lw_p24 : lw_okq (⟨"java/util/ArrayList", "rangeCheckForAdd", "(I)V"⟩, 3) := ⟨⟨by decide +kernel, by decide +kernel⟩, List.mem_of_getElem? (i := 147) (by decide +kernel), List.mem_of_getElem? (i := 794) (by decide +kernel), List.mem_of_getElem? (i := 795) (by decide +kernel)⟩
theorem lw_p25 : lw_okq (⟨"ChainLedger$Chain", "connect", "(LChainLedger$Block;)Z"⟩, 17) := ⟨⟨by decide +kernel, by decide +kernel⟩, List.mem_of_getElem? (i := 132) (by decide +kernel), List.mem_of_getElem? (i := 798) (by decide +kernel), List.mem_of_getElem? (i := 799) (by decide +kernel)⟩
theorem lw_p26 : lw_okq (⟨"ChainLedger$Chain", "repeat", "(LChainLedger$Block;)V"⟩, 17) := ⟨⟨by decide +kernel, by decide +kernel⟩, List.mem_of_getElem? (i := 132) (by decide +kernel), List.mem_of_getElem? (i := 802) (by decide +kernel), List.mem_of_getElem? (i := 803) (by decide +kernel)⟩
theorem lw_p27 : lw_okq (⟨"ChainLedger$Chain", "isNew", "(LChainLedger$Payment;)Z"⟩, 17) := ⟨⟨by decide +kernel, by decide +kernel⟩, List.mem_of_getElem? (i := 132) (by decide +kernel), List.mem_of_getElem? (i := 812) (by decide +kernel), List.mem_of_getElem? (i := 813) (by decide +kernel)⟩
theorem lw_p28 : lw_okq (⟨"ChainLedger$Machine", "push", "([BII)Z"⟩, 11) := ⟨⟨by decide +kernel, by decide +kernel⟩, List.mem_of_getElem? (i := 75) (by decide +kernel), List.mem_of_getElem? (i := 881) (by decide +kernel), List.mem_of_getElem? (i := 882) (by decide +kernel)⟩
theorem lw_p29 : lw_okq (⟨"ChainLedger$Machine", "turn", "(I)Z"⟩, 11) := ⟨⟨by decide +kernel, by decide +kernel⟩, List.mem_of_getElem? (i := 75) (by decide +kernel), List.mem_of_getElem? (i := 886) (by decide +kernel), List.mem_of_getElem? (i := 887) (by decide +kernel)⟩
theorem lw_p30 : lw_okq (⟨"ChainLedger$Machine", "isTrue", "(I)Z"⟩, 11) := ⟨⟨by decide +kernel, by decide +kernel⟩, List.mem_of_getElem? (i := 75) (by decide +kernel), List.mem_of_getElem? (i := 890) (by decide +kernel), List.mem_of_getElem? (i := 891) (by decide +kernel)⟩
theorem lw_p31 : lw_okq (⟨"ChainLedger$Machine", "checkSignatures", "(Z)Z"⟩, 11) := ⟨⟨by decide +kernel, by decide +kernel⟩, List.mem_of_getElem? (i := 75) (by decide +kernel), List.mem_of_getElem? (i := 894) (by decide +kernel), List.mem_of_getElem? (i := 895) (by decide +kernel)⟩
def lw_privs_2 : List (MethodName × Nat) := [(⟨"ChainLedger$Chain", "store", "(LChainLedger$Block;LChainLedger$Block;)V"⟩, 17), (⟨"ChainLedger$Chain", "releaseHeld", "()V"⟩, 17), (⟨"ChainLedger$Chain", "firstReady", "()I"⟩, 17), (⟨"java/util/ArrayList", "fastRemove", "([Ljava/lang/Object;I)V"⟩, 3), (⟨"ChainLedger$Chain", "findPathTo", "(LChainLedger$Block;)Z"⟩, 17), (⟨"ChainLedger$Chain", "retractTo", "(LChainLedger$Block;)V"⟩, 17), (⟨"ChainLedger$Chain", "retract", "(LChainLedger$Block;)V"⟩, 17), (⟨"ChainLedger$Coins", "placeOf", "([BII)I"⟩, 1), (⟨"java/util/ArrayList", "rangeCheckForAdd", "(I)V"⟩, 3), (⟨"ChainLedger$Chain", "connect", "(LChainLedger$Block;)Z"⟩, 17), (⟨"ChainLedger$Chain", "repeat", "(LChainLedger$Block;)V"⟩, 17), (⟨"ChainLedger$Chain", "isNew", "(LChainLedger$Payment;)Z"⟩, 17), (⟨"ChainLedger$Machine", "push", "([BII)Z"⟩, 11), (⟨"ChainLedger$Machine", "turn", "(I)Z"⟩, 11), (⟨"ChainLedger$Machine", "isTrue", "(I)Z"⟩, 11), (⟨"ChainLedger$Machine", "checkSignatures", "(Z)Z"⟩, 11)]
theorem lw_r2 : ∀ q ∈ lw_privs_2, lw_okq q := List.forall_mem_cons.mpr ⟨lw_p16, List.forall_mem_cons.mpr ⟨lw_p17, List.forall_mem_cons.mpr ⟨lw_p18, List.forall_mem_cons.mpr ⟨lw_p19, List.forall_mem_cons.mpr ⟨lw_p20, List.forall_mem_cons.mpr ⟨lw_p21, List.forall_mem_cons.mpr ⟨lw_p22, List.forall_mem_cons.mpr ⟨lw_p23, List.forall_mem_cons.mpr ⟨lw_p24, List.forall_mem_cons.mpr ⟨lw_p25, List.forall_mem_cons.mpr ⟨lw_p26, List.forall_mem_cons.mpr ⟨lw_p27, List.forall_mem_cons.mpr ⟨lw_p28, List.forall_mem_cons.mpr ⟨lw_p29, List.forall_mem_cons.mpr ⟨lw_p30, List.forall_mem_cons.mpr ⟨lw_p31, fun _ h => absurd h List.not_mem_nil⟩⟩⟩⟩⟩⟩⟩⟩⟩⟩⟩⟩⟩⟩⟩⟩
theorem lw_p32 : lw_okq (⟨"ChainLedger$Machine", "smallNumber", "(II)I"⟩, 11) := ⟨⟨by decide +kernel, by decide +kernel⟩, List.mem_of_getElem? (i := 75) (by decide +kernel), List.mem_of_getElem? (i := 898) (by decide +kernel), List.mem_of_getElem? (i := 899) (by decide +kernel)⟩
theorem lw_p33 : lw_okq (⟨"ChainLedger$Machine", "numberOf", "(I)J"⟩, 11) := ⟨⟨by decide +kernel, by decide +kernel⟩, List.mem_of_getElem? (i := 75) (by decide +kernel), List.mem_of_getElem? (i := 902) (by decide +kernel), List.mem_of_getElem? (i := 903) (by decide +kernel)⟩
theorem lw_p34 : lw_okq (⟨"ChainLedger$Machine", "pushNumber", "(I)Z"⟩, 11) := ⟨⟨by decide +kernel, by decide +kernel⟩, List.mem_of_getElem? (i := 75) (by decide +kernel), List.mem_of_getElem? (i := 909) (by decide +kernel), List.mem_of_getElem? (i := 910) (by decide +kernel)⟩
theorem lw_p35 : lw_okq (⟨"ChainLedger$Machine", "step", "(I)Z"⟩, 11) := ⟨⟨by decide +kernel, by decide +kernel⟩, List.mem_of_getElem? (i := 75) (by decide +kernel), List.mem_of_getElem? (i := 913) (by decide +kernel), List.mem_of_getElem? (i := 914) (by decide +kernel)⟩
theorem lw_p36 : lw_okq (⟨"ChainLedger$Machine", "swapLastTwo", "()V"⟩, 11) := ⟨⟨by decide +kernel, by decide +kernel⟩, List.mem_of_getElem? (i := 75) (by decide +kernel), List.mem_of_getElem? (i := 920) (by decide +kernel), List.mem_of_getElem? (i := 921) (by decide +kernel)⟩
theorem lw_p37 : lw_okq (⟨"ChainLedger$Machine", "isSame", "(II)Z"⟩, 11) := ⟨⟨by decide +kernel, by decide +kernel⟩, List.mem_of_getElem? (i := 75) (by decide +kernel), List.mem_of_getElem? (i := 924) (by decide +kernel), List.mem_of_getElem? (i := 925) (by decide +kernel)⟩
theorem lw_p38 : lw_okq (⟨"ChainLedger$Machine", "answer", "(IZ)Z"⟩, 11) := ⟨⟨by decide +kernel, by decide +kernel⟩, List.mem_of_getElem? (i := 75) (by decide +kernel), List.mem_of_getElem? (i := 928) (by decide +kernel), List.mem_of_getElem? (i := 929) (by decide +kernel)⟩
theorem lw_p39 : lw_okq (⟨"ChainLedger$Machine", "reckon", "(IJJ)Z"⟩, 11) := ⟨⟨by decide +kernel, by decide +kernel⟩, List.mem_of_getElem? (i := 75) (by decide +kernel), List.mem_of_getElem? (i := 932) (by decide +kernel), List.mem_of_getElem? (i := 933) (by decide +kernel)⟩
theorem lw_p40 : lw_okq (⟨"ChainLedger$Chain", "take", "(LChainLedger$Block;I)V"⟩, 17) := ⟨⟨by decide +kernel, by decide +kernel⟩, List.mem_of_getElem? (i := 132) (by decide +kernel), List.mem_of_getElem? (i := 953) (by decide +kernel), List.mem_of_getElem? (i := 954) (by decide +kernel)⟩
theorem lw_p41 : lw_okq (⟨"ChainLedger$Chain", "returnTo", "(LChainLedger$Block;)V"⟩, 17) := ⟨⟨by decide +kernel, by decide +kernel⟩, List.mem_of_getElem? (i := 132) (by decide +kernel), List.mem_of_getElem? (i := 958) (by decide +kernel), List.mem_of_getElem? (i := 959) (by decide +kernel)⟩
theorem lw_p42 : lw_okq (⟨"ChainLedger$Chain", "listLeft", "(LChainLedger$Block;)V"⟩, 17) := ⟨⟨by decide +kernel, by decide +kernel⟩, List.mem_of_getElem? (i := 132) (by decide +kernel), List.mem_of_getElem? (i := 962) (by decide +kernel), List.mem_of_getElem? (i := 963) (by decide +kernel)⟩
theorem lw_p43 : lw_okq (⟨"ChainLedger$Pool", "admit", "(LChainLedger$Payment;)I"⟩, 7) := ⟨⟨by decide +kernel, by decide +kernel⟩, List.mem_of_getElem? (i := 328) (by decide +kernel), List.mem_of_getElem? (i := 974) (by decide +kernel), List.mem_of_getElem? (i := 975) (by decide +kernel)⟩
theorem lw_p44 : lw_okq (⟨"ChainLedger", "writeHeader", "(LChainLedger$Block;I)V"⟩, 10) := ⟨⟨by decide +kernel, by decide +kernel⟩, List.mem_of_getElem? (i := 25) (by decide +kernel), List.mem_of_getElem? (i := 1008) (by decide +kernel), List.mem_of_getElem? (i := 1009) (by decide +kernel)⟩
theorem lw_p45 : lw_okq (⟨"ChainLedger", "writeFirst", "(IJI)V"⟩, 10) := ⟨⟨by decide +kernel, by decide +kernel⟩, List.mem_of_getElem? (i := 25) (by decide +kernel), List.mem_of_getElem? (i := 1019) (by decide +kernel), List.mem_of_getElem? (i := 1020) (by decide +kernel)⟩
theorem lw_p46 : lw_okq (⟨"ChainLedger", "putRoot", "(I)V"⟩, 10) := ⟨⟨by decide +kernel, by decide +kernel⟩, List.mem_of_getElem? (i := 25) (by decide +kernel), List.mem_of_getElem? (i := 1031) (by decide +kernel), List.mem_of_getElem? (i := 1032) (by decide +kernel)⟩
theorem lw_p47 : lw_okq (⟨"ChainLedger", "readOutPayment", "()Z"⟩, 10) := ⟨⟨by decide +kernel, by decide +kernel⟩, List.mem_of_getElem? (i := 25) (by decide +kernel), List.mem_of_getElem? (i := 1058) (by decide +kernel), List.mem_of_getElem? (i := 1059) (by decide +kernel)⟩
def lw_privs_3 : List (MethodName × Nat) := [(⟨"ChainLedger$Machine", "smallNumber", "(II)I"⟩, 11), (⟨"ChainLedger$Machine", "numberOf", "(I)J"⟩, 11), (⟨"ChainLedger$Machine", "pushNumber", "(I)Z"⟩, 11), (⟨"ChainLedger$Machine", "step", "(I)Z"⟩, 11), (⟨"ChainLedger$Machine", "swapLastTwo", "()V"⟩, 11), (⟨"ChainLedger$Machine", "isSame", "(II)Z"⟩, 11), (⟨"ChainLedger$Machine", "answer", "(IZ)Z"⟩, 11), (⟨"ChainLedger$Machine", "reckon", "(IJJ)Z"⟩, 11), (⟨"ChainLedger$Chain", "take", "(LChainLedger$Block;I)V"⟩, 17), (⟨"ChainLedger$Chain", "returnTo", "(LChainLedger$Block;)V"⟩, 17), (⟨"ChainLedger$Chain", "listLeft", "(LChainLedger$Block;)V"⟩, 17), (⟨"ChainLedger$Pool", "admit", "(LChainLedger$Payment;)I"⟩, 7), (⟨"ChainLedger", "writeHeader", "(LChainLedger$Block;I)V"⟩, 10), (⟨"ChainLedger", "writeFirst", "(IJI)V"⟩, 10), (⟨"ChainLedger", "putRoot", "(I)V"⟩, 10), (⟨"ChainLedger", "readOutPayment", "()Z"⟩, 10)]
theorem lw_r3 : ∀ q ∈ lw_privs_3, lw_okq q := List.forall_mem_cons.mpr ⟨lw_p32, List.forall_mem_cons.mpr ⟨lw_p33, List.forall_mem_cons.mpr ⟨lw_p34, List.forall_mem_cons.mpr ⟨lw_p35, List.forall_mem_cons.mpr ⟨lw_p36, List.forall_mem_cons.mpr ⟨lw_p37, List.forall_mem_cons.mpr ⟨lw_p38, List.forall_mem_cons.mpr ⟨lw_p39, List.forall_mem_cons.mpr ⟨lw_p40, List.forall_mem_cons.mpr ⟨lw_p41, List.forall_mem_cons.mpr ⟨lw_p42, List.forall_mem_cons.mpr ⟨lw_p43, List.forall_mem_cons.mpr ⟨lw_p44, List.forall_mem_cons.mpr ⟨lw_p45, List.forall_mem_cons.mpr ⟨lw_p46, List.forall_mem_cons.mpr ⟨lw_p47, fun _ h => absurd h List.not_mem_nil⟩⟩⟩⟩⟩⟩⟩⟩⟩⟩⟩⟩⟩⟩⟩⟩
theorem lw_p48 : lw_okq (⟨"ChainLedgerModel", "put", "(I)V"⟩, 56) := ⟨⟨by decide +kernel, by decide +kernel⟩, List.mem_of_getElem? (i := 1123) (by decide +kernel), List.mem_of_getElem? (i := 1345) (by decide +kernel), List.mem_of_getElem? (i := 1346) (by decide +kernel)⟩
theorem lw_p49 : lw_okq (⟨"ChainLedgerModel", "come", "(II)I"⟩, 56) := ⟨⟨by decide +kernel, by decide +kernel⟩, List.mem_of_getElem? (i := 1123) (by decide +kernel), List.mem_of_getElem? (i := 1362) (by decide +kernel), List.mem_of_getElem? (i := 1363) (by decide +kernel)⟩
theorem lw_p50 : lw_okq (⟨"ChainLedgerModel", "wellFormed", "(II)Z"⟩, 56) := ⟨⟨by decide +kernel, by decide +kernel⟩, List.mem_of_getElem? (i := 1123) (by decide +kernel), List.mem_of_getElem? (i := 1366) (by decide +kernel), List.mem_of_getElem? (i := 1367) (by decide +kernel)⟩
theorem lw_p51 : lw_okq (⟨"ChainLedgerModel", "number", "(I)I"⟩, 56) := ⟨⟨by decide +kernel, by decide +kernel⟩, List.mem_of_getElem? (i := 1123) (by decide +kernel), List.mem_of_getElem? (i := 1370) (by decide +kernel), List.mem_of_getElem? (i := 1371) (by decide +kernel)⟩
theorem lw_p52 : lw_okq (⟨"ChainLedgerModel", "read", "(II)I"⟩, 56) := ⟨⟨by decide +kernel, by decide +kernel⟩, List.mem_of_getElem? (i := 1123) (by decide +kernel), List.mem_of_getElem? (i := 1375) (by decide +kernel), List.mem_of_getElem? (i := 1376) (by decide +kernel)⟩
theorem lw_p53 : lw_okq (⟨"ChainLedgerModel", "hash", "([BII[BI)V"⟩, 56) := ⟨⟨by decide +kernel, by decide +kernel⟩, List.mem_of_getElem? (i := 1123) (by decide +kernel), List.mem_of_getElem? (i := 1379) (by decide +kernel), List.mem_of_getElem? (i := 1380) (by decide +kernel)⟩
theorem lw_p54 : lw_okq (⟨"ChainLedgerModel", "sha", "([BII[BI)V"⟩, 56) := ⟨⟨by decide +kernel, by decide +kernel⟩, List.mem_of_getElem? (i := 1123) (by decide +kernel), List.mem_of_getElem? (i := 1383) (by decide +kernel), List.mem_of_getElem? (i := 1384) (by decide +kernel)⟩
theorem lw_p55 : lw_okq (⟨"ChainLedgerModel", "round", "()V"⟩, 56) := ⟨⟨by decide +kernel, by decide +kernel⟩, List.mem_of_getElem? (i := 1123) (by decide +kernel), List.mem_of_getElem? (i := 1390) (by decide +kernel), List.mem_of_getElem? (i := 1391) (by decide +kernel)⟩
theorem lw_p56 : lw_okq (⟨"ChainLedgerModel", "root", "(I)V"⟩, 56) := ⟨⟨by decide +kernel, by decide +kernel⟩, List.mem_of_getElem? (i := 1123) (by decide +kernel), List.mem_of_getElem? (i := 1399) (by decide +kernel), List.mem_of_getElem? (i := 1400) (by decide +kernel)⟩
theorem lw_p57 : lw_okq (⟨"ChainLedgerModel", "storedAs", "([BI)I"⟩, 56) := ⟨⟨by decide +kernel, by decide +kernel⟩, List.mem_of_getElem? (i := 1123) (by decide +kernel), List.mem_of_getElem? (i := 1403) (by decide +kernel), List.mem_of_getElem? (i := 1404) (by decide +kernel)⟩
theorem lw_p58 : lw_okq (⟨"ChainLedgerModel", "follows", "(II)Z"⟩, 56) := ⟨⟨by decide +kernel, by decide +kernel⟩, List.mem_of_getElem? (i := 1123) (by decide +kernel), List.mem_of_getElem? (i := 1408) (by decide +kernel), List.mem_of_getElem? (i := 1409) (by decide +kernel)⟩
theorem lw_p59 : lw_okq (⟨"ChainLedgerModel", "median", "(I)I"⟩, 56) := ⟨⟨by decide +kernel, by decide +kernel⟩, List.mem_of_getElem? (i := 1123) (by decide +kernel), List.mem_of_getElem? (i := 1412) (by decide +kernel), List.mem_of_getElem? (i := 1413) (by decide +kernel)⟩
theorem lw_p60 : lw_okq (⟨"ChainLedgerModel", "due", "(I)I"⟩, 56) := ⟨⟨by decide +kernel, by decide +kernel⟩, List.mem_of_getElem? (i := 1123) (by decide +kernel), List.mem_of_getElem? (i := 1416) (by decide +kernel), List.mem_of_getElem? (i := 1417) (by decide +kernel)⟩
theorem lw_p61 : lw_okq (⟨"ChainLedgerModel", "ancestor", "(II)I"⟩, 56) := ⟨⟨by decide +kernel, by decide +kernel⟩, List.mem_of_getElem? (i := 1123) (by decide +kernel), List.mem_of_getElem? (i := 1420) (by decide +kernel), List.mem_of_getElem? (i := 1421) (by decide +kernel)⟩
theorem lw_p62 : lw_okq (⟨"ChainLedgerModel", "room", "(I)Z"⟩, 56) := ⟨⟨by decide +kernel, by decide +kernel⟩, List.mem_of_getElem? (i := 1123) (by decide +kernel), List.mem_of_getElem? (i := 1424) (by decide +kernel), List.mem_of_getElem? (i := 1425) (by decide +kernel)⟩
theorem lw_p63 : lw_okq (⟨"ChainLedgerModel", "store", "(IIII)V"⟩, 56) := ⟨⟨by decide +kernel, by decide +kernel⟩, List.mem_of_getElem? (i := 1123) (by decide +kernel), List.mem_of_getElem? (i := 1428) (by decide +kernel), List.mem_of_getElem? (i := 1429) (by decide +kernel)⟩
def lw_privs_4 : List (MethodName × Nat) := [(⟨"ChainLedgerModel", "put", "(I)V"⟩, 56), (⟨"ChainLedgerModel", "come", "(II)I"⟩, 56), (⟨"ChainLedgerModel", "wellFormed", "(II)Z"⟩, 56), (⟨"ChainLedgerModel", "number", "(I)I"⟩, 56), (⟨"ChainLedgerModel", "read", "(II)I"⟩, 56), (⟨"ChainLedgerModel", "hash", "([BII[BI)V"⟩, 56), (⟨"ChainLedgerModel", "sha", "([BII[BI)V"⟩, 56), (⟨"ChainLedgerModel", "round", "()V"⟩, 56), (⟨"ChainLedgerModel", "root", "(I)V"⟩, 56), (⟨"ChainLedgerModel", "storedAs", "([BI)I"⟩, 56), (⟨"ChainLedgerModel", "follows", "(II)Z"⟩, 56), (⟨"ChainLedgerModel", "median", "(I)I"⟩, 56), (⟨"ChainLedgerModel", "due", "(I)I"⟩, 56), (⟨"ChainLedgerModel", "ancestor", "(II)I"⟩, 56), (⟨"ChainLedgerModel", "room", "(I)Z"⟩, 56), (⟨"ChainLedgerModel", "store", "(IIII)V"⟩, 56)]
theorem lw_r4 : ∀ q ∈ lw_privs_4, lw_okq q := List.forall_mem_cons.mpr ⟨lw_p48, List.forall_mem_cons.mpr ⟨lw_p49, List.forall_mem_cons.mpr ⟨lw_p50, List.forall_mem_cons.mpr ⟨lw_p51, List.forall_mem_cons.mpr ⟨lw_p52, List.forall_mem_cons.mpr ⟨lw_p53, List.forall_mem_cons.mpr ⟨lw_p54, List.forall_mem_cons.mpr ⟨lw_p55, List.forall_mem_cons.mpr ⟨lw_p56, List.forall_mem_cons.mpr ⟨lw_p57, List.forall_mem_cons.mpr ⟨lw_p58, List.forall_mem_cons.mpr ⟨lw_p59, List.forall_mem_cons.mpr ⟨lw_p60, List.forall_mem_cons.mpr ⟨lw_p61, List.forall_mem_cons.mpr ⟨lw_p62, List.forall_mem_cons.mpr ⟨lw_p63, fun _ h => absurd h List.not_mem_nil⟩⟩⟩⟩⟩⟩⟩⟩⟩⟩⟩⟩⟩⟩⟩⟩
theorem lw_p64 : lw_okq (⟨"ChainLedgerModel", "isSound", "(I)Z"⟩, 56) := ⟨⟨by decide +kernel, by decide +kernel⟩, List.mem_of_getElem? (i := 1123) (by decide +kernel), List.mem_of_getElem? (i := 1433) (by decide +kernel), List.mem_of_getElem? (i := 1434) (by decide +kernel)⟩
theorem lw_p65 : lw_okq (⟨"ChainLedgerModel", "fold", "(LChainLedgerModel$Coins;I)V"⟩, 56) := ⟨⟨by decide +kernel, by decide +kernel⟩, List.mem_of_getElem? (i := 1123) (by decide +kernel), List.mem_of_getElem? (i := 1437) (by decide +kernel), List.mem_of_getElem? (i := 1438) (by decide +kernel)⟩
theorem lw_p66 : lw_okq (⟨"ChainLedgerModel", "go", "(LChainLedgerModel$Coins;)V"⟩, 56) := ⟨⟨by decide +kernel, by decide +kernel⟩, List.mem_of_getElem? (i := 1123) (by decide +kernel), List.mem_of_getElem? (i := 1441) (by decide +kernel), List.mem_of_getElem? (i := 1442) (by decide +kernel)⟩
theorem lw_p67 : lw_okq (⟨"ChainLedgerModel", "find", "(LChainLedgerModel$Coins;[BII)I"⟩, 56) := ⟨⟨by decide +kernel, by decide +kernel⟩, List.mem_of_getElem? (i := 1123) (by decide +kernel), List.mem_of_getElem? (i := 1445) (by decide +kernel), List.mem_of_getElem? (i := 1446) (by decide +kernel)⟩
theorem lw_p68 : lw_okq (⟨"ChainLedgerModel", "come", "(LChainLedgerModel$Coins;IIZ)Z"⟩, 56) := ⟨⟨by decide +kernel, by decide +kernel⟩, List.mem_of_getElem? (i := 1123) (by decide +kernel), List.mem_of_getElem? (i := 1453) (by decide +kernel), List.mem_of_getElem? (i := 1454) (by decide +kernel)⟩
theorem lw_p69 : lw_okq (⟨"ChainLedgerModel", "outSum", "()J"⟩, 56) := ⟨⟨by decide +kernel, by decide +kernel⟩, List.mem_of_getElem? (i := 1123) (by decide +kernel), List.mem_of_getElem? (i := 1461) (by decide +kernel), List.mem_of_getElem? (i := 1462) (by decide +kernel)⟩
theorem lw_p70 : lw_okq (⟨"ChainLedgerModel", "fee", "(LChainLedgerModel$Coins;II)J"⟩, 56) := ⟨⟨by decide +kernel, by decide +kernel⟩, List.mem_of_getElem? (i := 1123) (by decide +kernel), List.mem_of_getElem? (i := 1465) (by decide +kernel), List.mem_of_getElem? (i := 1466) (by decide +kernel)⟩
theorem lw_p71 : lw_okq (⟨"ChainLedgerModel", "makeSignHash", "(I)V"⟩, 56) := ⟨⟨by decide +kernel, by decide +kernel⟩, List.mem_of_getElem? (i := 1123) (by decide +kernel), List.mem_of_getElem? (i := 1470) (by decide +kernel), List.mem_of_getElem? (i := 1471) (by decide +kernel)⟩
theorem lw_p72 : lw_okq (⟨"ChainLedgerModel", "script", "(III)Z"⟩, 56) := ⟨⟨by decide +kernel, by decide +kernel⟩, List.mem_of_getElem? (i := 1123) (by decide +kernel), List.mem_of_getElem? (i := 1474) (by decide +kernel), List.mem_of_getElem? (i := 1475) (by decide +kernel)⟩
theorem lw_p73 : lw_okq (⟨"ChainLedgerModel", "push", "([BII)Z"⟩, 56) := ⟨⟨by decide +kernel, by decide +kernel⟩, List.mem_of_getElem? (i := 1123) (by decide +kernel), List.mem_of_getElem? (i := 1478) (by decide +kernel), List.mem_of_getElem? (i := 1479) (by decide +kernel)⟩
theorem lw_p74 : lw_okq (⟨"ChainLedgerModel", "isTrue", "(I)Z"⟩, 56) := ⟨⟨by decide +kernel, by decide +kernel⟩, List.mem_of_getElem? (i := 1123) (by decide +kernel), List.mem_of_getElem? (i := 1482) (by decide +kernel), List.mem_of_getElem? (i := 1483) (by decide +kernel)⟩
theorem lw_p75 : lw_okq (⟨"ChainLedgerModel", "many", "()Z"⟩, 56) := ⟨⟨by decide +kernel, by decide +kernel⟩, List.mem_of_getElem? (i := 1123) (by decide +kernel), List.mem_of_getElem? (i := 1486) (by decide +kernel), List.mem_of_getElem? (i := 1487) (by decide +kernel)⟩
theorem lw_p76 : lw_okq (⟨"ChainLedgerModel", "numberOf", "(I)I"⟩, 56) := ⟨⟨by decide +kernel, by decide +kernel⟩, List.mem_of_getElem? (i := 1123) (by decide +kernel), List.mem_of_getElem? (i := 1490) (by decide +kernel), List.mem_of_getElem? (i := 1491) (by decide +kernel)⟩
theorem lw_p77 : lw_okq (⟨"ChainLedgerModel", "signed", "(II)Z"⟩, 56) := ⟨⟨by decide +kernel, by decide +kernel⟩, List.mem_of_getElem? (i := 1123) (by decide +kernel), List.mem_of_getElem? (i := 1494) (by decide +kernel), List.mem_of_getElem? (i := 1495) (by decide +kernel)⟩
theorem lw_p78 : lw_okq (⟨"ChainLedgerModel", "pushNumber", "(I)Z"⟩, 56) := ⟨⟨by decide +kernel, by decide +kernel⟩, List.mem_of_getElem? (i := 1123) (by decide +kernel), List.mem_of_getElem? (i := 1498) (by decide +kernel), List.mem_of_getElem? (i := 1499) (by decide +kernel)⟩
theorem lw_p79 : lw_okq (⟨"ChainLedgerModel", "act", "(II)Z"⟩, 56) := ⟨⟨by decide +kernel, by decide +kernel⟩, List.mem_of_getElem? (i := 1123) (by decide +kernel), List.mem_of_getElem? (i := 1502) (by decide +kernel), List.mem_of_getElem? (i := 1503) (by decide +kernel)⟩
def lw_privs_5 : List (MethodName × Nat) := [(⟨"ChainLedgerModel", "isSound", "(I)Z"⟩, 56), (⟨"ChainLedgerModel", "fold", "(LChainLedgerModel$Coins;I)V"⟩, 56), (⟨"ChainLedgerModel", "go", "(LChainLedgerModel$Coins;)V"⟩, 56), (⟨"ChainLedgerModel", "find", "(LChainLedgerModel$Coins;[BII)I"⟩, 56), (⟨"ChainLedgerModel", "come", "(LChainLedgerModel$Coins;IIZ)Z"⟩, 56), (⟨"ChainLedgerModel", "outSum", "()J"⟩, 56), (⟨"ChainLedgerModel", "fee", "(LChainLedgerModel$Coins;II)J"⟩, 56), (⟨"ChainLedgerModel", "makeSignHash", "(I)V"⟩, 56), (⟨"ChainLedgerModel", "script", "(III)Z"⟩, 56), (⟨"ChainLedgerModel", "push", "([BII)Z"⟩, 56), (⟨"ChainLedgerModel", "isTrue", "(I)Z"⟩, 56), (⟨"ChainLedgerModel", "many", "()Z"⟩, 56), (⟨"ChainLedgerModel", "numberOf", "(I)I"⟩, 56), (⟨"ChainLedgerModel", "signed", "(II)Z"⟩, 56), (⟨"ChainLedgerModel", "pushNumber", "(I)Z"⟩, 56), (⟨"ChainLedgerModel", "act", "(II)Z"⟩, 56)]
theorem lw_r5 : ∀ q ∈ lw_privs_5, lw_okq q := List.forall_mem_cons.mpr ⟨lw_p64, List.forall_mem_cons.mpr ⟨lw_p65, List.forall_mem_cons.mpr ⟨lw_p66, List.forall_mem_cons.mpr ⟨lw_p67, List.forall_mem_cons.mpr ⟨lw_p68, List.forall_mem_cons.mpr ⟨lw_p69, List.forall_mem_cons.mpr ⟨lw_p70, List.forall_mem_cons.mpr ⟨lw_p71, List.forall_mem_cons.mpr ⟨lw_p72, List.forall_mem_cons.mpr ⟨lw_p73, List.forall_mem_cons.mpr ⟨lw_p74, List.forall_mem_cons.mpr ⟨lw_p75, List.forall_mem_cons.mpr ⟨lw_p76, List.forall_mem_cons.mpr ⟨lw_p77, List.forall_mem_cons.mpr ⟨lw_p78, List.forall_mem_cons.mpr ⟨lw_p79, fun _ h => absurd h List.not_mem_nil⟩⟩⟩⟩⟩⟩⟩⟩⟩⟩⟩⟩⟩⟩⟩⟩
theorem lw_p80 : lw_okq (⟨"ChainLedgerModel", "release", "()V"⟩, 56) := ⟨⟨by decide +kernel, by decide +kernel⟩, List.mem_of_getElem? (i := 1123) (by decide +kernel), List.mem_of_getElem? (i := 1506) (by decide +kernel), List.mem_of_getElem? (i := 1507) (by decide +kernel)⟩
theorem lw_p81 : lw_okq (⟨"ChainLedgerModel", "drop", "(I)V"⟩, 56) := ⟨⟨by decide +kernel, by decide +kernel⟩, List.mem_of_getElem? (i := 1123) (by decide +kernel), List.mem_of_getElem? (i := 1511) (by decide +kernel), List.mem_of_getElem? (i := 1512) (by decide +kernel)⟩
theorem lw_p82 : lw_okq (⟨"ChainLedgerModel", "choose", "()V"⟩, 56) := ⟨⟨by decide +kernel, by decide +kernel⟩, List.mem_of_getElem? (i := 1123) (by decide +kernel), List.mem_of_getElem? (i := 1515) (by decide +kernel), List.mem_of_getElem? (i := 1516) (by decide +kernel)⟩
theorem lw_p83 : lw_okq (⟨"ChainLedgerModel", "better", "(II)Z"⟩, 56) := ⟨⟨by decide +kernel, by decide +kernel⟩, List.mem_of_getElem? (i := 1123) (by decide +kernel), List.mem_of_getElem? (i := 1519) (by decide +kernel), List.mem_of_getElem? (i := 1520) (by decide +kernel)⟩
theorem lw_p84 : lw_okq (⟨"ChainLedgerModel", "remake", "(I)V"⟩, 56) := ⟨⟨by decide +kernel, by decide +kernel⟩, List.mem_of_getElem? (i := 1123) (by decide +kernel), List.mem_of_getElem? (i := 1523) (by decide +kernel), List.mem_of_getElem? (i := 1524) (by decide +kernel)⟩
theorem lw_p85 : lw_okq (⟨"ChainLedgerModel", "inChain", "(II)Z"⟩, 56) := ⟨⟨by decide +kernel, by decide +kernel⟩, List.mem_of_getElem? (i := 1123) (by decide +kernel), List.mem_of_getElem? (i := 1533) (by decide +kernel), List.mem_of_getElem? (i := 1534) (by decide +kernel)⟩
theorem lw_p86 : lw_okq (⟨"ChainLedgerModel", "accept", "(II)I"⟩, 56) := ⟨⟨by decide +kernel, by decide +kernel⟩, List.mem_of_getElem? (i := 1123) (by decide +kernel), List.mem_of_getElem? (i := 1537) (by decide +kernel), List.mem_of_getElem? (i := 1538) (by decide +kernel)⟩
theorem lw_p87 : lw_okq (⟨"ChainLedgerModel", "poolId", "(I)I"⟩, 56) := ⟨⟨by decide +kernel, by decide +kernel⟩, List.mem_of_getElem? (i := 1123) (by decide +kernel), List.mem_of_getElem? (i := 1541) (by decide +kernel), List.mem_of_getElem? (i := 1542) (by decide +kernel)⟩
theorem lw_p88 : lw_okq (⟨"ChainLedgerModel", "setNumber", "(II)V"⟩, 56) := ⟨⟨by decide +kernel, by decide +kernel⟩, List.mem_of_getElem? (i := 1123) (by decide +kernel), List.mem_of_getElem? (i := 1556) (by decide +kernel), List.mem_of_getElem? (i := 1557) (by decide +kernel)⟩
theorem lw_p89 : lw_okq (⟨"ChainLedgerModel", "standard", "(II)I"⟩, 56) := ⟨⟨by decide +kernel, by decide +kernel⟩, List.mem_of_getElem? (i := 1123) (by decide +kernel), List.mem_of_getElem? (i := 1568) (by decide +kernel), List.mem_of_getElem? (i := 1569) (by decide +kernel)⟩
theorem lw_p90 : lw_okq (⟨"ChainLedgerModel", "coinAt", "(I)I"⟩, 56) := ⟨⟨by decide +kernel, by decide +kernel⟩, List.mem_of_getElem? (i := 1123) (by decide +kernel), List.mem_of_getElem? (i := 1581) (by decide +kernel), List.mem_of_getElem? (i := 1582) (by decide +kernel)⟩
theorem lw_p91 : lw_okq (⟨"ChainLedgerModel", "before", "(LChainLedgerModel$Coins;II)Z"⟩, 56) := ⟨⟨by decide +kernel, by decide +kernel⟩, List.mem_of_getElem? (i := 1123) (by decide +kernel), List.mem_of_getElem? (i := 1585) (by decide +kernel), List.mem_of_getElem? (i := 1586) (by decide +kernel)⟩
theorem lw_p92 : lw_okq (⟨"ChainLedgerModel", "replace", "(III)I"⟩, 56) := ⟨⟨by decide +kernel, by decide +kernel⟩, List.mem_of_getElem? (i := 1123) (by decide +kernel), List.mem_of_getElem? (i := 1597) (by decide +kernel), List.mem_of_getElem? (i := 1598) (by decide +kernel)⟩
def lw_privs_6 : List (MethodName × Nat) := [(⟨"ChainLedgerModel", "release", "()V"⟩, 56), (⟨"ChainLedgerModel", "drop", "(I)V"⟩, 56), (⟨"ChainLedgerModel", "choose", "()V"⟩, 56), (⟨"ChainLedgerModel", "better", "(II)Z"⟩, 56), (⟨"ChainLedgerModel", "remake", "(I)V"⟩, 56), (⟨"ChainLedgerModel", "inChain", "(II)Z"⟩, 56), (⟨"ChainLedgerModel", "accept", "(II)I"⟩, 56), (⟨"ChainLedgerModel", "poolId", "(I)I"⟩, 56), (⟨"ChainLedgerModel", "setNumber", "(II)V"⟩, 56), (⟨"ChainLedgerModel", "standard", "(II)I"⟩, 56), (⟨"ChainLedgerModel", "coinAt", "(I)I"⟩, 56), (⟨"ChainLedgerModel", "before", "(LChainLedgerModel$Coins;II)Z"⟩, 56), (⟨"ChainLedgerModel", "replace", "(III)I"⟩, 56)]
theorem lw_r6 : ∀ q ∈ lw_privs_6, lw_okq q := List.forall_mem_cons.mpr ⟨lw_p80, List.forall_mem_cons.mpr ⟨lw_p81, List.forall_mem_cons.mpr ⟨lw_p82, List.forall_mem_cons.mpr ⟨lw_p83, List.forall_mem_cons.mpr ⟨lw_p84, List.forall_mem_cons.mpr ⟨lw_p85, List.forall_mem_cons.mpr ⟨lw_p86, List.forall_mem_cons.mpr ⟨lw_p87, List.forall_mem_cons.mpr ⟨lw_p88, List.forall_mem_cons.mpr ⟨lw_p89, List.forall_mem_cons.mpr ⟨lw_p90, List.forall_mem_cons.mpr ⟨lw_p91, List.forall_mem_cons.mpr ⟨lw_p92, fun _ h => absurd h List.not_mem_nil⟩⟩⟩⟩⟩⟩⟩⟩⟩⟩⟩⟩⟩
def lw_privs : List (MethodName × Nat) := lw_privs_1 ++ (lw_privs_2 ++ (lw_privs_3 ++ (lw_privs_4 ++ (lw_privs_5 ++ (lw_privs_6)))))
def lw_tbl : List Cond := k2_sels lw_privs ++ tables_1
theorem lw_privs_ok : ∀ q ∈ lw_privs, lw_okq q := by
  show ∀ q ∈ lw_privs_1 ++ (lw_privs_2 ++ (lw_privs_3 ++ (lw_privs_4 ++ (lw_privs_5 ++ (lw_privs_6))))), lw_okq q
  exact List.forall_mem_append.mpr ⟨lw_r1, List.forall_mem_append.mpr ⟨lw_r2, List.forall_mem_append.mpr ⟨lw_r3, List.forall_mem_append.mpr ⟨lw_r4, List.forall_mem_append.mpr ⟨lw_r5, lw_r6⟩⟩⟩⟩⟩
end
section
/-! names of the classes, methods and words that the contracts speak of: printed by my own program out of the tables -/
def R_AL : String := "java/util/ArrayList"
def R_Ab : String := "java/util/AbstractList"
def R_Ac : String := "java/util/AbstractCollection"
def R_Block : String := "ChainLedger$Block"
def R_CL : String := "ChainLedger"
def R_Chain : String := "ChainLedger$Chain"
def R_Coins : String := "ChainLedger$Coins"
def R_Judge : String := "ChainLedger$Judge"
def R_Machine : String := "ChainLedger$Machine"
def R_Mc : String := "ChainLedgerModel$Coins"
def R_Mo : String := "ChainLedgerModel"
def R_Payment : String := "ChainLedger$Payment"
def R_Pool : String := "ChainLedger$Pool"
def R_Row : String := "ChainLedger$Row"
def R_Sha : String := "ChainLedger$Sha"
def R_View : String := "ChainLedger$View"
def R_law : String := "ChainLedgerLaw"
def F_CL : u_T := fun k => match k with
  | 0 => ("ChainLedger", "tape", "LChainLedger$Row;", true)
  | 1 => ("ChainLedger", "out", "LChainLedger$Row;", true)
  | 2 => ("ChainLedger", "outKind", "I", false)
  | 3 => ("ChainLedger", "outIdsDiffer", "Z", false)
  | 4 => ("ChainLedger", "sha", "LChainLedger$Sha;", true)
  | 5 => ("ChainLedger", "judge", "LChainLedger$Judge;", true)
  | 6 => ("ChainLedger", "chain", "LChainLedger$Chain;", true)
  | 7 => ("ChainLedger", "waiting", "LChainLedger$Pool;", true)
  | 8 => ("ChainLedger", "outPayment", "LChainLedger$Payment;", true)
  | _ => ("ChainLedger", "fresh", "[B", true)
def t_CL : Nat → FieldType := fun k => match k with
  | 0 => .object "ChainLedger$Row"
  | 1 => .object "ChainLedger$Row"
  | 2 => .int
  | 3 => .boolean
  | 4 => .object "ChainLedger$Sha"
  | 5 => .object "ChainLedger$Judge"
  | 6 => .object "ChainLedger$Chain"
  | 7 => .object "ChainLedger$Pool"
  | 8 => .object "ChainLedger$Payment"
  | _ => .array (.byte)
theorem n_CL : ∀ a, a < 10 → ∀ b, b < 10 → a ≠ b → (F_CL a).2.1 ≠ (F_CL b).2.1 := by decide +kernel
theorem t_CL_ok : ∀ k, k < 10 → parseFieldDescriptor (F_CL k).2.2.1 = some (t_CL k) := by decide +kernel
theorem df_CL : ∀ j, j < 10 → defaultValue (t_CL j) = vp_V [.null, .null, .int 0, .int 0, .null, .null, .null, .null, .null, .null] j := by decide +kernel
def F_Row : u_T := fun k => match k with
  | 0 => ("ChainLedger$Row", "bytes", "[B", true)
  | _ => ("ChainLedger$Row", "size", "I", false)
def t_Row : Nat → FieldType := fun k => match k with
  | 0 => .array (.byte)
  | _ => .int
theorem n_Row : ∀ a, a < 2 → ∀ b, b < 2 → a ≠ b → (F_Row a).2.1 ≠ (F_Row b).2.1 := by decide +kernel
theorem t_Row_ok : ∀ k, k < 2 → parseFieldDescriptor (F_Row k).2.2.1 = some (t_Row k) := by decide +kernel
theorem df_Row : ∀ j, j < 2 → defaultValue (t_Row j) = vp_V [.null, .int 0] j := by decide +kernel
def F_Sha : u_T := fun k => match k with
  | 0 => ("ChainLedger$Sha", "words", "[I", true)
  | _ => ("ChainLedger$Sha", "state", "[I", true)
def t_Sha : Nat → FieldType := fun k => match k with
  | 0 => .array (.int)
  | _ => .array (.int)
theorem n_Sha : ∀ a, a < 2 → ∀ b, b < 2 → a ≠ b → (F_Sha a).2.1 ≠ (F_Sha b).2.1 := by decide +kernel
theorem t_Sha_ok : ∀ k, k < 2 → parseFieldDescriptor (F_Sha k).2.2.1 = some (t_Sha k) := by decide +kernel
theorem df_Sha : ∀ j, j < 2 → defaultValue (t_Sha j) = vp_V [.null, .null] j := by decide +kernel
def F_Judge : u_T := fun k => match k with
  | 0 => ("ChainLedger$Judge", "sha", "LChainLedger$Sha;", true)
  | 1 => ("ChainLedger$Judge", "machine", "LChainLedger$Machine;", true)
  | 2 => ("ChainLedger$Judge", "work", "LChainLedger$Row;", true)
  | _ => ("ChainLedger$Judge", "found", "[LChainLedger$Coin;", true)
def t_Judge : Nat → FieldType := fun k => match k with
  | 0 => .object "ChainLedger$Sha"
  | 1 => .object "ChainLedger$Machine"
  | 2 => .object "ChainLedger$Row"
  | _ => .array (.object "ChainLedger$Coin")
theorem n_Judge : ∀ a, a < 4 → ∀ b, b < 4 → a ≠ b → (F_Judge a).2.1 ≠ (F_Judge b).2.1 := by decide +kernel
theorem t_Judge_ok : ∀ k, k < 4 → parseFieldDescriptor (F_Judge k).2.2.1 = some (t_Judge k) := by decide +kernel
theorem df_Judge : ∀ j, j < 4 → defaultValue (t_Judge j) = vp_V [.null, .null, .null, .null] j := by decide +kernel
def F_Machine : u_T := fun k => match k with
  | 0 => ("ChainLedger$Machine", "sha", "LChainLedger$Sha;", true)
  | 1 => ("ChainLedger$Machine", "stack", "[[B", true)
  | 2 => ("ChainLedger$Machine", "sizes", "[I", true)
  | 3 => ("ChainLedger$Machine", "depth", "I", false)
  | 4 => ("ChainLedger$Machine", "branches", "[Z", true)
  | 5 => ("ChainLedger$Machine", "open", "I", false)
  | 6 => ("ChainLedger$Machine", "passing", "I", false)
  | 7 => ("ChainLedger$Machine", "message", "[B", true)
  | 8 => ("ChainLedger$Machine", "digest", "[B", true)
  | 9 => ("ChainLedger$Machine", "signHash", "[B", false)
  | _ => ("ChainLedger$Machine", "height", "I", false)
def t_Machine : Nat → FieldType := fun k => match k with
  | 0 => .object "ChainLedger$Sha"
  | 1 => .array (.array (.byte))
  | 2 => .array (.int)
  | 3 => .int
  | 4 => .array (.boolean)
  | 5 => .int
  | 6 => .int
  | 7 => .array (.byte)
  | 8 => .array (.byte)
  | 9 => .array (.byte)
  | _ => .int
theorem n_Machine : ∀ a, a < 11 → ∀ b, b < 11 → a ≠ b → (F_Machine a).2.1 ≠ (F_Machine b).2.1 := by decide +kernel
theorem t_Machine_ok : ∀ k, k < 11 → parseFieldDescriptor (F_Machine k).2.2.1 = some (t_Machine k) := by decide +kernel
theorem df_Machine : ∀ j, j < 11 → defaultValue (t_Machine j) = vp_V [.null, .null, .null, .int 0, .null, .int 0, .int 0, .null, .null, .null, .int 0] j := by decide +kernel
def F_Chain : u_T := fun k => match k with
  | 0 => ("ChainLedger$Chain", "sha", "LChainLedger$Sha;", true)
  | 1 => ("ChainLedger$Chain", "judge", "LChainLedger$Judge;", true)
  | 2 => ("ChainLedger$Chain", "coins", "LChainLedger$Coins;", true)
  | 3 => ("ChainLedger$Chain", "blocks", "[LChainLedger$Block;", true)
  | 4 => ("ChainLedger$Chain", "storedCount", "I", false)
  | 5 => ("ChainLedger$Chain", "storedBytes", "I", false)
  | 6 => ("ChainLedger$Chain", "held", "Ljava/util/ArrayList;", true)
  | 7 => ("ChainLedger$Chain", "tip", "LChainLedger$Block;", false)
  | 8 => ("ChainLedger$Chain", "ids", "[B", true)
  | 9 => ("ChainLedger$Chain", "left", "[LChainLedger$Block;", true)
  | 10 => ("ChainLedger$Chain", "leftCount", "I", false)
  | 11 => ("ChainLedger$Chain", "path", "[LChainLedger$Block;", true)
  | 12 => ("ChainLedger$Chain", "pathCount", "I", false)
  | 13 => ("ChainLedger$Chain", "times", "[I", true)
  | 14 => ("ChainLedger$Chain", "arrivals", "I", false)
  | 15 => ("ChainLedger$Chain", "settled", "I", false)
  | _ => ("ChainLedger$Chain", "spare", "LChainLedger$Block;", false)
def t_Chain : Nat → FieldType := fun k => match k with
  | 0 => .object "ChainLedger$Sha"
  | 1 => .object "ChainLedger$Judge"
  | 2 => .object "ChainLedger$Coins"
  | 3 => .array (.object "ChainLedger$Block")
  | 4 => .int
  | 5 => .int
  | 6 => .object "java/util/ArrayList"
  | 7 => .object "ChainLedger$Block"
  | 8 => .array (.byte)
  | 9 => .array (.object "ChainLedger$Block")
  | 10 => .int
  | 11 => .array (.object "ChainLedger$Block")
  | 12 => .int
  | 13 => .array (.int)
  | 14 => .int
  | 15 => .int
  | _ => .object "ChainLedger$Block"
theorem n_Chain : ∀ a, a < 17 → ∀ b, b < 17 → a ≠ b → (F_Chain a).2.1 ≠ (F_Chain b).2.1 := by decide +kernel
theorem t_Chain_ok : ∀ k, k < 17 → parseFieldDescriptor (F_Chain k).2.2.1 = some (t_Chain k) := by decide +kernel
theorem df_Chain : ∀ j, j < 17 → defaultValue (t_Chain j) = vp_V [.null, .null, .null, .null, .int 0, .int 0, .null, .null, .null, .null, .int 0, .null, .int 0, .null, .int 0, .int 0, .null] j := by decide +kernel
def F_Block : u_T := fun k => match k with
  | 0 => ("ChainLedger$Block", "bytes", "[B", false)
  | 1 => ("ChainLedger$Block", "size", "I", false)
  | 2 => ("ChainLedger$Block", "id", "[B", true)
  | 3 => ("ChainLedger$Block", "time", "I", false)
  | 4 => ("ChainLedger$Block", "target", "I", false)
  | 5 => ("ChainLedger$Block", "paymentCount", "I", false)
  | 6 => ("ChainLedger$Block", "payments", "[LChainLedger$Payment;", true)
  | 7 => ("ChainLedger$Block", "arrival", "I", false)
  | 8 => ("ChainLedger$Block", "parent", "LChainLedger$Block;", false)
  | 9 => ("ChainLedger$Block", "number", "I", false)
  | 10 => ("ChainLedger$Block", "height", "I", false)
  | 11 => ("ChainLedger$Block", "work", "J", false)
  | 12 => ("ChainLedger$Block", "sound", "Z", false)
  | 13 => ("ChainLedger$Block", "unsound", "Z", false)
  | 14 => ("ChainLedger$Block", "onChain", "Z", false)
  | 15 => ("ChainLedger$Block", "applied", "I", false)
  | _ => ("ChainLedger$Block", "spent", "Ljava/util/ArrayList;", true)
def t_Block : Nat → FieldType := fun k => match k with
  | 0 => .array (.byte)
  | 1 => .int
  | 2 => .array (.byte)
  | 3 => .int
  | 4 => .int
  | 5 => .int
  | 6 => .array (.object "ChainLedger$Payment")
  | 7 => .int
  | 8 => .object "ChainLedger$Block"
  | 9 => .int
  | 10 => .int
  | 11 => .long
  | 12 => .boolean
  | 13 => .boolean
  | 14 => .boolean
  | 15 => .int
  | _ => .object "java/util/ArrayList"
theorem n_Block : ∀ a, a < 17 → ∀ b, b < 17 → a ≠ b → (F_Block a).2.1 ≠ (F_Block b).2.1 := by decide +kernel
theorem t_Block_ok : ∀ k, k < 17 → parseFieldDescriptor (F_Block k).2.2.1 = some (t_Block k) := by decide +kernel
theorem df_Block : ∀ j, j < 17 → defaultValue (t_Block j) = vp_V [.null, .int 0, .null, .int 0, .int 0, .int 0, .null, .int 0, .null, .int 0, .int 0, .long 0, .int 0, .int 0, .int 0, .int 0, .null] j := by decide +kernel
def F_Payment : u_T := fun k => match k with
  | 0 => ("ChainLedger$Payment", "bytes", "[B", false)
  | 1 => ("ChainLedger$Payment", "start", "I", false)
  | 2 => ("ChainLedger$Payment", "size", "I", false)
  | 3 => ("ChainLedger$Payment", "lock", "I", false)
  | 4 => ("ChainLedger$Payment", "inputs", "I", false)
  | 5 => ("ChainLedger$Payment", "outputs", "I", false)
  | 6 => ("ChainLedger$Payment", "outputsAt", "I", false)
  | 7 => ("ChainLedger$Payment", "inputAt", "[I", true)
  | 8 => ("ChainLedger$Payment", "outputAt", "[I", true)
  | 9 => ("ChainLedger$Payment", "id", "[B", true)
  | 10 => ("ChainLedger$Payment", "signHash", "[B", true)
  | 11 => ("ChainLedger$Payment", "knowsSignHash", "Z", false)
  | 12 => ("ChainLedger$Payment", "fee", "I", false)
  | 13 => ("ChainLedger$Payment", "height", "I", false)
  | 14 => ("ChainLedger$Payment", "first", "Z", false)
  | _ => ("ChainLedger$Payment", "coins", "[LChainLedger$Coin;", false)
def t_Payment : Nat → FieldType := fun k => match k with
  | 0 => .array (.byte)
  | 1 => .int
  | 2 => .int
  | 3 => .int
  | 4 => .int
  | 5 => .int
  | 6 => .int
  | 7 => .array (.int)
  | 8 => .array (.int)
  | 9 => .array (.byte)
  | 10 => .array (.byte)
  | 11 => .boolean
  | 12 => .int
  | 13 => .int
  | 14 => .boolean
  | _ => .array (.object "ChainLedger$Coin")
theorem n_Payment : ∀ a, a < 16 → ∀ b, b < 16 → a ≠ b → (F_Payment a).2.1 ≠ (F_Payment b).2.1 := by decide +kernel
theorem t_Payment_ok : ∀ k, k < 16 → parseFieldDescriptor (F_Payment k).2.2.1 = some (t_Payment k) := by decide +kernel
theorem df_Payment : ∀ j, j < 16 → defaultValue (t_Payment j) = vp_V [.null, .int 0, .int 0, .int 0, .int 0, .int 0, .int 0, .null, .null, .null, .null, .int 0, .int 0, .int 0, .int 0, .null] j := by decide +kernel
def F_Coins : u_T := fun k => match k with
  | _ => ("ChainLedger$Coins", "list", "Ljava/util/ArrayList;", true)
def t_Coins : Nat → FieldType := fun k => match k with
  | _ => .object "java/util/ArrayList"
theorem n_Coins : ∀ a, a < 1 → ∀ b, b < 1 → a ≠ b → (F_Coins a).2.1 ≠ (F_Coins b).2.1 := by decide +kernel
theorem t_Coins_ok : ∀ k, k < 1 → parseFieldDescriptor (F_Coins k).2.2.1 = some (t_Coins k) := by decide +kernel
theorem df_Coins : ∀ j, j < 1 → defaultValue (t_Coins j) = vp_V [.null] j := by decide +kernel
def F_Pool : u_T := fun k => match k with
  | 0 => ("ChainLedger$Pool", "sha", "LChainLedger$Sha;", true)
  | 1 => ("ChainLedger$Pool", "judge", "LChainLedger$Judge;", true)
  | 2 => ("ChainLedger$Pool", "chain", "LChainLedger$Chain;", true)
  | 3 => ("ChainLedger$Pool", "members", "Ljava/util/ArrayList;", false)
  | 4 => ("ChainLedger$Pool", "former", "Ljava/util/ArrayList;", false)
  | 5 => ("ChainLedger$Pool", "base", "LChainLedger$Block;", false)
  | _ => ("ChainLedger$Pool", "spare", "LChainLedger$Payment;", false)
def t_Pool : Nat → FieldType := fun k => match k with
  | 0 => .object "ChainLedger$Sha"
  | 1 => .object "ChainLedger$Judge"
  | 2 => .object "ChainLedger$Chain"
  | 3 => .object "java/util/ArrayList"
  | 4 => .object "java/util/ArrayList"
  | 5 => .object "ChainLedger$Block"
  | _ => .object "ChainLedger$Payment"
theorem n_Pool : ∀ a, a < 7 → ∀ b, b < 7 → a ≠ b → (F_Pool a).2.1 ≠ (F_Pool b).2.1 := by decide +kernel
theorem t_Pool_ok : ∀ k, k < 7 → parseFieldDescriptor (F_Pool k).2.2.1 = some (t_Pool k) := by decide +kernel
theorem df_Pool : ∀ j, j < 7 → defaultValue (t_Pool j) = vp_V [.null, .null, .null, .null, .null, .null, .null] j := by decide +kernel
def F_AL : u_T := fun k => match k with
  | 0 => ("java/util/AbstractList", "modCount", "I", false)
  | 1 => ("java/util/ArrayList", "elementData", "[Ljava/lang/Object;", false)
  | _ => ("java/util/ArrayList", "size", "I", false)
def t_AL : Nat → FieldType := fun k => match k with
  | 0 => .int
  | 1 => .array (.object "java/lang/Object")
  | _ => .int
theorem n_AL : ∀ a, a < 3 → ∀ b, b < 3 → a ≠ b → (F_AL a).2.1 ≠ (F_AL b).2.1 := by decide +kernel
theorem t_AL_ok : ∀ k, k < 3 → parseFieldDescriptor (F_AL k).2.2.1 = some (t_AL k) := by decide +kernel
theorem df_AL : ∀ j, j < 3 → defaultValue (t_AL j) = vp_V [.int 0, .null, .int 0] j := by decide +kernel
def F_Mo : u_T := fun k => match k with
  | 0 => ("ChainLedgerModel", "mem", "[B", true)
  | 1 => ("ChainLedgerModel", "tapeLength", "I", false)
  | 2 => ("ChainLedgerModel", "outLength", "I", false)
  | 3 => ("ChainLedgerModel", "outKind", "I", false)
  | 4 => ("ChainLedgerModel", "at", "[I", true)
  | 5 => ("ChainLedgerModel", "length", "[I", true)
  | 6 => ("ChainLedgerModel", "parent", "[I", true)
  | 7 => ("ChainLedgerModel", "height", "[I", true)
  | 8 => ("ChainLedgerModel", "time", "[I", true)
  | 9 => ("ChainLedgerModel", "target", "[I", true)
  | 10 => ("ChainLedgerModel", "work", "[J", true)
  | 11 => ("ChainLedgerModel", "arrival", "[I", true)
  | 12 => ("ChainLedgerModel", "sound", "[Z", true)
  | 13 => ("ChainLedgerModel", "firstTx", "[I", true)
  | 14 => ("ChainLedgerModel", "txs", "[I", true)
  | 15 => ("ChainLedgerModel", "blockId", "[B", true)
  | 16 => ("ChainLedgerModel", "blocks", "I", false)
  | 17 => ("ChainLedgerModel", "used", "I", false)
  | 18 => ("ChainLedgerModel", "txCount", "I", false)
  | 19 => ("ChainLedgerModel", "tip", "I", false)
  | 20 => ("ChainLedgerModel", "calls", "I", false)
  | 21 => ("ChainLedgerModel", "heldLength", "[I", true)
  | 22 => ("ChainLedgerModel", "heldArrival", "[I", true)
  | 23 => ("ChainLedgerModel", "heldId", "[B", true)
  | 24 => ("ChainLedgerModel", "held", "I", false)
  | 25 => ("ChainLedgerModel", "ids", "[B", true)
  | 26 => ("ChainLedgerModel", "poolLength", "[I", true)
  | 27 => ("ChainLedgerModel", "poolFee", "[I", true)
  | 28 => ("ChainLedgerModel", "pool", "I", false)
  | 29 => ("ChainLedgerModel", "lock", "I", false)
  | 30 => ("ChainLedgerModel", "ins", "I", false)
  | 31 => ("ChainLedgerModel", "inId", "[I", true)
  | 32 => ("ChainLedgerModel", "inIndex", "[I", true)
  | 33 => ("ChainLedgerModel", "keyAt", "[I", true)
  | 34 => ("ChainLedgerModel", "keyLength", "[I", true)
  | 35 => ("ChainLedgerModel", "outs", "I", false)
  | 36 => ("ChainLedgerModel", "outValue", "[I", true)
  | 37 => ("ChainLedgerModel", "lockAt", "[I", true)
  | 38 => ("ChainLedgerModel", "lockLength", "[I", true)
  | 39 => ("ChainLedgerModel", "w", "[I", true)
  | 40 => ("ChainLedgerModel", "h", "[I", true)
  | 41 => ("ChainLedgerModel", "once", "[B", true)
  | 42 => ("ChainLedgerModel", "digest", "[B", true)
  | 43 => ("ChainLedgerModel", "signHash", "[B", true)
  | 44 => ("ChainLedgerModel", "buffer", "[B", true)
  | 45 => ("ChainLedgerModel", "merkle", "[B", true)
  | 46 => ("ChainLedgerModel", "stack", "[B", true)
  | 47 => ("ChainLedgerModel", "sizes", "[I", true)
  | 48 => ("ChainLedgerModel", "depth", "I", false)
  | 49 => ("ChainLedgerModel", "branch", "[Z", true)
  | 50 => ("ChainLedgerModel", "tipCoins", "LChainLedgerModel$Coins;", true)
  | 51 => ("ChainLedgerModel", "poolCoins", "LChainLedgerModel$Coins;", true)
  | 52 => ("ChainLedgerModel", "workCoins", "LChainLedgerModel$Coins;", true)
  | 53 => ("ChainLedgerModel", "path", "[I", true)
  | 54 => ("ChainLedgerModel", "order", "[I", true)
  | _ => ("ChainLedgerModel", "spent", "[I", true)
def t_Mo : Nat → FieldType := fun k => match k with
  | 0 => .array (.byte)
  | 1 => .int
  | 2 => .int
  | 3 => .int
  | 4 => .array (.int)
  | 5 => .array (.int)
  | 6 => .array (.int)
  | 7 => .array (.int)
  | 8 => .array (.int)
  | 9 => .array (.int)
  | 10 => .array (.long)
  | 11 => .array (.int)
  | 12 => .array (.boolean)
  | 13 => .array (.int)
  | 14 => .array (.int)
  | 15 => .array (.byte)
  | 16 => .int
  | 17 => .int
  | 18 => .int
  | 19 => .int
  | 20 => .int
  | 21 => .array (.int)
  | 22 => .array (.int)
  | 23 => .array (.byte)
  | 24 => .int
  | 25 => .array (.byte)
  | 26 => .array (.int)
  | 27 => .array (.int)
  | 28 => .int
  | 29 => .int
  | 30 => .int
  | 31 => .array (.int)
  | 32 => .array (.int)
  | 33 => .array (.int)
  | 34 => .array (.int)
  | 35 => .int
  | 36 => .array (.int)
  | 37 => .array (.int)
  | 38 => .array (.int)
  | 39 => .array (.int)
  | 40 => .array (.int)
  | 41 => .array (.byte)
  | 42 => .array (.byte)
  | 43 => .array (.byte)
  | 44 => .array (.byte)
  | 45 => .array (.byte)
  | 46 => .array (.byte)
  | 47 => .array (.int)
  | 48 => .int
  | 49 => .array (.boolean)
  | 50 => .object "ChainLedgerModel$Coins"
  | 51 => .object "ChainLedgerModel$Coins"
  | 52 => .object "ChainLedgerModel$Coins"
  | 53 => .array (.int)
  | 54 => .array (.int)
  | _ => .array (.int)
theorem n_Mo : ∀ a, a < 56 → ∀ b, b < 56 → a ≠ b → (F_Mo a).2.1 ≠ (F_Mo b).2.1 := by decide +kernel
theorem t_Mo_ok : ∀ k, k < 56 → parseFieldDescriptor (F_Mo k).2.2.1 = some (t_Mo k) := by decide +kernel
theorem df_Mo : ∀ j, j < 56 → defaultValue (t_Mo j) = vp_V [.null, .int 0, .int 0, .int 0, .null, .null, .null, .null, .null, .null, .null, .null, .null, .null, .null, .null, .int 0, .int 0, .int 0, .int 0, .int 0, .null, .null, .null, .int 0, .null, .null, .null, .int 0, .int 0, .int 0, .null, .null, .null, .null, .int 0, .null, .null, .null, .null, .null, .null, .null, .null, .null, .null, .null, .null, .int 0, .null, .null, .null, .null, .null, .null, .null] j := by decide +kernel
def F_Mc : u_T := fun k => match k with
  | 0 => ("ChainLedgerModel$Coins", "id", "[I", true)
  | 1 => ("ChainLedgerModel$Coins", "index", "[I", true)
  | 2 => ("ChainLedgerModel$Coins", "value", "[I", true)
  | 3 => ("ChainLedgerModel$Coins", "script", "[I", true)
  | 4 => ("ChainLedgerModel$Coins", "scriptLength", "[I", true)
  | 5 => ("ChainLedgerModel$Coins", "height", "[I", true)
  | 6 => ("ChainLedgerModel$Coins", "first", "[Z", true)
  | _ => ("ChainLedgerModel$Coins", "count", "I", false)
def t_Mc : Nat → FieldType := fun k => match k with
  | 0 => .array (.int)
  | 1 => .array (.int)
  | 2 => .array (.int)
  | 3 => .array (.int)
  | 4 => .array (.int)
  | 5 => .array (.int)
  | 6 => .array (.boolean)
  | _ => .int
theorem n_Mc : ∀ a, a < 8 → ∀ b, b < 8 → a ≠ b → (F_Mc a).2.1 ≠ (F_Mc b).2.1 := by decide +kernel
theorem t_Mc_ok : ∀ k, k < 8 → parseFieldDescriptor (F_Mc k).2.2.1 = some (t_Mc k) := by decide +kernel
theorem df_Mc : ∀ j, j < 8 → defaultValue (t_Mc j) = vp_V [.null, .null, .null, .null, .null, .null, .null, .int 0] j := by decide +kernel
abbrev cl_all : List vw_C := [(R_CL, F_CL, 10), (R_Row, F_Row, 2), (R_Sha, F_Sha, 2), (R_Judge, F_Judge, 4), (R_Machine, F_Machine, 11), (R_Chain, F_Chain, 17), (R_Block, F_Block, 17), (R_Payment, F_Payment, 16), (R_Coins, F_Coins, 1), (R_Pool, F_Pool, 7), (R_AL, F_AL, 3), (R_Mo, F_Mo, 56), (R_Mc, F_Mc, 8)]
/-- the words that a contract may carry -/
def lw_all : List Cond := lw_tbl.filter goodWord
theorem lw_in {w : Cond} (h : w ∈ lw_tbl) (hg : goodWord w = true) : w ∈ lw_all := List.mem_filter.mpr ⟨h, hg⟩
theorem lw_t {w : Cond} (i : Nat) (h : tables_1[i]? = some w) (hg : goodWord w = true) : w ∈ lw_all := lw_in (List.mem_append_right _ (List.mem_of_getElem? h)) hg
theorem lw_u1 {w : Cond} (i : Nat) (h : tables_1_1[i]? = some w) (hg : goodWord w = true) : w ∈ lw_all := lw_in (List.mem_append_right _ (List.mem_append_left _ (List.mem_of_getElem? h) : w ∈ tables_1)) hg
theorem lw_u2 {w : Cond} (i : Nat) (h : tables_1_2[i]? = some w) (hg : goodWord w = true) : w ∈ lw_all := lw_in (List.mem_append_right _ (List.mem_append_right _ (List.mem_append_left _ (List.mem_of_getElem? h)) : w ∈ tables_1)) hg
theorem lw_u3 {w : Cond} (i : Nat) (h : tables_1_3[i]? = some w) (hg : goodWord w = true) : w ∈ lw_all := lw_in (List.mem_append_right _ (List.mem_append_right _ (List.mem_append_right _ (List.mem_append_left _ (List.mem_of_getElem? h))) : w ∈ tables_1)) hg
theorem lw_u4 {w : Cond} (i : Nat) (h : tables_1_4[i]? = some w) (hg : goodWord w = true) : w ∈ lw_all := lw_in (List.mem_append_right _ (List.mem_append_right _ (List.mem_append_right _ (List.mem_append_right _ (List.mem_append_left _ (List.mem_of_getElem? h)))) : w ∈ tables_1)) hg
theorem lw_u5 {w : Cond} (i : Nat) (h : tables_1_5[i]? = some w) (hg : goodWord w = true) : w ∈ lw_all := lw_in (List.mem_append_right _ (List.mem_append_right _ (List.mem_append_right _ (List.mem_append_right _ (List.mem_append_right _ (List.mem_append_left _ (List.mem_of_getElem? h))))) : w ∈ tables_1)) hg
theorem lw_u6 {w : Cond} (i : Nat) (h : tables_1_6[i]? = some w) (hg : goodWord w = true) : w ∈ lw_all := lw_in (List.mem_append_right _ (List.mem_append_right _ (List.mem_append_right _ (List.mem_append_right _ (List.mem_append_right _ (List.mem_append_right _ (List.mem_append_left _ (List.mem_of_getElem? h)))))) : w ∈ tables_1)) hg
theorem lw_u7 {w : Cond} (i : Nat) (h : tables_1_7[i]? = some w) (hg : goodWord w = true) : w ∈ lw_all := lw_in (List.mem_append_right _ (List.mem_append_right _ (List.mem_append_right _ (List.mem_append_right _ (List.mem_append_right _ (List.mem_append_right _ (List.mem_append_right _ (List.mem_of_getElem? h)))))) : w ∈ tables_1)) hg
theorem lw_s {w : Cond} (i : Nat) (h : (k2_sels lw_privs)[i]? = some w) (hg : goodWord w = true) : w ∈ lw_all := lw_in (List.mem_append_left _ (List.mem_of_getElem? h)) hg
theorem lw_g {c : Cond} (hc : c ∈ lw_all) : GoodIn lw_all (c :: lw_all) := fun w h => (List.mem_cons.mp h).elim (fun e => by rw [e]; exact ⟨hc, good_of_word (List.mem_filter.mp hc).2⟩) (fun h => ⟨h, good_of_word (List.mem_filter.mp h).2⟩)
theorem i_CL : ∀ w ∈ u_ws R_CL F_CL 10, w ∈ lw_all := fun w h => lw_in (List.mem_append_right _ ((by decide +kernel : ∀ v ∈ u_ws R_CL F_CL 10, v ∈ [465, 467, 469, 471, 473, 475, 477, 479, 481, 483].filterMap (fun i => tables_1[i]?)) w h |> fun h => by obtain ⟨i, -, hi⟩ := List.mem_filterMap.mp h; exact List.mem_of_getElem? hi)) ((by decide +kernel : ∀ v ∈ u_ws R_CL F_CL 10, goodWord v = true) w h)
theorem i_Row : ∀ w ∈ u_ws R_Row F_Row 2, w ∈ lw_all := fun w h => lw_in (List.mem_append_right _ ((by decide +kernel : ∀ v ∈ u_ws R_Row F_Row 2, v ∈ [44, 46].filterMap (fun i => tables_1[i]?)) w h |> fun h => by obtain ⟨i, -, hi⟩ := List.mem_filterMap.mp h; exact List.mem_of_getElem? hi)) ((by decide +kernel : ∀ v ∈ u_ws R_Row F_Row 2, goodWord v = true) w h)
theorem i_Sha : ∀ w ∈ u_ws R_Sha F_Sha 2, w ∈ lw_all := fun w h => lw_in (List.mem_append_right _ ((by decide +kernel : ∀ v ∈ u_ws R_Sha F_Sha 2, v ∈ [58, 60].filterMap (fun i => tables_1[i]?)) w h |> fun h => by obtain ⟨i, -, hi⟩ := List.mem_filterMap.mp h; exact List.mem_of_getElem? hi)) ((by decide +kernel : ∀ v ∈ u_ws R_Sha F_Sha 2, goodWord v = true) w h)
theorem i_Judge : ∀ w ∈ u_ws R_Judge F_Judge 4, w ∈ lw_all := fun w h => lw_in (List.mem_append_right _ ((by decide +kernel : ∀ v ∈ u_ws R_Judge F_Judge 4, v ∈ [122, 124, 126, 128].filterMap (fun i => tables_1[i]?)) w h |> fun h => by obtain ⟨i, -, hi⟩ := List.mem_filterMap.mp h; exact List.mem_of_getElem? hi)) ((by decide +kernel : ∀ v ∈ u_ws R_Judge F_Judge 4, goodWord v = true) w h)
theorem i_Machine : ∀ w ∈ u_ws R_Machine F_Machine 11, w ∈ lw_all := fun w h => lw_in (List.mem_append_right _ ((by decide +kernel : ∀ v ∈ u_ws R_Machine F_Machine 11, v ∈ [93, 95, 97, 99, 101, 103, 105, 107, 109, 111, 113].filterMap (fun i => tables_1[i]?)) w h |> fun h => by obtain ⟨i, -, hi⟩ := List.mem_filterMap.mp h; exact List.mem_of_getElem? hi)) ((by decide +kernel : ∀ v ∈ u_ws R_Machine F_Machine 11, goodWord v = true) w h)
theorem i_Chain : ∀ w ∈ u_ws R_Chain F_Chain 17, w ∈ lw_all := fun w h => lw_in (List.mem_append_right _ ((by decide +kernel : ∀ v ∈ u_ws R_Chain F_Chain 17, v ∈ [292, 294, 296, 298, 300, 302, 304, 306, 308, 310, 312, 314, 316, 318, 320, 322, 324].filterMap (fun i => tables_1[i]?)) w h |> fun h => by obtain ⟨i, -, hi⟩ := List.mem_filterMap.mp h; exact List.mem_of_getElem? hi)) ((by decide +kernel : ∀ v ∈ u_ws R_Chain F_Chain 17, goodWord v = true) w h)
theorem i_Block : ∀ w ∈ u_ws R_Block F_Block 17, w ∈ lw_all := fun w h => lw_in (List.mem_append_right _ ((by decide +kernel : ∀ v ∈ u_ws R_Block F_Block 17, v ∈ [229, 231, 233, 235, 237, 239, 241, 243, 245, 247, 249, 251, 253, 255, 257, 259, 261].filterMap (fun i => tables_1[i]?)) w h |> fun h => by obtain ⟨i, -, hi⟩ := List.mem_filterMap.mp h; exact List.mem_of_getElem? hi)) ((by decide +kernel : ∀ v ∈ u_ws R_Block F_Block 17, goodWord v = true) w h)
theorem i_Payment : ∀ w ∈ u_ws R_Payment F_Payment 16, w ∈ lw_all := fun w h => lw_in (List.mem_append_right _ ((by decide +kernel : ∀ v ∈ u_ws R_Payment F_Payment 16, v ∈ [422, 424, 426, 428, 430, 432, 434, 436, 438, 440, 442, 444, 446, 448, 450, 452].filterMap (fun i => tables_1[i]?)) w h |> fun h => by obtain ⟨i, -, hi⟩ := List.mem_filterMap.mp h; exact List.mem_of_getElem? hi)) ((by decide +kernel : ∀ v ∈ u_ws R_Payment F_Payment 16, goodWord v = true) w h)
theorem i_Coins : ∀ w ∈ u_ws R_Coins F_Coins 1, w ∈ lw_all := fun w h => lw_in (List.mem_append_right _ ((by decide +kernel : ∀ v ∈ u_ws R_Coins F_Coins 1, v ∈ [174].filterMap (fun i => tables_1[i]?)) w h |> fun h => by obtain ⟨i, -, hi⟩ := List.mem_filterMap.mp h; exact List.mem_of_getElem? hi)) ((by decide +kernel : ∀ v ∈ u_ws R_Coins F_Coins 1, goodWord v = true) w h)
theorem i_Pool : ∀ w ∈ u_ws R_Pool F_Pool 7, w ∈ lw_all := fun w h => lw_in (List.mem_append_right _ ((by decide +kernel : ∀ v ∈ u_ws R_Pool F_Pool 7, v ∈ [343, 345, 347, 349, 351, 353, 355].filterMap (fun i => tables_1[i]?)) w h |> fun h => by obtain ⟨i, -, hi⟩ := List.mem_filterMap.mp h; exact List.mem_of_getElem? hi)) ((by decide +kernel : ∀ v ∈ u_ws R_Pool F_Pool 7, goodWord v = true) w h)
theorem i_AL : ∀ w ∈ u_ws R_AL F_AL 3, w ∈ lw_all := fun w h => lw_in (List.mem_append_right _ ((by decide +kernel : ∀ v ∈ u_ws R_AL F_AL 3, v ∈ [169, 165, 167].filterMap (fun i => tables_1[i]?)) w h |> fun h => by obtain ⟨i, -, hi⟩ := List.mem_filterMap.mp h; exact List.mem_of_getElem? hi)) ((by decide +kernel : ∀ v ∈ u_ws R_AL F_AL 3, goodWord v = true) w h)
theorem i_Mo : ∀ w ∈ u_ws R_Mo F_Mo 56, w ∈ lw_all := fun w h => lw_in (List.mem_append_right _ ((by decide +kernel : ∀ v ∈ u_ws R_Mo F_Mo 56, v ∈ [1227, 1229, 1231, 1233, 1235, 1237, 1239, 1241, 1243, 1245, 1247, 1249, 1251, 1253, 1255, 1257, 1259, 1261, 1263, 1265, 1267, 1269, 1271, 1273, 1275, 1277, 1279, 1281, 1283, 1285, 1287, 1289, 1291, 1293, 1295, 1297, 1299, 1301, 1303, 1305, 1307, 1309, 1311, 1313, 1315, 1317, 1319, 1321, 1323, 1325, 1327, 1329, 1331, 1333, 1335, 1337].filterMap (fun i => tables_1[i]?)) w h |> fun h => by obtain ⟨i, -, hi⟩ := List.mem_filterMap.mp h; exact List.mem_of_getElem? hi)) ((by decide +kernel : ∀ v ∈ u_ws R_Mo F_Mo 56, goodWord v = true) w h)
theorem i_Mc : ∀ w ∈ u_ws R_Mc F_Mc 8, w ∈ lw_all := fun w h => lw_in (List.mem_append_right _ ((by decide +kernel : ∀ v ∈ u_ws R_Mc F_Mc 8, v ∈ [1152, 1154, 1156, 1158, 1160, 1162, 1164, 1166].filterMap (fun i => tables_1[i]?)) w h |> fun h => by obtain ⟨i, -, hi⟩ := List.mem_filterMap.mp h; exact List.mem_of_getElem? hi)) ((by decide +kernel : ∀ v ∈ u_ws R_Mc F_Mc 8, goodWord v = true) w h)
end
section
/-! methods: their code, names, words -/
abbrev b_AL_init : ByteArray := prog_23_method_2_code
def y_AL_init : MethodName := ⟨R_AL, "<init>", "()V"⟩
def w_AL_init : List Cond := .code y_AL_init b_AL_init 1 none :: lw_all
set_option maxRecDepth 20000 in
theorem g_AL_init : GoodIn lw_all w_AL_init := lw_g (lw_u1 150 rfl rfl)
abbrev b_AL_size : ByteArray := prog_23_method_8_code
def y_AL_size : MethodName := ⟨R_AL, "size", "()I"⟩
def w_AL_size : List Cond := .code y_AL_size b_AL_size 1 (some (.int)) :: lw_all
set_option maxRecDepth 20000 in
theorem g_AL_size : GoodIn lw_all w_AL_size := lw_g (lw_u3 115 rfl rfl)
abbrev b_Ab_init : ByteArray := prog_22_method_1_code
def y_Ab_init : MethodName := ⟨R_Ab, "<init>", "()V"⟩
def w_Ab_init : List Cond := .code y_Ab_init b_Ab_init 1 none :: lw_all
set_option maxRecDepth 20000 in
theorem g_Ab_init : GoodIn lw_all w_Ab_init := lw_g (lw_u1 153 rfl rfl)
abbrev b_Ac_init : ByteArray := prog_21_method_1_code
def y_Ac_init : MethodName := ⟨R_Ac, "<init>", "()V"⟩
def w_Ac_init : List Cond := .code y_Ac_init b_Ac_init 1 none :: lw_all
set_option maxRecDepth 20000 in
theorem g_Ac_init : GoodIn lw_all w_Ac_init := lw_g (lw_u1 156 rfl rfl)
abbrev b_Block_init : ByteArray := prog_2_method_1_code
def y_Block_init : MethodName := ⟨R_Block, "<init>", "()V"⟩
def w_Block_init : List Cond := .code y_Block_init b_Block_init 1 none :: lw_all
set_option maxRecDepth 20000 in
theorem g_Block_init : GoodIn lw_all w_Block_init := lw_g (lw_u1 184 rfl rfl)
abbrev b_Block_read : ByteArray := prog_2_method_2_code
def y_Block_read : MethodName := ⟨R_Block, "read", "([BILChainLedger$Sha;[B)Z"⟩
def w_Block_read : List Cond := .code y_Block_read b_Block_read 5 (some (.boolean)) :: lw_all
set_option maxRecDepth 20000 in
theorem g_Block_read : GoodIn lw_all w_Block_read := lw_g (lw_u3 36 rfl rfl)
abbrev b_CL_alter : ByteArray := prog_1_method_4_code
def y_CL_alter : MethodName := ⟨R_CL, "alter", "(II)I"⟩
def w_CL_alter : List Cond := .code y_CL_alter b_CL_alter 4 (some (.int)) :: lw_all
set_option maxRecDepth 20000 in
theorem g_CL_alter : GoodIn lw_all w_CL_alter := lw_g (lw_u3 24 rfl rfl)
abbrev b_CL_back : ByteArray := prog_1_method_13_code
def y_CL_back : MethodName := ⟨R_CL, "back", "()I"⟩
def w_CL_back : List Cond := .code y_CL_back b_CL_back 1 (some (.int)) :: lw_all
set_option maxRecDepth 20000 in
theorem g_CL_back : GoodIn lw_all w_CL_back := lw_g (lw_u5 118 rfl rfl)
abbrev b_CL_balance : ByteArray := prog_1_method_17_code
def y_CL_balance : MethodName := ⟨R_CL, "balance", "()J"⟩
def w_CL_balance : List Cond := .code y_CL_balance b_CL_balance 5 (some (.long)) :: lw_all
set_option maxRecDepth 20000 in
theorem g_CL_balance : GoodIn lw_all w_CL_balance := lw_g (lw_u5 137 rfl rfl)
abbrev b_CL_block : ByteArray := prog_1_method_5_code
def y_CL_block : MethodName := ⟨R_CL, "block", "()I"⟩
def w_CL_block : List Cond := .code y_CL_block b_CL_block 2 (some (.int)) :: lw_all
set_option maxRecDepth 20000 in
theorem g_CL_block : GoodIn lw_all w_CL_block := lw_g (lw_u3 28 rfl rfl)
abbrev b_CL_coin : ByteArray := prog_1_method_16_code
def y_CL_coin : MethodName := ⟨R_CL, "coin", "(II)I"⟩
def w_CL_coin : List Cond := .code y_CL_coin b_CL_coin 4 (some (.int)) :: lw_all
set_option maxRecDepth 20000 in
theorem g_CL_coin : GoodIn lw_all w_CL_coin := lw_g (lw_u5 132 rfl rfl)
abbrev b_CL_count : ByteArray := prog_1_method_20_code
def y_CL_count : MethodName := ⟨R_CL, "count", "(I)J"⟩
def w_CL_count : List Cond := .code y_CL_count b_CL_count 2 (some (.long)) :: lw_all
set_option maxRecDepth 20000 in
theorem g_CL_count : GoodIn lw_all w_CL_count := lw_g (lw_u5 156 rfl rfl)
abbrev b_CL_draft : ByteArray := prog_1_method_7_code
def y_CL_draft : MethodName := ⟨R_CL, "draft", "(IIIZ)I"⟩
def w_CL_draft : List Cond := .code y_CL_draft b_CL_draft 9 (some (.int)) :: lw_all
set_option maxRecDepth 20000 in
theorem g_CL_draft : GoodIn lw_all w_CL_draft := lw_g (lw_u5 38 rfl rfl)
abbrev b_CL_end : ByteArray := prog_1_method_3_code
def y_CL_end : MethodName := ⟨R_CL, "end", "(I)I"⟩
def w_CL_end : List Cond := .code y_CL_end b_CL_end 2 (some (.int)) :: lw_all
set_option maxRecDepth 20000 in
theorem g_CL_end : GoodIn lw_all w_CL_end := lw_g (lw_u3 20 rfl rfl)
abbrev b_CL_feed : ByteArray := prog_1_method_2_code
def y_CL_feed : MethodName := ⟨R_CL, "feed", "(IIIII)I"⟩
def w_CL_feed : List Cond := .code y_CL_feed b_CL_feed 6 (some (.int)) :: lw_all
set_option maxRecDepth 20000 in
theorem g_CL_feed : GoodIn lw_all w_CL_feed := lw_g (lw_u3 9 rfl rfl)
abbrev b_CL_init : ByteArray := prog_1_method_1_code
def y_CL_init : MethodName := ⟨R_CL, "<init>", "()V"⟩
def w_CL_init : List Cond := .code y_CL_init b_CL_init 1 none :: lw_all
set_option maxRecDepth 20000 in
theorem g_CL_init : GoodIn lw_all w_CL_init := lw_g (lw_u1 28 rfl rfl)
abbrev b_CL_mine : ByteArray := prog_1_method_8_code
def y_CL_mine : MethodName := ⟨R_CL, "mine", "(I)I"⟩
def w_CL_mine : List Cond := .code y_CL_mine b_CL_mine 4 (some (.int)) :: lw_all
set_option maxRecDepth 20000 in
theorem g_CL_mine : GoodIn lw_all w_CL_mine := lw_g (lw_u5 82 rfl rfl)
abbrev b_CL_numberAt : ByteArray := prog_1_method_25_code
def y_CL_numberAt : MethodName := ⟨R_CL, "numberAt", "([BI)I"⟩
def w_CL_numberAt : List Cond := .code y_CL_numberAt b_CL_numberAt 2 (some (.int)) :: lw_all
set_option maxRecDepth 20000 in
theorem g_CL_numberAt : GoodIn lw_all w_CL_numberAt := lw_g (lw_u3 39 rfl rfl)
abbrev b_CL_octet : ByteArray := prog_1_method_19_code
def y_CL_octet : MethodName := ⟨R_CL, "octet", "(I)I"⟩
def w_CL_octet : List Cond := .code y_CL_octet b_CL_octet 2 (some (.int)) :: lw_all
set_option maxRecDepth 20000 in
theorem g_CL_octet : GoodIn lw_all w_CL_octet := lw_g (lw_u5 152 rfl rfl)
abbrev b_CL_pay : ByteArray := prog_1_method_6_code
def y_CL_pay : MethodName := ⟨R_CL, "pay", "()I"⟩
def w_CL_pay : List Cond := .code y_CL_pay b_CL_pay 2 (some (.int)) :: lw_all
set_option maxRecDepth 20000 in
theorem g_CL_pay : GoodIn lw_all w_CL_pay := lw_g (lw_u5 26 rfl rfl)
abbrev b_CL_pooled : ByteArray := prog_1_method_18_code
def y_CL_pooled : MethodName := ⟨R_CL, "pooled", "(II)I"⟩
def w_CL_pooled : List Cond := .code y_CL_pooled b_CL_pooled 4 (some (.int)) :: lw_all
set_option maxRecDepth 20000 in
theorem g_CL_pooled : GoodIn lw_all w_CL_pooled := lw_g (lw_u5 148 rfl rfl)
abbrev b_CL_putNumber : ByteArray := prog_1_method_26_code
def y_CL_putNumber : MethodName := ⟨R_CL, "putNumber", "([BII)V"⟩
def w_CL_putNumber : List Cond := .code y_CL_putNumber b_CL_putNumber 3 none :: lw_all
set_option maxRecDepth 20000 in
theorem g_CL_putNumber : GoodIn lw_all w_CL_putNumber := lw_g (lw_u3 16 rfl rfl)
abbrev b_CL_putRoot : ByteArray := prog_1_method_23_code
def y_CL_putRoot : MethodName := ⟨R_CL, "putRoot", "(I)V"⟩
def w_CL_putRoot : List Cond := .code y_CL_putRoot b_CL_putRoot 3 none :: lw_all
set_option maxRecDepth 20000 in
theorem g_CL_putRoot : GoodIn lw_all w_CL_putRoot := lw_g (lw_u5 73 rfl rfl)
abbrev b_CL_readOutPayment : ByteArray := prog_1_method_24_code
def y_CL_readOutPayment : MethodName := ⟨R_CL, "readOutPayment", "()Z"⟩
def w_CL_readOutPayment : List Cond := .code y_CL_readOutPayment b_CL_readOutPayment 1 (some (.boolean)) :: lw_all
set_option maxRecDepth 20000 in
theorem g_CL_readOutPayment : GoodIn lw_all w_CL_readOutPayment := lw_g (lw_u5 100 rfl rfl)
abbrev b_CL_rewardAt : ByteArray := prog_1_method_29_code
def y_CL_rewardAt : MethodName := ⟨R_CL, "rewardAt", "(I)I"⟩
def w_CL_rewardAt : List Cond := .code y_CL_rewardAt b_CL_rewardAt 2 (some (.int)) :: lw_all
set_option maxRecDepth 20000 in
theorem g_CL_rewardAt : GoodIn lw_all w_CL_rewardAt := lw_g (lw_u4 101 rfl rfl)
abbrev b_CL_script : ByteArray := prog_1_method_11_code
def y_CL_script : MethodName := ⟨R_CL, "script", "(I)I"⟩
def w_CL_script : List Cond := .code y_CL_script b_CL_script 3 (some (.int)) :: lw_all
set_option maxRecDepth 20000 in
theorem g_CL_script : GoodIn lw_all w_CL_script := lw_g (lw_u5 110 rfl rfl)
abbrev b_CL_send : ByteArray := prog_1_method_12_code
def y_CL_send : MethodName := ⟨R_CL, "send", "()I"⟩
def w_CL_send : List Cond := .code y_CL_send b_CL_send 2 (some (.int)) :: lw_all
set_option maxRecDepth 20000 in
theorem g_CL_send : GoodIn lw_all w_CL_send := lw_g (lw_u5 114 rfl rfl)
abbrev b_CL_sign : ByteArray := prog_1_method_10_code
def y_CL_sign : MethodName := ⟨R_CL, "sign", "(II)I"⟩
def w_CL_sign : List Cond := .code y_CL_sign b_CL_sign 4 (some (.int)) :: lw_all
set_option maxRecDepth 20000 in
theorem g_CL_sign : GoodIn lw_all w_CL_sign := lw_g (lw_u5 96 rfl rfl)
abbrev b_CL_spend : ByteArray := prog_1_method_9_code
def y_CL_spend : MethodName := ⟨R_CL, "spend", "(IIIII)I"⟩
def w_CL_spend : List Cond := .code y_CL_spend b_CL_spend 10 (some (.int)) :: lw_all
set_option maxRecDepth 20000 in
theorem g_CL_spend : GoodIn lw_all w_CL_spend := lw_g (lw_u5 89 rfl rfl)
abbrev b_CL_stored : ByteArray := prog_1_method_15_code
def y_CL_stored : MethodName := ⟨R_CL, "stored", "(II)I"⟩
def w_CL_stored : List Cond := .code y_CL_stored b_CL_stored 4 (some (.int)) :: lw_all
set_option maxRecDepth 20000 in
theorem g_CL_stored : GoodIn lw_all w_CL_stored := lw_g (lw_u5 128 rfl rfl)
abbrev b_CL_tip : ByteArray := prog_1_method_14_code
def y_CL_tip : MethodName := ⟨R_CL, "tip", "(I)J"⟩
def w_CL_tip : List Cond := .code y_CL_tip b_CL_tip 2 (some (.long)) :: lw_all
set_option maxRecDepth 20000 in
theorem g_CL_tip : GoodIn lw_all w_CL_tip := lw_g (lw_u5 122 rfl rfl)
abbrev b_CL_writeFirst : ByteArray := prog_1_method_22_code
def y_CL_writeFirst : MethodName := ⟨R_CL, "writeFirst", "(IJI)V"⟩
def w_CL_writeFirst : List Cond := .code y_CL_writeFirst b_CL_writeFirst 5 none :: lw_all
set_option maxRecDepth 20000 in
theorem g_CL_writeFirst : GoodIn lw_all w_CL_writeFirst := lw_g (lw_u5 61 rfl rfl)
abbrev b_CL_writeHeader : ByteArray := prog_1_method_21_code
def y_CL_writeHeader : MethodName := ⟨R_CL, "writeHeader", "(LChainLedger$Block;I)V"⟩
def w_CL_writeHeader : List Cond := .code y_CL_writeHeader b_CL_writeHeader 3 none :: lw_all
set_option maxRecDepth 20000 in
theorem g_CL_writeHeader : GoodIn lw_all w_CL_writeHeader := lw_g (lw_u5 50 rfl rfl)
abbrev b_Chain_dueTarget : ByteArray := prog_3_method_9_code
def y_Chain_dueTarget : MethodName := ⟨R_Chain, "dueTarget", "(LChainLedger$Block;)I"⟩
def w_Chain_dueTarget : List Cond := .code y_Chain_dueTarget b_Chain_dueTarget 4 (some (.int)) :: lw_all
set_option maxRecDepth 20000 in
theorem g_Chain_dueTarget : GoodIn lw_all w_Chain_dueTarget := lw_g (lw_u3 141 rfl rfl)
abbrev b_Chain_init : ByteArray := prog_3_method_1_code
def y_Chain_init : MethodName := ⟨R_Chain, "<init>", "(LChainLedger$Sha;LChainLedger$Judge;)V"⟩
def w_Chain_init : List Cond := .code y_Chain_init b_Chain_init 4 none :: lw_all
set_option maxRecDepth 20000 in
theorem g_Chain_init : GoodIn lw_all w_Chain_init := lw_g (lw_u1 135 rfl rfl)
abbrev b_Chain_listLeft : ByteArray := prog_3_method_17_code
def y_Chain_listLeft : MethodName := ⟨R_Chain, "listLeft", "(LChainLedger$Block;)V"⟩
def w_Chain_listLeft : List Cond := .code y_Chain_listLeft b_Chain_listLeft 3 none :: lw_all
set_option maxRecDepth 20000 in
theorem g_Chain_listLeft : GoodIn lw_all w_Chain_listLeft := lw_g (lw_u5 4 rfl rfl)
abbrev b_Chain_numbered : ByteArray := prog_3_method_2_code
def y_Chain_numbered : MethodName := ⟨R_Chain, "numbered", "(I)LChainLedger$Block;"⟩
def w_Chain_numbered : List Cond := .code y_Chain_numbered b_Chain_numbered 2 (some (.object "ChainLedger$Block")) :: lw_all
set_option maxRecDepth 20000 in
theorem g_Chain_numbered : GoodIn lw_all w_Chain_numbered := lw_g (lw_u5 42 rfl rfl)
abbrev b_Chain_receive : ByteArray := prog_3_method_3_code
def y_Chain_receive : MethodName := ⟨R_Chain, "receive", "([BI)I"⟩
def w_Chain_receive : List Cond := .code y_Chain_receive b_Chain_receive 5 (some (.int)) :: lw_all
set_option maxRecDepth 20000 in
theorem g_Chain_receive : GoodIn lw_all w_Chain_receive := lw_g (lw_u3 32 rfl rfl)
abbrev b_Chain_settle : ByteArray := prog_3_method_13_code
def y_Chain_settle : MethodName := ⟨R_Chain, "settle", "()V"⟩
def w_Chain_settle : List Cond := .code y_Chain_settle b_Chain_settle 6 none :: lw_all
set_option maxRecDepth 20000 in
theorem g_Chain_settle : GoodIn lw_all w_Chain_settle := lw_g (lw_u4 8 rfl rfl)
abbrev b_Coins_init : ByteArray := prog_5_method_1_code
def y_Coins_init : MethodName := ⟨R_Coins, "<init>", "()V"⟩
def w_Coins_init : List Cond := .code y_Coins_init b_Coins_init 1 none :: lw_all
set_option maxRecDepth 20000 in
theorem g_Coins_init : GoodIn lw_all w_Coins_init := lw_g (lw_u1 141 rfl rfl)
abbrev b_Coins_total : ByteArray := prog_5_method_7_code
def y_Coins_total : MethodName := ⟨R_Coins, "total", "()J"⟩
def w_Coins_total : List Cond := .code y_Coins_total b_Coins_total 4 (some (.long)) :: lw_all
set_option maxRecDepth 20000 in
theorem g_Coins_total : GoodIn lw_all w_Coins_total := lw_g (lw_u5 160 rfl rfl)
abbrev b_Judge_init : ByteArray := prog_6_method_1_code
def y_Judge_init : MethodName := ⟨R_Judge, "<init>", "(LChainLedger$Sha;)V"⟩
def w_Judge_init : List Cond := .code y_Judge_init b_Judge_init 2 none :: lw_all
set_option maxRecDepth 20000 in
theorem g_Judge_init : GoodIn lw_all w_Judge_init := lw_g (lw_u1 68 rfl rfl)
abbrev b_Machine_init : ByteArray := prog_7_method_1_code
def y_Machine_init : MethodName := ⟨R_Machine, "<init>", "(LChainLedger$Sha;)V"⟩
def w_Machine_init : List Cond := .code y_Machine_init b_Machine_init 2 none :: lw_all
set_option maxRecDepth 20000 in
theorem g_Machine_init : GoodIn lw_all w_Machine_init := lw_g (lw_u1 78 rfl rfl)
abbrev b_Mc_init : ByteArray := prog_15_method_1_code
def y_Mc_init : MethodName := ⟨R_Mc, "<init>", "()V"⟩
def w_Mc_init : List Cond := .code y_Mc_init b_Mc_init 1 none :: lw_all
set_option maxRecDepth 20000 in
theorem g_Mc_init : GoodIn lw_all w_Mc_init := lw_g (lw_u5 174 rfl rfl)
abbrev b_Mo_accept : ByteArray := prog_14_method_41_code
def y_Mo_accept : MethodName := ⟨R_Mo, "accept", "(II)I"⟩
def w_Mo_accept : List Cond := .code y_Mo_accept b_Mo_accept 11 (some (.int)) :: lw_all
set_option maxRecDepth 20000 in
theorem g_Mo_accept : GoodIn lw_all w_Mo_accept := lw_g (lw_u7 99 rfl rfl)
abbrev b_Mo_alter : ByteArray := prog_14_method_47_code
def y_Mo_alter : MethodName := ⟨R_Mo, "alter", "(II)I"⟩
def w_Mo_alter : List Cond := .code y_Mo_alter b_Mo_alter 4 (some (.int)) :: lw_all
set_option maxRecDepth 20000 in
theorem g_Mo_alter : GoodIn lw_all w_Mo_alter := lw_g (lw_u6 156 rfl rfl)
abbrev b_Mo_ancestor : ByteArray := prog_14_method_11_code
def y_Mo_ancestor : MethodName := ⟨R_Mo, "ancestor", "(II)I"⟩
def w_Mo_ancestor : List Cond := .code y_Mo_ancestor b_Mo_ancestor 4 (some (.int)) :: lw_all
set_option maxRecDepth 20000 in
theorem g_Mo_ancestor : GoodIn lw_all w_Mo_ancestor := lw_g (lw_u6 222 rfl rfl)
abbrev b_Mo_back : ByteArray := prog_14_method_60_code
def y_Mo_back : MethodName := ⟨R_Mo, "back", "()I"⟩
def w_Mo_back : List Cond := .code y_Mo_back b_Mo_back 2 (some (.int)) :: lw_all
set_option maxRecDepth 20000 in
theorem g_Mo_back : GoodIn lw_all w_Mo_back := lw_g (lw_u7 172 rfl rfl)
abbrev b_Mo_balance : ByteArray := prog_14_method_64_code
def y_Mo_balance : MethodName := ⟨R_Mo, "balance", "()J"⟩
def w_Mo_balance : List Cond := .code y_Mo_balance b_Mo_balance 4 (some (.long)) :: lw_all
set_option maxRecDepth 20000 in
theorem g_Mo_balance : GoodIn lw_all w_Mo_balance := lw_g (lw_u7 188 rfl rfl)
abbrev b_Mo_block : ByteArray := prog_14_method_48_code
def y_Mo_block : MethodName := ⟨R_Mo, "block", "()I"⟩
def w_Mo_block : List Cond := .code y_Mo_block b_Mo_block 2 (some (.int)) :: lw_all
set_option maxRecDepth 20000 in
theorem g_Mo_block : GoodIn lw_all w_Mo_block := lw_g (lw_u6 160 rfl rfl)
abbrev b_Mo_coin : ByteArray := prog_14_method_63_code
def y_Mo_coin : MethodName := ⟨R_Mo, "coin", "(II)I"⟩
def w_Mo_coin : List Cond := .code y_Mo_coin b_Mo_coin 4 (some (.int)) :: lw_all
set_option maxRecDepth 20000 in
theorem g_Mo_coin : GoodIn lw_all w_Mo_coin := lw_g (lw_u7 184 rfl rfl)
abbrev b_Mo_coinAt : ByteArray := prog_14_method_54_code
def y_Mo_coinAt : MethodName := ⟨R_Mo, "coinAt", "(I)I"⟩
def w_Mo_coinAt : List Cond := .code y_Mo_coinAt b_Mo_coinAt 5 (some (.int)) :: lw_all
set_option maxRecDepth 20000 in
theorem g_Mo_coinAt : GoodIn lw_all w_Mo_coinAt := lw_g (lw_u7 143 rfl rfl)
abbrev b_Mo_come : ByteArray := prog_14_method_39_code
def y_Mo_come : MethodName := ⟨R_Mo, "come", "(II)I"⟩
def w_Mo_come : List Cond := .code y_Mo_come b_Mo_come 5 (some (.int)) :: lw_all
set_option maxRecDepth 20000 in
theorem g_Mo_come : GoodIn lw_all w_Mo_come := lw_g (lw_u6 164 rfl rfl)
abbrev b_Mo_count : ByteArray := prog_14_method_67_code
def y_Mo_count : MethodName := ⟨R_Mo, "count", "(I)J"⟩
def w_Mo_count : List Cond := .code y_Mo_count b_Mo_count 5 (some (.long)) :: lw_all
set_option maxRecDepth 20000 in
theorem g_Mo_count : GoodIn lw_all w_Mo_count := lw_g (lw_u7 200 rfl rfl)
abbrev b_Mo_draft : ByteArray := prog_14_method_51_code
def y_Mo_draft : MethodName := ⟨R_Mo, "draft", "(IIIZ)I"⟩
def w_Mo_draft : List Cond := .code y_Mo_draft b_Mo_draft 14 (some (.int)) :: lw_all
set_option maxRecDepth 20000 in
theorem g_Mo_draft : GoodIn lw_all w_Mo_draft := lw_g (lw_u7 111 rfl rfl)
abbrev b_Mo_due : ByteArray := prog_14_method_13_code
def y_Mo_due : MethodName := ⟨R_Mo, "due", "(I)I"⟩
def w_Mo_due : List Cond := .code y_Mo_due b_Mo_due 5 (some (.int)) :: lw_all
set_option maxRecDepth 20000 in
theorem g_Mo_due : GoodIn lw_all w_Mo_due := lw_g (lw_u6 218 rfl rfl)
abbrev b_Mo_end : ByteArray := prog_14_method_46_code
def y_Mo_end : MethodName := ⟨R_Mo, "end", "(I)I"⟩
def w_Mo_end : List Cond := .code y_Mo_end b_Mo_end 2 (some (.int)) :: lw_all
set_option maxRecDepth 20000 in
theorem g_Mo_end : GoodIn lw_all w_Mo_end := lw_g (lw_u6 152 rfl rfl)
abbrev b_Mo_feed : ByteArray := prog_14_method_45_code
def y_Mo_feed : MethodName := ⟨R_Mo, "feed", "(IIIII)I"⟩
def w_Mo_feed : List Cond := .code y_Mo_feed b_Mo_feed 6 (some (.int)) :: lw_all
set_option maxRecDepth 20000 in
theorem g_Mo_feed : GoodIn lw_all w_Mo_feed := lw_g (lw_u6 143 rfl rfl)
abbrev b_Mo_hash : ByteArray := prog_14_method_4_code
def y_Mo_hash : MethodName := ⟨R_Mo, "hash", "([BII[BI)V"⟩
def w_Mo_hash : List Cond := .code y_Mo_hash b_Mo_hash 6 none :: lw_all
set_option maxRecDepth 20000 in
theorem g_Mo_hash : GoodIn lw_all w_Mo_hash := lw_g (lw_u6 181 rfl rfl)
abbrev b_Mo_inChain : ByteArray := prog_14_method_42_code
def y_Mo_inChain : MethodName := ⟨R_Mo, "inChain", "(II)Z"⟩
def w_Mo_inChain : List Cond := .code y_Mo_inChain b_Mo_inChain 3 (some (.boolean)) :: lw_all
set_option maxRecDepth 20000 in
theorem g_Mo_inChain : GoodIn lw_all w_Mo_inChain := lw_g (lw_u7 95 rfl rfl)
abbrev b_Mo_init : ByteArray := prog_14_method_1_code
def y_Mo_init : MethodName := ⟨R_Mo, "<init>", "()V"⟩
def w_Mo_init : List Cond := .code y_Mo_init b_Mo_init 1 none :: lw_all
set_option maxRecDepth 20000 in
theorem g_Mo_init : GoodIn lw_all w_Mo_init := lw_g (lw_u5 166 rfl rfl)
abbrev b_Mo_mine : ByteArray := prog_14_method_52_code
def y_Mo_mine : MethodName := ⟨R_Mo, "mine", "(I)I"⟩
def w_Mo_mine : List Cond := .code y_Mo_mine b_Mo_mine 3 (some (.int)) :: lw_all
set_option maxRecDepth 20000 in
theorem g_Mo_mine : GoodIn lw_all w_Mo_mine := lw_g (lw_u7 135 rfl rfl)
abbrev b_Mo_octet : ByteArray := prog_14_method_66_code
def y_Mo_octet : MethodName := ⟨R_Mo, "octet", "(I)I"⟩
def w_Mo_octet : List Cond := .code y_Mo_octet b_Mo_octet 2 (some (.int)) :: lw_all
set_option maxRecDepth 20000 in
theorem g_Mo_octet : GoodIn lw_all w_Mo_octet := lw_g (lw_u7 196 rfl rfl)
abbrev b_Mo_pay : ByteArray := prog_14_method_49_code
def y_Mo_pay : MethodName := ⟨R_Mo, "pay", "()I"⟩
def w_Mo_pay : List Cond := .code y_Mo_pay b_Mo_pay 2 (some (.int)) :: lw_all
set_option maxRecDepth 20000 in
theorem g_Mo_pay : GoodIn lw_all w_Mo_pay := lw_g (lw_u7 107 rfl rfl)
abbrev b_Mo_pooled : ByteArray := prog_14_method_65_code
def y_Mo_pooled : MethodName := ⟨R_Mo, "pooled", "(II)I"⟩
def w_Mo_pooled : List Cond := .code y_Mo_pooled b_Mo_pooled 3 (some (.int)) :: lw_all
set_option maxRecDepth 20000 in
theorem g_Mo_pooled : GoodIn lw_all w_Mo_pooled := lw_g (lw_u7 192 rfl rfl)
abbrev b_Mo_put : ByteArray := prog_14_method_44_code
def y_Mo_put : MethodName := ⟨R_Mo, "put", "(I)V"⟩
def w_Mo_put : List Cond := .code y_Mo_put b_Mo_put 3 none :: lw_all
set_option maxRecDepth 20000 in
theorem g_Mo_put : GoodIn lw_all w_Mo_put := lw_g (lw_u6 147 rfl rfl)
abbrev b_Mo_read : ByteArray := prog_14_method_8_code
def y_Mo_read : MethodName := ⟨R_Mo, "read", "(II)I"⟩
def w_Mo_read : List Cond := .code y_Mo_read b_Mo_read 5 (some (.int)) :: lw_all
set_option maxRecDepth 20000 in
theorem g_Mo_read : GoodIn lw_all w_Mo_read := lw_g (lw_u6 177 rfl rfl)
abbrev b_Mo_reward : ByteArray := prog_14_method_16_code
def y_Mo_reward : MethodName := ⟨R_Mo, "reward", "(I)I"⟩
def w_Mo_reward : List Cond := .code y_Mo_reward b_Mo_reward 1 (some (.int)) :: lw_all
set_option maxRecDepth 20000 in
theorem g_Mo_reward : GoodIn lw_all w_Mo_reward := lw_g (lw_u7 18 rfl rfl)
abbrev b_Mo_root : ByteArray := prog_14_method_10_code
def y_Mo_root : MethodName := ⟨R_Mo, "root", "(I)V"⟩
def w_Mo_root : List Cond := .code y_Mo_root b_Mo_root 7 none :: lw_all
set_option maxRecDepth 20000 in
theorem g_Mo_root : GoodIn lw_all w_Mo_root := lw_g (lw_u6 201 rfl rfl)
abbrev b_Mo_round : ByteArray := prog_14_method_2_code
def y_Mo_round : MethodName := ⟨R_Mo, "round", "()V"⟩
def w_Mo_round : List Cond := .code y_Mo_round b_Mo_round 12 none :: lw_all
set_option maxRecDepth 20000 in
theorem g_Mo_round : GoodIn lw_all w_Mo_round := lw_g (lw_u6 192 rfl rfl)
abbrev b_Mo_script : ByteArray := prog_14_method_58_code
def y_Mo_script : MethodName := ⟨R_Mo, "script", "(I)I"⟩
def w_Mo_script : List Cond := .code y_Mo_script b_Mo_script 3 (some (.int)) :: lw_all
set_option maxRecDepth 20000 in
theorem g_Mo_script : GoodIn lw_all w_Mo_script := lw_g (lw_u7 164 rfl rfl)
abbrev b_Mo_send : ByteArray := prog_14_method_59_code
def y_Mo_send : MethodName := ⟨R_Mo, "send", "()I"⟩
def w_Mo_send : List Cond := .code y_Mo_send b_Mo_send 1 (some (.int)) :: lw_all
set_option maxRecDepth 20000 in
theorem g_Mo_send : GoodIn lw_all w_Mo_send := lw_g (lw_u7 168 rfl rfl)
abbrev b_Mo_setNumber : ByteArray := prog_14_method_7_code
def y_Mo_setNumber : MethodName := ⟨R_Mo, "setNumber", "(II)V"⟩
def w_Mo_setNumber : List Cond := .code y_Mo_setNumber b_Mo_setNumber 4 none :: lw_all
set_option maxRecDepth 20000 in
theorem g_Mo_setNumber : GoodIn lw_all w_Mo_setNumber := lw_g (lw_u7 118 rfl rfl)
abbrev b_Mo_sha : ByteArray := prog_14_method_3_code
def y_Mo_sha : MethodName := ⟨R_Mo, "sha", "([BII[BI)V"⟩
def w_Mo_sha : List Cond := .code y_Mo_sha b_Mo_sha 13 none :: lw_all
set_option maxRecDepth 20000 in
theorem g_Mo_sha : GoodIn lw_all w_Mo_sha := lw_g (lw_u6 185 rfl rfl)
abbrev b_Mo_sign : ByteArray := prog_14_method_57_code
def y_Mo_sign : MethodName := ⟨R_Mo, "sign", "(II)I"⟩
def w_Mo_sign : List Cond := .code y_Mo_sign b_Mo_sign 5 (some (.int)) :: lw_all
set_option maxRecDepth 20000 in
theorem g_Mo_sign : GoodIn lw_all w_Mo_sign := lw_g (lw_u7 154 rfl rfl)
abbrev b_Mo_spend : ByteArray := prog_14_method_55_code
def y_Mo_spend : MethodName := ⟨R_Mo, "spend", "(IIIII)I"⟩
def w_Mo_spend : List Cond := .code y_Mo_spend b_Mo_spend 11 (some (.int)) :: lw_all
set_option maxRecDepth 20000 in
theorem g_Mo_spend : GoodIn lw_all w_Mo_spend := lw_g (lw_u7 139 rfl rfl)
abbrev b_Mo_standard : ByteArray := prog_14_method_50_code
def y_Mo_standard : MethodName := ⟨R_Mo, "standard", "(II)I"⟩
def w_Mo_standard : List Cond := .code y_Mo_standard b_Mo_standard 3 (some (.int)) :: lw_all
set_option maxRecDepth 20000 in
theorem g_Mo_standard : GoodIn lw_all w_Mo_standard := lw_g (lw_u7 130 rfl rfl)
abbrev b_Mo_stored : ByteArray := prog_14_method_62_code
def y_Mo_stored : MethodName := ⟨R_Mo, "stored", "(II)I"⟩
def w_Mo_stored : List Cond := .code y_Mo_stored b_Mo_stored 3 (some (.int)) :: lw_all
set_option maxRecDepth 20000 in
theorem g_Mo_stored : GoodIn lw_all w_Mo_stored := lw_g (lw_u7 180 rfl rfl)
abbrev b_Mo_tip : ByteArray := prog_14_method_61_code
def y_Mo_tip : MethodName := ⟨R_Mo, "tip", "(I)J"⟩
def w_Mo_tip : List Cond := .code y_Mo_tip b_Mo_tip 5 (some (.long)) :: lw_all
set_option maxRecDepth 20000 in
theorem g_Mo_tip : GoodIn lw_all w_Mo_tip := lw_g (lw_u7 176 rfl rfl)
abbrev b_Mo_wellFormed : ByteArray := prog_14_method_9_code
def y_Mo_wellFormed : MethodName := ⟨R_Mo, "wellFormed", "(II)Z"⟩
def w_Mo_wellFormed : List Cond := .code y_Mo_wellFormed b_Mo_wellFormed 9 (some (.boolean)) :: lw_all
set_option maxRecDepth 20000 in
theorem g_Mo_wellFormed : GoodIn lw_all w_Mo_wellFormed := lw_g (lw_u6 168 rfl rfl)
abbrev b_Payment_init : ByteArray := prog_8_method_1_code
def y_Payment_init : MethodName := ⟨R_Payment, "<init>", "()V"⟩
def w_Payment_init : List Cond := .code y_Payment_init b_Payment_init 1 none :: lw_all
set_option maxRecDepth 20000 in
theorem g_Payment_init : GoodIn lw_all w_Payment_init := lw_g (lw_u2 122 rfl rfl)
abbrev b_Payment_read : ByteArray := prog_8_method_2_code
def y_Payment_read : MethodName := ⟨R_Payment, "read", "([BII)I"⟩
def w_Payment_read : List Cond := .code y_Payment_read b_Payment_read 5 (some (.int)) :: lw_all
set_option maxRecDepth 20000 in
theorem g_Payment_read : GoodIn lw_all w_Payment_read := lw_g (lw_u3 72 rfl rfl)
abbrev b_Pool_feesOf : ByteArray := prog_9_method_8_code
def y_Pool_feesOf : MethodName := ⟨R_Pool, "feesOf", "(I)J"⟩
def w_Pool_feesOf : List Cond := .code y_Pool_feesOf b_Pool_feesOf 5 (some (.long)) :: lw_all
set_option maxRecDepth 20000 in
theorem g_Pool_feesOf : GoodIn lw_all w_Pool_feesOf := lw_g (lw_u5 57 rfl rfl)
abbrev b_Pool_fitting : ByteArray := prog_9_method_7_code
def y_Pool_fitting : MethodName := ⟨R_Pool, "fitting", "(I)I"⟩
def w_Pool_fitting : List Cond := .code y_Pool_fitting b_Pool_fitting 4 (some (.int)) :: lw_all
set_option maxRecDepth 20000 in
theorem g_Pool_fitting : GoodIn lw_all w_Pool_fitting := lw_g (lw_u5 46 rfl rfl)
abbrev b_Pool_hasAmong : ByteArray := prog_9_method_5_code
def y_Pool_hasAmong : MethodName := ⟨R_Pool, "hasAmong", "(I[B)Z"⟩
def w_Pool_hasAmong : List Cond := .code y_Pool_hasAmong b_Pool_hasAmong 4 (some (.boolean)) :: lw_all
set_option maxRecDepth 20000 in
theorem g_Pool_hasAmong : GoodIn lw_all w_Pool_hasAmong := lw_g (lw_u5 20 rfl rfl)
abbrev b_Pool_init : ByteArray := prog_9_method_1_code
def y_Pool_init : MethodName := ⟨R_Pool, "<init>", "(LChainLedger$Sha;LChainLedger$Judge;LChainLedger$Chain;)V"⟩
def w_Pool_init : List Cond := .code y_Pool_init b_Pool_init 4 none :: lw_all
set_option maxRecDepth 20000 in
theorem g_Pool_init : GoodIn lw_all w_Pool_init := lw_g (lw_u2 91 rfl rfl)
abbrev b_Pool_receive : ByteArray := prog_9_method_2_code
def y_Pool_receive : MethodName := ⟨R_Pool, "receive", "([BI)I"⟩
def w_Pool_receive : List Cond := .code y_Pool_receive b_Pool_receive 5 (some (.int)) :: lw_all
set_option maxRecDepth 20000 in
theorem g_Pool_receive : GoodIn lw_all w_Pool_receive := lw_g (lw_u5 30 rfl rfl)
abbrev b_Pool_renew : ByteArray := prog_9_method_3_code
def y_Pool_renew : MethodName := ⟨R_Pool, "renew", "()V"⟩
def w_Pool_renew : List Cond := .code y_Pool_renew b_Pool_renew 5 none :: lw_all
set_option maxRecDepth 20000 in
theorem g_Pool_renew : GoodIn lw_all w_Pool_renew := lw_g (lw_u5 8 rfl rfl)
abbrev b_Row_addByte : ByteArray := prog_10_method_2_code
def y_Row_addByte : MethodName := ⟨R_Row, "addByte", "(I)V"⟩
def w_Row_addByte : List Cond := .code y_Row_addByte b_Row_addByte 2 none :: lw_all
set_option maxRecDepth 20000 in
theorem g_Row_addByte : GoodIn lw_all w_Row_addByte := lw_g (lw_u4 142 rfl rfl)
abbrev b_Row_addBytes : ByteArray := prog_10_method_4_code
def y_Row_addBytes : MethodName := ⟨R_Row, "addBytes", "([BII)V"⟩
def w_Row_addBytes : List Cond := .code y_Row_addBytes b_Row_addBytes 4 none :: lw_all
set_option maxRecDepth 20000 in
theorem g_Row_addBytes : GoodIn lw_all w_Row_addBytes := lw_g (lw_u4 137 rfl rfl)
abbrev b_Row_addKeyOutput : ByteArray := prog_10_method_5_code
def y_Row_addKeyOutput : MethodName := ⟨R_Row, "addKeyOutput", "(II)V"⟩
def w_Row_addKeyOutput : List Cond := .code y_Row_addKeyOutput b_Row_addKeyOutput 3 none :: lw_all
set_option maxRecDepth 20000 in
theorem g_Row_addKeyOutput : GoodIn lw_all w_Row_addKeyOutput := lw_g (lw_u5 66 rfl rfl)
abbrev b_Row_addNumber : ByteArray := prog_10_method_3_code
def y_Row_addNumber : MethodName := ⟨R_Row, "addNumber", "(I)V"⟩
def w_Row_addNumber : List Cond := .code y_Row_addNumber b_Row_addNumber 2 none :: lw_all
set_option maxRecDepth 20000 in
theorem g_Row_addNumber : GoodIn lw_all w_Row_addNumber := lw_g (lw_u3 13 rfl rfl)
abbrev b_Row_init : ByteArray := prog_10_method_1_code
def y_Row_init : MethodName := ⟨R_Row, "<init>", "()V"⟩
def w_Row_init : List Cond := .code y_Row_init b_Row_init 1 none :: lw_all
set_option maxRecDepth 20000 in
theorem g_Row_init : GoodIn lw_all w_Row_init := lw_g (lw_u1 36 rfl rfl)
abbrev b_Sha_digest : ByteArray := prog_11_method_2_code
def y_Sha_digest : MethodName := ⟨R_Sha, "digest", "([BIII[BI)V"⟩
def w_Sha_digest : List Cond := .code y_Sha_digest b_Sha_digest 13 none :: lw_all
set_option maxRecDepth 20000 in
theorem g_Sha_digest : GoodIn lw_all w_Sha_digest := lw_g (lw_u3 44 rfl rfl)
abbrev b_Sha_foldToRoot : ByteArray := prog_11_method_3_code
def y_Sha_foldToRoot : MethodName := ⟨R_Sha, "foldToRoot", "([BI)V"⟩
def w_Sha_foldToRoot : List Cond := .code y_Sha_foldToRoot b_Sha_foldToRoot 5 none :: lw_all
set_option maxRecDepth 20000 in
theorem g_Sha_foldToRoot : GoodIn lw_all w_Sha_foldToRoot := lw_g (lw_u3 101 rfl rfl)
abbrev b_Sha_init : ByteArray := prog_11_method_1_code
def y_Sha_init : MethodName := ⟨R_Sha, "<init>", "()V"⟩
def w_Sha_init : List Cond := .code y_Sha_init b_Sha_init 1 none :: lw_all
set_option maxRecDepth 20000 in
theorem g_Sha_init : GoodIn lw_all w_Sha_init := lw_g (lw_u1 54 rfl rfl)
abbrev b_Sha_load : ByteArray := prog_11_method_4_code
def y_Sha_load : MethodName := ⟨R_Sha, "load", "([BIII)V"⟩
def w_Sha_load : List Cond := .code y_Sha_load b_Sha_load 8 none :: lw_all
set_option maxRecDepth 20000 in
theorem g_Sha_load : GoodIn lw_all w_Sha_load := lw_g (lw_u3 53 rfl rfl)
abbrev b_Sha_mix : ByteArray := prog_11_method_5_code
def y_Sha_mix : MethodName := ⟨R_Sha, "mix", "()V"⟩
def w_Sha_mix : List Cond := .code y_Sha_mix b_Sha_mix 14 none :: lw_all
set_option maxRecDepth 20000 in
theorem g_Sha_mix : GoodIn lw_all w_Sha_mix := lw_g (lw_u3 57 rfl rfl)
abbrev b_View_init : ByteArray := prog_12_method_1_code
def y_View_init : MethodName := ⟨R_View, "<init>", "()V"⟩
def w_View_init : List Cond := .code y_View_init b_View_init 1 none :: lw_all
set_option maxRecDepth 20000 in
theorem g_View_init : GoodIn lw_all w_View_init := lw_g (lw_u1 144 rfl rfl)
theorem k_0 : (.methodLink R_View 1 objectInit : Cond) ∈ lw_all := lw_t 145 (by decide +kernel) rfl
theorem k_1 : (.instanceMethod objectInit : Cond) ∈ lw_all := lw_t 30 (by decide +kernel) rfl
theorem k_2 : (.code objectInit ⟨#[0xb1]⟩ 1 none : Cond) ∈ lw_all := lw_t 31 rfl rfl
theorem k_3 : (.methodLink R_Ac 1 objectInit : Cond) ∈ lw_all := lw_t 157 (by decide +kernel) rfl
theorem k_4 : (.initialized R_Ac : Cond) ∈ lw_all := lw_t 9 (by decide +kernel) rfl
theorem k_5 : (.methodLink R_Ab 1 y_Ac_init : Cond) ∈ lw_all := lw_t 154 (by decide +kernel) rfl
theorem k_6 : (.instanceMethod y_Ac_init : Cond) ∈ lw_all := lw_t 155 (by decide +kernel) rfl
theorem k_7 : (.fieldLink R_Ab 7 "java/util/AbstractList" "modCount" "I" : Cond) ∈ lw_all := lw_t 162 (by decide +kernel) rfl
theorem k_8 : (.initialized R_Ab : Cond) ∈ lw_all := lw_t 10 (by decide +kernel) rfl
theorem k_9 : (.methodLink R_AL 1 y_Ab_init : Cond) ∈ lw_all := lw_t 151 (by decide +kernel) rfl
theorem k_10 : (.instanceMethod y_Ab_init : Cond) ∈ lw_all := lw_t 152 (by decide +kernel) rfl
theorem k_11 : (.fieldLink R_AL 39 "java/util/ArrayList" "DEFAULTCAPACITY_EMPTY_ELEMENTDATA" "[Ljava/lang/Object;" : Cond) ∈ lw_all := lw_t 158 (by decide +kernel) rfl
theorem k_12 : (.fieldLink R_AL 9 "java/util/ArrayList" "elementData" "[Ljava/lang/Object;" : Cond) ∈ lw_all := lw_t 160 (by decide +kernel) rfl
theorem k_13 : (.fieldLink R_AL 48 "java/util/ArrayList" "size" "I" : Cond) ∈ lw_all := lw_t 161 (by decide +kernel) rfl
theorem k_14 : (.methodLink R_Row 3 objectInit : Cond) ∈ lw_all := lw_t 37 (by decide +kernel) rfl
theorem k_15 : (.arrayClass .byte : Cond) ∈ lw_all := lw_t 49 (by decide +kernel) rfl
theorem k_16 : (.fieldLink R_Row 9 "ChainLedger$Row" "bytes" "[B" : Cond) ∈ lw_all := lw_t 38 (by decide +kernel) rfl
theorem k_17 : (.methodLink R_Sha 3 objectInit : Cond) ∈ lw_all := lw_t 55 (by decide +kernel) rfl
theorem k_18 : (.arrayClass .int : Cond) ∈ lw_all := lw_t 63 (by decide +kernel) rfl
theorem k_19 : (.fieldLink R_Sha 9 "ChainLedger$Sha" "words" "[I" : Cond) ∈ lw_all := lw_t 56 (by decide +kernel) rfl
theorem k_20 : (.fieldLink R_Sha 15 "ChainLedger$Sha" "state" "[I" : Cond) ∈ lw_all := lw_t 57 (by decide +kernel) rfl
theorem k_21 : (.methodLink R_Block 3 objectInit : Cond) ∈ lw_all := lw_t 185 (by decide +kernel) rfl
theorem k_22 : (.fieldLink R_Block 9 "ChainLedger$Block" "id" "[B" : Cond) ∈ lw_all := lw_t 194 (by decide +kernel) rfl
theorem k_23 : (.classLink R_Block 15 "ChainLedger$Payment" : Cond) ∈ lw_all := lw_t 186 (by decide +kernel) rfl
theorem k_24 : (.fieldLink R_Block 17 "ChainLedger$Block" "payments" "[LChainLedger$Payment;" : Cond) ∈ lw_all := lw_t 207 (by decide +kernel) rfl
theorem k_25 : (.classLink R_Block 21 R_AL : Cond) ∈ lw_all := lw_t 188 (by decide +kernel) rfl
theorem k_26 : (.instantiable R_AL 3 : Cond) ∈ lw_all := lw_t 147 (by decide +kernel) rfl
theorem k_27 : (.initialized R_AL : Cond) ∈ lw_all := lw_t 11 (by decide +kernel) rfl
theorem k_28 : (.methodLink R_Block 23 y_AL_init : Cond) ∈ lw_all := lw_t 189 (by decide +kernel) rfl
theorem k_29 : (.instanceMethod y_AL_init : Cond) ∈ lw_all := lw_t 149 (by decide +kernel) rfl
theorem k_30 : (.fieldLink R_Block 24 "ChainLedger$Block" "spent" "Ljava/util/ArrayList;" : Cond) ∈ lw_all := lw_t 227 (by decide +kernel) rfl
theorem k_31 : (.methodLink R_Payment 3 objectInit : Cond) ∈ lw_all := lw_t 363 (by decide +kernel) rfl
theorem k_32 : (.fieldLink R_Payment 9 "ChainLedger$Payment" "inputAt" "[I" : Cond) ∈ lw_all := lw_t 395 (by decide +kernel) rfl
theorem k_33 : (.fieldLink R_Payment 15 "ChainLedger$Payment" "outputAt" "[I" : Cond) ∈ lw_all := lw_t 398 (by decide +kernel) rfl
theorem k_34 : (.fieldLink R_Payment 18 "ChainLedger$Payment" "id" "[B" : Cond) ∈ lw_all := lw_t 401 (by decide +kernel) rfl
theorem k_35 : (.fieldLink R_Payment 22 "ChainLedger$Payment" "signHash" "[B" : Cond) ∈ lw_all := lw_t 408 (by decide +kernel) rfl
theorem k_37 : (.initialized R_View : Cond) ∈ lw_all := lw_t 7 (by decide +kernel) rfl
theorem k_38 : (.instanceMethod y_View_init : Cond) ∈ lw_all := lw_t 143 (by decide +kernel) rfl
theorem k_39 : (.classLink R_Coins 9 R_AL : Cond) ∈ lw_all := lw_t 146 (by decide +kernel) rfl
theorem k_40 : (.methodLink R_Coins 11 y_AL_init : Cond) ∈ lw_all := lw_t 148 (by decide +kernel) rfl
theorem k_41 : (.fieldLink R_Coins 12 "ChainLedger$Coins" "list" "Ljava/util/ArrayList;" : Cond) ∈ lw_all := lw_t 172 (by decide +kernel) rfl
theorem k_42 : (.methodLink R_Machine 3 objectInit : Cond) ∈ lw_all := lw_t 79 (by decide +kernel) rfl
theorem k_43 : (.classLink R_Machine 11 "[[B" : Cond) ∈ lw_all := lw_t 80 (by decide +kernel) rfl
theorem k_44 : (.fieldLink R_Machine 13 "ChainLedger$Machine" "stack" "[[B" : Cond) ∈ lw_all := lw_t 83 (by decide +kernel) rfl
theorem k_45 : (.fieldLink R_Machine 16 "ChainLedger$Machine" "sizes" "[I" : Cond) ∈ lw_all := lw_t 84 (by decide +kernel) rfl
theorem k_46 : (.arrayClass .boolean : Cond) ∈ lw_all := lw_t 116 (by decide +kernel) rfl
theorem k_47 : (.fieldLink R_Machine 20 "ChainLedger$Machine" "branches" "[Z" : Cond) ∈ lw_all := lw_t 86 (by decide +kernel) rfl
theorem k_48 : (.fieldLink R_Machine 24 "ChainLedger$Machine" "message" "[B" : Cond) ∈ lw_all := lw_t 89 (by decide +kernel) rfl
theorem k_49 : (.fieldLink R_Machine 28 "ChainLedger$Machine" "digest" "[B" : Cond) ∈ lw_all := lw_t 90 (by decide +kernel) rfl
theorem k_50 : (.fieldLink R_Machine 31 "ChainLedger$Machine" "sha" "LChainLedger$Sha;" : Cond) ∈ lw_all := lw_t 82 (by decide +kernel) rfl
theorem k_51 : (.fieldLink R_Machine 35 "ChainLedger$Machine" "signHash" "[B" : Cond) ∈ lw_all := lw_t 91 (by decide +kernel) rfl
theorem k_52 : (.methodLink R_Judge 3 objectInit : Cond) ∈ lw_all := lw_t 69 (by decide +kernel) rfl
theorem k_53 : (.classLink R_Judge 9 R_Row : Cond) ∈ lw_all := lw_t 70 (by decide +kernel) rfl
theorem k_54 : (.instantiable R_Row 2 : Cond) ∈ lw_all := lw_t 33 (by decide +kernel) rfl
theorem k_55 : (.initialized R_Row : Cond) ∈ lw_all := lw_t 2 (by decide +kernel) rfl
theorem k_57 : (.instanceMethod y_Row_init : Cond) ∈ lw_all := lw_t 35 (by decide +kernel) rfl
theorem k_58 : (.fieldLink R_Judge 12 "ChainLedger$Judge" "work" "LChainLedger$Row;" : Cond) ∈ lw_all := lw_t 119 (by decide +kernel) rfl
theorem k_59 : (.classLink R_Judge 18 "ChainLedger$Coin" : Cond) ∈ lw_all := lw_t 72 (by decide +kernel) rfl
theorem k_60 : (.fieldLink R_Judge 20 "ChainLedger$Judge" "found" "[LChainLedger$Coin;" : Cond) ∈ lw_all := lw_t 120 (by decide +kernel) rfl
theorem k_61 : (.fieldLink R_Judge 24 "ChainLedger$Judge" "sha" "LChainLedger$Sha;" : Cond) ∈ lw_all := lw_t 117 (by decide +kernel) rfl
theorem k_62 : (.classLink R_Judge 28 R_Machine : Cond) ∈ lw_all := lw_t 74 (by decide +kernel) rfl
theorem k_63 : (.instantiable R_Machine 11 : Cond) ∈ lw_all := lw_t 75 (by decide +kernel) rfl
theorem k_64 : (.initialized R_Machine : Cond) ∈ lw_all := lw_t 5 (by decide +kernel) rfl
theorem k_65 : (.methodLink R_Judge 30 y_Machine_init : Cond) ∈ lw_all := lw_t 76 (by decide +kernel) rfl
theorem k_66 : (.instanceMethod y_Machine_init : Cond) ∈ lw_all := lw_t 77 (by decide +kernel) rfl
theorem k_67 : (.fieldLink R_Judge 33 "ChainLedger$Judge" "machine" "LChainLedger$Machine;" : Cond) ∈ lw_all := lw_t 118 (by decide +kernel) rfl
theorem k_68 : (.methodLink R_Chain 3 objectInit : Cond) ∈ lw_all := lw_t 136 (by decide +kernel) rfl
theorem k_69 : (.classLink R_Chain 9 R_Coins : Cond) ∈ lw_all := lw_t 137 (by decide +kernel) rfl
theorem k_70 : (.instantiable R_Coins 1 : Cond) ∈ lw_all := lw_t 138 (by decide +kernel) rfl
theorem k_71 : (.initialized R_Coins : Cond) ∈ lw_all := lw_t 8 (by decide +kernel) rfl
theorem k_73 : (.instanceMethod y_Coins_init : Cond) ∈ lw_all := lw_t 140 (by decide +kernel) rfl
theorem k_74 : (.fieldLink R_Chain 12 "ChainLedger$Chain" "coins" "LChainLedger$Coins;" : Cond) ∈ lw_all := lw_t 267 (by decide +kernel) rfl
theorem k_75 : (.classLink R_Chain 18 "ChainLedger$Block" : Cond) ∈ lw_all := lw_t 177 (by decide +kernel) rfl
theorem k_76 : (.fieldLink R_Chain 20 "ChainLedger$Chain" "blocks" "[LChainLedger$Block;" : Cond) ∈ lw_all := lw_t 270 (by decide +kernel) rfl
theorem k_77 : (.classLink R_Chain 24 R_AL : Cond) ∈ lw_all := lw_t 179 (by decide +kernel) rfl
theorem k_78 : (.methodLink R_Chain 26 y_AL_init : Cond) ∈ lw_all := lw_t 180 (by decide +kernel) rfl
theorem k_79 : (.fieldLink R_Chain 27 "ChainLedger$Chain" "held" "Ljava/util/ArrayList;" : Cond) ∈ lw_all := lw_t 275 (by decide +kernel) rfl
theorem k_80 : (.fieldLink R_Chain 31 "ChainLedger$Chain" "ids" "[B" : Cond) ∈ lw_all := lw_t 280 (by decide +kernel) rfl
theorem k_81 : (.fieldLink R_Chain 35 "ChainLedger$Chain" "left" "[LChainLedger$Block;" : Cond) ∈ lw_all := lw_t 282 (by decide +kernel) rfl
theorem k_82 : (.fieldLink R_Chain 38 "ChainLedger$Chain" "path" "[LChainLedger$Block;" : Cond) ∈ lw_all := lw_t 286 (by decide +kernel) rfl
theorem k_83 : (.fieldLink R_Chain 41 "ChainLedger$Chain" "times" "[I" : Cond) ∈ lw_all := lw_t 288 (by decide +kernel) rfl
theorem k_84 : (.fieldLink R_Chain 45 "ChainLedger$Chain" "sha" "LChainLedger$Sha;" : Cond) ∈ lw_all := lw_t 265 (by decide +kernel) rfl
theorem k_85 : (.fieldLink R_Chain 49 "ChainLedger$Chain" "judge" "LChainLedger$Judge;" : Cond) ∈ lw_all := lw_t 266 (by decide +kernel) rfl
theorem k_86 : (.classLink R_Chain 18 R_Block : Cond) ∈ lw_all := lw_t 177 (by decide +kernel) rfl
theorem k_87 : (.instantiable R_Block 17 : Cond) ∈ lw_all := lw_t 181 (by decide +kernel) rfl
theorem k_88 : (.initialized R_Block : Cond) ∈ lw_all := lw_t 12 (by decide +kernel) rfl
theorem k_90 : (.instanceMethod y_Block_init : Cond) ∈ lw_all := lw_t 183 (by decide +kernel) rfl
theorem k_91 : (.constant R_Chain 54 (32768) : Cond) ∈ lw_all := lw_t 264 (by decide +kernel) rfl
theorem k_92 : (.fieldLink R_Chain 55 "ChainLedger$Block" "target" "I" : Cond) ∈ lw_all := lw_t 200 (by decide +kernel) rfl
theorem k_93 : (.fieldLink R_Chain 59 "ChainLedger$Block" "sound" "Z" : Cond) ∈ lw_all := lw_t 222 (by decide +kernel) rfl
theorem k_94 : (.fieldLink R_Chain 63 "ChainLedger$Block" "onChain" "Z" : Cond) ∈ lw_all := lw_t 224 (by decide +kernel) rfl
theorem k_95 : (.fieldLink R_Chain 66 "ChainLedger$Chain" "storedCount" "I" : Cond) ∈ lw_all := lw_t 271 (by decide +kernel) rfl
theorem k_96 : (.fieldLink R_Chain 69 "ChainLedger$Chain" "settled" "I" : Cond) ∈ lw_all := lw_t 290 (by decide +kernel) rfl
theorem k_97 : (.fieldLink R_Chain 72 "ChainLedger$Chain" "tip" "LChainLedger$Block;" : Cond) ∈ lw_all := lw_t 278 (by decide +kernel) rfl
theorem k_98 : (.fieldLink R_Row 15 "ChainLedger$Row" "size" "I" : Cond) ∈ lw_all := lw_t 41 (by decide +kernel) rfl
theorem k_100 : (.initialized R_CL : Cond) ∈ lw_all := lw_t 1 (by decide +kernel) rfl
theorem k_101 : (.static y_CL_putNumber : Cond) ∈ lw_all := lw_t 495 (by decide +kernel) rfl
theorem k_102 : (.methodLink R_Row 23 arraycopyName : Cond) ∈ lw_all := lw_t 858 (by decide +kernel) rfl
theorem k_103 : (.native arraycopyName : Cond) ∈ lw_all := lw_t 529 (by decide +kernel) rfl
theorem k_104 : (.static arraycopyName : Cond) ∈ lw_all := lw_t 528 (by decide +kernel) rfl
theorem k_105 : (.initialized "java/lang/System" : Cond) ∈ lw_all := lw_t 17 (by decide +kernel) rfl
theorem k_106 : (.methodLink R_Row 29 y_Row_addNumber : Cond) ∈ lw_all := lw_t 1027 (by decide +kernel) rfl
theorem k_107 : (.instanceMethod y_Row_addNumber : Cond) ∈ lw_all := lw_t 491 (by decide +kernel) rfl
theorem k_108 : (.selects R_Row y_Row_addNumber y_Row_addNumber : Cond) ∈ lw_all := lw_t 492 (by decide +kernel) rfl
theorem k_109 : (.methodLink R_Row 33 y_Row_addByte : Cond) ∈ lw_all := lw_t 1028 (by decide +kernel) rfl
theorem k_110 : (.instanceMethod y_Row_addByte : Cond) ∈ lw_all := lw_t 860 (by decide +kernel) rfl
theorem k_111 : (.selects R_Row y_Row_addByte y_Row_addByte : Cond) ∈ lw_all := lw_t 861 (by decide +kernel) rfl
theorem k_112 : (.constant R_CL 303 (1000000) : Cond) ∈ lw_all := lw_t 822 (by decide +kernel) rfl
theorem k_113 : (.fieldLink R_Sha 42 "ChainLedger$Sha" "ROUNDS" "[I" : Cond) ∈ lw_all := lw_t 538 (by decide +kernel) rfl
theorem k_114 : (.fieldLink R_Sha 18 "ChainLedger$Sha" "START" "[I" : Cond) ∈ lw_all := lw_t 525 (by decide +kernel) rfl
theorem k_115 : (.methodLink R_Sha 21 arraycopyName : Cond) ∈ lw_all := lw_t 527 (by decide +kernel) rfl
theorem k_116 : (.initialized R_Sha : Cond) ∈ lw_all := lw_t 3 (by decide +kernel) rfl
theorem k_117 : (.methodLink R_Sha 27 y_Sha_load : Cond) ∈ lw_all := lw_t 530 (by decide +kernel) rfl
theorem k_118 : (.instanceMethod y_Sha_load : Cond) ∈ lw_all := lw_t 532 (by decide +kernel) rfl
theorem k_119 : (.selects R_Sha y_Sha_load y_Sha_load : Cond) ∈ lw_all := lw_s 0 (by decide +kernel) rfl
theorem k_120 : (.methodLink R_Sha 31 y_Sha_mix : Cond) ∈ lw_all := lw_t 534 (by decide +kernel) rfl
theorem k_121 : (.instanceMethod y_Sha_mix : Cond) ∈ lw_all := lw_t 536 (by decide +kernel) rfl
theorem k_122 : (.selects R_Sha y_Sha_mix y_Sha_mix : Cond) ∈ lw_all := lw_s 1 (by decide +kernel) rfl
theorem k_124 : (.fieldLink R_Chain 156 "ChainLedger$Block" "height" "I" : Cond) ∈ lw_all := lw_t 218 (by decide +kernel) rfl
theorem k_125 : (.fieldLink R_Block 28 "ChainLedger$Block" "bytes" "[B" : Cond) ∈ lw_all := lw_t 190 (by decide +kernel) rfl
theorem k_126 : (.fieldLink R_Block 31 "ChainLedger$Block" "size" "I" : Cond) ∈ lw_all := lw_t 192 (by decide +kernel) rfl
theorem k_127 : (.fieldLink R_Chain 76 "ChainLedger$Chain" "spare" "LChainLedger$Block;" : Cond) ∈ lw_all := lw_t 291 (by decide +kernel) rfl
theorem k_128 : (.methodLink R_Chain 79 y_Block_read : Cond) ∈ lw_all := lw_t 513 (by decide +kernel) rfl
theorem k_129 : (.instanceMethod y_Block_read : Cond) ∈ lw_all := lw_t 514 (by decide +kernel) rfl
theorem k_130 : (.selects R_Block y_Block_read y_Block_read : Cond) ∈ lw_all := lw_t 515 (by decide +kernel) rfl
theorem k_131 : (.fieldLink R_Chain 224 "ChainLedger$Chain" "leftCount" "I" : Cond) ∈ lw_all := lw_t 285 (by decide +kernel) rfl
theorem k_132 : (.initialized R_Chain : Cond) ∈ lw_all := lw_t 6 (by decide +kernel) rfl
theorem k_133 : (.methodLink R_Chain 215 y_Chain_listLeft : Cond) ∈ lw_all := lw_t 961 (by decide +kernel) rfl
theorem k_134 : (.instanceMethod y_Chain_listLeft : Cond) ∈ lw_all := lw_t 963 (by decide +kernel) rfl
theorem k_135 : (.selects R_Chain y_Chain_listLeft y_Chain_listLeft : Cond) ∈ lw_all := lw_s 42 (by decide +kernel) rfl
theorem k_136 : (.fieldLink R_Pool 39 "ChainLedger$Pool" "base" "LChainLedger$Block;" : Cond) ∈ lw_all := lw_t 341 (by decide +kernel) rfl
theorem k_137 : (.fieldLink R_Pool 29 "ChainLedger$Pool" "chain" "LChainLedger$Chain;" : Cond) ∈ lw_all := lw_t 337 (by decide +kernel) rfl
theorem k_138 : (.fieldLink R_Pool 33 "ChainLedger$Chain" "tip" "LChainLedger$Block;" : Cond) ∈ lw_all := lw_t 277 (by decide +kernel) rfl
theorem k_139 : (.fieldLink R_Payment 25 "ChainLedger$Payment" "bytes" "[B" : Cond) ∈ lw_all := lw_t 364 (by decide +kernel) rfl
theorem k_140 : (.fieldLink R_Payment 28 "ChainLedger$Payment" "start" "I" : Cond) ∈ lw_all := lw_t 370 (by decide +kernel) rfl
theorem k_141 : (.fieldLink R_Payment 32 "ChainLedger$Payment" "knowsSignHash" "Z" : Cond) ∈ lw_all := lw_t 411 (by decide +kernel) rfl
theorem k_142 : (.fieldLink R_Payment 36 "ChainLedger$Payment" "coins" "[LChainLedger$Coin;" : Cond) ∈ lw_all := lw_t 421 (by decide +kernel) rfl
theorem k_143 : (.fieldLink R_Pool 42 "ChainLedger$Pool" "spare" "LChainLedger$Payment;" : Cond) ∈ lw_all := lw_t 342 (by decide +kernel) rfl
theorem k_144 : (.classLink R_Pool 46 R_Payment : Cond) ∈ lw_all := lw_t 842 (by decide +kernel) rfl
theorem k_145 : (.instantiable R_Payment 16 : Cond) ∈ lw_all := lw_t 359 (by decide +kernel) rfl
theorem k_146 : (.initialized R_Payment : Cond) ∈ lw_all := lw_t 14 (by decide +kernel) rfl
theorem k_148 : (.instanceMethod y_Payment_init : Cond) ∈ lw_all := lw_t 361 (by decide +kernel) rfl
theorem k_149 : (.methodLink R_Pool 49 y_Payment_read : Cond) ∈ lw_all := lw_t 992 (by decide +kernel) rfl
theorem k_150 : (.instanceMethod y_Payment_read : Cond) ∈ lw_all := lw_t 550 (by decide +kernel) rfl
theorem k_151 : (.selects R_Payment y_Payment_read y_Payment_read : Cond) ∈ lw_all := lw_t 551 (by decide +kernel) rfl
theorem k_152 : (.fieldLink R_Pool 12 "ChainLedger$Pool" "members" "Ljava/util/ArrayList;" : Cond) ∈ lw_all := lw_t 338 (by decide +kernel) rfl
theorem k_153 : (.methodLink R_Pool 96 y_AL_size : Cond) ∈ lw_all := lw_t 840 (by decide +kernel) rfl
theorem k_154 : (.instanceMethod y_AL_size : Cond) ∈ lw_all := lw_t 593 (by decide +kernel) rfl
theorem k_155 : (.selects R_AL y_AL_size y_AL_size : Cond) ∈ lw_all := lw_t 594 (by decide +kernel) rfl
theorem k_156 : (.methodLink R_Coins 22 y_AL_size : Cond) ∈ lw_all := lw_t 779 (by decide +kernel) rfl
theorem k_157 : (.fieldLink R_CL 19 "ChainLedger" "outKind" "I" : Cond) ∈ lw_all := lw_t 457 (by decide +kernel) rfl
theorem k_159 : (.classLink R_Pool 9 R_AL : Cond) ∈ lw_all := lw_t 333 (by decide +kernel) rfl
theorem k_160 : (.methodLink R_Pool 11 y_AL_init : Cond) ∈ lw_all := lw_t 334 (by decide +kernel) rfl
theorem k_161 : (.fieldLink R_Pool 18 "ChainLedger$Pool" "former" "Ljava/util/ArrayList;" : Cond) ∈ lw_all := lw_t 340 (by decide +kernel) rfl
theorem k_162 : (.fieldLink R_Pool 21 "ChainLedger$Pool" "sha" "LChainLedger$Sha;" : Cond) ∈ lw_all := lw_t 335 (by decide +kernel) rfl
theorem k_163 : (.fieldLink R_Pool 25 "ChainLedger$Pool" "judge" "LChainLedger$Judge;" : Cond) ∈ lw_all := lw_t 336 (by decide +kernel) rfl
theorem k_164 : (.methodLink R_CL 1 objectInit : Cond) ∈ lw_all := lw_t 29 (by decide +kernel) rfl
theorem k_165 : (.classLink R_CL 7 R_Row : Cond) ∈ lw_all := lw_t 32 (by decide +kernel) rfl
theorem k_167 : (.fieldLink R_CL 10 "ChainLedger" "tape" "LChainLedger$Row;" : Cond) ∈ lw_all := lw_t 455 (by decide +kernel) rfl
theorem k_168 : (.fieldLink R_CL 16 "ChainLedger" "out" "LChainLedger$Row;" : Cond) ∈ lw_all := lw_t 456 (by decide +kernel) rfl
theorem k_169 : (.classLink R_CL 23 R_Sha : Cond) ∈ lw_all := lw_t 50 (by decide +kernel) rfl
theorem k_170 : (.instantiable R_Sha 2 : Cond) ∈ lw_all := lw_t 51 (by decide +kernel) rfl
theorem k_172 : (.instanceMethod y_Sha_init : Cond) ∈ lw_all := lw_t 53 (by decide +kernel) rfl
theorem k_173 : (.fieldLink R_CL 26 "ChainLedger" "sha" "LChainLedger$Sha;" : Cond) ∈ lw_all := lw_t 459 (by decide +kernel) rfl
theorem k_174 : (.classLink R_CL 30 R_Judge : Cond) ∈ lw_all := lw_t 64 (by decide +kernel) rfl
theorem k_175 : (.instantiable R_Judge 4 : Cond) ∈ lw_all := lw_t 65 (by decide +kernel) rfl
theorem k_176 : (.initialized R_Judge : Cond) ∈ lw_all := lw_t 4 (by decide +kernel) rfl
theorem k_177 : (.methodLink R_CL 32 y_Judge_init : Cond) ∈ lw_all := lw_t 66 (by decide +kernel) rfl
theorem k_178 : (.instanceMethod y_Judge_init : Cond) ∈ lw_all := lw_t 67 (by decide +kernel) rfl
theorem k_179 : (.fieldLink R_CL 35 "ChainLedger" "judge" "LChainLedger$Judge;" : Cond) ∈ lw_all := lw_t 460 (by decide +kernel) rfl
theorem k_180 : (.classLink R_CL 39 R_Chain : Cond) ∈ lw_all := lw_t 131 (by decide +kernel) rfl
theorem k_181 : (.instantiable R_Chain 17 : Cond) ∈ lw_all := lw_t 132 (by decide +kernel) rfl
theorem k_182 : (.methodLink R_CL 41 y_Chain_init : Cond) ∈ lw_all := lw_t 133 (by decide +kernel) rfl
theorem k_183 : (.instanceMethod y_Chain_init : Cond) ∈ lw_all := lw_t 134 (by decide +kernel) rfl
theorem k_184 : (.fieldLink R_CL 44 "ChainLedger" "chain" "LChainLedger$Chain;" : Cond) ∈ lw_all := lw_t 461 (by decide +kernel) rfl
theorem k_185 : (.classLink R_CL 48 R_Pool : Cond) ∈ lw_all := lw_t 327 (by decide +kernel) rfl
theorem k_186 : (.instantiable R_Pool 7 : Cond) ∈ lw_all := lw_t 328 (by decide +kernel) rfl
theorem k_187 : (.initialized R_Pool : Cond) ∈ lw_all := lw_t 13 (by decide +kernel) rfl
theorem k_188 : (.methodLink R_CL 50 y_Pool_init : Cond) ∈ lw_all := lw_t 329 (by decide +kernel) rfl
theorem k_189 : (.instanceMethod y_Pool_init : Cond) ∈ lw_all := lw_t 330 (by decide +kernel) rfl
theorem k_190 : (.fieldLink R_CL 53 "ChainLedger" "waiting" "LChainLedger$Pool;" : Cond) ∈ lw_all := lw_t 462 (by decide +kernel) rfl
theorem k_191 : (.classLink R_CL 57 R_Payment : Cond) ∈ lw_all := lw_t 358 (by decide +kernel) rfl
theorem k_193 : (.fieldLink R_CL 60 "ChainLedger" "outPayment" "LChainLedger$Payment;" : Cond) ∈ lw_all := lw_t 463 (by decide +kernel) rfl
theorem k_194 : (.fieldLink R_CL 64 "ChainLedger" "fresh" "[B" : Cond) ∈ lw_all := lw_t 464 (by decide +kernel) rfl
theorem k_195 : (.fieldLink R_CL 68 "ChainLedger$Row" "size" "I" : Cond) ∈ lw_all := lw_t 42 (by decide +kernel) rfl
theorem k_196 : (.methodLink R_CL 71 y_Row_addNumber : Cond) ∈ lw_all := lw_t 490 (by decide +kernel) rfl
theorem k_197 : (.fieldLink R_CL 75 "ChainLedger$Row" "bytes" "[B" : Cond) ∈ lw_all := lw_t 40 (by decide +kernel) rfl
theorem k_198 : (.methodLink R_CL 78 y_Chain_receive : Cond) ∈ lw_all := lw_t 509 (by decide +kernel) rfl
theorem k_199 : (.instanceMethod y_Chain_receive : Cond) ∈ lw_all := lw_t 510 (by decide +kernel) rfl
theorem k_200 : (.selects R_Chain y_Chain_receive y_Chain_receive : Cond) ∈ lw_all := lw_t 511 (by decide +kernel) rfl
theorem k_201 : (.methodLink R_CL 82 y_Chain_settle : Cond) ∈ lw_all := lw_t 725 (by decide +kernel) rfl
theorem k_202 : (.instanceMethod y_Chain_settle : Cond) ∈ lw_all := lw_t 726 (by decide +kernel) rfl
theorem k_203 : (.selects R_Chain y_Chain_settle y_Chain_settle : Cond) ∈ lw_all := lw_t 727 (by decide +kernel) rfl
theorem k_204 : (.methodLink R_CL 85 y_Pool_renew : Cond) ∈ lw_all := lw_t 965 (by decide +kernel) rfl
theorem k_205 : (.instanceMethod y_Pool_renew : Cond) ∈ lw_all := lw_t 966 (by decide +kernel) rfl
theorem k_206 : (.selects R_Pool y_Pool_renew y_Pool_renew : Cond) ∈ lw_all := lw_t 967 (by decide +kernel) rfl
theorem k_207 : (.methodLink R_CL 88 y_Pool_receive : Cond) ∈ lw_all := lw_t 987 (by decide +kernel) rfl
theorem k_208 : (.instanceMethod y_Pool_receive : Cond) ∈ lw_all := lw_t 988 (by decide +kernel) rfl
theorem k_209 : (.selects R_Pool y_Pool_receive y_Pool_receive : Cond) ∈ lw_all := lw_t 989 (by decide +kernel) rfl
theorem k_210 : (.fieldLink R_CL 161 "ChainLedger$Chain" "coins" "LChainLedger$Coins;" : Cond) ∈ lw_all := lw_t 269 (by decide +kernel) rfl
theorem k_211 : (.fieldLink R_CL 165 "ChainLedger$Coins" "list" "Ljava/util/ArrayList;" : Cond) ∈ lw_all := lw_t 173 (by decide +kernel) rfl
theorem k_212 : (.methodLink R_CL 170 y_AL_size : Cond) ∈ lw_all := lw_t 1036 (by decide +kernel) rfl
theorem k_213 : (.methodLink R_CL 193 y_CL_readOutPayment : Cond) ∈ lw_all := lw_t 1057 (by decide +kernel) rfl
theorem k_214 : (.instanceMethod y_CL_readOutPayment : Cond) ∈ lw_all := lw_t 1059 (by decide +kernel) rfl
theorem k_215 : (.selects R_CL y_CL_readOutPayment y_CL_readOutPayment : Cond) ∈ lw_all := lw_s 47 (by decide +kernel) rfl
theorem k_216 : (.methodLink R_CL 136 y_Row_addBytes : Cond) ∈ lw_all := lw_t 1011 (by decide +kernel) rfl
theorem k_217 : (.instanceMethod y_Row_addBytes : Cond) ∈ lw_all := lw_t 855 (by decide +kernel) rfl
theorem k_218 : (.selects R_Row y_Row_addBytes y_Row_addBytes : Cond) ∈ lw_all := lw_t 856 (by decide +kernel) rfl
theorem k_219 : (.fieldLink R_CL 89 "ChainLedger$Chain" "tip" "LChainLedger$Block;" : Cond) ∈ lw_all := lw_t 279 (by decide +kernel) rfl
theorem k_220 : (.fieldLink R_CL 108 "ChainLedger$Block" "height" "I" : Cond) ∈ lw_all := lw_t 217 (by decide +kernel) rfl
theorem k_221 : (.fieldLink R_CL 224 "ChainLedger$Block" "number" "I" : Cond) ∈ lw_all := lw_t 215 (by decide +kernel) rfl
theorem k_222 : (.fieldLink R_CL 227 "ChainLedger$Block" "work" "J" : Cond) ∈ lw_all := lw_t 221 (by decide +kernel) rfl
theorem k_223 : (.fieldLink R_CL 231 "ChainLedger$Block" "id" "[B" : Cond) ∈ lw_all := lw_t 196 (by decide +kernel) rfl
theorem k_224 : (.methodLink R_CL 143 y_CL_numberAt : Cond) ∈ lw_all := lw_t 1043 (by decide +kernel) rfl
theorem k_225 : (.static y_CL_numberAt : Cond) ∈ lw_all := lw_t 518 (by decide +kernel) rfl
theorem k_226 : (.constantLong R_CL 232 (4294967295) : Cond) ∈ lw_all := lw_t 1083 (by decide +kernel) rfl
theorem k_227 : (.constantLong R_CL 234 (-1) : Cond) ∈ lw_all := lw_t 1084 (by decide +kernel) rfl
theorem k_228 : (.methodLink R_CL 93 y_Chain_numbered : Cond) ∈ lw_all := lw_t 999 (by decide +kernel) rfl
theorem k_229 : (.instanceMethod y_Chain_numbered : Cond) ∈ lw_all := lw_t 1000 (by decide +kernel) rfl
theorem k_230 : (.selects R_Chain y_Chain_numbered y_Chain_numbered : Cond) ∈ lw_all := lw_t 1001 (by decide +kernel) rfl
theorem k_231 : (.fieldLink R_CL 236 "ChainLedger$Block" "parent" "LChainLedger$Block;" : Cond) ∈ lw_all := lw_t 213 (by decide +kernel) rfl
theorem k_232 : (.fieldLink R_CL 239 "ChainLedger$Block" "time" "I" : Cond) ∈ lw_all := lw_t 199 (by decide +kernel) rfl
theorem k_233 : (.fieldLink R_CL 242 "ChainLedger$Block" "target" "I" : Cond) ∈ lw_all := lw_t 202 (by decide +kernel) rfl
theorem k_234 : (.fieldLink R_CL 245 "ChainLedger$Block" "paymentCount" "I" : Cond) ∈ lw_all := lw_t 206 (by decide +kernel) rfl
theorem k_235 : (.fieldLink R_CL 248 "ChainLedger$Block" "onChain" "Z" : Cond) ∈ lw_all := lw_t 225 (by decide +kernel) rfl
theorem k_236 : (.fieldLink R_CL 121 "ChainLedger$Pool" "members" "Ljava/util/ArrayList;" : Cond) ∈ lw_all := lw_t 339 (by decide +kernel) rfl
theorem k_237 : (.fieldLink R_CL 268 "ChainLedger$Chain" "storedCount" "I" : Cond) ∈ lw_all := lw_t 272 (by decide +kernel) rfl
theorem k_238 : (.fieldLink R_CL 271 "ChainLedger$Chain" "held" "Ljava/util/ArrayList;" : Cond) ∈ lw_all := lw_t 276 (by decide +kernel) rfl
theorem k_239 : (.methodLink R_CL 274 y_Coins_total : Cond) ∈ lw_all := lw_t 1117 (by decide +kernel) rfl
theorem k_240 : (.instanceMethod y_Coins_total : Cond) ∈ lw_all := lw_t 1118 (by decide +kernel) rfl
theorem k_241 : (.selects R_Coins y_Coins_total y_Coins_total : Cond) ∈ lw_all := lw_t 1119 (by decide +kernel) rfl
theorem k_242 : (.fieldLink R_CL 278 "ChainLedger$Chain" "storedBytes" "I" : Cond) ∈ lw_all := lw_t 274 (by decide +kernel) rfl
theorem k_243 : (.methodLink R_CL 281 y_Chain_dueTarget : Cond) ∈ lw_all := lw_t 1012 (by decide +kernel) rfl
theorem k_244 : (.instanceMethod y_Chain_dueTarget : Cond) ∈ lw_all := lw_t 619 (by decide +kernel) rfl
theorem k_245 : (.selects R_Chain y_Chain_dueTarget y_Chain_dueTarget : Cond) ∈ lw_all := lw_t 620 (by decide +kernel) rfl
theorem k_246 : (.methodLink R_CL 105 y_Row_addByte : Cond) ∈ lw_all := lw_t 1013 (by decide +kernel) rfl
theorem k_247 : (.methodLink R_CL 285 y_CL_rewardAt : Cond) ∈ lw_all := lw_t 1022 (by decide +kernel) rfl
theorem k_248 : (.static y_CL_rewardAt : Cond) ∈ lw_all := lw_t 820 (by decide +kernel) rfl
theorem k_249 : (.methodLink R_CL 189 y_Row_addKeyOutput : Cond) ∈ lw_all := lw_t 1023 (by decide +kernel) rfl
theorem k_250 : (.instanceMethod y_Row_addKeyOutput : Cond) ∈ lw_all := lw_t 1024 (by decide +kernel) rfl
theorem k_251 : (.selects R_Row y_Row_addKeyOutput y_Row_addKeyOutput : Cond) ∈ lw_all := lw_t 1025 (by decide +kernel) rfl
theorem k_252 : (.fieldLink R_CL 288 "ChainLedger$Chain" "ids" "[B" : Cond) ∈ lw_all := lw_t 281 (by decide +kernel) rfl
theorem k_253 : (.methodLink R_CL 146 y_Sha_digest : Cond) ∈ lw_all := lw_t 1034 (by decide +kernel) rfl
theorem k_254 : (.instanceMethod y_Sha_digest : Cond) ∈ lw_all := lw_t 522 (by decide +kernel) rfl
theorem k_255 : (.selects R_Sha y_Sha_digest y_Sha_digest : Cond) ∈ lw_all := lw_t 523 (by decide +kernel) rfl
theorem k_256 : (.methodLink R_CL 291 y_Pool_hasAmong : Cond) ∈ lw_all := lw_t 1035 (by decide +kernel) rfl
theorem k_257 : (.instanceMethod y_Pool_hasAmong : Cond) ∈ lw_all := lw_t 978 (by decide +kernel) rfl
theorem k_258 : (.selects R_Pool y_Pool_hasAmong y_Pool_hasAmong : Cond) ∈ lw_all := lw_t 979 (by decide +kernel) rfl
theorem k_259 : (.fieldLink R_CL 150 "ChainLedger" "outIdsDiffer" "Z" : Cond) ∈ lw_all := lw_t 458 (by decide +kernel) rfl
theorem k_260 : (.methodLink R_CL 295 y_Sha_foldToRoot : Cond) ∈ lw_all := lw_t 1038 (by decide +kernel) rfl
theorem k_261 : (.instanceMethod y_Sha_foldToRoot : Cond) ∈ lw_all := lw_t 579 (by decide +kernel) rfl
theorem k_262 : (.selects R_Sha y_Sha_foldToRoot y_Sha_foldToRoot : Cond) ∈ lw_all := lw_t 580 (by decide +kernel) rfl
theorem k_263 : (.methodLink R_CL 207 arraycopyName : Cond) ∈ lw_all := lw_t 1037 (by decide +kernel) rfl
theorem k_264 : (.methodLink R_CL 101 y_CL_writeHeader : Cond) ∈ lw_all := lw_t 1007 (by decide +kernel) rfl
theorem k_265 : (.instanceMethod y_CL_writeHeader : Cond) ∈ lw_all := lw_t 1009 (by decide +kernel) rfl
theorem k_266 : (.selects R_CL y_CL_writeHeader y_CL_writeHeader : Cond) ∈ lw_all := lw_s 44 (by decide +kernel) rfl
theorem k_267 : (.methodLink R_CL 113 y_Pool_feesOf : Cond) ∈ lw_all := lw_t 1014 (by decide +kernel) rfl
theorem k_268 : (.instanceMethod y_Pool_feesOf : Cond) ∈ lw_all := lw_t 1015 (by decide +kernel) rfl
theorem k_269 : (.selects R_Pool y_Pool_feesOf y_Pool_feesOf : Cond) ∈ lw_all := lw_t 1016 (by decide +kernel) rfl
theorem k_270 : (.methodLink R_CL 117 y_CL_writeFirst : Cond) ∈ lw_all := lw_t 1018 (by decide +kernel) rfl
theorem k_271 : (.instanceMethod y_CL_writeFirst : Cond) ∈ lw_all := lw_t 1020 (by decide +kernel) rfl
theorem k_272 : (.selects R_CL y_CL_writeFirst y_CL_writeFirst : Cond) ∈ lw_all := lw_s 45 (by decide +kernel) rfl
theorem k_273 : (.methodLink R_CL 140 y_CL_putRoot : Cond) ∈ lw_all := lw_t 1030 (by decide +kernel) rfl
theorem k_274 : (.instanceMethod y_CL_putRoot : Cond) ∈ lw_all := lw_t 1032 (by decide +kernel) rfl
theorem k_275 : (.selects R_CL y_CL_putRoot y_CL_putRoot : Cond) ∈ lw_all := lw_s 46 (by decide +kernel) rfl
theorem k_276 : (.methodLink R_CL 97 y_Pool_fitting : Cond) ∈ lw_all := lw_t 1003 (by decide +kernel) rfl
theorem k_277 : (.instanceMethod y_Pool_fitting : Cond) ∈ lw_all := lw_t 1004 (by decide +kernel) rfl
theorem k_278 : (.selects R_Pool y_Pool_fitting y_Pool_fitting : Cond) ∈ lw_all := lw_t 1005 (by decide +kernel) rfl
theorem k_279 : (.methodLink R_Mc 1 objectInit : Cond) ∈ lw_all := lw_t 1135 (by decide +kernel) rfl
theorem k_280 : (.fieldLink R_Mc 9 "ChainLedgerModel$Coins" "id" "[I" : Cond) ∈ lw_all := lw_t 1136 (by decide +kernel) rfl
theorem k_281 : (.fieldLink R_Mc 13 "ChainLedgerModel$Coins" "index" "[I" : Cond) ∈ lw_all := lw_t 1138 (by decide +kernel) rfl
theorem k_282 : (.fieldLink R_Mc 16 "ChainLedgerModel$Coins" "value" "[I" : Cond) ∈ lw_all := lw_t 1140 (by decide +kernel) rfl
theorem k_283 : (.fieldLink R_Mc 19 "ChainLedgerModel$Coins" "script" "[I" : Cond) ∈ lw_all := lw_t 1142 (by decide +kernel) rfl
theorem k_284 : (.fieldLink R_Mc 22 "ChainLedgerModel$Coins" "scriptLength" "[I" : Cond) ∈ lw_all := lw_t 1144 (by decide +kernel) rfl
theorem k_285 : (.fieldLink R_Mc 25 "ChainLedgerModel$Coins" "height" "[I" : Cond) ∈ lw_all := lw_t 1146 (by decide +kernel) rfl
theorem k_286 : (.fieldLink R_Mc 28 "ChainLedgerModel$Coins" "first" "[Z" : Cond) ∈ lw_all := lw_t 1148 (by decide +kernel) rfl
theorem k_287 : (.methodLink R_Mo 3 objectInit : Cond) ∈ lw_all := lw_t 1127 (by decide +kernel) rfl
theorem k_288 : (.constant R_Mo 9 (281088) : Cond) ∈ lw_all := lw_t 1128 (by decide +kernel) rfl
theorem k_289 : (.fieldLink R_Mo 10 "ChainLedgerModel" "mem" "[B" : Cond) ∈ lw_all := lw_t 1171 (by decide +kernel) rfl
theorem k_290 : (.fieldLink R_Mo 14 "ChainLedgerModel" "at" "[I" : Cond) ∈ lw_all := lw_t 1175 (by decide +kernel) rfl
theorem k_291 : (.fieldLink R_Mo 18 "ChainLedgerModel" "length" "[I" : Cond) ∈ lw_all := lw_t 1176 (by decide +kernel) rfl
theorem k_292 : (.fieldLink R_Mo 21 "ChainLedgerModel" "parent" "[I" : Cond) ∈ lw_all := lw_t 1177 (by decide +kernel) rfl
theorem k_293 : (.fieldLink R_Mo 24 "ChainLedgerModel" "height" "[I" : Cond) ∈ lw_all := lw_t 1178 (by decide +kernel) rfl
theorem k_294 : (.fieldLink R_Mo 27 "ChainLedgerModel" "time" "[I" : Cond) ∈ lw_all := lw_t 1179 (by decide +kernel) rfl
theorem k_295 : (.fieldLink R_Mo 30 "ChainLedgerModel" "target" "[I" : Cond) ∈ lw_all := lw_t 1180 (by decide +kernel) rfl
theorem k_296 : (.arrayClass .long : Cond) ∈ lw_all := lw_t 1169 (by decide +kernel) rfl
theorem k_297 : (.fieldLink R_Mo 33 "ChainLedgerModel" "work" "[J" : Cond) ∈ lw_all := lw_t 1181 (by decide +kernel) rfl
theorem k_298 : (.fieldLink R_Mo 37 "ChainLedgerModel" "arrival" "[I" : Cond) ∈ lw_all := lw_t 1182 (by decide +kernel) rfl
theorem k_299 : (.fieldLink R_Mo 40 "ChainLedgerModel" "sound" "[Z" : Cond) ∈ lw_all := lw_t 1183 (by decide +kernel) rfl
theorem k_300 : (.fieldLink R_Mo 44 "ChainLedgerModel" "firstTx" "[I" : Cond) ∈ lw_all := lw_t 1184 (by decide +kernel) rfl
theorem k_301 : (.fieldLink R_Mo 47 "ChainLedgerModel" "txs" "[I" : Cond) ∈ lw_all := lw_t 1185 (by decide +kernel) rfl
theorem k_302 : (.fieldLink R_Mo 50 "ChainLedgerModel" "blockId" "[B" : Cond) ∈ lw_all := lw_t 1186 (by decide +kernel) rfl
theorem k_303 : (.fieldLink R_Mo 53 "ChainLedgerModel" "blocks" "I" : Cond) ∈ lw_all := lw_t 1187 (by decide +kernel) rfl
theorem k_304 : (.fieldLink R_Mo 57 "ChainLedgerModel" "heldLength" "[I" : Cond) ∈ lw_all := lw_t 1192 (by decide +kernel) rfl
theorem k_305 : (.fieldLink R_Mo 60 "ChainLedgerModel" "heldArrival" "[I" : Cond) ∈ lw_all := lw_t 1193 (by decide +kernel) rfl
theorem k_306 : (.fieldLink R_Mo 63 "ChainLedgerModel" "heldId" "[B" : Cond) ∈ lw_all := lw_t 1194 (by decide +kernel) rfl
theorem k_307 : (.constant R_Mo 66 (394496) : Cond) ∈ lw_all := lw_t 1129 (by decide +kernel) rfl
theorem k_308 : (.fieldLink R_Mo 67 "ChainLedgerModel" "ids" "[B" : Cond) ∈ lw_all := lw_t 1196 (by decide +kernel) rfl
theorem k_309 : (.fieldLink R_Mo 70 "ChainLedgerModel" "poolLength" "[I" : Cond) ∈ lw_all := lw_t 1197 (by decide +kernel) rfl
theorem k_310 : (.fieldLink R_Mo 73 "ChainLedgerModel" "poolFee" "[I" : Cond) ∈ lw_all := lw_t 1198 (by decide +kernel) rfl
theorem k_311 : (.fieldLink R_Mo 76 "ChainLedgerModel" "inId" "[I" : Cond) ∈ lw_all := lw_t 1202 (by decide +kernel) rfl
theorem k_312 : (.fieldLink R_Mo 79 "ChainLedgerModel" "inIndex" "[I" : Cond) ∈ lw_all := lw_t 1203 (by decide +kernel) rfl
theorem k_313 : (.fieldLink R_Mo 82 "ChainLedgerModel" "keyAt" "[I" : Cond) ∈ lw_all := lw_t 1204 (by decide +kernel) rfl
theorem k_314 : (.fieldLink R_Mo 85 "ChainLedgerModel" "keyLength" "[I" : Cond) ∈ lw_all := lw_t 1205 (by decide +kernel) rfl
theorem k_315 : (.fieldLink R_Mo 88 "ChainLedgerModel" "outValue" "[I" : Cond) ∈ lw_all := lw_t 1207 (by decide +kernel) rfl
theorem k_316 : (.fieldLink R_Mo 91 "ChainLedgerModel" "lockAt" "[I" : Cond) ∈ lw_all := lw_t 1208 (by decide +kernel) rfl
theorem k_317 : (.fieldLink R_Mo 94 "ChainLedgerModel" "lockLength" "[I" : Cond) ∈ lw_all := lw_t 1209 (by decide +kernel) rfl
theorem k_318 : (.fieldLink R_Mo 97 "ChainLedgerModel" "w" "[I" : Cond) ∈ lw_all := lw_t 1210 (by decide +kernel) rfl
theorem k_319 : (.fieldLink R_Mo 100 "ChainLedgerModel" "h" "[I" : Cond) ∈ lw_all := lw_t 1211 (by decide +kernel) rfl
theorem k_320 : (.fieldLink R_Mo 103 "ChainLedgerModel" "once" "[B" : Cond) ∈ lw_all := lw_t 1212 (by decide +kernel) rfl
theorem k_321 : (.fieldLink R_Mo 106 "ChainLedgerModel" "digest" "[B" : Cond) ∈ lw_all := lw_t 1213 (by decide +kernel) rfl
theorem k_322 : (.fieldLink R_Mo 109 "ChainLedgerModel" "signHash" "[B" : Cond) ∈ lw_all := lw_t 1214 (by decide +kernel) rfl
theorem k_323 : (.fieldLink R_Mo 112 "ChainLedgerModel" "buffer" "[B" : Cond) ∈ lw_all := lw_t 1215 (by decide +kernel) rfl
theorem k_324 : (.fieldLink R_Mo 115 "ChainLedgerModel" "merkle" "[B" : Cond) ∈ lw_all := lw_t 1216 (by decide +kernel) rfl
theorem k_325 : (.fieldLink R_Mo 118 "ChainLedgerModel" "stack" "[B" : Cond) ∈ lw_all := lw_t 1217 (by decide +kernel) rfl
theorem k_326 : (.fieldLink R_Mo 121 "ChainLedgerModel" "sizes" "[I" : Cond) ∈ lw_all := lw_t 1218 (by decide +kernel) rfl
theorem k_327 : (.fieldLink R_Mo 124 "ChainLedgerModel" "branch" "[Z" : Cond) ∈ lw_all := lw_t 1220 (by decide +kernel) rfl
theorem k_328 : (.classLink R_Mo 127 R_Mc : Cond) ∈ lw_all := lw_t 1130 (by decide +kernel) rfl
theorem k_329 : (.instantiable R_Mc 8 : Cond) ∈ lw_all := lw_t 1131 (by decide +kernel) rfl
theorem k_330 : (.initialized R_Mc : Cond) ∈ lw_all := lw_t 16 (by decide +kernel) rfl
theorem k_332 : (.instanceMethod y_Mc_init : Cond) ∈ lw_all := lw_t 1133 (by decide +kernel) rfl
theorem k_333 : (.fieldLink R_Mo 130 "ChainLedgerModel" "tipCoins" "LChainLedgerModel$Coins;" : Cond) ∈ lw_all := lw_t 1221 (by decide +kernel) rfl
theorem k_334 : (.fieldLink R_Mo 134 "ChainLedgerModel" "poolCoins" "LChainLedgerModel$Coins;" : Cond) ∈ lw_all := lw_t 1222 (by decide +kernel) rfl
theorem k_335 : (.fieldLink R_Mo 137 "ChainLedgerModel" "workCoins" "LChainLedgerModel$Coins;" : Cond) ∈ lw_all := lw_t 1223 (by decide +kernel) rfl
theorem k_336 : (.fieldLink R_Mo 140 "ChainLedgerModel" "path" "[I" : Cond) ∈ lw_all := lw_t 1224 (by decide +kernel) rfl
theorem k_337 : (.fieldLink R_Mo 143 "ChainLedgerModel" "order" "[I" : Cond) ∈ lw_all := lw_t 1225 (by decide +kernel) rfl
theorem k_338 : (.fieldLink R_Mo 146 "ChainLedgerModel" "spent" "[I" : Cond) ∈ lw_all := lw_t 1226 (by decide +kernel) rfl
theorem k_339 : (.constant R_Mo 149 (32768) : Cond) ∈ lw_all := lw_t 1170 (by decide +kernel) rfl
theorem k_340 : (.constant R_Mo 305 (131072) : Cond) ∈ lw_all := lw_t 1348 (by decide +kernel) rfl
theorem k_341 : (.fieldLink R_Mo 363 "ChainLedgerModel" "tapeLength" "I" : Cond) ∈ lw_all := lw_t 1172 (by decide +kernel) rfl
theorem k_342 : (.initialized R_Mo : Cond) ∈ lw_all := lw_t 15 (by decide +kernel) rfl
theorem k_343 : (.methodLink R_Mo 366 y_Mo_put : Cond) ∈ lw_all := lw_t 1344 (by decide +kernel) rfl
theorem k_344 : (.instanceMethod y_Mo_put : Cond) ∈ lw_all := lw_t 1346 (by decide +kernel) rfl
theorem k_345 : (.selects R_Mo y_Mo_put y_Mo_put : Cond) ∈ lw_all := lw_s 48 (by decide +kernel) rfl
theorem k_346 : (.fieldLink R_Mo 337 "ChainLedgerModel" "calls" "I" : Cond) ∈ lw_all := lw_t 1191 (by decide +kernel) rfl
theorem k_347 : (.methodLink R_Mo 292 y_Mo_wellFormed : Cond) ∈ lw_all := lw_t 1365 (by decide +kernel) rfl
theorem k_348 : (.instanceMethod y_Mo_wellFormed : Cond) ∈ lw_all := lw_t 1367 (by decide +kernel) rfl
theorem k_349 : (.selects R_Mo y_Mo_wellFormed y_Mo_wellFormed : Cond) ∈ lw_all := lw_s 50 (by decide +kernel) rfl
theorem k_350 : (.methodLink R_Mo 369 y_Mo_come : Cond) ∈ lw_all := lw_t 1361 (by decide +kernel) rfl
theorem k_351 : (.instanceMethod y_Mo_come : Cond) ∈ lw_all := lw_t 1363 (by decide +kernel) rfl
theorem k_352 : (.selects R_Mo y_Mo_come y_Mo_come : Cond) ∈ lw_all := lw_s 49 (by decide +kernel) rfl
theorem k_353 : (.methodLink R_Mo 179 y_Mo_read : Cond) ∈ lw_all := lw_t 1374 (by decide +kernel) rfl
theorem k_354 : (.instanceMethod y_Mo_read : Cond) ∈ lw_all := lw_t 1376 (by decide +kernel) rfl
theorem k_355 : (.selects R_Mo y_Mo_read y_Mo_read : Cond) ∈ lw_all := lw_s 52 (by decide +kernel) rfl
theorem k_356 : (.methodLink R_Mo 360 y_Mo_accept : Cond) ∈ lw_all := lw_t 1536 (by decide +kernel) rfl
theorem k_357 : (.instanceMethod y_Mo_accept : Cond) ∈ lw_all := lw_t 1538 (by decide +kernel) rfl
theorem k_358 : (.selects R_Mo y_Mo_accept y_Mo_accept : Cond) ∈ lw_all := lw_s 86 (by decide +kernel) rfl
theorem k_359 : (.fieldLink R_Mo 393 "ChainLedgerModel" "outKind" "I" : Cond) ∈ lw_all := lw_t 1174 (by decide +kernel) rfl
theorem k_360 : (.fieldLink R_Mo 232 "ChainLedgerModel$Coins" "count" "I" : Cond) ∈ lw_all := lw_t 1151 (by decide +kernel) rfl
theorem k_361 : (.fieldLink R_Mo 390 "ChainLedgerModel" "outLength" "I" : Cond) ∈ lw_all := lw_t 1173 (by decide +kernel) rfl
theorem k_362 : (.fieldLink R_Mo 328 "ChainLedgerModel" "tip" "I" : Cond) ∈ lw_all := lw_t 1190 (by decide +kernel) rfl
theorem k_363 : (.constantLong R_Mo 261 (-1) : Cond) ∈ lw_all := lw_t 1468 (by decide +kernel) rfl
theorem k_364 : (.methodLink R_Mo 194 y_Mo_ancestor : Cond) ∈ lw_all := lw_t 1419 (by decide +kernel) rfl
theorem k_365 : (.instanceMethod y_Mo_ancestor : Cond) ∈ lw_all := lw_t 1421 (by decide +kernel) rfl
theorem k_366 : (.selects R_Mo y_Mo_ancestor y_Mo_ancestor : Cond) ∈ lw_all := lw_s 61 (by decide +kernel) rfl
theorem k_367 : (.methodLink R_Mo 357 y_Mo_inChain : Cond) ∈ lw_all := lw_t 1532 (by decide +kernel) rfl
theorem k_368 : (.instanceMethod y_Mo_inChain : Cond) ∈ lw_all := lw_t 1534 (by decide +kernel) rfl
theorem k_369 : (.selects R_Mo y_Mo_inChain y_Mo_inChain : Cond) ∈ lw_all := lw_s 85 (by decide +kernel) rfl
theorem k_370 : (.methodLink R_Mo 400 y_Mo_coinAt : Cond) ∈ lw_all := lw_t 1580 (by decide +kernel) rfl
theorem k_371 : (.instanceMethod y_Mo_coinAt : Cond) ∈ lw_all := lw_t 1582 (by decide +kernel) rfl
theorem k_372 : (.selects R_Mo y_Mo_coinAt y_Mo_coinAt : Cond) ∈ lw_all := lw_s 90 (by decide +kernel) rfl
theorem k_373 : (.fieldLink R_Mo 346 "ChainLedgerModel" "pool" "I" : Cond) ∈ lw_all := lw_t 1199 (by decide +kernel) rfl
theorem k_374 : (.fieldLink R_Mo 306 "ChainLedgerModel" "held" "I" : Cond) ∈ lw_all := lw_t 1195 (by decide +kernel) rfl
theorem k_375 : (.fieldLink R_Mo 295 "ChainLedgerModel" "used" "I" : Cond) ∈ lw_all := lw_t 1188 (by decide +kernel) rfl
theorem k_376 : (.methodLink R_Mo 371 y_Mo_setNumber : Cond) ∈ lw_all := lw_t 1555 (by decide +kernel) rfl
theorem k_377 : (.instanceMethod y_Mo_setNumber : Cond) ∈ lw_all := lw_t 1557 (by decide +kernel) rfl
theorem k_378 : (.selects R_Mo y_Mo_setNumber y_Mo_setNumber : Cond) ∈ lw_all := lw_s 88 (by decide +kernel) rfl
theorem k_379 : (.constant R_Mo 203 (1000000) : Cond) ∈ lw_all := lw_t 1459 (by decide +kernel) rfl
theorem k_380 : (.fieldLink R_Mo 150 "ChainLedgerModel" "K" "[I" : Cond) ∈ lw_all := lw_t 1393 (by decide +kernel) rfl
theorem k_381 : (.fieldLink R_Mo 153 "ChainLedgerModel" "START" "[I" : Cond) ∈ lw_all := lw_t 1386 (by decide +kernel) rfl
theorem k_382 : (.constantLong R_Mo 156 (8) : Cond) ∈ lw_all := lw_t 1388 (by decide +kernel) rfl
theorem k_383 : (.methodLink R_Mo 158 y_Mo_round : Cond) ∈ lw_all := lw_t 1389 (by decide +kernel) rfl
theorem k_384 : (.instanceMethod y_Mo_round : Cond) ∈ lw_all := lw_t 1391 (by decide +kernel) rfl
theorem k_385 : (.selects R_Mo y_Mo_round y_Mo_round : Cond) ∈ lw_all := lw_s 55 (by decide +kernel) rfl
theorem k_386 : (.methodLink R_Mo 161 y_Mo_sha : Cond) ∈ lw_all := lw_t 1382 (by decide +kernel) rfl
theorem k_387 : (.instanceMethod y_Mo_sha : Cond) ∈ lw_all := lw_t 1384 (by decide +kernel) rfl
theorem k_388 : (.selects R_Mo y_Mo_sha y_Mo_sha : Cond) ∈ lw_all := lw_s 54 (by decide +kernel) rfl
theorem k_389 : (.constant R_Mo 375 (135262) : Cond) ∈ lw_all := lw_t 1552 (by decide +kernel) rfl
theorem k_390 : (.constant R_Mo 376 (135168) : Cond) ∈ lw_all := lw_t 1553 (by decide +kernel) rfl
theorem k_391 : (.constant R_Mo 377 (135232) : Cond) ∈ lw_all := lw_t 1554 (by decide +kernel) rfl
theorem k_392 : (.constant R_Mo 378 (135236) : Cond) ∈ lw_all := lw_t 1559 (by decide +kernel) rfl
theorem k_393 : (.methodLink R_Mo 200 y_Mo_due : Cond) ∈ lw_all := lw_t 1415 (by decide +kernel) rfl
theorem k_394 : (.instanceMethod y_Mo_due : Cond) ∈ lw_all := lw_t 1417 (by decide +kernel) rfl
theorem k_395 : (.selects R_Mo y_Mo_due y_Mo_due : Cond) ∈ lw_all := lw_s 60 (by decide +kernel) rfl
theorem k_396 : (.constant R_Mo 379 (135240) : Cond) ∈ lw_all := lw_t 1560 (by decide +kernel) rfl
theorem k_397 : (.constant R_Mo 380 (135244) : Cond) ∈ lw_all := lw_t 1561 (by decide +kernel) rfl
theorem k_398 : (.constant R_Mo 381 (135245) : Cond) ∈ lw_all := lw_t 1562 (by decide +kernel) rfl
theorem k_399 : (.constant R_Mo 382 (135249) : Cond) ∈ lw_all := lw_t 1563 (by decide +kernel) rfl
theorem k_400 : (.constant R_Mo 383 (135250) : Cond) ∈ lw_all := lw_t 1564 (by decide +kernel) rfl
theorem k_401 : (.constant R_Mo 384 (135251) : Cond) ∈ lw_all := lw_t 1565 (by decide +kernel) rfl
theorem k_402 : (.methodLink R_Mo 285 y_Mo_reward : Cond) ∈ lw_all := lw_t 1456 (by decide +kernel) rfl
theorem k_403 : (.static y_Mo_reward : Cond) ∈ lw_all := lw_t 1457 (by decide +kernel) rfl
theorem k_404 : (.constant R_Mo 385 (135255) : Cond) ∈ lw_all := lw_t 1566 (by decide +kernel) rfl
theorem k_405 : (.methodLink R_Mo 386 y_Mo_standard : Cond) ∈ lw_all := lw_t 1567 (by decide +kernel) rfl
theorem k_406 : (.instanceMethod y_Mo_standard : Cond) ∈ lw_all := lw_t 1569 (by decide +kernel) rfl
theorem k_407 : (.selects R_Mo y_Mo_standard y_Mo_standard : Cond) ∈ lw_all := lw_s 89 (by decide +kernel) rfl
theorem k_408 : (.methodLink R_Mo 183 y_Mo_hash : Cond) ∈ lw_all := lw_t 1378 (by decide +kernel) rfl
theorem k_409 : (.instanceMethod y_Mo_hash : Cond) ∈ lw_all := lw_t 1380 (by decide +kernel) rfl
theorem k_410 : (.selects R_Mo y_Mo_hash y_Mo_hash : Cond) ∈ lw_all := lw_s 53 (by decide +kernel) rfl
theorem k_411 : (.methodLink R_Mo 190 y_Mo_root : Cond) ∈ lw_all := lw_t 1398 (by decide +kernel) rfl
theorem k_412 : (.instanceMethod y_Mo_root : Cond) ∈ lw_all := lw_t 1400 (by decide +kernel) rfl
theorem k_413 : (.selects R_Mo y_Mo_root y_Mo_root : Cond) ∈ lw_all := lw_s 56 (by decide +kernel) rfl
theorem k_414 : (.constant R_Mo 389 (135200) : Cond) ∈ lw_all := lw_t 1571 (by decide +kernel) rfl
theorem k_415 : (.methodLink R_law 13 y_CL_feed : Cond) ∈ lw_all := lw_t 486 (by decide +kernel) rfl
theorem k_416 : (.instanceMethod y_CL_feed : Cond) ∈ lw_all := lw_t 487 (by decide +kernel) rfl
theorem k_417 : (.selects R_CL y_CL_feed y_CL_feed : Cond) ∈ lw_all := lw_t 488 (by decide +kernel) rfl
theorem k_418 : (.methodLink R_law 17 y_Mo_feed : Cond) ∈ lw_all := lw_t 1340 (by decide +kernel) rfl
theorem k_419 : (.instanceMethod y_Mo_feed : Cond) ∈ lw_all := lw_t 1341 (by decide +kernel) rfl
theorem k_420 : (.selects R_Mo y_Mo_feed y_Mo_feed : Cond) ∈ lw_all := lw_t 1342 (by decide +kernel) rfl
theorem k_421 : (.methodLink R_law 18 y_CL_end : Cond) ∈ lw_all := lw_t 497 (by decide +kernel) rfl
theorem k_422 : (.instanceMethod y_CL_end : Cond) ∈ lw_all := lw_t 498 (by decide +kernel) rfl
theorem k_423 : (.selects R_CL y_CL_end y_CL_end : Cond) ∈ lw_all := lw_t 499 (by decide +kernel) rfl
theorem k_424 : (.methodLink R_law 22 y_Mo_end : Cond) ∈ lw_all := lw_t 1349 (by decide +kernel) rfl
theorem k_425 : (.instanceMethod y_Mo_end : Cond) ∈ lw_all := lw_t 1350 (by decide +kernel) rfl
theorem k_426 : (.selects R_Mo y_Mo_end y_Mo_end : Cond) ∈ lw_all := lw_t 1351 (by decide +kernel) rfl
theorem k_427 : (.methodLink R_law 23 y_CL_alter : Cond) ∈ lw_all := lw_t 501 (by decide +kernel) rfl
theorem k_428 : (.instanceMethod y_CL_alter : Cond) ∈ lw_all := lw_t 502 (by decide +kernel) rfl
theorem k_429 : (.selects R_CL y_CL_alter y_CL_alter : Cond) ∈ lw_all := lw_t 503 (by decide +kernel) rfl
theorem k_430 : (.methodLink R_law 27 y_Mo_alter : Cond) ∈ lw_all := lw_t 1353 (by decide +kernel) rfl
theorem k_431 : (.instanceMethod y_Mo_alter : Cond) ∈ lw_all := lw_t 1354 (by decide +kernel) rfl
theorem k_432 : (.selects R_Mo y_Mo_alter y_Mo_alter : Cond) ∈ lw_all := lw_t 1355 (by decide +kernel) rfl
theorem k_433 : (.methodLink R_law 28 y_CL_block : Cond) ∈ lw_all := lw_t 505 (by decide +kernel) rfl
theorem k_434 : (.instanceMethod y_CL_block : Cond) ∈ lw_all := lw_t 506 (by decide +kernel) rfl
theorem k_435 : (.selects R_CL y_CL_block y_CL_block : Cond) ∈ lw_all := lw_t 507 (by decide +kernel) rfl
theorem k_436 : (.methodLink R_law 32 y_Mo_block : Cond) ∈ lw_all := lw_t 1357 (by decide +kernel) rfl
theorem k_437 : (.instanceMethod y_Mo_block : Cond) ∈ lw_all := lw_t 1358 (by decide +kernel) rfl
theorem k_438 : (.selects R_Mo y_Mo_block y_Mo_block : Cond) ∈ lw_all := lw_t 1359 (by decide +kernel) rfl
theorem k_439 : (.methodLink R_law 33 y_CL_pay : Cond) ∈ lw_all := lw_t 983 (by decide +kernel) rfl
theorem k_440 : (.instanceMethod y_CL_pay : Cond) ∈ lw_all := lw_t 984 (by decide +kernel) rfl
theorem k_441 : (.selects R_CL y_CL_pay y_CL_pay : Cond) ∈ lw_all := lw_t 985 (by decide +kernel) rfl
theorem k_442 : (.methodLink R_law 36 y_Mo_pay : Cond) ∈ lw_all := lw_t 1544 (by decide +kernel) rfl
theorem k_443 : (.instanceMethod y_Mo_pay : Cond) ∈ lw_all := lw_t 1545 (by decide +kernel) rfl
theorem k_444 : (.selects R_Mo y_Mo_pay y_Mo_pay : Cond) ∈ lw_all := lw_t 1546 (by decide +kernel) rfl
theorem k_445 : (.methodLink R_law 37 y_CL_draft : Cond) ∈ lw_all := lw_t 995 (by decide +kernel) rfl
theorem k_446 : (.instanceMethod y_CL_draft : Cond) ∈ lw_all := lw_t 996 (by decide +kernel) rfl
theorem k_447 : (.selects R_CL y_CL_draft y_CL_draft : Cond) ∈ lw_all := lw_t 997 (by decide +kernel) rfl
theorem k_448 : (.methodLink R_law 41 y_Mo_draft : Cond) ∈ lw_all := lw_t 1548 (by decide +kernel) rfl
theorem k_449 : (.instanceMethod y_Mo_draft : Cond) ∈ lw_all := lw_t 1549 (by decide +kernel) rfl
theorem k_450 : (.selects R_Mo y_Mo_draft y_Mo_draft : Cond) ∈ lw_all := lw_t 1550 (by decide +kernel) rfl
theorem k_451 : (.methodLink R_law 42 y_CL_mine : Cond) ∈ lw_all := lw_t 1039 (by decide +kernel) rfl
theorem k_452 : (.instanceMethod y_CL_mine : Cond) ∈ lw_all := lw_t 1040 (by decide +kernel) rfl
theorem k_453 : (.selects R_CL y_CL_mine y_CL_mine : Cond) ∈ lw_all := lw_t 1041 (by decide +kernel) rfl
theorem k_454 : (.methodLink R_law 45 y_Mo_mine : Cond) ∈ lw_all := lw_t 1572 (by decide +kernel) rfl
theorem k_455 : (.instanceMethod y_Mo_mine : Cond) ∈ lw_all := lw_t 1573 (by decide +kernel) rfl
theorem k_456 : (.selects R_Mo y_Mo_mine y_Mo_mine : Cond) ∈ lw_all := lw_t 1574 (by decide +kernel) rfl
theorem k_457 : (.methodLink R_law 46 y_CL_spend : Cond) ∈ lw_all := lw_t 1046 (by decide +kernel) rfl
theorem k_458 : (.instanceMethod y_CL_spend : Cond) ∈ lw_all := lw_t 1047 (by decide +kernel) rfl
theorem k_459 : (.selects R_CL y_CL_spend y_CL_spend : Cond) ∈ lw_all := lw_t 1048 (by decide +kernel) rfl
theorem k_460 : (.methodLink R_law 49 y_Mo_spend : Cond) ∈ lw_all := lw_t 1576 (by decide +kernel) rfl
theorem k_461 : (.instanceMethod y_Mo_spend : Cond) ∈ lw_all := lw_t 1577 (by decide +kernel) rfl
theorem k_462 : (.selects R_Mo y_Mo_spend y_Mo_spend : Cond) ∈ lw_all := lw_t 1578 (by decide +kernel) rfl
theorem k_463 : (.methodLink R_law 50 y_CL_sign : Cond) ∈ lw_all := lw_t 1053 (by decide +kernel) rfl
theorem k_464 : (.instanceMethod y_CL_sign : Cond) ∈ lw_all := lw_t 1054 (by decide +kernel) rfl
theorem k_465 : (.selects R_CL y_CL_sign y_CL_sign : Cond) ∈ lw_all := lw_t 1055 (by decide +kernel) rfl
theorem k_466 : (.methodLink R_law 53 y_Mo_sign : Cond) ∈ lw_all := lw_t 1591 (by decide +kernel) rfl
theorem k_467 : (.instanceMethod y_Mo_sign : Cond) ∈ lw_all := lw_t 1592 (by decide +kernel) rfl
theorem k_468 : (.selects R_Mo y_Mo_sign y_Mo_sign : Cond) ∈ lw_all := lw_t 1593 (by decide +kernel) rfl
theorem k_469 : (.methodLink R_law 54 y_CL_script : Cond) ∈ lw_all := lw_t 1067 (by decide +kernel) rfl
theorem k_470 : (.instanceMethod y_CL_script : Cond) ∈ lw_all := lw_t 1068 (by decide +kernel) rfl
theorem k_471 : (.selects R_CL y_CL_script y_CL_script : Cond) ∈ lw_all := lw_t 1069 (by decide +kernel) rfl
theorem k_472 : (.methodLink R_law 57 y_Mo_script : Cond) ∈ lw_all := lw_t 1601 (by decide +kernel) rfl
theorem k_473 : (.instanceMethod y_Mo_script : Cond) ∈ lw_all := lw_t 1602 (by decide +kernel) rfl
theorem k_474 : (.selects R_Mo y_Mo_script y_Mo_script : Cond) ∈ lw_all := lw_t 1603 (by decide +kernel) rfl
theorem k_475 : (.methodLink R_law 58 y_CL_send : Cond) ∈ lw_all := lw_t 1071 (by decide +kernel) rfl
theorem k_476 : (.instanceMethod y_CL_send : Cond) ∈ lw_all := lw_t 1072 (by decide +kernel) rfl
theorem k_477 : (.selects R_CL y_CL_send y_CL_send : Cond) ∈ lw_all := lw_t 1073 (by decide +kernel) rfl
theorem k_478 : (.methodLink R_law 61 y_Mo_send : Cond) ∈ lw_all := lw_t 1605 (by decide +kernel) rfl
theorem k_479 : (.instanceMethod y_Mo_send : Cond) ∈ lw_all := lw_t 1606 (by decide +kernel) rfl
theorem k_480 : (.selects R_Mo y_Mo_send y_Mo_send : Cond) ∈ lw_all := lw_t 1607 (by decide +kernel) rfl
theorem k_481 : (.methodLink R_law 62 y_CL_back : Cond) ∈ lw_all := lw_t 1075 (by decide +kernel) rfl
theorem k_482 : (.instanceMethod y_CL_back : Cond) ∈ lw_all := lw_t 1076 (by decide +kernel) rfl
theorem k_483 : (.selects R_CL y_CL_back y_CL_back : Cond) ∈ lw_all := lw_t 1077 (by decide +kernel) rfl
theorem k_484 : (.methodLink R_law 65 y_Mo_back : Cond) ∈ lw_all := lw_t 1609 (by decide +kernel) rfl
theorem k_485 : (.instanceMethod y_Mo_back : Cond) ∈ lw_all := lw_t 1610 (by decide +kernel) rfl
theorem k_486 : (.selects R_Mo y_Mo_back y_Mo_back : Cond) ∈ lw_all := lw_t 1611 (by decide +kernel) rfl
theorem k_487 : (.methodLink R_law 66 y_CL_tip : Cond) ∈ lw_all := lw_t 1079 (by decide +kernel) rfl
theorem k_488 : (.instanceMethod y_CL_tip : Cond) ∈ lw_all := lw_t 1080 (by decide +kernel) rfl
theorem k_489 : (.selects R_CL y_CL_tip y_CL_tip : Cond) ∈ lw_all := lw_t 1081 (by decide +kernel) rfl
theorem k_490 : (.methodLink R_law 70 y_Mo_tip : Cond) ∈ lw_all := lw_t 1613 (by decide +kernel) rfl
theorem k_491 : (.instanceMethod y_Mo_tip : Cond) ∈ lw_all := lw_t 1614 (by decide +kernel) rfl
theorem k_492 : (.selects R_Mo y_Mo_tip y_Mo_tip : Cond) ∈ lw_all := lw_t 1615 (by decide +kernel) rfl
theorem k_493 : (.methodLink R_law 71 y_CL_stored : Cond) ∈ lw_all := lw_t 1085 (by decide +kernel) rfl
theorem k_494 : (.instanceMethod y_CL_stored : Cond) ∈ lw_all := lw_t 1086 (by decide +kernel) rfl
theorem k_495 : (.selects R_CL y_CL_stored y_CL_stored : Cond) ∈ lw_all := lw_t 1087 (by decide +kernel) rfl
theorem k_496 : (.methodLink R_law 74 y_Mo_stored : Cond) ∈ lw_all := lw_t 1617 (by decide +kernel) rfl
theorem k_497 : (.instanceMethod y_Mo_stored : Cond) ∈ lw_all := lw_t 1618 (by decide +kernel) rfl
theorem k_498 : (.selects R_Mo y_Mo_stored y_Mo_stored : Cond) ∈ lw_all := lw_t 1619 (by decide +kernel) rfl
theorem k_499 : (.methodLink R_law 75 y_CL_coin : Cond) ∈ lw_all := lw_t 1089 (by decide +kernel) rfl
theorem k_500 : (.instanceMethod y_CL_coin : Cond) ∈ lw_all := lw_t 1090 (by decide +kernel) rfl
theorem k_501 : (.selects R_CL y_CL_coin y_CL_coin : Cond) ∈ lw_all := lw_t 1091 (by decide +kernel) rfl
theorem k_502 : (.methodLink R_law 78 y_Mo_coin : Cond) ∈ lw_all := lw_t 1621 (by decide +kernel) rfl
theorem k_503 : (.instanceMethod y_Mo_coin : Cond) ∈ lw_all := lw_t 1622 (by decide +kernel) rfl
theorem k_504 : (.selects R_Mo y_Mo_coin y_Mo_coin : Cond) ∈ lw_all := lw_t 1623 (by decide +kernel) rfl
theorem k_505 : (.methodLink R_law 79 y_CL_balance : Cond) ∈ lw_all := lw_t 1094 (by decide +kernel) rfl
theorem k_506 : (.instanceMethod y_CL_balance : Cond) ∈ lw_all := lw_t 1095 (by decide +kernel) rfl
theorem k_507 : (.selects R_CL y_CL_balance y_CL_balance : Cond) ∈ lw_all := lw_t 1096 (by decide +kernel) rfl
theorem k_508 : (.methodLink R_law 83 y_Mo_balance : Cond) ∈ lw_all := lw_t 1625 (by decide +kernel) rfl
theorem k_509 : (.instanceMethod y_Mo_balance : Cond) ∈ lw_all := lw_t 1626 (by decide +kernel) rfl
theorem k_510 : (.selects R_Mo y_Mo_balance y_Mo_balance : Cond) ∈ lw_all := lw_t 1627 (by decide +kernel) rfl
theorem k_511 : (.methodLink R_law 84 y_CL_pooled : Cond) ∈ lw_all := lw_t 1105 (by decide +kernel) rfl
theorem k_512 : (.instanceMethod y_CL_pooled : Cond) ∈ lw_all := lw_t 1106 (by decide +kernel) rfl
theorem k_513 : (.selects R_CL y_CL_pooled y_CL_pooled : Cond) ∈ lw_all := lw_t 1107 (by decide +kernel) rfl
theorem k_514 : (.methodLink R_law 87 y_Mo_pooled : Cond) ∈ lw_all := lw_t 1629 (by decide +kernel) rfl
theorem k_515 : (.instanceMethod y_Mo_pooled : Cond) ∈ lw_all := lw_t 1630 (by decide +kernel) rfl
theorem k_516 : (.selects R_Mo y_Mo_pooled y_Mo_pooled : Cond) ∈ lw_all := lw_t 1631 (by decide +kernel) rfl
theorem k_517 : (.methodLink R_law 88 y_CL_octet : Cond) ∈ lw_all := lw_t 1109 (by decide +kernel) rfl
theorem k_518 : (.instanceMethod y_CL_octet : Cond) ∈ lw_all := lw_t 1110 (by decide +kernel) rfl
theorem k_519 : (.selects R_CL y_CL_octet y_CL_octet : Cond) ∈ lw_all := lw_t 1111 (by decide +kernel) rfl
theorem k_520 : (.methodLink R_law 91 y_Mo_octet : Cond) ∈ lw_all := lw_t 1633 (by decide +kernel) rfl
theorem k_521 : (.instanceMethod y_Mo_octet : Cond) ∈ lw_all := lw_t 1634 (by decide +kernel) rfl
theorem k_522 : (.selects R_Mo y_Mo_octet y_Mo_octet : Cond) ∈ lw_all := lw_t 1635 (by decide +kernel) rfl
theorem k_523 : (.methodLink R_law 92 y_CL_count : Cond) ∈ lw_all := lw_t 1113 (by decide +kernel) rfl
theorem k_524 : (.instanceMethod y_CL_count : Cond) ∈ lw_all := lw_t 1114 (by decide +kernel) rfl
theorem k_525 : (.selects R_CL y_CL_count y_CL_count : Cond) ∈ lw_all := lw_t 1115 (by decide +kernel) rfl
theorem k_526 : (.methodLink R_law 95 y_Mo_count : Cond) ∈ lw_all := lw_t 1637 (by decide +kernel) rfl
theorem k_527 : (.instanceMethod y_Mo_count : Cond) ∈ lw_all := lw_t 1638 (by decide +kernel) rfl
theorem k_528 : (.selects R_Mo y_Mo_count y_Mo_count : Cond) ∈ lw_all := lw_t 1639 (by decide +kernel) rfl
theorem k_529 : (.classLink R_law 7 R_CL : Cond) ∈ lw_all := lw_t 24 (by decide +kernel) rfl
theorem k_530 : (.instantiable R_CL 10 : Cond) ∈ lw_all := lw_t 25 (by decide +kernel) rfl
theorem k_531 : (.methodLink R_law 9 y_CL_init : Cond) ∈ lw_all := lw_t 26 (by decide +kernel) rfl
theorem k_532 : (.instanceMethod y_CL_init : Cond) ∈ lw_all := lw_t 27 (by decide +kernel) rfl
theorem k_533 : (.classLink R_law 10 R_Mo : Cond) ∈ lw_all := lw_t 1122 (by decide +kernel) rfl
theorem k_534 : (.instantiable R_Mo 56 : Cond) ∈ lw_all := lw_t 1123 (by decide +kernel) rfl
theorem k_535 : (.methodLink R_law 12 y_Mo_init : Cond) ∈ lw_all := lw_t 1124 (by decide +kernel) rfl
theorem k_536 : (.instanceMethod y_Mo_init : Cond) ∈ lw_all := lw_t 1125 (by decide +kernel) rfl
end
section
theorem d_AL_init_0 : decode b_AL_init 0 = .ok (.aload_n 0, 1) := by decide +kernel
theorem d_AL_init_1 : decode b_AL_init 1 = .ok (.invokespecial 1, 3) := by decide +kernel
theorem d_AL_init_4 : decode b_AL_init 4 = .ok (.aload_n 0, 1) := by decide +kernel
theorem d_AL_init_5 : decode b_AL_init 5 = .ok (.getstatic 39, 3) := by decide +kernel
theorem d_AL_init_8 : decode b_AL_init 8 = .ok (.putfield 9, 3) := by decide +kernel
theorem d_AL_init_11 : decode b_AL_init 11 = .ok (.return_, 1) := by decide +kernel
theorem d_AL_size_0 : decode b_AL_size 0 = .ok (.aload_n 0, 1) := by decide +kernel
theorem d_AL_size_1 : decode b_AL_size 1 = .ok (.getfield 48, 3) := by decide +kernel
theorem d_AL_size_4 : decode b_AL_size 4 = .ok (.ireturn, 1) := by decide +kernel
theorem d_Ab_init_0 : decode b_Ab_init 0 = .ok (.aload_n 0, 1) := by decide +kernel
theorem d_Ab_init_1 : decode b_Ab_init 1 = .ok (.invokespecial 1, 3) := by decide +kernel
theorem d_Ab_init_4 : decode b_Ab_init 4 = .ok (.aload_n 0, 1) := by decide +kernel
theorem d_Ab_init_5 : decode b_Ab_init 5 = .ok (.iconst 0, 1) := by decide +kernel
theorem d_Ab_init_6 : decode b_Ab_init 6 = .ok (.putfield 7, 3) := by decide +kernel
theorem d_Ab_init_9 : decode b_Ab_init 9 = .ok (.return_, 1) := by decide +kernel
theorem d_Ac_init_0 : decode b_Ac_init 0 = .ok (.aload_n 0, 1) := by decide +kernel
theorem d_Ac_init_1 : decode b_Ac_init 1 = .ok (.invokespecial 1, 3) := by decide +kernel
theorem d_Ac_init_4 : decode b_Ac_init 4 = .ok (.return_, 1) := by decide +kernel
theorem d_Block_init_0 : decode b_Block_init 0 = .ok (.aload_n 0, 1) := by decide +kernel
theorem d_Block_init_1 : decode b_Block_init 1 = .ok (.invokespecial 3, 3) := by decide +kernel
theorem d_Block_init_4 : decode b_Block_init 4 = .ok (.aload_n 0, 1) := by decide +kernel
theorem d_Block_init_5 : decode b_Block_init 5 = .ok (.bipush 32, 2) := by decide +kernel
theorem d_Block_init_7 : decode b_Block_init 7 = .ok (.newarray .byte, 2) := by decide +kernel
theorem d_Block_init_9 : decode b_Block_init 9 = .ok (.putfield 9, 3) := by decide +kernel
theorem d_Block_init_12 : decode b_Block_init 12 = .ok (.aload_n 0, 1) := by decide +kernel
theorem d_Block_init_13 : decode b_Block_init 13 = .ok (.bipush 32, 2) := by decide +kernel
theorem d_Block_init_15 : decode b_Block_init 15 = .ok (.anewarray 15, 3) := by decide +kernel
theorem d_Block_init_18 : decode b_Block_init 18 = .ok (.putfield 17, 3) := by decide +kernel
theorem d_Block_init_21 : decode b_Block_init 21 = .ok (.aload_n 0, 1) := by decide +kernel
theorem d_Block_init_22 : decode b_Block_init 22 = .ok (.new 21, 3) := by decide +kernel
theorem d_Block_init_25 : decode b_Block_init 25 = .ok (.dup, 1) := by decide +kernel
theorem d_Block_init_26 : decode b_Block_init 26 = .ok (.invokespecial 23, 3) := by decide +kernel
theorem d_Block_init_29 : decode b_Block_init 29 = .ok (.putfield 24, 3) := by decide +kernel
theorem d_Block_init_32 : decode b_Block_init 32 = .ok (.return_, 1) := by decide +kernel
theorem d_Block_read_0 : decode b_Block_read 0 = .ok (.aload_n 0, 1) := by decide +kernel
theorem d_Block_read_1 : decode b_Block_read 1 = .ok (.aload_n 1, 1) := by decide +kernel
theorem d_Block_read_2 : decode b_Block_read 2 = .ok (.putfield 28, 3) := by decide +kernel
theorem d_Block_read_5 : decode b_Block_read 5 = .ok (.aload_n 0, 1) := by decide +kernel
theorem d_Block_read_6 : decode b_Block_read 6 = .ok (.iload_n 2, 1) := by decide +kernel
theorem d_Block_read_7 : decode b_Block_read 7 = .ok (.putfield 31, 3) := by decide +kernel
theorem d_Block_read_10 : decode b_Block_read 10 = .ok (.iload_n 2, 1) := by decide +kernel
theorem d_Block_read_11 : decode b_Block_read 11 = .ok (.bipush 77, 2) := by decide +kernel
theorem d_Block_read_13 : decode b_Block_read 13 = .ok (.if_icmp .ge 5, 3) := by decide +kernel
theorem d_Block_read_16 : decode b_Block_read 16 = .ok (.iconst 0, 1) := by decide +kernel
theorem d_Block_read_17 : decode b_Block_read 17 = .ok (.ireturn, 1) := by decide +kernel
theorem d_CL_alter_0 : decode b_CL_alter 0 = .ok (.iload_n 1, 1) := by decide +kernel
theorem d_CL_alter_1 : decode b_CL_alter 1 = .ok (.ifCond .lt 25, 3) := by decide +kernel
theorem d_CL_alter_4 : decode b_CL_alter 4 = .ok (.iload_n 1, 1) := by decide +kernel
theorem d_CL_alter_5 : decode b_CL_alter 5 = .ok (.aload_n 0, 1) := by decide +kernel
theorem d_CL_alter_6 : decode b_CL_alter 6 = .ok (.getfield 10, 3) := by decide +kernel
theorem d_CL_alter_9 : decode b_CL_alter 9 = .ok (.getfield 68, 3) := by decide +kernel
theorem d_CL_alter_12 : decode b_CL_alter 12 = .ok (.if_icmp .ge 14, 3) := by decide +kernel
theorem d_CL_alter_26 : decode b_CL_alter 26 = .ok (.iconst (-1), 1) := by decide +kernel
theorem d_CL_alter_27 : decode b_CL_alter 27 = .ok (.ireturn, 1) := by decide +kernel
theorem d_CL_back_0 : decode b_CL_back 0 = .ok (.aload_n 0, 1) := by decide +kernel
theorem d_CL_back_1 : decode b_CL_back 1 = .ok (.getfield 10, 3) := by decide +kernel
theorem d_CL_back_4 : decode b_CL_back 4 = .ok (.iconst 0, 1) := by decide +kernel
theorem d_CL_back_5 : decode b_CL_back 5 = .ok (.putfield 68, 3) := by decide +kernel
theorem d_CL_back_8 : decode b_CL_back 8 = .ok (.aload_n 0, 1) := by decide +kernel
theorem d_CL_back_9 : decode b_CL_back 9 = .ok (.getfield 10, 3) := by decide +kernel
theorem d_CL_back_12 : decode b_CL_back 12 = .ok (.aload_n 0, 1) := by decide +kernel
theorem d_CL_back_13 : decode b_CL_back 13 = .ok (.getfield 16, 3) := by decide +kernel
theorem d_CL_back_16 : decode b_CL_back 16 = .ok (.getfield 75, 3) := by decide +kernel
theorem d_CL_back_19 : decode b_CL_back 19 = .ok (.iconst 0, 1) := by decide +kernel
theorem d_CL_back_20 : decode b_CL_back 20 = .ok (.aload_n 0, 1) := by decide +kernel
theorem d_CL_back_21 : decode b_CL_back 21 = .ok (.getfield 16, 3) := by decide +kernel
theorem d_CL_back_24 : decode b_CL_back 24 = .ok (.getfield 68, 3) := by decide +kernel
theorem d_CL_back_27 : decode b_CL_back 27 = .ok (.invokevirtual 136, 3) := by decide +kernel
theorem d_CL_back_30 : decode b_CL_back 30 = .ok (.aload_n 0, 1) := by decide +kernel
theorem d_CL_back_31 : decode b_CL_back 31 = .ok (.getfield 10, 3) := by decide +kernel
theorem d_CL_back_34 : decode b_CL_back 34 = .ok (.getfield 68, 3) := by decide +kernel
theorem d_CL_back_37 : decode b_CL_back 37 = .ok (.ireturn, 1) := by decide +kernel
theorem d_CL_balance_0 : decode b_CL_balance 0 = .ok (.lconst 0, 1) := by decide +kernel
theorem d_CL_balance_1 : decode b_CL_balance 1 = .ok (.lstore_n 1, 1) := by decide +kernel
theorem d_CL_balance_2 : decode b_CL_balance 2 = .ok (.iconst 0, 1) := by decide +kernel
theorem d_CL_balance_3 : decode b_CL_balance 3 = .ok (.istore_n 3, 1) := by decide +kernel
theorem d_CL_balance_4 : decode b_CL_balance 4 = .ok (.iload_n 3, 1) := by decide +kernel
theorem d_CL_balance_5 : decode b_CL_balance 5 = .ok (.aload_n 0, 1) := by decide +kernel
theorem d_CL_balance_6 : decode b_CL_balance 6 = .ok (.getfield 44, 3) := by decide +kernel
theorem d_CL_balance_9 : decode b_CL_balance 9 = .ok (.getfield 161, 3) := by decide +kernel
theorem d_CL_balance_12 : decode b_CL_balance 12 = .ok (.getfield 165, 3) := by decide +kernel
theorem d_CL_balance_15 : decode b_CL_balance 15 = .ok (.invokevirtual 170, 3) := by decide +kernel
theorem d_CL_balance_18 : decode b_CL_balance 18 = .ok (.if_icmp .ge 59, 3) := by decide +kernel
theorem d_CL_balance_77 : decode b_CL_balance 77 = .ok (.aload_n 0, 1) := by decide +kernel
theorem d_CL_balance_78 : decode b_CL_balance 78 = .ok (.getfield 10, 3) := by decide +kernel
theorem d_CL_balance_81 : decode b_CL_balance 81 = .ok (.iconst 0, 1) := by decide +kernel
theorem d_CL_balance_82 : decode b_CL_balance 82 = .ok (.putfield 68, 3) := by decide +kernel
theorem d_CL_balance_85 : decode b_CL_balance 85 = .ok (.lload_n 1, 1) := by decide +kernel
theorem d_CL_balance_86 : decode b_CL_balance 86 = .ok (.lreturn, 1) := by decide +kernel
theorem d_CL_block_0 : decode b_CL_block 0 = .ok (.aload_n 0, 1) := by decide +kernel
theorem d_CL_block_1 : decode b_CL_block 1 = .ok (.getfield 44, 3) := by decide +kernel
theorem d_CL_block_4 : decode b_CL_block 4 = .ok (.aload_n 0, 1) := by decide +kernel
theorem d_CL_block_5 : decode b_CL_block 5 = .ok (.getfield 10, 3) := by decide +kernel
theorem d_CL_block_8 : decode b_CL_block 8 = .ok (.getfield 75, 3) := by decide +kernel
theorem d_CL_block_11 : decode b_CL_block 11 = .ok (.aload_n 0, 1) := by decide +kernel
theorem d_CL_block_12 : decode b_CL_block 12 = .ok (.getfield 10, 3) := by decide +kernel
theorem d_CL_block_15 : decode b_CL_block 15 = .ok (.getfield 68, 3) := by decide +kernel
theorem d_CL_block_18 : decode b_CL_block 18 = .ok (.invokevirtual 78, 3) := by decide +kernel
theorem d_CL_block_21 : decode b_CL_block 21 = .ok (.istore_n 1, 1) := by decide +kernel
theorem d_CL_block_22 : decode b_CL_block 22 = .ok (.aload_n 0, 1) := by decide +kernel
theorem d_CL_block_23 : decode b_CL_block 23 = .ok (.getfield 44, 3) := by decide +kernel
theorem d_CL_block_26 : decode b_CL_block 26 = .ok (.invokevirtual 82, 3) := by decide +kernel
theorem d_CL_block_29 : decode b_CL_block 29 = .ok (.aload_n 0, 1) := by decide +kernel
theorem d_CL_block_30 : decode b_CL_block 30 = .ok (.getfield 53, 3) := by decide +kernel
theorem d_CL_block_33 : decode b_CL_block 33 = .ok (.invokevirtual 85, 3) := by decide +kernel
theorem d_CL_block_36 : decode b_CL_block 36 = .ok (.aload_n 0, 1) := by decide +kernel
theorem d_CL_block_37 : decode b_CL_block 37 = .ok (.getfield 10, 3) := by decide +kernel
theorem d_CL_block_40 : decode b_CL_block 40 = .ok (.iconst 0, 1) := by decide +kernel
theorem d_CL_block_41 : decode b_CL_block 41 = .ok (.putfield 68, 3) := by decide +kernel
theorem d_CL_block_44 : decode b_CL_block 44 = .ok (.iload_n 1, 1) := by decide +kernel
theorem d_CL_block_45 : decode b_CL_block 45 = .ok (.ireturn, 1) := by decide +kernel
theorem d_CL_coin_0 : decode b_CL_coin 0 = .ok (.iload_n 2, 1) := by decide +kernel
theorem d_CL_coin_1 : decode b_CL_coin 1 = .ok (.ifCond .lt 8, 3) := by decide +kernel
theorem d_CL_coin_4 : decode b_CL_coin 4 = .ok (.iload_n 2, 1) := by decide +kernel
theorem d_CL_coin_5 : decode b_CL_coin 5 = .ok (.iconst 5, 1) := by decide +kernel
theorem d_CL_coin_6 : decode b_CL_coin 6 = .ok (.if_icmp .le 5, 3) := by decide +kernel
theorem d_CL_coin_9 : decode b_CL_coin 9 = .ok (.iconst (-1), 1) := by decide +kernel
theorem d_CL_coin_10 : decode b_CL_coin 10 = .ok (.ireturn, 1) := by decide +kernel
theorem d_CL_coin_11 : decode b_CL_coin 11 = .ok (.iload_n 1, 1) := by decide +kernel
theorem d_CL_coin_12 : decode b_CL_coin 12 = .ok (.ifCond .lt 20, 3) := by decide +kernel
theorem d_CL_coin_15 : decode b_CL_coin 15 = .ok (.iload_n 1, 1) := by decide +kernel
theorem d_CL_coin_16 : decode b_CL_coin 16 = .ok (.aload_n 0, 1) := by decide +kernel
theorem d_CL_coin_17 : decode b_CL_coin 17 = .ok (.getfield 44, 3) := by decide +kernel
theorem d_CL_coin_20 : decode b_CL_coin 20 = .ok (.getfield 161, 3) := by decide +kernel
theorem d_CL_coin_23 : decode b_CL_coin 23 = .ok (.getfield 165, 3) := by decide +kernel
theorem d_CL_coin_26 : decode b_CL_coin 26 = .ok (.invokevirtual 170, 3) := by decide +kernel
theorem d_CL_coin_29 : decode b_CL_coin 29 = .ok (.if_icmp .lt 6, 3) := by decide +kernel
theorem d_CL_coin_32 : decode b_CL_coin 32 = .ok (.bipush (-2), 2) := by decide +kernel
theorem d_CL_coin_34 : decode b_CL_coin 34 = .ok (.ireturn, 1) := by decide +kernel
theorem d_CL_count_0 : decode b_CL_count 0 = .ok (.iload_n 1, 1) := by decide +kernel
theorem d_CL_count_1 : decode b_CL_count 1 = .ok (.tableswitch 120 0 6 #[43, 52, 64, 79, 90, 102, 111], 43) := by decide +kernel
theorem d_CL_count_44 : decode b_CL_count 44 = .ok (.aload_n 0, 1) := by decide +kernel
theorem d_CL_count_45 : decode b_CL_count 45 = .ok (.getfield 44, 3) := by decide +kernel
theorem d_CL_count_48 : decode b_CL_count 48 = .ok (.getfield 268, 3) := by decide +kernel
theorem d_CL_count_51 : decode b_CL_count 51 = .ok (.i2l, 1) := by decide +kernel
theorem d_CL_count_52 : decode b_CL_count 52 = .ok (.lreturn, 1) := by decide +kernel
theorem d_CL_count_53 : decode b_CL_count 53 = .ok (.aload_n 0, 1) := by decide +kernel
theorem d_CL_count_54 : decode b_CL_count 54 = .ok (.getfield 44, 3) := by decide +kernel
theorem d_CL_count_57 : decode b_CL_count 57 = .ok (.getfield 271, 3) := by decide +kernel
theorem d_CL_count_60 : decode b_CL_count 60 = .ok (.invokevirtual 170, 3) := by decide +kernel
theorem d_CL_count_63 : decode b_CL_count 63 = .ok (.i2l, 1) := by decide +kernel
theorem d_CL_count_64 : decode b_CL_count 64 = .ok (.lreturn, 1) := by decide +kernel
theorem d_CL_count_65 : decode b_CL_count 65 = .ok (.aload_n 0, 1) := by decide +kernel
theorem d_CL_count_66 : decode b_CL_count 66 = .ok (.getfield 44, 3) := by decide +kernel
theorem d_CL_count_69 : decode b_CL_count 69 = .ok (.getfield 161, 3) := by decide +kernel
theorem d_CL_count_72 : decode b_CL_count 72 = .ok (.getfield 165, 3) := by decide +kernel
theorem d_CL_count_75 : decode b_CL_count 75 = .ok (.invokevirtual 170, 3) := by decide +kernel
theorem d_CL_count_78 : decode b_CL_count 78 = .ok (.i2l, 1) := by decide +kernel
theorem d_CL_count_79 : decode b_CL_count 79 = .ok (.lreturn, 1) := by decide +kernel
theorem d_CL_count_80 : decode b_CL_count 80 = .ok (.aload_n 0, 1) := by decide +kernel
theorem d_CL_count_81 : decode b_CL_count 81 = .ok (.getfield 44, 3) := by decide +kernel
theorem d_CL_count_84 : decode b_CL_count 84 = .ok (.getfield 161, 3) := by decide +kernel
theorem d_CL_count_87 : decode b_CL_count 87 = .ok (.invokevirtual 274, 3) := by decide +kernel
theorem d_CL_count_90 : decode b_CL_count 90 = .ok (.lreturn, 1) := by decide +kernel
theorem d_CL_count_91 : decode b_CL_count 91 = .ok (.aload_n 0, 1) := by decide +kernel
theorem d_CL_count_92 : decode b_CL_count 92 = .ok (.getfield 53, 3) := by decide +kernel
theorem d_CL_count_95 : decode b_CL_count 95 = .ok (.getfield 121, 3) := by decide +kernel
theorem d_CL_count_98 : decode b_CL_count 98 = .ok (.invokevirtual 170, 3) := by decide +kernel
theorem d_CL_count_101 : decode b_CL_count 101 = .ok (.i2l, 1) := by decide +kernel
theorem d_CL_count_102 : decode b_CL_count 102 = .ok (.lreturn, 1) := by decide +kernel
theorem d_CL_count_103 : decode b_CL_count 103 = .ok (.aload_n 0, 1) := by decide +kernel
theorem d_CL_count_104 : decode b_CL_count 104 = .ok (.getfield 44, 3) := by decide +kernel
theorem d_CL_count_107 : decode b_CL_count 107 = .ok (.getfield 278, 3) := by decide +kernel
theorem d_CL_count_110 : decode b_CL_count 110 = .ok (.i2l, 1) := by decide +kernel
theorem d_CL_count_111 : decode b_CL_count 111 = .ok (.lreturn, 1) := by decide +kernel
theorem d_CL_count_112 : decode b_CL_count 112 = .ok (.aload_n 0, 1) := by decide +kernel
theorem d_CL_count_113 : decode b_CL_count 113 = .ok (.getfield 10, 3) := by decide +kernel
theorem d_CL_count_116 : decode b_CL_count 116 = .ok (.getfield 68, 3) := by decide +kernel
theorem d_CL_count_119 : decode b_CL_count 119 = .ok (.i2l, 1) := by decide +kernel
theorem d_CL_count_120 : decode b_CL_count 120 = .ok (.lreturn, 1) := by decide +kernel
theorem d_CL_count_121 : decode b_CL_count 121 = .ok (.ldc2_w 234, 3) := by decide +kernel
theorem d_CL_count_124 : decode b_CL_count 124 = .ok (.lreturn, 1) := by decide +kernel
theorem d_CL_draft_0 : decode b_CL_draft 0 = .ok (.iload_n 1, 1) := by decide +kernel
theorem d_CL_draft_1 : decode b_CL_draft 1 = .ok (.iconst (-1), 1) := by decide +kernel
theorem d_CL_draft_2 : decode b_CL_draft 2 = .ok (.if_icmp .ne 13, 3) := by decide +kernel
theorem d_CL_draft_5 : decode b_CL_draft 5 = .ok (.aload_n 0, 1) := by decide +kernel
theorem d_CL_draft_6 : decode b_CL_draft 6 = .ok (.getfield 44, 3) := by decide +kernel
theorem d_CL_draft_9 : decode b_CL_draft 9 = .ok (.getfield 89, 3) := by decide +kernel
theorem d_CL_draft_12 : decode b_CL_draft 12 = .ok (.goto 11, 3) := by decide +kernel
theorem d_CL_draft_15 : decode b_CL_draft 15 = .ok (.aload_n 0, 1) := by decide +kernel
theorem d_CL_draft_16 : decode b_CL_draft 16 = .ok (.getfield 44, 3) := by decide +kernel
theorem d_CL_draft_19 : decode b_CL_draft 19 = .ok (.iload_n 1, 1) := by decide +kernel
theorem d_CL_draft_20 : decode b_CL_draft 20 = .ok (.invokevirtual 93, 3) := by decide +kernel
theorem d_CL_draft_23 : decode b_CL_draft 23 = .ok (.astore 5, 2) := by decide +kernel
theorem d_CL_draft_25 : decode b_CL_draft 25 = .ok (.aload 5, 2) := by decide +kernel
theorem d_CL_draft_27 : decode b_CL_draft 27 = .ok (.ifnull 7, 3) := by decide +kernel
theorem d_CL_draft_30 : decode b_CL_draft 30 = .ok (.iload_n 2, 1) := by decide +kernel
theorem d_CL_draft_31 : decode b_CL_draft 31 = .ok (.ifCond .ge 5, 3) := by decide +kernel
theorem d_CL_draft_34 : decode b_CL_draft 34 = .ok (.iconst (-1), 1) := by decide +kernel
theorem d_CL_draft_35 : decode b_CL_draft 35 = .ok (.ireturn, 1) := by decide +kernel
theorem d_CL_draft_36 : decode b_CL_draft 36 = .ok (.iload 4, 2) := by decide +kernel
theorem d_CL_draft_38 : decode b_CL_draft 38 = .ok (.ifCond .eq 27, 3) := by decide +kernel
theorem d_CL_draft_41 : decode b_CL_draft 41 = .ok (.aload 5, 2) := by decide +kernel
theorem d_CL_draft_43 : decode b_CL_draft 43 = .ok (.aload_n 0, 1) := by decide +kernel
theorem d_CL_draft_44 : decode b_CL_draft 44 = .ok (.getfield 44, 3) := by decide +kernel
theorem d_CL_draft_47 : decode b_CL_draft 47 = .ok (.getfield 89, 3) := by decide +kernel
theorem d_CL_draft_50 : decode b_CL_draft 50 = .ok (.if_acmp .ne 15, 3) := by decide +kernel
theorem d_CL_draft_53 : decode b_CL_draft 53 = .ok (.aload_n 0, 1) := by decide +kernel
theorem d_CL_draft_54 : decode b_CL_draft 54 = .ok (.getfield 53, 3) := by decide +kernel
theorem d_CL_draft_57 : decode b_CL_draft 57 = .ok (.bipush 94, 2) := by decide +kernel
theorem d_CL_draft_59 : decode b_CL_draft 59 = .ok (.invokevirtual 97, 3) := by decide +kernel
theorem d_CL_draft_62 : decode b_CL_draft 62 = .ok (.goto 4, 3) := by decide +kernel
theorem d_CL_draft_65 : decode b_CL_draft 65 = .ok (.iconst 0, 1) := by decide +kernel
theorem d_CL_draft_66 : decode b_CL_draft 66 = .ok (.istore 6, 2) := by decide +kernel
theorem d_CL_draft_68 : decode b_CL_draft 68 = .ok (.aload_n 0, 1) := by decide +kernel
theorem d_CL_draft_69 : decode b_CL_draft 69 = .ok (.iconst 1, 1) := by decide +kernel
theorem d_CL_draft_70 : decode b_CL_draft 70 = .ok (.putfield 19, 3) := by decide +kernel
theorem d_CL_draft_73 : decode b_CL_draft 73 = .ok (.aload_n 0, 1) := by decide +kernel
theorem d_CL_draft_74 : decode b_CL_draft 74 = .ok (.getfield 16, 3) := by decide +kernel
theorem d_CL_draft_77 : decode b_CL_draft 77 = .ok (.iconst 0, 1) := by decide +kernel
theorem d_CL_draft_78 : decode b_CL_draft 78 = .ok (.putfield 68, 3) := by decide +kernel
theorem d_CL_draft_81 : decode b_CL_draft 81 = .ok (.aload_n 0, 1) := by decide +kernel
theorem d_CL_draft_82 : decode b_CL_draft 82 = .ok (.aload 5, 2) := by decide +kernel
theorem d_CL_draft_84 : decode b_CL_draft 84 = .ok (.iload_n 2, 1) := by decide +kernel
theorem d_CL_draft_85 : decode b_CL_draft 85 = .ok (.invokevirtual 101, 3) := by decide +kernel
theorem d_CL_draft_88 : decode b_CL_draft 88 = .ok (.aload_n 0, 1) := by decide +kernel
theorem d_CL_draft_89 : decode b_CL_draft 89 = .ok (.getfield 16, 3) := by decide +kernel
theorem d_CL_draft_92 : decode b_CL_draft 92 = .ok (.iload 6, 2) := by decide +kernel
theorem d_CL_draft_94 : decode b_CL_draft 94 = .ok (.iconst 1, 1) := by decide +kernel
theorem d_CL_draft_95 : decode b_CL_draft 95 = .ok (.iadd, 1) := by decide +kernel
theorem d_CL_draft_96 : decode b_CL_draft 96 = .ok (.invokevirtual 105, 3) := by decide +kernel
theorem d_CL_draft_99 : decode b_CL_draft 99 = .ok (.aload_n 0, 1) := by decide +kernel
theorem d_CL_draft_100 : decode b_CL_draft 100 = .ok (.aload 5, 2) := by decide +kernel
theorem d_CL_draft_102 : decode b_CL_draft 102 = .ok (.getfield 108, 3) := by decide +kernel
theorem d_CL_draft_105 : decode b_CL_draft 105 = .ok (.iconst 1, 1) := by decide +kernel
theorem d_CL_draft_106 : decode b_CL_draft 106 = .ok (.iadd, 1) := by decide +kernel
theorem d_CL_draft_107 : decode b_CL_draft 107 = .ok (.aload_n 0, 1) := by decide +kernel
theorem d_CL_draft_108 : decode b_CL_draft 108 = .ok (.getfield 53, 3) := by decide +kernel
theorem d_CL_draft_111 : decode b_CL_draft 111 = .ok (.iload 6, 2) := by decide +kernel
theorem d_CL_draft_113 : decode b_CL_draft 113 = .ok (.invokevirtual 113, 3) := by decide +kernel
theorem d_CL_draft_116 : decode b_CL_draft 116 = .ok (.iload_n 3, 1) := by decide +kernel
theorem d_CL_draft_117 : decode b_CL_draft 117 = .ok (.invokevirtual 117, 3) := by decide +kernel
theorem d_CL_draft_120 : decode b_CL_draft 120 = .ok (.iconst 0, 1) := by decide +kernel
theorem d_CL_draft_121 : decode b_CL_draft 121 = .ok (.istore 7, 2) := by decide +kernel
theorem d_CL_draft_123 : decode b_CL_draft 123 = .ok (.iload 7, 2) := by decide +kernel
theorem d_CL_draft_125 : decode b_CL_draft 125 = .ok (.iload 6, 2) := by decide +kernel
theorem d_CL_draft_127 : decode b_CL_draft 127 = .ok (.if_icmp .ge 48, 3) := by decide +kernel
theorem d_CL_draft_175 : decode b_CL_draft 175 = .ok (.aload_n 0, 1) := by decide +kernel
theorem d_CL_draft_176 : decode b_CL_draft 176 = .ok (.iload 6, 2) := by decide +kernel
theorem d_CL_draft_178 : decode b_CL_draft 178 = .ok (.invokevirtual 140, 3) := by decide +kernel
theorem d_CL_draft_181 : decode b_CL_draft 181 = .ok (.aload_n 0, 1) := by decide +kernel
theorem d_CL_draft_182 : decode b_CL_draft 182 = .ok (.getfield 16, 3) := by decide +kernel
theorem d_CL_draft_185 : decode b_CL_draft 185 = .ok (.getfield 68, 3) := by decide +kernel
theorem d_CL_draft_188 : decode b_CL_draft 188 = .ok (.ireturn, 1) := by decide +kernel
theorem d_CL_end_0 : decode b_CL_end 0 = .ok (.iload_n 1, 1) := by decide +kernel
theorem d_CL_end_1 : decode b_CL_end 1 = .ok (.ifCond .lt 14, 3) := by decide +kernel
theorem d_CL_end_4 : decode b_CL_end 4 = .ok (.iload_n 1, 1) := by decide +kernel
theorem d_CL_end_5 : decode b_CL_end 5 = .ok (.aload_n 0, 1) := by decide +kernel
theorem d_CL_end_6 : decode b_CL_end 6 = .ok (.getfield 10, 3) := by decide +kernel
theorem d_CL_end_9 : decode b_CL_end 9 = .ok (.getfield 68, 3) := by decide +kernel
theorem d_CL_end_12 : decode b_CL_end 12 = .ok (.if_icmp .le 5, 3) := by decide +kernel
theorem d_CL_end_15 : decode b_CL_end 15 = .ok (.iconst (-1), 1) := by decide +kernel
theorem d_CL_end_16 : decode b_CL_end 16 = .ok (.ireturn, 1) := by decide +kernel
theorem d_CL_end_17 : decode b_CL_end 17 = .ok (.aload_n 0, 1) := by decide +kernel
theorem d_CL_end_18 : decode b_CL_end 18 = .ok (.getfield 10, 3) := by decide +kernel
theorem d_CL_end_21 : decode b_CL_end 21 = .ok (.iload_n 1, 1) := by decide +kernel
theorem d_CL_end_22 : decode b_CL_end 22 = .ok (.putfield 68, 3) := by decide +kernel
theorem d_CL_end_25 : decode b_CL_end 25 = .ok (.iload_n 1, 1) := by decide +kernel
theorem d_CL_end_26 : decode b_CL_end 26 = .ok (.ireturn, 1) := by decide +kernel
theorem d_CL_feed_0 : decode b_CL_feed 0 = .ok (.aload_n 0, 1) := by decide +kernel
theorem d_CL_feed_1 : decode b_CL_feed 1 = .ok (.getfield 10, 3) := by decide +kernel
theorem d_CL_feed_4 : decode b_CL_feed 4 = .ok (.getfield 68, 3) := by decide +kernel
theorem d_CL_feed_7 : decode b_CL_feed 7 = .ok (.bipush 20, 2) := by decide +kernel
theorem d_CL_feed_9 : decode b_CL_feed 9 = .ok (.iadd, 1) := by decide +kernel
theorem d_CL_feed_10 : decode b_CL_feed 10 = .ok (.sipush 4096, 3) := by decide +kernel
theorem d_CL_feed_13 : decode b_CL_feed 13 = .ok (.if_icmp .le 6, 3) := by decide +kernel
theorem d_CL_feed_19 : decode b_CL_feed 19 = .ok (.aload_n 0, 1) := by decide +kernel
theorem d_CL_feed_20 : decode b_CL_feed 20 = .ok (.getfield 10, 3) := by decide +kernel
theorem d_CL_feed_23 : decode b_CL_feed 23 = .ok (.iload_n 1, 1) := by decide +kernel
theorem d_CL_feed_24 : decode b_CL_feed 24 = .ok (.invokevirtual 71, 3) := by decide +kernel
theorem d_CL_feed_27 : decode b_CL_feed 27 = .ok (.aload_n 0, 1) := by decide +kernel
theorem d_CL_feed_28 : decode b_CL_feed 28 = .ok (.getfield 10, 3) := by decide +kernel
theorem d_CL_feed_31 : decode b_CL_feed 31 = .ok (.iload_n 2, 1) := by decide +kernel
theorem d_CL_feed_32 : decode b_CL_feed 32 = .ok (.invokevirtual 71, 3) := by decide +kernel
theorem d_CL_feed_35 : decode b_CL_feed 35 = .ok (.aload_n 0, 1) := by decide +kernel
theorem d_CL_feed_36 : decode b_CL_feed 36 = .ok (.getfield 10, 3) := by decide +kernel
theorem d_CL_feed_39 : decode b_CL_feed 39 = .ok (.iload_n 3, 1) := by decide +kernel
theorem d_CL_feed_40 : decode b_CL_feed 40 = .ok (.invokevirtual 71, 3) := by decide +kernel
theorem d_CL_feed_43 : decode b_CL_feed 43 = .ok (.aload_n 0, 1) := by decide +kernel
theorem d_CL_feed_44 : decode b_CL_feed 44 = .ok (.getfield 10, 3) := by decide +kernel
theorem d_CL_feed_47 : decode b_CL_feed 47 = .ok (.iload 4, 2) := by decide +kernel
theorem d_CL_feed_49 : decode b_CL_feed 49 = .ok (.invokevirtual 71, 3) := by decide +kernel
theorem d_CL_feed_52 : decode b_CL_feed 52 = .ok (.aload_n 0, 1) := by decide +kernel
theorem d_CL_feed_53 : decode b_CL_feed 53 = .ok (.getfield 10, 3) := by decide +kernel
theorem d_CL_feed_56 : decode b_CL_feed 56 = .ok (.iload 5, 2) := by decide +kernel
theorem d_CL_feed_58 : decode b_CL_feed 58 = .ok (.invokevirtual 71, 3) := by decide +kernel
theorem d_CL_feed_61 : decode b_CL_feed 61 = .ok (.aload_n 0, 1) := by decide +kernel
theorem d_CL_feed_62 : decode b_CL_feed 62 = .ok (.getfield 10, 3) := by decide +kernel
theorem d_CL_feed_65 : decode b_CL_feed 65 = .ok (.getfield 68, 3) := by decide +kernel
theorem d_CL_feed_68 : decode b_CL_feed 68 = .ok (.ireturn, 1) := by decide +kernel
theorem d_CL_init_0 : decode b_CL_init 0 = .ok (.aload_n 0, 1) := by decide +kernel
theorem d_CL_init_1 : decode b_CL_init 1 = .ok (.invokespecial 1, 3) := by decide +kernel
theorem d_CL_init_4 : decode b_CL_init 4 = .ok (.aload_n 0, 1) := by decide +kernel
theorem d_CL_init_5 : decode b_CL_init 5 = .ok (.new 7, 3) := by decide +kernel
theorem d_CL_init_8 : decode b_CL_init 8 = .ok (.dup, 1) := by decide +kernel
theorem d_CL_init_9 : decode b_CL_init 9 = .ok (.invokespecial 9, 3) := by decide +kernel
theorem d_CL_init_12 : decode b_CL_init 12 = .ok (.putfield 10, 3) := by decide +kernel
theorem d_CL_init_15 : decode b_CL_init 15 = .ok (.aload_n 0, 1) := by decide +kernel
theorem d_CL_init_16 : decode b_CL_init 16 = .ok (.new 7, 3) := by decide +kernel
theorem d_CL_init_19 : decode b_CL_init 19 = .ok (.dup, 1) := by decide +kernel
theorem d_CL_init_20 : decode b_CL_init 20 = .ok (.invokespecial 9, 3) := by decide +kernel
theorem d_CL_init_23 : decode b_CL_init 23 = .ok (.putfield 16, 3) := by decide +kernel
theorem d_CL_init_26 : decode b_CL_init 26 = .ok (.aload_n 0, 1) := by decide +kernel
theorem d_CL_init_27 : decode b_CL_init 27 = .ok (.iconst 0, 1) := by decide +kernel
theorem d_CL_init_28 : decode b_CL_init 28 = .ok (.putfield 19, 3) := by decide +kernel
theorem d_CL_init_31 : decode b_CL_init 31 = .ok (.aload_n 0, 1) := by decide +kernel
theorem d_CL_init_32 : decode b_CL_init 32 = .ok (.new 23, 3) := by decide +kernel
theorem d_CL_init_35 : decode b_CL_init 35 = .ok (.dup, 1) := by decide +kernel
theorem d_CL_init_36 : decode b_CL_init 36 = .ok (.invokespecial 25, 3) := by decide +kernel
theorem d_CL_init_39 : decode b_CL_init 39 = .ok (.putfield 26, 3) := by decide +kernel
theorem d_CL_init_42 : decode b_CL_init 42 = .ok (.aload_n 0, 1) := by decide +kernel
theorem d_CL_init_43 : decode b_CL_init 43 = .ok (.new 30, 3) := by decide +kernel
theorem d_CL_init_46 : decode b_CL_init 46 = .ok (.dup, 1) := by decide +kernel
theorem d_CL_init_47 : decode b_CL_init 47 = .ok (.aload_n 0, 1) := by decide +kernel
theorem d_CL_init_48 : decode b_CL_init 48 = .ok (.getfield 26, 3) := by decide +kernel
theorem d_CL_init_51 : decode b_CL_init 51 = .ok (.invokespecial 32, 3) := by decide +kernel
theorem d_CL_init_54 : decode b_CL_init 54 = .ok (.putfield 35, 3) := by decide +kernel
theorem d_CL_init_57 : decode b_CL_init 57 = .ok (.aload_n 0, 1) := by decide +kernel
theorem d_CL_init_58 : decode b_CL_init 58 = .ok (.new 39, 3) := by decide +kernel
theorem d_CL_init_61 : decode b_CL_init 61 = .ok (.dup, 1) := by decide +kernel
theorem d_CL_init_62 : decode b_CL_init 62 = .ok (.aload_n 0, 1) := by decide +kernel
theorem d_CL_init_63 : decode b_CL_init 63 = .ok (.getfield 26, 3) := by decide +kernel
theorem d_CL_init_66 : decode b_CL_init 66 = .ok (.aload_n 0, 1) := by decide +kernel
theorem d_CL_init_67 : decode b_CL_init 67 = .ok (.getfield 35, 3) := by decide +kernel
theorem d_CL_init_70 : decode b_CL_init 70 = .ok (.invokespecial 41, 3) := by decide +kernel
theorem d_CL_init_73 : decode b_CL_init 73 = .ok (.putfield 44, 3) := by decide +kernel
theorem d_CL_init_76 : decode b_CL_init 76 = .ok (.aload_n 0, 1) := by decide +kernel
theorem d_CL_init_77 : decode b_CL_init 77 = .ok (.new 48, 3) := by decide +kernel
theorem d_CL_init_80 : decode b_CL_init 80 = .ok (.dup, 1) := by decide +kernel
theorem d_CL_init_81 : decode b_CL_init 81 = .ok (.aload_n 0, 1) := by decide +kernel
theorem d_CL_init_82 : decode b_CL_init 82 = .ok (.getfield 26, 3) := by decide +kernel
theorem d_CL_init_85 : decode b_CL_init 85 = .ok (.aload_n 0, 1) := by decide +kernel
theorem d_CL_init_86 : decode b_CL_init 86 = .ok (.getfield 35, 3) := by decide +kernel
theorem d_CL_init_89 : decode b_CL_init 89 = .ok (.aload_n 0, 1) := by decide +kernel
theorem d_CL_init_90 : decode b_CL_init 90 = .ok (.getfield 44, 3) := by decide +kernel
theorem d_CL_init_93 : decode b_CL_init 93 = .ok (.invokespecial 50, 3) := by decide +kernel
theorem d_CL_init_96 : decode b_CL_init 96 = .ok (.putfield 53, 3) := by decide +kernel
theorem d_CL_init_99 : decode b_CL_init 99 = .ok (.aload_n 0, 1) := by decide +kernel
theorem d_CL_init_100 : decode b_CL_init 100 = .ok (.new 57, 3) := by decide +kernel
theorem d_CL_init_103 : decode b_CL_init 103 = .ok (.dup, 1) := by decide +kernel
theorem d_CL_init_104 : decode b_CL_init 104 = .ok (.invokespecial 59, 3) := by decide +kernel
theorem d_CL_init_107 : decode b_CL_init 107 = .ok (.putfield 60, 3) := by decide +kernel
theorem d_CL_init_110 : decode b_CL_init 110 = .ok (.aload_n 0, 1) := by decide +kernel
theorem d_CL_init_111 : decode b_CL_init 111 = .ok (.bipush 80, 2) := by decide +kernel
theorem d_CL_init_113 : decode b_CL_init 113 = .ok (.newarray .byte, 2) := by decide +kernel
theorem d_CL_init_115 : decode b_CL_init 115 = .ok (.putfield 64, 3) := by decide +kernel
theorem d_CL_init_118 : decode b_CL_init 118 = .ok (.return_, 1) := by decide +kernel
theorem d_CL_mine_0 : decode b_CL_mine 0 = .ok (.iload_n 1, 1) := by decide +kernel
theorem d_CL_mine_1 : decode b_CL_mine 1 = .ok (.iconst 1, 1) := by decide +kernel
theorem d_CL_mine_2 : decode b_CL_mine 2 = .ok (.if_icmp .lt 18, 3) := by decide +kernel
theorem d_CL_mine_5 : decode b_CL_mine 5 = .ok (.iload_n 1, 1) := by decide +kernel
theorem d_CL_mine_6 : decode b_CL_mine 6 = .ok (.sipush 2000, 3) := by decide +kernel
theorem d_CL_mine_9 : decode b_CL_mine 9 = .ok (.if_icmp .gt 11, 3) := by decide +kernel
theorem d_CL_mine_12 : decode b_CL_mine 12 = .ok (.aload_n 0, 1) := by decide +kernel
theorem d_CL_mine_13 : decode b_CL_mine 13 = .ok (.getfield 19, 3) := by decide +kernel
theorem d_CL_mine_16 : decode b_CL_mine 16 = .ok (.iconst 1, 1) := by decide +kernel
theorem d_CL_mine_17 : decode b_CL_mine 17 = .ok (.if_icmp .eq 5, 3) := by decide +kernel
theorem d_CL_mine_20 : decode b_CL_mine 20 = .ok (.iconst (-1), 1) := by decide +kernel
theorem d_CL_mine_21 : decode b_CL_mine 21 = .ok (.ireturn, 1) := by decide +kernel
theorem d_CL_numberAt_0 : decode b_CL_numberAt 0 = .ok (.aload_n 0, 1) := by decide +kernel
theorem d_CL_numberAt_1 : decode b_CL_numberAt 1 = .ok (.iload_n 1, 1) := by decide +kernel
theorem d_CL_numberAt_2 : decode b_CL_numberAt 2 = .ok (.baload, 1) := by decide +kernel
theorem d_CL_numberAt_3 : decode b_CL_numberAt 3 = .ok (.bipush 24, 2) := by decide +kernel
theorem d_CL_numberAt_5 : decode b_CL_numberAt 5 = .ok (.ishl, 1) := by decide +kernel
theorem d_CL_numberAt_6 : decode b_CL_numberAt 6 = .ok (.aload_n 0, 1) := by decide +kernel
theorem d_CL_numberAt_7 : decode b_CL_numberAt 7 = .ok (.iload_n 1, 1) := by decide +kernel
theorem d_CL_numberAt_8 : decode b_CL_numberAt 8 = .ok (.iconst 1, 1) := by decide +kernel
theorem d_CL_numberAt_9 : decode b_CL_numberAt 9 = .ok (.iadd, 1) := by decide +kernel
theorem d_CL_numberAt_10 : decode b_CL_numberAt 10 = .ok (.baload, 1) := by decide +kernel
theorem d_CL_numberAt_11 : decode b_CL_numberAt 11 = .ok (.sipush 255, 3) := by decide +kernel
theorem d_CL_numberAt_14 : decode b_CL_numberAt 14 = .ok (.iand, 1) := by decide +kernel
theorem d_CL_numberAt_15 : decode b_CL_numberAt 15 = .ok (.bipush 16, 2) := by decide +kernel
theorem d_CL_numberAt_17 : decode b_CL_numberAt 17 = .ok (.ishl, 1) := by decide +kernel
theorem d_CL_numberAt_18 : decode b_CL_numberAt 18 = .ok (.ior, 1) := by decide +kernel
theorem d_CL_numberAt_19 : decode b_CL_numberAt 19 = .ok (.aload_n 0, 1) := by decide +kernel
theorem d_CL_numberAt_20 : decode b_CL_numberAt 20 = .ok (.iload_n 1, 1) := by decide +kernel
theorem d_CL_numberAt_21 : decode b_CL_numberAt 21 = .ok (.iconst 2, 1) := by decide +kernel
theorem d_CL_numberAt_22 : decode b_CL_numberAt 22 = .ok (.iadd, 1) := by decide +kernel
theorem d_CL_numberAt_23 : decode b_CL_numberAt 23 = .ok (.baload, 1) := by decide +kernel
theorem d_CL_numberAt_24 : decode b_CL_numberAt 24 = .ok (.sipush 255, 3) := by decide +kernel
theorem d_CL_numberAt_27 : decode b_CL_numberAt 27 = .ok (.iand, 1) := by decide +kernel
theorem d_CL_numberAt_28 : decode b_CL_numberAt 28 = .ok (.bipush 8, 2) := by decide +kernel
theorem d_CL_numberAt_30 : decode b_CL_numberAt 30 = .ok (.ishl, 1) := by decide +kernel
theorem d_CL_numberAt_31 : decode b_CL_numberAt 31 = .ok (.ior, 1) := by decide +kernel
theorem d_CL_numberAt_32 : decode b_CL_numberAt 32 = .ok (.aload_n 0, 1) := by decide +kernel
theorem d_CL_numberAt_33 : decode b_CL_numberAt 33 = .ok (.iload_n 1, 1) := by decide +kernel
theorem d_CL_numberAt_34 : decode b_CL_numberAt 34 = .ok (.iconst 3, 1) := by decide +kernel
theorem d_CL_numberAt_35 : decode b_CL_numberAt 35 = .ok (.iadd, 1) := by decide +kernel
theorem d_CL_numberAt_36 : decode b_CL_numberAt 36 = .ok (.baload, 1) := by decide +kernel
theorem d_CL_numberAt_37 : decode b_CL_numberAt 37 = .ok (.sipush 255, 3) := by decide +kernel
theorem d_CL_numberAt_40 : decode b_CL_numberAt 40 = .ok (.iand, 1) := by decide +kernel
theorem d_CL_numberAt_41 : decode b_CL_numberAt 41 = .ok (.ior, 1) := by decide +kernel
theorem d_CL_numberAt_42 : decode b_CL_numberAt 42 = .ok (.ireturn, 1) := by decide +kernel
theorem d_CL_octet_0 : decode b_CL_octet 0 = .ok (.iload_n 1, 1) := by decide +kernel
theorem d_CL_octet_1 : decode b_CL_octet 1 = .ok (.iconst (-1), 1) := by decide +kernel
theorem d_CL_octet_2 : decode b_CL_octet 2 = .ok (.if_icmp .ne 11, 3) := by decide +kernel
theorem d_CL_octet_5 : decode b_CL_octet 5 = .ok (.aload_n 0, 1) := by decide +kernel
theorem d_CL_octet_6 : decode b_CL_octet 6 = .ok (.getfield 16, 3) := by decide +kernel
theorem d_CL_octet_9 : decode b_CL_octet 9 = .ok (.getfield 68, 3) := by decide +kernel
theorem d_CL_octet_12 : decode b_CL_octet 12 = .ok (.ireturn, 1) := by decide +kernel
theorem d_CL_octet_13 : decode b_CL_octet 13 = .ok (.iload_n 1, 1) := by decide +kernel
theorem d_CL_octet_14 : decode b_CL_octet 14 = .ok (.ifCond .lt 14, 3) := by decide +kernel
theorem d_CL_octet_17 : decode b_CL_octet 17 = .ok (.iload_n 1, 1) := by decide +kernel
theorem d_CL_octet_18 : decode b_CL_octet 18 = .ok (.aload_n 0, 1) := by decide +kernel
theorem d_CL_octet_19 : decode b_CL_octet 19 = .ok (.getfield 16, 3) := by decide +kernel
theorem d_CL_octet_22 : decode b_CL_octet 22 = .ok (.getfield 68, 3) := by decide +kernel
theorem d_CL_octet_25 : decode b_CL_octet 25 = .ok (.if_icmp .lt 8, 3) := by decide +kernel
theorem d_CL_octet_28 : decode b_CL_octet 28 = .ok (.bipush (-2), 2) := by decide +kernel
theorem d_CL_octet_30 : decode b_CL_octet 30 = .ok (.goto 16, 3) := by decide +kernel
theorem d_CL_octet_46 : decode b_CL_octet 46 = .ok (.ireturn, 1) := by decide +kernel
theorem d_CL_pay_0 : decode b_CL_pay 0 = .ok (.aload_n 0, 1) := by decide +kernel
theorem d_CL_pay_1 : decode b_CL_pay 1 = .ok (.getfield 53, 3) := by decide +kernel
theorem d_CL_pay_4 : decode b_CL_pay 4 = .ok (.aload_n 0, 1) := by decide +kernel
theorem d_CL_pay_5 : decode b_CL_pay 5 = .ok (.getfield 10, 3) := by decide +kernel
theorem d_CL_pay_8 : decode b_CL_pay 8 = .ok (.getfield 75, 3) := by decide +kernel
theorem d_CL_pay_11 : decode b_CL_pay 11 = .ok (.aload_n 0, 1) := by decide +kernel
theorem d_CL_pay_12 : decode b_CL_pay 12 = .ok (.getfield 10, 3) := by decide +kernel
theorem d_CL_pay_15 : decode b_CL_pay 15 = .ok (.getfield 68, 3) := by decide +kernel
theorem d_CL_pay_18 : decode b_CL_pay 18 = .ok (.invokevirtual 88, 3) := by decide +kernel
theorem d_CL_pay_21 : decode b_CL_pay 21 = .ok (.istore_n 1, 1) := by decide +kernel
theorem d_CL_pay_22 : decode b_CL_pay 22 = .ok (.aload_n 0, 1) := by decide +kernel
theorem d_CL_pay_23 : decode b_CL_pay 23 = .ok (.getfield 10, 3) := by decide +kernel
theorem d_CL_pay_26 : decode b_CL_pay 26 = .ok (.iconst 0, 1) := by decide +kernel
theorem d_CL_pay_27 : decode b_CL_pay 27 = .ok (.putfield 68, 3) := by decide +kernel
theorem d_CL_pay_30 : decode b_CL_pay 30 = .ok (.iload_n 1, 1) := by decide +kernel
theorem d_CL_pay_31 : decode b_CL_pay 31 = .ok (.ireturn, 1) := by decide +kernel
theorem d_CL_pooled_0 : decode b_CL_pooled 0 = .ok (.iload_n 2, 1) := by decide +kernel
theorem d_CL_pooled_1 : decode b_CL_pooled 1 = .ok (.ifCond .lt 8, 3) := by decide +kernel
theorem d_CL_pooled_4 : decode b_CL_pooled 4 = .ok (.iload_n 2, 1) := by decide +kernel
theorem d_CL_pooled_5 : decode b_CL_pooled 5 = .ok (.iconst 3, 1) := by decide +kernel
theorem d_CL_pooled_6 : decode b_CL_pooled 6 = .ok (.if_icmp .le 5, 3) := by decide +kernel
theorem d_CL_pooled_9 : decode b_CL_pooled 9 = .ok (.iconst (-1), 1) := by decide +kernel
theorem d_CL_pooled_10 : decode b_CL_pooled 10 = .ok (.ireturn, 1) := by decide +kernel
theorem d_CL_pooled_11 : decode b_CL_pooled 11 = .ok (.iload_n 1, 1) := by decide +kernel
theorem d_CL_pooled_12 : decode b_CL_pooled 12 = .ok (.ifCond .lt 17, 3) := by decide +kernel
theorem d_CL_pooled_15 : decode b_CL_pooled 15 = .ok (.iload_n 1, 1) := by decide +kernel
theorem d_CL_pooled_16 : decode b_CL_pooled 16 = .ok (.aload_n 0, 1) := by decide +kernel
theorem d_CL_pooled_17 : decode b_CL_pooled 17 = .ok (.getfield 53, 3) := by decide +kernel
theorem d_CL_pooled_20 : decode b_CL_pooled 20 = .ok (.getfield 121, 3) := by decide +kernel
theorem d_CL_pooled_23 : decode b_CL_pooled 23 = .ok (.invokevirtual 170, 3) := by decide +kernel
theorem d_CL_pooled_26 : decode b_CL_pooled 26 = .ok (.if_icmp .lt 6, 3) := by decide +kernel
theorem d_CL_pooled_29 : decode b_CL_pooled 29 = .ok (.bipush (-2), 2) := by decide +kernel
theorem d_CL_pooled_31 : decode b_CL_pooled 31 = .ok (.ireturn, 1) := by decide +kernel
theorem d_CL_putNumber_0 : decode b_CL_putNumber 0 = .ok (.aload_n 0, 1) := by decide +kernel
theorem d_CL_putNumber_1 : decode b_CL_putNumber 1 = .ok (.iload_n 1, 1) := by decide +kernel
theorem d_CL_putNumber_2 : decode b_CL_putNumber 2 = .ok (.iload_n 2, 1) := by decide +kernel
theorem d_CL_putNumber_3 : decode b_CL_putNumber 3 = .ok (.bipush 24, 2) := by decide +kernel
theorem d_CL_putNumber_5 : decode b_CL_putNumber 5 = .ok (.ishr, 1) := by decide +kernel
theorem d_CL_putNumber_6 : decode b_CL_putNumber 6 = .ok (.i2b, 1) := by decide +kernel
theorem d_CL_putNumber_7 : decode b_CL_putNumber 7 = .ok (.bastore, 1) := by decide +kernel
theorem d_CL_putNumber_8 : decode b_CL_putNumber 8 = .ok (.aload_n 0, 1) := by decide +kernel
theorem d_CL_putNumber_9 : decode b_CL_putNumber 9 = .ok (.iload_n 1, 1) := by decide +kernel
theorem d_CL_putNumber_10 : decode b_CL_putNumber 10 = .ok (.iconst 1, 1) := by decide +kernel
theorem d_CL_putNumber_11 : decode b_CL_putNumber 11 = .ok (.iadd, 1) := by decide +kernel
theorem d_CL_putNumber_12 : decode b_CL_putNumber 12 = .ok (.iload_n 2, 1) := by decide +kernel
theorem d_CL_putNumber_13 : decode b_CL_putNumber 13 = .ok (.bipush 16, 2) := by decide +kernel
theorem d_CL_putNumber_15 : decode b_CL_putNumber 15 = .ok (.ishr, 1) := by decide +kernel
theorem d_CL_putNumber_16 : decode b_CL_putNumber 16 = .ok (.i2b, 1) := by decide +kernel
theorem d_CL_putNumber_17 : decode b_CL_putNumber 17 = .ok (.bastore, 1) := by decide +kernel
theorem d_CL_putNumber_18 : decode b_CL_putNumber 18 = .ok (.aload_n 0, 1) := by decide +kernel
theorem d_CL_putNumber_19 : decode b_CL_putNumber 19 = .ok (.iload_n 1, 1) := by decide +kernel
theorem d_CL_putNumber_20 : decode b_CL_putNumber 20 = .ok (.iconst 2, 1) := by decide +kernel
theorem d_CL_putNumber_21 : decode b_CL_putNumber 21 = .ok (.iadd, 1) := by decide +kernel
theorem d_CL_putNumber_22 : decode b_CL_putNumber 22 = .ok (.iload_n 2, 1) := by decide +kernel
theorem d_CL_putNumber_23 : decode b_CL_putNumber 23 = .ok (.bipush 8, 2) := by decide +kernel
theorem d_CL_putNumber_25 : decode b_CL_putNumber 25 = .ok (.ishr, 1) := by decide +kernel
theorem d_CL_putNumber_26 : decode b_CL_putNumber 26 = .ok (.i2b, 1) := by decide +kernel
theorem d_CL_putNumber_27 : decode b_CL_putNumber 27 = .ok (.bastore, 1) := by decide +kernel
theorem d_CL_putNumber_28 : decode b_CL_putNumber 28 = .ok (.aload_n 0, 1) := by decide +kernel
theorem d_CL_putNumber_29 : decode b_CL_putNumber 29 = .ok (.iload_n 1, 1) := by decide +kernel
theorem d_CL_putNumber_30 : decode b_CL_putNumber 30 = .ok (.iconst 3, 1) := by decide +kernel
theorem d_CL_putNumber_31 : decode b_CL_putNumber 31 = .ok (.iadd, 1) := by decide +kernel
theorem d_CL_putNumber_32 : decode b_CL_putNumber 32 = .ok (.iload_n 2, 1) := by decide +kernel
theorem d_CL_putNumber_33 : decode b_CL_putNumber 33 = .ok (.i2b, 1) := by decide +kernel
theorem d_CL_putNumber_34 : decode b_CL_putNumber 34 = .ok (.bastore, 1) := by decide +kernel
theorem d_CL_putNumber_35 : decode b_CL_putNumber 35 = .ok (.return_, 1) := by decide +kernel
theorem d_CL_putRoot_0 : decode b_CL_putRoot 0 = .ok (.aload_n 0, 1) := by decide +kernel
theorem d_CL_putRoot_1 : decode b_CL_putRoot 1 = .ok (.getfield 26, 3) := by decide +kernel
theorem d_CL_putRoot_4 : decode b_CL_putRoot 4 = .ok (.aload_n 0, 1) := by decide +kernel
theorem d_CL_putRoot_5 : decode b_CL_putRoot 5 = .ok (.getfield 16, 3) := by decide +kernel
theorem d_CL_putRoot_8 : decode b_CL_putRoot 8 = .ok (.getfield 75, 3) := by decide +kernel
theorem d_CL_putRoot_11 : decode b_CL_putRoot 11 = .ok (.bipush 77, 2) := by decide +kernel
theorem d_CL_putRoot_13 : decode b_CL_putRoot 13 = .ok (.bipush 17, 2) := by decide +kernel
theorem d_CL_putRoot_15 : decode b_CL_putRoot 15 = .ok (.iconst 2, 1) := by decide +kernel
theorem d_CL_putRoot_16 : decode b_CL_putRoot 16 = .ok (.aload_n 0, 1) := by decide +kernel
theorem d_CL_putRoot_17 : decode b_CL_putRoot 17 = .ok (.getfield 44, 3) := by decide +kernel
theorem d_CL_putRoot_20 : decode b_CL_putRoot 20 = .ok (.getfield 288, 3) := by decide +kernel
theorem d_CL_putRoot_23 : decode b_CL_putRoot 23 = .ok (.iconst 0, 1) := by decide +kernel
theorem d_CL_putRoot_24 : decode b_CL_putRoot 24 = .ok (.invokevirtual 146, 3) := by decide +kernel
theorem d_CL_putRoot_27 : decode b_CL_putRoot 27 = .ok (.aload_n 0, 1) := by decide +kernel
theorem d_CL_putRoot_28 : decode b_CL_putRoot 28 = .ok (.aload_n 0, 1) := by decide +kernel
theorem d_CL_putRoot_29 : decode b_CL_putRoot 29 = .ok (.getfield 53, 3) := by decide +kernel
theorem d_CL_putRoot_32 : decode b_CL_putRoot 32 = .ok (.iload_n 1, 1) := by decide +kernel
theorem d_CL_putRoot_33 : decode b_CL_putRoot 33 = .ok (.aload_n 0, 1) := by decide +kernel
theorem d_CL_putRoot_34 : decode b_CL_putRoot 34 = .ok (.getfield 44, 3) := by decide +kernel
theorem d_CL_putRoot_37 : decode b_CL_putRoot 37 = .ok (.getfield 288, 3) := by decide +kernel
theorem d_CL_putRoot_40 : decode b_CL_putRoot 40 = .ok (.invokevirtual 291, 3) := by decide +kernel
theorem d_CL_putRoot_43 : decode b_CL_putRoot 43 = .ok (.ifCond .ne 7, 3) := by decide +kernel
theorem d_CL_putRoot_46 : decode b_CL_putRoot 46 = .ok (.iconst 1, 1) := by decide +kernel
theorem d_CL_putRoot_47 : decode b_CL_putRoot 47 = .ok (.goto 4, 3) := by decide +kernel
theorem d_CL_putRoot_51 : decode b_CL_putRoot 51 = .ok (.putfield 150, 3) := by decide +kernel
theorem d_CL_putRoot_54 : decode b_CL_putRoot 54 = .ok (.iconst 0, 1) := by decide +kernel
theorem d_CL_putRoot_55 : decode b_CL_putRoot 55 = .ok (.istore_n 2, 1) := by decide +kernel
theorem d_CL_putRoot_56 : decode b_CL_putRoot 56 = .ok (.iload_n 2, 1) := by decide +kernel
theorem d_CL_putRoot_57 : decode b_CL_putRoot 57 = .ok (.iload_n 1, 1) := by decide +kernel
theorem d_CL_putRoot_58 : decode b_CL_putRoot 58 = .ok (.if_icmp .ge 59, 3) := by decide +kernel
theorem d_CL_putRoot_117 : decode b_CL_putRoot 117 = .ok (.aload_n 0, 1) := by decide +kernel
theorem d_CL_putRoot_118 : decode b_CL_putRoot 118 = .ok (.getfield 26, 3) := by decide +kernel
theorem d_CL_putRoot_121 : decode b_CL_putRoot 121 = .ok (.aload_n 0, 1) := by decide +kernel
theorem d_CL_putRoot_122 : decode b_CL_putRoot 122 = .ok (.getfield 44, 3) := by decide +kernel
theorem d_CL_putRoot_125 : decode b_CL_putRoot 125 = .ok (.getfield 288, 3) := by decide +kernel
theorem d_CL_putRoot_128 : decode b_CL_putRoot 128 = .ok (.iload_n 1, 1) := by decide +kernel
theorem d_CL_putRoot_129 : decode b_CL_putRoot 129 = .ok (.iconst 1, 1) := by decide +kernel
theorem d_CL_putRoot_130 : decode b_CL_putRoot 130 = .ok (.iadd, 1) := by decide +kernel
theorem d_CL_putRoot_131 : decode b_CL_putRoot 131 = .ok (.invokevirtual 295, 3) := by decide +kernel
theorem d_CL_putRoot_134 : decode b_CL_putRoot 134 = .ok (.aload_n 0, 1) := by decide +kernel
theorem d_CL_putRoot_135 : decode b_CL_putRoot 135 = .ok (.getfield 44, 3) := by decide +kernel
theorem d_CL_putRoot_138 : decode b_CL_putRoot 138 = .ok (.getfield 288, 3) := by decide +kernel
theorem d_CL_putRoot_141 : decode b_CL_putRoot 141 = .ok (.iconst 0, 1) := by decide +kernel
theorem d_CL_putRoot_142 : decode b_CL_putRoot 142 = .ok (.aload_n 0, 1) := by decide +kernel
theorem d_CL_putRoot_143 : decode b_CL_putRoot 143 = .ok (.getfield 16, 3) := by decide +kernel
theorem d_CL_putRoot_146 : decode b_CL_putRoot 146 = .ok (.getfield 75, 3) := by decide +kernel
theorem d_CL_putRoot_149 : decode b_CL_putRoot 149 = .ok (.bipush 32, 2) := by decide +kernel
theorem d_CL_putRoot_151 : decode b_CL_putRoot 151 = .ok (.bipush 32, 2) := by decide +kernel
theorem d_CL_putRoot_153 : decode b_CL_putRoot 153 = .ok (.invokestatic 207, 3) := by decide +kernel
theorem d_CL_putRoot_156 : decode b_CL_putRoot 156 = .ok (.return_, 1) := by decide +kernel
theorem d_CL_readOutPayment_0 : decode b_CL_readOutPayment 0 = .ok (.aload_n 0, 1) := by decide +kernel
theorem d_CL_readOutPayment_1 : decode b_CL_readOutPayment 1 = .ok (.getfield 19, 3) := by decide +kernel
theorem d_CL_readOutPayment_4 : decode b_CL_readOutPayment 4 = .ok (.iconst 2, 1) := by decide +kernel
theorem d_CL_readOutPayment_5 : decode b_CL_readOutPayment 5 = .ok (.if_icmp .ne 39, 3) := by decide +kernel
theorem d_CL_readOutPayment_44 : decode b_CL_readOutPayment 44 = .ok (.iconst 0, 1) := by decide +kernel
theorem d_CL_readOutPayment_45 : decode b_CL_readOutPayment 45 = .ok (.ireturn, 1) := by decide +kernel
theorem d_CL_rewardAt_0 : decode b_CL_rewardAt 0 = .ok (.iload_n 0, 1) := by decide +kernel
theorem d_CL_rewardAt_1 : decode b_CL_rewardAt 1 = .ok (.bipush 16, 2) := by decide +kernel
theorem d_CL_rewardAt_3 : decode b_CL_rewardAt 3 = .ok (.idiv, 1) := by decide +kernel
theorem d_CL_rewardAt_4 : decode b_CL_rewardAt 4 = .ok (.istore_n 1, 1) := by decide +kernel
theorem d_CL_rewardAt_5 : decode b_CL_rewardAt 5 = .ok (.iload_n 1, 1) := by decide +kernel
theorem d_CL_rewardAt_6 : decode b_CL_rewardAt 6 = .ok (.bipush 20, 2) := by decide +kernel
theorem d_CL_rewardAt_8 : decode b_CL_rewardAt 8 = .ok (.if_icmp .lt 7, 3) := by decide +kernel
theorem d_CL_rewardAt_15 : decode b_CL_rewardAt 15 = .ok (.ldc_w 303, 3) := by decide +kernel
theorem d_CL_rewardAt_18 : decode b_CL_rewardAt 18 = .ok (.iload_n 1, 1) := by decide +kernel
theorem d_CL_rewardAt_19 : decode b_CL_rewardAt 19 = .ok (.ishr, 1) := by decide +kernel
theorem d_CL_rewardAt_20 : decode b_CL_rewardAt 20 = .ok (.ireturn, 1) := by decide +kernel
theorem d_CL_script_0 : decode b_CL_script 0 = .ok (.aload_n 0, 1) := by decide +kernel
theorem d_CL_script_1 : decode b_CL_script 1 = .ok (.getfield 10, 3) := by decide +kernel
theorem d_CL_script_4 : decode b_CL_script 4 = .ok (.getfield 68, 3) := by decide +kernel
theorem d_CL_script_7 : decode b_CL_script 7 = .ok (.bipush 80, 2) := by decide +kernel
theorem d_CL_script_9 : decode b_CL_script 9 = .ok (.if_icmp .gt 10, 3) := by decide +kernel
theorem d_CL_script_12 : decode b_CL_script 12 = .ok (.aload_n 0, 1) := by decide +kernel
theorem d_CL_script_13 : decode b_CL_script 13 = .ok (.invokevirtual 193, 3) := by decide +kernel
theorem d_CL_script_16 : decode b_CL_script 16 = .ok (.ifCond .ne 5, 3) := by decide +kernel
theorem d_CL_script_19 : decode b_CL_script 19 = .ok (.iconst (-1), 1) := by decide +kernel
theorem d_CL_script_20 : decode b_CL_script 20 = .ok (.ireturn, 1) := by decide +kernel
theorem d_CL_send_0 : decode b_CL_send 0 = .ok (.aload_n 0, 1) := by decide +kernel
theorem d_CL_send_1 : decode b_CL_send 1 = .ok (.getfield 19, 3) := by decide +kernel
theorem d_CL_send_4 : decode b_CL_send 4 = .ok (.ifCond .ne 5, 3) := by decide +kernel
theorem d_CL_send_7 : decode b_CL_send 7 = .ok (.iconst (-1), 1) := by decide +kernel
theorem d_CL_send_8 : decode b_CL_send 8 = .ok (.ireturn, 1) := by decide +kernel
theorem d_CL_sign_0 : decode b_CL_sign 0 = .ok (.aload_n 0, 1) := by decide +kernel
theorem d_CL_sign_1 : decode b_CL_sign 1 = .ok (.invokevirtual 193, 3) := by decide +kernel
end
section
theorem d_CL_sign_4 : decode b_CL_sign 4 = .ok (.ifCond .eq 18, 3) := by decide +kernel
theorem d_CL_sign_22 : decode b_CL_sign 22 = .ok (.iconst (-1), 1) := by decide +kernel
theorem d_CL_sign_23 : decode b_CL_sign 23 = .ok (.ireturn, 1) := by decide +kernel
theorem d_CL_spend_0 : decode b_CL_spend 0 = .ok (.iload_n 2, 1) := by decide +kernel
theorem d_CL_spend_1 : decode b_CL_spend 1 = .ok (.iconst 1, 1) := by decide +kernel
theorem d_CL_spend_2 : decode b_CL_spend 2 = .ok (.if_icmp .lt 19, 3) := by decide +kernel
theorem d_CL_spend_5 : decode b_CL_spend 5 = .ok (.iload_n 2, 1) := by decide +kernel
theorem d_CL_spend_6 : decode b_CL_spend 6 = .ok (.bipush 8, 2) := by decide +kernel
theorem d_CL_spend_8 : decode b_CL_spend 8 = .ok (.if_icmp .gt 13, 3) := by decide +kernel
theorem d_CL_spend_11 : decode b_CL_spend 11 = .ok (.iload 4, 2) := by decide +kernel
theorem d_CL_spend_13 : decode b_CL_spend 13 = .ok (.ifCond .lt 8, 3) := by decide +kernel
theorem d_CL_spend_16 : decode b_CL_spend 16 = .ok (.iload 5, 2) := by decide +kernel
theorem d_CL_spend_18 : decode b_CL_spend 18 = .ok (.ifCond .ge 5, 3) := by decide +kernel
theorem d_CL_spend_21 : decode b_CL_spend 21 = .ok (.iconst (-1), 1) := by decide +kernel
theorem d_CL_spend_22 : decode b_CL_spend 22 = .ok (.ireturn, 1) := by decide +kernel
theorem d_CL_spend_23 : decode b_CL_spend 23 = .ok (.iload_n 1, 1) := by decide +kernel
theorem d_CL_spend_24 : decode b_CL_spend 24 = .ok (.ifCond .lt 22, 3) := by decide +kernel
theorem d_CL_spend_27 : decode b_CL_spend 27 = .ok (.iload_n 1, 1) := by decide +kernel
theorem d_CL_spend_28 : decode b_CL_spend 28 = .ok (.aload_n 0, 1) := by decide +kernel
theorem d_CL_spend_29 : decode b_CL_spend 29 = .ok (.getfield 44, 3) := by decide +kernel
theorem d_CL_spend_32 : decode b_CL_spend 32 = .ok (.getfield 161, 3) := by decide +kernel
theorem d_CL_spend_35 : decode b_CL_spend 35 = .ok (.getfield 165, 3) := by decide +kernel
theorem d_CL_spend_38 : decode b_CL_spend 38 = .ok (.invokevirtual 170, 3) := by decide +kernel
theorem d_CL_spend_41 : decode b_CL_spend 41 = .ok (.iload_n 2, 1) := by decide +kernel
theorem d_CL_spend_42 : decode b_CL_spend 42 = .ok (.isub, 1) := by decide +kernel
theorem d_CL_spend_43 : decode b_CL_spend 43 = .ok (.if_icmp .le 5, 3) := by decide +kernel
theorem d_CL_spend_46 : decode b_CL_spend 46 = .ok (.iconst (-1), 1) := by decide +kernel
theorem d_CL_spend_47 : decode b_CL_spend 47 = .ok (.ireturn, 1) := by decide +kernel
theorem d_CL_stored_0 : decode b_CL_stored 0 = .ok (.iload_n 2, 1) := by decide +kernel
theorem d_CL_stored_1 : decode b_CL_stored 1 = .ok (.ifCond .lt 8, 3) := by decide +kernel
theorem d_CL_stored_4 : decode b_CL_stored 4 = .ok (.iload_n 2, 1) := by decide +kernel
theorem d_CL_stored_5 : decode b_CL_stored 5 = .ok (.iconst 5, 1) := by decide +kernel
theorem d_CL_stored_6 : decode b_CL_stored 6 = .ok (.if_icmp .le 5, 3) := by decide +kernel
theorem d_CL_stored_9 : decode b_CL_stored 9 = .ok (.iconst (-1), 1) := by decide +kernel
theorem d_CL_stored_10 : decode b_CL_stored 10 = .ok (.ireturn, 1) := by decide +kernel
theorem d_CL_stored_11 : decode b_CL_stored 11 = .ok (.aload_n 0, 1) := by decide +kernel
theorem d_CL_stored_12 : decode b_CL_stored 12 = .ok (.getfield 44, 3) := by decide +kernel
theorem d_CL_stored_15 : decode b_CL_stored 15 = .ok (.iload_n 1, 1) := by decide +kernel
theorem d_CL_stored_16 : decode b_CL_stored 16 = .ok (.invokevirtual 93, 3) := by decide +kernel
theorem d_CL_stored_19 : decode b_CL_stored 19 = .ok (.astore_n 3, 1) := by decide +kernel
theorem d_CL_stored_20 : decode b_CL_stored 20 = .ok (.aload_n 3, 1) := by decide +kernel
theorem d_CL_stored_21 : decode b_CL_stored 21 = .ok (.ifnonnull 6, 3) := by decide +kernel
theorem d_CL_stored_24 : decode b_CL_stored 24 = .ok (.bipush (-2), 2) := by decide +kernel
theorem d_CL_stored_26 : decode b_CL_stored 26 = .ok (.ireturn, 1) := by decide +kernel
theorem d_CL_stored_27 : decode b_CL_stored 27 = .ok (.iload_n 2, 1) := by decide +kernel
theorem d_CL_stored_28 : decode b_CL_stored 28 = .ok (.tableswitch 76 0 4 #[36, 41, 61, 66, 71], 36) := by decide +kernel
theorem d_CL_stored_64 : decode b_CL_stored 64 = .ok (.aload_n 3, 1) := by decide +kernel
theorem d_CL_stored_65 : decode b_CL_stored 65 = .ok (.getfield 108, 3) := by decide +kernel
theorem d_CL_stored_68 : decode b_CL_stored 68 = .ok (.ireturn, 1) := by decide +kernel
theorem d_CL_stored_69 : decode b_CL_stored 69 = .ok (.aload_n 3, 1) := by decide +kernel
theorem d_CL_stored_70 : decode b_CL_stored 70 = .ok (.getfield 236, 3) := by decide +kernel
theorem d_CL_stored_73 : decode b_CL_stored 73 = .ok (.ifnonnull 8, 3) := by decide +kernel
theorem d_CL_stored_76 : decode b_CL_stored 76 = .ok (.bipush (-2), 2) := by decide +kernel
theorem d_CL_stored_78 : decode b_CL_stored 78 = .ok (.goto 10, 3) := by decide +kernel
theorem d_CL_stored_88 : decode b_CL_stored 88 = .ok (.ireturn, 1) := by decide +kernel
theorem d_CL_stored_89 : decode b_CL_stored 89 = .ok (.aload_n 3, 1) := by decide +kernel
theorem d_CL_stored_90 : decode b_CL_stored 90 = .ok (.getfield 239, 3) := by decide +kernel
theorem d_CL_stored_93 : decode b_CL_stored 93 = .ok (.ireturn, 1) := by decide +kernel
theorem d_CL_stored_94 : decode b_CL_stored 94 = .ok (.aload_n 3, 1) := by decide +kernel
theorem d_CL_stored_95 : decode b_CL_stored 95 = .ok (.getfield 242, 3) := by decide +kernel
theorem d_CL_stored_98 : decode b_CL_stored 98 = .ok (.ireturn, 1) := by decide +kernel
theorem d_CL_stored_99 : decode b_CL_stored 99 = .ok (.aload_n 3, 1) := by decide +kernel
theorem d_CL_stored_100 : decode b_CL_stored 100 = .ok (.getfield 245, 3) := by decide +kernel
theorem d_CL_stored_103 : decode b_CL_stored 103 = .ok (.ireturn, 1) := by decide +kernel
theorem d_CL_stored_104 : decode b_CL_stored 104 = .ok (.aload_n 3, 1) := by decide +kernel
theorem d_CL_stored_105 : decode b_CL_stored 105 = .ok (.getfield 248, 3) := by decide +kernel
theorem d_CL_stored_108 : decode b_CL_stored 108 = .ok (.ifCond .eq 7, 3) := by decide +kernel
theorem d_CL_stored_111 : decode b_CL_stored 111 = .ok (.iconst 1, 1) := by decide +kernel
theorem d_CL_stored_112 : decode b_CL_stored 112 = .ok (.goto 4, 3) := by decide +kernel
theorem d_CL_stored_116 : decode b_CL_stored 116 = .ok (.ireturn, 1) := by decide +kernel
theorem d_CL_tip_0 : decode b_CL_tip 0 = .ok (.iload_n 1, 1) := by decide +kernel
theorem d_CL_tip_1 : decode b_CL_tip 1 = .ok (.tableswitch 86 0 3 #[31, 43, 55, 66], 31) := by decide +kernel
theorem d_CL_tip_32 : decode b_CL_tip 32 = .ok (.aload_n 0, 1) := by decide +kernel
theorem d_CL_tip_33 : decode b_CL_tip 33 = .ok (.getfield 44, 3) := by decide +kernel
theorem d_CL_tip_36 : decode b_CL_tip 36 = .ok (.getfield 89, 3) := by decide +kernel
theorem d_CL_tip_39 : decode b_CL_tip 39 = .ok (.getfield 108, 3) := by decide +kernel
theorem d_CL_tip_42 : decode b_CL_tip 42 = .ok (.i2l, 1) := by decide +kernel
theorem d_CL_tip_43 : decode b_CL_tip 43 = .ok (.lreturn, 1) := by decide +kernel
theorem d_CL_tip_44 : decode b_CL_tip 44 = .ok (.aload_n 0, 1) := by decide +kernel
theorem d_CL_tip_45 : decode b_CL_tip 45 = .ok (.getfield 44, 3) := by decide +kernel
theorem d_CL_tip_48 : decode b_CL_tip 48 = .ok (.getfield 89, 3) := by decide +kernel
theorem d_CL_tip_51 : decode b_CL_tip 51 = .ok (.getfield 224, 3) := by decide +kernel
theorem d_CL_tip_54 : decode b_CL_tip 54 = .ok (.i2l, 1) := by decide +kernel
theorem d_CL_tip_55 : decode b_CL_tip 55 = .ok (.lreturn, 1) := by decide +kernel
theorem d_CL_tip_56 : decode b_CL_tip 56 = .ok (.aload_n 0, 1) := by decide +kernel
theorem d_CL_tip_57 : decode b_CL_tip 57 = .ok (.getfield 44, 3) := by decide +kernel
theorem d_CL_tip_60 : decode b_CL_tip 60 = .ok (.getfield 89, 3) := by decide +kernel
theorem d_CL_tip_63 : decode b_CL_tip 63 = .ok (.getfield 227, 3) := by decide +kernel
theorem d_CL_tip_66 : decode b_CL_tip 66 = .ok (.lreturn, 1) := by decide +kernel
theorem d_CL_tip_67 : decode b_CL_tip 67 = .ok (.aload_n 0, 1) := by decide +kernel
theorem d_CL_tip_68 : decode b_CL_tip 68 = .ok (.getfield 44, 3) := by decide +kernel
theorem d_CL_tip_71 : decode b_CL_tip 71 = .ok (.getfield 89, 3) := by decide +kernel
theorem d_CL_tip_74 : decode b_CL_tip 74 = .ok (.getfield 231, 3) := by decide +kernel
theorem d_CL_tip_77 : decode b_CL_tip 77 = .ok (.iconst 0, 1) := by decide +kernel
theorem d_CL_tip_78 : decode b_CL_tip 78 = .ok (.invokestatic 143, 3) := by decide +kernel
theorem d_CL_tip_81 : decode b_CL_tip 81 = .ok (.i2l, 1) := by decide +kernel
theorem d_CL_tip_82 : decode b_CL_tip 82 = .ok (.ldc2_w 232, 3) := by decide +kernel
theorem d_CL_tip_85 : decode b_CL_tip 85 = .ok (.land, 1) := by decide +kernel
theorem d_CL_tip_86 : decode b_CL_tip 86 = .ok (.lreturn, 1) := by decide +kernel
theorem d_CL_tip_87 : decode b_CL_tip 87 = .ok (.ldc2_w 234, 3) := by decide +kernel
theorem d_CL_tip_90 : decode b_CL_tip 90 = .ok (.lreturn, 1) := by decide +kernel
theorem d_CL_writeFirst_0 : decode b_CL_writeFirst 0 = .ok (.aload_n 0, 1) := by decide +kernel
theorem d_CL_writeFirst_1 : decode b_CL_writeFirst 1 = .ok (.getfield 16, 3) := by decide +kernel
theorem d_CL_writeFirst_4 : decode b_CL_writeFirst 4 = .ok (.iload_n 1, 1) := by decide +kernel
theorem d_CL_writeFirst_5 : decode b_CL_writeFirst 5 = .ok (.invokevirtual 71, 3) := by decide +kernel
theorem d_CL_writeFirst_8 : decode b_CL_writeFirst 8 = .ok (.aload_n 0, 1) := by decide +kernel
theorem d_CL_writeFirst_9 : decode b_CL_writeFirst 9 = .ok (.getfield 16, 3) := by decide +kernel
theorem d_CL_writeFirst_12 : decode b_CL_writeFirst 12 = .ok (.iconst 0, 1) := by decide +kernel
theorem d_CL_writeFirst_13 : decode b_CL_writeFirst 13 = .ok (.invokevirtual 105, 3) := by decide +kernel
theorem d_CL_writeFirst_16 : decode b_CL_writeFirst 16 = .ok (.aload_n 0, 1) := by decide +kernel
theorem d_CL_writeFirst_17 : decode b_CL_writeFirst 17 = .ok (.getfield 16, 3) := by decide +kernel
theorem d_CL_writeFirst_20 : decode b_CL_writeFirst 20 = .ok (.iconst 1, 1) := by decide +kernel
theorem d_CL_writeFirst_21 : decode b_CL_writeFirst 21 = .ok (.invokevirtual 105, 3) := by decide +kernel
theorem d_CL_writeFirst_24 : decode b_CL_writeFirst 24 = .ok (.aload_n 0, 1) := by decide +kernel
theorem d_CL_writeFirst_25 : decode b_CL_writeFirst 25 = .ok (.getfield 16, 3) := by decide +kernel
theorem d_CL_writeFirst_28 : decode b_CL_writeFirst 28 = .ok (.iload_n 1, 1) := by decide +kernel
theorem d_CL_writeFirst_29 : decode b_CL_writeFirst 29 = .ok (.invokestatic 285, 3) := by decide +kernel
theorem d_CL_writeFirst_32 : decode b_CL_writeFirst 32 = .ok (.i2l, 1) := by decide +kernel
theorem d_CL_writeFirst_33 : decode b_CL_writeFirst 33 = .ok (.lload_n 2, 1) := by decide +kernel
theorem d_CL_writeFirst_34 : decode b_CL_writeFirst 34 = .ok (.ladd, 1) := by decide +kernel
theorem d_CL_writeFirst_35 : decode b_CL_writeFirst 35 = .ok (.l2i, 1) := by decide +kernel
theorem d_CL_writeFirst_36 : decode b_CL_writeFirst 36 = .ok (.iload 4, 2) := by decide +kernel
theorem d_CL_writeFirst_38 : decode b_CL_writeFirst 38 = .ok (.invokevirtual 189, 3) := by decide +kernel
theorem d_CL_writeFirst_41 : decode b_CL_writeFirst 41 = .ok (.return_, 1) := by decide +kernel
theorem d_CL_writeHeader_0 : decode b_CL_writeHeader 0 = .ok (.aload_n 0, 1) := by decide +kernel
theorem d_CL_writeHeader_1 : decode b_CL_writeHeader 1 = .ok (.getfield 16, 3) := by decide +kernel
theorem d_CL_writeHeader_4 : decode b_CL_writeHeader 4 = .ok (.aload_n 1, 1) := by decide +kernel
theorem d_CL_writeHeader_5 : decode b_CL_writeHeader 5 = .ok (.getfield 231, 3) := by decide +kernel
theorem d_CL_writeHeader_8 : decode b_CL_writeHeader 8 = .ok (.iconst 0, 1) := by decide +kernel
theorem d_CL_writeHeader_9 : decode b_CL_writeHeader 9 = .ok (.bipush 32, 2) := by decide +kernel
theorem d_CL_writeHeader_11 : decode b_CL_writeHeader 11 = .ok (.invokevirtual 136, 3) := by decide +kernel
theorem d_CL_writeHeader_14 : decode b_CL_writeHeader 14 = .ok (.aload_n 0, 1) := by decide +kernel
theorem d_CL_writeHeader_15 : decode b_CL_writeHeader 15 = .ok (.getfield 16, 3) := by decide +kernel
theorem d_CL_writeHeader_18 : decode b_CL_writeHeader 18 = .ok (.aload_n 1, 1) := by decide +kernel
theorem d_CL_writeHeader_19 : decode b_CL_writeHeader 19 = .ok (.getfield 231, 3) := by decide +kernel
theorem d_CL_writeHeader_22 : decode b_CL_writeHeader 22 = .ok (.iconst 0, 1) := by decide +kernel
theorem d_CL_writeHeader_23 : decode b_CL_writeHeader 23 = .ok (.bipush 32, 2) := by decide +kernel
theorem d_CL_writeHeader_25 : decode b_CL_writeHeader 25 = .ok (.invokevirtual 136, 3) := by decide +kernel
theorem d_CL_writeHeader_28 : decode b_CL_writeHeader 28 = .ok (.aload_n 0, 1) := by decide +kernel
theorem d_CL_writeHeader_29 : decode b_CL_writeHeader 29 = .ok (.getfield 16, 3) := by decide +kernel
theorem d_CL_writeHeader_32 : decode b_CL_writeHeader 32 = .ok (.iload_n 2, 1) := by decide +kernel
theorem d_CL_writeHeader_33 : decode b_CL_writeHeader 33 = .ok (.invokevirtual 71, 3) := by decide +kernel
theorem d_CL_writeHeader_36 : decode b_CL_writeHeader 36 = .ok (.aload_n 0, 1) := by decide +kernel
theorem d_CL_writeHeader_37 : decode b_CL_writeHeader 37 = .ok (.getfield 16, 3) := by decide +kernel
theorem d_CL_writeHeader_40 : decode b_CL_writeHeader 40 = .ok (.aload_n 0, 1) := by decide +kernel
theorem d_CL_writeHeader_41 : decode b_CL_writeHeader 41 = .ok (.getfield 44, 3) := by decide +kernel
theorem d_CL_writeHeader_44 : decode b_CL_writeHeader 44 = .ok (.aload_n 1, 1) := by decide +kernel
theorem d_CL_writeHeader_45 : decode b_CL_writeHeader 45 = .ok (.invokevirtual 281, 3) := by decide +kernel
theorem d_CL_writeHeader_48 : decode b_CL_writeHeader 48 = .ok (.invokevirtual 71, 3) := by decide +kernel
theorem d_CL_writeHeader_51 : decode b_CL_writeHeader 51 = .ok (.aload_n 0, 1) := by decide +kernel
theorem d_CL_writeHeader_52 : decode b_CL_writeHeader 52 = .ok (.getfield 16, 3) := by decide +kernel
theorem d_CL_writeHeader_55 : decode b_CL_writeHeader 55 = .ok (.iconst 0, 1) := by decide +kernel
theorem d_CL_writeHeader_56 : decode b_CL_writeHeader 56 = .ok (.invokevirtual 71, 3) := by decide +kernel
theorem d_CL_writeHeader_59 : decode b_CL_writeHeader 59 = .ok (.return_, 1) := by decide +kernel
theorem d_Chain_dueTarget_0 : decode b_Chain_dueTarget 0 = .ok (.aload_n 1, 1) := by decide +kernel
theorem d_Chain_dueTarget_1 : decode b_Chain_dueTarget 1 = .ok (.getfield 156, 3) := by decide +kernel
theorem d_Chain_dueTarget_4 : decode b_Chain_dueTarget 4 = .ok (.iconst 1, 1) := by decide +kernel
theorem d_Chain_dueTarget_5 : decode b_Chain_dueTarget 5 = .ok (.iadd, 1) := by decide +kernel
theorem d_Chain_dueTarget_6 : decode b_Chain_dueTarget 6 = .ok (.bipush 8, 2) := by decide +kernel
theorem d_Chain_dueTarget_8 : decode b_Chain_dueTarget 8 = .ok (.irem, 1) := by decide +kernel
theorem d_Chain_dueTarget_9 : decode b_Chain_dueTarget 9 = .ok (.ifCond .eq 8, 3) := by decide +kernel
theorem d_Chain_dueTarget_12 : decode b_Chain_dueTarget 12 = .ok (.aload_n 1, 1) := by decide +kernel
theorem d_Chain_dueTarget_13 : decode b_Chain_dueTarget 13 = .ok (.getfield 55, 3) := by decide +kernel
theorem d_Chain_dueTarget_16 : decode b_Chain_dueTarget 16 = .ok (.ireturn, 1) := by decide +kernel
theorem d_Chain_init_0 : decode b_Chain_init 0 = .ok (.aload_n 0, 1) := by decide +kernel
theorem d_Chain_init_1 : decode b_Chain_init 1 = .ok (.invokespecial 3, 3) := by decide +kernel
theorem d_Chain_init_4 : decode b_Chain_init 4 = .ok (.aload_n 0, 1) := by decide +kernel
theorem d_Chain_init_5 : decode b_Chain_init 5 = .ok (.new 9, 3) := by decide +kernel
theorem d_Chain_init_8 : decode b_Chain_init 8 = .ok (.dup, 1) := by decide +kernel
theorem d_Chain_init_9 : decode b_Chain_init 9 = .ok (.invokespecial 11, 3) := by decide +kernel
theorem d_Chain_init_12 : decode b_Chain_init 12 = .ok (.putfield 12, 3) := by decide +kernel
theorem d_Chain_init_15 : decode b_Chain_init 15 = .ok (.aload_n 0, 1) := by decide +kernel
theorem d_Chain_init_16 : decode b_Chain_init 16 = .ok (.sipush 256, 3) := by decide +kernel
theorem d_Chain_init_19 : decode b_Chain_init 19 = .ok (.anewarray 18, 3) := by decide +kernel
theorem d_Chain_init_22 : decode b_Chain_init 22 = .ok (.putfield 20, 3) := by decide +kernel
theorem d_Chain_init_25 : decode b_Chain_init 25 = .ok (.aload_n 0, 1) := by decide +kernel
theorem d_Chain_init_26 : decode b_Chain_init 26 = .ok (.new 24, 3) := by decide +kernel
theorem d_Chain_init_29 : decode b_Chain_init 29 = .ok (.dup, 1) := by decide +kernel
theorem d_Chain_init_30 : decode b_Chain_init 30 = .ok (.invokespecial 26, 3) := by decide +kernel
theorem d_Chain_init_33 : decode b_Chain_init 33 = .ok (.putfield 27, 3) := by decide +kernel
theorem d_Chain_init_36 : decode b_Chain_init 36 = .ok (.aload_n 0, 1) := by decide +kernel
theorem d_Chain_init_37 : decode b_Chain_init 37 = .ok (.sipush 1024, 3) := by decide +kernel
theorem d_Chain_init_40 : decode b_Chain_init 40 = .ok (.newarray .byte, 2) := by decide +kernel
theorem d_Chain_init_42 : decode b_Chain_init 42 = .ok (.putfield 31, 3) := by decide +kernel
theorem d_Chain_init_45 : decode b_Chain_init 45 = .ok (.aload_n 0, 1) := by decide +kernel
theorem d_Chain_init_46 : decode b_Chain_init 46 = .ok (.sipush 256, 3) := by decide +kernel
theorem d_Chain_init_49 : decode b_Chain_init 49 = .ok (.anewarray 18, 3) := by decide +kernel
theorem d_Chain_init_52 : decode b_Chain_init 52 = .ok (.putfield 35, 3) := by decide +kernel
theorem d_Chain_init_55 : decode b_Chain_init 55 = .ok (.aload_n 0, 1) := by decide +kernel
theorem d_Chain_init_56 : decode b_Chain_init 56 = .ok (.sipush 256, 3) := by decide +kernel
theorem d_Chain_init_59 : decode b_Chain_init 59 = .ok (.anewarray 18, 3) := by decide +kernel
theorem d_Chain_init_62 : decode b_Chain_init 62 = .ok (.putfield 38, 3) := by decide +kernel
theorem d_Chain_init_65 : decode b_Chain_init 65 = .ok (.aload_n 0, 1) := by decide +kernel
theorem d_Chain_init_66 : decode b_Chain_init 66 = .ok (.bipush 7, 2) := by decide +kernel
theorem d_Chain_init_68 : decode b_Chain_init 68 = .ok (.newarray .int, 2) := by decide +kernel
theorem d_Chain_init_70 : decode b_Chain_init 70 = .ok (.putfield 41, 3) := by decide +kernel
theorem d_Chain_init_73 : decode b_Chain_init 73 = .ok (.aload_n 0, 1) := by decide +kernel
theorem d_Chain_init_74 : decode b_Chain_init 74 = .ok (.aload_n 1, 1) := by decide +kernel
theorem d_Chain_init_75 : decode b_Chain_init 75 = .ok (.putfield 45, 3) := by decide +kernel
theorem d_Chain_init_78 : decode b_Chain_init 78 = .ok (.aload_n 0, 1) := by decide +kernel
theorem d_Chain_init_79 : decode b_Chain_init 79 = .ok (.aload_n 2, 1) := by decide +kernel
theorem d_Chain_init_80 : decode b_Chain_init 80 = .ok (.putfield 49, 3) := by decide +kernel
theorem d_Chain_init_83 : decode b_Chain_init 83 = .ok (.new 18, 3) := by decide +kernel
theorem d_Chain_init_86 : decode b_Chain_init 86 = .ok (.dup, 1) := by decide +kernel
theorem d_Chain_init_87 : decode b_Chain_init 87 = .ok (.invokespecial 53, 3) := by decide +kernel
theorem d_Chain_init_90 : decode b_Chain_init 90 = .ok (.astore_n 3, 1) := by decide +kernel
theorem d_Chain_init_91 : decode b_Chain_init 91 = .ok (.aload_n 3, 1) := by decide +kernel
theorem d_Chain_init_92 : decode b_Chain_init 92 = .ok (.ldc 54, 2) := by decide +kernel
theorem d_Chain_init_94 : decode b_Chain_init 94 = .ok (.putfield 55, 3) := by decide +kernel
theorem d_Chain_init_97 : decode b_Chain_init 97 = .ok (.aload_n 3, 1) := by decide +kernel
theorem d_Chain_init_98 : decode b_Chain_init 98 = .ok (.iconst 1, 1) := by decide +kernel
theorem d_Chain_init_99 : decode b_Chain_init 99 = .ok (.putfield 59, 3) := by decide +kernel
theorem d_Chain_init_102 : decode b_Chain_init 102 = .ok (.aload_n 3, 1) := by decide +kernel
theorem d_Chain_init_103 : decode b_Chain_init 103 = .ok (.iconst 1, 1) := by decide +kernel
theorem d_Chain_init_104 : decode b_Chain_init 104 = .ok (.putfield 63, 3) := by decide +kernel
theorem d_Chain_init_107 : decode b_Chain_init 107 = .ok (.aload_n 0, 1) := by decide +kernel
theorem d_Chain_init_108 : decode b_Chain_init 108 = .ok (.getfield 20, 3) := by decide +kernel
theorem d_Chain_init_111 : decode b_Chain_init 111 = .ok (.iconst 0, 1) := by decide +kernel
theorem d_Chain_init_112 : decode b_Chain_init 112 = .ok (.aload_n 3, 1) := by decide +kernel
theorem d_Chain_init_113 : decode b_Chain_init 113 = .ok (.aastore, 1) := by decide +kernel
theorem d_Chain_init_114 : decode b_Chain_init 114 = .ok (.aload_n 0, 1) := by decide +kernel
theorem d_Chain_init_115 : decode b_Chain_init 115 = .ok (.iconst 1, 1) := by decide +kernel
theorem d_Chain_init_116 : decode b_Chain_init 116 = .ok (.putfield 66, 3) := by decide +kernel
theorem d_Chain_init_119 : decode b_Chain_init 119 = .ok (.aload_n 0, 1) := by decide +kernel
theorem d_Chain_init_120 : decode b_Chain_init 120 = .ok (.iconst 1, 1) := by decide +kernel
theorem d_Chain_init_121 : decode b_Chain_init 121 = .ok (.putfield 69, 3) := by decide +kernel
theorem d_Chain_init_124 : decode b_Chain_init 124 = .ok (.aload_n 0, 1) := by decide +kernel
theorem d_Chain_init_125 : decode b_Chain_init 125 = .ok (.aload_n 3, 1) := by decide +kernel
theorem d_Chain_init_126 : decode b_Chain_init 126 = .ok (.putfield 72, 3) := by decide +kernel
theorem d_Chain_init_129 : decode b_Chain_init 129 = .ok (.return_, 1) := by decide +kernel
theorem d_Chain_listLeft_0 : decode b_Chain_listLeft 0 = .ok (.aload_n 0, 1) := by decide +kernel
theorem d_Chain_listLeft_1 : decode b_Chain_listLeft 1 = .ok (.iconst 0, 1) := by decide +kernel
theorem d_Chain_listLeft_2 : decode b_Chain_listLeft 2 = .ok (.putfield 224, 3) := by decide +kernel
theorem d_Chain_listLeft_5 : decode b_Chain_listLeft 5 = .ok (.aload_n 1, 1) := by decide +kernel
theorem d_Chain_listLeft_6 : decode b_Chain_listLeft 6 = .ok (.astore_n 2, 1) := by decide +kernel
theorem d_Chain_listLeft_7 : decode b_Chain_listLeft 7 = .ok (.aload_n 2, 1) := by decide +kernel
theorem d_Chain_listLeft_8 : decode b_Chain_listLeft 8 = .ok (.ifnull 38, 3) := by decide +kernel
theorem d_Chain_listLeft_11 : decode b_Chain_listLeft 11 = .ok (.aload_n 2, 1) := by decide +kernel
theorem d_Chain_listLeft_12 : decode b_Chain_listLeft 12 = .ok (.getfield 63, 3) := by decide +kernel
theorem d_Chain_listLeft_15 : decode b_Chain_listLeft 15 = .ok (.ifCond .ne 31, 3) := by decide +kernel
theorem d_Chain_listLeft_46 : decode b_Chain_listLeft 46 = .ok (.return_, 1) := by decide +kernel
theorem d_Chain_numbered_0 : decode b_Chain_numbered 0 = .ok (.iload_n 1, 1) := by decide +kernel
theorem d_Chain_numbered_1 : decode b_Chain_numbered 1 = .ok (.ifCond .lt 11, 3) := by decide +kernel
theorem d_Chain_numbered_4 : decode b_Chain_numbered 4 = .ok (.iload_n 1, 1) := by decide +kernel
theorem d_Chain_numbered_5 : decode b_Chain_numbered 5 = .ok (.aload_n 0, 1) := by decide +kernel
theorem d_Chain_numbered_6 : decode b_Chain_numbered 6 = .ok (.getfield 66, 3) := by decide +kernel
theorem d_Chain_numbered_9 : decode b_Chain_numbered 9 = .ok (.if_icmp .lt 7, 3) := by decide +kernel
theorem d_Chain_numbered_12 : decode b_Chain_numbered 12 = .ok (.aconst_null, 1) := by decide +kernel
theorem d_Chain_numbered_13 : decode b_Chain_numbered 13 = .ok (.goto 9, 3) := by decide +kernel
theorem d_Chain_numbered_16 : decode b_Chain_numbered 16 = .ok (.aload_n 0, 1) := by decide +kernel
theorem d_Chain_numbered_17 : decode b_Chain_numbered 17 = .ok (.getfield 20, 3) := by decide +kernel
theorem d_Chain_numbered_20 : decode b_Chain_numbered 20 = .ok (.iload_n 1, 1) := by decide +kernel
theorem d_Chain_numbered_21 : decode b_Chain_numbered 21 = .ok (.aaload, 1) := by decide +kernel
theorem d_Chain_numbered_22 : decode b_Chain_numbered 22 = .ok (.areturn, 1) := by decide +kernel
theorem d_Chain_receive_0 : decode b_Chain_receive 0 = .ok (.aload_n 0, 1) := by decide +kernel
theorem d_Chain_receive_1 : decode b_Chain_receive 1 = .ok (.getfield 76, 3) := by decide +kernel
theorem d_Chain_receive_4 : decode b_Chain_receive 4 = .ok (.ifnonnull 14, 3) := by decide +kernel
theorem d_Chain_receive_7 : decode b_Chain_receive 7 = .ok (.aload_n 0, 1) := by decide +kernel
theorem d_Chain_receive_8 : decode b_Chain_receive 8 = .ok (.new 18, 3) := by decide +kernel
theorem d_Chain_receive_11 : decode b_Chain_receive 11 = .ok (.dup, 1) := by decide +kernel
theorem d_Chain_receive_12 : decode b_Chain_receive 12 = .ok (.invokespecial 53, 3) := by decide +kernel
theorem d_Chain_receive_15 : decode b_Chain_receive 15 = .ok (.putfield 76, 3) := by decide +kernel
theorem d_Chain_receive_18 : decode b_Chain_receive 18 = .ok (.aload_n 0, 1) := by decide +kernel
theorem d_Chain_receive_19 : decode b_Chain_receive 19 = .ok (.getfield 76, 3) := by decide +kernel
theorem d_Chain_receive_22 : decode b_Chain_receive 22 = .ok (.astore_n 3, 1) := by decide +kernel
theorem d_Chain_receive_23 : decode b_Chain_receive 23 = .ok (.aload_n 3, 1) := by decide +kernel
theorem d_Chain_receive_24 : decode b_Chain_receive 24 = .ok (.aload_n 1, 1) := by decide +kernel
theorem d_Chain_receive_25 : decode b_Chain_receive 25 = .ok (.iload_n 2, 1) := by decide +kernel
theorem d_Chain_receive_26 : decode b_Chain_receive 26 = .ok (.aload_n 0, 1) := by decide +kernel
theorem d_Chain_receive_27 : decode b_Chain_receive 27 = .ok (.getfield 45, 3) := by decide +kernel
theorem d_Chain_receive_30 : decode b_Chain_receive 30 = .ok (.aload_n 0, 1) := by decide +kernel
theorem d_Chain_receive_31 : decode b_Chain_receive 31 = .ok (.getfield 31, 3) := by decide +kernel
theorem d_Chain_receive_34 : decode b_Chain_receive 34 = .ok (.invokevirtual 79, 3) := by decide +kernel
theorem d_Chain_receive_37 : decode b_Chain_receive 37 = .ok (.ifCond .ne 6, 3) := by decide +kernel
theorem d_Chain_receive_40 : decode b_Chain_receive 40 = .ok (.bipush (-3), 2) := by decide +kernel
theorem d_Chain_receive_42 : decode b_Chain_receive 42 = .ok (.ireturn, 1) := by decide +kernel
theorem d_Chain_settle_0 : decode b_Chain_settle 0 = .ok (.aload_n 0, 1) := by decide +kernel
theorem d_Chain_settle_1 : decode b_Chain_settle 1 = .ok (.getfield 72, 3) := by decide +kernel
theorem d_Chain_settle_4 : decode b_Chain_settle 4 = .ok (.astore_n 1, 1) := by decide +kernel
theorem d_Chain_settle_5 : decode b_Chain_settle 5 = .ok (.aload_n 0, 1) := by decide +kernel
theorem d_Chain_settle_6 : decode b_Chain_settle 6 = .ok (.getfield 69, 3) := by decide +kernel
theorem d_Chain_settle_9 : decode b_Chain_settle 9 = .ok (.aload_n 0, 1) := by decide +kernel
theorem d_Chain_settle_10 : decode b_Chain_settle 10 = .ok (.getfield 66, 3) := by decide +kernel
theorem d_Chain_settle_13 : decode b_Chain_settle 13 = .ok (.if_icmp .ge 135, 3) := by decide +kernel
theorem d_Chain_settle_148 : decode b_Chain_settle 148 = .ok (.aload_n 0, 1) := by decide +kernel
theorem d_Chain_settle_149 : decode b_Chain_settle 149 = .ok (.aload_n 1, 1) := by decide +kernel
theorem d_Chain_settle_150 : decode b_Chain_settle 150 = .ok (.invokevirtual 215, 3) := by decide +kernel
theorem d_Chain_settle_153 : decode b_Chain_settle 153 = .ok (.return_, 1) := by decide +kernel
theorem d_Coins_init_0 : decode b_Coins_init 0 = .ok (.aload_n 0, 1) := by decide +kernel
theorem d_Coins_init_1 : decode b_Coins_init 1 = .ok (.invokespecial 3, 3) := by decide +kernel
theorem d_Coins_init_4 : decode b_Coins_init 4 = .ok (.aload_n 0, 1) := by decide +kernel
theorem d_Coins_init_5 : decode b_Coins_init 5 = .ok (.new 9, 3) := by decide +kernel
theorem d_Coins_init_8 : decode b_Coins_init 8 = .ok (.dup, 1) := by decide +kernel
theorem d_Coins_init_9 : decode b_Coins_init 9 = .ok (.invokespecial 11, 3) := by decide +kernel
theorem d_Coins_init_12 : decode b_Coins_init 12 = .ok (.putfield 12, 3) := by decide +kernel
theorem d_Coins_init_15 : decode b_Coins_init 15 = .ok (.return_, 1) := by decide +kernel
theorem d_Coins_total_0 : decode b_Coins_total 0 = .ok (.lconst 0, 1) := by decide +kernel
theorem d_Coins_total_1 : decode b_Coins_total 1 = .ok (.lstore_n 1, 1) := by decide +kernel
theorem d_Coins_total_2 : decode b_Coins_total 2 = .ok (.iconst 0, 1) := by decide +kernel
theorem d_Coins_total_3 : decode b_Coins_total 3 = .ok (.istore_n 3, 1) := by decide +kernel
theorem d_Coins_total_4 : decode b_Coins_total 4 = .ok (.iload_n 3, 1) := by decide +kernel
theorem d_Coins_total_5 : decode b_Coins_total 5 = .ok (.aload_n 0, 1) := by decide +kernel
theorem d_Coins_total_6 : decode b_Coins_total 6 = .ok (.getfield 12, 3) := by decide +kernel
theorem d_Coins_total_9 : decode b_Coins_total 9 = .ok (.invokevirtual 22, 3) := by decide +kernel
theorem d_Coins_total_12 : decode b_Coins_total 12 = .ok (.if_icmp .ge 27, 3) := by decide +kernel
theorem d_Coins_total_39 : decode b_Coins_total 39 = .ok (.lload_n 1, 1) := by decide +kernel
theorem d_Coins_total_40 : decode b_Coins_total 40 = .ok (.lreturn, 1) := by decide +kernel
theorem d_Judge_init_0 : decode b_Judge_init 0 = .ok (.aload_n 0, 1) := by decide +kernel
theorem d_Judge_init_1 : decode b_Judge_init 1 = .ok (.invokespecial 3, 3) := by decide +kernel
theorem d_Judge_init_4 : decode b_Judge_init 4 = .ok (.aload_n 0, 1) := by decide +kernel
theorem d_Judge_init_5 : decode b_Judge_init 5 = .ok (.new 9, 3) := by decide +kernel
theorem d_Judge_init_8 : decode b_Judge_init 8 = .ok (.dup, 1) := by decide +kernel
theorem d_Judge_init_9 : decode b_Judge_init 9 = .ok (.invokespecial 11, 3) := by decide +kernel
theorem d_Judge_init_12 : decode b_Judge_init 12 = .ok (.putfield 12, 3) := by decide +kernel
theorem d_Judge_init_15 : decode b_Judge_init 15 = .ok (.aload_n 0, 1) := by decide +kernel
theorem d_Judge_init_16 : decode b_Judge_init 16 = .ok (.bipush 8, 2) := by decide +kernel
theorem d_Judge_init_18 : decode b_Judge_init 18 = .ok (.anewarray 18, 3) := by decide +kernel
theorem d_Judge_init_21 : decode b_Judge_init 21 = .ok (.putfield 20, 3) := by decide +kernel
theorem d_Judge_init_24 : decode b_Judge_init 24 = .ok (.aload_n 0, 1) := by decide +kernel
theorem d_Judge_init_25 : decode b_Judge_init 25 = .ok (.aload_n 1, 1) := by decide +kernel
theorem d_Judge_init_26 : decode b_Judge_init 26 = .ok (.putfield 24, 3) := by decide +kernel
theorem d_Judge_init_29 : decode b_Judge_init 29 = .ok (.aload_n 0, 1) := by decide +kernel
theorem d_Judge_init_30 : decode b_Judge_init 30 = .ok (.new 28, 3) := by decide +kernel
theorem d_Judge_init_33 : decode b_Judge_init 33 = .ok (.dup, 1) := by decide +kernel
theorem d_Judge_init_34 : decode b_Judge_init 34 = .ok (.aload_n 1, 1) := by decide +kernel
theorem d_Judge_init_35 : decode b_Judge_init 35 = .ok (.invokespecial 30, 3) := by decide +kernel
theorem d_Judge_init_38 : decode b_Judge_init 38 = .ok (.putfield 33, 3) := by decide +kernel
theorem d_Judge_init_41 : decode b_Judge_init 41 = .ok (.return_, 1) := by decide +kernel
theorem d_Machine_init_0 : decode b_Machine_init 0 = .ok (.aload_n 0, 1) := by decide +kernel
theorem d_Machine_init_1 : decode b_Machine_init 1 = .ok (.invokespecial 3, 3) := by decide +kernel
theorem d_Machine_init_4 : decode b_Machine_init 4 = .ok (.aload_n 0, 1) := by decide +kernel
theorem d_Machine_init_5 : decode b_Machine_init 5 = .ok (.bipush 24, 2) := by decide +kernel
theorem d_Machine_init_7 : decode b_Machine_init 7 = .ok (.bipush 80, 2) := by decide +kernel
theorem d_Machine_init_9 : decode b_Machine_init 9 = .ok (.multianewarray 11 2, 4) := by decide +kernel
theorem d_Machine_init_13 : decode b_Machine_init 13 = .ok (.putfield 13, 3) := by decide +kernel
theorem d_Machine_init_16 : decode b_Machine_init 16 = .ok (.aload_n 0, 1) := by decide +kernel
theorem d_Machine_init_17 : decode b_Machine_init 17 = .ok (.bipush 24, 2) := by decide +kernel
theorem d_Machine_init_19 : decode b_Machine_init 19 = .ok (.newarray .int, 2) := by decide +kernel
theorem d_Machine_init_21 : decode b_Machine_init 21 = .ok (.putfield 16, 3) := by decide +kernel
theorem d_Machine_init_24 : decode b_Machine_init 24 = .ok (.aload_n 0, 1) := by decide +kernel
theorem d_Machine_init_25 : decode b_Machine_init 25 = .ok (.bipush 80, 2) := by decide +kernel
theorem d_Machine_init_27 : decode b_Machine_init 27 = .ok (.newarray .boolean, 2) := by decide +kernel
theorem d_Machine_init_29 : decode b_Machine_init 29 = .ok (.putfield 20, 3) := by decide +kernel
theorem d_Machine_init_32 : decode b_Machine_init 32 = .ok (.aload_n 0, 1) := by decide +kernel
theorem d_Machine_init_33 : decode b_Machine_init 33 = .ok (.bipush 112, 2) := by decide +kernel
theorem d_Machine_init_35 : decode b_Machine_init 35 = .ok (.newarray .byte, 2) := by decide +kernel
theorem d_Machine_init_37 : decode b_Machine_init 37 = .ok (.putfield 24, 3) := by decide +kernel
theorem d_Machine_init_40 : decode b_Machine_init 40 = .ok (.aload_n 0, 1) := by decide +kernel
theorem d_Machine_init_41 : decode b_Machine_init 41 = .ok (.bipush 32, 2) := by decide +kernel
theorem d_Machine_init_43 : decode b_Machine_init 43 = .ok (.newarray .byte, 2) := by decide +kernel
theorem d_Machine_init_45 : decode b_Machine_init 45 = .ok (.putfield 28, 3) := by decide +kernel
theorem d_Machine_init_48 : decode b_Machine_init 48 = .ok (.aload_n 0, 1) := by decide +kernel
theorem d_Machine_init_49 : decode b_Machine_init 49 = .ok (.aload_n 1, 1) := by decide +kernel
theorem d_Machine_init_50 : decode b_Machine_init 50 = .ok (.putfield 31, 3) := by decide +kernel
theorem d_Machine_init_53 : decode b_Machine_init 53 = .ok (.aload_n 0, 1) := by decide +kernel
theorem d_Machine_init_54 : decode b_Machine_init 54 = .ok (.bipush 32, 2) := by decide +kernel
theorem d_Machine_init_56 : decode b_Machine_init 56 = .ok (.newarray .byte, 2) := by decide +kernel
theorem d_Machine_init_58 : decode b_Machine_init 58 = .ok (.putfield 35, 3) := by decide +kernel
theorem d_Machine_init_61 : decode b_Machine_init 61 = .ok (.return_, 1) := by decide +kernel
theorem d_Mc_init_0 : decode b_Mc_init 0 = .ok (.aload_n 0, 1) := by decide +kernel
theorem d_Mc_init_1 : decode b_Mc_init 1 = .ok (.invokespecial 1, 3) := by decide +kernel
theorem d_Mc_init_4 : decode b_Mc_init 4 = .ok (.aload_n 0, 1) := by decide +kernel
theorem d_Mc_init_5 : decode b_Mc_init 5 = .ok (.sipush 27000, 3) := by decide +kernel
theorem d_Mc_init_8 : decode b_Mc_init 8 = .ok (.newarray .int, 2) := by decide +kernel
theorem d_Mc_init_10 : decode b_Mc_init 10 = .ok (.putfield 9, 3) := by decide +kernel
theorem d_Mc_init_13 : decode b_Mc_init 13 = .ok (.aload_n 0, 1) := by decide +kernel
theorem d_Mc_init_14 : decode b_Mc_init 14 = .ok (.sipush 27000, 3) := by decide +kernel
theorem d_Mc_init_17 : decode b_Mc_init 17 = .ok (.newarray .int, 2) := by decide +kernel
theorem d_Mc_init_19 : decode b_Mc_init 19 = .ok (.putfield 13, 3) := by decide +kernel
theorem d_Mc_init_22 : decode b_Mc_init 22 = .ok (.aload_n 0, 1) := by decide +kernel
theorem d_Mc_init_23 : decode b_Mc_init 23 = .ok (.sipush 27000, 3) := by decide +kernel
theorem d_Mc_init_26 : decode b_Mc_init 26 = .ok (.newarray .int, 2) := by decide +kernel
theorem d_Mc_init_28 : decode b_Mc_init 28 = .ok (.putfield 16, 3) := by decide +kernel
theorem d_Mc_init_31 : decode b_Mc_init 31 = .ok (.aload_n 0, 1) := by decide +kernel
theorem d_Mc_init_32 : decode b_Mc_init 32 = .ok (.sipush 27000, 3) := by decide +kernel
theorem d_Mc_init_35 : decode b_Mc_init 35 = .ok (.newarray .int, 2) := by decide +kernel
theorem d_Mc_init_37 : decode b_Mc_init 37 = .ok (.putfield 19, 3) := by decide +kernel
theorem d_Mc_init_40 : decode b_Mc_init 40 = .ok (.aload_n 0, 1) := by decide +kernel
theorem d_Mc_init_41 : decode b_Mc_init 41 = .ok (.sipush 27000, 3) := by decide +kernel
theorem d_Mc_init_44 : decode b_Mc_init 44 = .ok (.newarray .int, 2) := by decide +kernel
theorem d_Mc_init_46 : decode b_Mc_init 46 = .ok (.putfield 22, 3) := by decide +kernel
theorem d_Mc_init_49 : decode b_Mc_init 49 = .ok (.aload_n 0, 1) := by decide +kernel
theorem d_Mc_init_50 : decode b_Mc_init 50 = .ok (.sipush 27000, 3) := by decide +kernel
theorem d_Mc_init_53 : decode b_Mc_init 53 = .ok (.newarray .int, 2) := by decide +kernel
theorem d_Mc_init_55 : decode b_Mc_init 55 = .ok (.putfield 25, 3) := by decide +kernel
theorem d_Mc_init_58 : decode b_Mc_init 58 = .ok (.aload_n 0, 1) := by decide +kernel
theorem d_Mc_init_59 : decode b_Mc_init 59 = .ok (.sipush 27000, 3) := by decide +kernel
theorem d_Mc_init_62 : decode b_Mc_init 62 = .ok (.newarray .boolean, 2) := by decide +kernel
theorem d_Mc_init_64 : decode b_Mc_init 64 = .ok (.putfield 28, 3) := by decide +kernel
theorem d_Mc_init_67 : decode b_Mc_init 67 = .ok (.return_, 1) := by decide +kernel
theorem d_Mo_accept_0 : decode b_Mo_accept 0 = .ok (.iload_n 2, 1) := by decide +kernel
theorem d_Mo_accept_1 : decode b_Mo_accept 1 = .ok (.sipush 1000, 3) := by decide +kernel
theorem d_Mo_accept_4 : decode b_Mo_accept 4 = .ok (.if_icmp .gt 24, 3) := by decide +kernel
theorem d_Mo_accept_7 : decode b_Mo_accept 7 = .ok (.aload_n 0, 1) := by decide +kernel
theorem d_Mo_accept_8 : decode b_Mo_accept 8 = .ok (.iload_n 1, 1) := by decide +kernel
theorem d_Mo_accept_9 : decode b_Mo_accept 9 = .ok (.iload_n 1, 1) := by decide +kernel
theorem d_Mo_accept_10 : decode b_Mo_accept 10 = .ok (.iload_n 2, 1) := by decide +kernel
theorem d_Mo_accept_11 : decode b_Mo_accept 11 = .ok (.iadd, 1) := by decide +kernel
theorem d_Mo_accept_12 : decode b_Mo_accept 12 = .ok (.invokevirtual 179, 3) := by decide +kernel
theorem d_Mo_accept_15 : decode b_Mo_accept 15 = .ok (.iload_n 1, 1) := by decide +kernel
theorem d_Mo_accept_16 : decode b_Mo_accept 16 = .ok (.iload_n 2, 1) := by decide +kernel
theorem d_Mo_accept_17 : decode b_Mo_accept 17 = .ok (.iadd, 1) := by decide +kernel
theorem d_Mo_accept_18 : decode b_Mo_accept 18 = .ok (.if_icmp .ne 10, 3) := by decide +kernel
theorem d_Mo_accept_28 : decode b_Mo_accept 28 = .ok (.bipush (-3), 2) := by decide +kernel
theorem d_Mo_accept_30 : decode b_Mo_accept 30 = .ok (.ireturn, 1) := by decide +kernel
theorem d_Mo_alter_0 : decode b_Mo_alter 0 = .ok (.iload_n 1, 1) := by decide +kernel
theorem d_Mo_alter_1 : decode b_Mo_alter 1 = .ok (.ifCond .lt 22, 3) := by decide +kernel
theorem d_Mo_alter_4 : decode b_Mo_alter 4 = .ok (.iload_n 1, 1) := by decide +kernel
theorem d_Mo_alter_5 : decode b_Mo_alter 5 = .ok (.aload_n 0, 1) := by decide +kernel
theorem d_Mo_alter_6 : decode b_Mo_alter 6 = .ok (.getfield 363, 3) := by decide +kernel
theorem d_Mo_alter_9 : decode b_Mo_alter 9 = .ok (.if_icmp .ge 14, 3) := by decide +kernel
theorem d_Mo_alter_23 : decode b_Mo_alter 23 = .ok (.iconst (-1), 1) := by decide +kernel
theorem d_Mo_alter_24 : decode b_Mo_alter 24 = .ok (.ireturn, 1) := by decide +kernel
theorem d_Mo_ancestor_0 : decode b_Mo_ancestor 0 = .ok (.iload_n 1, 1) := by decide +kernel
theorem d_Mo_ancestor_1 : decode b_Mo_ancestor 1 = .ok (.istore_n 3, 1) := by decide +kernel
theorem d_Mo_ancestor_2 : decode b_Mo_ancestor 2 = .ok (.aload_n 0, 1) := by decide +kernel
theorem d_Mo_ancestor_3 : decode b_Mo_ancestor 3 = .ok (.getfield 24, 3) := by decide +kernel
theorem d_Mo_ancestor_6 : decode b_Mo_ancestor 6 = .ok (.iload_n 3, 1) := by decide +kernel
theorem d_Mo_ancestor_7 : decode b_Mo_ancestor 7 = .ok (.iaload, 1) := by decide +kernel
theorem d_Mo_ancestor_8 : decode b_Mo_ancestor 8 = .ok (.iload_n 2, 1) := by decide +kernel
theorem d_Mo_ancestor_9 : decode b_Mo_ancestor 9 = .ok (.if_icmp .le 13, 3) := by decide +kernel
theorem d_Mo_ancestor_22 : decode b_Mo_ancestor 22 = .ok (.iload_n 3, 1) := by decide +kernel
theorem d_Mo_ancestor_23 : decode b_Mo_ancestor 23 = .ok (.ireturn, 1) := by decide +kernel
theorem d_Mo_back_0 : decode b_Mo_back 0 = .ok (.iconst 0, 1) := by decide +kernel
theorem d_Mo_back_1 : decode b_Mo_back 1 = .ok (.istore_n 1, 1) := by decide +kernel
theorem d_Mo_back_2 : decode b_Mo_back 2 = .ok (.iload_n 1, 1) := by decide +kernel
theorem d_Mo_back_3 : decode b_Mo_back 3 = .ok (.aload_n 0, 1) := by decide +kernel
theorem d_Mo_back_4 : decode b_Mo_back 4 = .ok (.getfield 390, 3) := by decide +kernel
theorem d_Mo_back_7 : decode b_Mo_back 7 = .ok (.if_icmp .ge 29, 3) := by decide +kernel
theorem d_Mo_back_36 : decode b_Mo_back 36 = .ok (.aload_n 0, 1) := by decide +kernel
theorem d_Mo_back_37 : decode b_Mo_back 37 = .ok (.aload_n 0, 1) := by decide +kernel
theorem d_Mo_back_38 : decode b_Mo_back 38 = .ok (.getfield 390, 3) := by decide +kernel
theorem d_Mo_back_41 : decode b_Mo_back 41 = .ok (.putfield 363, 3) := by decide +kernel
theorem d_Mo_back_44 : decode b_Mo_back 44 = .ok (.aload_n 0, 1) := by decide +kernel
theorem d_Mo_back_45 : decode b_Mo_back 45 = .ok (.getfield 390, 3) := by decide +kernel
theorem d_Mo_back_48 : decode b_Mo_back 48 = .ok (.ireturn, 1) := by decide +kernel
theorem d_Mo_balance_0 : decode b_Mo_balance 0 = .ok (.lconst 0, 1) := by decide +kernel
theorem d_Mo_balance_1 : decode b_Mo_balance 1 = .ok (.lstore_n 1, 1) := by decide +kernel
theorem d_Mo_balance_2 : decode b_Mo_balance 2 = .ok (.iconst 0, 1) := by decide +kernel
theorem d_Mo_balance_3 : decode b_Mo_balance 3 = .ok (.istore_n 3, 1) := by decide +kernel
theorem d_Mo_balance_4 : decode b_Mo_balance 4 = .ok (.iload_n 3, 1) := by decide +kernel
theorem d_Mo_balance_5 : decode b_Mo_balance 5 = .ok (.aload_n 0, 1) := by decide +kernel
theorem d_Mo_balance_6 : decode b_Mo_balance 6 = .ok (.getfield 130, 3) := by decide +kernel
theorem d_Mo_balance_9 : decode b_Mo_balance 9 = .ok (.getfield 232, 3) := by decide +kernel
theorem d_Mo_balance_12 : decode b_Mo_balance 12 = .ok (.if_icmp .ge 68, 3) := by decide +kernel
theorem d_Mo_balance_80 : decode b_Mo_balance 80 = .ok (.aload_n 0, 1) := by decide +kernel
theorem d_Mo_balance_81 : decode b_Mo_balance 81 = .ok (.iconst 0, 1) := by decide +kernel
theorem d_Mo_balance_82 : decode b_Mo_balance 82 = .ok (.putfield 363, 3) := by decide +kernel
theorem d_Mo_balance_85 : decode b_Mo_balance 85 = .ok (.lload_n 1, 1) := by decide +kernel
theorem d_Mo_balance_86 : decode b_Mo_balance 86 = .ok (.lreturn, 1) := by decide +kernel
theorem d_Mo_block_0 : decode b_Mo_block 0 = .ok (.aload_n 0, 1) := by decide +kernel
theorem d_Mo_block_1 : decode b_Mo_block 1 = .ok (.getfield 363, 3) := by decide +kernel
theorem d_Mo_block_4 : decode b_Mo_block 4 = .ok (.istore_n 1, 1) := by decide +kernel
theorem d_Mo_block_5 : decode b_Mo_block 5 = .ok (.aload_n 0, 1) := by decide +kernel
theorem d_Mo_block_6 : decode b_Mo_block 6 = .ok (.iconst 0, 1) := by decide +kernel
theorem d_Mo_block_7 : decode b_Mo_block 7 = .ok (.putfield 363, 3) := by decide +kernel
theorem d_Mo_block_10 : decode b_Mo_block 10 = .ok (.aload_n 0, 1) := by decide +kernel
theorem d_Mo_block_11 : decode b_Mo_block 11 = .ok (.ldc_w 305, 3) := by decide +kernel
theorem d_Mo_block_14 : decode b_Mo_block 14 = .ok (.iload_n 1, 1) := by decide +kernel
theorem d_Mo_block_15 : decode b_Mo_block 15 = .ok (.invokevirtual 369, 3) := by decide +kernel
theorem d_Mo_block_18 : decode b_Mo_block 18 = .ok (.ireturn, 1) := by decide +kernel
theorem d_Mo_coin_0 : decode b_Mo_coin 0 = .ok (.iload_n 2, 1) := by decide +kernel
theorem d_Mo_coin_1 : decode b_Mo_coin 1 = .ok (.ifCond .lt 8, 3) := by decide +kernel
theorem d_Mo_coin_4 : decode b_Mo_coin 4 = .ok (.iload_n 2, 1) := by decide +kernel
theorem d_Mo_coin_5 : decode b_Mo_coin 5 = .ok (.iconst 5, 1) := by decide +kernel
theorem d_Mo_coin_6 : decode b_Mo_coin 6 = .ok (.if_icmp .le 5, 3) := by decide +kernel
theorem d_Mo_coin_9 : decode b_Mo_coin 9 = .ok (.iconst (-1), 1) := by decide +kernel
theorem d_Mo_coin_10 : decode b_Mo_coin 10 = .ok (.ireturn, 1) := by decide +kernel
theorem d_Mo_coin_11 : decode b_Mo_coin 11 = .ok (.aload_n 0, 1) := by decide +kernel
theorem d_Mo_coin_12 : decode b_Mo_coin 12 = .ok (.iload_n 1, 1) := by decide +kernel
theorem d_Mo_coin_13 : decode b_Mo_coin 13 = .ok (.invokevirtual 400, 3) := by decide +kernel
theorem d_Mo_coin_16 : decode b_Mo_coin 16 = .ok (.istore_n 3, 1) := by decide +kernel
theorem d_Mo_coin_17 : decode b_Mo_coin 17 = .ok (.iload_n 3, 1) := by decide +kernel
theorem d_Mo_coin_18 : decode b_Mo_coin 18 = .ok (.ifCond .ge 6, 3) := by decide +kernel
theorem d_Mo_coin_21 : decode b_Mo_coin 21 = .ok (.bipush (-2), 2) := by decide +kernel
theorem d_Mo_coin_23 : decode b_Mo_coin 23 = .ok (.ireturn, 1) := by decide +kernel
theorem d_Mo_coinAt_0 : decode b_Mo_coinAt 0 = .ok (.iload_n 1, 1) := by decide +kernel
theorem d_Mo_coinAt_1 : decode b_Mo_coinAt 1 = .ok (.ifCond .lt 14, 3) := by decide +kernel
theorem d_Mo_coinAt_4 : decode b_Mo_coinAt 4 = .ok (.iload_n 1, 1) := by decide +kernel
theorem d_Mo_coinAt_5 : decode b_Mo_coinAt 5 = .ok (.aload_n 0, 1) := by decide +kernel
theorem d_Mo_coinAt_6 : decode b_Mo_coinAt 6 = .ok (.getfield 130, 3) := by decide +kernel
theorem d_Mo_coinAt_9 : decode b_Mo_coinAt 9 = .ok (.getfield 232, 3) := by decide +kernel
theorem d_Mo_coinAt_12 : decode b_Mo_coinAt 12 = .ok (.if_icmp .lt 5, 3) := by decide +kernel
theorem d_Mo_coinAt_15 : decode b_Mo_coinAt 15 = .ok (.iconst (-1), 1) := by decide +kernel
theorem d_Mo_coinAt_16 : decode b_Mo_coinAt 16 = .ok (.ireturn, 1) := by decide +kernel
theorem d_Mo_come_0 : decode b_Mo_come 0 = .ok (.aload_n 0, 1) := by decide +kernel
theorem d_Mo_come_1 : decode b_Mo_come 1 = .ok (.dup, 1) := by decide +kernel
theorem d_Mo_come_2 : decode b_Mo_come 2 = .ok (.getfield 337, 3) := by decide +kernel
theorem d_Mo_come_5 : decode b_Mo_come 5 = .ok (.iconst 1, 1) := by decide +kernel
theorem d_Mo_come_6 : decode b_Mo_come 6 = .ok (.iadd, 1) := by decide +kernel
theorem d_Mo_come_7 : decode b_Mo_come 7 = .ok (.putfield 337, 3) := by decide +kernel
theorem d_Mo_come_10 : decode b_Mo_come 10 = .ok (.aload_n 0, 1) := by decide +kernel
theorem d_Mo_come_11 : decode b_Mo_come 11 = .ok (.iload_n 1, 1) := by decide +kernel
theorem d_Mo_come_12 : decode b_Mo_come 12 = .ok (.iload_n 2, 1) := by decide +kernel
theorem d_Mo_come_13 : decode b_Mo_come 13 = .ok (.invokevirtual 292, 3) := by decide +kernel
theorem d_Mo_come_16 : decode b_Mo_come 16 = .ok (.ifCond .ne 6, 3) := by decide +kernel
theorem d_Mo_come_19 : decode b_Mo_come 19 = .ok (.bipush (-3), 2) := by decide +kernel
theorem d_Mo_come_21 : decode b_Mo_come 21 = .ok (.ireturn, 1) := by decide +kernel
theorem d_Mo_count_0 : decode b_Mo_count 0 = .ok (.lconst 0, 1) := by decide +kernel
theorem d_Mo_count_1 : decode b_Mo_count 1 = .ok (.lstore_n 2, 1) := by decide +kernel
theorem d_Mo_count_2 : decode b_Mo_count 2 = .ok (.iconst 0, 1) := by decide +kernel
theorem d_Mo_count_3 : decode b_Mo_count 3 = .ok (.istore 4, 2) := by decide +kernel
theorem d_Mo_count_5 : decode b_Mo_count 5 = .ok (.iload 4, 2) := by decide +kernel
theorem d_Mo_count_7 : decode b_Mo_count 7 = .ok (.aload_n 0, 1) := by decide +kernel
theorem d_Mo_count_8 : decode b_Mo_count 8 = .ok (.getfield 130, 3) := by decide +kernel
theorem d_Mo_count_11 : decode b_Mo_count 11 = .ok (.getfield 232, 3) := by decide +kernel
theorem d_Mo_count_14 : decode b_Mo_count 14 = .ok (.if_icmp .ge 23, 3) := by decide +kernel
theorem d_Mo_count_37 : decode b_Mo_count 37 = .ok (.iload_n 1, 1) := by decide +kernel
theorem d_Mo_count_38 : decode b_Mo_count 38 = .ok (.tableswitch 83 0 6 #[42, 48, 54, 63, 65, 71, 77], 42) := by decide +kernel
theorem d_Mo_count_80 : decode b_Mo_count 80 = .ok (.aload_n 0, 1) := by decide +kernel
theorem d_Mo_count_81 : decode b_Mo_count 81 = .ok (.getfield 53, 3) := by decide +kernel
theorem d_Mo_count_84 : decode b_Mo_count 84 = .ok (.i2l, 1) := by decide +kernel
theorem d_Mo_count_85 : decode b_Mo_count 85 = .ok (.lreturn, 1) := by decide +kernel
theorem d_Mo_count_86 : decode b_Mo_count 86 = .ok (.aload_n 0, 1) := by decide +kernel
theorem d_Mo_count_87 : decode b_Mo_count 87 = .ok (.getfield 306, 3) := by decide +kernel
theorem d_Mo_count_90 : decode b_Mo_count 90 = .ok (.i2l, 1) := by decide +kernel
theorem d_Mo_count_91 : decode b_Mo_count 91 = .ok (.lreturn, 1) := by decide +kernel
theorem d_Mo_count_92 : decode b_Mo_count 92 = .ok (.aload_n 0, 1) := by decide +kernel
theorem d_Mo_count_93 : decode b_Mo_count 93 = .ok (.getfield 130, 3) := by decide +kernel
theorem d_Mo_count_96 : decode b_Mo_count 96 = .ok (.getfield 232, 3) := by decide +kernel
theorem d_Mo_count_99 : decode b_Mo_count 99 = .ok (.i2l, 1) := by decide +kernel
theorem d_Mo_count_100 : decode b_Mo_count 100 = .ok (.lreturn, 1) := by decide +kernel
theorem d_Mo_count_101 : decode b_Mo_count 101 = .ok (.lload_n 2, 1) := by decide +kernel
theorem d_Mo_count_102 : decode b_Mo_count 102 = .ok (.lreturn, 1) := by decide +kernel
theorem d_Mo_count_103 : decode b_Mo_count 103 = .ok (.aload_n 0, 1) := by decide +kernel
theorem d_Mo_count_104 : decode b_Mo_count 104 = .ok (.getfield 346, 3) := by decide +kernel
theorem d_Mo_count_107 : decode b_Mo_count 107 = .ok (.i2l, 1) := by decide +kernel
theorem d_Mo_count_108 : decode b_Mo_count 108 = .ok (.lreturn, 1) := by decide +kernel
theorem d_Mo_count_109 : decode b_Mo_count 109 = .ok (.aload_n 0, 1) := by decide +kernel
theorem d_Mo_count_110 : decode b_Mo_count 110 = .ok (.getfield 295, 3) := by decide +kernel
theorem d_Mo_count_113 : decode b_Mo_count 113 = .ok (.i2l, 1) := by decide +kernel
theorem d_Mo_count_114 : decode b_Mo_count 114 = .ok (.lreturn, 1) := by decide +kernel
theorem d_Mo_count_115 : decode b_Mo_count 115 = .ok (.aload_n 0, 1) := by decide +kernel
theorem d_Mo_count_116 : decode b_Mo_count 116 = .ok (.getfield 363, 3) := by decide +kernel
theorem d_Mo_count_119 : decode b_Mo_count 119 = .ok (.i2l, 1) := by decide +kernel
theorem d_Mo_count_120 : decode b_Mo_count 120 = .ok (.lreturn, 1) := by decide +kernel
theorem d_Mo_count_121 : decode b_Mo_count 121 = .ok (.ldc2_w 261, 3) := by decide +kernel
theorem d_Mo_count_124 : decode b_Mo_count 124 = .ok (.lreturn, 1) := by decide +kernel
theorem d_Mo_draft_0 : decode b_Mo_draft 0 = .ok (.iload_n 1, 1) := by decide +kernel
theorem d_Mo_draft_1 : decode b_Mo_draft 1 = .ok (.iconst (-1), 1) := by decide +kernel
theorem d_Mo_draft_2 : decode b_Mo_draft 2 = .ok (.if_icmp .ne 10, 3) := by decide +kernel
theorem d_Mo_draft_5 : decode b_Mo_draft 5 = .ok (.aload_n 0, 1) := by decide +kernel
theorem d_Mo_draft_6 : decode b_Mo_draft 6 = .ok (.getfield 328, 3) := by decide +kernel
theorem d_Mo_draft_9 : decode b_Mo_draft 9 = .ok (.goto 4, 3) := by decide +kernel
theorem d_Mo_draft_12 : decode b_Mo_draft 12 = .ok (.iload_n 1, 1) := by decide +kernel
theorem d_Mo_draft_13 : decode b_Mo_draft 13 = .ok (.istore 5, 2) := by decide +kernel
theorem d_Mo_draft_15 : decode b_Mo_draft 15 = .ok (.iload 5, 2) := by decide +kernel
theorem d_Mo_draft_17 : decode b_Mo_draft 17 = .ok (.ifCond .lt 16, 3) := by decide +kernel
theorem d_Mo_draft_20 : decode b_Mo_draft 20 = .ok (.iload 5, 2) := by decide +kernel
theorem d_Mo_draft_22 : decode b_Mo_draft 22 = .ok (.aload_n 0, 1) := by decide +kernel
theorem d_Mo_draft_23 : decode b_Mo_draft 23 = .ok (.getfield 53, 3) := by decide +kernel
theorem d_Mo_draft_26 : decode b_Mo_draft 26 = .ok (.if_icmp .ge 7, 3) := by decide +kernel
theorem d_Mo_draft_29 : decode b_Mo_draft 29 = .ok (.iload_n 2, 1) := by decide +kernel
theorem d_Mo_draft_30 : decode b_Mo_draft 30 = .ok (.ifCond .ge 5, 3) := by decide +kernel
theorem d_Mo_draft_33 : decode b_Mo_draft 33 = .ok (.iconst (-1), 1) := by decide +kernel
theorem d_Mo_draft_34 : decode b_Mo_draft 34 = .ok (.ireturn, 1) := by decide +kernel
theorem d_Mo_draft_35 : decode b_Mo_draft 35 = .ok (.aload_n 0, 1) := by decide +kernel
theorem d_Mo_draft_36 : decode b_Mo_draft 36 = .ok (.getfield 24, 3) := by decide +kernel
theorem d_Mo_draft_39 : decode b_Mo_draft 39 = .ok (.iload 5, 2) := by decide +kernel
theorem d_Mo_draft_41 : decode b_Mo_draft 41 = .ok (.iaload, 1) := by decide +kernel
end
section
theorem d_Mo_draft_42 : decode b_Mo_draft 42 = .ok (.iconst 1, 1) := by decide +kernel
theorem d_Mo_draft_43 : decode b_Mo_draft 43 = .ok (.iadd, 1) := by decide +kernel
theorem d_Mo_draft_44 : decode b_Mo_draft 44 = .ok (.istore 6, 2) := by decide +kernel
theorem d_Mo_draft_46 : decode b_Mo_draft 46 = .ok (.iconst 1, 1) := by decide +kernel
theorem d_Mo_draft_47 : decode b_Mo_draft 47 = .ok (.istore 7, 2) := by decide +kernel
theorem d_Mo_draft_49 : decode b_Mo_draft 49 = .ok (.bipush 94, 2) := by decide +kernel
theorem d_Mo_draft_51 : decode b_Mo_draft 51 = .ok (.istore 8, 2) := by decide +kernel
theorem d_Mo_draft_53 : decode b_Mo_draft 53 = .ok (.iconst 0, 1) := by decide +kernel
theorem d_Mo_draft_54 : decode b_Mo_draft 54 = .ok (.istore 9, 2) := by decide +kernel
theorem d_Mo_draft_56 : decode b_Mo_draft 56 = .ok (.ldc_w 375, 3) := by decide +kernel
theorem d_Mo_draft_59 : decode b_Mo_draft 59 = .ok (.istore 10, 2) := by decide +kernel
theorem d_Mo_draft_61 : decode b_Mo_draft 61 = .ok (.iconst 0, 1) := by decide +kernel
theorem d_Mo_draft_62 : decode b_Mo_draft 62 = .ok (.istore 11, 2) := by decide +kernel
theorem d_Mo_draft_64 : decode b_Mo_draft 64 = .ok (.iload 11, 2) := by decide +kernel
theorem d_Mo_draft_66 : decode b_Mo_draft 66 = .ok (.aload_n 0, 1) := by decide +kernel
theorem d_Mo_draft_67 : decode b_Mo_draft 67 = .ok (.getfield 346, 3) := by decide +kernel
theorem d_Mo_draft_70 : decode b_Mo_draft 70 = .ok (.if_icmp .ge 137, 3) := by decide +kernel
theorem d_Mo_draft_207 : decode b_Mo_draft 207 = .ok (.iconst 0, 1) := by decide +kernel
theorem d_Mo_draft_208 : decode b_Mo_draft 208 = .ok (.istore 11, 2) := by decide +kernel
theorem d_Mo_draft_210 : decode b_Mo_draft 210 = .ok (.iload 11, 2) := by decide +kernel
theorem d_Mo_draft_212 : decode b_Mo_draft 212 = .ok (.bipush 32, 2) := by decide +kernel
theorem d_Mo_draft_214 : decode b_Mo_draft 214 = .ok (.if_icmp .ge 33, 3) := by decide +kernel
theorem d_Mo_draft_217 : decode b_Mo_draft 217 = .ok (.aload_n 0, 1) := by decide +kernel
theorem d_Mo_draft_218 : decode b_Mo_draft 218 = .ok (.getfield 10, 3) := by decide +kernel
theorem d_Mo_draft_221 : decode b_Mo_draft 221 = .ok (.ldc_w 376, 3) := by decide +kernel
theorem d_Mo_draft_224 : decode b_Mo_draft 224 = .ok (.iload 11, 2) := by decide +kernel
theorem d_Mo_draft_226 : decode b_Mo_draft 226 = .ok (.iadd, 1) := by decide +kernel
theorem d_Mo_draft_227 : decode b_Mo_draft 227 = .ok (.aload_n 0, 1) := by decide +kernel
theorem d_Mo_draft_228 : decode b_Mo_draft 228 = .ok (.getfield 50, 3) := by decide +kernel
theorem d_Mo_draft_231 : decode b_Mo_draft 231 = .ok (.bipush 32, 2) := by decide +kernel
theorem d_Mo_draft_233 : decode b_Mo_draft 233 = .ok (.iload 5, 2) := by decide +kernel
theorem d_Mo_draft_235 : decode b_Mo_draft 235 = .ok (.imul, 1) := by decide +kernel
theorem d_Mo_draft_236 : decode b_Mo_draft 236 = .ok (.iload 11, 2) := by decide +kernel
theorem d_Mo_draft_238 : decode b_Mo_draft 238 = .ok (.iadd, 1) := by decide +kernel
theorem d_Mo_draft_239 : decode b_Mo_draft 239 = .ok (.baload, 1) := by decide +kernel
theorem d_Mo_draft_240 : decode b_Mo_draft 240 = .ok (.bastore, 1) := by decide +kernel
theorem d_Mo_draft_241 : decode b_Mo_draft 241 = .ok (.iinc 11 1, 3) := by decide +kernel
theorem d_Mo_draft_244 : decode b_Mo_draft 244 = .ok (.goto (-34), 3) := by decide +kernel
theorem d_Mo_draft_247 : decode b_Mo_draft 247 = .ok (.aload_n 0, 1) := by decide +kernel
theorem d_Mo_draft_248 : decode b_Mo_draft 248 = .ok (.ldc_w 377, 3) := by decide +kernel
theorem d_Mo_draft_251 : decode b_Mo_draft 251 = .ok (.iload_n 2, 1) := by decide +kernel
theorem d_Mo_draft_252 : decode b_Mo_draft 252 = .ok (.invokevirtual 371, 3) := by decide +kernel
theorem d_Mo_draft_255 : decode b_Mo_draft 255 = .ok (.aload_n 0, 1) := by decide +kernel
theorem d_Mo_draft_256 : decode b_Mo_draft 256 = .ok (.ldc_w 378, 3) := by decide +kernel
theorem d_Mo_draft_259 : decode b_Mo_draft 259 = .ok (.aload_n 0, 1) := by decide +kernel
theorem d_Mo_draft_260 : decode b_Mo_draft 260 = .ok (.iload 5, 2) := by decide +kernel
theorem d_Mo_draft_262 : decode b_Mo_draft 262 = .ok (.invokevirtual 200, 3) := by decide +kernel
theorem d_Mo_draft_265 : decode b_Mo_draft 265 = .ok (.invokevirtual 371, 3) := by decide +kernel
theorem d_Mo_draft_268 : decode b_Mo_draft 268 = .ok (.aload_n 0, 1) := by decide +kernel
theorem d_Mo_draft_269 : decode b_Mo_draft 269 = .ok (.ldc_w 379, 3) := by decide +kernel
theorem d_Mo_draft_272 : decode b_Mo_draft 272 = .ok (.iconst 0, 1) := by decide +kernel
theorem d_Mo_draft_273 : decode b_Mo_draft 273 = .ok (.invokevirtual 371, 3) := by decide +kernel
theorem d_Mo_draft_276 : decode b_Mo_draft 276 = .ok (.aload_n 0, 1) := by decide +kernel
theorem d_Mo_draft_277 : decode b_Mo_draft 277 = .ok (.getfield 10, 3) := by decide +kernel
theorem d_Mo_draft_280 : decode b_Mo_draft 280 = .ok (.ldc_w 380, 3) := by decide +kernel
theorem d_Mo_draft_283 : decode b_Mo_draft 283 = .ok (.iload 7, 2) := by decide +kernel
theorem d_Mo_draft_285 : decode b_Mo_draft 285 = .ok (.i2b, 1) := by decide +kernel
theorem d_Mo_draft_286 : decode b_Mo_draft 286 = .ok (.bastore, 1) := by decide +kernel
theorem d_Mo_draft_287 : decode b_Mo_draft 287 = .ok (.aload_n 0, 1) := by decide +kernel
theorem d_Mo_draft_288 : decode b_Mo_draft 288 = .ok (.ldc_w 381, 3) := by decide +kernel
theorem d_Mo_draft_291 : decode b_Mo_draft 291 = .ok (.iload 6, 2) := by decide +kernel
theorem d_Mo_draft_293 : decode b_Mo_draft 293 = .ok (.invokevirtual 371, 3) := by decide +kernel
theorem d_Mo_draft_296 : decode b_Mo_draft 296 = .ok (.aload_n 0, 1) := by decide +kernel
theorem d_Mo_draft_297 : decode b_Mo_draft 297 = .ok (.getfield 10, 3) := by decide +kernel
theorem d_Mo_draft_300 : decode b_Mo_draft 300 = .ok (.ldc_w 382, 3) := by decide +kernel
theorem d_Mo_draft_303 : decode b_Mo_draft 303 = .ok (.iconst 0, 1) := by decide +kernel
theorem d_Mo_draft_304 : decode b_Mo_draft 304 = .ok (.bastore, 1) := by decide +kernel
theorem d_Mo_draft_305 : decode b_Mo_draft 305 = .ok (.aload_n 0, 1) := by decide +kernel
theorem d_Mo_draft_306 : decode b_Mo_draft 306 = .ok (.getfield 10, 3) := by decide +kernel
theorem d_Mo_draft_309 : decode b_Mo_draft 309 = .ok (.ldc_w 383, 3) := by decide +kernel
theorem d_Mo_draft_312 : decode b_Mo_draft 312 = .ok (.iconst 1, 1) := by decide +kernel
theorem d_Mo_draft_313 : decode b_Mo_draft 313 = .ok (.bastore, 1) := by decide +kernel
theorem d_Mo_draft_314 : decode b_Mo_draft 314 = .ok (.aload_n 0, 1) := by decide +kernel
theorem d_Mo_draft_315 : decode b_Mo_draft 315 = .ok (.ldc_w 384, 3) := by decide +kernel
theorem d_Mo_draft_318 : decode b_Mo_draft 318 = .ok (.iload 6, 2) := by decide +kernel
theorem d_Mo_draft_320 : decode b_Mo_draft 320 = .ok (.invokestatic 285, 3) := by decide +kernel
theorem d_Mo_draft_323 : decode b_Mo_draft 323 = .ok (.iload 9, 2) := by decide +kernel
theorem d_Mo_draft_325 : decode b_Mo_draft 325 = .ok (.iadd, 1) := by decide +kernel
theorem d_Mo_draft_326 : decode b_Mo_draft 326 = .ok (.invokevirtual 371, 3) := by decide +kernel
theorem d_Mo_draft_329 : decode b_Mo_draft 329 = .ok (.aload_n 0, 1) := by decide +kernel
theorem d_Mo_draft_330 : decode b_Mo_draft 330 = .ok (.ldc_w 385, 3) := by decide +kernel
theorem d_Mo_draft_333 : decode b_Mo_draft 333 = .ok (.iload_n 3, 1) := by decide +kernel
theorem d_Mo_draft_334 : decode b_Mo_draft 334 = .ok (.invokevirtual 386, 3) := by decide +kernel
theorem d_Mo_draft_337 : decode b_Mo_draft 337 = .ok (.pop, 1) := by decide +kernel
theorem d_Mo_draft_338 : decode b_Mo_draft 338 = .ok (.ldc_w 381, 3) := by decide +kernel
theorem d_Mo_draft_341 : decode b_Mo_draft 341 = .ok (.istore 11, 2) := by decide +kernel
theorem d_Mo_draft_343 : decode b_Mo_draft 343 = .ok (.iconst 0, 1) := by decide +kernel
theorem d_Mo_draft_344 : decode b_Mo_draft 344 = .ok (.istore 12, 2) := by decide +kernel
theorem d_Mo_draft_346 : decode b_Mo_draft 346 = .ok (.iload 12, 2) := by decide +kernel
theorem d_Mo_draft_348 : decode b_Mo_draft 348 = .ok (.iload 7, 2) := by decide +kernel
theorem d_Mo_draft_350 : decode b_Mo_draft 350 = .ok (.if_icmp .ge 62, 3) := by decide +kernel
theorem d_Mo_draft_353 : decode b_Mo_draft 353 = .ok (.iload 12, 2) := by decide +kernel
theorem d_Mo_draft_355 : decode b_Mo_draft 355 = .ok (.ifCond .ne 9, 3) := by decide +kernel
theorem d_Mo_draft_358 : decode b_Mo_draft 358 = .ok (.ldc_w 375, 3) := by decide +kernel
theorem d_Mo_draft_361 : decode b_Mo_draft 361 = .ok (.goto 15, 3) := by decide +kernel
theorem d_Mo_draft_376 : decode b_Mo_draft 376 = .ok (.istore 13, 2) := by decide +kernel
theorem d_Mo_draft_378 : decode b_Mo_draft 378 = .ok (.aload_n 0, 1) := by decide +kernel
theorem d_Mo_draft_379 : decode b_Mo_draft 379 = .ok (.aload_n 0, 1) := by decide +kernel
theorem d_Mo_draft_380 : decode b_Mo_draft 380 = .ok (.getfield 10, 3) := by decide +kernel
theorem d_Mo_draft_383 : decode b_Mo_draft 383 = .ok (.iload 11, 2) := by decide +kernel
theorem d_Mo_draft_385 : decode b_Mo_draft 385 = .ok (.iload 13, 2) := by decide +kernel
theorem d_Mo_draft_387 : decode b_Mo_draft 387 = .ok (.iload 11, 2) := by decide +kernel
theorem d_Mo_draft_389 : decode b_Mo_draft 389 = .ok (.isub, 1) := by decide +kernel
theorem d_Mo_draft_390 : decode b_Mo_draft 390 = .ok (.aload_n 0, 1) := by decide +kernel
theorem d_Mo_draft_391 : decode b_Mo_draft 391 = .ok (.getfield 115, 3) := by decide +kernel
theorem d_Mo_draft_394 : decode b_Mo_draft 394 = .ok (.bipush 32, 2) := by decide +kernel
theorem d_Mo_draft_396 : decode b_Mo_draft 396 = .ok (.iload 12, 2) := by decide +kernel
theorem d_Mo_draft_398 : decode b_Mo_draft 398 = .ok (.imul, 1) := by decide +kernel
theorem d_Mo_draft_399 : decode b_Mo_draft 399 = .ok (.invokevirtual 183, 3) := by decide +kernel
theorem d_Mo_draft_402 : decode b_Mo_draft 402 = .ok (.iload 13, 2) := by decide +kernel
theorem d_Mo_draft_404 : decode b_Mo_draft 404 = .ok (.istore 11, 2) := by decide +kernel
theorem d_Mo_draft_406 : decode b_Mo_draft 406 = .ok (.iinc 12 1, 3) := by decide +kernel
theorem d_Mo_draft_409 : decode b_Mo_draft 409 = .ok (.goto (-63), 3) := by decide +kernel
theorem d_Mo_draft_412 : decode b_Mo_draft 412 = .ok (.aload_n 0, 1) := by decide +kernel
theorem d_Mo_draft_413 : decode b_Mo_draft 413 = .ok (.iload 7, 2) := by decide +kernel
theorem d_Mo_draft_415 : decode b_Mo_draft 415 = .ok (.invokevirtual 190, 3) := by decide +kernel
theorem d_Mo_draft_418 : decode b_Mo_draft 418 = .ok (.iconst 0, 1) := by decide +kernel
theorem d_Mo_draft_419 : decode b_Mo_draft 419 = .ok (.istore 12, 2) := by decide +kernel
theorem d_Mo_draft_421 : decode b_Mo_draft 421 = .ok (.iload 12, 2) := by decide +kernel
theorem d_Mo_draft_423 : decode b_Mo_draft 423 = .ok (.bipush 32, 2) := by decide +kernel
theorem d_Mo_draft_425 : decode b_Mo_draft 425 = .ok (.if_icmp .ge 27, 3) := by decide +kernel
theorem d_Mo_draft_428 : decode b_Mo_draft 428 = .ok (.aload_n 0, 1) := by decide +kernel
theorem d_Mo_draft_429 : decode b_Mo_draft 429 = .ok (.getfield 10, 3) := by decide +kernel
theorem d_Mo_draft_432 : decode b_Mo_draft 432 = .ok (.ldc_w 389, 3) := by decide +kernel
theorem d_Mo_draft_435 : decode b_Mo_draft 435 = .ok (.iload 12, 2) := by decide +kernel
theorem d_Mo_draft_437 : decode b_Mo_draft 437 = .ok (.iadd, 1) := by decide +kernel
theorem d_Mo_draft_438 : decode b_Mo_draft 438 = .ok (.aload_n 0, 1) := by decide +kernel
theorem d_Mo_draft_439 : decode b_Mo_draft 439 = .ok (.getfield 115, 3) := by decide +kernel
theorem d_Mo_draft_442 : decode b_Mo_draft 442 = .ok (.iload 12, 2) := by decide +kernel
theorem d_Mo_draft_444 : decode b_Mo_draft 444 = .ok (.baload, 1) := by decide +kernel
theorem d_Mo_draft_445 : decode b_Mo_draft 445 = .ok (.bastore, 1) := by decide +kernel
theorem d_Mo_draft_446 : decode b_Mo_draft 446 = .ok (.iinc 12 1, 3) := by decide +kernel
theorem d_Mo_draft_449 : decode b_Mo_draft 449 = .ok (.goto (-28), 3) := by decide +kernel
theorem d_Mo_draft_452 : decode b_Mo_draft 452 = .ok (.aload_n 0, 1) := by decide +kernel
theorem d_Mo_draft_453 : decode b_Mo_draft 453 = .ok (.iload 8, 2) := by decide +kernel
theorem d_Mo_draft_455 : decode b_Mo_draft 455 = .ok (.putfield 390, 3) := by decide +kernel
theorem d_Mo_draft_458 : decode b_Mo_draft 458 = .ok (.aload_n 0, 1) := by decide +kernel
theorem d_Mo_draft_459 : decode b_Mo_draft 459 = .ok (.iconst 1, 1) := by decide +kernel
theorem d_Mo_draft_460 : decode b_Mo_draft 460 = .ok (.putfield 393, 3) := by decide +kernel
theorem d_Mo_draft_463 : decode b_Mo_draft 463 = .ok (.iload 8, 2) := by decide +kernel
theorem d_Mo_draft_465 : decode b_Mo_draft 465 = .ok (.ireturn, 1) := by decide +kernel
theorem d_Mo_due_0 : decode b_Mo_due 0 = .ok (.aload_n 0, 1) := by decide +kernel
theorem d_Mo_due_1 : decode b_Mo_due 1 = .ok (.getfield 24, 3) := by decide +kernel
theorem d_Mo_due_4 : decode b_Mo_due 4 = .ok (.iload_n 1, 1) := by decide +kernel
theorem d_Mo_due_5 : decode b_Mo_due 5 = .ok (.iaload, 1) := by decide +kernel
theorem d_Mo_due_6 : decode b_Mo_due 6 = .ok (.iconst 1, 1) := by decide +kernel
theorem d_Mo_due_7 : decode b_Mo_due 7 = .ok (.iadd, 1) := by decide +kernel
theorem d_Mo_due_8 : decode b_Mo_due 8 = .ok (.istore_n 2, 1) := by decide +kernel
theorem d_Mo_due_9 : decode b_Mo_due 9 = .ok (.iload_n 2, 1) := by decide +kernel
theorem d_Mo_due_10 : decode b_Mo_due 10 = .ok (.bipush 8, 2) := by decide +kernel
theorem d_Mo_due_12 : decode b_Mo_due 12 = .ok (.irem, 1) := by decide +kernel
theorem d_Mo_due_13 : decode b_Mo_due 13 = .ok (.ifCond .eq 10, 3) := by decide +kernel
theorem d_Mo_due_16 : decode b_Mo_due 16 = .ok (.aload_n 0, 1) := by decide +kernel
theorem d_Mo_due_17 : decode b_Mo_due 17 = .ok (.getfield 30, 3) := by decide +kernel
theorem d_Mo_due_20 : decode b_Mo_due 20 = .ok (.iload_n 1, 1) := by decide +kernel
theorem d_Mo_due_21 : decode b_Mo_due 21 = .ok (.iaload, 1) := by decide +kernel
theorem d_Mo_due_22 : decode b_Mo_due 22 = .ok (.ireturn, 1) := by decide +kernel
theorem d_Mo_end_0 : decode b_Mo_end 0 = .ok (.iload_n 1, 1) := by decide +kernel
theorem d_Mo_end_1 : decode b_Mo_end 1 = .ok (.ifCond .lt 11, 3) := by decide +kernel
theorem d_Mo_end_4 : decode b_Mo_end 4 = .ok (.iload_n 1, 1) := by decide +kernel
theorem d_Mo_end_5 : decode b_Mo_end 5 = .ok (.aload_n 0, 1) := by decide +kernel
theorem d_Mo_end_6 : decode b_Mo_end 6 = .ok (.getfield 363, 3) := by decide +kernel
theorem d_Mo_end_9 : decode b_Mo_end 9 = .ok (.if_icmp .le 5, 3) := by decide +kernel
theorem d_Mo_end_12 : decode b_Mo_end 12 = .ok (.iconst (-1), 1) := by decide +kernel
theorem d_Mo_end_13 : decode b_Mo_end 13 = .ok (.ireturn, 1) := by decide +kernel
theorem d_Mo_end_14 : decode b_Mo_end 14 = .ok (.aload_n 0, 1) := by decide +kernel
theorem d_Mo_end_15 : decode b_Mo_end 15 = .ok (.iload_n 1, 1) := by decide +kernel
theorem d_Mo_end_16 : decode b_Mo_end 16 = .ok (.putfield 363, 3) := by decide +kernel
theorem d_Mo_end_19 : decode b_Mo_end 19 = .ok (.iload_n 1, 1) := by decide +kernel
theorem d_Mo_end_20 : decode b_Mo_end 20 = .ok (.ireturn, 1) := by decide +kernel
theorem d_Mo_feed_0 : decode b_Mo_feed 0 = .ok (.aload_n 0, 1) := by decide +kernel
theorem d_Mo_feed_1 : decode b_Mo_feed 1 = .ok (.getfield 363, 3) := by decide +kernel
theorem d_Mo_feed_4 : decode b_Mo_feed 4 = .ok (.bipush 20, 2) := by decide +kernel
theorem d_Mo_feed_6 : decode b_Mo_feed 6 = .ok (.iadd, 1) := by decide +kernel
theorem d_Mo_feed_7 : decode b_Mo_feed 7 = .ok (.sipush 4096, 3) := by decide +kernel
theorem d_Mo_feed_10 : decode b_Mo_feed 10 = .ok (.if_icmp .le 6, 3) := by decide +kernel
theorem d_Mo_feed_16 : decode b_Mo_feed 16 = .ok (.aload_n 0, 1) := by decide +kernel
theorem d_Mo_feed_17 : decode b_Mo_feed 17 = .ok (.iload_n 1, 1) := by decide +kernel
theorem d_Mo_feed_18 : decode b_Mo_feed 18 = .ok (.invokevirtual 366, 3) := by decide +kernel
theorem d_Mo_feed_21 : decode b_Mo_feed 21 = .ok (.aload_n 0, 1) := by decide +kernel
theorem d_Mo_feed_22 : decode b_Mo_feed 22 = .ok (.iload_n 2, 1) := by decide +kernel
theorem d_Mo_feed_23 : decode b_Mo_feed 23 = .ok (.invokevirtual 366, 3) := by decide +kernel
theorem d_Mo_feed_26 : decode b_Mo_feed 26 = .ok (.aload_n 0, 1) := by decide +kernel
theorem d_Mo_feed_27 : decode b_Mo_feed 27 = .ok (.iload_n 3, 1) := by decide +kernel
theorem d_Mo_feed_28 : decode b_Mo_feed 28 = .ok (.invokevirtual 366, 3) := by decide +kernel
theorem d_Mo_feed_31 : decode b_Mo_feed 31 = .ok (.aload_n 0, 1) := by decide +kernel
theorem d_Mo_feed_32 : decode b_Mo_feed 32 = .ok (.iload 4, 2) := by decide +kernel
theorem d_Mo_feed_34 : decode b_Mo_feed 34 = .ok (.invokevirtual 366, 3) := by decide +kernel
theorem d_Mo_feed_37 : decode b_Mo_feed 37 = .ok (.aload_n 0, 1) := by decide +kernel
theorem d_Mo_feed_38 : decode b_Mo_feed 38 = .ok (.iload 5, 2) := by decide +kernel
theorem d_Mo_feed_40 : decode b_Mo_feed 40 = .ok (.invokevirtual 366, 3) := by decide +kernel
theorem d_Mo_feed_43 : decode b_Mo_feed 43 = .ok (.aload_n 0, 1) := by decide +kernel
theorem d_Mo_feed_44 : decode b_Mo_feed 44 = .ok (.getfield 363, 3) := by decide +kernel
theorem d_Mo_feed_47 : decode b_Mo_feed 47 = .ok (.ireturn, 1) := by decide +kernel
theorem d_Mo_hash_0 : decode b_Mo_hash 0 = .ok (.aload_n 0, 1) := by decide +kernel
theorem d_Mo_hash_1 : decode b_Mo_hash 1 = .ok (.aload_n 1, 1) := by decide +kernel
theorem d_Mo_hash_2 : decode b_Mo_hash 2 = .ok (.iload_n 2, 1) := by decide +kernel
theorem d_Mo_hash_3 : decode b_Mo_hash 3 = .ok (.iload_n 3, 1) := by decide +kernel
theorem d_Mo_hash_4 : decode b_Mo_hash 4 = .ok (.aload_n 0, 1) := by decide +kernel
theorem d_Mo_hash_5 : decode b_Mo_hash 5 = .ok (.getfield 103, 3) := by decide +kernel
theorem d_Mo_hash_8 : decode b_Mo_hash 8 = .ok (.iconst 0, 1) := by decide +kernel
theorem d_Mo_hash_9 : decode b_Mo_hash 9 = .ok (.invokevirtual 161, 3) := by decide +kernel
theorem d_Mo_hash_12 : decode b_Mo_hash 12 = .ok (.aload_n 0, 1) := by decide +kernel
theorem d_Mo_hash_13 : decode b_Mo_hash 13 = .ok (.aload_n 0, 1) := by decide +kernel
theorem d_Mo_hash_14 : decode b_Mo_hash 14 = .ok (.getfield 103, 3) := by decide +kernel
theorem d_Mo_hash_17 : decode b_Mo_hash 17 = .ok (.iconst 0, 1) := by decide +kernel
theorem d_Mo_hash_18 : decode b_Mo_hash 18 = .ok (.bipush 32, 2) := by decide +kernel
theorem d_Mo_hash_20 : decode b_Mo_hash 20 = .ok (.aload 4, 2) := by decide +kernel
theorem d_Mo_hash_22 : decode b_Mo_hash 22 = .ok (.iload 5, 2) := by decide +kernel
theorem d_Mo_hash_24 : decode b_Mo_hash 24 = .ok (.invokevirtual 161, 3) := by decide +kernel
theorem d_Mo_hash_27 : decode b_Mo_hash 27 = .ok (.return_, 1) := by decide +kernel
theorem d_Mo_inChain_0 : decode b_Mo_inChain 0 = .ok (.aload_n 0, 1) := by decide +kernel
theorem d_Mo_inChain_1 : decode b_Mo_inChain 1 = .ok (.iload_n 2, 1) := by decide +kernel
theorem d_Mo_inChain_2 : decode b_Mo_inChain 2 = .ok (.aload_n 0, 1) := by decide +kernel
theorem d_Mo_inChain_3 : decode b_Mo_inChain 3 = .ok (.getfield 24, 3) := by decide +kernel
theorem d_Mo_inChain_6 : decode b_Mo_inChain 6 = .ok (.iload_n 1, 1) := by decide +kernel
theorem d_Mo_inChain_7 : decode b_Mo_inChain 7 = .ok (.iaload, 1) := by decide +kernel
theorem d_Mo_inChain_8 : decode b_Mo_inChain 8 = .ok (.invokevirtual 194, 3) := by decide +kernel
theorem d_Mo_inChain_11 : decode b_Mo_inChain 11 = .ok (.iload_n 1, 1) := by decide +kernel
theorem d_Mo_inChain_12 : decode b_Mo_inChain 12 = .ok (.if_icmp .ne 7, 3) := by decide +kernel
theorem d_Mo_inChain_15 : decode b_Mo_inChain 15 = .ok (.iconst 1, 1) := by decide +kernel
theorem d_Mo_inChain_16 : decode b_Mo_inChain 16 = .ok (.goto 4, 3) := by decide +kernel
theorem d_Mo_inChain_20 : decode b_Mo_inChain 20 = .ok (.ireturn, 1) := by decide +kernel
theorem d_Mo_init_0 : decode b_Mo_init 0 = .ok (.aload_n 0, 1) := by decide +kernel
theorem d_Mo_init_1 : decode b_Mo_init 1 = .ok (.invokespecial 3, 3) := by decide +kernel
theorem d_Mo_init_4 : decode b_Mo_init 4 = .ok (.aload_n 0, 1) := by decide +kernel
theorem d_Mo_init_5 : decode b_Mo_init 5 = .ok (.ldc 9, 2) := by decide +kernel
theorem d_Mo_init_7 : decode b_Mo_init 7 = .ok (.newarray .byte, 2) := by decide +kernel
theorem d_Mo_init_9 : decode b_Mo_init 9 = .ok (.putfield 10, 3) := by decide +kernel
theorem d_Mo_init_12 : decode b_Mo_init 12 = .ok (.aload_n 0, 1) := by decide +kernel
theorem d_Mo_init_13 : decode b_Mo_init 13 = .ok (.sipush 256, 3) := by decide +kernel
theorem d_Mo_init_16 : decode b_Mo_init 16 = .ok (.newarray .int, 2) := by decide +kernel
theorem d_Mo_init_18 : decode b_Mo_init 18 = .ok (.putfield 14, 3) := by decide +kernel
theorem d_Mo_init_21 : decode b_Mo_init 21 = .ok (.aload_n 0, 1) := by decide +kernel
theorem d_Mo_init_22 : decode b_Mo_init 22 = .ok (.sipush 256, 3) := by decide +kernel
theorem d_Mo_init_25 : decode b_Mo_init 25 = .ok (.newarray .int, 2) := by decide +kernel
theorem d_Mo_init_27 : decode b_Mo_init 27 = .ok (.putfield 18, 3) := by decide +kernel
theorem d_Mo_init_30 : decode b_Mo_init 30 = .ok (.aload_n 0, 1) := by decide +kernel
theorem d_Mo_init_31 : decode b_Mo_init 31 = .ok (.sipush 256, 3) := by decide +kernel
theorem d_Mo_init_34 : decode b_Mo_init 34 = .ok (.newarray .int, 2) := by decide +kernel
theorem d_Mo_init_36 : decode b_Mo_init 36 = .ok (.putfield 21, 3) := by decide +kernel
theorem d_Mo_init_39 : decode b_Mo_init 39 = .ok (.aload_n 0, 1) := by decide +kernel
theorem d_Mo_init_40 : decode b_Mo_init 40 = .ok (.sipush 256, 3) := by decide +kernel
theorem d_Mo_init_43 : decode b_Mo_init 43 = .ok (.newarray .int, 2) := by decide +kernel
theorem d_Mo_init_45 : decode b_Mo_init 45 = .ok (.putfield 24, 3) := by decide +kernel
theorem d_Mo_init_48 : decode b_Mo_init 48 = .ok (.aload_n 0, 1) := by decide +kernel
theorem d_Mo_init_49 : decode b_Mo_init 49 = .ok (.sipush 256, 3) := by decide +kernel
theorem d_Mo_init_52 : decode b_Mo_init 52 = .ok (.newarray .int, 2) := by decide +kernel
theorem d_Mo_init_54 : decode b_Mo_init 54 = .ok (.putfield 27, 3) := by decide +kernel
theorem d_Mo_init_57 : decode b_Mo_init 57 = .ok (.aload_n 0, 1) := by decide +kernel
theorem d_Mo_init_58 : decode b_Mo_init 58 = .ok (.sipush 256, 3) := by decide +kernel
theorem d_Mo_init_61 : decode b_Mo_init 61 = .ok (.newarray .int, 2) := by decide +kernel
theorem d_Mo_init_63 : decode b_Mo_init 63 = .ok (.putfield 30, 3) := by decide +kernel
theorem d_Mo_init_66 : decode b_Mo_init 66 = .ok (.aload_n 0, 1) := by decide +kernel
theorem d_Mo_init_67 : decode b_Mo_init 67 = .ok (.sipush 256, 3) := by decide +kernel
theorem d_Mo_init_70 : decode b_Mo_init 70 = .ok (.newarray .long, 2) := by decide +kernel
theorem d_Mo_init_72 : decode b_Mo_init 72 = .ok (.putfield 33, 3) := by decide +kernel
theorem d_Mo_init_75 : decode b_Mo_init 75 = .ok (.aload_n 0, 1) := by decide +kernel
theorem d_Mo_init_76 : decode b_Mo_init 76 = .ok (.sipush 256, 3) := by decide +kernel
theorem d_Mo_init_79 : decode b_Mo_init 79 = .ok (.newarray .int, 2) := by decide +kernel
theorem d_Mo_init_81 : decode b_Mo_init 81 = .ok (.putfield 37, 3) := by decide +kernel
theorem d_Mo_init_84 : decode b_Mo_init 84 = .ok (.aload_n 0, 1) := by decide +kernel
theorem d_Mo_init_85 : decode b_Mo_init 85 = .ok (.sipush 256, 3) := by decide +kernel
theorem d_Mo_init_88 : decode b_Mo_init 88 = .ok (.newarray .boolean, 2) := by decide +kernel
theorem d_Mo_init_90 : decode b_Mo_init 90 = .ok (.putfield 40, 3) := by decide +kernel
theorem d_Mo_init_93 : decode b_Mo_init 93 = .ok (.aload_n 0, 1) := by decide +kernel
theorem d_Mo_init_94 : decode b_Mo_init 94 = .ok (.sipush 256, 3) := by decide +kernel
theorem d_Mo_init_97 : decode b_Mo_init 97 = .ok (.newarray .int, 2) := by decide +kernel
theorem d_Mo_init_99 : decode b_Mo_init 99 = .ok (.putfield 44, 3) := by decide +kernel
theorem d_Mo_init_102 : decode b_Mo_init 102 = .ok (.aload_n 0, 1) := by decide +kernel
theorem d_Mo_init_103 : decode b_Mo_init 103 = .ok (.sipush 256, 3) := by decide +kernel
theorem d_Mo_init_106 : decode b_Mo_init 106 = .ok (.newarray .int, 2) := by decide +kernel
theorem d_Mo_init_108 : decode b_Mo_init 108 = .ok (.putfield 47, 3) := by decide +kernel
theorem d_Mo_init_111 : decode b_Mo_init 111 = .ok (.aload_n 0, 1) := by decide +kernel
theorem d_Mo_init_112 : decode b_Mo_init 112 = .ok (.sipush 8192, 3) := by decide +kernel
theorem d_Mo_init_115 : decode b_Mo_init 115 = .ok (.newarray .byte, 2) := by decide +kernel
theorem d_Mo_init_117 : decode b_Mo_init 117 = .ok (.putfield 50, 3) := by decide +kernel
theorem d_Mo_init_120 : decode b_Mo_init 120 = .ok (.aload_n 0, 1) := by decide +kernel
theorem d_Mo_init_121 : decode b_Mo_init 121 = .ok (.iconst 1, 1) := by decide +kernel
theorem d_Mo_init_122 : decode b_Mo_init 122 = .ok (.putfield 53, 3) := by decide +kernel
theorem d_Mo_init_125 : decode b_Mo_init 125 = .ok (.aload_n 0, 1) := by decide +kernel
theorem d_Mo_init_126 : decode b_Mo_init 126 = .ok (.bipush 16, 2) := by decide +kernel
theorem d_Mo_init_128 : decode b_Mo_init 128 = .ok (.newarray .int, 2) := by decide +kernel
theorem d_Mo_init_130 : decode b_Mo_init 130 = .ok (.putfield 57, 3) := by decide +kernel
theorem d_Mo_init_133 : decode b_Mo_init 133 = .ok (.aload_n 0, 1) := by decide +kernel
theorem d_Mo_init_134 : decode b_Mo_init 134 = .ok (.bipush 16, 2) := by decide +kernel
theorem d_Mo_init_136 : decode b_Mo_init 136 = .ok (.newarray .int, 2) := by decide +kernel
theorem d_Mo_init_138 : decode b_Mo_init 138 = .ok (.putfield 60, 3) := by decide +kernel
theorem d_Mo_init_141 : decode b_Mo_init 141 = .ok (.aload_n 0, 1) := by decide +kernel
theorem d_Mo_init_142 : decode b_Mo_init 142 = .ok (.sipush 512, 3) := by decide +kernel
theorem d_Mo_init_145 : decode b_Mo_init 145 = .ok (.newarray .byte, 2) := by decide +kernel
theorem d_Mo_init_147 : decode b_Mo_init 147 = .ok (.putfield 63, 3) := by decide +kernel
theorem d_Mo_init_150 : decode b_Mo_init 150 = .ok (.aload_n 0, 1) := by decide +kernel
theorem d_Mo_init_151 : decode b_Mo_init 151 = .ok (.ldc 66, 2) := by decide +kernel
theorem d_Mo_init_153 : decode b_Mo_init 153 = .ok (.newarray .byte, 2) := by decide +kernel
theorem d_Mo_init_155 : decode b_Mo_init 155 = .ok (.putfield 67, 3) := by decide +kernel
theorem d_Mo_init_158 : decode b_Mo_init 158 = .ok (.aload_n 0, 1) := by decide +kernel
theorem d_Mo_init_159 : decode b_Mo_init 159 = .ok (.bipush 32, 2) := by decide +kernel
theorem d_Mo_init_161 : decode b_Mo_init 161 = .ok (.newarray .int, 2) := by decide +kernel
theorem d_Mo_init_163 : decode b_Mo_init 163 = .ok (.putfield 70, 3) := by decide +kernel
theorem d_Mo_init_166 : decode b_Mo_init 166 = .ok (.aload_n 0, 1) := by decide +kernel
theorem d_Mo_init_167 : decode b_Mo_init 167 = .ok (.bipush 32, 2) := by decide +kernel
theorem d_Mo_init_169 : decode b_Mo_init 169 = .ok (.newarray .int, 2) := by decide +kernel
theorem d_Mo_init_171 : decode b_Mo_init 171 = .ok (.putfield 73, 3) := by decide +kernel
theorem d_Mo_init_174 : decode b_Mo_init 174 = .ok (.aload_n 0, 1) := by decide +kernel
theorem d_Mo_init_175 : decode b_Mo_init 175 = .ok (.bipush 8, 2) := by decide +kernel
theorem d_Mo_init_177 : decode b_Mo_init 177 = .ok (.newarray .int, 2) := by decide +kernel
theorem d_Mo_init_179 : decode b_Mo_init 179 = .ok (.putfield 76, 3) := by decide +kernel
theorem d_Mo_init_182 : decode b_Mo_init 182 = .ok (.aload_n 0, 1) := by decide +kernel
theorem d_Mo_init_183 : decode b_Mo_init 183 = .ok (.bipush 8, 2) := by decide +kernel
theorem d_Mo_init_185 : decode b_Mo_init 185 = .ok (.newarray .int, 2) := by decide +kernel
theorem d_Mo_init_187 : decode b_Mo_init 187 = .ok (.putfield 79, 3) := by decide +kernel
theorem d_Mo_init_190 : decode b_Mo_init 190 = .ok (.aload_n 0, 1) := by decide +kernel
theorem d_Mo_init_191 : decode b_Mo_init 191 = .ok (.bipush 8, 2) := by decide +kernel
theorem d_Mo_init_193 : decode b_Mo_init 193 = .ok (.newarray .int, 2) := by decide +kernel
theorem d_Mo_init_195 : decode b_Mo_init 195 = .ok (.putfield 82, 3) := by decide +kernel
theorem d_Mo_init_198 : decode b_Mo_init 198 = .ok (.aload_n 0, 1) := by decide +kernel
theorem d_Mo_init_199 : decode b_Mo_init 199 = .ok (.bipush 8, 2) := by decide +kernel
theorem d_Mo_init_201 : decode b_Mo_init 201 = .ok (.newarray .int, 2) := by decide +kernel
theorem d_Mo_init_203 : decode b_Mo_init 203 = .ok (.putfield 85, 3) := by decide +kernel
theorem d_Mo_init_206 : decode b_Mo_init 206 = .ok (.aload_n 0, 1) := by decide +kernel
theorem d_Mo_init_207 : decode b_Mo_init 207 = .ok (.bipush 8, 2) := by decide +kernel
theorem d_Mo_init_209 : decode b_Mo_init 209 = .ok (.newarray .int, 2) := by decide +kernel
theorem d_Mo_init_211 : decode b_Mo_init 211 = .ok (.putfield 88, 3) := by decide +kernel
theorem d_Mo_init_214 : decode b_Mo_init 214 = .ok (.aload_n 0, 1) := by decide +kernel
theorem d_Mo_init_215 : decode b_Mo_init 215 = .ok (.bipush 8, 2) := by decide +kernel
theorem d_Mo_init_217 : decode b_Mo_init 217 = .ok (.newarray .int, 2) := by decide +kernel
theorem d_Mo_init_219 : decode b_Mo_init 219 = .ok (.putfield 91, 3) := by decide +kernel
theorem d_Mo_init_222 : decode b_Mo_init 222 = .ok (.aload_n 0, 1) := by decide +kernel
theorem d_Mo_init_223 : decode b_Mo_init 223 = .ok (.bipush 8, 2) := by decide +kernel
theorem d_Mo_init_225 : decode b_Mo_init 225 = .ok (.newarray .int, 2) := by decide +kernel
theorem d_Mo_init_227 : decode b_Mo_init 227 = .ok (.putfield 94, 3) := by decide +kernel
theorem d_Mo_init_230 : decode b_Mo_init 230 = .ok (.aload_n 0, 1) := by decide +kernel
theorem d_Mo_init_231 : decode b_Mo_init 231 = .ok (.bipush 64, 2) := by decide +kernel
theorem d_Mo_init_233 : decode b_Mo_init 233 = .ok (.newarray .int, 2) := by decide +kernel
theorem d_Mo_init_235 : decode b_Mo_init 235 = .ok (.putfield 97, 3) := by decide +kernel
theorem d_Mo_init_238 : decode b_Mo_init 238 = .ok (.aload_n 0, 1) := by decide +kernel
theorem d_Mo_init_239 : decode b_Mo_init 239 = .ok (.bipush 8, 2) := by decide +kernel
theorem d_Mo_init_241 : decode b_Mo_init 241 = .ok (.newarray .int, 2) := by decide +kernel
theorem d_Mo_init_243 : decode b_Mo_init 243 = .ok (.putfield 100, 3) := by decide +kernel
theorem d_Mo_init_246 : decode b_Mo_init 246 = .ok (.aload_n 0, 1) := by decide +kernel
theorem d_Mo_init_247 : decode b_Mo_init 247 = .ok (.bipush 32, 2) := by decide +kernel
theorem d_Mo_init_249 : decode b_Mo_init 249 = .ok (.newarray .byte, 2) := by decide +kernel
theorem d_Mo_init_251 : decode b_Mo_init 251 = .ok (.putfield 103, 3) := by decide +kernel
theorem d_Mo_init_254 : decode b_Mo_init 254 = .ok (.aload_n 0, 1) := by decide +kernel
theorem d_Mo_init_255 : decode b_Mo_init 255 = .ok (.bipush 32, 2) := by decide +kernel
theorem d_Mo_init_257 : decode b_Mo_init 257 = .ok (.newarray .byte, 2) := by decide +kernel
theorem d_Mo_init_259 : decode b_Mo_init 259 = .ok (.putfield 106, 3) := by decide +kernel
theorem d_Mo_init_262 : decode b_Mo_init 262 = .ok (.aload_n 0, 1) := by decide +kernel
theorem d_Mo_init_263 : decode b_Mo_init 263 = .ok (.bipush 32, 2) := by decide +kernel
theorem d_Mo_init_265 : decode b_Mo_init 265 = .ok (.newarray .byte, 2) := by decide +kernel
theorem d_Mo_init_267 : decode b_Mo_init 267 = .ok (.putfield 109, 3) := by decide +kernel
theorem d_Mo_init_270 : decode b_Mo_init 270 = .ok (.aload_n 0, 1) := by decide +kernel
theorem d_Mo_init_271 : decode b_Mo_init 271 = .ok (.sipush 8192, 3) := by decide +kernel
theorem d_Mo_init_274 : decode b_Mo_init 274 = .ok (.newarray .byte, 2) := by decide +kernel
theorem d_Mo_init_276 : decode b_Mo_init 276 = .ok (.putfield 112, 3) := by decide +kernel
theorem d_Mo_init_279 : decode b_Mo_init 279 = .ok (.aload_n 0, 1) := by decide +kernel
theorem d_Mo_init_280 : decode b_Mo_init 280 = .ok (.sipush 1088, 3) := by decide +kernel
theorem d_Mo_init_283 : decode b_Mo_init 283 = .ok (.newarray .byte, 2) := by decide +kernel
theorem d_Mo_init_285 : decode b_Mo_init 285 = .ok (.putfield 115, 3) := by decide +kernel
theorem d_Mo_init_288 : decode b_Mo_init 288 = .ok (.aload_n 0, 1) := by decide +kernel
theorem d_Mo_init_289 : decode b_Mo_init 289 = .ok (.sipush 1920, 3) := by decide +kernel
theorem d_Mo_init_292 : decode b_Mo_init 292 = .ok (.newarray .byte, 2) := by decide +kernel
theorem d_Mo_init_294 : decode b_Mo_init 294 = .ok (.putfield 118, 3) := by decide +kernel
theorem d_Mo_init_297 : decode b_Mo_init 297 = .ok (.aload_n 0, 1) := by decide +kernel
theorem d_Mo_init_298 : decode b_Mo_init 298 = .ok (.bipush 24, 2) := by decide +kernel
theorem d_Mo_init_300 : decode b_Mo_init 300 = .ok (.newarray .int, 2) := by decide +kernel
theorem d_Mo_init_302 : decode b_Mo_init 302 = .ok (.putfield 121, 3) := by decide +kernel
theorem d_Mo_init_305 : decode b_Mo_init 305 = .ok (.aload_n 0, 1) := by decide +kernel
theorem d_Mo_init_306 : decode b_Mo_init 306 = .ok (.bipush 100, 2) := by decide +kernel
theorem d_Mo_init_308 : decode b_Mo_init 308 = .ok (.newarray .boolean, 2) := by decide +kernel
theorem d_Mo_init_310 : decode b_Mo_init 310 = .ok (.putfield 124, 3) := by decide +kernel
theorem d_Mo_init_313 : decode b_Mo_init 313 = .ok (.aload_n 0, 1) := by decide +kernel
theorem d_Mo_init_314 : decode b_Mo_init 314 = .ok (.new 127, 3) := by decide +kernel
theorem d_Mo_init_317 : decode b_Mo_init 317 = .ok (.dup, 1) := by decide +kernel
theorem d_Mo_init_318 : decode b_Mo_init 318 = .ok (.invokespecial 129, 3) := by decide +kernel
theorem d_Mo_init_321 : decode b_Mo_init 321 = .ok (.putfield 130, 3) := by decide +kernel
theorem d_Mo_init_324 : decode b_Mo_init 324 = .ok (.aload_n 0, 1) := by decide +kernel
theorem d_Mo_init_325 : decode b_Mo_init 325 = .ok (.new 127, 3) := by decide +kernel
theorem d_Mo_init_328 : decode b_Mo_init 328 = .ok (.dup, 1) := by decide +kernel
theorem d_Mo_init_329 : decode b_Mo_init 329 = .ok (.invokespecial 129, 3) := by decide +kernel
theorem d_Mo_init_332 : decode b_Mo_init 332 = .ok (.putfield 134, 3) := by decide +kernel
theorem d_Mo_init_335 : decode b_Mo_init 335 = .ok (.aload_n 0, 1) := by decide +kernel
theorem d_Mo_init_336 : decode b_Mo_init 336 = .ok (.new 127, 3) := by decide +kernel
theorem d_Mo_init_339 : decode b_Mo_init 339 = .ok (.dup, 1) := by decide +kernel
theorem d_Mo_init_340 : decode b_Mo_init 340 = .ok (.invokespecial 129, 3) := by decide +kernel
theorem d_Mo_init_343 : decode b_Mo_init 343 = .ok (.putfield 137, 3) := by decide +kernel
theorem d_Mo_init_346 : decode b_Mo_init 346 = .ok (.aload_n 0, 1) := by decide +kernel
theorem d_Mo_init_347 : decode b_Mo_init 347 = .ok (.sipush 256, 3) := by decide +kernel
theorem d_Mo_init_350 : decode b_Mo_init 350 = .ok (.newarray .int, 2) := by decide +kernel
theorem d_Mo_init_352 : decode b_Mo_init 352 = .ok (.putfield 140, 3) := by decide +kernel
theorem d_Mo_init_355 : decode b_Mo_init 355 = .ok (.aload_n 0, 1) := by decide +kernel
theorem d_Mo_init_356 : decode b_Mo_init 356 = .ok (.sipush 27000, 3) := by decide +kernel
theorem d_Mo_init_359 : decode b_Mo_init 359 = .ok (.newarray .int, 2) := by decide +kernel
theorem d_Mo_init_361 : decode b_Mo_init 361 = .ok (.putfield 143, 3) := by decide +kernel
theorem d_Mo_init_364 : decode b_Mo_init 364 = .ok (.aload_n 0, 1) := by decide +kernel
theorem d_Mo_init_365 : decode b_Mo_init 365 = .ok (.bipush 8, 2) := by decide +kernel
theorem d_Mo_init_367 : decode b_Mo_init 367 = .ok (.newarray .int, 2) := by decide +kernel
theorem d_Mo_init_369 : decode b_Mo_init 369 = .ok (.putfield 146, 3) := by decide +kernel
theorem d_Mo_init_372 : decode b_Mo_init 372 = .ok (.aload_n 0, 1) := by decide +kernel
theorem d_Mo_init_373 : decode b_Mo_init 373 = .ok (.getfield 30, 3) := by decide +kernel
theorem d_Mo_init_376 : decode b_Mo_init 376 = .ok (.iconst 0, 1) := by decide +kernel
theorem d_Mo_init_377 : decode b_Mo_init 377 = .ok (.ldc 149, 2) := by decide +kernel
theorem d_Mo_init_379 : decode b_Mo_init 379 = .ok (.iastore, 1) := by decide +kernel
theorem d_Mo_init_380 : decode b_Mo_init 380 = .ok (.aload_n 0, 1) := by decide +kernel
theorem d_Mo_init_381 : decode b_Mo_init 381 = .ok (.getfield 21, 3) := by decide +kernel
theorem d_Mo_init_384 : decode b_Mo_init 384 = .ok (.iconst 0, 1) := by decide +kernel
theorem d_Mo_init_385 : decode b_Mo_init 385 = .ok (.bipush (-2), 2) := by decide +kernel
theorem d_Mo_init_387 : decode b_Mo_init 387 = .ok (.iastore, 1) := by decide +kernel
theorem d_Mo_init_388 : decode b_Mo_init 388 = .ok (.aload_n 0, 1) := by decide +kernel
theorem d_Mo_init_389 : decode b_Mo_init 389 = .ok (.getfield 40, 3) := by decide +kernel
theorem d_Mo_init_392 : decode b_Mo_init 392 = .ok (.iconst 0, 1) := by decide +kernel
theorem d_Mo_init_393 : decode b_Mo_init 393 = .ok (.iconst 1, 1) := by decide +kernel
theorem d_Mo_init_394 : decode b_Mo_init 394 = .ok (.bastore, 1) := by decide +kernel
theorem d_Mo_init_395 : decode b_Mo_init 395 = .ok (.return_, 1) := by decide +kernel
theorem d_Mo_mine_0 : decode b_Mo_mine 0 = .ok (.iload_n 1, 1) := by decide +kernel
theorem d_Mo_mine_1 : decode b_Mo_mine 1 = .ok (.iconst 1, 1) := by decide +kernel
theorem d_Mo_mine_2 : decode b_Mo_mine 2 = .ok (.if_icmp .lt 18, 3) := by decide +kernel
theorem d_Mo_mine_5 : decode b_Mo_mine 5 = .ok (.iload_n 1, 1) := by decide +kernel
theorem d_Mo_mine_6 : decode b_Mo_mine 6 = .ok (.sipush 2000, 3) := by decide +kernel
theorem d_Mo_mine_9 : decode b_Mo_mine 9 = .ok (.if_icmp .gt 11, 3) := by decide +kernel
theorem d_Mo_mine_12 : decode b_Mo_mine 12 = .ok (.aload_n 0, 1) := by decide +kernel
theorem d_Mo_mine_13 : decode b_Mo_mine 13 = .ok (.getfield 393, 3) := by decide +kernel
theorem d_Mo_mine_16 : decode b_Mo_mine 16 = .ok (.iconst 1, 1) := by decide +kernel
theorem d_Mo_mine_17 : decode b_Mo_mine 17 = .ok (.if_icmp .eq 5, 3) := by decide +kernel
theorem d_Mo_mine_20 : decode b_Mo_mine 20 = .ok (.iconst (-1), 1) := by decide +kernel
theorem d_Mo_mine_21 : decode b_Mo_mine 21 = .ok (.ireturn, 1) := by decide +kernel
theorem d_Mo_octet_0 : decode b_Mo_octet 0 = .ok (.iload_n 1, 1) := by decide +kernel
theorem d_Mo_octet_1 : decode b_Mo_octet 1 = .ok (.iconst (-1), 1) := by decide +kernel
theorem d_Mo_octet_2 : decode b_Mo_octet 2 = .ok (.if_icmp .ne 8, 3) := by decide +kernel
theorem d_Mo_octet_5 : decode b_Mo_octet 5 = .ok (.aload_n 0, 1) := by decide +kernel
theorem d_Mo_octet_6 : decode b_Mo_octet 6 = .ok (.getfield 390, 3) := by decide +kernel
theorem d_Mo_octet_9 : decode b_Mo_octet 9 = .ok (.ireturn, 1) := by decide +kernel
theorem d_Mo_octet_10 : decode b_Mo_octet 10 = .ok (.iload_n 1, 1) := by decide +kernel
theorem d_Mo_octet_11 : decode b_Mo_octet 11 = .ok (.ifCond .lt 11, 3) := by decide +kernel
theorem d_Mo_octet_14 : decode b_Mo_octet 14 = .ok (.iload_n 1, 1) := by decide +kernel
theorem d_Mo_octet_15 : decode b_Mo_octet 15 = .ok (.aload_n 0, 1) := by decide +kernel
theorem d_Mo_octet_16 : decode b_Mo_octet 16 = .ok (.getfield 390, 3) := by decide +kernel
theorem d_Mo_octet_19 : decode b_Mo_octet 19 = .ok (.if_icmp .lt 8, 3) := by decide +kernel
theorem d_Mo_octet_22 : decode b_Mo_octet 22 = .ok (.bipush (-2), 2) := by decide +kernel
theorem d_Mo_octet_24 : decode b_Mo_octet 24 = .ok (.goto 17, 3) := by decide +kernel
theorem d_Mo_octet_41 : decode b_Mo_octet 41 = .ok (.ireturn, 1) := by decide +kernel
theorem d_Mo_pay_0 : decode b_Mo_pay 0 = .ok (.aload_n 0, 1) := by decide +kernel
theorem d_Mo_pay_1 : decode b_Mo_pay 1 = .ok (.getfield 363, 3) := by decide +kernel
theorem d_Mo_pay_4 : decode b_Mo_pay 4 = .ok (.istore_n 1, 1) := by decide +kernel
theorem d_Mo_pay_5 : decode b_Mo_pay 5 = .ok (.aload_n 0, 1) := by decide +kernel
theorem d_Mo_pay_6 : decode b_Mo_pay 6 = .ok (.iconst 0, 1) := by decide +kernel
theorem d_Mo_pay_7 : decode b_Mo_pay 7 = .ok (.putfield 363, 3) := by decide +kernel
theorem d_Mo_pay_10 : decode b_Mo_pay 10 = .ok (.aload_n 0, 1) := by decide +kernel
theorem d_Mo_pay_11 : decode b_Mo_pay 11 = .ok (.ldc_w 305, 3) := by decide +kernel
theorem d_Mo_pay_14 : decode b_Mo_pay 14 = .ok (.iload_n 1, 1) := by decide +kernel
theorem d_Mo_pay_15 : decode b_Mo_pay 15 = .ok (.invokevirtual 360, 3) := by decide +kernel
theorem d_Mo_pay_18 : decode b_Mo_pay 18 = .ok (.ireturn, 1) := by decide +kernel
theorem d_Mo_pooled_0 : decode b_Mo_pooled 0 = .ok (.iload_n 2, 1) := by decide +kernel
theorem d_Mo_pooled_1 : decode b_Mo_pooled 1 = .ok (.ifCond .lt 8, 3) := by decide +kernel
theorem d_Mo_pooled_4 : decode b_Mo_pooled 4 = .ok (.iload_n 2, 1) := by decide +kernel
theorem d_Mo_pooled_5 : decode b_Mo_pooled 5 = .ok (.iconst 3, 1) := by decide +kernel
theorem d_Mo_pooled_6 : decode b_Mo_pooled 6 = .ok (.if_icmp .le 5, 3) := by decide +kernel
theorem d_Mo_pooled_9 : decode b_Mo_pooled 9 = .ok (.iconst (-1), 1) := by decide +kernel
theorem d_Mo_pooled_10 : decode b_Mo_pooled 10 = .ok (.ireturn, 1) := by decide +kernel
theorem d_Mo_pooled_11 : decode b_Mo_pooled 11 = .ok (.iload_n 1, 1) := by decide +kernel
theorem d_Mo_pooled_12 : decode b_Mo_pooled 12 = .ok (.ifCond .lt 11, 3) := by decide +kernel
theorem d_Mo_pooled_15 : decode b_Mo_pooled 15 = .ok (.iload_n 1, 1) := by decide +kernel
theorem d_Mo_pooled_16 : decode b_Mo_pooled 16 = .ok (.aload_n 0, 1) := by decide +kernel
theorem d_Mo_pooled_17 : decode b_Mo_pooled 17 = .ok (.getfield 346, 3) := by decide +kernel
theorem d_Mo_pooled_20 : decode b_Mo_pooled 20 = .ok (.if_icmp .lt 6, 3) := by decide +kernel
theorem d_Mo_pooled_23 : decode b_Mo_pooled 23 = .ok (.bipush (-2), 2) := by decide +kernel
theorem d_Mo_pooled_25 : decode b_Mo_pooled 25 = .ok (.ireturn, 1) := by decide +kernel
theorem d_Mo_put_0 : decode b_Mo_put 0 = .ok (.bipush 24, 2) := by decide +kernel
theorem d_Mo_put_2 : decode b_Mo_put 2 = .ok (.istore_n 2, 1) := by decide +kernel
theorem d_Mo_put_3 : decode b_Mo_put 3 = .ok (.iload_n 2, 1) := by decide +kernel
theorem d_Mo_put_4 : decode b_Mo_put 4 = .ok (.ifCond .lt 36, 3) := by decide +kernel
theorem d_Mo_put_7 : decode b_Mo_put 7 = .ok (.aload_n 0, 1) := by decide +kernel
theorem d_Mo_put_8 : decode b_Mo_put 8 = .ok (.getfield 10, 3) := by decide +kernel
theorem d_Mo_put_11 : decode b_Mo_put 11 = .ok (.ldc_w 305, 3) := by decide +kernel
theorem d_Mo_put_14 : decode b_Mo_put 14 = .ok (.aload_n 0, 1) := by decide +kernel
theorem d_Mo_put_15 : decode b_Mo_put 15 = .ok (.getfield 363, 3) := by decide +kernel
theorem d_Mo_put_18 : decode b_Mo_put 18 = .ok (.iadd, 1) := by decide +kernel
theorem d_Mo_put_19 : decode b_Mo_put 19 = .ok (.iload_n 1, 1) := by decide +kernel
theorem d_Mo_put_20 : decode b_Mo_put 20 = .ok (.iload_n 2, 1) := by decide +kernel
theorem d_Mo_put_21 : decode b_Mo_put 21 = .ok (.ishr, 1) := by decide +kernel
theorem d_Mo_put_22 : decode b_Mo_put 22 = .ok (.i2b, 1) := by decide +kernel
theorem d_Mo_put_23 : decode b_Mo_put 23 = .ok (.bastore, 1) := by decide +kernel
theorem d_Mo_put_24 : decode b_Mo_put 24 = .ok (.aload_n 0, 1) := by decide +kernel
theorem d_Mo_put_25 : decode b_Mo_put 25 = .ok (.dup, 1) := by decide +kernel
theorem d_Mo_put_26 : decode b_Mo_put 26 = .ok (.getfield 363, 3) := by decide +kernel
theorem d_Mo_put_29 : decode b_Mo_put 29 = .ok (.iconst 1, 1) := by decide +kernel
theorem d_Mo_put_30 : decode b_Mo_put 30 = .ok (.iadd, 1) := by decide +kernel
theorem d_Mo_put_31 : decode b_Mo_put 31 = .ok (.putfield 363, 3) := by decide +kernel
theorem d_Mo_put_34 : decode b_Mo_put 34 = .ok (.iinc 2 (-8), 3) := by decide +kernel
theorem d_Mo_put_37 : decode b_Mo_put 37 = .ok (.goto (-34), 3) := by decide +kernel
theorem d_Mo_put_40 : decode b_Mo_put 40 = .ok (.return_, 1) := by decide +kernel
theorem d_Mo_read_0 : decode b_Mo_read 0 = .ok (.iload_n 1, 1) := by decide +kernel
theorem d_Mo_read_1 : decode b_Mo_read 1 = .ok (.istore_n 3, 1) := by decide +kernel
theorem d_Mo_read_2 : decode b_Mo_read 2 = .ok (.iload_n 3, 1) := by decide +kernel
theorem d_Mo_read_3 : decode b_Mo_read 3 = .ok (.iconst 5, 1) := by decide +kernel
theorem d_Mo_read_4 : decode b_Mo_read 4 = .ok (.iadd, 1) := by decide +kernel
theorem d_Mo_read_5 : decode b_Mo_read 5 = .ok (.iload_n 2, 1) := by decide +kernel
theorem d_Mo_read_6 : decode b_Mo_read 6 = .ok (.if_icmp .le 5, 3) := by decide +kernel
theorem d_Mo_read_9 : decode b_Mo_read 9 = .ok (.iconst (-1), 1) := by decide +kernel
theorem d_Mo_read_10 : decode b_Mo_read 10 = .ok (.ireturn, 1) := by decide +kernel
theorem d_Mo_reward_0 : decode b_Mo_reward 0 = .ok (.iload_n 0, 1) := by decide +kernel
theorem d_Mo_reward_1 : decode b_Mo_reward 1 = .ok (.sipush 320, 3) := by decide +kernel
theorem d_Mo_reward_4 : decode b_Mo_reward 4 = .ok (.if_icmp .lt 7, 3) := by decide +kernel
theorem d_Mo_reward_11 : decode b_Mo_reward 11 = .ok (.ldc 203, 2) := by decide +kernel
theorem d_Mo_reward_13 : decode b_Mo_reward 13 = .ok (.iload_n 0, 1) := by decide +kernel
theorem d_Mo_reward_14 : decode b_Mo_reward 14 = .ok (.bipush 16, 2) := by decide +kernel
theorem d_Mo_reward_16 : decode b_Mo_reward 16 = .ok (.idiv, 1) := by decide +kernel
theorem d_Mo_reward_17 : decode b_Mo_reward 17 = .ok (.ishr, 1) := by decide +kernel
theorem d_Mo_reward_18 : decode b_Mo_reward 18 = .ok (.ireturn, 1) := by decide +kernel
theorem d_Mo_root_0 : decode b_Mo_root 0 = .ok (.iload_n 1, 1) := by decide +kernel
theorem d_Mo_root_1 : decode b_Mo_root 1 = .ok (.istore_n 2, 1) := by decide +kernel
theorem d_Mo_root_2 : decode b_Mo_root 2 = .ok (.iload_n 2, 1) := by decide +kernel
theorem d_Mo_root_3 : decode b_Mo_root 3 = .ok (.iconst 1, 1) := by decide +kernel
theorem d_Mo_root_4 : decode b_Mo_root 4 = .ok (.if_icmp .le 125, 3) := by decide +kernel
theorem d_Mo_root_129 : decode b_Mo_root 129 = .ok (.return_, 1) := by decide +kernel
theorem d_Mo_round_0 : decode b_Mo_round 0 = .ok (.bipush 16, 2) := by decide +kernel
theorem d_Mo_round_2 : decode b_Mo_round 2 = .ok (.istore_n 1, 1) := by decide +kernel
theorem d_Mo_round_3 : decode b_Mo_round 3 = .ok (.iload_n 1, 1) := by decide +kernel
theorem d_Mo_round_4 : decode b_Mo_round 4 = .ok (.bipush 64, 2) := by decide +kernel
theorem d_Mo_round_6 : decode b_Mo_round 6 = .ok (.if_icmp .ge 110, 3) := by decide +kernel
theorem d_Mo_round_9 : decode b_Mo_round 9 = .ok (.aload_n 0, 1) := by decide +kernel
theorem d_Mo_round_10 : decode b_Mo_round 10 = .ok (.getfield 97, 3) := by decide +kernel
theorem d_Mo_round_13 : decode b_Mo_round 13 = .ok (.iload_n 1, 1) := by decide +kernel
theorem d_Mo_round_14 : decode b_Mo_round 14 = .ok (.bipush 15, 2) := by decide +kernel
theorem d_Mo_round_16 : decode b_Mo_round 16 = .ok (.isub, 1) := by decide +kernel
theorem d_Mo_round_17 : decode b_Mo_round 17 = .ok (.iaload, 1) := by decide +kernel
theorem d_Mo_round_18 : decode b_Mo_round 18 = .ok (.istore_n 2, 1) := by decide +kernel
theorem d_Mo_round_19 : decode b_Mo_round 19 = .ok (.aload_n 0, 1) := by decide +kernel
theorem d_Mo_round_20 : decode b_Mo_round 20 = .ok (.getfield 97, 3) := by decide +kernel
theorem d_Mo_round_23 : decode b_Mo_round 23 = .ok (.iload_n 1, 1) := by decide +kernel
theorem d_Mo_round_24 : decode b_Mo_round 24 = .ok (.iconst 2, 1) := by decide +kernel
theorem d_Mo_round_25 : decode b_Mo_round 25 = .ok (.isub, 1) := by decide +kernel
theorem d_Mo_round_26 : decode b_Mo_round 26 = .ok (.iaload, 1) := by decide +kernel
theorem d_Mo_round_27 : decode b_Mo_round 27 = .ok (.istore_n 3, 1) := by decide +kernel
theorem d_Mo_round_28 : decode b_Mo_round 28 = .ok (.iload_n 2, 1) := by decide +kernel
theorem d_Mo_round_29 : decode b_Mo_round 29 = .ok (.bipush 7, 2) := by decide +kernel
theorem d_Mo_round_31 : decode b_Mo_round 31 = .ok (.iushr, 1) := by decide +kernel
theorem d_Mo_round_32 : decode b_Mo_round 32 = .ok (.iload_n 2, 1) := by decide +kernel
theorem d_Mo_round_33 : decode b_Mo_round 33 = .ok (.bipush 25, 2) := by decide +kernel
theorem d_Mo_round_35 : decode b_Mo_round 35 = .ok (.ishl, 1) := by decide +kernel
theorem d_Mo_round_36 : decode b_Mo_round 36 = .ok (.ior, 1) := by decide +kernel
theorem d_Mo_round_37 : decode b_Mo_round 37 = .ok (.iload_n 2, 1) := by decide +kernel
theorem d_Mo_round_38 : decode b_Mo_round 38 = .ok (.bipush 18, 2) := by decide +kernel
theorem d_Mo_round_40 : decode b_Mo_round 40 = .ok (.iushr, 1) := by decide +kernel
theorem d_Mo_round_41 : decode b_Mo_round 41 = .ok (.iload_n 2, 1) := by decide +kernel
theorem d_Mo_round_42 : decode b_Mo_round 42 = .ok (.bipush 14, 2) := by decide +kernel
theorem d_Mo_round_44 : decode b_Mo_round 44 = .ok (.ishl, 1) := by decide +kernel
theorem d_Mo_round_45 : decode b_Mo_round 45 = .ok (.ior, 1) := by decide +kernel
theorem d_Mo_round_46 : decode b_Mo_round 46 = .ok (.ixor, 1) := by decide +kernel
theorem d_Mo_round_47 : decode b_Mo_round 47 = .ok (.iload_n 2, 1) := by decide +kernel
theorem d_Mo_round_48 : decode b_Mo_round 48 = .ok (.iconst 3, 1) := by decide +kernel
theorem d_Mo_round_49 : decode b_Mo_round 49 = .ok (.iushr, 1) := by decide +kernel
theorem d_Mo_round_50 : decode b_Mo_round 50 = .ok (.ixor, 1) := by decide +kernel
theorem d_Mo_round_51 : decode b_Mo_round 51 = .ok (.istore 4, 2) := by decide +kernel
theorem d_Mo_round_53 : decode b_Mo_round 53 = .ok (.iload_n 3, 1) := by decide +kernel
theorem d_Mo_round_54 : decode b_Mo_round 54 = .ok (.bipush 17, 2) := by decide +kernel
theorem d_Mo_round_56 : decode b_Mo_round 56 = .ok (.iushr, 1) := by decide +kernel
theorem d_Mo_round_57 : decode b_Mo_round 57 = .ok (.iload_n 3, 1) := by decide +kernel
theorem d_Mo_round_58 : decode b_Mo_round 58 = .ok (.bipush 15, 2) := by decide +kernel
end
section
theorem d_Mo_round_60 : decode b_Mo_round 60 = .ok (.ishl, 1) := by decide +kernel
theorem d_Mo_round_61 : decode b_Mo_round 61 = .ok (.ior, 1) := by decide +kernel
theorem d_Mo_round_62 : decode b_Mo_round 62 = .ok (.iload_n 3, 1) := by decide +kernel
theorem d_Mo_round_63 : decode b_Mo_round 63 = .ok (.bipush 19, 2) := by decide +kernel
theorem d_Mo_round_65 : decode b_Mo_round 65 = .ok (.iushr, 1) := by decide +kernel
theorem d_Mo_round_66 : decode b_Mo_round 66 = .ok (.iload_n 3, 1) := by decide +kernel
theorem d_Mo_round_67 : decode b_Mo_round 67 = .ok (.bipush 13, 2) := by decide +kernel
theorem d_Mo_round_69 : decode b_Mo_round 69 = .ok (.ishl, 1) := by decide +kernel
theorem d_Mo_round_70 : decode b_Mo_round 70 = .ok (.ior, 1) := by decide +kernel
theorem d_Mo_round_71 : decode b_Mo_round 71 = .ok (.ixor, 1) := by decide +kernel
theorem d_Mo_round_72 : decode b_Mo_round 72 = .ok (.iload_n 3, 1) := by decide +kernel
theorem d_Mo_round_73 : decode b_Mo_round 73 = .ok (.bipush 10, 2) := by decide +kernel
theorem d_Mo_round_75 : decode b_Mo_round 75 = .ok (.iushr, 1) := by decide +kernel
theorem d_Mo_round_76 : decode b_Mo_round 76 = .ok (.ixor, 1) := by decide +kernel
theorem d_Mo_round_77 : decode b_Mo_round 77 = .ok (.istore 5, 2) := by decide +kernel
theorem d_Mo_round_79 : decode b_Mo_round 79 = .ok (.aload_n 0, 1) := by decide +kernel
theorem d_Mo_round_80 : decode b_Mo_round 80 = .ok (.getfield 97, 3) := by decide +kernel
theorem d_Mo_round_83 : decode b_Mo_round 83 = .ok (.iload_n 1, 1) := by decide +kernel
theorem d_Mo_round_84 : decode b_Mo_round 84 = .ok (.aload_n 0, 1) := by decide +kernel
theorem d_Mo_round_85 : decode b_Mo_round 85 = .ok (.getfield 97, 3) := by decide +kernel
theorem d_Mo_round_88 : decode b_Mo_round 88 = .ok (.iload_n 1, 1) := by decide +kernel
theorem d_Mo_round_89 : decode b_Mo_round 89 = .ok (.bipush 16, 2) := by decide +kernel
theorem d_Mo_round_91 : decode b_Mo_round 91 = .ok (.isub, 1) := by decide +kernel
theorem d_Mo_round_92 : decode b_Mo_round 92 = .ok (.iaload, 1) := by decide +kernel
theorem d_Mo_round_93 : decode b_Mo_round 93 = .ok (.iload 4, 2) := by decide +kernel
theorem d_Mo_round_95 : decode b_Mo_round 95 = .ok (.iadd, 1) := by decide +kernel
theorem d_Mo_round_96 : decode b_Mo_round 96 = .ok (.aload_n 0, 1) := by decide +kernel
theorem d_Mo_round_97 : decode b_Mo_round 97 = .ok (.getfield 97, 3) := by decide +kernel
theorem d_Mo_round_100 : decode b_Mo_round 100 = .ok (.iload_n 1, 1) := by decide +kernel
theorem d_Mo_round_101 : decode b_Mo_round 101 = .ok (.bipush 7, 2) := by decide +kernel
theorem d_Mo_round_103 : decode b_Mo_round 103 = .ok (.isub, 1) := by decide +kernel
theorem d_Mo_round_104 : decode b_Mo_round 104 = .ok (.iaload, 1) := by decide +kernel
theorem d_Mo_round_105 : decode b_Mo_round 105 = .ok (.iadd, 1) := by decide +kernel
theorem d_Mo_round_106 : decode b_Mo_round 106 = .ok (.iload 5, 2) := by decide +kernel
theorem d_Mo_round_108 : decode b_Mo_round 108 = .ok (.iadd, 1) := by decide +kernel
theorem d_Mo_round_109 : decode b_Mo_round 109 = .ok (.iastore, 1) := by decide +kernel
theorem d_Mo_round_110 : decode b_Mo_round 110 = .ok (.iinc 1 1, 3) := by decide +kernel
theorem d_Mo_round_113 : decode b_Mo_round 113 = .ok (.goto (-110), 3) := by decide +kernel
theorem d_Mo_round_116 : decode b_Mo_round 116 = .ok (.aload_n 0, 1) := by decide +kernel
theorem d_Mo_round_117 : decode b_Mo_round 117 = .ok (.getfield 100, 3) := by decide +kernel
theorem d_Mo_round_120 : decode b_Mo_round 120 = .ok (.iconst 0, 1) := by decide +kernel
theorem d_Mo_round_121 : decode b_Mo_round 121 = .ok (.iaload, 1) := by decide +kernel
theorem d_Mo_round_122 : decode b_Mo_round 122 = .ok (.istore_n 1, 1) := by decide +kernel
theorem d_Mo_round_123 : decode b_Mo_round 123 = .ok (.aload_n 0, 1) := by decide +kernel
theorem d_Mo_round_124 : decode b_Mo_round 124 = .ok (.getfield 100, 3) := by decide +kernel
theorem d_Mo_round_127 : decode b_Mo_round 127 = .ok (.iconst 1, 1) := by decide +kernel
theorem d_Mo_round_128 : decode b_Mo_round 128 = .ok (.iaload, 1) := by decide +kernel
theorem d_Mo_round_129 : decode b_Mo_round 129 = .ok (.istore_n 2, 1) := by decide +kernel
theorem d_Mo_round_130 : decode b_Mo_round 130 = .ok (.aload_n 0, 1) := by decide +kernel
theorem d_Mo_round_131 : decode b_Mo_round 131 = .ok (.getfield 100, 3) := by decide +kernel
theorem d_Mo_round_134 : decode b_Mo_round 134 = .ok (.iconst 2, 1) := by decide +kernel
theorem d_Mo_round_135 : decode b_Mo_round 135 = .ok (.iaload, 1) := by decide +kernel
theorem d_Mo_round_136 : decode b_Mo_round 136 = .ok (.istore_n 3, 1) := by decide +kernel
theorem d_Mo_round_137 : decode b_Mo_round 137 = .ok (.aload_n 0, 1) := by decide +kernel
theorem d_Mo_round_138 : decode b_Mo_round 138 = .ok (.getfield 100, 3) := by decide +kernel
theorem d_Mo_round_141 : decode b_Mo_round 141 = .ok (.iconst 3, 1) := by decide +kernel
theorem d_Mo_round_142 : decode b_Mo_round 142 = .ok (.iaload, 1) := by decide +kernel
theorem d_Mo_round_143 : decode b_Mo_round 143 = .ok (.istore 4, 2) := by decide +kernel
theorem d_Mo_round_145 : decode b_Mo_round 145 = .ok (.aload_n 0, 1) := by decide +kernel
theorem d_Mo_round_146 : decode b_Mo_round 146 = .ok (.getfield 100, 3) := by decide +kernel
theorem d_Mo_round_149 : decode b_Mo_round 149 = .ok (.iconst 4, 1) := by decide +kernel
theorem d_Mo_round_150 : decode b_Mo_round 150 = .ok (.iaload, 1) := by decide +kernel
theorem d_Mo_round_151 : decode b_Mo_round 151 = .ok (.istore 5, 2) := by decide +kernel
theorem d_Mo_round_153 : decode b_Mo_round 153 = .ok (.aload_n 0, 1) := by decide +kernel
theorem d_Mo_round_154 : decode b_Mo_round 154 = .ok (.getfield 100, 3) := by decide +kernel
theorem d_Mo_round_157 : decode b_Mo_round 157 = .ok (.iconst 5, 1) := by decide +kernel
theorem d_Mo_round_158 : decode b_Mo_round 158 = .ok (.iaload, 1) := by decide +kernel
theorem d_Mo_round_159 : decode b_Mo_round 159 = .ok (.istore 6, 2) := by decide +kernel
theorem d_Mo_round_161 : decode b_Mo_round 161 = .ok (.aload_n 0, 1) := by decide +kernel
theorem d_Mo_round_162 : decode b_Mo_round 162 = .ok (.getfield 100, 3) := by decide +kernel
theorem d_Mo_round_165 : decode b_Mo_round 165 = .ok (.bipush 6, 2) := by decide +kernel
theorem d_Mo_round_167 : decode b_Mo_round 167 = .ok (.iaload, 1) := by decide +kernel
theorem d_Mo_round_168 : decode b_Mo_round 168 = .ok (.istore 7, 2) := by decide +kernel
theorem d_Mo_round_170 : decode b_Mo_round 170 = .ok (.aload_n 0, 1) := by decide +kernel
theorem d_Mo_round_171 : decode b_Mo_round 171 = .ok (.getfield 100, 3) := by decide +kernel
theorem d_Mo_round_174 : decode b_Mo_round 174 = .ok (.bipush 7, 2) := by decide +kernel
theorem d_Mo_round_176 : decode b_Mo_round 176 = .ok (.iaload, 1) := by decide +kernel
theorem d_Mo_round_177 : decode b_Mo_round 177 = .ok (.istore 8, 2) := by decide +kernel
theorem d_Mo_round_179 : decode b_Mo_round 179 = .ok (.iconst 0, 1) := by decide +kernel
theorem d_Mo_round_180 : decode b_Mo_round 180 = .ok (.istore 9, 2) := by decide +kernel
theorem d_Mo_round_182 : decode b_Mo_round 182 = .ok (.iload 9, 2) := by decide +kernel
theorem d_Mo_round_184 : decode b_Mo_round 184 = .ok (.bipush 64, 2) := by decide +kernel
theorem d_Mo_round_186 : decode b_Mo_round 186 = .ok (.if_icmp .ge 152, 3) := by decide +kernel
theorem d_Mo_round_189 : decode b_Mo_round 189 = .ok (.iload 8, 2) := by decide +kernel
theorem d_Mo_round_191 : decode b_Mo_round 191 = .ok (.iload 5, 2) := by decide +kernel
theorem d_Mo_round_193 : decode b_Mo_round 193 = .ok (.bipush 6, 2) := by decide +kernel
theorem d_Mo_round_195 : decode b_Mo_round 195 = .ok (.iushr, 1) := by decide +kernel
theorem d_Mo_round_196 : decode b_Mo_round 196 = .ok (.iload 5, 2) := by decide +kernel
theorem d_Mo_round_198 : decode b_Mo_round 198 = .ok (.bipush 26, 2) := by decide +kernel
theorem d_Mo_round_200 : decode b_Mo_round 200 = .ok (.ishl, 1) := by decide +kernel
theorem d_Mo_round_201 : decode b_Mo_round 201 = .ok (.ior, 1) := by decide +kernel
theorem d_Mo_round_202 : decode b_Mo_round 202 = .ok (.iload 5, 2) := by decide +kernel
theorem d_Mo_round_204 : decode b_Mo_round 204 = .ok (.bipush 11, 2) := by decide +kernel
theorem d_Mo_round_206 : decode b_Mo_round 206 = .ok (.iushr, 1) := by decide +kernel
theorem d_Mo_round_207 : decode b_Mo_round 207 = .ok (.iload 5, 2) := by decide +kernel
theorem d_Mo_round_209 : decode b_Mo_round 209 = .ok (.bipush 21, 2) := by decide +kernel
theorem d_Mo_round_211 : decode b_Mo_round 211 = .ok (.ishl, 1) := by decide +kernel
theorem d_Mo_round_212 : decode b_Mo_round 212 = .ok (.ior, 1) := by decide +kernel
theorem d_Mo_round_213 : decode b_Mo_round 213 = .ok (.ixor, 1) := by decide +kernel
theorem d_Mo_round_214 : decode b_Mo_round 214 = .ok (.iload 5, 2) := by decide +kernel
theorem d_Mo_round_216 : decode b_Mo_round 216 = .ok (.bipush 25, 2) := by decide +kernel
theorem d_Mo_round_218 : decode b_Mo_round 218 = .ok (.iushr, 1) := by decide +kernel
theorem d_Mo_round_219 : decode b_Mo_round 219 = .ok (.iload 5, 2) := by decide +kernel
theorem d_Mo_round_221 : decode b_Mo_round 221 = .ok (.bipush 7, 2) := by decide +kernel
theorem d_Mo_round_223 : decode b_Mo_round 223 = .ok (.ishl, 1) := by decide +kernel
theorem d_Mo_round_224 : decode b_Mo_round 224 = .ok (.ior, 1) := by decide +kernel
theorem d_Mo_round_225 : decode b_Mo_round 225 = .ok (.ixor, 1) := by decide +kernel
theorem d_Mo_round_226 : decode b_Mo_round 226 = .ok (.iadd, 1) := by decide +kernel
theorem d_Mo_round_227 : decode b_Mo_round 227 = .ok (.iload 5, 2) := by decide +kernel
theorem d_Mo_round_229 : decode b_Mo_round 229 = .ok (.iload 6, 2) := by decide +kernel
theorem d_Mo_round_231 : decode b_Mo_round 231 = .ok (.iand, 1) := by decide +kernel
theorem d_Mo_round_232 : decode b_Mo_round 232 = .ok (.iload 5, 2) := by decide +kernel
theorem d_Mo_round_234 : decode b_Mo_round 234 = .ok (.iconst (-1), 1) := by decide +kernel
theorem d_Mo_round_235 : decode b_Mo_round 235 = .ok (.ixor, 1) := by decide +kernel
theorem d_Mo_round_236 : decode b_Mo_round 236 = .ok (.iload 7, 2) := by decide +kernel
theorem d_Mo_round_238 : decode b_Mo_round 238 = .ok (.iand, 1) := by decide +kernel
theorem d_Mo_round_239 : decode b_Mo_round 239 = .ok (.ixor, 1) := by decide +kernel
theorem d_Mo_round_240 : decode b_Mo_round 240 = .ok (.iadd, 1) := by decide +kernel
theorem d_Mo_round_241 : decode b_Mo_round 241 = .ok (.getstatic 150, 3) := by decide +kernel
theorem d_Mo_round_244 : decode b_Mo_round 244 = .ok (.iload 9, 2) := by decide +kernel
theorem d_Mo_round_246 : decode b_Mo_round 246 = .ok (.iaload, 1) := by decide +kernel
theorem d_Mo_round_247 : decode b_Mo_round 247 = .ok (.iadd, 1) := by decide +kernel
theorem d_Mo_round_248 : decode b_Mo_round 248 = .ok (.aload_n 0, 1) := by decide +kernel
theorem d_Mo_round_249 : decode b_Mo_round 249 = .ok (.getfield 97, 3) := by decide +kernel
theorem d_Mo_round_252 : decode b_Mo_round 252 = .ok (.iload 9, 2) := by decide +kernel
theorem d_Mo_round_254 : decode b_Mo_round 254 = .ok (.iaload, 1) := by decide +kernel
theorem d_Mo_round_255 : decode b_Mo_round 255 = .ok (.iadd, 1) := by decide +kernel
theorem d_Mo_round_256 : decode b_Mo_round 256 = .ok (.istore 10, 2) := by decide +kernel
theorem d_Mo_round_258 : decode b_Mo_round 258 = .ok (.iload_n 1, 1) := by decide +kernel
theorem d_Mo_round_259 : decode b_Mo_round 259 = .ok (.iconst 2, 1) := by decide +kernel
theorem d_Mo_round_260 : decode b_Mo_round 260 = .ok (.iushr, 1) := by decide +kernel
theorem d_Mo_round_261 : decode b_Mo_round 261 = .ok (.iload_n 1, 1) := by decide +kernel
theorem d_Mo_round_262 : decode b_Mo_round 262 = .ok (.bipush 30, 2) := by decide +kernel
theorem d_Mo_round_264 : decode b_Mo_round 264 = .ok (.ishl, 1) := by decide +kernel
theorem d_Mo_round_265 : decode b_Mo_round 265 = .ok (.ior, 1) := by decide +kernel
theorem d_Mo_round_266 : decode b_Mo_round 266 = .ok (.iload_n 1, 1) := by decide +kernel
theorem d_Mo_round_267 : decode b_Mo_round 267 = .ok (.bipush 13, 2) := by decide +kernel
theorem d_Mo_round_269 : decode b_Mo_round 269 = .ok (.iushr, 1) := by decide +kernel
theorem d_Mo_round_270 : decode b_Mo_round 270 = .ok (.iload_n 1, 1) := by decide +kernel
theorem d_Mo_round_271 : decode b_Mo_round 271 = .ok (.bipush 19, 2) := by decide +kernel
theorem d_Mo_round_273 : decode b_Mo_round 273 = .ok (.ishl, 1) := by decide +kernel
theorem d_Mo_round_274 : decode b_Mo_round 274 = .ok (.ior, 1) := by decide +kernel
theorem d_Mo_round_275 : decode b_Mo_round 275 = .ok (.ixor, 1) := by decide +kernel
theorem d_Mo_round_276 : decode b_Mo_round 276 = .ok (.iload_n 1, 1) := by decide +kernel
theorem d_Mo_round_277 : decode b_Mo_round 277 = .ok (.bipush 22, 2) := by decide +kernel
theorem d_Mo_round_279 : decode b_Mo_round 279 = .ok (.iushr, 1) := by decide +kernel
theorem d_Mo_round_280 : decode b_Mo_round 280 = .ok (.iload_n 1, 1) := by decide +kernel
theorem d_Mo_round_281 : decode b_Mo_round 281 = .ok (.bipush 10, 2) := by decide +kernel
theorem d_Mo_round_283 : decode b_Mo_round 283 = .ok (.ishl, 1) := by decide +kernel
theorem d_Mo_round_284 : decode b_Mo_round 284 = .ok (.ior, 1) := by decide +kernel
theorem d_Mo_round_285 : decode b_Mo_round 285 = .ok (.ixor, 1) := by decide +kernel
theorem d_Mo_round_286 : decode b_Mo_round 286 = .ok (.iload_n 1, 1) := by decide +kernel
theorem d_Mo_round_287 : decode b_Mo_round 287 = .ok (.iload_n 2, 1) := by decide +kernel
theorem d_Mo_round_288 : decode b_Mo_round 288 = .ok (.iand, 1) := by decide +kernel
theorem d_Mo_round_289 : decode b_Mo_round 289 = .ok (.iload_n 1, 1) := by decide +kernel
theorem d_Mo_round_290 : decode b_Mo_round 290 = .ok (.iload_n 3, 1) := by decide +kernel
theorem d_Mo_round_291 : decode b_Mo_round 291 = .ok (.iand, 1) := by decide +kernel
theorem d_Mo_round_292 : decode b_Mo_round 292 = .ok (.ixor, 1) := by decide +kernel
theorem d_Mo_round_293 : decode b_Mo_round 293 = .ok (.iload_n 2, 1) := by decide +kernel
theorem d_Mo_round_294 : decode b_Mo_round 294 = .ok (.iload_n 3, 1) := by decide +kernel
theorem d_Mo_round_295 : decode b_Mo_round 295 = .ok (.iand, 1) := by decide +kernel
theorem d_Mo_round_296 : decode b_Mo_round 296 = .ok (.ixor, 1) := by decide +kernel
theorem d_Mo_round_297 : decode b_Mo_round 297 = .ok (.iadd, 1) := by decide +kernel
theorem d_Mo_round_298 : decode b_Mo_round 298 = .ok (.istore 11, 2) := by decide +kernel
theorem d_Mo_round_300 : decode b_Mo_round 300 = .ok (.iload 7, 2) := by decide +kernel
theorem d_Mo_round_302 : decode b_Mo_round 302 = .ok (.istore 8, 2) := by decide +kernel
theorem d_Mo_round_304 : decode b_Mo_round 304 = .ok (.iload 6, 2) := by decide +kernel
theorem d_Mo_round_306 : decode b_Mo_round 306 = .ok (.istore 7, 2) := by decide +kernel
theorem d_Mo_round_308 : decode b_Mo_round 308 = .ok (.iload 5, 2) := by decide +kernel
theorem d_Mo_round_310 : decode b_Mo_round 310 = .ok (.istore 6, 2) := by decide +kernel
theorem d_Mo_round_312 : decode b_Mo_round 312 = .ok (.iload 4, 2) := by decide +kernel
theorem d_Mo_round_314 : decode b_Mo_round 314 = .ok (.iload 10, 2) := by decide +kernel
theorem d_Mo_round_316 : decode b_Mo_round 316 = .ok (.iadd, 1) := by decide +kernel
theorem d_Mo_round_317 : decode b_Mo_round 317 = .ok (.istore 5, 2) := by decide +kernel
theorem d_Mo_round_319 : decode b_Mo_round 319 = .ok (.iload_n 3, 1) := by decide +kernel
theorem d_Mo_round_320 : decode b_Mo_round 320 = .ok (.istore 4, 2) := by decide +kernel
theorem d_Mo_round_322 : decode b_Mo_round 322 = .ok (.iload_n 2, 1) := by decide +kernel
theorem d_Mo_round_323 : decode b_Mo_round 323 = .ok (.istore_n 3, 1) := by decide +kernel
theorem d_Mo_round_324 : decode b_Mo_round 324 = .ok (.iload_n 1, 1) := by decide +kernel
theorem d_Mo_round_325 : decode b_Mo_round 325 = .ok (.istore_n 2, 1) := by decide +kernel
theorem d_Mo_round_326 : decode b_Mo_round 326 = .ok (.iload 10, 2) := by decide +kernel
theorem d_Mo_round_328 : decode b_Mo_round 328 = .ok (.iload 11, 2) := by decide +kernel
theorem d_Mo_round_330 : decode b_Mo_round 330 = .ok (.iadd, 1) := by decide +kernel
theorem d_Mo_round_331 : decode b_Mo_round 331 = .ok (.istore_n 1, 1) := by decide +kernel
theorem d_Mo_round_332 : decode b_Mo_round 332 = .ok (.iinc 9 1, 3) := by decide +kernel
theorem d_Mo_round_335 : decode b_Mo_round 335 = .ok (.goto (-153), 3) := by decide +kernel
theorem d_Mo_round_338 : decode b_Mo_round 338 = .ok (.aload_n 0, 1) := by decide +kernel
theorem d_Mo_round_339 : decode b_Mo_round 339 = .ok (.getfield 100, 3) := by decide +kernel
theorem d_Mo_round_342 : decode b_Mo_round 342 = .ok (.iconst 0, 1) := by decide +kernel
theorem d_Mo_round_343 : decode b_Mo_round 343 = .ok (.dup2, 1) := by decide +kernel
theorem d_Mo_round_344 : decode b_Mo_round 344 = .ok (.iaload, 1) := by decide +kernel
theorem d_Mo_round_345 : decode b_Mo_round 345 = .ok (.iload_n 1, 1) := by decide +kernel
theorem d_Mo_round_346 : decode b_Mo_round 346 = .ok (.iadd, 1) := by decide +kernel
theorem d_Mo_round_347 : decode b_Mo_round 347 = .ok (.iastore, 1) := by decide +kernel
theorem d_Mo_round_348 : decode b_Mo_round 348 = .ok (.aload_n 0, 1) := by decide +kernel
theorem d_Mo_round_349 : decode b_Mo_round 349 = .ok (.getfield 100, 3) := by decide +kernel
theorem d_Mo_round_352 : decode b_Mo_round 352 = .ok (.iconst 1, 1) := by decide +kernel
theorem d_Mo_round_353 : decode b_Mo_round 353 = .ok (.dup2, 1) := by decide +kernel
theorem d_Mo_round_354 : decode b_Mo_round 354 = .ok (.iaload, 1) := by decide +kernel
theorem d_Mo_round_355 : decode b_Mo_round 355 = .ok (.iload_n 2, 1) := by decide +kernel
theorem d_Mo_round_356 : decode b_Mo_round 356 = .ok (.iadd, 1) := by decide +kernel
theorem d_Mo_round_357 : decode b_Mo_round 357 = .ok (.iastore, 1) := by decide +kernel
theorem d_Mo_round_358 : decode b_Mo_round 358 = .ok (.aload_n 0, 1) := by decide +kernel
theorem d_Mo_round_359 : decode b_Mo_round 359 = .ok (.getfield 100, 3) := by decide +kernel
theorem d_Mo_round_362 : decode b_Mo_round 362 = .ok (.iconst 2, 1) := by decide +kernel
theorem d_Mo_round_363 : decode b_Mo_round 363 = .ok (.dup2, 1) := by decide +kernel
theorem d_Mo_round_364 : decode b_Mo_round 364 = .ok (.iaload, 1) := by decide +kernel
theorem d_Mo_round_365 : decode b_Mo_round 365 = .ok (.iload_n 3, 1) := by decide +kernel
theorem d_Mo_round_366 : decode b_Mo_round 366 = .ok (.iadd, 1) := by decide +kernel
theorem d_Mo_round_367 : decode b_Mo_round 367 = .ok (.iastore, 1) := by decide +kernel
theorem d_Mo_round_368 : decode b_Mo_round 368 = .ok (.aload_n 0, 1) := by decide +kernel
theorem d_Mo_round_369 : decode b_Mo_round 369 = .ok (.getfield 100, 3) := by decide +kernel
theorem d_Mo_round_372 : decode b_Mo_round 372 = .ok (.iconst 3, 1) := by decide +kernel
theorem d_Mo_round_373 : decode b_Mo_round 373 = .ok (.dup2, 1) := by decide +kernel
theorem d_Mo_round_374 : decode b_Mo_round 374 = .ok (.iaload, 1) := by decide +kernel
theorem d_Mo_round_375 : decode b_Mo_round 375 = .ok (.iload 4, 2) := by decide +kernel
theorem d_Mo_round_377 : decode b_Mo_round 377 = .ok (.iadd, 1) := by decide +kernel
theorem d_Mo_round_378 : decode b_Mo_round 378 = .ok (.iastore, 1) := by decide +kernel
theorem d_Mo_round_379 : decode b_Mo_round 379 = .ok (.aload_n 0, 1) := by decide +kernel
theorem d_Mo_round_380 : decode b_Mo_round 380 = .ok (.getfield 100, 3) := by decide +kernel
theorem d_Mo_round_383 : decode b_Mo_round 383 = .ok (.iconst 4, 1) := by decide +kernel
theorem d_Mo_round_384 : decode b_Mo_round 384 = .ok (.dup2, 1) := by decide +kernel
theorem d_Mo_round_385 : decode b_Mo_round 385 = .ok (.iaload, 1) := by decide +kernel
theorem d_Mo_round_386 : decode b_Mo_round 386 = .ok (.iload 5, 2) := by decide +kernel
theorem d_Mo_round_388 : decode b_Mo_round 388 = .ok (.iadd, 1) := by decide +kernel
theorem d_Mo_round_389 : decode b_Mo_round 389 = .ok (.iastore, 1) := by decide +kernel
theorem d_Mo_round_390 : decode b_Mo_round 390 = .ok (.aload_n 0, 1) := by decide +kernel
theorem d_Mo_round_391 : decode b_Mo_round 391 = .ok (.getfield 100, 3) := by decide +kernel
theorem d_Mo_round_394 : decode b_Mo_round 394 = .ok (.iconst 5, 1) := by decide +kernel
theorem d_Mo_round_395 : decode b_Mo_round 395 = .ok (.dup2, 1) := by decide +kernel
theorem d_Mo_round_396 : decode b_Mo_round 396 = .ok (.iaload, 1) := by decide +kernel
theorem d_Mo_round_397 : decode b_Mo_round 397 = .ok (.iload 6, 2) := by decide +kernel
theorem d_Mo_round_399 : decode b_Mo_round 399 = .ok (.iadd, 1) := by decide +kernel
theorem d_Mo_round_400 : decode b_Mo_round 400 = .ok (.iastore, 1) := by decide +kernel
theorem d_Mo_round_401 : decode b_Mo_round 401 = .ok (.aload_n 0, 1) := by decide +kernel
theorem d_Mo_round_402 : decode b_Mo_round 402 = .ok (.getfield 100, 3) := by decide +kernel
theorem d_Mo_round_405 : decode b_Mo_round 405 = .ok (.bipush 6, 2) := by decide +kernel
theorem d_Mo_round_407 : decode b_Mo_round 407 = .ok (.dup2, 1) := by decide +kernel
theorem d_Mo_round_408 : decode b_Mo_round 408 = .ok (.iaload, 1) := by decide +kernel
theorem d_Mo_round_409 : decode b_Mo_round 409 = .ok (.iload 7, 2) := by decide +kernel
theorem d_Mo_round_411 : decode b_Mo_round 411 = .ok (.iadd, 1) := by decide +kernel
theorem d_Mo_round_412 : decode b_Mo_round 412 = .ok (.iastore, 1) := by decide +kernel
theorem d_Mo_round_413 : decode b_Mo_round 413 = .ok (.aload_n 0, 1) := by decide +kernel
theorem d_Mo_round_414 : decode b_Mo_round 414 = .ok (.getfield 100, 3) := by decide +kernel
theorem d_Mo_round_417 : decode b_Mo_round 417 = .ok (.bipush 7, 2) := by decide +kernel
theorem d_Mo_round_419 : decode b_Mo_round 419 = .ok (.dup2, 1) := by decide +kernel
theorem d_Mo_round_420 : decode b_Mo_round 420 = .ok (.iaload, 1) := by decide +kernel
theorem d_Mo_round_421 : decode b_Mo_round 421 = .ok (.iload 8, 2) := by decide +kernel
theorem d_Mo_round_423 : decode b_Mo_round 423 = .ok (.iadd, 1) := by decide +kernel
theorem d_Mo_round_424 : decode b_Mo_round 424 = .ok (.iastore, 1) := by decide +kernel
theorem d_Mo_round_425 : decode b_Mo_round 425 = .ok (.return_, 1) := by decide +kernel
theorem d_Mo_script_0 : decode b_Mo_script 0 = .ok (.aload_n 0, 1) := by decide +kernel
theorem d_Mo_script_1 : decode b_Mo_script 1 = .ok (.getfield 393, 3) := by decide +kernel
theorem d_Mo_script_4 : decode b_Mo_script 4 = .ok (.iconst 2, 1) := by decide +kernel
theorem d_Mo_script_5 : decode b_Mo_script 5 = .ok (.if_icmp .ne 12, 3) := by decide +kernel
theorem d_Mo_script_17 : decode b_Mo_script 17 = .ok (.iconst (-1), 1) := by decide +kernel
theorem d_Mo_script_18 : decode b_Mo_script 18 = .ok (.ireturn, 1) := by decide +kernel
theorem d_Mo_send_0 : decode b_Mo_send 0 = .ok (.aload_n 0, 1) := by decide +kernel
theorem d_Mo_send_1 : decode b_Mo_send 1 = .ok (.getfield 393, 3) := by decide +kernel
theorem d_Mo_send_4 : decode b_Mo_send 4 = .ok (.ifCond .ne 5, 3) := by decide +kernel
theorem d_Mo_send_7 : decode b_Mo_send 7 = .ok (.iconst (-1), 1) := by decide +kernel
theorem d_Mo_send_8 : decode b_Mo_send 8 = .ok (.ireturn, 1) := by decide +kernel
theorem d_Mo_setNumber_0 : decode b_Mo_setNumber 0 = .ok (.iconst 0, 1) := by decide +kernel
theorem d_Mo_setNumber_1 : decode b_Mo_setNumber 1 = .ok (.istore_n 3, 1) := by decide +kernel
theorem d_Mo_setNumber_2 : decode b_Mo_setNumber 2 = .ok (.iload_n 3, 1) := by decide +kernel
theorem d_Mo_setNumber_3 : decode b_Mo_setNumber 3 = .ok (.iconst 4, 1) := by decide +kernel
theorem d_Mo_setNumber_4 : decode b_Mo_setNumber 4 = .ok (.if_icmp .ge 27, 3) := by decide +kernel
theorem d_Mo_setNumber_7 : decode b_Mo_setNumber 7 = .ok (.aload_n 0, 1) := by decide +kernel
theorem d_Mo_setNumber_8 : decode b_Mo_setNumber 8 = .ok (.getfield 10, 3) := by decide +kernel
theorem d_Mo_setNumber_11 : decode b_Mo_setNumber 11 = .ok (.iload_n 1, 1) := by decide +kernel
theorem d_Mo_setNumber_12 : decode b_Mo_setNumber 12 = .ok (.iload_n 3, 1) := by decide +kernel
theorem d_Mo_setNumber_13 : decode b_Mo_setNumber 13 = .ok (.iadd, 1) := by decide +kernel
theorem d_Mo_setNumber_14 : decode b_Mo_setNumber 14 = .ok (.iload_n 2, 1) := by decide +kernel
theorem d_Mo_setNumber_15 : decode b_Mo_setNumber 15 = .ok (.bipush 24, 2) := by decide +kernel
theorem d_Mo_setNumber_17 : decode b_Mo_setNumber 17 = .ok (.bipush 8, 2) := by decide +kernel
theorem d_Mo_setNumber_19 : decode b_Mo_setNumber 19 = .ok (.iload_n 3, 1) := by decide +kernel
theorem d_Mo_setNumber_20 : decode b_Mo_setNumber 20 = .ok (.imul, 1) := by decide +kernel
theorem d_Mo_setNumber_21 : decode b_Mo_setNumber 21 = .ok (.isub, 1) := by decide +kernel
theorem d_Mo_setNumber_22 : decode b_Mo_setNumber 22 = .ok (.ishr, 1) := by decide +kernel
theorem d_Mo_setNumber_23 : decode b_Mo_setNumber 23 = .ok (.i2b, 1) := by decide +kernel
theorem d_Mo_setNumber_24 : decode b_Mo_setNumber 24 = .ok (.bastore, 1) := by decide +kernel
theorem d_Mo_setNumber_25 : decode b_Mo_setNumber 25 = .ok (.iinc 3 1, 3) := by decide +kernel
theorem d_Mo_setNumber_28 : decode b_Mo_setNumber 28 = .ok (.goto (-26), 3) := by decide +kernel
theorem d_Mo_setNumber_31 : decode b_Mo_setNumber 31 = .ok (.return_, 1) := by decide +kernel
theorem d_Mo_sha_0 : decode b_Mo_sha 0 = .ok (.iconst 0, 1) := by decide +kernel
theorem d_Mo_sha_1 : decode b_Mo_sha 1 = .ok (.istore 6, 2) := by decide +kernel
theorem d_Mo_sha_3 : decode b_Mo_sha 3 = .ok (.iload 6, 2) := by decide +kernel
theorem d_Mo_sha_5 : decode b_Mo_sha 5 = .ok (.bipush 8, 2) := by decide +kernel
theorem d_Mo_sha_7 : decode b_Mo_sha 7 = .ok (.if_icmp .ge 22, 3) := by decide +kernel
theorem d_Mo_sha_10 : decode b_Mo_sha 10 = .ok (.aload_n 0, 1) := by decide +kernel
theorem d_Mo_sha_11 : decode b_Mo_sha 11 = .ok (.getfield 100, 3) := by decide +kernel
theorem d_Mo_sha_14 : decode b_Mo_sha 14 = .ok (.iload 6, 2) := by decide +kernel
theorem d_Mo_sha_16 : decode b_Mo_sha 16 = .ok (.getstatic 153, 3) := by decide +kernel
theorem d_Mo_sha_19 : decode b_Mo_sha 19 = .ok (.iload 6, 2) := by decide +kernel
theorem d_Mo_sha_21 : decode b_Mo_sha 21 = .ok (.iaload, 1) := by decide +kernel
theorem d_Mo_sha_22 : decode b_Mo_sha 22 = .ok (.iastore, 1) := by decide +kernel
theorem d_Mo_sha_23 : decode b_Mo_sha 23 = .ok (.iinc 6 1, 3) := by decide +kernel
theorem d_Mo_sha_26 : decode b_Mo_sha 26 = .ok (.goto (-23), 3) := by decide +kernel
theorem d_Mo_sha_29 : decode b_Mo_sha 29 = .ok (.iload_n 3, 1) := by decide +kernel
theorem d_Mo_sha_30 : decode b_Mo_sha 30 = .ok (.bipush 9, 2) := by decide +kernel
theorem d_Mo_sha_32 : decode b_Mo_sha 32 = .ok (.iadd, 1) := by decide +kernel
theorem d_Mo_sha_33 : decode b_Mo_sha 33 = .ok (.bipush 63, 2) := by decide +kernel
theorem d_Mo_sha_35 : decode b_Mo_sha 35 = .ok (.iadd, 1) := by decide +kernel
theorem d_Mo_sha_36 : decode b_Mo_sha 36 = .ok (.bipush 64, 2) := by decide +kernel
theorem d_Mo_sha_38 : decode b_Mo_sha 38 = .ok (.idiv, 1) := by decide +kernel
theorem d_Mo_sha_39 : decode b_Mo_sha 39 = .ok (.bipush 64, 2) := by decide +kernel
theorem d_Mo_sha_41 : decode b_Mo_sha 41 = .ok (.imul, 1) := by decide +kernel
theorem d_Mo_sha_42 : decode b_Mo_sha 42 = .ok (.istore 6, 2) := by decide +kernel
theorem d_Mo_sha_44 : decode b_Mo_sha 44 = .ok (.iconst 0, 1) := by decide +kernel
theorem d_Mo_sha_45 : decode b_Mo_sha 45 = .ok (.istore 7, 2) := by decide +kernel
theorem d_Mo_sha_47 : decode b_Mo_sha 47 = .ok (.iload 7, 2) := by decide +kernel
theorem d_Mo_sha_49 : decode b_Mo_sha 49 = .ok (.iload 6, 2) := by decide +kernel
theorem d_Mo_sha_51 : decode b_Mo_sha 51 = .ok (.if_icmp .ge 146, 3) := by decide +kernel
theorem d_Mo_sha_54 : decode b_Mo_sha 54 = .ok (.iconst 0, 1) := by decide +kernel
theorem d_Mo_sha_55 : decode b_Mo_sha 55 = .ok (.istore 8, 2) := by decide +kernel
theorem d_Mo_sha_57 : decode b_Mo_sha 57 = .ok (.iload 8, 2) := by decide +kernel
theorem d_Mo_sha_59 : decode b_Mo_sha 59 = .ok (.bipush 16, 2) := by decide +kernel
theorem d_Mo_sha_61 : decode b_Mo_sha 61 = .ok (.if_icmp .ge 126, 3) := by decide +kernel
theorem d_Mo_sha_64 : decode b_Mo_sha 64 = .ok (.iconst 0, 1) := by decide +kernel
theorem d_Mo_sha_65 : decode b_Mo_sha 65 = .ok (.istore 9, 2) := by decide +kernel
theorem d_Mo_sha_67 : decode b_Mo_sha 67 = .ok (.iconst 0, 1) := by decide +kernel
theorem d_Mo_sha_68 : decode b_Mo_sha 68 = .ok (.istore 10, 2) := by decide +kernel
theorem d_Mo_sha_70 : decode b_Mo_sha 70 = .ok (.iload 10, 2) := by decide +kernel
theorem d_Mo_sha_72 : decode b_Mo_sha 72 = .ok (.iconst 4, 1) := by decide +kernel
theorem d_Mo_sha_73 : decode b_Mo_sha 73 = .ok (.if_icmp .ge 99, 3) := by decide +kernel
theorem d_Mo_sha_76 : decode b_Mo_sha 76 = .ok (.iload 7, 2) := by decide +kernel
theorem d_Mo_sha_78 : decode b_Mo_sha 78 = .ok (.iconst 4, 1) := by decide +kernel
theorem d_Mo_sha_79 : decode b_Mo_sha 79 = .ok (.iload 8, 2) := by decide +kernel
theorem d_Mo_sha_81 : decode b_Mo_sha 81 = .ok (.imul, 1) := by decide +kernel
theorem d_Mo_sha_82 : decode b_Mo_sha 82 = .ok (.iadd, 1) := by decide +kernel
theorem d_Mo_sha_83 : decode b_Mo_sha 83 = .ok (.iload 10, 2) := by decide +kernel
theorem d_Mo_sha_85 : decode b_Mo_sha 85 = .ok (.iadd, 1) := by decide +kernel
theorem d_Mo_sha_86 : decode b_Mo_sha 86 = .ok (.istore 11, 2) := by decide +kernel
theorem d_Mo_sha_88 : decode b_Mo_sha 88 = .ok (.iload 11, 2) := by decide +kernel
theorem d_Mo_sha_90 : decode b_Mo_sha 90 = .ok (.iload_n 3, 1) := by decide +kernel
theorem d_Mo_sha_91 : decode b_Mo_sha 91 = .ok (.if_icmp .ge 16, 3) := by decide +kernel
theorem d_Mo_sha_94 : decode b_Mo_sha 94 = .ok (.aload_n 1, 1) := by decide +kernel
theorem d_Mo_sha_95 : decode b_Mo_sha 95 = .ok (.iload_n 2, 1) := by decide +kernel
theorem d_Mo_sha_96 : decode b_Mo_sha 96 = .ok (.iload 11, 2) := by decide +kernel
theorem d_Mo_sha_98 : decode b_Mo_sha 98 = .ok (.iadd, 1) := by decide +kernel
theorem d_Mo_sha_99 : decode b_Mo_sha 99 = .ok (.baload, 1) := by decide +kernel
theorem d_Mo_sha_100 : decode b_Mo_sha 100 = .ok (.sipush 255, 3) := by decide +kernel
theorem d_Mo_sha_103 : decode b_Mo_sha 103 = .ok (.iand, 1) := by decide +kernel
theorem d_Mo_sha_104 : decode b_Mo_sha 104 = .ok (.goto 16, 3) := by decide +kernel
theorem d_Mo_sha_107 : decode b_Mo_sha 107 = .ok (.iload 11, 2) := by decide +kernel
theorem d_Mo_sha_109 : decode b_Mo_sha 109 = .ok (.iload_n 3, 1) := by decide +kernel
theorem d_Mo_sha_110 : decode b_Mo_sha 110 = .ok (.if_icmp .ne 9, 3) := by decide +kernel
theorem d_Mo_sha_113 : decode b_Mo_sha 113 = .ok (.sipush 128, 3) := by decide +kernel
theorem d_Mo_sha_116 : decode b_Mo_sha 116 = .ok (.goto 4, 3) := by decide +kernel
theorem d_Mo_sha_119 : decode b_Mo_sha 119 = .ok (.iconst 0, 1) := by decide +kernel
theorem d_Mo_sha_120 : decode b_Mo_sha 120 = .ok (.istore 12, 2) := by decide +kernel
theorem d_Mo_sha_122 : decode b_Mo_sha 122 = .ok (.iload 11, 2) := by decide +kernel
theorem d_Mo_sha_124 : decode b_Mo_sha 124 = .ok (.iload 6, 2) := by decide +kernel
theorem d_Mo_sha_126 : decode b_Mo_sha 126 = .ok (.bipush 8, 2) := by decide +kernel
theorem d_Mo_sha_128 : decode b_Mo_sha 128 = .ok (.isub, 1) := by decide +kernel
theorem d_Mo_sha_129 : decode b_Mo_sha 129 = .ok (.if_icmp .lt 27, 3) := by decide +kernel
theorem d_Mo_sha_132 : decode b_Mo_sha 132 = .ok (.iload_n 3, 1) := by decide +kernel
theorem d_Mo_sha_133 : decode b_Mo_sha 133 = .ok (.i2l, 1) := by decide +kernel
theorem d_Mo_sha_134 : decode b_Mo_sha 134 = .ok (.ldc2_w 156, 3) := by decide +kernel
theorem d_Mo_sha_137 : decode b_Mo_sha 137 = .ok (.lmul, 1) := by decide +kernel
theorem d_Mo_sha_138 : decode b_Mo_sha 138 = .ok (.bipush 8, 2) := by decide +kernel
theorem d_Mo_sha_140 : decode b_Mo_sha 140 = .ok (.iload 6, 2) := by decide +kernel
theorem d_Mo_sha_142 : decode b_Mo_sha 142 = .ok (.iconst 1, 1) := by decide +kernel
theorem d_Mo_sha_143 : decode b_Mo_sha 143 = .ok (.isub, 1) := by decide +kernel
theorem d_Mo_sha_144 : decode b_Mo_sha 144 = .ok (.iload 11, 2) := by decide +kernel
theorem d_Mo_sha_146 : decode b_Mo_sha 146 = .ok (.isub, 1) := by decide +kernel
theorem d_Mo_sha_147 : decode b_Mo_sha 147 = .ok (.imul, 1) := by decide +kernel
theorem d_Mo_sha_148 : decode b_Mo_sha 148 = .ok (.lushr, 1) := by decide +kernel
theorem d_Mo_sha_149 : decode b_Mo_sha 149 = .ok (.l2i, 1) := by decide +kernel
theorem d_Mo_sha_150 : decode b_Mo_sha 150 = .ok (.sipush 255, 3) := by decide +kernel
theorem d_Mo_sha_153 : decode b_Mo_sha 153 = .ok (.iand, 1) := by decide +kernel
theorem d_Mo_sha_154 : decode b_Mo_sha 154 = .ok (.istore 12, 2) := by decide +kernel
theorem d_Mo_sha_156 : decode b_Mo_sha 156 = .ok (.iload 9, 2) := by decide +kernel
theorem d_Mo_sha_158 : decode b_Mo_sha 158 = .ok (.bipush 8, 2) := by decide +kernel
theorem d_Mo_sha_160 : decode b_Mo_sha 160 = .ok (.ishl, 1) := by decide +kernel
theorem d_Mo_sha_161 : decode b_Mo_sha 161 = .ok (.iload 12, 2) := by decide +kernel
theorem d_Mo_sha_163 : decode b_Mo_sha 163 = .ok (.ior, 1) := by decide +kernel
theorem d_Mo_sha_164 : decode b_Mo_sha 164 = .ok (.istore 9, 2) := by decide +kernel
theorem d_Mo_sha_166 : decode b_Mo_sha 166 = .ok (.iinc 10 1, 3) := by decide +kernel
theorem d_Mo_sha_169 : decode b_Mo_sha 169 = .ok (.goto (-99), 3) := by decide +kernel
theorem d_Mo_sha_172 : decode b_Mo_sha 172 = .ok (.aload_n 0, 1) := by decide +kernel
theorem d_Mo_sha_173 : decode b_Mo_sha 173 = .ok (.getfield 97, 3) := by decide +kernel
theorem d_Mo_sha_176 : decode b_Mo_sha 176 = .ok (.iload 8, 2) := by decide +kernel
theorem d_Mo_sha_178 : decode b_Mo_sha 178 = .ok (.iload 9, 2) := by decide +kernel
theorem d_Mo_sha_180 : decode b_Mo_sha 180 = .ok (.iastore, 1) := by decide +kernel
theorem d_Mo_sha_181 : decode b_Mo_sha 181 = .ok (.iinc 8 1, 3) := by decide +kernel
theorem d_Mo_sha_184 : decode b_Mo_sha 184 = .ok (.goto (-127), 3) := by decide +kernel
theorem d_Mo_sha_187 : decode b_Mo_sha 187 = .ok (.aload_n 0, 1) := by decide +kernel
theorem d_Mo_sha_188 : decode b_Mo_sha 188 = .ok (.invokevirtual 158, 3) := by decide +kernel
theorem d_Mo_sha_191 : decode b_Mo_sha 191 = .ok (.iinc 7 64, 3) := by decide +kernel
theorem d_Mo_sha_194 : decode b_Mo_sha 194 = .ok (.goto (-147), 3) := by decide +kernel
theorem d_Mo_sha_197 : decode b_Mo_sha 197 = .ok (.iconst 0, 1) := by decide +kernel
theorem d_Mo_sha_198 : decode b_Mo_sha 198 = .ok (.istore 7, 2) := by decide +kernel
theorem d_Mo_sha_200 : decode b_Mo_sha 200 = .ok (.iload 7, 2) := by decide +kernel
theorem d_Mo_sha_202 : decode b_Mo_sha 202 = .ok (.bipush 32, 2) := by decide +kernel
theorem d_Mo_sha_204 : decode b_Mo_sha 204 = .ok (.if_icmp .ge 38, 3) := by decide +kernel
theorem d_Mo_sha_207 : decode b_Mo_sha 207 = .ok (.aload 4, 2) := by decide +kernel
theorem d_Mo_sha_209 : decode b_Mo_sha 209 = .ok (.iload 5, 2) := by decide +kernel
theorem d_Mo_sha_211 : decode b_Mo_sha 211 = .ok (.iload 7, 2) := by decide +kernel
theorem d_Mo_sha_213 : decode b_Mo_sha 213 = .ok (.iadd, 1) := by decide +kernel
theorem d_Mo_sha_214 : decode b_Mo_sha 214 = .ok (.aload_n 0, 1) := by decide +kernel
theorem d_Mo_sha_215 : decode b_Mo_sha 215 = .ok (.getfield 100, 3) := by decide +kernel
theorem d_Mo_sha_218 : decode b_Mo_sha 218 = .ok (.iload 7, 2) := by decide +kernel
theorem d_Mo_sha_220 : decode b_Mo_sha 220 = .ok (.iconst 4, 1) := by decide +kernel
theorem d_Mo_sha_221 : decode b_Mo_sha 221 = .ok (.idiv, 1) := by decide +kernel
theorem d_Mo_sha_222 : decode b_Mo_sha 222 = .ok (.iaload, 1) := by decide +kernel
theorem d_Mo_sha_223 : decode b_Mo_sha 223 = .ok (.bipush 24, 2) := by decide +kernel
theorem d_Mo_sha_225 : decode b_Mo_sha 225 = .ok (.bipush 8, 2) := by decide +kernel
theorem d_Mo_sha_227 : decode b_Mo_sha 227 = .ok (.iload 7, 2) := by decide +kernel
theorem d_Mo_sha_229 : decode b_Mo_sha 229 = .ok (.iconst 4, 1) := by decide +kernel
theorem d_Mo_sha_230 : decode b_Mo_sha 230 = .ok (.irem, 1) := by decide +kernel
theorem d_Mo_sha_231 : decode b_Mo_sha 231 = .ok (.imul, 1) := by decide +kernel
theorem d_Mo_sha_232 : decode b_Mo_sha 232 = .ok (.isub, 1) := by decide +kernel
theorem d_Mo_sha_233 : decode b_Mo_sha 233 = .ok (.iushr, 1) := by decide +kernel
theorem d_Mo_sha_234 : decode b_Mo_sha 234 = .ok (.i2b, 1) := by decide +kernel
theorem d_Mo_sha_235 : decode b_Mo_sha 235 = .ok (.bastore, 1) := by decide +kernel
theorem d_Mo_sha_236 : decode b_Mo_sha 236 = .ok (.iinc 7 1, 3) := by decide +kernel
theorem d_Mo_sha_239 : decode b_Mo_sha 239 = .ok (.goto (-39), 3) := by decide +kernel
theorem d_Mo_sha_242 : decode b_Mo_sha 242 = .ok (.return_, 1) := by decide +kernel
theorem d_Mo_sign_0 : decode b_Mo_sign 0 = .ok (.aload_n 0, 1) := by decide +kernel
theorem d_Mo_sign_1 : decode b_Mo_sign 1 = .ok (.getfield 393, 3) := by decide +kernel
theorem d_Mo_sign_4 : decode b_Mo_sign 4 = .ok (.iconst 2, 1) := by decide +kernel
theorem d_Mo_sign_5 : decode b_Mo_sign 5 = .ok (.if_icmp .eq 5, 3) := by decide +kernel
theorem d_Mo_sign_8 : decode b_Mo_sign 8 = .ok (.iconst (-1), 1) := by decide +kernel
theorem d_Mo_sign_9 : decode b_Mo_sign 9 = .ok (.ireturn, 1) := by decide +kernel
theorem d_Mo_spend_0 : decode b_Mo_spend 0 = .ok (.iload_n 2, 1) := by decide +kernel
theorem d_Mo_spend_1 : decode b_Mo_spend 1 = .ok (.iconst 1, 1) := by decide +kernel
theorem d_Mo_spend_2 : decode b_Mo_spend 2 = .ok (.if_icmp .lt 36, 3) := by decide +kernel
theorem d_Mo_spend_5 : decode b_Mo_spend 5 = .ok (.iload_n 2, 1) := by decide +kernel
theorem d_Mo_spend_6 : decode b_Mo_spend 6 = .ok (.bipush 8, 2) := by decide +kernel
theorem d_Mo_spend_8 : decode b_Mo_spend 8 = .ok (.if_icmp .gt 30, 3) := by decide +kernel
theorem d_Mo_spend_11 : decode b_Mo_spend 11 = .ok (.iload_n 1, 1) := by decide +kernel
theorem d_Mo_spend_12 : decode b_Mo_spend 12 = .ok (.ifCond .lt 26, 3) := by decide +kernel
theorem d_Mo_spend_15 : decode b_Mo_spend 15 = .ok (.iload_n 1, 1) := by decide +kernel
theorem d_Mo_spend_16 : decode b_Mo_spend 16 = .ok (.aload_n 0, 1) := by decide +kernel
theorem d_Mo_spend_17 : decode b_Mo_spend 17 = .ok (.getfield 130, 3) := by decide +kernel
theorem d_Mo_spend_20 : decode b_Mo_spend 20 = .ok (.getfield 232, 3) := by decide +kernel
theorem d_Mo_spend_23 : decode b_Mo_spend 23 = .ok (.iload_n 2, 1) := by decide +kernel
theorem d_Mo_spend_24 : decode b_Mo_spend 24 = .ok (.isub, 1) := by decide +kernel
theorem d_Mo_spend_25 : decode b_Mo_spend 25 = .ok (.if_icmp .gt 13, 3) := by decide +kernel
theorem d_Mo_spend_38 : decode b_Mo_spend 38 = .ok (.iconst (-1), 1) := by decide +kernel
theorem d_Mo_spend_39 : decode b_Mo_spend 39 = .ok (.ireturn, 1) := by decide +kernel
theorem d_Mo_standard_0 : decode b_Mo_standard 0 = .ok (.aload_n 0, 1) := by decide +kernel
theorem d_Mo_standard_1 : decode b_Mo_standard 1 = .ok (.getfield 10, 3) := by decide +kernel
theorem d_Mo_standard_4 : decode b_Mo_standard 4 = .ok (.iload_n 1, 1) := by decide +kernel
theorem d_Mo_standard_5 : decode b_Mo_standard 5 = .ok (.bipush 6, 2) := by decide +kernel
theorem d_Mo_standard_7 : decode b_Mo_standard 7 = .ok (.bastore, 1) := by decide +kernel
theorem d_Mo_standard_8 : decode b_Mo_standard 8 = .ok (.aload_n 0, 1) := by decide +kernel
theorem d_Mo_standard_9 : decode b_Mo_standard 9 = .ok (.getfield 10, 3) := by decide +kernel
theorem d_Mo_standard_12 : decode b_Mo_standard 12 = .ok (.iload_n 1, 1) := by decide +kernel
theorem d_Mo_standard_13 : decode b_Mo_standard 13 = .ok (.iconst 1, 1) := by decide +kernel
theorem d_Mo_standard_14 : decode b_Mo_standard 14 = .ok (.iadd, 1) := by decide +kernel
theorem d_Mo_standard_15 : decode b_Mo_standard 15 = .ok (.iconst 4, 1) := by decide +kernel
theorem d_Mo_standard_16 : decode b_Mo_standard 16 = .ok (.bastore, 1) := by decide +kernel
theorem d_Mo_standard_17 : decode b_Mo_standard 17 = .ok (.aload_n 0, 1) := by decide +kernel
theorem d_Mo_standard_18 : decode b_Mo_standard 18 = .ok (.iload_n 1, 1) := by decide +kernel
theorem d_Mo_standard_19 : decode b_Mo_standard 19 = .ok (.iconst 2, 1) := by decide +kernel
theorem d_Mo_standard_20 : decode b_Mo_standard 20 = .ok (.iadd, 1) := by decide +kernel
theorem d_Mo_standard_21 : decode b_Mo_standard 21 = .ok (.iload_n 2, 1) := by decide +kernel
theorem d_Mo_standard_22 : decode b_Mo_standard 22 = .ok (.invokevirtual 371, 3) := by decide +kernel
theorem d_Mo_standard_25 : decode b_Mo_standard 25 = .ok (.aload_n 0, 1) := by decide +kernel
theorem d_Mo_standard_26 : decode b_Mo_standard 26 = .ok (.getfield 10, 3) := by decide +kernel
theorem d_Mo_standard_29 : decode b_Mo_standard 29 = .ok (.iload_n 1, 1) := by decide +kernel
theorem d_Mo_standard_30 : decode b_Mo_standard 30 = .ok (.bipush 6, 2) := by decide +kernel
theorem d_Mo_standard_32 : decode b_Mo_standard 32 = .ok (.iadd, 1) := by decide +kernel
theorem d_Mo_standard_33 : decode b_Mo_standard 33 = .ok (.bipush 95, 2) := by decide +kernel
theorem d_Mo_standard_35 : decode b_Mo_standard 35 = .ok (.bastore, 1) := by decide +kernel
theorem d_Mo_standard_36 : decode b_Mo_standard 36 = .ok (.iload_n 1, 1) := by decide +kernel
theorem d_Mo_standard_37 : decode b_Mo_standard 37 = .ok (.bipush 7, 2) := by decide +kernel
theorem d_Mo_standard_39 : decode b_Mo_standard 39 = .ok (.iadd, 1) := by decide +kernel
theorem d_Mo_standard_40 : decode b_Mo_standard 40 = .ok (.ireturn, 1) := by decide +kernel
theorem d_Mo_stored_0 : decode b_Mo_stored 0 = .ok (.iload_n 2, 1) := by decide +kernel
theorem d_Mo_stored_1 : decode b_Mo_stored 1 = .ok (.ifCond .lt 8, 3) := by decide +kernel
theorem d_Mo_stored_4 : decode b_Mo_stored 4 = .ok (.iload_n 2, 1) := by decide +kernel
theorem d_Mo_stored_5 : decode b_Mo_stored 5 = .ok (.iconst 5, 1) := by decide +kernel
theorem d_Mo_stored_6 : decode b_Mo_stored 6 = .ok (.if_icmp .le 5, 3) := by decide +kernel
theorem d_Mo_stored_9 : decode b_Mo_stored 9 = .ok (.iconst (-1), 1) := by decide +kernel
theorem d_Mo_stored_10 : decode b_Mo_stored 10 = .ok (.ireturn, 1) := by decide +kernel
theorem d_Mo_stored_11 : decode b_Mo_stored 11 = .ok (.iload_n 1, 1) := by decide +kernel
theorem d_Mo_stored_12 : decode b_Mo_stored 12 = .ok (.ifCond .lt 11, 3) := by decide +kernel
theorem d_Mo_stored_15 : decode b_Mo_stored 15 = .ok (.iload_n 1, 1) := by decide +kernel
theorem d_Mo_stored_16 : decode b_Mo_stored 16 = .ok (.aload_n 0, 1) := by decide +kernel
theorem d_Mo_stored_17 : decode b_Mo_stored 17 = .ok (.getfield 53, 3) := by decide +kernel
theorem d_Mo_stored_20 : decode b_Mo_stored 20 = .ok (.if_icmp .lt 6, 3) := by decide +kernel
theorem d_Mo_stored_23 : decode b_Mo_stored 23 = .ok (.bipush (-2), 2) := by decide +kernel
theorem d_Mo_stored_25 : decode b_Mo_stored 25 = .ok (.ireturn, 1) := by decide +kernel
theorem d_Mo_stored_26 : decode b_Mo_stored 26 = .ok (.iload_n 2, 1) := by decide +kernel
theorem d_Mo_stored_27 : decode b_Mo_stored 27 = .ok (.tableswitch 68 0 4 #[33, 40, 47, 54, 61], 33) := by decide +kernel
theorem d_Mo_stored_60 : decode b_Mo_stored 60 = .ok (.aload_n 0, 1) := by decide +kernel
theorem d_Mo_stored_61 : decode b_Mo_stored 61 = .ok (.getfield 24, 3) := by decide +kernel
theorem d_Mo_stored_64 : decode b_Mo_stored 64 = .ok (.iload_n 1, 1) := by decide +kernel
theorem d_Mo_stored_65 : decode b_Mo_stored 65 = .ok (.iaload, 1) := by decide +kernel
theorem d_Mo_stored_66 : decode b_Mo_stored 66 = .ok (.ireturn, 1) := by decide +kernel
theorem d_Mo_stored_67 : decode b_Mo_stored 67 = .ok (.aload_n 0, 1) := by decide +kernel
theorem d_Mo_stored_68 : decode b_Mo_stored 68 = .ok (.getfield 21, 3) := by decide +kernel
theorem d_Mo_stored_71 : decode b_Mo_stored 71 = .ok (.iload_n 1, 1) := by decide +kernel
theorem d_Mo_stored_72 : decode b_Mo_stored 72 = .ok (.iaload, 1) := by decide +kernel
theorem d_Mo_stored_73 : decode b_Mo_stored 73 = .ok (.ireturn, 1) := by decide +kernel
theorem d_Mo_stored_74 : decode b_Mo_stored 74 = .ok (.aload_n 0, 1) := by decide +kernel
theorem d_Mo_stored_75 : decode b_Mo_stored 75 = .ok (.getfield 27, 3) := by decide +kernel
theorem d_Mo_stored_78 : decode b_Mo_stored 78 = .ok (.iload_n 1, 1) := by decide +kernel
theorem d_Mo_stored_79 : decode b_Mo_stored 79 = .ok (.iaload, 1) := by decide +kernel
theorem d_Mo_stored_80 : decode b_Mo_stored 80 = .ok (.ireturn, 1) := by decide +kernel
theorem d_Mo_stored_81 : decode b_Mo_stored 81 = .ok (.aload_n 0, 1) := by decide +kernel
theorem d_Mo_stored_82 : decode b_Mo_stored 82 = .ok (.getfield 30, 3) := by decide +kernel
theorem d_Mo_stored_85 : decode b_Mo_stored 85 = .ok (.iload_n 1, 1) := by decide +kernel
theorem d_Mo_stored_86 : decode b_Mo_stored 86 = .ok (.iaload, 1) := by decide +kernel
theorem d_Mo_stored_87 : decode b_Mo_stored 87 = .ok (.ireturn, 1) := by decide +kernel
theorem d_Mo_stored_88 : decode b_Mo_stored 88 = .ok (.aload_n 0, 1) := by decide +kernel
theorem d_Mo_stored_89 : decode b_Mo_stored 89 = .ok (.getfield 47, 3) := by decide +kernel
theorem d_Mo_stored_92 : decode b_Mo_stored 92 = .ok (.iload_n 1, 1) := by decide +kernel
theorem d_Mo_stored_93 : decode b_Mo_stored 93 = .ok (.iaload, 1) := by decide +kernel
theorem d_Mo_stored_94 : decode b_Mo_stored 94 = .ok (.ireturn, 1) := by decide +kernel
theorem d_Mo_stored_95 : decode b_Mo_stored 95 = .ok (.aload_n 0, 1) := by decide +kernel
theorem d_Mo_stored_96 : decode b_Mo_stored 96 = .ok (.getfield 24, 3) := by decide +kernel
theorem d_Mo_stored_99 : decode b_Mo_stored 99 = .ok (.iload_n 1, 1) := by decide +kernel
theorem d_Mo_stored_100 : decode b_Mo_stored 100 = .ok (.iaload, 1) := by decide +kernel
theorem d_Mo_stored_101 : decode b_Mo_stored 101 = .ok (.aload_n 0, 1) := by decide +kernel
theorem d_Mo_stored_102 : decode b_Mo_stored 102 = .ok (.getfield 24, 3) := by decide +kernel
theorem d_Mo_stored_105 : decode b_Mo_stored 105 = .ok (.aload_n 0, 1) := by decide +kernel
theorem d_Mo_stored_106 : decode b_Mo_stored 106 = .ok (.getfield 328, 3) := by decide +kernel
theorem d_Mo_stored_109 : decode b_Mo_stored 109 = .ok (.iaload, 1) := by decide +kernel
theorem d_Mo_stored_110 : decode b_Mo_stored 110 = .ok (.if_icmp .gt 19, 3) := by decide +kernel
theorem d_Mo_stored_113 : decode b_Mo_stored 113 = .ok (.aload_n 0, 1) := by decide +kernel
theorem d_Mo_stored_114 : decode b_Mo_stored 114 = .ok (.iload_n 1, 1) := by decide +kernel
theorem d_Mo_stored_115 : decode b_Mo_stored 115 = .ok (.aload_n 0, 1) := by decide +kernel
theorem d_Mo_stored_116 : decode b_Mo_stored 116 = .ok (.getfield 328, 3) := by decide +kernel
theorem d_Mo_stored_119 : decode b_Mo_stored 119 = .ok (.invokevirtual 357, 3) := by decide +kernel
theorem d_Mo_stored_122 : decode b_Mo_stored 122 = .ok (.ifCond .eq 7, 3) := by decide +kernel
theorem d_Mo_stored_125 : decode b_Mo_stored 125 = .ok (.iconst 1, 1) := by decide +kernel
theorem d_Mo_stored_126 : decode b_Mo_stored 126 = .ok (.goto 4, 3) := by decide +kernel
theorem d_Mo_stored_130 : decode b_Mo_stored 130 = .ok (.ireturn, 1) := by decide +kernel
theorem d_Mo_tip_0 : decode b_Mo_tip 0 = .ok (.iload_n 1, 1) := by decide +kernel
theorem d_Mo_tip_1 : decode b_Mo_tip 1 = .ok (.tableswitch 103 0 3 #[31, 42, 48, 58], 31) := by decide +kernel
theorem d_Mo_tip_32 : decode b_Mo_tip 32 = .ok (.aload_n 0, 1) := by decide +kernel
theorem d_Mo_tip_33 : decode b_Mo_tip 33 = .ok (.getfield 24, 3) := by decide +kernel
theorem d_Mo_tip_36 : decode b_Mo_tip 36 = .ok (.aload_n 0, 1) := by decide +kernel
theorem d_Mo_tip_37 : decode b_Mo_tip 37 = .ok (.getfield 328, 3) := by decide +kernel
theorem d_Mo_tip_40 : decode b_Mo_tip 40 = .ok (.iaload, 1) := by decide +kernel
theorem d_Mo_tip_41 : decode b_Mo_tip 41 = .ok (.i2l, 1) := by decide +kernel
theorem d_Mo_tip_42 : decode b_Mo_tip 42 = .ok (.lreturn, 1) := by decide +kernel
theorem d_Mo_tip_43 : decode b_Mo_tip 43 = .ok (.aload_n 0, 1) := by decide +kernel
theorem d_Mo_tip_44 : decode b_Mo_tip 44 = .ok (.getfield 328, 3) := by decide +kernel
theorem d_Mo_tip_47 : decode b_Mo_tip 47 = .ok (.i2l, 1) := by decide +kernel
theorem d_Mo_tip_48 : decode b_Mo_tip 48 = .ok (.lreturn, 1) := by decide +kernel
theorem d_Mo_tip_49 : decode b_Mo_tip 49 = .ok (.aload_n 0, 1) := by decide +kernel
theorem d_Mo_tip_50 : decode b_Mo_tip 50 = .ok (.getfield 33, 3) := by decide +kernel
theorem d_Mo_tip_53 : decode b_Mo_tip 53 = .ok (.aload_n 0, 1) := by decide +kernel
theorem d_Mo_tip_54 : decode b_Mo_tip 54 = .ok (.getfield 328, 3) := by decide +kernel
theorem d_Mo_tip_57 : decode b_Mo_tip 57 = .ok (.laload, 1) := by decide +kernel
theorem d_Mo_tip_58 : decode b_Mo_tip 58 = .ok (.lreturn, 1) := by decide +kernel
theorem d_Mo_tip_59 : decode b_Mo_tip 59 = .ok (.lconst 0, 1) := by decide +kernel
theorem d_Mo_tip_60 : decode b_Mo_tip 60 = .ok (.lstore_n 2, 1) := by decide +kernel
theorem d_Mo_tip_61 : decode b_Mo_tip 61 = .ok (.iconst 0, 1) := by decide +kernel
theorem d_Mo_tip_62 : decode b_Mo_tip 62 = .ok (.istore 4, 2) := by decide +kernel
theorem d_Mo_tip_64 : decode b_Mo_tip 64 = .ok (.iload 4, 2) := by decide +kernel
theorem d_Mo_tip_66 : decode b_Mo_tip 66 = .ok (.iconst 4, 1) := by decide +kernel
theorem d_Mo_tip_67 : decode b_Mo_tip 67 = .ok (.if_icmp .ge 35, 3) := by decide +kernel
theorem d_Mo_tip_70 : decode b_Mo_tip 70 = .ok (.lload_n 2, 1) := by decide +kernel
theorem d_Mo_tip_71 : decode b_Mo_tip 71 = .ok (.bipush 8, 2) := by decide +kernel
end
section
theorem d_Mo_tip_73 : decode b_Mo_tip 73 = .ok (.lshl, 1) := by decide +kernel
theorem d_Mo_tip_74 : decode b_Mo_tip 74 = .ok (.aload_n 0, 1) := by decide +kernel
theorem d_Mo_tip_75 : decode b_Mo_tip 75 = .ok (.getfield 50, 3) := by decide +kernel
theorem d_Mo_tip_78 : decode b_Mo_tip 78 = .ok (.bipush 32, 2) := by decide +kernel
theorem d_Mo_tip_80 : decode b_Mo_tip 80 = .ok (.aload_n 0, 1) := by decide +kernel
theorem d_Mo_tip_81 : decode b_Mo_tip 81 = .ok (.getfield 328, 3) := by decide +kernel
theorem d_Mo_tip_84 : decode b_Mo_tip 84 = .ok (.imul, 1) := by decide +kernel
theorem d_Mo_tip_85 : decode b_Mo_tip 85 = .ok (.iload 4, 2) := by decide +kernel
theorem d_Mo_tip_87 : decode b_Mo_tip 87 = .ok (.iadd, 1) := by decide +kernel
theorem d_Mo_tip_88 : decode b_Mo_tip 88 = .ok (.baload, 1) := by decide +kernel
theorem d_Mo_tip_89 : decode b_Mo_tip 89 = .ok (.sipush 255, 3) := by decide +kernel
theorem d_Mo_tip_92 : decode b_Mo_tip 92 = .ok (.iand, 1) := by decide +kernel
theorem d_Mo_tip_93 : decode b_Mo_tip 93 = .ok (.i2l, 1) := by decide +kernel
theorem d_Mo_tip_94 : decode b_Mo_tip 94 = .ok (.lor, 1) := by decide +kernel
theorem d_Mo_tip_95 : decode b_Mo_tip 95 = .ok (.lstore_n 2, 1) := by decide +kernel
theorem d_Mo_tip_96 : decode b_Mo_tip 96 = .ok (.iinc 4 1, 3) := by decide +kernel
theorem d_Mo_tip_99 : decode b_Mo_tip 99 = .ok (.goto (-35), 3) := by decide +kernel
theorem d_Mo_tip_102 : decode b_Mo_tip 102 = .ok (.lload_n 2, 1) := by decide +kernel
theorem d_Mo_tip_103 : decode b_Mo_tip 103 = .ok (.lreturn, 1) := by decide +kernel
theorem d_Mo_tip_104 : decode b_Mo_tip 104 = .ok (.ldc2_w 261, 3) := by decide +kernel
theorem d_Mo_tip_107 : decode b_Mo_tip 107 = .ok (.lreturn, 1) := by decide +kernel
theorem d_Mo_wellFormed_0 : decode b_Mo_wellFormed 0 = .ok (.iload_n 2, 1) := by decide +kernel
theorem d_Mo_wellFormed_1 : decode b_Mo_wellFormed 1 = .ok (.bipush 77, 2) := by decide +kernel
theorem d_Mo_wellFormed_3 : decode b_Mo_wellFormed 3 = .ok (.if_icmp .ge 5, 3) := by decide +kernel
theorem d_Mo_wellFormed_6 : decode b_Mo_wellFormed 6 = .ok (.iconst 0, 1) := by decide +kernel
theorem d_Mo_wellFormed_7 : decode b_Mo_wellFormed 7 = .ok (.ireturn, 1) := by decide +kernel
theorem d_Payment_init_0 : decode b_Payment_init 0 = .ok (.aload_n 0, 1) := by decide +kernel
theorem d_Payment_init_1 : decode b_Payment_init 1 = .ok (.invokespecial 3, 3) := by decide +kernel
theorem d_Payment_init_4 : decode b_Payment_init 4 = .ok (.aload_n 0, 1) := by decide +kernel
theorem d_Payment_init_5 : decode b_Payment_init 5 = .ok (.bipush 8, 2) := by decide +kernel
theorem d_Payment_init_7 : decode b_Payment_init 7 = .ok (.newarray .int, 2) := by decide +kernel
theorem d_Payment_init_9 : decode b_Payment_init 9 = .ok (.putfield 9, 3) := by decide +kernel
theorem d_Payment_init_12 : decode b_Payment_init 12 = .ok (.aload_n 0, 1) := by decide +kernel
theorem d_Payment_init_13 : decode b_Payment_init 13 = .ok (.bipush 8, 2) := by decide +kernel
theorem d_Payment_init_15 : decode b_Payment_init 15 = .ok (.newarray .int, 2) := by decide +kernel
theorem d_Payment_init_17 : decode b_Payment_init 17 = .ok (.putfield 15, 3) := by decide +kernel
theorem d_Payment_init_20 : decode b_Payment_init 20 = .ok (.aload_n 0, 1) := by decide +kernel
theorem d_Payment_init_21 : decode b_Payment_init 21 = .ok (.bipush 32, 2) := by decide +kernel
theorem d_Payment_init_23 : decode b_Payment_init 23 = .ok (.newarray .byte, 2) := by decide +kernel
theorem d_Payment_init_25 : decode b_Payment_init 25 = .ok (.putfield 18, 3) := by decide +kernel
theorem d_Payment_init_28 : decode b_Payment_init 28 = .ok (.aload_n 0, 1) := by decide +kernel
theorem d_Payment_init_29 : decode b_Payment_init 29 = .ok (.bipush 32, 2) := by decide +kernel
theorem d_Payment_init_31 : decode b_Payment_init 31 = .ok (.newarray .byte, 2) := by decide +kernel
theorem d_Payment_init_33 : decode b_Payment_init 33 = .ok (.putfield 22, 3) := by decide +kernel
theorem d_Payment_init_36 : decode b_Payment_init 36 = .ok (.return_, 1) := by decide +kernel
theorem d_Payment_read_0 : decode b_Payment_read 0 = .ok (.aload_n 0, 1) := by decide +kernel
theorem d_Payment_read_1 : decode b_Payment_read 1 = .ok (.aload_n 1, 1) := by decide +kernel
theorem d_Payment_read_2 : decode b_Payment_read 2 = .ok (.putfield 25, 3) := by decide +kernel
theorem d_Payment_read_5 : decode b_Payment_read 5 = .ok (.aload_n 0, 1) := by decide +kernel
theorem d_Payment_read_6 : decode b_Payment_read 6 = .ok (.iload_n 2, 1) := by decide +kernel
theorem d_Payment_read_7 : decode b_Payment_read 7 = .ok (.putfield 28, 3) := by decide +kernel
theorem d_Payment_read_10 : decode b_Payment_read 10 = .ok (.aload_n 0, 1) := by decide +kernel
theorem d_Payment_read_11 : decode b_Payment_read 11 = .ok (.iconst 0, 1) := by decide +kernel
theorem d_Payment_read_12 : decode b_Payment_read 12 = .ok (.putfield 32, 3) := by decide +kernel
theorem d_Payment_read_15 : decode b_Payment_read 15 = .ok (.aload_n 0, 1) := by decide +kernel
theorem d_Payment_read_16 : decode b_Payment_read 16 = .ok (.aconst_null, 1) := by decide +kernel
theorem d_Payment_read_17 : decode b_Payment_read 17 = .ok (.putfield 36, 3) := by decide +kernel
theorem d_Payment_read_20 : decode b_Payment_read 20 = .ok (.iload_n 3, 1) := by decide +kernel
theorem d_Payment_read_21 : decode b_Payment_read 21 = .ok (.iload_n 2, 1) := by decide +kernel
theorem d_Payment_read_22 : decode b_Payment_read 22 = .ok (.isub, 1) := by decide +kernel
theorem d_Payment_read_23 : decode b_Payment_read 23 = .ok (.iconst 5, 1) := by decide +kernel
theorem d_Payment_read_24 : decode b_Payment_read 24 = .ok (.if_icmp .ge 5, 3) := by decide +kernel
theorem d_Payment_read_27 : decode b_Payment_read 27 = .ok (.iconst (-1), 1) := by decide +kernel
theorem d_Payment_read_28 : decode b_Payment_read 28 = .ok (.ireturn, 1) := by decide +kernel
theorem d_Pool_feesOf_0 : decode b_Pool_feesOf 0 = .ok (.lconst 0, 1) := by decide +kernel
theorem d_Pool_feesOf_1 : decode b_Pool_feesOf 1 = .ok (.lstore_n 2, 1) := by decide +kernel
theorem d_Pool_feesOf_2 : decode b_Pool_feesOf 2 = .ok (.iconst 0, 1) := by decide +kernel
theorem d_Pool_feesOf_3 : decode b_Pool_feesOf 3 = .ok (.istore 4, 2) := by decide +kernel
theorem d_Pool_feesOf_5 : decode b_Pool_feesOf 5 = .ok (.iload 4, 2) := by decide +kernel
theorem d_Pool_feesOf_7 : decode b_Pool_feesOf 7 = .ok (.iload_n 1, 1) := by decide +kernel
theorem d_Pool_feesOf_8 : decode b_Pool_feesOf 8 = .ok (.if_icmp .ge 40, 3) := by decide +kernel
theorem d_Pool_feesOf_48 : decode b_Pool_feesOf 48 = .ok (.lload_n 2, 1) := by decide +kernel
theorem d_Pool_feesOf_49 : decode b_Pool_feesOf 49 = .ok (.lreturn, 1) := by decide +kernel
theorem d_Pool_fitting_0 : decode b_Pool_fitting 0 = .ok (.iconst 0, 1) := by decide +kernel
theorem d_Pool_fitting_1 : decode b_Pool_fitting 1 = .ok (.istore_n 2, 1) := by decide +kernel
theorem d_Pool_fitting_2 : decode b_Pool_fitting 2 = .ok (.iload_n 1, 1) := by decide +kernel
theorem d_Pool_fitting_3 : decode b_Pool_fitting 3 = .ok (.istore_n 3, 1) := by decide +kernel
theorem d_Pool_fitting_4 : decode b_Pool_fitting 4 = .ok (.iload_n 2, 1) := by decide +kernel
theorem d_Pool_fitting_5 : decode b_Pool_fitting 5 = .ok (.aload_n 0, 1) := by decide +kernel
theorem d_Pool_fitting_6 : decode b_Pool_fitting 6 = .ok (.getfield 12, 3) := by decide +kernel
theorem d_Pool_fitting_9 : decode b_Pool_fitting 9 = .ok (.invokevirtual 96, 3) := by decide +kernel
theorem d_Pool_fitting_12 : decode b_Pool_fitting 12 = .ok (.if_icmp .ge 43, 3) := by decide +kernel
theorem d_Pool_fitting_55 : decode b_Pool_fitting 55 = .ok (.iload_n 2, 1) := by decide +kernel
theorem d_Pool_fitting_56 : decode b_Pool_fitting 56 = .ok (.ireturn, 1) := by decide +kernel
theorem d_Pool_hasAmong_0 : decode b_Pool_hasAmong 0 = .ok (.iconst 0, 1) := by decide +kernel
theorem d_Pool_hasAmong_1 : decode b_Pool_hasAmong 1 = .ok (.istore_n 3, 1) := by decide +kernel
theorem d_Pool_hasAmong_2 : decode b_Pool_hasAmong 2 = .ok (.iload_n 3, 1) := by decide +kernel
theorem d_Pool_hasAmong_3 : decode b_Pool_hasAmong 3 = .ok (.iload_n 1, 1) := by decide +kernel
theorem d_Pool_hasAmong_4 : decode b_Pool_hasAmong 4 = .ok (.if_icmp .ge 47, 3) := by decide +kernel
theorem d_Pool_hasAmong_51 : decode b_Pool_hasAmong 51 = .ok (.iconst 0, 1) := by decide +kernel
theorem d_Pool_hasAmong_52 : decode b_Pool_hasAmong 52 = .ok (.ireturn, 1) := by decide +kernel
theorem d_Pool_init_0 : decode b_Pool_init 0 = .ok (.aload_n 0, 1) := by decide +kernel
theorem d_Pool_init_1 : decode b_Pool_init 1 = .ok (.invokespecial 3, 3) := by decide +kernel
theorem d_Pool_init_4 : decode b_Pool_init 4 = .ok (.aload_n 0, 1) := by decide +kernel
theorem d_Pool_init_5 : decode b_Pool_init 5 = .ok (.new 9, 3) := by decide +kernel
theorem d_Pool_init_8 : decode b_Pool_init 8 = .ok (.dup, 1) := by decide +kernel
theorem d_Pool_init_9 : decode b_Pool_init 9 = .ok (.invokespecial 11, 3) := by decide +kernel
theorem d_Pool_init_12 : decode b_Pool_init 12 = .ok (.putfield 12, 3) := by decide +kernel
theorem d_Pool_init_15 : decode b_Pool_init 15 = .ok (.aload_n 0, 1) := by decide +kernel
theorem d_Pool_init_16 : decode b_Pool_init 16 = .ok (.new 9, 3) := by decide +kernel
theorem d_Pool_init_19 : decode b_Pool_init 19 = .ok (.dup, 1) := by decide +kernel
theorem d_Pool_init_20 : decode b_Pool_init 20 = .ok (.invokespecial 11, 3) := by decide +kernel
theorem d_Pool_init_23 : decode b_Pool_init 23 = .ok (.putfield 18, 3) := by decide +kernel
theorem d_Pool_init_26 : decode b_Pool_init 26 = .ok (.aload_n 0, 1) := by decide +kernel
theorem d_Pool_init_27 : decode b_Pool_init 27 = .ok (.aload_n 1, 1) := by decide +kernel
theorem d_Pool_init_28 : decode b_Pool_init 28 = .ok (.putfield 21, 3) := by decide +kernel
theorem d_Pool_init_31 : decode b_Pool_init 31 = .ok (.aload_n 0, 1) := by decide +kernel
theorem d_Pool_init_32 : decode b_Pool_init 32 = .ok (.aload_n 2, 1) := by decide +kernel
theorem d_Pool_init_33 : decode b_Pool_init 33 = .ok (.putfield 25, 3) := by decide +kernel
theorem d_Pool_init_36 : decode b_Pool_init 36 = .ok (.aload_n 0, 1) := by decide +kernel
theorem d_Pool_init_37 : decode b_Pool_init 37 = .ok (.aload_n 3, 1) := by decide +kernel
theorem d_Pool_init_38 : decode b_Pool_init 38 = .ok (.putfield 29, 3) := by decide +kernel
theorem d_Pool_init_41 : decode b_Pool_init 41 = .ok (.aload_n 0, 1) := by decide +kernel
theorem d_Pool_init_42 : decode b_Pool_init 42 = .ok (.aload_n 3, 1) := by decide +kernel
theorem d_Pool_init_43 : decode b_Pool_init 43 = .ok (.getfield 33, 3) := by decide +kernel
theorem d_Pool_init_46 : decode b_Pool_init 46 = .ok (.putfield 39, 3) := by decide +kernel
theorem d_Pool_init_49 : decode b_Pool_init 49 = .ok (.return_, 1) := by decide +kernel
theorem d_Pool_receive_0 : decode b_Pool_receive 0 = .ok (.aload_n 0, 1) := by decide +kernel
theorem d_Pool_receive_1 : decode b_Pool_receive 1 = .ok (.getfield 42, 3) := by decide +kernel
theorem d_Pool_receive_4 : decode b_Pool_receive 4 = .ok (.ifnonnull 14, 3) := by decide +kernel
theorem d_Pool_receive_7 : decode b_Pool_receive 7 = .ok (.aload_n 0, 1) := by decide +kernel
theorem d_Pool_receive_8 : decode b_Pool_receive 8 = .ok (.new 46, 3) := by decide +kernel
theorem d_Pool_receive_11 : decode b_Pool_receive 11 = .ok (.dup, 1) := by decide +kernel
theorem d_Pool_receive_12 : decode b_Pool_receive 12 = .ok (.invokespecial 48, 3) := by decide +kernel
theorem d_Pool_receive_15 : decode b_Pool_receive 15 = .ok (.putfield 42, 3) := by decide +kernel
theorem d_Pool_receive_18 : decode b_Pool_receive 18 = .ok (.aload_n 0, 1) := by decide +kernel
theorem d_Pool_receive_19 : decode b_Pool_receive 19 = .ok (.getfield 42, 3) := by decide +kernel
theorem d_Pool_receive_22 : decode b_Pool_receive 22 = .ok (.astore_n 3, 1) := by decide +kernel
theorem d_Pool_receive_23 : decode b_Pool_receive 23 = .ok (.aload_n 3, 1) := by decide +kernel
theorem d_Pool_receive_24 : decode b_Pool_receive 24 = .ok (.aload_n 1, 1) := by decide +kernel
theorem d_Pool_receive_25 : decode b_Pool_receive 25 = .ok (.iconst 0, 1) := by decide +kernel
theorem d_Pool_receive_26 : decode b_Pool_receive 26 = .ok (.iload_n 2, 1) := by decide +kernel
theorem d_Pool_receive_27 : decode b_Pool_receive 27 = .ok (.invokevirtual 49, 3) := by decide +kernel
theorem d_Pool_receive_30 : decode b_Pool_receive 30 = .ok (.iload_n 2, 1) := by decide +kernel
theorem d_Pool_receive_31 : decode b_Pool_receive 31 = .ok (.if_icmp .eq 6, 3) := by decide +kernel
theorem d_Pool_receive_34 : decode b_Pool_receive 34 = .ok (.bipush (-3), 2) := by decide +kernel
theorem d_Pool_receive_36 : decode b_Pool_receive 36 = .ok (.ireturn, 1) := by decide +kernel
theorem d_Pool_renew_0 : decode b_Pool_renew 0 = .ok (.aload_n 0, 1) := by decide +kernel
theorem d_Pool_renew_1 : decode b_Pool_renew 1 = .ok (.getfield 39, 3) := by decide +kernel
theorem d_Pool_renew_4 : decode b_Pool_renew 4 = .ok (.aload_n 0, 1) := by decide +kernel
theorem d_Pool_renew_5 : decode b_Pool_renew 5 = .ok (.getfield 29, 3) := by decide +kernel
theorem d_Pool_renew_8 : decode b_Pool_renew 8 = .ok (.getfield 33, 3) := by decide +kernel
theorem d_Pool_renew_11 : decode b_Pool_renew 11 = .ok (.if_acmp .ne 4, 3) := by decide +kernel
theorem d_Pool_renew_14 : decode b_Pool_renew 14 = .ok (.return_, 1) := by decide +kernel
theorem d_Row_addByte_0 : decode b_Row_addByte 0 = .ok (.aload_n 0, 1) := by decide +kernel
theorem d_Row_addByte_1 : decode b_Row_addByte 1 = .ok (.getfield 15, 3) := by decide +kernel
theorem d_Row_addByte_4 : decode b_Row_addByte 4 = .ok (.sipush 4096, 3) := by decide +kernel
theorem d_Row_addByte_7 : decode b_Row_addByte 7 = .ok (.if_icmp .ge 24, 3) := by decide +kernel
theorem d_Row_addByte_10 : decode b_Row_addByte 10 = .ok (.aload_n 0, 1) := by decide +kernel
theorem d_Row_addByte_11 : decode b_Row_addByte 11 = .ok (.getfield 9, 3) := by decide +kernel
theorem d_Row_addByte_14 : decode b_Row_addByte 14 = .ok (.aload_n 0, 1) := by decide +kernel
theorem d_Row_addByte_15 : decode b_Row_addByte 15 = .ok (.getfield 15, 3) := by decide +kernel
theorem d_Row_addByte_18 : decode b_Row_addByte 18 = .ok (.iload_n 1, 1) := by decide +kernel
theorem d_Row_addByte_19 : decode b_Row_addByte 19 = .ok (.i2b, 1) := by decide +kernel
theorem d_Row_addByte_20 : decode b_Row_addByte 20 = .ok (.bastore, 1) := by decide +kernel
theorem d_Row_addByte_21 : decode b_Row_addByte 21 = .ok (.aload_n 0, 1) := by decide +kernel
theorem d_Row_addByte_22 : decode b_Row_addByte 22 = .ok (.dup, 1) := by decide +kernel
theorem d_Row_addByte_23 : decode b_Row_addByte 23 = .ok (.getfield 15, 3) := by decide +kernel
theorem d_Row_addByte_26 : decode b_Row_addByte 26 = .ok (.iconst 1, 1) := by decide +kernel
theorem d_Row_addByte_27 : decode b_Row_addByte 27 = .ok (.iadd, 1) := by decide +kernel
theorem d_Row_addByte_28 : decode b_Row_addByte 28 = .ok (.putfield 15, 3) := by decide +kernel
theorem d_Row_addByte_31 : decode b_Row_addByte 31 = .ok (.return_, 1) := by decide +kernel
theorem d_Row_addBytes_0 : decode b_Row_addBytes 0 = .ok (.iload_n 3, 1) := by decide +kernel
theorem d_Row_addBytes_1 : decode b_Row_addBytes 1 = .ok (.sipush 4096, 3) := by decide +kernel
theorem d_Row_addBytes_4 : decode b_Row_addBytes 4 = .ok (.aload_n 0, 1) := by decide +kernel
theorem d_Row_addBytes_5 : decode b_Row_addBytes 5 = .ok (.getfield 15, 3) := by decide +kernel
theorem d_Row_addBytes_8 : decode b_Row_addBytes 8 = .ok (.isub, 1) := by decide +kernel
theorem d_Row_addBytes_9 : decode b_Row_addBytes 9 = .ok (.if_icmp .gt 27, 3) := by decide +kernel
theorem d_Row_addBytes_12 : decode b_Row_addBytes 12 = .ok (.aload_n 1, 1) := by decide +kernel
theorem d_Row_addBytes_13 : decode b_Row_addBytes 13 = .ok (.iload_n 2, 1) := by decide +kernel
theorem d_Row_addBytes_14 : decode b_Row_addBytes 14 = .ok (.aload_n 0, 1) := by decide +kernel
theorem d_Row_addBytes_15 : decode b_Row_addBytes 15 = .ok (.getfield 9, 3) := by decide +kernel
theorem d_Row_addBytes_18 : decode b_Row_addBytes 18 = .ok (.aload_n 0, 1) := by decide +kernel
theorem d_Row_addBytes_19 : decode b_Row_addBytes 19 = .ok (.getfield 15, 3) := by decide +kernel
theorem d_Row_addBytes_22 : decode b_Row_addBytes 22 = .ok (.iload_n 3, 1) := by decide +kernel
theorem d_Row_addBytes_23 : decode b_Row_addBytes 23 = .ok (.invokestatic 23, 3) := by decide +kernel
theorem d_Row_addBytes_26 : decode b_Row_addBytes 26 = .ok (.aload_n 0, 1) := by decide +kernel
theorem d_Row_addBytes_27 : decode b_Row_addBytes 27 = .ok (.dup, 1) := by decide +kernel
theorem d_Row_addBytes_28 : decode b_Row_addBytes 28 = .ok (.getfield 15, 3) := by decide +kernel
theorem d_Row_addBytes_31 : decode b_Row_addBytes 31 = .ok (.iload_n 3, 1) := by decide +kernel
theorem d_Row_addBytes_32 : decode b_Row_addBytes 32 = .ok (.iadd, 1) := by decide +kernel
theorem d_Row_addBytes_33 : decode b_Row_addBytes 33 = .ok (.putfield 15, 3) := by decide +kernel
theorem d_Row_addBytes_36 : decode b_Row_addBytes 36 = .ok (.return_, 1) := by decide +kernel
theorem d_Row_addKeyOutput_0 : decode b_Row_addKeyOutput 0 = .ok (.aload_n 0, 1) := by decide +kernel
theorem d_Row_addKeyOutput_1 : decode b_Row_addKeyOutput 1 = .ok (.iload_n 1, 1) := by decide +kernel
theorem d_Row_addKeyOutput_2 : decode b_Row_addKeyOutput 2 = .ok (.invokevirtual 29, 3) := by decide +kernel
theorem d_Row_addKeyOutput_5 : decode b_Row_addKeyOutput 5 = .ok (.aload_n 0, 1) := by decide +kernel
theorem d_Row_addKeyOutput_6 : decode b_Row_addKeyOutput 6 = .ok (.bipush 6, 2) := by decide +kernel
theorem d_Row_addKeyOutput_8 : decode b_Row_addKeyOutput 8 = .ok (.invokevirtual 33, 3) := by decide +kernel
theorem d_Row_addKeyOutput_11 : decode b_Row_addKeyOutput 11 = .ok (.aload_n 0, 1) := by decide +kernel
theorem d_Row_addKeyOutput_12 : decode b_Row_addKeyOutput 12 = .ok (.iconst 4, 1) := by decide +kernel
theorem d_Row_addKeyOutput_13 : decode b_Row_addKeyOutput 13 = .ok (.invokevirtual 33, 3) := by decide +kernel
theorem d_Row_addKeyOutput_16 : decode b_Row_addKeyOutput 16 = .ok (.aload_n 0, 1) := by decide +kernel
theorem d_Row_addKeyOutput_17 : decode b_Row_addKeyOutput 17 = .ok (.iload_n 2, 1) := by decide +kernel
theorem d_Row_addKeyOutput_18 : decode b_Row_addKeyOutput 18 = .ok (.invokevirtual 29, 3) := by decide +kernel
theorem d_Row_addKeyOutput_21 : decode b_Row_addKeyOutput 21 = .ok (.aload_n 0, 1) := by decide +kernel
theorem d_Row_addKeyOutput_22 : decode b_Row_addKeyOutput 22 = .ok (.bipush 95, 2) := by decide +kernel
theorem d_Row_addKeyOutput_24 : decode b_Row_addKeyOutput 24 = .ok (.invokevirtual 33, 3) := by decide +kernel
theorem d_Row_addKeyOutput_27 : decode b_Row_addKeyOutput 27 = .ok (.return_, 1) := by decide +kernel
theorem d_Row_addNumber_0 : decode b_Row_addNumber 0 = .ok (.aload_n 0, 1) := by decide +kernel
theorem d_Row_addNumber_1 : decode b_Row_addNumber 1 = .ok (.getfield 15, 3) := by decide +kernel
theorem d_Row_addNumber_4 : decode b_Row_addNumber 4 = .ok (.sipush 4092, 3) := by decide +kernel
theorem d_Row_addNumber_7 : decode b_Row_addNumber 7 = .ok (.if_icmp .gt 25, 3) := by decide +kernel
theorem d_Row_addNumber_10 : decode b_Row_addNumber 10 = .ok (.aload_n 0, 1) := by decide +kernel
theorem d_Row_addNumber_11 : decode b_Row_addNumber 11 = .ok (.getfield 9, 3) := by decide +kernel
theorem d_Row_addNumber_14 : decode b_Row_addNumber 14 = .ok (.aload_n 0, 1) := by decide +kernel
theorem d_Row_addNumber_15 : decode b_Row_addNumber 15 = .ok (.getfield 15, 3) := by decide +kernel
theorem d_Row_addNumber_18 : decode b_Row_addNumber 18 = .ok (.iload_n 1, 1) := by decide +kernel
theorem d_Row_addNumber_19 : decode b_Row_addNumber 19 = .ok (.invokestatic 19, 3) := by decide +kernel
theorem d_Row_addNumber_22 : decode b_Row_addNumber 22 = .ok (.aload_n 0, 1) := by decide +kernel
theorem d_Row_addNumber_23 : decode b_Row_addNumber 23 = .ok (.dup, 1) := by decide +kernel
theorem d_Row_addNumber_24 : decode b_Row_addNumber 24 = .ok (.getfield 15, 3) := by decide +kernel
theorem d_Row_addNumber_27 : decode b_Row_addNumber 27 = .ok (.iconst 4, 1) := by decide +kernel
theorem d_Row_addNumber_28 : decode b_Row_addNumber 28 = .ok (.iadd, 1) := by decide +kernel
theorem d_Row_addNumber_29 : decode b_Row_addNumber 29 = .ok (.putfield 15, 3) := by decide +kernel
theorem d_Row_addNumber_32 : decode b_Row_addNumber 32 = .ok (.return_, 1) := by decide +kernel
theorem d_Row_init_0 : decode b_Row_init 0 = .ok (.aload_n 0, 1) := by decide +kernel
theorem d_Row_init_1 : decode b_Row_init 1 = .ok (.invokespecial 3, 3) := by decide +kernel
theorem d_Row_init_4 : decode b_Row_init 4 = .ok (.aload_n 0, 1) := by decide +kernel
theorem d_Row_init_5 : decode b_Row_init 5 = .ok (.sipush 4096, 3) := by decide +kernel
theorem d_Row_init_8 : decode b_Row_init 8 = .ok (.newarray .byte, 2) := by decide +kernel
theorem d_Row_init_10 : decode b_Row_init 10 = .ok (.putfield 9, 3) := by decide +kernel
theorem d_Row_init_13 : decode b_Row_init 13 = .ok (.return_, 1) := by decide +kernel
theorem d_Sha_digest_0 : decode b_Sha_digest 0 = .ok (.aload_n 1, 1) := by decide +kernel
theorem d_Sha_digest_1 : decode b_Sha_digest 1 = .ok (.astore 7, 2) := by decide +kernel
theorem d_Sha_digest_3 : decode b_Sha_digest 3 = .ok (.iload_n 2, 1) := by decide +kernel
theorem d_Sha_digest_4 : decode b_Sha_digest 4 = .ok (.istore 8, 2) := by decide +kernel
theorem d_Sha_digest_6 : decode b_Sha_digest 6 = .ok (.iload_n 3, 1) := by decide +kernel
theorem d_Sha_digest_7 : decode b_Sha_digest 7 = .ok (.istore 9, 2) := by decide +kernel
theorem d_Sha_digest_9 : decode b_Sha_digest 9 = .ok (.iconst 0, 1) := by decide +kernel
theorem d_Sha_digest_10 : decode b_Sha_digest 10 = .ok (.istore 10, 2) := by decide +kernel
theorem d_Sha_digest_12 : decode b_Sha_digest 12 = .ok (.iload 10, 2) := by decide +kernel
theorem d_Sha_digest_14 : decode b_Sha_digest 14 = .ok (.iload 4, 2) := by decide +kernel
theorem d_Sha_digest_16 : decode b_Sha_digest 16 = .ok (.if_icmp .ge 115, 3) := by decide +kernel
theorem d_Sha_digest_19 : decode b_Sha_digest 19 = .ok (.getstatic 18, 3) := by decide +kernel
theorem d_Sha_digest_22 : decode b_Sha_digest 22 = .ok (.iconst 0, 1) := by decide +kernel
theorem d_Sha_digest_23 : decode b_Sha_digest 23 = .ok (.aload_n 0, 1) := by decide +kernel
theorem d_Sha_digest_24 : decode b_Sha_digest 24 = .ok (.getfield 15, 3) := by decide +kernel
theorem d_Sha_digest_27 : decode b_Sha_digest 27 = .ok (.iconst 0, 1) := by decide +kernel
theorem d_Sha_digest_28 : decode b_Sha_digest 28 = .ok (.bipush 8, 2) := by decide +kernel
theorem d_Sha_digest_30 : decode b_Sha_digest 30 = .ok (.invokestatic 21, 3) := by decide +kernel
theorem d_Sha_digest_33 : decode b_Sha_digest 33 = .ok (.iload 9, 2) := by decide +kernel
theorem d_Sha_digest_35 : decode b_Sha_digest 35 = .ok (.bipush 72, 2) := by decide +kernel
theorem d_Sha_digest_37 : decode b_Sha_digest 37 = .ok (.iadd, 1) := by decide +kernel
theorem d_Sha_digest_38 : decode b_Sha_digest 38 = .ok (.bipush 64, 2) := by decide +kernel
theorem d_Sha_digest_40 : decode b_Sha_digest 40 = .ok (.idiv, 1) := by decide +kernel
theorem d_Sha_digest_41 : decode b_Sha_digest 41 = .ok (.istore 11, 2) := by decide +kernel
theorem d_Sha_digest_43 : decode b_Sha_digest 43 = .ok (.iconst 0, 1) := by decide +kernel
theorem d_Sha_digest_44 : decode b_Sha_digest 44 = .ok (.istore 12, 2) := by decide +kernel
theorem d_Sha_digest_46 : decode b_Sha_digest 46 = .ok (.iload 12, 2) := by decide +kernel
theorem d_Sha_digest_48 : decode b_Sha_digest 48 = .ok (.iload 11, 2) := by decide +kernel
theorem d_Sha_digest_50 : decode b_Sha_digest 50 = .ok (.if_icmp .ge 28, 3) := by decide +kernel
theorem d_Sha_digest_53 : decode b_Sha_digest 53 = .ok (.aload_n 0, 1) := by decide +kernel
theorem d_Sha_digest_54 : decode b_Sha_digest 54 = .ok (.aload 7, 2) := by decide +kernel
theorem d_Sha_digest_56 : decode b_Sha_digest 56 = .ok (.iload 8, 2) := by decide +kernel
theorem d_Sha_digest_58 : decode b_Sha_digest 58 = .ok (.iload 9, 2) := by decide +kernel
theorem d_Sha_digest_60 : decode b_Sha_digest 60 = .ok (.iload 12, 2) := by decide +kernel
theorem d_Sha_digest_62 : decode b_Sha_digest 62 = .ok (.bipush 64, 2) := by decide +kernel
theorem d_Sha_digest_64 : decode b_Sha_digest 64 = .ok (.imul, 1) := by decide +kernel
theorem d_Sha_digest_65 : decode b_Sha_digest 65 = .ok (.invokevirtual 27, 3) := by decide +kernel
theorem d_Sha_digest_68 : decode b_Sha_digest 68 = .ok (.aload_n 0, 1) := by decide +kernel
theorem d_Sha_digest_69 : decode b_Sha_digest 69 = .ok (.invokevirtual 31, 3) := by decide +kernel
theorem d_Sha_digest_72 : decode b_Sha_digest 72 = .ok (.iinc 12 1, 3) := by decide +kernel
theorem d_Sha_digest_75 : decode b_Sha_digest 75 = .ok (.goto (-29), 3) := by decide +kernel
theorem d_Sha_digest_78 : decode b_Sha_digest 78 = .ok (.iconst 0, 1) := by decide +kernel
theorem d_Sha_digest_79 : decode b_Sha_digest 79 = .ok (.istore 12, 2) := by decide +kernel
theorem d_Sha_digest_81 : decode b_Sha_digest 81 = .ok (.iload 12, 2) := by decide +kernel
theorem d_Sha_digest_83 : decode b_Sha_digest 83 = .ok (.bipush 8, 2) := by decide +kernel
theorem d_Sha_digest_85 : decode b_Sha_digest 85 = .ok (.if_icmp .ge 28, 3) := by decide +kernel
theorem d_Sha_digest_88 : decode b_Sha_digest 88 = .ok (.aload 5, 2) := by decide +kernel
theorem d_Sha_digest_90 : decode b_Sha_digest 90 = .ok (.iload 6, 2) := by decide +kernel
theorem d_Sha_digest_92 : decode b_Sha_digest 92 = .ok (.iload 12, 2) := by decide +kernel
theorem d_Sha_digest_94 : decode b_Sha_digest 94 = .ok (.iconst 4, 1) := by decide +kernel
theorem d_Sha_digest_95 : decode b_Sha_digest 95 = .ok (.imul, 1) := by decide +kernel
theorem d_Sha_digest_96 : decode b_Sha_digest 96 = .ok (.iadd, 1) := by decide +kernel
theorem d_Sha_digest_97 : decode b_Sha_digest 97 = .ok (.aload_n 0, 1) := by decide +kernel
theorem d_Sha_digest_98 : decode b_Sha_digest 98 = .ok (.getfield 15, 3) := by decide +kernel
theorem d_Sha_digest_101 : decode b_Sha_digest 101 = .ok (.iload 12, 2) := by decide +kernel
theorem d_Sha_digest_103 : decode b_Sha_digest 103 = .ok (.iaload, 1) := by decide +kernel
theorem d_Sha_digest_104 : decode b_Sha_digest 104 = .ok (.invokestatic 34, 3) := by decide +kernel
theorem d_Sha_digest_107 : decode b_Sha_digest 107 = .ok (.iinc 12 1, 3) := by decide +kernel
theorem d_Sha_digest_110 : decode b_Sha_digest 110 = .ok (.goto (-29), 3) := by decide +kernel
theorem d_Sha_digest_113 : decode b_Sha_digest 113 = .ok (.aload 5, 2) := by decide +kernel
theorem d_Sha_digest_115 : decode b_Sha_digest 115 = .ok (.astore 7, 2) := by decide +kernel
theorem d_Sha_digest_117 : decode b_Sha_digest 117 = .ok (.iload 6, 2) := by decide +kernel
theorem d_Sha_digest_119 : decode b_Sha_digest 119 = .ok (.istore 8, 2) := by decide +kernel
theorem d_Sha_digest_121 : decode b_Sha_digest 121 = .ok (.bipush 32, 2) := by decide +kernel
theorem d_Sha_digest_123 : decode b_Sha_digest 123 = .ok (.istore 9, 2) := by decide +kernel
theorem d_Sha_digest_125 : decode b_Sha_digest 125 = .ok (.iinc 10 1, 3) := by decide +kernel
theorem d_Sha_digest_128 : decode b_Sha_digest 128 = .ok (.goto (-116), 3) := by decide +kernel
theorem d_Sha_digest_131 : decode b_Sha_digest 131 = .ok (.return_, 1) := by decide +kernel
theorem d_Sha_foldToRoot_0 : decode b_Sha_foldToRoot 0 = .ok (.iload_n 2, 1) := by decide +kernel
theorem d_Sha_foldToRoot_1 : decode b_Sha_foldToRoot 1 = .ok (.istore_n 3, 1) := by decide +kernel
theorem d_Sha_foldToRoot_2 : decode b_Sha_foldToRoot 2 = .ok (.iload_n 3, 1) := by decide +kernel
theorem d_Sha_foldToRoot_3 : decode b_Sha_foldToRoot 3 = .ok (.iconst 1, 1) := by decide +kernel
theorem d_Sha_foldToRoot_4 : decode b_Sha_foldToRoot 4 = .ok (.if_icmp .le 71, 3) := by decide +kernel
theorem d_Sha_foldToRoot_75 : decode b_Sha_foldToRoot 75 = .ok (.return_, 1) := by decide +kernel
theorem d_Sha_init_0 : decode b_Sha_init 0 = .ok (.aload_n 0, 1) := by decide +kernel
theorem d_Sha_init_1 : decode b_Sha_init 1 = .ok (.invokespecial 3, 3) := by decide +kernel
theorem d_Sha_init_4 : decode b_Sha_init 4 = .ok (.aload_n 0, 1) := by decide +kernel
theorem d_Sha_init_5 : decode b_Sha_init 5 = .ok (.bipush 64, 2) := by decide +kernel
theorem d_Sha_init_7 : decode b_Sha_init 7 = .ok (.newarray .int, 2) := by decide +kernel
theorem d_Sha_init_9 : decode b_Sha_init 9 = .ok (.putfield 9, 3) := by decide +kernel
theorem d_Sha_init_12 : decode b_Sha_init 12 = .ok (.aload_n 0, 1) := by decide +kernel
theorem d_Sha_init_13 : decode b_Sha_init 13 = .ok (.bipush 8, 2) := by decide +kernel
theorem d_Sha_init_15 : decode b_Sha_init 15 = .ok (.newarray .int, 2) := by decide +kernel
theorem d_Sha_init_17 : decode b_Sha_init 17 = .ok (.putfield 15, 3) := by decide +kernel
theorem d_Sha_init_20 : decode b_Sha_init 20 = .ok (.return_, 1) := by decide +kernel
theorem d_Sha_load_0 : decode b_Sha_load 0 = .ok (.iconst 0, 1) := by decide +kernel
theorem d_Sha_load_1 : decode b_Sha_load 1 = .ok (.istore 5, 2) := by decide +kernel
theorem d_Sha_load_3 : decode b_Sha_load 3 = .ok (.iload 5, 2) := by decide +kernel
theorem d_Sha_load_5 : decode b_Sha_load 5 = .ok (.bipush 64, 2) := by decide +kernel
theorem d_Sha_load_7 : decode b_Sha_load 7 = .ok (.if_icmp .ge 74, 3) := by decide +kernel
theorem d_Sha_load_10 : decode b_Sha_load 10 = .ok (.iload 4, 2) := by decide +kernel
theorem d_Sha_load_12 : decode b_Sha_load 12 = .ok (.iload 5, 2) := by decide +kernel
theorem d_Sha_load_14 : decode b_Sha_load 14 = .ok (.iadd, 1) := by decide +kernel
theorem d_Sha_load_15 : decode b_Sha_load 15 = .ok (.istore 6, 2) := by decide +kernel
theorem d_Sha_load_17 : decode b_Sha_load 17 = .ok (.iload 6, 2) := by decide +kernel
theorem d_Sha_load_19 : decode b_Sha_load 19 = .ok (.iload_n 3, 1) := by decide +kernel
theorem d_Sha_load_20 : decode b_Sha_load 20 = .ok (.if_icmp .ge 16, 3) := by decide +kernel
theorem d_Sha_load_23 : decode b_Sha_load 23 = .ok (.aload_n 1, 1) := by decide +kernel
theorem d_Sha_load_24 : decode b_Sha_load 24 = .ok (.iload_n 2, 1) := by decide +kernel
theorem d_Sha_load_25 : decode b_Sha_load 25 = .ok (.iload 6, 2) := by decide +kernel
theorem d_Sha_load_27 : decode b_Sha_load 27 = .ok (.iadd, 1) := by decide +kernel
theorem d_Sha_load_28 : decode b_Sha_load 28 = .ok (.baload, 1) := by decide +kernel
theorem d_Sha_load_29 : decode b_Sha_load 29 = .ok (.sipush 255, 3) := by decide +kernel
theorem d_Sha_load_32 : decode b_Sha_load 32 = .ok (.iand, 1) := by decide +kernel
theorem d_Sha_load_33 : decode b_Sha_load 33 = .ok (.goto 16, 3) := by decide +kernel
theorem d_Sha_load_36 : decode b_Sha_load 36 = .ok (.iload 6, 2) := by decide +kernel
theorem d_Sha_load_38 : decode b_Sha_load 38 = .ok (.iload_n 3, 1) := by decide +kernel
theorem d_Sha_load_39 : decode b_Sha_load 39 = .ok (.if_icmp .ne 9, 3) := by decide +kernel
theorem d_Sha_load_42 : decode b_Sha_load 42 = .ok (.sipush 128, 3) := by decide +kernel
theorem d_Sha_load_45 : decode b_Sha_load 45 = .ok (.goto 4, 3) := by decide +kernel
theorem d_Sha_load_48 : decode b_Sha_load 48 = .ok (.iconst 0, 1) := by decide +kernel
theorem d_Sha_load_49 : decode b_Sha_load 49 = .ok (.istore 7, 2) := by decide +kernel
theorem d_Sha_load_51 : decode b_Sha_load 51 = .ok (.aload_n 0, 1) := by decide +kernel
theorem d_Sha_load_52 : decode b_Sha_load 52 = .ok (.getfield 9, 3) := by decide +kernel
theorem d_Sha_load_55 : decode b_Sha_load 55 = .ok (.iload 5, 2) := by decide +kernel
theorem d_Sha_load_57 : decode b_Sha_load 57 = .ok (.iconst 2, 1) := by decide +kernel
theorem d_Sha_load_58 : decode b_Sha_load 58 = .ok (.ishr, 1) := by decide +kernel
theorem d_Sha_load_59 : decode b_Sha_load 59 = .ok (.aload_n 0, 1) := by decide +kernel
theorem d_Sha_load_60 : decode b_Sha_load 60 = .ok (.getfield 9, 3) := by decide +kernel
theorem d_Sha_load_63 : decode b_Sha_load 63 = .ok (.iload 5, 2) := by decide +kernel
theorem d_Sha_load_65 : decode b_Sha_load 65 = .ok (.iconst 2, 1) := by decide +kernel
theorem d_Sha_load_66 : decode b_Sha_load 66 = .ok (.ishr, 1) := by decide +kernel
theorem d_Sha_load_67 : decode b_Sha_load 67 = .ok (.iaload, 1) := by decide +kernel
theorem d_Sha_load_68 : decode b_Sha_load 68 = .ok (.bipush 8, 2) := by decide +kernel
theorem d_Sha_load_70 : decode b_Sha_load 70 = .ok (.ishl, 1) := by decide +kernel
theorem d_Sha_load_71 : decode b_Sha_load 71 = .ok (.iload 7, 2) := by decide +kernel
theorem d_Sha_load_73 : decode b_Sha_load 73 = .ok (.ior, 1) := by decide +kernel
theorem d_Sha_load_74 : decode b_Sha_load 74 = .ok (.iastore, 1) := by decide +kernel
theorem d_Sha_load_75 : decode b_Sha_load 75 = .ok (.iinc 5 1, 3) := by decide +kernel
theorem d_Sha_load_78 : decode b_Sha_load 78 = .ok (.goto (-75), 3) := by decide +kernel
theorem d_Sha_load_81 : decode b_Sha_load 81 = .ok (.iload 4, 2) := by decide +kernel
theorem d_Sha_load_83 : decode b_Sha_load 83 = .ok (.bipush 64, 2) := by decide +kernel
theorem d_Sha_load_85 : decode b_Sha_load 85 = .ok (.iadd, 1) := by decide +kernel
theorem d_Sha_load_86 : decode b_Sha_load 86 = .ok (.iload_n 3, 1) := by decide +kernel
theorem d_Sha_load_87 : decode b_Sha_load 87 = .ok (.bipush 9, 2) := by decide +kernel
theorem d_Sha_load_89 : decode b_Sha_load 89 = .ok (.iadd, 1) := by decide +kernel
theorem d_Sha_load_90 : decode b_Sha_load 90 = .ok (.if_icmp .lt 14, 3) := by decide +kernel
theorem d_Sha_load_93 : decode b_Sha_load 93 = .ok (.aload_n 0, 1) := by decide +kernel
theorem d_Sha_load_94 : decode b_Sha_load 94 = .ok (.getfield 9, 3) := by decide +kernel
theorem d_Sha_load_97 : decode b_Sha_load 97 = .ok (.bipush 15, 2) := by decide +kernel
theorem d_Sha_load_99 : decode b_Sha_load 99 = .ok (.iload_n 3, 1) := by decide +kernel
theorem d_Sha_load_100 : decode b_Sha_load 100 = .ok (.bipush 8, 2) := by decide +kernel
theorem d_Sha_load_102 : decode b_Sha_load 102 = .ok (.imul, 1) := by decide +kernel
theorem d_Sha_load_103 : decode b_Sha_load 103 = .ok (.iastore, 1) := by decide +kernel
theorem d_Sha_load_104 : decode b_Sha_load 104 = .ok (.return_, 1) := by decide +kernel
theorem d_Sha_mix_0 : decode b_Sha_mix 0 = .ok (.bipush 16, 2) := by decide +kernel
theorem d_Sha_mix_2 : decode b_Sha_mix 2 = .ok (.istore_n 1, 1) := by decide +kernel
theorem d_Sha_mix_3 : decode b_Sha_mix 3 = .ok (.iload_n 1, 1) := by decide +kernel
theorem d_Sha_mix_4 : decode b_Sha_mix 4 = .ok (.bipush 64, 2) := by decide +kernel
theorem d_Sha_mix_6 : decode b_Sha_mix 6 = .ok (.if_icmp .ge 110, 3) := by decide +kernel
theorem d_Sha_mix_9 : decode b_Sha_mix 9 = .ok (.aload_n 0, 1) := by decide +kernel
theorem d_Sha_mix_10 : decode b_Sha_mix 10 = .ok (.getfield 9, 3) := by decide +kernel
theorem d_Sha_mix_13 : decode b_Sha_mix 13 = .ok (.iload_n 1, 1) := by decide +kernel
theorem d_Sha_mix_14 : decode b_Sha_mix 14 = .ok (.bipush 15, 2) := by decide +kernel
theorem d_Sha_mix_16 : decode b_Sha_mix 16 = .ok (.isub, 1) := by decide +kernel
theorem d_Sha_mix_17 : decode b_Sha_mix 17 = .ok (.iaload, 1) := by decide +kernel
theorem d_Sha_mix_18 : decode b_Sha_mix 18 = .ok (.istore_n 2, 1) := by decide +kernel
theorem d_Sha_mix_19 : decode b_Sha_mix 19 = .ok (.aload_n 0, 1) := by decide +kernel
theorem d_Sha_mix_20 : decode b_Sha_mix 20 = .ok (.getfield 9, 3) := by decide +kernel
theorem d_Sha_mix_23 : decode b_Sha_mix 23 = .ok (.iload_n 1, 1) := by decide +kernel
theorem d_Sha_mix_24 : decode b_Sha_mix 24 = .ok (.iconst 2, 1) := by decide +kernel
theorem d_Sha_mix_25 : decode b_Sha_mix 25 = .ok (.isub, 1) := by decide +kernel
theorem d_Sha_mix_26 : decode b_Sha_mix 26 = .ok (.iaload, 1) := by decide +kernel
theorem d_Sha_mix_27 : decode b_Sha_mix 27 = .ok (.istore_n 3, 1) := by decide +kernel
theorem d_Sha_mix_28 : decode b_Sha_mix 28 = .ok (.iload_n 2, 1) := by decide +kernel
theorem d_Sha_mix_29 : decode b_Sha_mix 29 = .ok (.bipush 7, 2) := by decide +kernel
theorem d_Sha_mix_31 : decode b_Sha_mix 31 = .ok (.iushr, 1) := by decide +kernel
theorem d_Sha_mix_32 : decode b_Sha_mix 32 = .ok (.iload_n 2, 1) := by decide +kernel
theorem d_Sha_mix_33 : decode b_Sha_mix 33 = .ok (.bipush 25, 2) := by decide +kernel
theorem d_Sha_mix_35 : decode b_Sha_mix 35 = .ok (.ishl, 1) := by decide +kernel
theorem d_Sha_mix_36 : decode b_Sha_mix 36 = .ok (.ior, 1) := by decide +kernel
theorem d_Sha_mix_37 : decode b_Sha_mix 37 = .ok (.iload_n 2, 1) := by decide +kernel
theorem d_Sha_mix_38 : decode b_Sha_mix 38 = .ok (.bipush 18, 2) := by decide +kernel
theorem d_Sha_mix_40 : decode b_Sha_mix 40 = .ok (.iushr, 1) := by decide +kernel
theorem d_Sha_mix_41 : decode b_Sha_mix 41 = .ok (.iload_n 2, 1) := by decide +kernel
theorem d_Sha_mix_42 : decode b_Sha_mix 42 = .ok (.bipush 14, 2) := by decide +kernel
theorem d_Sha_mix_44 : decode b_Sha_mix 44 = .ok (.ishl, 1) := by decide +kernel
theorem d_Sha_mix_45 : decode b_Sha_mix 45 = .ok (.ior, 1) := by decide +kernel
theorem d_Sha_mix_46 : decode b_Sha_mix 46 = .ok (.ixor, 1) := by decide +kernel
theorem d_Sha_mix_47 : decode b_Sha_mix 47 = .ok (.iload_n 2, 1) := by decide +kernel
theorem d_Sha_mix_48 : decode b_Sha_mix 48 = .ok (.iconst 3, 1) := by decide +kernel
theorem d_Sha_mix_49 : decode b_Sha_mix 49 = .ok (.iushr, 1) := by decide +kernel
theorem d_Sha_mix_50 : decode b_Sha_mix 50 = .ok (.ixor, 1) := by decide +kernel
theorem d_Sha_mix_51 : decode b_Sha_mix 51 = .ok (.istore 4, 2) := by decide +kernel
theorem d_Sha_mix_53 : decode b_Sha_mix 53 = .ok (.iload_n 3, 1) := by decide +kernel
theorem d_Sha_mix_54 : decode b_Sha_mix 54 = .ok (.bipush 17, 2) := by decide +kernel
theorem d_Sha_mix_56 : decode b_Sha_mix 56 = .ok (.iushr, 1) := by decide +kernel
theorem d_Sha_mix_57 : decode b_Sha_mix 57 = .ok (.iload_n 3, 1) := by decide +kernel
theorem d_Sha_mix_58 : decode b_Sha_mix 58 = .ok (.bipush 15, 2) := by decide +kernel
theorem d_Sha_mix_60 : decode b_Sha_mix 60 = .ok (.ishl, 1) := by decide +kernel
theorem d_Sha_mix_61 : decode b_Sha_mix 61 = .ok (.ior, 1) := by decide +kernel
theorem d_Sha_mix_62 : decode b_Sha_mix 62 = .ok (.iload_n 3, 1) := by decide +kernel
theorem d_Sha_mix_63 : decode b_Sha_mix 63 = .ok (.bipush 19, 2) := by decide +kernel
theorem d_Sha_mix_65 : decode b_Sha_mix 65 = .ok (.iushr, 1) := by decide +kernel
theorem d_Sha_mix_66 : decode b_Sha_mix 66 = .ok (.iload_n 3, 1) := by decide +kernel
theorem d_Sha_mix_67 : decode b_Sha_mix 67 = .ok (.bipush 13, 2) := by decide +kernel
theorem d_Sha_mix_69 : decode b_Sha_mix 69 = .ok (.ishl, 1) := by decide +kernel
theorem d_Sha_mix_70 : decode b_Sha_mix 70 = .ok (.ior, 1) := by decide +kernel
theorem d_Sha_mix_71 : decode b_Sha_mix 71 = .ok (.ixor, 1) := by decide +kernel
theorem d_Sha_mix_72 : decode b_Sha_mix 72 = .ok (.iload_n 3, 1) := by decide +kernel
theorem d_Sha_mix_73 : decode b_Sha_mix 73 = .ok (.bipush 10, 2) := by decide +kernel
theorem d_Sha_mix_75 : decode b_Sha_mix 75 = .ok (.iushr, 1) := by decide +kernel
theorem d_Sha_mix_76 : decode b_Sha_mix 76 = .ok (.ixor, 1) := by decide +kernel
theorem d_Sha_mix_77 : decode b_Sha_mix 77 = .ok (.istore 5, 2) := by decide +kernel
theorem d_Sha_mix_79 : decode b_Sha_mix 79 = .ok (.aload_n 0, 1) := by decide +kernel
theorem d_Sha_mix_80 : decode b_Sha_mix 80 = .ok (.getfield 9, 3) := by decide +kernel
theorem d_Sha_mix_83 : decode b_Sha_mix 83 = .ok (.iload_n 1, 1) := by decide +kernel
theorem d_Sha_mix_84 : decode b_Sha_mix 84 = .ok (.aload_n 0, 1) := by decide +kernel
theorem d_Sha_mix_85 : decode b_Sha_mix 85 = .ok (.getfield 9, 3) := by decide +kernel
theorem d_Sha_mix_88 : decode b_Sha_mix 88 = .ok (.iload_n 1, 1) := by decide +kernel
theorem d_Sha_mix_89 : decode b_Sha_mix 89 = .ok (.bipush 16, 2) := by decide +kernel
theorem d_Sha_mix_91 : decode b_Sha_mix 91 = .ok (.isub, 1) := by decide +kernel
theorem d_Sha_mix_92 : decode b_Sha_mix 92 = .ok (.iaload, 1) := by decide +kernel
theorem d_Sha_mix_93 : decode b_Sha_mix 93 = .ok (.iload 4, 2) := by decide +kernel
theorem d_Sha_mix_95 : decode b_Sha_mix 95 = .ok (.iadd, 1) := by decide +kernel
theorem d_Sha_mix_96 : decode b_Sha_mix 96 = .ok (.aload_n 0, 1) := by decide +kernel
theorem d_Sha_mix_97 : decode b_Sha_mix 97 = .ok (.getfield 9, 3) := by decide +kernel
theorem d_Sha_mix_100 : decode b_Sha_mix 100 = .ok (.iload_n 1, 1) := by decide +kernel
theorem d_Sha_mix_101 : decode b_Sha_mix 101 = .ok (.bipush 7, 2) := by decide +kernel
theorem d_Sha_mix_103 : decode b_Sha_mix 103 = .ok (.isub, 1) := by decide +kernel
theorem d_Sha_mix_104 : decode b_Sha_mix 104 = .ok (.iaload, 1) := by decide +kernel
theorem d_Sha_mix_105 : decode b_Sha_mix 105 = .ok (.iadd, 1) := by decide +kernel
theorem d_Sha_mix_106 : decode b_Sha_mix 106 = .ok (.iload 5, 2) := by decide +kernel
theorem d_Sha_mix_108 : decode b_Sha_mix 108 = .ok (.iadd, 1) := by decide +kernel
theorem d_Sha_mix_109 : decode b_Sha_mix 109 = .ok (.iastore, 1) := by decide +kernel
theorem d_Sha_mix_110 : decode b_Sha_mix 110 = .ok (.iinc 1 1, 3) := by decide +kernel
theorem d_Sha_mix_113 : decode b_Sha_mix 113 = .ok (.goto (-110), 3) := by decide +kernel
theorem d_Sha_mix_116 : decode b_Sha_mix 116 = .ok (.aload_n 0, 1) := by decide +kernel
theorem d_Sha_mix_117 : decode b_Sha_mix 117 = .ok (.getfield 15, 3) := by decide +kernel
theorem d_Sha_mix_120 : decode b_Sha_mix 120 = .ok (.iconst 0, 1) := by decide +kernel
theorem d_Sha_mix_121 : decode b_Sha_mix 121 = .ok (.iaload, 1) := by decide +kernel
theorem d_Sha_mix_122 : decode b_Sha_mix 122 = .ok (.istore_n 1, 1) := by decide +kernel
theorem d_Sha_mix_123 : decode b_Sha_mix 123 = .ok (.aload_n 0, 1) := by decide +kernel
theorem d_Sha_mix_124 : decode b_Sha_mix 124 = .ok (.getfield 15, 3) := by decide +kernel
theorem d_Sha_mix_127 : decode b_Sha_mix 127 = .ok (.iconst 1, 1) := by decide +kernel
theorem d_Sha_mix_128 : decode b_Sha_mix 128 = .ok (.iaload, 1) := by decide +kernel
theorem d_Sha_mix_129 : decode b_Sha_mix 129 = .ok (.istore_n 2, 1) := by decide +kernel
theorem d_Sha_mix_130 : decode b_Sha_mix 130 = .ok (.aload_n 0, 1) := by decide +kernel
theorem d_Sha_mix_131 : decode b_Sha_mix 131 = .ok (.getfield 15, 3) := by decide +kernel
theorem d_Sha_mix_134 : decode b_Sha_mix 134 = .ok (.iconst 2, 1) := by decide +kernel
theorem d_Sha_mix_135 : decode b_Sha_mix 135 = .ok (.iaload, 1) := by decide +kernel
theorem d_Sha_mix_136 : decode b_Sha_mix 136 = .ok (.istore_n 3, 1) := by decide +kernel
theorem d_Sha_mix_137 : decode b_Sha_mix 137 = .ok (.aload_n 0, 1) := by decide +kernel
theorem d_Sha_mix_138 : decode b_Sha_mix 138 = .ok (.getfield 15, 3) := by decide +kernel
theorem d_Sha_mix_141 : decode b_Sha_mix 141 = .ok (.iconst 3, 1) := by decide +kernel
theorem d_Sha_mix_142 : decode b_Sha_mix 142 = .ok (.iaload, 1) := by decide +kernel
theorem d_Sha_mix_143 : decode b_Sha_mix 143 = .ok (.istore 4, 2) := by decide +kernel
theorem d_Sha_mix_145 : decode b_Sha_mix 145 = .ok (.aload_n 0, 1) := by decide +kernel
theorem d_Sha_mix_146 : decode b_Sha_mix 146 = .ok (.getfield 15, 3) := by decide +kernel
theorem d_Sha_mix_149 : decode b_Sha_mix 149 = .ok (.iconst 4, 1) := by decide +kernel
theorem d_Sha_mix_150 : decode b_Sha_mix 150 = .ok (.iaload, 1) := by decide +kernel
theorem d_Sha_mix_151 : decode b_Sha_mix 151 = .ok (.istore 5, 2) := by decide +kernel
theorem d_Sha_mix_153 : decode b_Sha_mix 153 = .ok (.aload_n 0, 1) := by decide +kernel
theorem d_Sha_mix_154 : decode b_Sha_mix 154 = .ok (.getfield 15, 3) := by decide +kernel
theorem d_Sha_mix_157 : decode b_Sha_mix 157 = .ok (.iconst 5, 1) := by decide +kernel
theorem d_Sha_mix_158 : decode b_Sha_mix 158 = .ok (.iaload, 1) := by decide +kernel
theorem d_Sha_mix_159 : decode b_Sha_mix 159 = .ok (.istore 6, 2) := by decide +kernel
theorem d_Sha_mix_161 : decode b_Sha_mix 161 = .ok (.aload_n 0, 1) := by decide +kernel
theorem d_Sha_mix_162 : decode b_Sha_mix 162 = .ok (.getfield 15, 3) := by decide +kernel
theorem d_Sha_mix_165 : decode b_Sha_mix 165 = .ok (.bipush 6, 2) := by decide +kernel
theorem d_Sha_mix_167 : decode b_Sha_mix 167 = .ok (.iaload, 1) := by decide +kernel
theorem d_Sha_mix_168 : decode b_Sha_mix 168 = .ok (.istore 7, 2) := by decide +kernel
theorem d_Sha_mix_170 : decode b_Sha_mix 170 = .ok (.aload_n 0, 1) := by decide +kernel
theorem d_Sha_mix_171 : decode b_Sha_mix 171 = .ok (.getfield 15, 3) := by decide +kernel
theorem d_Sha_mix_174 : decode b_Sha_mix 174 = .ok (.bipush 7, 2) := by decide +kernel
theorem d_Sha_mix_176 : decode b_Sha_mix 176 = .ok (.iaload, 1) := by decide +kernel
theorem d_Sha_mix_177 : decode b_Sha_mix 177 = .ok (.istore 8, 2) := by decide +kernel
theorem d_Sha_mix_179 : decode b_Sha_mix 179 = .ok (.iconst 0, 1) := by decide +kernel
theorem d_Sha_mix_180 : decode b_Sha_mix 180 = .ok (.istore 9, 2) := by decide +kernel
theorem d_Sha_mix_182 : decode b_Sha_mix 182 = .ok (.iload 9, 2) := by decide +kernel
theorem d_Sha_mix_184 : decode b_Sha_mix 184 = .ok (.bipush 64, 2) := by decide +kernel
theorem d_Sha_mix_186 : decode b_Sha_mix 186 = .ok (.if_icmp .ge 160, 3) := by decide +kernel
theorem d_Sha_mix_189 : decode b_Sha_mix 189 = .ok (.iload 5, 2) := by decide +kernel
theorem d_Sha_mix_191 : decode b_Sha_mix 191 = .ok (.bipush 6, 2) := by decide +kernel
theorem d_Sha_mix_193 : decode b_Sha_mix 193 = .ok (.iushr, 1) := by decide +kernel
theorem d_Sha_mix_194 : decode b_Sha_mix 194 = .ok (.iload 5, 2) := by decide +kernel
theorem d_Sha_mix_196 : decode b_Sha_mix 196 = .ok (.bipush 26, 2) := by decide +kernel
theorem d_Sha_mix_198 : decode b_Sha_mix 198 = .ok (.ishl, 1) := by decide +kernel
theorem d_Sha_mix_199 : decode b_Sha_mix 199 = .ok (.ior, 1) := by decide +kernel
theorem d_Sha_mix_200 : decode b_Sha_mix 200 = .ok (.iload 5, 2) := by decide +kernel
theorem d_Sha_mix_202 : decode b_Sha_mix 202 = .ok (.bipush 11, 2) := by decide +kernel
theorem d_Sha_mix_204 : decode b_Sha_mix 204 = .ok (.iushr, 1) := by decide +kernel
theorem d_Sha_mix_205 : decode b_Sha_mix 205 = .ok (.iload 5, 2) := by decide +kernel
theorem d_Sha_mix_207 : decode b_Sha_mix 207 = .ok (.bipush 21, 2) := by decide +kernel
theorem d_Sha_mix_209 : decode b_Sha_mix 209 = .ok (.ishl, 1) := by decide +kernel
theorem d_Sha_mix_210 : decode b_Sha_mix 210 = .ok (.ior, 1) := by decide +kernel
theorem d_Sha_mix_211 : decode b_Sha_mix 211 = .ok (.ixor, 1) := by decide +kernel
theorem d_Sha_mix_212 : decode b_Sha_mix 212 = .ok (.iload 5, 2) := by decide +kernel
theorem d_Sha_mix_214 : decode b_Sha_mix 214 = .ok (.bipush 25, 2) := by decide +kernel
theorem d_Sha_mix_216 : decode b_Sha_mix 216 = .ok (.iushr, 1) := by decide +kernel
theorem d_Sha_mix_217 : decode b_Sha_mix 217 = .ok (.iload 5, 2) := by decide +kernel
theorem d_Sha_mix_219 : decode b_Sha_mix 219 = .ok (.bipush 7, 2) := by decide +kernel
theorem d_Sha_mix_221 : decode b_Sha_mix 221 = .ok (.ishl, 1) := by decide +kernel
theorem d_Sha_mix_222 : decode b_Sha_mix 222 = .ok (.ior, 1) := by decide +kernel
theorem d_Sha_mix_223 : decode b_Sha_mix 223 = .ok (.ixor, 1) := by decide +kernel
theorem d_Sha_mix_224 : decode b_Sha_mix 224 = .ok (.istore 10, 2) := by decide +kernel
theorem d_Sha_mix_226 : decode b_Sha_mix 226 = .ok (.iload 8, 2) := by decide +kernel
theorem d_Sha_mix_228 : decode b_Sha_mix 228 = .ok (.iload 10, 2) := by decide +kernel
theorem d_Sha_mix_230 : decode b_Sha_mix 230 = .ok (.iadd, 1) := by decide +kernel
theorem d_Sha_mix_231 : decode b_Sha_mix 231 = .ok (.iload 5, 2) := by decide +kernel
theorem d_Sha_mix_233 : decode b_Sha_mix 233 = .ok (.iload 6, 2) := by decide +kernel
theorem d_Sha_mix_235 : decode b_Sha_mix 235 = .ok (.iand, 1) := by decide +kernel
theorem d_Sha_mix_236 : decode b_Sha_mix 236 = .ok (.iload 5, 2) := by decide +kernel
theorem d_Sha_mix_238 : decode b_Sha_mix 238 = .ok (.iconst (-1), 1) := by decide +kernel
theorem d_Sha_mix_239 : decode b_Sha_mix 239 = .ok (.ixor, 1) := by decide +kernel
theorem d_Sha_mix_240 : decode b_Sha_mix 240 = .ok (.iload 7, 2) := by decide +kernel
theorem d_Sha_mix_242 : decode b_Sha_mix 242 = .ok (.iand, 1) := by decide +kernel
theorem d_Sha_mix_243 : decode b_Sha_mix 243 = .ok (.ixor, 1) := by decide +kernel
theorem d_Sha_mix_244 : decode b_Sha_mix 244 = .ok (.iadd, 1) := by decide +kernel
theorem d_Sha_mix_245 : decode b_Sha_mix 245 = .ok (.getstatic 42, 3) := by decide +kernel
theorem d_Sha_mix_248 : decode b_Sha_mix 248 = .ok (.iload 9, 2) := by decide +kernel
theorem d_Sha_mix_250 : decode b_Sha_mix 250 = .ok (.iaload, 1) := by decide +kernel
theorem d_Sha_mix_251 : decode b_Sha_mix 251 = .ok (.iadd, 1) := by decide +kernel
theorem d_Sha_mix_252 : decode b_Sha_mix 252 = .ok (.aload_n 0, 1) := by decide +kernel
theorem d_Sha_mix_253 : decode b_Sha_mix 253 = .ok (.getfield 9, 3) := by decide +kernel
theorem d_Sha_mix_256 : decode b_Sha_mix 256 = .ok (.iload 9, 2) := by decide +kernel
theorem d_Sha_mix_258 : decode b_Sha_mix 258 = .ok (.iaload, 1) := by decide +kernel
theorem d_Sha_mix_259 : decode b_Sha_mix 259 = .ok (.iadd, 1) := by decide +kernel
theorem d_Sha_mix_260 : decode b_Sha_mix 260 = .ok (.istore 11, 2) := by decide +kernel
theorem d_Sha_mix_262 : decode b_Sha_mix 262 = .ok (.iload_n 1, 1) := by decide +kernel
theorem d_Sha_mix_263 : decode b_Sha_mix 263 = .ok (.iconst 2, 1) := by decide +kernel
theorem d_Sha_mix_264 : decode b_Sha_mix 264 = .ok (.iushr, 1) := by decide +kernel
theorem d_Sha_mix_265 : decode b_Sha_mix 265 = .ok (.iload_n 1, 1) := by decide +kernel
theorem d_Sha_mix_266 : decode b_Sha_mix 266 = .ok (.bipush 30, 2) := by decide +kernel
theorem d_Sha_mix_268 : decode b_Sha_mix 268 = .ok (.ishl, 1) := by decide +kernel
theorem d_Sha_mix_269 : decode b_Sha_mix 269 = .ok (.ior, 1) := by decide +kernel
theorem d_Sha_mix_270 : decode b_Sha_mix 270 = .ok (.iload_n 1, 1) := by decide +kernel
theorem d_Sha_mix_271 : decode b_Sha_mix 271 = .ok (.bipush 13, 2) := by decide +kernel
theorem d_Sha_mix_273 : decode b_Sha_mix 273 = .ok (.iushr, 1) := by decide +kernel
theorem d_Sha_mix_274 : decode b_Sha_mix 274 = .ok (.iload_n 1, 1) := by decide +kernel
theorem d_Sha_mix_275 : decode b_Sha_mix 275 = .ok (.bipush 19, 2) := by decide +kernel
theorem d_Sha_mix_277 : decode b_Sha_mix 277 = .ok (.ishl, 1) := by decide +kernel
theorem d_Sha_mix_278 : decode b_Sha_mix 278 = .ok (.ior, 1) := by decide +kernel
theorem d_Sha_mix_279 : decode b_Sha_mix 279 = .ok (.ixor, 1) := by decide +kernel
theorem d_Sha_mix_280 : decode b_Sha_mix 280 = .ok (.iload_n 1, 1) := by decide +kernel
theorem d_Sha_mix_281 : decode b_Sha_mix 281 = .ok (.bipush 22, 2) := by decide +kernel
theorem d_Sha_mix_283 : decode b_Sha_mix 283 = .ok (.iushr, 1) := by decide +kernel
end
section
theorem d_Sha_mix_284 : decode b_Sha_mix 284 = .ok (.iload_n 1, 1) := by decide +kernel
theorem d_Sha_mix_285 : decode b_Sha_mix 285 = .ok (.bipush 10, 2) := by decide +kernel
theorem d_Sha_mix_287 : decode b_Sha_mix 287 = .ok (.ishl, 1) := by decide +kernel
theorem d_Sha_mix_288 : decode b_Sha_mix 288 = .ok (.ior, 1) := by decide +kernel
theorem d_Sha_mix_289 : decode b_Sha_mix 289 = .ok (.ixor, 1) := by decide +kernel
theorem d_Sha_mix_290 : decode b_Sha_mix 290 = .ok (.istore 12, 2) := by decide +kernel
theorem d_Sha_mix_292 : decode b_Sha_mix 292 = .ok (.iload 12, 2) := by decide +kernel
theorem d_Sha_mix_294 : decode b_Sha_mix 294 = .ok (.iload_n 1, 1) := by decide +kernel
theorem d_Sha_mix_295 : decode b_Sha_mix 295 = .ok (.iload_n 2, 1) := by decide +kernel
theorem d_Sha_mix_296 : decode b_Sha_mix 296 = .ok (.iand, 1) := by decide +kernel
theorem d_Sha_mix_297 : decode b_Sha_mix 297 = .ok (.iload_n 1, 1) := by decide +kernel
theorem d_Sha_mix_298 : decode b_Sha_mix 298 = .ok (.iload_n 3, 1) := by decide +kernel
theorem d_Sha_mix_299 : decode b_Sha_mix 299 = .ok (.iand, 1) := by decide +kernel
theorem d_Sha_mix_300 : decode b_Sha_mix 300 = .ok (.ixor, 1) := by decide +kernel
theorem d_Sha_mix_301 : decode b_Sha_mix 301 = .ok (.iload_n 2, 1) := by decide +kernel
theorem d_Sha_mix_302 : decode b_Sha_mix 302 = .ok (.iload_n 3, 1) := by decide +kernel
theorem d_Sha_mix_303 : decode b_Sha_mix 303 = .ok (.iand, 1) := by decide +kernel
theorem d_Sha_mix_304 : decode b_Sha_mix 304 = .ok (.ixor, 1) := by decide +kernel
theorem d_Sha_mix_305 : decode b_Sha_mix 305 = .ok (.iadd, 1) := by decide +kernel
theorem d_Sha_mix_306 : decode b_Sha_mix 306 = .ok (.istore 13, 2) := by decide +kernel
theorem d_Sha_mix_308 : decode b_Sha_mix 308 = .ok (.iload 7, 2) := by decide +kernel
theorem d_Sha_mix_310 : decode b_Sha_mix 310 = .ok (.istore 8, 2) := by decide +kernel
theorem d_Sha_mix_312 : decode b_Sha_mix 312 = .ok (.iload 6, 2) := by decide +kernel
theorem d_Sha_mix_314 : decode b_Sha_mix 314 = .ok (.istore 7, 2) := by decide +kernel
theorem d_Sha_mix_316 : decode b_Sha_mix 316 = .ok (.iload 5, 2) := by decide +kernel
theorem d_Sha_mix_318 : decode b_Sha_mix 318 = .ok (.istore 6, 2) := by decide +kernel
theorem d_Sha_mix_320 : decode b_Sha_mix 320 = .ok (.iload 4, 2) := by decide +kernel
theorem d_Sha_mix_322 : decode b_Sha_mix 322 = .ok (.iload 11, 2) := by decide +kernel
theorem d_Sha_mix_324 : decode b_Sha_mix 324 = .ok (.iadd, 1) := by decide +kernel
theorem d_Sha_mix_325 : decode b_Sha_mix 325 = .ok (.istore 5, 2) := by decide +kernel
theorem d_Sha_mix_327 : decode b_Sha_mix 327 = .ok (.iload_n 3, 1) := by decide +kernel
theorem d_Sha_mix_328 : decode b_Sha_mix 328 = .ok (.istore 4, 2) := by decide +kernel
theorem d_Sha_mix_330 : decode b_Sha_mix 330 = .ok (.iload_n 2, 1) := by decide +kernel
theorem d_Sha_mix_331 : decode b_Sha_mix 331 = .ok (.istore_n 3, 1) := by decide +kernel
theorem d_Sha_mix_332 : decode b_Sha_mix 332 = .ok (.iload_n 1, 1) := by decide +kernel
theorem d_Sha_mix_333 : decode b_Sha_mix 333 = .ok (.istore_n 2, 1) := by decide +kernel
theorem d_Sha_mix_334 : decode b_Sha_mix 334 = .ok (.iload 11, 2) := by decide +kernel
theorem d_Sha_mix_336 : decode b_Sha_mix 336 = .ok (.iload 13, 2) := by decide +kernel
theorem d_Sha_mix_338 : decode b_Sha_mix 338 = .ok (.iadd, 1) := by decide +kernel
theorem d_Sha_mix_339 : decode b_Sha_mix 339 = .ok (.istore_n 1, 1) := by decide +kernel
theorem d_Sha_mix_340 : decode b_Sha_mix 340 = .ok (.iinc 9 1, 3) := by decide +kernel
theorem d_Sha_mix_343 : decode b_Sha_mix 343 = .ok (.goto (-161), 3) := by decide +kernel
theorem d_Sha_mix_346 : decode b_Sha_mix 346 = .ok (.aload_n 0, 1) := by decide +kernel
theorem d_Sha_mix_347 : decode b_Sha_mix 347 = .ok (.getfield 15, 3) := by decide +kernel
theorem d_Sha_mix_350 : decode b_Sha_mix 350 = .ok (.iconst 0, 1) := by decide +kernel
theorem d_Sha_mix_351 : decode b_Sha_mix 351 = .ok (.dup2, 1) := by decide +kernel
theorem d_Sha_mix_352 : decode b_Sha_mix 352 = .ok (.iaload, 1) := by decide +kernel
theorem d_Sha_mix_353 : decode b_Sha_mix 353 = .ok (.iload_n 1, 1) := by decide +kernel
theorem d_Sha_mix_354 : decode b_Sha_mix 354 = .ok (.iadd, 1) := by decide +kernel
theorem d_Sha_mix_355 : decode b_Sha_mix 355 = .ok (.iastore, 1) := by decide +kernel
theorem d_Sha_mix_356 : decode b_Sha_mix 356 = .ok (.aload_n 0, 1) := by decide +kernel
theorem d_Sha_mix_357 : decode b_Sha_mix 357 = .ok (.getfield 15, 3) := by decide +kernel
theorem d_Sha_mix_360 : decode b_Sha_mix 360 = .ok (.iconst 1, 1) := by decide +kernel
theorem d_Sha_mix_361 : decode b_Sha_mix 361 = .ok (.dup2, 1) := by decide +kernel
theorem d_Sha_mix_362 : decode b_Sha_mix 362 = .ok (.iaload, 1) := by decide +kernel
theorem d_Sha_mix_363 : decode b_Sha_mix 363 = .ok (.iload_n 2, 1) := by decide +kernel
theorem d_Sha_mix_364 : decode b_Sha_mix 364 = .ok (.iadd, 1) := by decide +kernel
theorem d_Sha_mix_365 : decode b_Sha_mix 365 = .ok (.iastore, 1) := by decide +kernel
theorem d_Sha_mix_366 : decode b_Sha_mix 366 = .ok (.aload_n 0, 1) := by decide +kernel
theorem d_Sha_mix_367 : decode b_Sha_mix 367 = .ok (.getfield 15, 3) := by decide +kernel
theorem d_Sha_mix_370 : decode b_Sha_mix 370 = .ok (.iconst 2, 1) := by decide +kernel
theorem d_Sha_mix_371 : decode b_Sha_mix 371 = .ok (.dup2, 1) := by decide +kernel
theorem d_Sha_mix_372 : decode b_Sha_mix 372 = .ok (.iaload, 1) := by decide +kernel
theorem d_Sha_mix_373 : decode b_Sha_mix 373 = .ok (.iload_n 3, 1) := by decide +kernel
theorem d_Sha_mix_374 : decode b_Sha_mix 374 = .ok (.iadd, 1) := by decide +kernel
theorem d_Sha_mix_375 : decode b_Sha_mix 375 = .ok (.iastore, 1) := by decide +kernel
theorem d_Sha_mix_376 : decode b_Sha_mix 376 = .ok (.aload_n 0, 1) := by decide +kernel
theorem d_Sha_mix_377 : decode b_Sha_mix 377 = .ok (.getfield 15, 3) := by decide +kernel
theorem d_Sha_mix_380 : decode b_Sha_mix 380 = .ok (.iconst 3, 1) := by decide +kernel
theorem d_Sha_mix_381 : decode b_Sha_mix 381 = .ok (.dup2, 1) := by decide +kernel
theorem d_Sha_mix_382 : decode b_Sha_mix 382 = .ok (.iaload, 1) := by decide +kernel
theorem d_Sha_mix_383 : decode b_Sha_mix 383 = .ok (.iload 4, 2) := by decide +kernel
theorem d_Sha_mix_385 : decode b_Sha_mix 385 = .ok (.iadd, 1) := by decide +kernel
theorem d_Sha_mix_386 : decode b_Sha_mix 386 = .ok (.iastore, 1) := by decide +kernel
theorem d_Sha_mix_387 : decode b_Sha_mix 387 = .ok (.aload_n 0, 1) := by decide +kernel
theorem d_Sha_mix_388 : decode b_Sha_mix 388 = .ok (.getfield 15, 3) := by decide +kernel
theorem d_Sha_mix_391 : decode b_Sha_mix 391 = .ok (.iconst 4, 1) := by decide +kernel
theorem d_Sha_mix_392 : decode b_Sha_mix 392 = .ok (.dup2, 1) := by decide +kernel
theorem d_Sha_mix_393 : decode b_Sha_mix 393 = .ok (.iaload, 1) := by decide +kernel
theorem d_Sha_mix_394 : decode b_Sha_mix 394 = .ok (.iload 5, 2) := by decide +kernel
theorem d_Sha_mix_396 : decode b_Sha_mix 396 = .ok (.iadd, 1) := by decide +kernel
theorem d_Sha_mix_397 : decode b_Sha_mix 397 = .ok (.iastore, 1) := by decide +kernel
theorem d_Sha_mix_398 : decode b_Sha_mix 398 = .ok (.aload_n 0, 1) := by decide +kernel
theorem d_Sha_mix_399 : decode b_Sha_mix 399 = .ok (.getfield 15, 3) := by decide +kernel
theorem d_Sha_mix_402 : decode b_Sha_mix 402 = .ok (.iconst 5, 1) := by decide +kernel
theorem d_Sha_mix_403 : decode b_Sha_mix 403 = .ok (.dup2, 1) := by decide +kernel
theorem d_Sha_mix_404 : decode b_Sha_mix 404 = .ok (.iaload, 1) := by decide +kernel
theorem d_Sha_mix_405 : decode b_Sha_mix 405 = .ok (.iload 6, 2) := by decide +kernel
theorem d_Sha_mix_407 : decode b_Sha_mix 407 = .ok (.iadd, 1) := by decide +kernel
theorem d_Sha_mix_408 : decode b_Sha_mix 408 = .ok (.iastore, 1) := by decide +kernel
theorem d_Sha_mix_409 : decode b_Sha_mix 409 = .ok (.aload_n 0, 1) := by decide +kernel
theorem d_Sha_mix_410 : decode b_Sha_mix 410 = .ok (.getfield 15, 3) := by decide +kernel
theorem d_Sha_mix_413 : decode b_Sha_mix 413 = .ok (.bipush 6, 2) := by decide +kernel
theorem d_Sha_mix_415 : decode b_Sha_mix 415 = .ok (.dup2, 1) := by decide +kernel
theorem d_Sha_mix_416 : decode b_Sha_mix 416 = .ok (.iaload, 1) := by decide +kernel
theorem d_Sha_mix_417 : decode b_Sha_mix 417 = .ok (.iload 7, 2) := by decide +kernel
theorem d_Sha_mix_419 : decode b_Sha_mix 419 = .ok (.iadd, 1) := by decide +kernel
theorem d_Sha_mix_420 : decode b_Sha_mix 420 = .ok (.iastore, 1) := by decide +kernel
theorem d_Sha_mix_421 : decode b_Sha_mix 421 = .ok (.aload_n 0, 1) := by decide +kernel
theorem d_Sha_mix_422 : decode b_Sha_mix 422 = .ok (.getfield 15, 3) := by decide +kernel
theorem d_Sha_mix_425 : decode b_Sha_mix 425 = .ok (.bipush 7, 2) := by decide +kernel
theorem d_Sha_mix_427 : decode b_Sha_mix 427 = .ok (.dup2, 1) := by decide +kernel
theorem d_Sha_mix_428 : decode b_Sha_mix 428 = .ok (.iaload, 1) := by decide +kernel
theorem d_Sha_mix_429 : decode b_Sha_mix 429 = .ok (.iload 8, 2) := by decide +kernel
theorem d_Sha_mix_431 : decode b_Sha_mix 431 = .ok (.iadd, 1) := by decide +kernel
theorem d_Sha_mix_432 : decode b_Sha_mix 432 = .ok (.iastore, 1) := by decide +kernel
theorem d_Sha_mix_433 : decode b_Sha_mix 433 = .ok (.return_, 1) := by decide +kernel
theorem d_View_init_0 : decode b_View_init 0 = .ok (.aload_n 0, 1) := by decide +kernel
theorem d_View_init_1 : decode b_View_init 1 = .ok (.invokespecial 1, 3) := by decide +kernel
theorem d_View_init_4 : decode b_View_init 4 = .ok (.return_, 1) := by decide +kernel
theorem d_law_0 : decode code 0 = .ok (.new 7, 3) := by decide +kernel
theorem d_law_3 : decode code 3 = .ok (.dup, 1) := by decide +kernel
theorem d_law_4 : decode code 4 = .ok (.invokespecial 9, 3) := by decide +kernel
theorem d_law_7 : decode code 7 = .ok (.astore_n 1, 1) := by decide +kernel
theorem d_law_8 : decode code 8 = .ok (.new 10, 3) := by decide +kernel
theorem d_law_11 : decode code 11 = .ok (.dup, 1) := by decide +kernel
theorem d_law_12 : decode code 12 = .ok (.invokespecial 12, 3) := by decide +kernel
theorem d_law_15 : decode code 15 = .ok (.astore_n 2, 1) := by decide +kernel
theorem d_law_16 : decode code 16 = .ok (.iconst 0, 1) := by decide +kernel
theorem d_law_17 : decode code 17 = .ok (.istore_n 3, 1) := by decide +kernel
theorem d_law_18 : decode code 18 = .ok (.iload_n 3, 1) := by decide +kernel
theorem d_law_19 : decode code 19 = .ok (.aload_n 0, 1) := by decide +kernel
theorem d_law_20 : decode code 20 = .ok (.arraylength, 1) := by decide +kernel
theorem d_law_21 : decode code 21 = .ok (.bipush 6, 2) := by decide +kernel
theorem d_law_23 : decode code 23 = .ok (.isub, 1) := by decide +kernel
theorem d_law_24 : decode code 24 = .ok (.if_icmp .gt 672, 3) := by decide +kernel
theorem d_law_27 : decode code 27 = .ok (.aload_n 0, 1) := by decide +kernel
theorem d_law_28 : decode code 28 = .ok (.iload_n 3, 1) := by decide +kernel
theorem d_law_29 : decode code 29 = .ok (.iaload, 1) := by decide +kernel
theorem d_law_30 : decode code 30 = .ok (.bipush 31, 2) := by decide +kernel
theorem d_law_32 : decode code 32 = .ok (.iand, 1) := by decide +kernel
theorem d_law_33 : decode code 33 = .ok (.tableswitch 657 0 18 #[91, 154, 177, 210, 223, 236, 305, 328, 391, 424, 447, 460, 473, 497, 530, 563, 577, 610, 633], 91) := by decide +kernel
theorem d_law_124 : decode code 124 = .ok (.aload_n 1, 1) := by decide +kernel
theorem d_law_125 : decode code 125 = .ok (.aload_n 0, 1) := by decide +kernel
theorem d_law_126 : decode code 126 = .ok (.iload_n 3, 1) := by decide +kernel
theorem d_law_127 : decode code 127 = .ok (.iconst 1, 1) := by decide +kernel
theorem d_law_128 : decode code 128 = .ok (.iadd, 1) := by decide +kernel
theorem d_law_129 : decode code 129 = .ok (.iaload, 1) := by decide +kernel
theorem d_law_130 : decode code 130 = .ok (.aload_n 0, 1) := by decide +kernel
theorem d_law_131 : decode code 131 = .ok (.iload_n 3, 1) := by decide +kernel
theorem d_law_132 : decode code 132 = .ok (.iconst 2, 1) := by decide +kernel
theorem d_law_133 : decode code 133 = .ok (.iadd, 1) := by decide +kernel
theorem d_law_134 : decode code 134 = .ok (.iaload, 1) := by decide +kernel
theorem d_law_135 : decode code 135 = .ok (.aload_n 0, 1) := by decide +kernel
theorem d_law_136 : decode code 136 = .ok (.iload_n 3, 1) := by decide +kernel
theorem d_law_137 : decode code 137 = .ok (.iconst 3, 1) := by decide +kernel
theorem d_law_138 : decode code 138 = .ok (.iadd, 1) := by decide +kernel
theorem d_law_139 : decode code 139 = .ok (.iaload, 1) := by decide +kernel
theorem d_law_140 : decode code 140 = .ok (.aload_n 0, 1) := by decide +kernel
theorem d_law_141 : decode code 141 = .ok (.iload_n 3, 1) := by decide +kernel
theorem d_law_142 : decode code 142 = .ok (.iconst 4, 1) := by decide +kernel
theorem d_law_143 : decode code 143 = .ok (.iadd, 1) := by decide +kernel
theorem d_law_144 : decode code 144 = .ok (.iaload, 1) := by decide +kernel
theorem d_law_145 : decode code 145 = .ok (.aload_n 0, 1) := by decide +kernel
theorem d_law_146 : decode code 146 = .ok (.iload_n 3, 1) := by decide +kernel
theorem d_law_147 : decode code 147 = .ok (.iconst 5, 1) := by decide +kernel
theorem d_law_148 : decode code 148 = .ok (.iadd, 1) := by decide +kernel
theorem d_law_149 : decode code 149 = .ok (.iaload, 1) := by decide +kernel
theorem d_law_150 : decode code 150 = .ok (.invokevirtual 13, 3) := by decide +kernel
theorem d_law_153 : decode code 153 = .ok (.aload_n 2, 1) := by decide +kernel
theorem d_law_154 : decode code 154 = .ok (.aload_n 0, 1) := by decide +kernel
theorem d_law_155 : decode code 155 = .ok (.iload_n 3, 1) := by decide +kernel
theorem d_law_156 : decode code 156 = .ok (.iconst 1, 1) := by decide +kernel
theorem d_law_157 : decode code 157 = .ok (.iadd, 1) := by decide +kernel
theorem d_law_158 : decode code 158 = .ok (.iaload, 1) := by decide +kernel
theorem d_law_159 : decode code 159 = .ok (.aload_n 0, 1) := by decide +kernel
theorem d_law_160 : decode code 160 = .ok (.iload_n 3, 1) := by decide +kernel
theorem d_law_161 : decode code 161 = .ok (.iconst 2, 1) := by decide +kernel
theorem d_law_162 : decode code 162 = .ok (.iadd, 1) := by decide +kernel
theorem d_law_163 : decode code 163 = .ok (.iaload, 1) := by decide +kernel
theorem d_law_164 : decode code 164 = .ok (.aload_n 0, 1) := by decide +kernel
theorem d_law_165 : decode code 165 = .ok (.iload_n 3, 1) := by decide +kernel
theorem d_law_166 : decode code 166 = .ok (.iconst 3, 1) := by decide +kernel
theorem d_law_167 : decode code 167 = .ok (.iadd, 1) := by decide +kernel
theorem d_law_168 : decode code 168 = .ok (.iaload, 1) := by decide +kernel
theorem d_law_169 : decode code 169 = .ok (.aload_n 0, 1) := by decide +kernel
theorem d_law_170 : decode code 170 = .ok (.iload_n 3, 1) := by decide +kernel
theorem d_law_171 : decode code 171 = .ok (.iconst 4, 1) := by decide +kernel
theorem d_law_172 : decode code 172 = .ok (.iadd, 1) := by decide +kernel
theorem d_law_173 : decode code 173 = .ok (.iaload, 1) := by decide +kernel
theorem d_law_174 : decode code 174 = .ok (.aload_n 0, 1) := by decide +kernel
theorem d_law_175 : decode code 175 = .ok (.iload_n 3, 1) := by decide +kernel
theorem d_law_176 : decode code 176 = .ok (.iconst 5, 1) := by decide +kernel
theorem d_law_177 : decode code 177 = .ok (.iadd, 1) := by decide +kernel
theorem d_law_178 : decode code 178 = .ok (.iaload, 1) := by decide +kernel
theorem d_law_179 : decode code 179 = .ok (.invokevirtual 17, 3) := by decide +kernel
theorem d_law_182 : decode code 182 = .ok (.if_icmp .eq 508, 3) := by decide +kernel
theorem d_law_187 : decode code 187 = .ok (.aload_n 1, 1) := by decide +kernel
theorem d_law_188 : decode code 188 = .ok (.aload_n 0, 1) := by decide +kernel
theorem d_law_189 : decode code 189 = .ok (.iload_n 3, 1) := by decide +kernel
theorem d_law_190 : decode code 190 = .ok (.iconst 1, 1) := by decide +kernel
theorem d_law_191 : decode code 191 = .ok (.iadd, 1) := by decide +kernel
theorem d_law_192 : decode code 192 = .ok (.iaload, 1) := by decide +kernel
theorem d_law_193 : decode code 193 = .ok (.invokevirtual 18, 3) := by decide +kernel
theorem d_law_196 : decode code 196 = .ok (.aload_n 2, 1) := by decide +kernel
theorem d_law_197 : decode code 197 = .ok (.aload_n 0, 1) := by decide +kernel
theorem d_law_198 : decode code 198 = .ok (.iload_n 3, 1) := by decide +kernel
theorem d_law_199 : decode code 199 = .ok (.iconst 1, 1) := by decide +kernel
theorem d_law_200 : decode code 200 = .ok (.iadd, 1) := by decide +kernel
theorem d_law_201 : decode code 201 = .ok (.iaload, 1) := by decide +kernel
theorem d_law_202 : decode code 202 = .ok (.invokevirtual 22, 3) := by decide +kernel
theorem d_law_205 : decode code 205 = .ok (.if_icmp .eq 485, 3) := by decide +kernel
theorem d_law_210 : decode code 210 = .ok (.aload_n 1, 1) := by decide +kernel
theorem d_law_211 : decode code 211 = .ok (.aload_n 0, 1) := by decide +kernel
theorem d_law_212 : decode code 212 = .ok (.iload_n 3, 1) := by decide +kernel
theorem d_law_213 : decode code 213 = .ok (.iconst 1, 1) := by decide +kernel
theorem d_law_214 : decode code 214 = .ok (.iadd, 1) := by decide +kernel
theorem d_law_215 : decode code 215 = .ok (.iaload, 1) := by decide +kernel
theorem d_law_216 : decode code 216 = .ok (.aload_n 0, 1) := by decide +kernel
theorem d_law_217 : decode code 217 = .ok (.iload_n 3, 1) := by decide +kernel
theorem d_law_218 : decode code 218 = .ok (.iconst 2, 1) := by decide +kernel
theorem d_law_219 : decode code 219 = .ok (.iadd, 1) := by decide +kernel
theorem d_law_220 : decode code 220 = .ok (.iaload, 1) := by decide +kernel
theorem d_law_221 : decode code 221 = .ok (.invokevirtual 23, 3) := by decide +kernel
theorem d_law_224 : decode code 224 = .ok (.aload_n 2, 1) := by decide +kernel
theorem d_law_225 : decode code 225 = .ok (.aload_n 0, 1) := by decide +kernel
theorem d_law_226 : decode code 226 = .ok (.iload_n 3, 1) := by decide +kernel
theorem d_law_227 : decode code 227 = .ok (.iconst 1, 1) := by decide +kernel
theorem d_law_228 : decode code 228 = .ok (.iadd, 1) := by decide +kernel
theorem d_law_229 : decode code 229 = .ok (.iaload, 1) := by decide +kernel
theorem d_law_230 : decode code 230 = .ok (.aload_n 0, 1) := by decide +kernel
theorem d_law_231 : decode code 231 = .ok (.iload_n 3, 1) := by decide +kernel
theorem d_law_232 : decode code 232 = .ok (.iconst 2, 1) := by decide +kernel
theorem d_law_233 : decode code 233 = .ok (.iadd, 1) := by decide +kernel
theorem d_law_234 : decode code 234 = .ok (.iaload, 1) := by decide +kernel
theorem d_law_235 : decode code 235 = .ok (.invokevirtual 27, 3) := by decide +kernel
theorem d_law_238 : decode code 238 = .ok (.if_icmp .eq 452, 3) := by decide +kernel
theorem d_law_243 : decode code 243 = .ok (.aload_n 1, 1) := by decide +kernel
theorem d_law_244 : decode code 244 = .ok (.invokevirtual 28, 3) := by decide +kernel
theorem d_law_247 : decode code 247 = .ok (.aload_n 2, 1) := by decide +kernel
theorem d_law_248 : decode code 248 = .ok (.invokevirtual 32, 3) := by decide +kernel
theorem d_law_251 : decode code 251 = .ok (.if_icmp .eq 439, 3) := by decide +kernel
theorem d_law_256 : decode code 256 = .ok (.aload_n 1, 1) := by decide +kernel
theorem d_law_257 : decode code 257 = .ok (.invokevirtual 33, 3) := by decide +kernel
theorem d_law_260 : decode code 260 = .ok (.aload_n 2, 1) := by decide +kernel
theorem d_law_261 : decode code 261 = .ok (.invokevirtual 36, 3) := by decide +kernel
theorem d_law_264 : decode code 264 = .ok (.if_icmp .eq 426, 3) := by decide +kernel
theorem d_law_269 : decode code 269 = .ok (.aload_n 1, 1) := by decide +kernel
theorem d_law_270 : decode code 270 = .ok (.aload_n 0, 1) := by decide +kernel
theorem d_law_271 : decode code 271 = .ok (.iload_n 3, 1) := by decide +kernel
theorem d_law_272 : decode code 272 = .ok (.iconst 1, 1) := by decide +kernel
theorem d_law_273 : decode code 273 = .ok (.iadd, 1) := by decide +kernel
theorem d_law_274 : decode code 274 = .ok (.iaload, 1) := by decide +kernel
theorem d_law_275 : decode code 275 = .ok (.aload_n 0, 1) := by decide +kernel
theorem d_law_276 : decode code 276 = .ok (.iload_n 3, 1) := by decide +kernel
theorem d_law_277 : decode code 277 = .ok (.iconst 2, 1) := by decide +kernel
theorem d_law_278 : decode code 278 = .ok (.iadd, 1) := by decide +kernel
theorem d_law_279 : decode code 279 = .ok (.iaload, 1) := by decide +kernel
theorem d_law_280 : decode code 280 = .ok (.aload_n 0, 1) := by decide +kernel
theorem d_law_281 : decode code 281 = .ok (.iload_n 3, 1) := by decide +kernel
theorem d_law_282 : decode code 282 = .ok (.iconst 3, 1) := by decide +kernel
theorem d_law_283 : decode code 283 = .ok (.iadd, 1) := by decide +kernel
theorem d_law_284 : decode code 284 = .ok (.iaload, 1) := by decide +kernel
theorem d_law_285 : decode code 285 = .ok (.aload_n 0, 1) := by decide +kernel
theorem d_law_286 : decode code 286 = .ok (.iload_n 3, 1) := by decide +kernel
theorem d_law_287 : decode code 287 = .ok (.iconst 4, 1) := by decide +kernel
theorem d_law_288 : decode code 288 = .ok (.iadd, 1) := by decide +kernel
theorem d_law_289 : decode code 289 = .ok (.iaload, 1) := by decide +kernel
theorem d_law_290 : decode code 290 = .ok (.ifCond .eq 7, 3) := by decide +kernel
theorem d_law_293 : decode code 293 = .ok (.iconst 1, 1) := by decide +kernel
theorem d_law_294 : decode code 294 = .ok (.goto 4, 3) := by decide +kernel
theorem d_law_297 : decode code 297 = .ok (.iconst 0, 1) := by decide +kernel
theorem d_law_298 : decode code 298 = .ok (.invokevirtual 37, 3) := by decide +kernel
theorem d_law_301 : decode code 301 = .ok (.aload_n 2, 1) := by decide +kernel
theorem d_law_302 : decode code 302 = .ok (.aload_n 0, 1) := by decide +kernel
theorem d_law_303 : decode code 303 = .ok (.iload_n 3, 1) := by decide +kernel
theorem d_law_304 : decode code 304 = .ok (.iconst 1, 1) := by decide +kernel
theorem d_law_305 : decode code 305 = .ok (.iadd, 1) := by decide +kernel
theorem d_law_306 : decode code 306 = .ok (.iaload, 1) := by decide +kernel
theorem d_law_307 : decode code 307 = .ok (.aload_n 0, 1) := by decide +kernel
theorem d_law_308 : decode code 308 = .ok (.iload_n 3, 1) := by decide +kernel
theorem d_law_309 : decode code 309 = .ok (.iconst 2, 1) := by decide +kernel
theorem d_law_310 : decode code 310 = .ok (.iadd, 1) := by decide +kernel
theorem d_law_311 : decode code 311 = .ok (.iaload, 1) := by decide +kernel
theorem d_law_312 : decode code 312 = .ok (.aload_n 0, 1) := by decide +kernel
theorem d_law_313 : decode code 313 = .ok (.iload_n 3, 1) := by decide +kernel
theorem d_law_314 : decode code 314 = .ok (.iconst 3, 1) := by decide +kernel
theorem d_law_315 : decode code 315 = .ok (.iadd, 1) := by decide +kernel
theorem d_law_316 : decode code 316 = .ok (.iaload, 1) := by decide +kernel
theorem d_law_317 : decode code 317 = .ok (.aload_n 0, 1) := by decide +kernel
theorem d_law_318 : decode code 318 = .ok (.iload_n 3, 1) := by decide +kernel
theorem d_law_319 : decode code 319 = .ok (.iconst 4, 1) := by decide +kernel
theorem d_law_320 : decode code 320 = .ok (.iadd, 1) := by decide +kernel
theorem d_law_321 : decode code 321 = .ok (.iaload, 1) := by decide +kernel
theorem d_law_322 : decode code 322 = .ok (.ifCond .eq 7, 3) := by decide +kernel
theorem d_law_325 : decode code 325 = .ok (.iconst 1, 1) := by decide +kernel
theorem d_law_326 : decode code 326 = .ok (.goto 4, 3) := by decide +kernel
theorem d_law_329 : decode code 329 = .ok (.iconst 0, 1) := by decide +kernel
theorem d_law_330 : decode code 330 = .ok (.invokevirtual 41, 3) := by decide +kernel
theorem d_law_333 : decode code 333 = .ok (.if_icmp .eq 357, 3) := by decide +kernel
theorem d_law_338 : decode code 338 = .ok (.aload_n 1, 1) := by decide +kernel
theorem d_law_339 : decode code 339 = .ok (.aload_n 0, 1) := by decide +kernel
theorem d_law_340 : decode code 340 = .ok (.iload_n 3, 1) := by decide +kernel
theorem d_law_341 : decode code 341 = .ok (.iconst 1, 1) := by decide +kernel
theorem d_law_342 : decode code 342 = .ok (.iadd, 1) := by decide +kernel
theorem d_law_343 : decode code 343 = .ok (.iaload, 1) := by decide +kernel
theorem d_law_344 : decode code 344 = .ok (.invokevirtual 42, 3) := by decide +kernel
theorem d_law_347 : decode code 347 = .ok (.aload_n 2, 1) := by decide +kernel
theorem d_law_348 : decode code 348 = .ok (.aload_n 0, 1) := by decide +kernel
theorem d_law_349 : decode code 349 = .ok (.iload_n 3, 1) := by decide +kernel
theorem d_law_350 : decode code 350 = .ok (.iconst 1, 1) := by decide +kernel
theorem d_law_351 : decode code 351 = .ok (.iadd, 1) := by decide +kernel
theorem d_law_352 : decode code 352 = .ok (.iaload, 1) := by decide +kernel
theorem d_law_353 : decode code 353 = .ok (.invokevirtual 45, 3) := by decide +kernel
theorem d_law_356 : decode code 356 = .ok (.if_icmp .eq 334, 3) := by decide +kernel
theorem d_law_361 : decode code 361 = .ok (.aload_n 1, 1) := by decide +kernel
theorem d_law_362 : decode code 362 = .ok (.aload_n 0, 1) := by decide +kernel
theorem d_law_363 : decode code 363 = .ok (.iload_n 3, 1) := by decide +kernel
theorem d_law_364 : decode code 364 = .ok (.iconst 1, 1) := by decide +kernel
theorem d_law_365 : decode code 365 = .ok (.iadd, 1) := by decide +kernel
theorem d_law_366 : decode code 366 = .ok (.iaload, 1) := by decide +kernel
theorem d_law_367 : decode code 367 = .ok (.aload_n 0, 1) := by decide +kernel
theorem d_law_368 : decode code 368 = .ok (.iload_n 3, 1) := by decide +kernel
theorem d_law_369 : decode code 369 = .ok (.iconst 2, 1) := by decide +kernel
theorem d_law_370 : decode code 370 = .ok (.iadd, 1) := by decide +kernel
theorem d_law_371 : decode code 371 = .ok (.iaload, 1) := by decide +kernel
theorem d_law_372 : decode code 372 = .ok (.aload_n 0, 1) := by decide +kernel
theorem d_law_373 : decode code 373 = .ok (.iload_n 3, 1) := by decide +kernel
theorem d_law_374 : decode code 374 = .ok (.iconst 3, 1) := by decide +kernel
theorem d_law_375 : decode code 375 = .ok (.iadd, 1) := by decide +kernel
theorem d_law_376 : decode code 376 = .ok (.iaload, 1) := by decide +kernel
theorem d_law_377 : decode code 377 = .ok (.aload_n 0, 1) := by decide +kernel
theorem d_law_378 : decode code 378 = .ok (.iload_n 3, 1) := by decide +kernel
theorem d_law_379 : decode code 379 = .ok (.iconst 4, 1) := by decide +kernel
theorem d_law_380 : decode code 380 = .ok (.iadd, 1) := by decide +kernel
theorem d_law_381 : decode code 381 = .ok (.iaload, 1) := by decide +kernel
theorem d_law_382 : decode code 382 = .ok (.aload_n 0, 1) := by decide +kernel
theorem d_law_383 : decode code 383 = .ok (.iload_n 3, 1) := by decide +kernel
theorem d_law_384 : decode code 384 = .ok (.iconst 5, 1) := by decide +kernel
theorem d_law_385 : decode code 385 = .ok (.iadd, 1) := by decide +kernel
theorem d_law_386 : decode code 386 = .ok (.iaload, 1) := by decide +kernel
theorem d_law_387 : decode code 387 = .ok (.invokevirtual 46, 3) := by decide +kernel
theorem d_law_390 : decode code 390 = .ok (.aload_n 2, 1) := by decide +kernel
theorem d_law_391 : decode code 391 = .ok (.aload_n 0, 1) := by decide +kernel
theorem d_law_392 : decode code 392 = .ok (.iload_n 3, 1) := by decide +kernel
theorem d_law_393 : decode code 393 = .ok (.iconst 1, 1) := by decide +kernel
theorem d_law_394 : decode code 394 = .ok (.iadd, 1) := by decide +kernel
theorem d_law_395 : decode code 395 = .ok (.iaload, 1) := by decide +kernel
theorem d_law_396 : decode code 396 = .ok (.aload_n 0, 1) := by decide +kernel
theorem d_law_397 : decode code 397 = .ok (.iload_n 3, 1) := by decide +kernel
theorem d_law_398 : decode code 398 = .ok (.iconst 2, 1) := by decide +kernel
theorem d_law_399 : decode code 399 = .ok (.iadd, 1) := by decide +kernel
theorem d_law_400 : decode code 400 = .ok (.iaload, 1) := by decide +kernel
theorem d_law_401 : decode code 401 = .ok (.aload_n 0, 1) := by decide +kernel
theorem d_law_402 : decode code 402 = .ok (.iload_n 3, 1) := by decide +kernel
theorem d_law_403 : decode code 403 = .ok (.iconst 3, 1) := by decide +kernel
theorem d_law_404 : decode code 404 = .ok (.iadd, 1) := by decide +kernel
theorem d_law_405 : decode code 405 = .ok (.iaload, 1) := by decide +kernel
theorem d_law_406 : decode code 406 = .ok (.aload_n 0, 1) := by decide +kernel
theorem d_law_407 : decode code 407 = .ok (.iload_n 3, 1) := by decide +kernel
theorem d_law_408 : decode code 408 = .ok (.iconst 4, 1) := by decide +kernel
theorem d_law_409 : decode code 409 = .ok (.iadd, 1) := by decide +kernel
theorem d_law_410 : decode code 410 = .ok (.iaload, 1) := by decide +kernel
theorem d_law_411 : decode code 411 = .ok (.aload_n 0, 1) := by decide +kernel
theorem d_law_412 : decode code 412 = .ok (.iload_n 3, 1) := by decide +kernel
theorem d_law_413 : decode code 413 = .ok (.iconst 5, 1) := by decide +kernel
theorem d_law_414 : decode code 414 = .ok (.iadd, 1) := by decide +kernel
theorem d_law_415 : decode code 415 = .ok (.iaload, 1) := by decide +kernel
theorem d_law_416 : decode code 416 = .ok (.invokevirtual 49, 3) := by decide +kernel
theorem d_law_419 : decode code 419 = .ok (.if_icmp .eq 271, 3) := by decide +kernel
theorem d_law_424 : decode code 424 = .ok (.aload_n 1, 1) := by decide +kernel
theorem d_law_425 : decode code 425 = .ok (.aload_n 0, 1) := by decide +kernel
theorem d_law_426 : decode code 426 = .ok (.iload_n 3, 1) := by decide +kernel
theorem d_law_427 : decode code 427 = .ok (.iconst 1, 1) := by decide +kernel
theorem d_law_428 : decode code 428 = .ok (.iadd, 1) := by decide +kernel
theorem d_law_429 : decode code 429 = .ok (.iaload, 1) := by decide +kernel
theorem d_law_430 : decode code 430 = .ok (.aload_n 0, 1) := by decide +kernel
theorem d_law_431 : decode code 431 = .ok (.iload_n 3, 1) := by decide +kernel
theorem d_law_432 : decode code 432 = .ok (.iconst 2, 1) := by decide +kernel
theorem d_law_433 : decode code 433 = .ok (.iadd, 1) := by decide +kernel
theorem d_law_434 : decode code 434 = .ok (.iaload, 1) := by decide +kernel
theorem d_law_435 : decode code 435 = .ok (.invokevirtual 50, 3) := by decide +kernel
theorem d_law_438 : decode code 438 = .ok (.aload_n 2, 1) := by decide +kernel
theorem d_law_439 : decode code 439 = .ok (.aload_n 0, 1) := by decide +kernel
theorem d_law_440 : decode code 440 = .ok (.iload_n 3, 1) := by decide +kernel
theorem d_law_441 : decode code 441 = .ok (.iconst 1, 1) := by decide +kernel
theorem d_law_442 : decode code 442 = .ok (.iadd, 1) := by decide +kernel
theorem d_law_443 : decode code 443 = .ok (.iaload, 1) := by decide +kernel
theorem d_law_444 : decode code 444 = .ok (.aload_n 0, 1) := by decide +kernel
theorem d_law_445 : decode code 445 = .ok (.iload_n 3, 1) := by decide +kernel
theorem d_law_446 : decode code 446 = .ok (.iconst 2, 1) := by decide +kernel
theorem d_law_447 : decode code 447 = .ok (.iadd, 1) := by decide +kernel
theorem d_law_448 : decode code 448 = .ok (.iaload, 1) := by decide +kernel
theorem d_law_449 : decode code 449 = .ok (.invokevirtual 53, 3) := by decide +kernel
theorem d_law_452 : decode code 452 = .ok (.if_icmp .eq 238, 3) := by decide +kernel
theorem d_law_457 : decode code 457 = .ok (.aload_n 1, 1) := by decide +kernel
theorem d_law_458 : decode code 458 = .ok (.aload_n 0, 1) := by decide +kernel
theorem d_law_459 : decode code 459 = .ok (.iload_n 3, 1) := by decide +kernel
theorem d_law_460 : decode code 460 = .ok (.iconst 1, 1) := by decide +kernel
theorem d_law_461 : decode code 461 = .ok (.iadd, 1) := by decide +kernel
theorem d_law_462 : decode code 462 = .ok (.iaload, 1) := by decide +kernel
theorem d_law_463 : decode code 463 = .ok (.invokevirtual 54, 3) := by decide +kernel
theorem d_law_466 : decode code 466 = .ok (.aload_n 2, 1) := by decide +kernel
theorem d_law_467 : decode code 467 = .ok (.aload_n 0, 1) := by decide +kernel
theorem d_law_468 : decode code 468 = .ok (.iload_n 3, 1) := by decide +kernel
theorem d_law_469 : decode code 469 = .ok (.iconst 1, 1) := by decide +kernel
theorem d_law_470 : decode code 470 = .ok (.iadd, 1) := by decide +kernel
theorem d_law_471 : decode code 471 = .ok (.iaload, 1) := by decide +kernel
theorem d_law_472 : decode code 472 = .ok (.invokevirtual 57, 3) := by decide +kernel
theorem d_law_475 : decode code 475 = .ok (.if_icmp .eq 215, 3) := by decide +kernel
theorem d_law_480 : decode code 480 = .ok (.aload_n 1, 1) := by decide +kernel
theorem d_law_481 : decode code 481 = .ok (.invokevirtual 58, 3) := by decide +kernel
theorem d_law_484 : decode code 484 = .ok (.aload_n 2, 1) := by decide +kernel
theorem d_law_485 : decode code 485 = .ok (.invokevirtual 61, 3) := by decide +kernel
theorem d_law_488 : decode code 488 = .ok (.if_icmp .eq 202, 3) := by decide +kernel
theorem d_law_493 : decode code 493 = .ok (.aload_n 1, 1) := by decide +kernel
theorem d_law_494 : decode code 494 = .ok (.invokevirtual 62, 3) := by decide +kernel
theorem d_law_497 : decode code 497 = .ok (.aload_n 2, 1) := by decide +kernel
theorem d_law_498 : decode code 498 = .ok (.invokevirtual 65, 3) := by decide +kernel
theorem d_law_501 : decode code 501 = .ok (.if_icmp .eq 189, 3) := by decide +kernel
theorem d_law_506 : decode code 506 = .ok (.aload_n 1, 1) := by decide +kernel
theorem d_law_507 : decode code 507 = .ok (.aload_n 0, 1) := by decide +kernel
theorem d_law_508 : decode code 508 = .ok (.iload_n 3, 1) := by decide +kernel
theorem d_law_509 : decode code 509 = .ok (.iconst 1, 1) := by decide +kernel
theorem d_law_510 : decode code 510 = .ok (.iadd, 1) := by decide +kernel
theorem d_law_511 : decode code 511 = .ok (.iaload, 1) := by decide +kernel
theorem d_law_512 : decode code 512 = .ok (.invokevirtual 66, 3) := by decide +kernel
theorem d_law_515 : decode code 515 = .ok (.aload_n 2, 1) := by decide +kernel
theorem d_law_516 : decode code 516 = .ok (.aload_n 0, 1) := by decide +kernel
theorem d_law_517 : decode code 517 = .ok (.iload_n 3, 1) := by decide +kernel
theorem d_law_518 : decode code 518 = .ok (.iconst 1, 1) := by decide +kernel
theorem d_law_519 : decode code 519 = .ok (.iadd, 1) := by decide +kernel
theorem d_law_520 : decode code 520 = .ok (.iaload, 1) := by decide +kernel
theorem d_law_521 : decode code 521 = .ok (.invokevirtual 70, 3) := by decide +kernel
theorem d_law_524 : decode code 524 = .ok (.lcmp, 1) := by decide +kernel
theorem d_law_525 : decode code 525 = .ok (.ifCond .eq 165, 3) := by decide +kernel
theorem d_law_530 : decode code 530 = .ok (.aload_n 1, 1) := by decide +kernel
theorem d_law_531 : decode code 531 = .ok (.aload_n 0, 1) := by decide +kernel
theorem d_law_532 : decode code 532 = .ok (.iload_n 3, 1) := by decide +kernel
theorem d_law_533 : decode code 533 = .ok (.iconst 1, 1) := by decide +kernel
theorem d_law_534 : decode code 534 = .ok (.iadd, 1) := by decide +kernel
theorem d_law_535 : decode code 535 = .ok (.iaload, 1) := by decide +kernel
theorem d_law_536 : decode code 536 = .ok (.aload_n 0, 1) := by decide +kernel
theorem d_law_537 : decode code 537 = .ok (.iload_n 3, 1) := by decide +kernel
theorem d_law_538 : decode code 538 = .ok (.iconst 2, 1) := by decide +kernel
theorem d_law_539 : decode code 539 = .ok (.iadd, 1) := by decide +kernel
theorem d_law_540 : decode code 540 = .ok (.iaload, 1) := by decide +kernel
theorem d_law_541 : decode code 541 = .ok (.invokevirtual 71, 3) := by decide +kernel
theorem d_law_544 : decode code 544 = .ok (.aload_n 2, 1) := by decide +kernel
theorem d_law_545 : decode code 545 = .ok (.aload_n 0, 1) := by decide +kernel
theorem d_law_546 : decode code 546 = .ok (.iload_n 3, 1) := by decide +kernel
theorem d_law_547 : decode code 547 = .ok (.iconst 1, 1) := by decide +kernel
theorem d_law_548 : decode code 548 = .ok (.iadd, 1) := by decide +kernel
theorem d_law_549 : decode code 549 = .ok (.iaload, 1) := by decide +kernel
theorem d_law_550 : decode code 550 = .ok (.aload_n 0, 1) := by decide +kernel
theorem d_law_551 : decode code 551 = .ok (.iload_n 3, 1) := by decide +kernel
theorem d_law_552 : decode code 552 = .ok (.iconst 2, 1) := by decide +kernel
theorem d_law_553 : decode code 553 = .ok (.iadd, 1) := by decide +kernel
theorem d_law_554 : decode code 554 = .ok (.iaload, 1) := by decide +kernel
theorem d_law_555 : decode code 555 = .ok (.invokevirtual 74, 3) := by decide +kernel
theorem d_law_558 : decode code 558 = .ok (.if_icmp .eq 132, 3) := by decide +kernel
theorem d_law_563 : decode code 563 = .ok (.aload_n 1, 1) := by decide +kernel
theorem d_law_564 : decode code 564 = .ok (.aload_n 0, 1) := by decide +kernel
theorem d_law_565 : decode code 565 = .ok (.iload_n 3, 1) := by decide +kernel
theorem d_law_566 : decode code 566 = .ok (.iconst 1, 1) := by decide +kernel
theorem d_law_567 : decode code 567 = .ok (.iadd, 1) := by decide +kernel
theorem d_law_568 : decode code 568 = .ok (.iaload, 1) := by decide +kernel
theorem d_law_569 : decode code 569 = .ok (.aload_n 0, 1) := by decide +kernel
theorem d_law_570 : decode code 570 = .ok (.iload_n 3, 1) := by decide +kernel
theorem d_law_571 : decode code 571 = .ok (.iconst 2, 1) := by decide +kernel
theorem d_law_572 : decode code 572 = .ok (.iadd, 1) := by decide +kernel
theorem d_law_573 : decode code 573 = .ok (.iaload, 1) := by decide +kernel
theorem d_law_574 : decode code 574 = .ok (.invokevirtual 75, 3) := by decide +kernel
theorem d_law_577 : decode code 577 = .ok (.aload_n 2, 1) := by decide +kernel
theorem d_law_578 : decode code 578 = .ok (.aload_n 0, 1) := by decide +kernel
theorem d_law_579 : decode code 579 = .ok (.iload_n 3, 1) := by decide +kernel
theorem d_law_580 : decode code 580 = .ok (.iconst 1, 1) := by decide +kernel
theorem d_law_581 : decode code 581 = .ok (.iadd, 1) := by decide +kernel
theorem d_law_582 : decode code 582 = .ok (.iaload, 1) := by decide +kernel
theorem d_law_583 : decode code 583 = .ok (.aload_n 0, 1) := by decide +kernel
theorem d_law_584 : decode code 584 = .ok (.iload_n 3, 1) := by decide +kernel
theorem d_law_585 : decode code 585 = .ok (.iconst 2, 1) := by decide +kernel
theorem d_law_586 : decode code 586 = .ok (.iadd, 1) := by decide +kernel
theorem d_law_587 : decode code 587 = .ok (.iaload, 1) := by decide +kernel
theorem d_law_588 : decode code 588 = .ok (.invokevirtual 78, 3) := by decide +kernel
theorem d_law_591 : decode code 591 = .ok (.if_icmp .eq 99, 3) := by decide +kernel
theorem d_law_596 : decode code 596 = .ok (.aload_n 1, 1) := by decide +kernel
theorem d_law_597 : decode code 597 = .ok (.invokevirtual 79, 3) := by decide +kernel
theorem d_law_600 : decode code 600 = .ok (.aload_n 2, 1) := by decide +kernel
theorem d_law_601 : decode code 601 = .ok (.invokevirtual 83, 3) := by decide +kernel
theorem d_law_604 : decode code 604 = .ok (.lcmp, 1) := by decide +kernel
theorem d_law_605 : decode code 605 = .ok (.ifCond .eq 85, 3) := by decide +kernel
theorem d_law_610 : decode code 610 = .ok (.aload_n 1, 1) := by decide +kernel
theorem d_law_611 : decode code 611 = .ok (.aload_n 0, 1) := by decide +kernel
theorem d_law_612 : decode code 612 = .ok (.iload_n 3, 1) := by decide +kernel
theorem d_law_613 : decode code 613 = .ok (.iconst 1, 1) := by decide +kernel
theorem d_law_614 : decode code 614 = .ok (.iadd, 1) := by decide +kernel
theorem d_law_615 : decode code 615 = .ok (.iaload, 1) := by decide +kernel
theorem d_law_616 : decode code 616 = .ok (.aload_n 0, 1) := by decide +kernel
theorem d_law_617 : decode code 617 = .ok (.iload_n 3, 1) := by decide +kernel
theorem d_law_618 : decode code 618 = .ok (.iconst 2, 1) := by decide +kernel
theorem d_law_619 : decode code 619 = .ok (.iadd, 1) := by decide +kernel
theorem d_law_620 : decode code 620 = .ok (.iaload, 1) := by decide +kernel
theorem d_law_621 : decode code 621 = .ok (.invokevirtual 84, 3) := by decide +kernel
theorem d_law_624 : decode code 624 = .ok (.aload_n 2, 1) := by decide +kernel
theorem d_law_625 : decode code 625 = .ok (.aload_n 0, 1) := by decide +kernel
theorem d_law_626 : decode code 626 = .ok (.iload_n 3, 1) := by decide +kernel
theorem d_law_627 : decode code 627 = .ok (.iconst 1, 1) := by decide +kernel
theorem d_law_628 : decode code 628 = .ok (.iadd, 1) := by decide +kernel
theorem d_law_629 : decode code 629 = .ok (.iaload, 1) := by decide +kernel
theorem d_law_630 : decode code 630 = .ok (.aload_n 0, 1) := by decide +kernel
theorem d_law_631 : decode code 631 = .ok (.iload_n 3, 1) := by decide +kernel
theorem d_law_632 : decode code 632 = .ok (.iconst 2, 1) := by decide +kernel
theorem d_law_633 : decode code 633 = .ok (.iadd, 1) := by decide +kernel
theorem d_law_634 : decode code 634 = .ok (.iaload, 1) := by decide +kernel
theorem d_law_635 : decode code 635 = .ok (.invokevirtual 87, 3) := by decide +kernel
theorem d_law_638 : decode code 638 = .ok (.if_icmp .eq 52, 3) := by decide +kernel
theorem d_law_643 : decode code 643 = .ok (.aload_n 1, 1) := by decide +kernel
theorem d_law_644 : decode code 644 = .ok (.aload_n 0, 1) := by decide +kernel
theorem d_law_645 : decode code 645 = .ok (.iload_n 3, 1) := by decide +kernel
theorem d_law_646 : decode code 646 = .ok (.iconst 1, 1) := by decide +kernel
theorem d_law_647 : decode code 647 = .ok (.iadd, 1) := by decide +kernel
theorem d_law_648 : decode code 648 = .ok (.iaload, 1) := by decide +kernel
theorem d_law_649 : decode code 649 = .ok (.invokevirtual 88, 3) := by decide +kernel
theorem d_law_652 : decode code 652 = .ok (.aload_n 2, 1) := by decide +kernel
theorem d_law_653 : decode code 653 = .ok (.aload_n 0, 1) := by decide +kernel
theorem d_law_654 : decode code 654 = .ok (.iload_n 3, 1) := by decide +kernel
theorem d_law_655 : decode code 655 = .ok (.iconst 1, 1) := by decide +kernel
theorem d_law_656 : decode code 656 = .ok (.iadd, 1) := by decide +kernel
theorem d_law_657 : decode code 657 = .ok (.iaload, 1) := by decide +kernel
theorem d_law_658 : decode code 658 = .ok (.invokevirtual 91, 3) := by decide +kernel
theorem d_law_661 : decode code 661 = .ok (.if_icmp .eq 29, 3) := by decide +kernel
theorem d_law_666 : decode code 666 = .ok (.aload_n 1, 1) := by decide +kernel
theorem d_law_667 : decode code 667 = .ok (.aload_n 0, 1) := by decide +kernel
theorem d_law_668 : decode code 668 = .ok (.iload_n 3, 1) := by decide +kernel
theorem d_law_669 : decode code 669 = .ok (.iconst 1, 1) := by decide +kernel
theorem d_law_670 : decode code 670 = .ok (.iadd, 1) := by decide +kernel
theorem d_law_671 : decode code 671 = .ok (.iaload, 1) := by decide +kernel
theorem d_law_672 : decode code 672 = .ok (.invokevirtual 92, 3) := by decide +kernel
theorem d_law_675 : decode code 675 = .ok (.aload_n 2, 1) := by decide +kernel
theorem d_law_676 : decode code 676 = .ok (.aload_n 0, 1) := by decide +kernel
theorem d_law_677 : decode code 677 = .ok (.iload_n 3, 1) := by decide +kernel
theorem d_law_678 : decode code 678 = .ok (.iconst 1, 1) := by decide +kernel
theorem d_law_679 : decode code 679 = .ok (.iadd, 1) := by decide +kernel
theorem d_law_680 : decode code 680 = .ok (.iaload, 1) := by decide +kernel
theorem d_law_681 : decode code 681 = .ok (.invokevirtual 95, 3) := by decide +kernel
theorem d_law_684 : decode code 684 = .ok (.lcmp, 1) := by decide +kernel
theorem d_law_685 : decode code 685 = .ok (.ifCond .eq 5, 3) := by decide +kernel
theorem d_law_690 : decode code 690 = .ok (.iinc 3 6, 3) := by decide +kernel
theorem d_law_693 : decode code 693 = .ok (.goto (-675), 3) := by decide +kernel
theorem d_law_696 : decode code 696 = .ok (.iconst 1, 1) := by decide +kernel
theorem d_law_697 : decode code 697 = .ok (.ireturn, 1) := by decide +kernel
end
section
/-! what the tables say of nest mates and of arrays over a class: carried beside the words -/
def nestL : List (String × Nat × MethodName × String) := [(R_Coins, 3, y_View_init, "ChainLedger"), (R_Judge, 11, y_Row_init, "ChainLedger"), (R_Chain, 11, y_Coins_init, "ChainLedger"), (R_Chain, 53, y_Block_init, "ChainLedger"), (R_Row, 19, y_CL_putNumber, "ChainLedger"), (R_Sha, 34, y_CL_putNumber, "ChainLedger"), (R_Pool, 48, y_Payment_init, "ChainLedger"), (R_Pool, 3, y_View_init, "ChainLedger"), (R_CL, 9, y_Row_init, "ChainLedger"), (R_CL, 25, y_Sha_init, "ChainLedger"), (R_CL, 59, y_Payment_init, "ChainLedger"), (R_Mo, 129, y_Mc_init, "ChainLedgerModel")]
def zAB (U : State) : Prop := (Cond.arrayOver (.array .byte)).before #[] U = true
def zf (vm : Vm) (comp : ClassId) : Option Nat := vm.classes.findIdx? fun (x : Class) => match x.kind with | .array component _ => component == comp | _ => false
def zg (vm : Vm) (c : Nat) (k : Class) : Bool := match k.kind with | .array _ ty => decide (ty = FieldType.array .byte) && decide (vm.findClass ("[" ++ (FieldType.array .byte).toString) = some c) | _ => false
theorem zAB_is (V : State) : zAB V ↔ (((V.vm.findClass (FieldType.array .byte).toString).bind fun comp => (zf V.vm comp).bind fun c => (V.vm.classes[c]?).map fun k => zg V.vm c k) == some true) = true := by
  unfold zAB Cond.before Cond.holds
  simp only [Cond.value]
  exact Iff.rfl
theorem zAB_moved {u U : State} (hvm : u.vm.Alike U.vm) (h : zAB u) : zAB U := by
  rw [zAB_is] at h ⊢
  have hf : ∀ n : String, U.vm.findClass n = u.vm.findClass n := fun n => by rw [hvm.findClass]
  have hz : ∀ comp : ClassId, zf U.vm comp = zf u.vm comp := fun comp => by
    have e1 : zf U.vm.bare comp = zf U.vm comp := va_idx_bare U.vm comp
    have e2 : zf u.vm.bare comp = zf u.vm comp := va_idx_bare u.vm comp
    rw [← e1, ← e2, hvm.bare_eq]
  rw [hf]
  cases hc : u.vm.findClass (FieldType.array .byte).toString with
  | none => simp [hc] at h
  | some comp =>
    simp only [hc, Option.bind_some] at h ⊢
    rw [hz]
    cases hi : zf u.vm comp with
    | none => simp [hi] at h
    | some c =>
      simp only [hi, Option.bind_some] at h ⊢
      cases hk : u.vm.classes[c]? with
      | none => simp [hk] at h
      | some k =>
        obtain ⟨k', hk', he⟩ := hvm.2.2 _ _ hk
        have hkk : k'.kind = k.kind := by rw [he]
        have hg : zg U.vm c k' = zg u.vm c k := by unfold zg; rw [hkk, hf]
        simp only [hk, hk', Option.map_some, hg] at h ⊢
        exact h
def zN (U : State) : Prop := (∀ q ∈ nestL, va_Nw (.methodLinkNest q.1 q.2.1 q.2.2.1 q.2.2.2) U) ∧ va_AO "ChainLedger$Block" U ∧ va_AO "ChainLedger$Payment" U ∧ va_AO "ChainLedger$Coin" U ∧ zAB U
theorem zN_same {u U : State} (h : u.vm = U.vm) (hz : zN u) : zN U := by
  have ha : u.vm.Alike U.vm := by rw [h]; exact Vm.Alike.refl _
  exact ⟨fun q hq => va_Nw.same rfl h (hz.1 q hq), va_AO.moved ha hz.2.1, va_AO.moved ha hz.2.2.1, va_AO.moved ha hz.2.2.2.1, zAB_moved ha hz.2.2.2.2⟩
theorem zN_warm {s U : State} (hW : s.WarmedH U.vm) (hz : zN s) : zN U :=
  ⟨fun q hq => va_Nw.warmM hW (hz.1 q hq), va_AO.moved hW.alike hz.2.1, va_AO.moved hW.alike hz.2.2.1, va_AO.moved hW.alike hz.2.2.2.1, zAB_moved hW.alike hz.2.2.2.2⟩

theorem zn_k_36 {U : State} (h : zN U) : va_Nw (.methodLinkNest R_Coins 3 y_View_init "ChainLedger") U := h.1 (R_Coins, 3, y_View_init, "ChainLedger") (List.mem_of_getElem? (i := 0) rfl)
theorem zn_k_56 {U : State} (h : zN U) : va_Nw (.methodLinkNest R_Judge 11 y_Row_init "ChainLedger") U := h.1 (R_Judge, 11, y_Row_init, "ChainLedger") (List.mem_of_getElem? (i := 1) rfl)
theorem zn_k_72 {U : State} (h : zN U) : va_Nw (.methodLinkNest R_Chain 11 y_Coins_init "ChainLedger") U := h.1 (R_Chain, 11, y_Coins_init, "ChainLedger") (List.mem_of_getElem? (i := 2) rfl)
theorem zn_k_89 {U : State} (h : zN U) : va_Nw (.methodLinkNest R_Chain 53 y_Block_init "ChainLedger") U := h.1 (R_Chain, 53, y_Block_init, "ChainLedger") (List.mem_of_getElem? (i := 3) rfl)
theorem zn_k_99 {U : State} (h : zN U) : va_Nw (.methodLinkNest R_Row 19 y_CL_putNumber "ChainLedger") U := h.1 (R_Row, 19, y_CL_putNumber, "ChainLedger") (List.mem_of_getElem? (i := 4) rfl)
theorem zn_k_123 {U : State} (h : zN U) : va_Nw (.methodLinkNest R_Sha 34 y_CL_putNumber "ChainLedger") U := h.1 (R_Sha, 34, y_CL_putNumber, "ChainLedger") (List.mem_of_getElem? (i := 5) rfl)
theorem zn_k_147 {U : State} (h : zN U) : va_Nw (.methodLinkNest R_Pool 48 y_Payment_init "ChainLedger") U := h.1 (R_Pool, 48, y_Payment_init, "ChainLedger") (List.mem_of_getElem? (i := 6) rfl)
theorem zn_k_158 {U : State} (h : zN U) : va_Nw (.methodLinkNest R_Pool 3 y_View_init "ChainLedger") U := h.1 (R_Pool, 3, y_View_init, "ChainLedger") (List.mem_of_getElem? (i := 7) rfl)
theorem zn_k_166 {U : State} (h : zN U) : va_Nw (.methodLinkNest R_CL 9 y_Row_init "ChainLedger") U := h.1 (R_CL, 9, y_Row_init, "ChainLedger") (List.mem_of_getElem? (i := 8) rfl)
theorem zn_k_171 {U : State} (h : zN U) : va_Nw (.methodLinkNest R_CL 25 y_Sha_init "ChainLedger") U := h.1 (R_CL, 25, y_Sha_init, "ChainLedger") (List.mem_of_getElem? (i := 9) rfl)
theorem zn_k_192 {U : State} (h : zN U) : va_Nw (.methodLinkNest R_CL 59 y_Payment_init "ChainLedger") U := h.1 (R_CL, 59, y_Payment_init, "ChainLedger") (List.mem_of_getElem? (i := 10) rfl)
theorem zn_k_331 {U : State} (h : zN U) : va_Nw (.methodLinkNest R_Mo 129 y_Mc_init "ChainLedgerModel") U := h.1 (R_Mo, 129, y_Mc_init, "ChainLedgerModel") (List.mem_of_getElem? (i := 11) rfl)
theorem zN_of {b : Nat} {s : State} (hts : ∀ w ∈ lw_tbl, w.before #[Value.ref b] s = true) : zN s := by
  have ht : ∀ (i : Nat) (w : Cond), tables_1[i]? = some w → w.before #[Value.ref b] s = true := fun i w h => hts w (List.mem_append_right _ (List.mem_of_getElem? h))
  refine ⟨?_, ht 178 _ (by decide +kernel : tables_1[178]? = some (.arrayOver (.object "ChainLedger$Block"))), ht 187 _ (by decide +kernel : tables_1[187]? = some (.arrayOver (.object "ChainLedger$Payment"))), ht 73 _ (by decide +kernel : tables_1[73]? = some (.arrayOver (.object "ChainLedger$Coin"))), ht 81 _ (by decide +kernel : tables_1[81]? = some (.arrayOver (.array .byte)))⟩
  intro q hq
  simp only [nestL, List.mem_cons, List.not_mem_nil, or_false] at hq
  rcases hq with rfl | rfl | rfl | rfl | rfl | rfl | rfl | rfl | rfl | rfl | rfl | rfl
  · exact va_Nw.of rfl (ht 142 _ (by decide +kernel : tables_1[142]? = some (.methodLinkNest R_Coins 3 y_View_init "ChainLedger")))
  · exact va_Nw.of rfl (ht 71 _ (by decide +kernel : tables_1[71]? = some (.methodLinkNest R_Judge 11 y_Row_init "ChainLedger")))
  · exact va_Nw.of rfl (ht 139 _ (by decide +kernel : tables_1[139]? = some (.methodLinkNest R_Chain 11 y_Coins_init "ChainLedger")))
  · exact va_Nw.of rfl (ht 182 _ (by decide +kernel : tables_1[182]? = some (.methodLinkNest R_Chain 53 y_Block_init "ChainLedger")))
  · exact va_Nw.of rfl (ht 494 _ (by decide +kernel : tables_1[494]? = some (.methodLinkNest R_Row 19 y_CL_putNumber "ChainLedger")))
  · exact va_Nw.of rfl (ht 540 _ (by decide +kernel : tables_1[540]? = some (.methodLinkNest R_Sha 34 y_CL_putNumber "ChainLedger")))
  · exact va_Nw.of rfl (ht 991 _ (by decide +kernel : tables_1[991]? = some (.methodLinkNest R_Pool 48 y_Payment_init "ChainLedger")))
  · exact va_Nw.of rfl (ht 332 _ (by decide +kernel : tables_1[332]? = some (.methodLinkNest R_Pool 3 y_View_init "ChainLedger")))
  · exact va_Nw.of rfl (ht 34 _ (by decide +kernel : tables_1[34]? = some (.methodLinkNest R_CL 9 y_Row_init "ChainLedger")))
  · exact va_Nw.of rfl (ht 52 _ (by decide +kernel : tables_1[52]? = some (.methodLinkNest R_CL 25 y_Sha_init "ChainLedger")))
  · exact va_Nw.of rfl (ht 360 _ (by decide +kernel : tables_1[360]? = some (.methodLinkNest R_CL 59 y_Payment_init "ChainLedger")))
  · exact va_Nw.of rfl (ht 1132 _ (by decide +kernel : tables_1[1132]? = some (.methodLinkNest R_Mo 129 y_Mc_init "ChainLedgerModel")))
end
section
/-! rows of my own beside the kit's: a value on top is another name of a number; stores and copies whose contents nobody asks; a call's start -/
abbrev zT : Type := Nat × Nat × Nat × Nat × Nat × (Nat → Int32) × (Nat → Int32) × (Nat → Int32) × (Nat → Int32)
/-- the constants of the classes: the shared empty array of lists, the two tables of each SHA-256 -/
def zz (z : zT) (A : Nat → Prop) (U : State) (H : Heap) : Prop :=
  va_Z "java/util/ArrayList" "DEFAULTCAPACITY_EMPTY_ELEMENTDATA" "[Ljava/lang/Object;" (.ref z.1) A U H ∧
  va_Z "ChainLedger$Sha" "START" "[I" (.ref z.2.1) A U H ∧ (va_X z.2.1 8 z.2.2.2.2.2.1 U H ∧ ¬ A z.2.1) ∧
  va_Z "ChainLedger$Sha" "ROUNDS" "[I" (.ref z.2.2.1) A U H ∧ va_T .int z.2.2.1 64 (fun j => .int (z.2.2.2.2.2.2.1 j)) A U H ∧
  va_Z "ChainLedgerModel" "START" "[I" (.ref z.2.2.2.1) A U H ∧ va_T .int z.2.2.2.1 8 (fun j => .int (z.2.2.2.2.2.2.2.1 j)) A U H ∧
  va_Z "ChainLedgerModel" "K" "[I" (.ref z.2.2.2.2.1) A U H ∧ va_T .int z.2.2.2.2.1 64 (fun j => .int (z.2.2.2.2.2.2.2.2 j)) A U H ∧ zN U
theorem zz_moved {z : zT} {A : Nat → Prop} {u U : State} {H : Heap} (hvm : u.vm.Alike U.vm) (hN : zN u → zN U) (h : zz z A u H) : zz z A U H := by
  obtain ⟨a1, a2, ⟨a3, b3⟩, a4, a5, a6, a7, a8, a9, b9⟩ := h
  exact ⟨va_Z.moved hvm a1, va_Z.moved hvm a2, ⟨va_X.moved hvm a3, b3⟩, va_Z.moved hvm a4, va_T.moved hvm a5, va_Z.moved hvm a6, va_T.moved hvm a7, va_Z.moved hvm a8, va_T.moved hvm a9, hN b9⟩
theorem zz_kept {z : zT} {A : Nat → Prop} {U : State} {H H1 : Heap} (h : zz z A U H) (hq : ∀ a : Nat, a < H.size → ¬ A a → H1[a]? = H[a]?) : zz z A U H1 := by
  obtain ⟨a1, a2, ⟨a3, b3⟩, a4, a5, a6, a7, a8, a9, b9⟩ := h
  refine ⟨a1.kept hq, a2.kept hq, ⟨?_, b3⟩, a4.kept hq, a5.kept hq, a6.kept hq, a7.kept hq, a8.kept hq, a9.kept hq, b9⟩
  obtain ⟨scr, h1, h2⟩ := a3
  exact ⟨scr, (hq _ (Array.getElem?_eq_some_iff.mp h1).1 b3).trans h1, h2⟩
theorem zz_narrow {z : zT} {A B : Nat → Prop} {U : State} {H : Heap} (h : zz z A U H) (hAB : ∀ q, B q → A q) : zz z B U H := by
  obtain ⟨a1, a2, ⟨a3, b3⟩, a4, a5, a6, a7, a8, a9, b9⟩ := h
  exact ⟨a1.narrow hAB, a2.narrow hAB, ⟨a3, fun h => b3 (hAB _ h)⟩, a4.narrow hAB, a5.narrow hAB, a6.narrow hAB, a7.narrow hAB, a8.narrow hAB, a9.narrow hAB, b9⟩
theorem zz_N {z : zT} {A : Nat → Prop} {U : State} {H : Heap} (h : zz z A U H) : zN U := h.2.2.2.2.2.2.2.2.2
theorem zz_P0 {D : va_G} {cl : List vw_C} {H : Heap} : va_P D cl [] H := fun k q h => by simp at h
theorem zz_D0 {A : Nat → Prop} : va_D A [] := ⟨fun i j p q h => by simp at h, fun k q h => by simp at h⟩
section ZPRE
variable {s : State} {H : Heap} {D : va_G} {cl : List vw_C} {wc ws : va_W} {tys tys0 : List (ClassId × FieldType)} {A : Nat → Prop} {As : List Value} {z : zT} {locs : List Loc}
theorem zz_pre (hP : va_P D cl wc H) (hK : va_K D cl tys s) (hD : va_D A wc) (hZ : zz z A s s.heap) (hS : va_S A s.heap H locs) (hF : ∀ q, va_A wc H.size q → A q) : PreS s H (va_Pc As (fun U => U.heap.size = H.size ∧ va_P D cl wc U.heap ∧ va_K D cl tys U ∧ va_D (fun _ => True) wc ∧ zz z (va_A wc H.size) U U.heap)) As :=
  ⟨fun a U g mk q => by
    obtain ⟨q0, q1, qP, qK, qD, qZ⟩ := q
    exact ⟨q0, q1, qP, va_K.moved (u := U) (U := U.calling g mk a) (Vm.Alike.refl U.vm) qK, qD, zz_moved (u := U) (U := U.calling g mk a) (Vm.Alike.refl U.vm) (zN_same rfl) qZ⟩,
   fun U hU hW => ⟨rfl, by rw [hU], by rw [hU]; exact hP, va_K.moved hW.alike hK, hD.weaken (fun _ _ _ _ => trivial), by rw [hU]; exact zz_moved hW.alike (zN_warm hW) (zz_narrow (zz_kept hZ hS.2.1) hF)⟩⟩
theorem zz_preV (hP : va_P D cl wc H) (hK : va_K D cl tys s) (hD : va_D A wc) (hZ : zz z A s s.heap) (hS : va_S A s.heap H locs) (hF : ∀ q, va_A wc H.size q → A q) (hK0 : va_K D cl tys0 s) (hP0 : va_P D cl ws H) {ci q0 b : Nat} {q : vw_C} {fs : List Value} (hc : cl[ci]? = some q) (he : ws[q0]? = some (b, .inr (ci, fs))) : PreV s H q.1 b (va_Pc (.ref b :: As) (fun U => U.heap.size = H.size ∧ va_P D cl wc U.heap ∧ va_K D cl tys U ∧ va_D (fun _ => True) wc ∧ zz z (va_A wc H.size) U U.heap)) As :=
  ⟨(zz_pre (As := .ref b :: As) hP hK hD hZ hS hF).1, va_recv hK0 hP0 hc he, (zz_pre (As := .ref b :: As) hP hK hD hZ hS hF).2⟩
end ZPRE
theorem zz_nb (x : Int32) : fits .byte (.int (vp_nar .byte x)) = true := by rw [vp_nar_byte]; exact pk_fb x
theorem zz_shr {n : Nat} (h : n < 2 ^ 31) (s : Int32) (k : Nat) (hs : (s.toBitVec.smod 32).toNat = k) {m : Nat} (hm : 2 ^ k = m) : nI n >>> s = nI (n / m) := by
  subst hm; exact pk_shrN h s k hs
section ZROW
variable {p : Program} {l : Launch} {e : Env} {R : Room} {s : State} {m : MethodId} {args : Array Value} {below : List Frame} {meth : Method} {c : Code} {H : Heap} {locs : List Loc} {cells slots : Nat} {Q : State → Prop}
variable {cc : ByteArray} {pc : Nat} {ls : Array Slot} {rest : List Value} {D : va_G} {cl : List vw_C} {A : Nat → Prop} {a : Nat} {tys : List (ClassId × FieldType)} {ws : va_W} {H0 : Heap}
theorem zz_i {x v : Int32} (h : x = v) (k : W p l e R s m args below meth c H locs cells slots Q (F0 m pc ls (.int v :: rest))) : W p l e R s m args below meth c H locs cells slots Q (F0 m pc ls (.int x :: rest)) := by subst h; exact k
theorem zz_l {x v : Int64} (h : x = v) (k : W p l e R s m args below meth c H locs cells slots Q (F0 m pc ls (.long v :: rest))) : W p l e R s m args below meth c H locs cells slots Q (F0 m pc ls (.long x :: rest)) := by subst h; exact k
theorem zz_iast (hexec : p.tables.exec = Jvm.exec) (hb : c.code = cc) (hK : va_K D cl tys s) (hP : va_P D cl ws H) (hD : va_D A ws) (hS : va_S A H0 H locs) (q0 t0 : Nat) {cA : ClassId} {n : Nat} {f : Nat → Int32} (ha : ws[q0]? = some (a, .inl (cA, n, .inl f))) (ht : tys[t0]? = some (cA, .int)) {i x : Int32} (hin : vp_in i n) (hdg : decode cc pc = .ok (.iastore, 1))
    (kk : ∀ (g : Nat → Int32) (H1 : Heap) (locs1 : List Loc), va_P D cl (ws.set q0 (a, .inl (cA, n, .inl g))) H1 → va_D A (ws.set q0 (a, .inl (cA, n, .inl g))) → va_S A H0 H1 locs1 → W p l e R s m args below meth c H1 locs1 cells slots Q (F0 m (pc + 1) ls rest)) : W p l e R s m args below meth c H locs cells slots Q (F0 m pc ls (.int x :: .int i :: .ref a :: rest)) :=
  va_iast hexec hb hK hP hD hS q0 t0 ha ht hin hdg (fun H1 locs1 => kk _ H1 locs1)
theorem zz_zast (hexec : p.tables.exec = Jvm.exec) (hb : c.code = cc) (hK : va_K D cl tys s) (hP : va_P D cl ws H) (hD : va_D A ws) (hS : va_S A H0 H locs) (q0 t0 : Nat) {cA : ClassId} {n : Nat} {f : Nat → Int32} (ha : ws[q0]? = some (a, .inl (cA, n, .inl f))) (ht : tys[t0]? = some (cA, .boolean)) {i x : Int32} (hin : vp_in i n) (hdg : decode cc pc = .ok (.bastore, 1))
    (kk : ∀ (g : Nat → Int32) (H1 : Heap) (locs1 : List Loc), va_P D cl (ws.set q0 (a, .inl (cA, n, .inl g))) H1 → va_D A (ws.set q0 (a, .inl (cA, n, .inl g))) → va_S A H0 H1 locs1 → W p l e R s m args below meth c H1 locs1 cells slots Q (F0 m (pc + 1) ls rest)) : W p l e R s m args below meth c H locs cells slots Q (F0 m pc ls (.int x :: .int i :: .ref a :: rest)) :=
  va_zast hexec hb hK hP hD hS q0 t0 ha ht hin hdg (fun H1 locs1 => kk _ H1 locs1)
theorem zz_bast (hexec : p.tables.exec = Jvm.exec) (hb : c.code = cc) (hK : va_K D cl tys s) (hP : va_P D cl ws H) (hD : va_D A ws) (hS : va_S A H0 H locs) (q0 t0 : Nat) {cA : ClassId} {n : Nat} {f : Nat → Int32} (ha : ws[q0]? = some (a, .inl (cA, n, .inl f))) (ht : tys[t0]? = some (cA, .byte)) {i x : Int32} (hin : vp_in i n) (hf : sb_Fit f) (hdg : decode cc pc = .ok (.bastore, 1))
    (kk : ∀ (g : Nat → Int32) (_ : sb_Fit g) (H1 : Heap) (locs1 : List Loc), va_P D cl (ws.set q0 (a, .inl (cA, n, .inl g))) H1 → va_D A (ws.set q0 (a, .inl (cA, n, .inl g))) → va_S A H0 H1 locs1 → W p l e R s m args below meth c H1 locs1 cells slots Q (F0 m (pc + 1) ls rest)) : W p l e R s m args below meth c H locs cells slots Q (F0 m pc ls (.int x :: .int i :: .ref a :: rest)) :=
  va_bast hexec hb hK hP hD hS q0 t0 ha ht hin hdg (fun H1 locs1 => kk _ (sb_fitU hf (zz_nb x)) H1 locs1)
theorem zz_copyb (hexec : p.tables.exec = Jvm.exec) (hb : c.code = cc) (hml : c.maxLocals = ls.size) {own : String} {index : Nat} (hown : s.vm.findClass own = some m.cls) (hlink : (Cond.methodLink own index arraycopyName).before args s = true) (hnat : (Cond.native arraycopyName).before args s = true) (hstat : (Cond.static arraycopyName).before args s = true) (hini : (Cond.initialized "java/lang/System").before args s = true)
    (hK : va_K D cl tys s) (hP : va_P D cl ws H) (hD : va_D A ws) (hS : va_S A H0 H locs) (q0 q1 t0 t1 : Nat) {a0 : Nat} {c0 c1 : ClassId} {n0 n1 : Nat} {f g : Nat → Int32} (ha0 : ws[q0]? = some (a0, .inl (c0, n0, .inl f))) (ha1 : ws[q1]? = some (a, .inl (c1, n1, .inl g))) (ht0 : tys[t0]? = some (c0, .byte)) (ht1 : tys[t1]? = some (c1, .byte))
    {sp dp n : Int32} (h1 : ¬ sp < 0) (h2 : ¬ dp < 0) (h3 : ¬ n < 0) (h4 : sp.toNatClampNeg + n.toNatClampNeg ≤ n0) (h5 : dp.toNatClampNeg + n.toNatClampNeg ≤ n1) (hf : sb_Fit f) (hg : sb_Fit g)
    (hframes : 1 ≤ R.frames) (hlocals : (rest.map fun v => v.category).sum + (nativeFrameWords "java/lang/System" "arraycopy" 5 + 11) ≤ R.locals) (hdg : decode cc pc = .ok (.invokestatic index, 3))
    (kk : ∀ (w : Nat → Int32) (_ : sb_Fit w) (H1 : Heap) (locs1 : List Loc), va_P D cl (ws.set q1 (a, .inl (c1, n1, .inl w))) H1 → va_D A (ws.set q1 (a, .inl (c1, n1, .inl w))) → va_S A H0 H1 locs1 → W p l e R s m args below meth c H1 locs1 cells slots Q (F0 m (pc + 3) ls rest)) : W p l e R s m args below meth c H locs cells slots Q (F0 m pc ls (.int n :: .int dp :: .ref a :: .int sp :: .ref a0 :: rest)) :=
  va_copyi hexec hb hml hown hlink hnat hstat hini hK hP hD hS q0 q1 t0 t1 ha0 ha1 ht0 ht1 rfl h1 h2 h3 h4 h5 (fun i _ => hf _) hframes hlocals hdg (fun H1 locs1 => kk _ (sb_fitC hf hg) H1 locs1)
theorem zz_copyt (hexec : p.tables.exec = Jvm.exec) (hb : c.code = cc) (hml : c.maxLocals = ls.size) {own : String} {index : Nat} (hown : s.vm.findClass own = some m.cls) (hlink : (Cond.methodLink own index arraycopyName).before args s = true) (hnat : (Cond.native arraycopyName).before args s = true) (hstat : (Cond.static arraycopyName).before args s = true) (hini : (Cond.initialized "java/lang/System").before args s = true)
    (hK : va_K D cl tys s) (hP : va_P D cl ws H) (hD : va_D A ws) (hS : va_S A s.heap H locs) {b0 n0 : Nat} {f : Nat → Int32} (hX : va_X b0 n0 f s s.heap ∧ ¬ A b0) (q1 t1 : Nat) {c1 : ClassId} {n1 : Nat} {g : Nat → Int32} (ha1 : ws[q1]? = some (a, .inl (c1, n1, .inl g))) (ht1 : tys[t1]? = some (c1, .int))
    {sp dp n : Int32} (h1 : ¬ sp < 0) (h2 : ¬ dp < 0) (h3 : ¬ n < 0) (h4 : sp.toNatClampNeg + n.toNatClampNeg ≤ n0) (h5 : dp.toNatClampNeg + n.toNatClampNeg ≤ n1)
    (hframes : 1 ≤ R.frames) (hlocals : (rest.map fun v => v.category).sum + (nativeFrameWords "java/lang/System" "arraycopy" 5 + 11) ≤ R.locals) (hdg : decode cc pc = .ok (.invokestatic index, 3))
    (kk : ∀ (w : Nat → Int32) (H1 : Heap) (locs1 : List Loc), va_P D cl (ws.set q1 (a, .inl (c1, n1, .inl w))) H1 → va_D A (ws.set q1 (a, .inl (c1, n1, .inl w))) → va_S A s.heap H1 locs1 → W p l e R s m args below meth c H1 locs1 cells slots Q (F0 m (pc + 3) ls rest)) : W p l e R s m args below meth c H locs cells slots Q (F0 m pc ls (.int n :: .int dp :: .ref a :: .int sp :: .ref b0 :: rest)) :=
  va_copyx hexec hb hml hown hlink hnat hstat hini hK hP hD hS hX.1 (by obtain ⟨scr, h, -⟩ := hX.1; exact (Array.getElem?_eq_some_iff.mp h).1) hX.2 q1 t1 ha1 ht1 h1 h2 h3 h4 h5 hframes hlocals hdg (fun H1 locs1 => kk _ H1 locs1)
end ZROW
/-! the answers of a fresh object -/
def an_end (n : Int32) : Int32 := if n = 0 then 0 else -1
def an_tip (w : Int32) : Int64 := if w = 0 then 0 else if w = 1 then 0 else if w = 2 then 0 else if w = 3 then 0 else -1
def an_stored (n w : Int32) : Int32 := if w < 0 then -1 else if w ≤ 5 then (if n = 0 then (if w = 0 then 0 else if w = 1 then -2 else if w = 2 then 0 else if w = 3 then 32768 else if w = 4 then 0 else 1) else -2) else -1
def an_coin (w : Int32) : Int32 := if w < 0 then -1 else if w ≤ 5 then -2 else -1
def an_pooled (w : Int32) : Int32 := if w < 0 then -1 else if w ≤ 3 then -2 else -1
def an_octet (i : Int32) : Int32 := if i = -1 then 0 else -2
def an_count (w : Int32) : Int64 := if w = 0 then 1 else if w = 1 then 0 else if w = 2 then 0 else if w = 3 then 0 else if w = 4 then 0 else if w = 5 then 0 else if w = 6 then 0 else -1
def an_draft (q t : Int32) : Int32 := if q = -1 then (if 0 ≤ t then 94 else -1) else if q = 0 then (if 0 ≤ t then 94 else -1) else -1
theorem zz_nlt {x : Int32} (h : ¬ x < 0) : 0 ≤ x := Int32.not_lt.mp h
theorem zz_nlt0 {x : Int32} (h : ¬ x < 0) : ¬ x < 0 := h
theorem zz_eq0 {x : Int32} (h1 : ¬ x < 0) (h2 : x ≤ 0) : x = 0 := Int32.le_antisymm h2 (zz_nlt h1)
theorem zz_01 {x : Int32} (h1 : ¬ x < 0) (h2 : x < 1) : x = 0 := by
  apply Int32.toInt_inj.mp
  have a := Int32.le_iff_toInt_le.mp (zz_nlt h1)
  have b := Int32.lt_iff_toInt_lt.mp h2
  have c0 : (0 : Int32).toInt = 0 := by decide
  have c1 : (1 : Int32).toInt = 1 := by decide
  omega
theorem zz_01b {x : Int32} (h1 : ¬ x < 0) (h2 : ¬ 1 ≤ x) : x = 0 := zz_01 h1 (Int32.not_le.mp h2)
theorem zz_sp2 {k n : Int32} (h1 : ¬ n < 1) (h2 : ¬ 8 < n) (h3 : ¬ k < 0) : 0 - n < k := by
  have a := Int32.le_iff_toInt_le.mp (Int32.not_lt.mp h1)
  have b := Int32.le_iff_toInt_le.mp (Int32.not_lt.mp h2)
  have d := Int32.le_iff_toInt_le.mp (zz_nlt h3)
  have c0 : (0 : Int32).toInt = 0 := by decide
  have c1 : (1 : Int32).toInt = 1 := by decide
  have c8 : (8 : Int32).toInt = 8 := by decide
  apply Int32.lt_iff_toInt_lt.mpr
  rw [Int32.toInt_sub, c0, Int.bmod_eq_of_le (by omega) (by omega)]
  omega
theorem zz_sp {k n : Int32} (h1 : ¬ n < 1) (h2 : ¬ 8 < n) (h3 : ¬ k < 0) : ¬ k ≤ 0 - n := Int32.not_le.mpr (zz_sp2 h1 h2 h3)
theorem ae_3 {n : Int32} (h : n < 0) : -1 = an_end n := by
  unfold an_end; rw [if_neg]; rintro rfl; exact absurd h (by decide)
theorem ae_4 {n : Int32} (h1 : ¬ n < 0) (h2 : ¬ n ≤ 0) : -1 = an_end n := by
  unfold an_end; rw [if_neg]; rintro rfl; exact absurd (by decide) h2
theorem ae_5 {n : Int32} (h1 : ¬ n < 0) (h2 : n ≤ 0) : n = an_end n := by
  have e := zz_eq0 h1 h2
  subst e; rfl
theorem zz_out3 {x : Int32} (h0 : ¬ x = 0) (h1 : ¬ x = 1) (h2 : ¬ x = 2) : x.toInt < 0 ∨ 2 < x.toInt := by
  have a0 := lv_neT (a := 0) h0 (by decide)
  have a1 := lv_neT (a := 1) h1 (by decide)
  have a2 := lv_neT (a := 2) h2 (by decide)
  omega
theorem zz_out4 {x : Int32} (h0 : ¬ x = 0) (h1 : ¬ x = 1) (h2 : ¬ x = 2) (h3 : ¬ x = 3) : x.toInt < 0 ∨ 3 < x.toInt := by
  have a0 := lv_neT (a := 0) h0 (by decide)
  have a1 := lv_neT (a := 1) h1 (by decide)
  have a2 := lv_neT (a := 2) h2 (by decide)
  have a3 := lv_neT (a := 3) h3 (by decide)
  omega
theorem zz_out5 {x : Int32} (h0 : ¬ x = 0) (h1 : ¬ x = 1) (h2 : ¬ x = 2) (h3 : ¬ x = 3) (h4 : ¬ x = 4) : x.toInt < 0 ∨ 4 < x.toInt := by
  have a0 := lv_neT (a := 0) h0 (by decide)
  have a1 := lv_neT (a := 1) h1 (by decide)
  have a2 := lv_neT (a := 2) h2 (by decide)
  have a3 := lv_neT (a := 3) h3 (by decide)
  have a4 := lv_neT (a := 4) h4 (by decide)
  omega
theorem zz_out7 {x : Int32} (h0 : ¬ x = 0) (h1 : ¬ x = 1) (h2 : ¬ x = 2) (h3 : ¬ x = 3) (h4 : ¬ x = 4) (h5 : ¬ x = 5) (h6 : ¬ x = 6) : x.toInt < 0 ∨ 6 < x.toInt := by
  have a0 := lv_neT (a := 0) h0 (by decide)
  have a1 := lv_neT (a := 1) h1 (by decide)
  have a2 := lv_neT (a := 2) h2 (by decide)
  have a3 := lv_neT (a := 3) h3 (by decide)
  have a4 := lv_neT (a := 4) h4 (by decide)
  have a5 := lv_neT (a := 5) h5 (by decide)
  have a6 := lv_neT (a := 6) h6 (by decide)
  omega
theorem zz_out19 {x : Int32} (h0 : ¬ x = 0) (h1 : ¬ x = 1) (h2 : ¬ x = 2) (h3 : ¬ x = 3) (h4 : ¬ x = 4) (h5 : ¬ x = 5) (h6 : ¬ x = 6) (h7 : ¬ x = 7) (h8 : ¬ x = 8) (h9 : ¬ x = 9) (h10 : ¬ x = 10) (h11 : ¬ x = 11) (h12 : ¬ x = 12) (h13 : ¬ x = 13) (h14 : ¬ x = 14) (h15 : ¬ x = 15) (h16 : ¬ x = 16) (h17 : ¬ x = 17) (h18 : ¬ x = 18) : x.toInt < 0 ∨ 18 < x.toInt := by
  have a0 := lv_neT (a := 0) h0 (by decide)
  have a1 := lv_neT (a := 1) h1 (by decide)
  have a2 := lv_neT (a := 2) h2 (by decide)
  have a3 := lv_neT (a := 3) h3 (by decide)
  have a4 := lv_neT (a := 4) h4 (by decide)
  have a5 := lv_neT (a := 5) h5 (by decide)
  have a6 := lv_neT (a := 6) h6 (by decide)
  have a7 := lv_neT (a := 7) h7 (by decide)
  have a8 := lv_neT (a := 8) h8 (by decide)
  have a9 := lv_neT (a := 9) h9 (by decide)
  have a10 := lv_neT (a := 10) h10 (by decide)
  have a11 := lv_neT (a := 11) h11 (by decide)
  have a12 := lv_neT (a := 12) h12 (by decide)
  have a13 := lv_neT (a := 13) h13 (by decide)
  have a14 := lv_neT (a := 14) h14 (by decide)
  have a15 := lv_neT (a := 15) h15 (by decide)
  have a16 := lv_neT (a := 16) h16 (by decide)
  have a17 := lv_neT (a := 17) h17 (by decide)
  have a18 := lv_neT (a := 18) h18 (by decide)
  omega
theorem zz_cmp (x : Int64) : lg_cmp x x = 0 := by
  have h : ¬ x < x := Int64.lt_irrefl
  simp [lg_cmp, h]
end
section
/-! an array of 24 rows of 80 bytes: what is made is not looked at, but for its address; nothing old changes -/
section ZMULTI
variable {p : Program} {l : Launch} {e : Env} {R : Room} {s : State} {m : MethodId} {args : Array Value} {below : List Frame} {meth : Method} {c : Code} {H : Heap} {locs : List Loc} {cells slots : Nat} {Q : State → Prop}
variable {cc : ByteArray} {pc : Nat} {ls : Array Slot} {rest : List Value} {D : va_G} {cl : List vw_C} {A : Nat → Prop} {ws : va_W}
theorem zz_multi (hexec : p.tables.exec = Jvm.exec) (hb : c.code = cc) {own : String} {index : Nat} (hown : s.vm.findClass own = some m.cls) (hclink : (Cond.classLink own index "[[B").before args s = true) (hover : (Cond.arrayOver (.array .byte)).before args s = true) (harr : (Cond.arrayClass .byte).before args s = true)
    (hP : va_P D cl ws H) (hS : va_S A s.heap H locs) (hA : ∀ q, s.heap.size ≤ q → A q) (hcells : cells + 25 ≤ R.cells) (hslots : slots + 1944 ≤ R.slots) (hdg : decode cc pc = .ok (.multianewarray index 2, 4))
    (kk : ∀ (q : Nat) (H1 : Heap) (locs1 : List Loc), va_P D cl ws H1 → va_S A s.heap H1 locs1 → W p l e R s m args below meth c H1 locs1 (cells + 25) (slots + 1944) Q (F0 m (pc + 4) ls (.ref q :: rest))) : W p l e R s m args below meth c H locs cells slots Q (F0 m pc ls (.int 80 :: .int 24 :: rest)) := by
  intro T hT X
  subst hb
  have en : "[" ++ (FieldType.array .byte).toString = "[[B" := by decide +kernel
  have e24 : (24 : Int32).toNatClampNeg = 24 := by decide
  have e80 : (80 : Int32).toNatClampNeg = 80 := by decide
  obtain ⟨vm, cA, comp, hW, -, -, X', step⟩ := X.multianewarray2 hexec (ty := .byte) hown (by rw [en]; exact hclink) hover harr (g := F0 m pc ls (.int 80 :: .int 24 :: rest)) rfl hdg (n := 24) (k := 80) (rest := rest) rfl (by decide) (by decide) (by decide) (by decide) (by decide) (by decide) (by decide) (by rw [e24]; omega) (by rw [e24, e80]; omega)
  rw [e24, e80] at X'
  rw [e24, e80] at step
  have hsz := (Jvm.Free.Multi.fill_facts (T.setVm vm) cA comp 24 80 (defaultValue .byte) 24).1
  have hold : ∀ q : Nat, q < H.size → (Jvm.Free.Multi.fill (T.setVm vm) cA comp 24 80 (defaultValue .byte) 24).heap[q]? = H[q]? := fun q hq => by
    rw [Jvm.Free.Multi.fill_old (T.setVm vm) cA comp 24 80 (defaultValue .byte) (a := q) (show q < T.heap.size by rw [hT]; exact hq) 24]
    show T.heap[q]? = _
    rw [hT]
  have h0 : (T.setVm vm).heap.size = H.size := by show T.heap.size = _; rw [hT]
  have hs0 := hS.1
  obtain ⟨t, a1, b1⟩ := kk T.heap.size _ _ (hP.kept (fun k q hk => hold q.1 (hP k q hk).lt)) ⟨by rw [hsz, h0]; omega, fun q h1 h2 => by rw [hold q (by omega)]; exact hS.2.1 q h1 h2, fun q hq => by
    rcases List.mem_append.mp hq with h | h
    · exact hS.2.2 q h
    · obtain ⟨j, -, hj⟩ := List.mem_map.mp h
      rw [← hj]
      exact hA _ (by show _ ≤ T.heap.size; rw [hT]; exact hS.1)⟩ _ rfl X'
  exact ⟨t, step t a1, b1⟩
end ZMULTI
end
section
set_option maxHeartbeats 4000000 in
set_option maxRecDepth 100000 in
/-- View(): nothing -/
theorem c_View_init (l : Launch) (dC : Nat → ClassId) (dI : Nat → Nat → Nat) (z : zT) (sz : Nat) (h0 : Nat)  : Met l y_View_init w_View_init ({ frames := 1, cells := 0, slots := 0, locals := 12 }) (va_Pc [.ref h0] (fun U => U.heap.size = sz ∧ va_P (dC, dI) cl_all [] U.heap ∧ va_K (dC, dI) cl_all [] U ∧ va_D (fun _ => True) [] ∧ zz z (va_A [] sz) U U.heap)) (va_Qv (fun _ : Unit => True) (fun _ t => True) (va_A [] sz)) 0 0 (va_A [] sz) := by
  refine Met.ofW (cc := b_View_init) (maxL := 1) (ret := none) (by decide) rfl ?_
  intro p e s m args below meth c s₁ B hml hv
  obtain ⟨rfl, hsz, hP, hK, hD0, hZ⟩ := hv
  have hx := B.exec
  have hb := B.bytes
  have hr := B.returns
  have hT : ∀ w ∈ lw_all, w.before _ s = true := fun w h => atoms_spec (ws := w_View_init) B.pre w (List.mem_cons_of_mem _ h)
  have hown : s.vm.findClass R_View = some m.cls := findClass_of_methodNamed B.named
  have hlocks := B.notSynchronized
  have hin : meth.name = "<init>" := (name_of_methodNamed B.named B.method).1
  subst hsz
  have hD := hD0.self (sz := s.heap.size)
  generalize hAe : va_A [] s.heap.size = A at hD hZ ⊢
  have hA : ∀ q : Nat, s.heap.size ≤ q → A q := fun q h => by rw [← hAe]; exact Or.inr h
  have hS : va_S A s.heap s.heap [] := va_S.rf
  have hl := lv_entry ([.ref h0]) (n := 1) (Nat.le_of_ble_eq_true rfl)
  rw [lg_entry_eq]
  generalize (lg_sl ([.ref h0]) ++ List.replicate (1 - (lg_sl ([.ref h0])).length) Slot.unset).toArray = ls at hl ⊢
  have hl : lv_has ls 1 [(0, .ref h0)] := hl
  refine lv_aload_n hx hb d_View_init_0 rfl (lv_at hl 0 rfl) ?_
  refine W.objInit hx hb hown (hT _ k_0) (hT _ k_1) (hT _ k_2) rfl (by rw [hml]; exact hl.1) rfl d_View_init_1 (Nat.le_of_ble_eq_true rfl) (Nat.le_of_ble_eq_true rfl) ?_
  refine W.eq (g2 := F0 m 4 ls []) rfl ?_
  exact W.vret hx hb hr (fun t ht hW => ⟨⟨(), rfl, trivial, trivial⟩, hS.F ht⟩) hS.2.2 d_View_init_4
set_option maxHeartbeats 4000000 in
set_option maxRecDepth 100000 in
/-- Ac(): nothing -/
theorem c_Ac_init (l : Launch) (dC : Nat → ClassId) (dI : Nat → Nat → Nat) (z : zT) (sz : Nat) (h0 : Nat)  : Met l y_Ac_init w_Ac_init ({ frames := 1, cells := 0, slots := 0, locals := 12 }) (va_Pc [.ref h0] (fun U => U.heap.size = sz ∧ va_P (dC, dI) cl_all [] U.heap ∧ va_K (dC, dI) cl_all [] U ∧ va_D (fun _ => True) [] ∧ zz z (va_A [] sz) U U.heap)) (va_Qv (fun _ : Unit => True) (fun _ t => True) (va_A [] sz)) 0 0 (va_A [] sz) := by
  refine Met.ofW (cc := b_Ac_init) (maxL := 1) (ret := none) (by decide) rfl ?_
  intro p e s m args below meth c s₁ B hml hv
  obtain ⟨rfl, hsz, hP, hK, hD0, hZ⟩ := hv
  have hx := B.exec
  have hb := B.bytes
  have hr := B.returns
  have hT : ∀ w ∈ lw_all, w.before _ s = true := fun w h => atoms_spec (ws := w_Ac_init) B.pre w (List.mem_cons_of_mem _ h)
  have hown : s.vm.findClass R_Ac = some m.cls := findClass_of_methodNamed B.named
  have hlocks := B.notSynchronized
  have hin : meth.name = "<init>" := (name_of_methodNamed B.named B.method).1
  subst hsz
  have hD := hD0.self (sz := s.heap.size)
  generalize hAe : va_A [] s.heap.size = A at hD hZ ⊢
  have hA : ∀ q : Nat, s.heap.size ≤ q → A q := fun q h => by rw [← hAe]; exact Or.inr h
  have hS : va_S A s.heap s.heap [] := va_S.rf
  have hl := lv_entry ([.ref h0]) (n := 1) (Nat.le_of_ble_eq_true rfl)
  rw [lg_entry_eq]
  generalize (lg_sl ([.ref h0]) ++ List.replicate (1 - (lg_sl ([.ref h0])).length) Slot.unset).toArray = ls at hl ⊢
  have hl : lv_has ls 1 [(0, .ref h0)] := hl
  refine lv_aload_n hx hb d_Ac_init_0 rfl (lv_at hl 0 rfl) ?_
  refine W.objInit hx hb hown (hT _ k_3) (hT _ k_1) (hT _ k_2) rfl (by rw [hml]; exact hl.1) rfl d_Ac_init_1 (Nat.le_of_ble_eq_true rfl) (Nat.le_of_ble_eq_true rfl) ?_
  refine W.eq (g2 := F0 m 4 ls []) rfl ?_
  exact W.vret hx hb hr (fun t ht hW => ⟨⟨(), rfl, trivial, trivial⟩, hS.F ht⟩) hS.2.2 d_Ac_init_4
set_option maxHeartbeats 4000000 in
set_option maxRecDepth 100000 in
/-- AbstractList(): the count stays 0 -/
theorem c_Ab_init (l : Launch) (dC : Nat → ClassId) (dI : Nat → Nat → Nat) (z : zT) (sz : Nat) (h0 : Nat)  : Met l y_Ab_init w_Ab_init ({ frames := 2, cells := 0, slots := 0, locals := 32 }) (va_Pc [.ref h0] (fun U => U.heap.size = sz ∧ va_P (dC, dI) cl_all [(h0, .inr (10, [.int 0, .null, .int 0]))] U.heap ∧ va_K (dC, dI) cl_all [] U ∧ va_D (fun _ => True) [(h0, .inr (10, [.int 0, .null, .int 0]))] ∧ zz z (va_A [(h0, .inr (10, [.int 0, .null, .int 0]))] sz) U U.heap)) (va_Qv (fun _ : Unit => True) (fun _ t => va_P (dC, dI) cl_all [(h0, .inr (10, [.int 0, .null, .int 0]))] t.heap ∧ va_K (dC, dI) cl_all [] t ∧ va_D (va_A [(h0, .inr (10, [.int 0, .null, .int 0]))] sz) [(h0, .inr (10, [.int 0, .null, .int 0]))]) (va_A [(h0, .inr (10, [.int 0, .null, .int 0]))] sz)) 0 0 (va_A [(h0, .inr (10, [.int 0, .null, .int 0]))] sz) := by
  refine Met.ofW (cc := b_Ab_init) (maxL := 1) (ret := none) (by decide) rfl ?_
  intro p e s m args below meth c s₁ B hml hv
  obtain ⟨rfl, hsz, hP, hK, hD0, hZ⟩ := hv
  have hx := B.exec
  have hb := B.bytes
  have hr := B.returns
  have hT : ∀ w ∈ lw_all, w.before _ s = true := fun w h => atoms_spec (ws := w_Ab_init) B.pre w (List.mem_cons_of_mem _ h)
  have hown : s.vm.findClass R_Ab = some m.cls := findClass_of_methodNamed B.named
  have hlocks := B.notSynchronized
  have hin : meth.name = "<init>" := (name_of_methodNamed B.named B.method).1
  subst hsz
  have hD := hD0.self (sz := s.heap.size)
  generalize hAe : va_A [(h0, .inr (10, [.int 0, .null, .int 0]))] s.heap.size = A at hD hZ ⊢
  have hA : ∀ q : Nat, s.heap.size ≤ q → A q := fun q h => by rw [← hAe]; exact Or.inr h
  have hS : va_S A s.heap s.heap [] := va_S.rf
  have hl := lv_entry ([.ref h0]) (n := 1) (Nat.le_of_ble_eq_true rfl)
  rw [lg_entry_eq]
  generalize (lg_sl ([.ref h0]) ++ List.replicate (1 - (lg_sl ([.ref h0])).length) Slot.unset).toArray = ls at hl ⊢
  have hl : lv_has ls 1 [(0, .ref h0)] := hl
  refine lv_aload_n hx hb d_Ab_init_0 rfl (lv_at hl 0 rfl) ?_
  have hPc := hP.sub (ws' := []) [] rfl
  have hDc := hD.sub (ws' := []) [] (by decide) rfl
  have hKc := hK.sub (tys' := []) [] rfl
  have hFc := va_free (wc := []) hD hS hA [] rfl
  refine va_callv (va_runI (As := []) (rest := []) ⟨hx, hb, hml, hown, hT⟩ (c_Ac_init l dC dI z s.heap.size h0) (cwI 0 hT g_Ac_init rfl rfl rfl (hT _ k_4) (hT _ k_5) (hT _ k_6) rfl (by decide +kernel) ⟨Nat.le_of_ble_eq_true rfl, Nat.le_of_ble_eq_true rfl⟩) (zz_pre hPc hKc hDc hZ hS hFc) rfl rfl hl.1 rfl (lv_room (Nat.le_of_ble_eq_true rfl)) d_Ab_init_1 ⟨Nat.le_of_ble_eq_true rfl, Nat.le_of_ble_eq_true rfl⟩) hS (fun q _ h => hFc q h) hFc (fun u t H1 locs ht hvm hw hB hz1 hk1 hS => ?_)
  have hP1 : va_P (dC, dI) cl_all [] H1 := zz_P0
  have hD1 : va_D (va_A [] s.heap.size) [] := zz_D0
  obtain ⟨hP, hD⟩ := va_join (wr := [(h0, .inr (10, [.int 0, .null, .int 0]))]) (w1 := []) hP hD [] [0] rfl rfl (by decide) (by decide) hk1 hFc hP1 hD1
  generalize H1 = H at hP hS ⊢
  have hP : va_P (dC, dI) cl_all [(h0, .inr (10, [.int 0, .null, .int 0]))] H := hP
  have hD : va_D A [(h0, .inr (10, [.int 0, .null, .int 0]))] := hD
  refine lv_aload_n hx hb d_Ab_init_4 rfl (lv_at hl 0 rfl) ?_
  refine lv_iconst (v := 0) hx hb d_Ab_init_5 (by decide) ?_
  refine va_put (D := (dC, dI)) (ci := 10) (v := .int 0) (ty := .int) (C := R_AL) (T := F_AL) (N := 3) hx hb hT i_AL t_AL t_AL_ok n_AL hown hK hP hD hS 0 rfl rfl 0 (by decide) (hT _ k_7) (fun _ h9 => h9) rfl (by decide +kernel) rfl rfl (Nat.le_of_ble_eq_true rfl) d_Ab_init_6 (fun H locs hP hD hS => ?_)
  have hP : va_P (dC, dI) cl_all [(h0, .inr (10, [.int 0, .null, .int 0]))] H := hP
  have hD : va_D A [(h0, .inr (10, [.int 0, .null, .int 0]))] := hD
  have hP9 := hP.sub (ws' := [(h0, .inr (10, [.int 0, .null, .int 0]))]) [0] rfl
  have hD9 := hD.sub (ws' := [(h0, .inr (10, [.int 0, .null, .int 0]))]) [0] (by decide) rfl
  have hK9 := hK.sub (tys' := []) [] rfl
  exact W.vret hx hb hr (fun t ht hW => ⟨⟨(), rfl, trivial, ⟨by rw [ht]; exact hP9, va_K.moved hW.alike hK9, hD9⟩⟩, hS.F ht⟩) hS.2.2 d_Ab_init_9
set_option maxHeartbeats 4000000 in
set_option maxRecDepth 100000 in
/-- ArrayList(): the shared empty array -/
theorem c_AL_init (l : Launch) (dC : Nat → ClassId) (dI : Nat → Nat → Nat) (z : zT) (sz : Nat) (h0 : Nat)  : Met l y_AL_init w_AL_init ({ frames := 3, cells := 0, slots := 0, locals := 52 }) (va_Pc [.ref h0] (fun U => U.heap.size = sz ∧ va_P (dC, dI) cl_all [(h0, .inr (10, [.int 0, .null, .int 0]))] U.heap ∧ va_K (dC, dI) cl_all [] U ∧ va_D (fun _ => True) [(h0, .inr (10, [.int 0, .null, .int 0]))] ∧ zz z (va_A [(h0, .inr (10, [.int 0, .null, .int 0]))] sz) U U.heap)) (va_Qv (fun _ : Unit => True) (fun _ t => va_P (dC, dI) cl_all [(h0, .inr (10, [.int 0, .ref z.1, .int 0]))] t.heap ∧ va_K (dC, dI) cl_all [] t ∧ va_D (va_A [(h0, .inr (10, [.int 0, .null, .int 0]))] sz) [(h0, .inr (10, [.int 0, .ref z.1, .int 0]))]) (va_A [(h0, .inr (10, [.int 0, .null, .int 0]))] sz)) 0 0 (va_A [(h0, .inr (10, [.int 0, .null, .int 0]))] sz) := by
  refine Met.ofW (cc := b_AL_init) (maxL := 1) (ret := none) (by decide) rfl ?_
  intro p e s m args below meth c s₁ B hml hv
  obtain ⟨rfl, hsz, hP, hK, hD0, hZ⟩ := hv
  have hx := B.exec
  have hb := B.bytes
  have hr := B.returns
  have hT : ∀ w ∈ lw_all, w.before _ s = true := fun w h => atoms_spec (ws := w_AL_init) B.pre w (List.mem_cons_of_mem _ h)
  have hown : s.vm.findClass R_AL = some m.cls := findClass_of_methodNamed B.named
  have hlocks := B.notSynchronized
  have hin : meth.name = "<init>" := (name_of_methodNamed B.named B.method).1
  subst hsz
  have hD := hD0.self (sz := s.heap.size)
  generalize hAe : va_A [(h0, .inr (10, [.int 0, .null, .int 0]))] s.heap.size = A at hD hZ ⊢
  have hA : ∀ q : Nat, s.heap.size ≤ q → A q := fun q h => by rw [← hAe]; exact Or.inr h
  have hS : va_S A s.heap s.heap [] := va_S.rf
  have hl := lv_entry ([.ref h0]) (n := 1) (Nat.le_of_ble_eq_true rfl)
  rw [lg_entry_eq]
  generalize (lg_sl ([.ref h0]) ++ List.replicate (1 - (lg_sl ([.ref h0])).length) Slot.unset).toArray = ls at hl ⊢
  have hl : lv_has ls 1 [(0, .ref h0)] := hl
  refine lv_aload_n hx hb d_AL_init_0 rfl (lv_at hl 0 rfl) ?_
  have hPc := hP.sub (ws' := [(h0, .inr (10, [.int 0, .null, .int 0]))]) [0] rfl
  have hDc := hD.sub (ws' := [(h0, .inr (10, [.int 0, .null, .int 0]))]) [0] (by decide) rfl
  have hKc := hK.sub (tys' := []) [] rfl
  have hFc := va_free (wc := [(h0, .inr (10, [.int 0, .null, .int 0]))]) hD hS hA [0] rfl
  refine va_callv (va_runI (As := []) (rest := []) ⟨hx, hb, hml, hown, hT⟩ (c_Ab_init l dC dI z s.heap.size h0) (cwI 0 hT g_Ab_init rfl rfl rfl (hT _ k_8) (hT _ k_9) (hT _ k_10) rfl (by decide +kernel) ⟨Nat.le_of_ble_eq_true rfl, Nat.le_of_ble_eq_true rfl⟩) (zz_pre hPc hKc hDc hZ hS hFc) rfl rfl hl.1 rfl (lv_room (Nat.le_of_ble_eq_true rfl)) d_AL_init_1 ⟨Nat.le_of_ble_eq_true rfl, Nat.le_of_ble_eq_true rfl⟩) hS (fun q _ h => hFc q h) hFc (fun u t H1 locs ht hvm hw hB hz1 hk1 hS => ?_)
  obtain ⟨hP1, hK1, hD1⟩ := hB
  rw [ht] at hP1
  obtain ⟨hP, hD⟩ := va_join (wr := []) (w1 := [(h0, .inr (10, [.int 0, .null, .int 0]))]) hP hD [0] [] rfl rfl (by decide) (by decide) hk1 hFc hP1 hD1
  generalize H1 = H at hP hS ⊢
  have hP : va_P (dC, dI) cl_all [(h0, .inr (10, [.int 0, .null, .int 0]))] H := hP
  have hD : va_D A [(h0, .inr (10, [.int 0, .null, .int 0]))] := hD
  refine lv_aload_n hx hb d_AL_init_4 rfl (lv_at hl 0 rfl) ?_
  refine va_gets hx hb hZ.1 hS hown (hT _ k_11) (fun _ h9 => h9) d_AL_init_5 ?_
  refine va_put (D := (dC, dI)) (ci := 10) (v := .ref z.1) (ty := .array (.object "java/lang/Object")) (C := R_AL) (T := F_AL) (N := 3) hx hb hT i_AL t_AL t_AL_ok n_AL hown hK hP hD hS 0 rfl rfl 1 (by decide) (hT _ k_12) (fun _ h9 => h9) rfl (by decide +kernel) rfl rfl (Nat.le_of_ble_eq_true rfl) d_AL_init_8 (fun H locs hP hD hS => ?_)
  have hP : va_P (dC, dI) cl_all [(h0, .inr (10, [.int 0, .ref z.1, .int 0]))] H := hP
  have hD : va_D A [(h0, .inr (10, [.int 0, .ref z.1, .int 0]))] := hD
  have hP9 := hP.sub (ws' := [(h0, .inr (10, [.int 0, .ref z.1, .int 0]))]) [0] rfl
  have hD9 := hD.sub (ws' := [(h0, .inr (10, [.int 0, .ref z.1, .int 0]))]) [0] (by decide) rfl
  have hK9 := hK.sub (tys' := []) [] rfl
  exact W.vret hx hb hr (fun t ht hW => ⟨⟨(), rfl, trivial, ⟨by rw [ht]; exact hP9, va_K.moved hW.alike hK9, hD9⟩⟩, hS.F ht⟩) hS.2.2 d_AL_init_11
set_option maxHeartbeats 4000000 in
set_option maxRecDepth 100000 in
/-- size() -/
theorem c_AL_size (l : Launch) (dC : Nat → ClassId) (dI : Nat → Nat → Nat) (z : zT) (sz : Nat) (h0 : Nat) (x0 : Int32) (h1 : Nat) (x1 : Int32)  : Met l y_AL_size w_AL_size ({ frames := 0, cells := 0, slots := 0, locals := 0 }) (va_Pc [.ref h0] (fun U => U.heap.size = sz ∧ va_P (dC, dI) cl_all [(h0, .inr (10, [.int x0, .ref h1, .int x1]))] U.heap ∧ va_K (dC, dI) cl_all [] U ∧ va_D (fun _ => True) [(h0, .inr (10, [.int x0, .ref h1, .int x1]))] ∧ zz z (va_A [(h0, .inr (10, [.int x0, .ref h1, .int x1]))] sz) U U.heap)) (va_Qi (fun (r : Int32) (_ : Unit) => r = x1) (fun _ t => va_P (dC, dI) cl_all [(h0, .inr (10, [.int x0, .ref h1, .int x1]))] t.heap ∧ va_K (dC, dI) cl_all [] t ∧ va_D (va_A [(h0, .inr (10, [.int x0, .ref h1, .int x1]))] sz) [(h0, .inr (10, [.int x0, .ref h1, .int x1]))]) (va_A [(h0, .inr (10, [.int x0, .ref h1, .int x1]))] sz)) 0 0 (va_A [(h0, .inr (10, [.int x0, .ref h1, .int x1]))] sz) := by
  refine Met.ofW (cc := b_AL_size) (maxL := 1) (ret := (some (.int))) (by decide) rfl ?_
  intro p e s m args below meth c s₁ B hml hv
  obtain ⟨rfl, hsz, hP, hK, hD0, hZ⟩ := hv
  have hx := B.exec
  have hb := B.bytes
  have hr := B.returns
  have hT : ∀ w ∈ lw_all, w.before _ s = true := fun w h => atoms_spec (ws := w_AL_size) B.pre w (List.mem_cons_of_mem _ h)
  have hown : s.vm.findClass R_AL = some m.cls := findClass_of_methodNamed B.named
  have hlocks := B.notSynchronized
  subst hsz
  have hD := hD0.self (sz := s.heap.size)
  generalize hAe : va_A [(h0, .inr (10, [.int x0, .ref h1, .int x1]))] s.heap.size = A at hD hZ ⊢
  have hA : ∀ q : Nat, s.heap.size ≤ q → A q := fun q h => by rw [← hAe]; exact Or.inr h
  have hS : va_S A s.heap s.heap [] := va_S.rf
  have hl := lv_entry ([.ref h0]) (n := 1) (Nat.le_of_ble_eq_true rfl)
  rw [lg_entry_eq]
  generalize (lg_sl ([.ref h0]) ++ List.replicate (1 - (lg_sl ([.ref h0])).length) Slot.unset).toArray = ls at hl ⊢
  have hl : lv_has ls 1 [(0, .ref h0)] := hl
  refine lv_aload_n hx hb d_AL_size_0 rfl (lv_at hl 0 rfl) ?_
  refine va_get (D := (dC, dI)) (ci := 10) (v := .int x1) (C := R_AL) (T := F_AL) (N := 3) hx hb hT i_AL hown hK hP 0 rfl rfl 2 (by decide) (hT _ k_13) (fun _ h9 => h9) rfl d_AL_size_1 ?_
  have hP9 := hP.sub (ws' := [(h0, .inr (10, [.int x0, .ref h1, .int x1]))]) [0] rfl
  have hD9 := hD.sub (ws' := [(h0, .inr (10, [.int x0, .ref h1, .int x1]))]) [0] (by decide) rfl
  have hK9 := hK.sub (tys' := []) [] rfl
  exact W.iret (v := x1) hx hb hr (fun t ht hW => ⟨⟨x1, (), rfl, rfl, ⟨by rw [ht]; exact hP9, va_K.moved hW.alike hK9, hD9⟩⟩, hS.F ht⟩) hS.2.2 d_AL_size_4
set_option maxHeartbeats 4000000 in
set_option maxRecDepth 100000 in
/-- Row(): 4096 zero bytes, none used -/
theorem c_Row_init (l : Launch) (dC : Nat → ClassId) (dI : Nat → Nat → Nat) (z : zT) (sz : Nat) (h0 : Nat)  : Met l y_Row_init w_Row_init ({ frames := 1, cells := 1, slots := 4096, locals := 12 }) (va_Pc [.ref h0] (fun U => U.heap.size = sz ∧ va_P (dC, dI) cl_all [(h0, .inr (1, [.null, .int 0]))] U.heap ∧ va_K (dC, dI) cl_all [] U ∧ va_D (fun _ => True) [(h0, .inr (1, [.null, .int 0]))] ∧ zz z (va_A [(h0, .inr (1, [.null, .int 0]))] sz) U U.heap)) (va_Qv (fun _ : Unit => True) (fun _ t => ∃ (qb : Nat) (eb : ClassId), va_P (dC, dI) cl_all [(h0, .inr (1, [.ref qb, .int 0])), (qb, .inl (eb, 4096, .inl (fun _ => 0)))] t.heap ∧ va_K (dC, dI) cl_all [(eb, .byte)] t ∧ va_D (va_A [(h0, .inr (1, [.null, .int 0]))] sz) [(h0, .inr (1, [.ref qb, .int 0])), (qb, .inl (eb, 4096, .inl (fun _ => 0)))]) (va_A [(h0, .inr (1, [.null, .int 0]))] sz)) 1 4096 (va_A [(h0, .inr (1, [.null, .int 0]))] sz) := by
  refine Met.ofW (cc := b_Row_init) (maxL := 1) (ret := none) (by decide) rfl ?_
  intro p e s m args below meth c s₁ B hml hv
  obtain ⟨rfl, hsz, hP, hK, hD0, hZ⟩ := hv
  have hx := B.exec
  have hb := B.bytes
  have hr := B.returns
  have hT : ∀ w ∈ lw_all, w.before _ s = true := fun w h => atoms_spec (ws := w_Row_init) B.pre w (List.mem_cons_of_mem _ h)
  have hown : s.vm.findClass R_Row = some m.cls := findClass_of_methodNamed B.named
  have hlocks := B.notSynchronized
  have hin : meth.name = "<init>" := (name_of_methodNamed B.named B.method).1
  subst hsz
  have hD := hD0.self (sz := s.heap.size)
  generalize hAe : va_A [(h0, .inr (1, [.null, .int 0]))] s.heap.size = A at hD hZ ⊢
  have hA : ∀ q : Nat, s.heap.size ≤ q → A q := fun q h => by rw [← hAe]; exact Or.inr h
  have hS : va_S A s.heap s.heap [] := va_S.rf
  have hl := lv_entry ([.ref h0]) (n := 1) (Nat.le_of_ble_eq_true rfl)
  rw [lg_entry_eq]
  generalize (lg_sl ([.ref h0]) ++ List.replicate (1 - (lg_sl ([.ref h0])).length) Slot.unset).toArray = ls at hl ⊢
  have hl : lv_has ls 1 [(0, .ref h0)] := hl
  refine lv_aload_n hx hb d_Row_init_0 rfl (lv_at hl 0 rfl) ?_
  refine W.objInit hx hb hown (hT _ k_14) (hT _ k_1) (hT _ k_2) rfl (by rw [hml]; exact hl.1) rfl d_Row_init_1 (Nat.le_of_ble_eq_true rfl) (Nat.le_of_ble_eq_true rfl) ?_
  refine W.eq (g2 := F0 m 4 ls []) rfl ?_
  refine lv_aload_n hx hb d_Row_init_4 rfl (lv_at hl 0 rfl) ?_
  refine lv_sipush (v := 4096) hx hb d_Row_init_5 (by decide) ?_
  refine va_newa (a0 := (4096, .inl (fun _ => 0))) hx hb (hT _ k_15) (ty := .byte) rfl hK hP hD hS hA (fun _ => rfl) (by decide) (N' := 4096) (by decide) (by decide) (Nat.le_of_ble_eq_true rfl) (Nat.le_of_ble_eq_true rfl) d_Row_init_8 (fun q_1 e_2 H hK hP hD hS => ?_)
  have hK : va_K (dC, dI) cl_all [(e_2, .byte)] s := hK
  have hP : va_P (dC, dI) cl_all [(h0, .inr (1, [.null, .int 0])), (q_1, .inl (e_2, 4096, .inl (fun _ => 0)))] H := hP
  have hD : va_D A [(h0, .inr (1, [.null, .int 0])), (q_1, .inl (e_2, 4096, .inl (fun _ => 0)))] := hD
  refine W.widen (k := 1) (n := 4096) (Nat.le_of_ble_eq_true rfl) (Nat.le_of_ble_eq_true rfl) ?_
  refine va_putF (D := (dC, dI)) (ci := 1) (v := .ref q_1) (ty := .array (.byte)) (C := R_Row) (T := F_Row) (N := 2) hx hb hT i_Row t_Row t_Row_ok n_Row hown hK hP hD hS 0 rfl rfl 0 (by decide) (hT _ k_16) (fun _ h9 => h9) rfl hin rfl (by decide +kernel) rfl rfl (Nat.le_of_ble_eq_true rfl) d_Row_init_10 (fun H locs hP hD hS => ?_)
  have hP : va_P (dC, dI) cl_all [(h0, .inr (1, [.ref q_1, .int 0])), (q_1, .inl (e_2, 4096, .inl (fun _ => 0)))] H := hP
  have hD : va_D A [(h0, .inr (1, [.ref q_1, .int 0])), (q_1, .inl (e_2, 4096, .inl (fun _ => 0)))] := hD
  have hP9 := hP.sub (ws' := [(h0, .inr (1, [.ref q_1, .int 0])), (q_1, .inl (e_2, 4096, .inl (fun _ => 0)))]) [0, 1] rfl
  have hD9 := hD.sub (ws' := [(h0, .inr (1, [.ref q_1, .int 0])), (q_1, .inl (e_2, 4096, .inl (fun _ => 0)))]) [0, 1] (by decide) rfl
  have hK9 := hK.sub (tys' := [(e_2, .byte)]) [0] rfl
  exact W.vret hx hb hr (fun t ht hW => ⟨⟨(), rfl, trivial, ⟨q_1, e_2, by rw [ht]; exact hP9, va_K.moved hW.alike hK9, hD9⟩⟩, hS.F ht⟩) hS.2.2 d_Row_init_13
set_option maxHeartbeats 4000000 in
set_option maxRecDepth 100000 in
/-- Sha(): its two rows -/
theorem c_Sha_init (l : Launch) (dC : Nat → ClassId) (dI : Nat → Nat → Nat) (z : zT) (sz : Nat) (h0 : Nat)  : Met l y_Sha_init w_Sha_init ({ frames := 1, cells := 2, slots := 72, locals := 12 }) (va_Pc [.ref h0] (fun U => U.heap.size = sz ∧ va_P (dC, dI) cl_all [(h0, .inr (2, [.null, .null]))] U.heap ∧ va_K (dC, dI) cl_all [] U ∧ va_D (fun _ => True) [(h0, .inr (2, [.null, .null]))] ∧ zz z (va_A [(h0, .inr (2, [.null, .null]))] sz) U U.heap)) (va_Qv (fun _ : Unit => True) (fun _ t => ∃ (q1 : Nat) (q2 : Nat) (e1 : ClassId) (e2 : ClassId), va_P (dC, dI) cl_all [(h0, .inr (2, [.ref q1, .ref q2])), (q1, .inl (e1, 64, .inl (fun _ => 0))), (q2, .inl (e2, 8, .inl (fun _ => 0)))] t.heap ∧ va_K (dC, dI) cl_all [(e1, .int), (e2, .int)] t ∧ va_D (va_A [(h0, .inr (2, [.null, .null]))] sz) [(h0, .inr (2, [.ref q1, .ref q2])), (q1, .inl (e1, 64, .inl (fun _ => 0))), (q2, .inl (e2, 8, .inl (fun _ => 0)))]) (va_A [(h0, .inr (2, [.null, .null]))] sz)) 2 72 (va_A [(h0, .inr (2, [.null, .null]))] sz) := by
  refine Met.ofW (cc := b_Sha_init) (maxL := 1) (ret := none) (by decide) rfl ?_
  intro p e s m args below meth c s₁ B hml hv
  obtain ⟨rfl, hsz, hP, hK, hD0, hZ⟩ := hv
  have hx := B.exec
  have hb := B.bytes
  have hr := B.returns
  have hT : ∀ w ∈ lw_all, w.before _ s = true := fun w h => atoms_spec (ws := w_Sha_init) B.pre w (List.mem_cons_of_mem _ h)
  have hown : s.vm.findClass R_Sha = some m.cls := findClass_of_methodNamed B.named
  have hlocks := B.notSynchronized
  have hin : meth.name = "<init>" := (name_of_methodNamed B.named B.method).1
  subst hsz
  have hD := hD0.self (sz := s.heap.size)
  generalize hAe : va_A [(h0, .inr (2, [.null, .null]))] s.heap.size = A at hD hZ ⊢
  have hA : ∀ q : Nat, s.heap.size ≤ q → A q := fun q h => by rw [← hAe]; exact Or.inr h
  have hS : va_S A s.heap s.heap [] := va_S.rf
  have hl := lv_entry ([.ref h0]) (n := 1) (Nat.le_of_ble_eq_true rfl)
  rw [lg_entry_eq]
  generalize (lg_sl ([.ref h0]) ++ List.replicate (1 - (lg_sl ([.ref h0])).length) Slot.unset).toArray = ls at hl ⊢
  have hl : lv_has ls 1 [(0, .ref h0)] := hl
  refine lv_aload_n hx hb d_Sha_init_0 rfl (lv_at hl 0 rfl) ?_
  refine W.objInit hx hb hown (hT _ k_17) (hT _ k_1) (hT _ k_2) rfl (by rw [hml]; exact hl.1) rfl d_Sha_init_1 (Nat.le_of_ble_eq_true rfl) (Nat.le_of_ble_eq_true rfl) ?_
  refine W.eq (g2 := F0 m 4 ls []) rfl ?_
  refine lv_aload_n hx hb d_Sha_init_4 rfl (lv_at hl 0 rfl) ?_
  refine lv_bipush (v := 64) hx hb d_Sha_init_5 (by decide) ?_
  refine va_newa (a0 := (64, .inl (fun _ => 0))) hx hb (hT _ k_18) (ty := .int) rfl hK hP hD hS hA (fun _ => rfl) (by decide) (N' := 64) (by decide) (by decide) (Nat.le_of_ble_eq_true rfl) (Nat.le_of_ble_eq_true rfl) d_Sha_init_7 (fun q_1 e_2 H hK hP hD hS => ?_)
  have hK : va_K (dC, dI) cl_all [(e_2, .int)] s := hK
  have hP : va_P (dC, dI) cl_all [(h0, .inr (2, [.null, .null])), (q_1, .inl (e_2, 64, .inl (fun _ => 0)))] H := hP
  have hD : va_D A [(h0, .inr (2, [.null, .null])), (q_1, .inl (e_2, 64, .inl (fun _ => 0)))] := hD
  refine W.widen (k := 1) (n := 64) (Nat.le_of_ble_eq_true rfl) (Nat.le_of_ble_eq_true rfl) ?_
  refine va_putF (D := (dC, dI)) (ci := 2) (v := .ref q_1) (ty := .array (.int)) (C := R_Sha) (T := F_Sha) (N := 2) hx hb hT i_Sha t_Sha t_Sha_ok n_Sha hown hK hP hD hS 0 rfl rfl 0 (by decide) (hT _ k_19) (fun _ h9 => h9) rfl hin rfl (by decide +kernel) rfl rfl (Nat.le_of_ble_eq_true rfl) d_Sha_init_9 (fun H locs hP hD hS => ?_)
  have hP : va_P (dC, dI) cl_all [(h0, .inr (2, [.ref q_1, .null])), (q_1, .inl (e_2, 64, .inl (fun _ => 0)))] H := hP
  have hD : va_D A [(h0, .inr (2, [.ref q_1, .null])), (q_1, .inl (e_2, 64, .inl (fun _ => 0)))] := hD
  refine lv_aload_n hx hb d_Sha_init_12 rfl (lv_at hl 0 rfl) ?_
  refine lv_bipush (v := 8) hx hb d_Sha_init_13 (by decide) ?_
  refine va_newa (a0 := (8, .inl (fun _ => 0))) hx hb (hT _ k_18) (ty := .int) rfl hK hP hD hS hA (fun _ => rfl) (by decide) (N' := 8) (by decide) (by decide) (Nat.le_of_ble_eq_true rfl) (Nat.le_of_ble_eq_true rfl) d_Sha_init_15 (fun q_3 e_4 H hK hP hD hS => ?_)
  have hK : va_K (dC, dI) cl_all [(e_2, .int), (e_4, .int)] s := hK
  have hP : va_P (dC, dI) cl_all [(h0, .inr (2, [.ref q_1, .null])), (q_1, .inl (e_2, 64, .inl (fun _ => 0))), (q_3, .inl (e_4, 8, .inl (fun _ => 0)))] H := hP
  have hD : va_D A [(h0, .inr (2, [.ref q_1, .null])), (q_1, .inl (e_2, 64, .inl (fun _ => 0))), (q_3, .inl (e_4, 8, .inl (fun _ => 0)))] := hD
  refine W.widen (k := 2) (n := 72) (Nat.le_of_ble_eq_true rfl) (Nat.le_of_ble_eq_true rfl) ?_
  refine va_putF (D := (dC, dI)) (ci := 2) (v := .ref q_3) (ty := .array (.int)) (C := R_Sha) (T := F_Sha) (N := 2) hx hb hT i_Sha t_Sha t_Sha_ok n_Sha hown hK hP hD hS 0 rfl rfl 1 (by decide) (hT _ k_20) (fun _ h9 => h9) rfl hin rfl (by decide +kernel) rfl rfl (Nat.le_of_ble_eq_true rfl) d_Sha_init_17 (fun H locs hP hD hS => ?_)
  have hP : va_P (dC, dI) cl_all [(h0, .inr (2, [.ref q_1, .ref q_3])), (q_1, .inl (e_2, 64, .inl (fun _ => 0))), (q_3, .inl (e_4, 8, .inl (fun _ => 0)))] H := hP
  have hD : va_D A [(h0, .inr (2, [.ref q_1, .ref q_3])), (q_1, .inl (e_2, 64, .inl (fun _ => 0))), (q_3, .inl (e_4, 8, .inl (fun _ => 0)))] := hD
  have hP9 := hP.sub (ws' := [(h0, .inr (2, [.ref q_1, .ref q_3])), (q_1, .inl (e_2, 64, .inl (fun _ => 0))), (q_3, .inl (e_4, 8, .inl (fun _ => 0)))]) [0, 1, 2] rfl
  have hD9 := hD.sub (ws' := [(h0, .inr (2, [.ref q_1, .ref q_3])), (q_1, .inl (e_2, 64, .inl (fun _ => 0))), (q_3, .inl (e_4, 8, .inl (fun _ => 0)))]) [0, 1, 2] (by decide) rfl
  have hK9 := hK.sub (tys' := [(e_2, .int), (e_4, .int)]) [0, 1] rfl
  exact W.vret hx hb hr (fun t ht hW => ⟨⟨(), rfl, trivial, ⟨q_1, q_3, e_2, e_4, by rw [ht]; exact hP9, va_K.moved hW.alike hK9, hD9⟩⟩, hS.F ht⟩) hS.2.2 d_Sha_init_20
set_option maxHeartbeats 4000000 in
set_option maxRecDepth 100000 in
/-- Block() -/
theorem c_Block_init (l : Launch) (dC : Nat → ClassId) (dI : Nat → Nat → Nat) (z : zT) (sz : Nat) (h0 : Nat)  : Met l y_Block_init w_Block_init ({ frames := 4, cells := 3, slots := 67, locals := 72 }) (va_Pc [.ref h0] (fun U => U.heap.size = sz ∧ va_P (dC, dI) cl_all [(h0, .inr (6, [.null, .int 0, .null, .int 0, .int 0, .int 0, .null, .int 0, .null, .int 0, .int 0, .long 0, .int 0, .int 0, .int 0, .int 0, .null]))] U.heap ∧ va_K (dC, dI) cl_all [] U ∧ va_D (fun _ => True) [(h0, .inr (6, [.null, .int 0, .null, .int 0, .int 0, .int 0, .null, .int 0, .null, .int 0, .int 0, .long 0, .int 0, .int 0, .int 0, .int 0, .null]))] ∧ zz z (va_A [(h0, .inr (6, [.null, .int 0, .null, .int 0, .int 0, .int 0, .null, .int 0, .null, .int 0, .int 0, .long 0, .int 0, .int 0, .int 0, .int 0, .null]))] sz) U U.heap)) (va_Qv (fun _ : Unit => True) (fun _ t => ∃ (q1 : Nat) (q2 : Nat) (q3 : Nat) (e1 : ClassId), va_P (dC, dI) cl_all [(h0, .inr (6, [.null, .int 0, .ref q1, .int 0, .int 0, .int 0, .ref q2, .int 0, .null, .int 0, .int 0, .long 0, .int 0, .int 0, .int 0, .int 0, .ref q3])), (q1, .inl (e1, 32, .inl (fun _ => 0)))] t.heap ∧ va_K (dC, dI) cl_all [(e1, .byte)] t ∧ va_D (va_A [(h0, .inr (6, [.null, .int 0, .null, .int 0, .int 0, .int 0, .null, .int 0, .null, .int 0, .int 0, .long 0, .int 0, .int 0, .int 0, .int 0, .null]))] sz) [(h0, .inr (6, [.null, .int 0, .ref q1, .int 0, .int 0, .int 0, .ref q2, .int 0, .null, .int 0, .int 0, .long 0, .int 0, .int 0, .int 0, .int 0, .ref q3])), (q1, .inl (e1, 32, .inl (fun _ => 0)))]) (va_A [(h0, .inr (6, [.null, .int 0, .null, .int 0, .int 0, .int 0, .null, .int 0, .null, .int 0, .int 0, .long 0, .int 0, .int 0, .int 0, .int 0, .null]))] sz)) 3 67 (va_A [(h0, .inr (6, [.null, .int 0, .null, .int 0, .int 0, .int 0, .null, .int 0, .null, .int 0, .int 0, .long 0, .int 0, .int 0, .int 0, .int 0, .null]))] sz) := by
  refine Met.ofW (cc := b_Block_init) (maxL := 1) (ret := none) (by decide) rfl ?_
  intro p e s m args below meth c s₁ B hml hv
  obtain ⟨rfl, hsz, hP, hK, hD0, hZ⟩ := hv
  have hx := B.exec
  have hb := B.bytes
  have hr := B.returns
  have hT : ∀ w ∈ lw_all, w.before _ s = true := fun w h => atoms_spec (ws := w_Block_init) B.pre w (List.mem_cons_of_mem _ h)
  have hown : s.vm.findClass R_Block = some m.cls := findClass_of_methodNamed B.named
  have hlocks := B.notSynchronized
  have hin : meth.name = "<init>" := (name_of_methodNamed B.named B.method).1
  subst hsz
  have hD := hD0.self (sz := s.heap.size)
  generalize hAe : va_A [(h0, .inr (6, [.null, .int 0, .null, .int 0, .int 0, .int 0, .null, .int 0, .null, .int 0, .int 0, .long 0, .int 0, .int 0, .int 0, .int 0, .null]))] s.heap.size = A at hD hZ ⊢
  have hA : ∀ q : Nat, s.heap.size ≤ q → A q := fun q h => by rw [← hAe]; exact Or.inr h
  have hS : va_S A s.heap s.heap [] := va_S.rf
  have hl := lv_entry ([.ref h0]) (n := 1) (Nat.le_of_ble_eq_true rfl)
  rw [lg_entry_eq]
  generalize (lg_sl ([.ref h0]) ++ List.replicate (1 - (lg_sl ([.ref h0])).length) Slot.unset).toArray = ls at hl ⊢
  have hl : lv_has ls 1 [(0, .ref h0)] := hl
  refine lv_aload_n hx hb d_Block_init_0 rfl (lv_at hl 0 rfl) ?_
  refine W.objInit hx hb hown (hT _ k_21) (hT _ k_1) (hT _ k_2) rfl (by rw [hml]; exact hl.1) rfl d_Block_init_1 (Nat.le_of_ble_eq_true rfl) (Nat.le_of_ble_eq_true rfl) ?_
  refine W.eq (g2 := F0 m 4 ls []) rfl ?_
  refine lv_aload_n hx hb d_Block_init_4 rfl (lv_at hl 0 rfl) ?_
  refine lv_bipush (v := 32) hx hb d_Block_init_5 (by decide) ?_
  refine va_newa (a0 := (32, .inl (fun _ => 0))) hx hb (hT _ k_15) (ty := .byte) rfl hK hP hD hS hA (fun _ => rfl) (by decide) (N' := 32) (by decide) (by decide) (Nat.le_of_ble_eq_true rfl) (Nat.le_of_ble_eq_true rfl) d_Block_init_7 (fun q_1 e_2 H hK hP hD hS => ?_)
  have hK : va_K (dC, dI) cl_all [(e_2, .byte)] s := hK
  have hP : va_P (dC, dI) cl_all [(h0, .inr (6, [.null, .int 0, .null, .int 0, .int 0, .int 0, .null, .int 0, .null, .int 0, .int 0, .long 0, .int 0, .int 0, .int 0, .int 0, .null])), (q_1, .inl (e_2, 32, .inl (fun _ => 0)))] H := hP
  have hD : va_D A [(h0, .inr (6, [.null, .int 0, .null, .int 0, .int 0, .int 0, .null, .int 0, .null, .int 0, .int 0, .long 0, .int 0, .int 0, .int 0, .int 0, .null])), (q_1, .inl (e_2, 32, .inl (fun _ => 0)))] := hD
  refine W.widen (k := 1) (n := 32) (Nat.le_of_ble_eq_true rfl) (Nat.le_of_ble_eq_true rfl) ?_
  refine va_putF (D := (dC, dI)) (ci := 6) (v := .ref q_1) (ty := .array (.byte)) (C := R_Block) (T := F_Block) (N := 17) hx hb hT i_Block t_Block t_Block_ok n_Block hown hK hP hD hS 0 rfl rfl 2 (by decide) (hT _ k_22) (fun _ h9 => h9) rfl hin rfl (by decide +kernel) rfl rfl (Nat.le_of_ble_eq_true rfl) d_Block_init_9 (fun H locs hP hD hS => ?_)
  have hP : va_P (dC, dI) cl_all [(h0, .inr (6, [.null, .int 0, .ref q_1, .int 0, .int 0, .int 0, .null, .int 0, .null, .int 0, .int 0, .long 0, .int 0, .int 0, .int 0, .int 0, .null])), (q_1, .inl (e_2, 32, .inl (fun _ => 0)))] H := hP
  have hD : va_D A [(h0, .inr (6, [.null, .int 0, .ref q_1, .int 0, .int 0, .int 0, .null, .int 0, .null, .int 0, .int 0, .long 0, .int 0, .int 0, .int 0, .int 0, .null])), (q_1, .inl (e_2, 32, .inl (fun _ => 0)))] := hD
  refine lv_aload_n hx hb d_Block_init_12 rfl (lv_at hl 0 rfl) ?_
  refine lv_bipush (v := 32) hx hb d_Block_init_13 (by decide) ?_
  refine va_newq (C := "ChainLedger$Payment") hx hb hown (hT _ k_23) (zz_N hZ).2.2.1 hK hP hD hS hA (by decide) (N' := 32) (by decide) (by decide) (Nat.le_of_ble_eq_true rfl) (Nat.le_of_ble_eq_true rfl) d_Block_init_15 (fun q_3 e_4 H hK hP hD hS => ?_)
  have hK : va_K (dC, dI) cl_all [(e_2, .byte), (e_4, .object "ChainLedger$Payment")] s := hK
  have hP : va_P (dC, dI) cl_all [(h0, .inr (6, [.null, .int 0, .ref q_1, .int 0, .int 0, .int 0, .null, .int 0, .null, .int 0, .int 0, .long 0, .int 0, .int 0, .int 0, .int 0, .null])), (q_1, .inl (e_2, 32, .inl (fun _ => 0))), (q_3, .inl (e_4, 32, .inr (.inr (.inr (.inr (fun _ => none))))))] H := hP
  have hD : va_D A [(h0, .inr (6, [.null, .int 0, .ref q_1, .int 0, .int 0, .int 0, .null, .int 0, .null, .int 0, .int 0, .long 0, .int 0, .int 0, .int 0, .int 0, .null])), (q_1, .inl (e_2, 32, .inl (fun _ => 0))), (q_3, .inl (e_4, 32, .inr (.inr (.inr (.inr (fun _ => none))))))] := hD
  refine W.widen (k := 2) (n := 64) (Nat.le_of_ble_eq_true rfl) (Nat.le_of_ble_eq_true rfl) ?_
  refine va_putF (D := (dC, dI)) (ci := 6) (v := .ref q_3) (ty := .array (.object "ChainLedger$Payment")) (C := R_Block) (T := F_Block) (N := 17) hx hb hT i_Block t_Block t_Block_ok n_Block hown hK hP hD hS 0 rfl rfl 6 (by decide) (hT _ k_24) (fun _ h9 => h9) rfl hin rfl (by decide +kernel) rfl rfl (Nat.le_of_ble_eq_true rfl) d_Block_init_18 (fun H locs hP hD hS => ?_)
  have hP : va_P (dC, dI) cl_all [(h0, .inr (6, [.null, .int 0, .ref q_1, .int 0, .int 0, .int 0, .ref q_3, .int 0, .null, .int 0, .int 0, .long 0, .int 0, .int 0, .int 0, .int 0, .null])), (q_1, .inl (e_2, 32, .inl (fun _ => 0))), (q_3, .inl (e_4, 32, .inr (.inr (.inr (.inr (fun _ => none))))))] H := hP
  have hD : va_D A [(h0, .inr (6, [.null, .int 0, .ref q_1, .int 0, .int 0, .int 0, .ref q_3, .int 0, .null, .int 0, .int 0, .long 0, .int 0, .int 0, .int 0, .int 0, .null])), (q_1, .inl (e_2, 32, .inl (fun _ => 0))), (q_3, .inl (e_4, 32, .inr (.inr (.inr (.inr (fun _ => none))))))] := hD
  refine lv_aload_n hx hb d_Block_init_21 rfl (lv_at hl 0 rfl) ?_
  refine va_new (ci := 10) (fs := [.int 0, .null, .int 0]) (C := R_AL) (T := F_AL) (N := 3) hx hb hT i_AL t_AL t_AL_ok hown (hT _ k_25) (hT _ k_26) (hT _ k_27) hK hP hD hS hA rfl (fun j hj => df_AL j hj) (Nat.le_of_ble_eq_true rfl) (Nat.le_of_ble_eq_true rfl) d_Block_init_22 (fun q_5 H hP hD hS => ?_)
  have hP : va_P (dC, dI) cl_all [(h0, .inr (6, [.null, .int 0, .ref q_1, .int 0, .int 0, .int 0, .ref q_3, .int 0, .null, .int 0, .int 0, .long 0, .int 0, .int 0, .int 0, .int 0, .null])), (q_1, .inl (e_2, 32, .inl (fun _ => 0))), (q_3, .inl (e_4, 32, .inr (.inr (.inr (.inr (fun _ => none)))))), (q_5, .inr (10, [.int 0, .null, .int 0]))] H := hP
  have hD : va_D A [(h0, .inr (6, [.null, .int 0, .ref q_1, .int 0, .int 0, .int 0, .ref q_3, .int 0, .null, .int 0, .int 0, .long 0, .int 0, .int 0, .int 0, .int 0, .null])), (q_1, .inl (e_2, 32, .inl (fun _ => 0))), (q_3, .inl (e_4, 32, .inr (.inr (.inr (.inr (fun _ => none)))))), (q_5, .inr (10, [.int 0, .null, .int 0]))] := hD
  refine W.widen (k := 3) (n := 67) (Nat.le_of_ble_eq_true rfl) (Nat.le_of_ble_eq_true rfl) ?_
  refine lv_dup hx hb d_Block_init_25 rfl ?_
  have hPc := hP.sub (ws' := [(q_5, .inr (10, [.int 0, .null, .int 0]))]) [3] rfl
  have hDc := hD.sub (ws' := [(q_5, .inr (10, [.int 0, .null, .int 0]))]) [3] (by decide) rfl
  have hKc := hK.sub (tys' := []) [] rfl
  have hFc := va_free (wc := [(q_5, .inr (10, [.int 0, .null, .int 0]))]) hD hS hA [3] rfl
  refine va_callv (va_runI (As := []) (rest := [.ref q_5, .ref h0]) ⟨hx, hb, hml, hown, hT⟩ (c_AL_init l dC dI z H.size q_5) (cwI 0 hT g_AL_init rfl rfl rfl (hT _ k_27) (hT _ k_28) (hT _ k_29) rfl (by decide +kernel) ⟨Nat.le_of_ble_eq_true rfl, Nat.le_of_ble_eq_true rfl⟩) (zz_pre hPc hKc hDc hZ hS hFc) rfl rfl hl.1 rfl (lv_room (Nat.le_of_ble_eq_true rfl)) d_Block_init_26 ⟨Nat.le_of_ble_eq_true rfl, Nat.le_of_ble_eq_true rfl⟩) hS (fun q _ h => hFc q h) hFc (fun u t H1 locs ht hvm hw hB hz1 hk1 hS => ?_)
  obtain ⟨hP1, hK1, hD1⟩ := hB
  rw [ht] at hP1
  obtain ⟨hP, hD⟩ := va_join (wr := [(h0, .inr (6, [.null, .int 0, .ref q_1, .int 0, .int 0, .int 0, .ref q_3, .int 0, .null, .int 0, .int 0, .long 0, .int 0, .int 0, .int 0, .int 0, .null])), (q_1, .inl (e_2, 32, .inl (fun _ => 0))), (q_3, .inl (e_4, 32, .inr (.inr (.inr (.inr (fun _ => none))))))]) (w1 := [(q_5, .inr (10, [.int 0, .ref z.1, .int 0]))]) hP hD [3] [0, 1, 2] rfl rfl (by decide) (by decide) hk1 hFc hP1 hD1
  generalize H1 = H at hP hS ⊢
  have hP : va_P (dC, dI) cl_all [(h0, .inr (6, [.null, .int 0, .ref q_1, .int 0, .int 0, .int 0, .ref q_3, .int 0, .null, .int 0, .int 0, .long 0, .int 0, .int 0, .int 0, .int 0, .null])), (q_1, .inl (e_2, 32, .inl (fun _ => 0))), (q_3, .inl (e_4, 32, .inr (.inr (.inr (.inr (fun _ => none)))))), (q_5, .inr (10, [.int 0, .ref z.1, .int 0]))] H := hP
  have hD : va_D A [(h0, .inr (6, [.null, .int 0, .ref q_1, .int 0, .int 0, .int 0, .ref q_3, .int 0, .null, .int 0, .int 0, .long 0, .int 0, .int 0, .int 0, .int 0, .null])), (q_1, .inl (e_2, 32, .inl (fun _ => 0))), (q_3, .inl (e_4, 32, .inr (.inr (.inr (.inr (fun _ => none)))))), (q_5, .inr (10, [.int 0, .ref z.1, .int 0]))] := hD
  refine va_putF (D := (dC, dI)) (ci := 6) (v := .ref q_5) (ty := .object "java/util/ArrayList") (C := R_Block) (T := F_Block) (N := 17) hx hb hT i_Block t_Block t_Block_ok n_Block hown hK hP hD hS 0 rfl rfl 16 (by decide) (hT _ k_30) (fun _ h9 => h9) rfl hin rfl (by decide +kernel) rfl rfl (Nat.le_of_ble_eq_true rfl) d_Block_init_29 (fun H locs hP hD hS => ?_)
  have hP : va_P (dC, dI) cl_all [(h0, .inr (6, [.null, .int 0, .ref q_1, .int 0, .int 0, .int 0, .ref q_3, .int 0, .null, .int 0, .int 0, .long 0, .int 0, .int 0, .int 0, .int 0, .ref q_5])), (q_1, .inl (e_2, 32, .inl (fun _ => 0))), (q_3, .inl (e_4, 32, .inr (.inr (.inr (.inr (fun _ => none)))))), (q_5, .inr (10, [.int 0, .ref z.1, .int 0]))] H := hP
  have hD : va_D A [(h0, .inr (6, [.null, .int 0, .ref q_1, .int 0, .int 0, .int 0, .ref q_3, .int 0, .null, .int 0, .int 0, .long 0, .int 0, .int 0, .int 0, .int 0, .ref q_5])), (q_1, .inl (e_2, 32, .inl (fun _ => 0))), (q_3, .inl (e_4, 32, .inr (.inr (.inr (.inr (fun _ => none)))))), (q_5, .inr (10, [.int 0, .ref z.1, .int 0]))] := hD
  have hP9 := hP.sub (ws' := [(h0, .inr (6, [.null, .int 0, .ref q_1, .int 0, .int 0, .int 0, .ref q_3, .int 0, .null, .int 0, .int 0, .long 0, .int 0, .int 0, .int 0, .int 0, .ref q_5])), (q_1, .inl (e_2, 32, .inl (fun _ => 0)))]) [0, 1] rfl
  have hD9 := hD.sub (ws' := [(h0, .inr (6, [.null, .int 0, .ref q_1, .int 0, .int 0, .int 0, .ref q_3, .int 0, .null, .int 0, .int 0, .long 0, .int 0, .int 0, .int 0, .int 0, .ref q_5])), (q_1, .inl (e_2, 32, .inl (fun _ => 0)))]) [0, 1] (by decide) rfl
  have hK9 := hK.sub (tys' := [(e_2, .byte)]) [0] rfl
  exact W.vret hx hb hr (fun t ht hW => ⟨⟨(), rfl, trivial, ⟨q_1, q_3, q_5, e_2, by rw [ht]; exact hP9, va_K.moved hW.alike hK9, hD9⟩⟩, hS.F ht⟩) hS.2.2 d_Block_init_32
set_option maxHeartbeats 4000000 in
set_option maxRecDepth 100000 in
/-- Payment() -/
theorem c_Payment_init (l : Launch) (dC : Nat → ClassId) (dI : Nat → Nat → Nat) (z : zT) (sz : Nat) (h0 : Nat)  : Met l y_Payment_init w_Payment_init ({ frames := 1, cells := 4, slots := 80, locals := 12 }) (va_Pc [.ref h0] (fun U => U.heap.size = sz ∧ va_P (dC, dI) cl_all [(h0, .inr (7, [.null, .int 0, .int 0, .int 0, .int 0, .int 0, .int 0, .null, .null, .null, .null, .int 0, .int 0, .int 0, .int 0, .null]))] U.heap ∧ va_K (dC, dI) cl_all [] U ∧ va_D (fun _ => True) [(h0, .inr (7, [.null, .int 0, .int 0, .int 0, .int 0, .int 0, .int 0, .null, .null, .null, .null, .int 0, .int 0, .int 0, .int 0, .null]))] ∧ zz z (va_A [(h0, .inr (7, [.null, .int 0, .int 0, .int 0, .int 0, .int 0, .int 0, .null, .null, .null, .null, .int 0, .int 0, .int 0, .int 0, .null]))] sz) U U.heap)) (va_Qv (fun _ : Unit => True) (fun _ t => ∃ (q1 : Nat) (q2 : Nat) (q3 : Nat) (q4 : Nat), va_P (dC, dI) cl_all [(h0, .inr (7, [.null, .int 0, .int 0, .int 0, .int 0, .int 0, .int 0, .ref q1, .ref q2, .ref q3, .ref q4, .int 0, .int 0, .int 0, .int 0, .null]))] t.heap ∧ va_K (dC, dI) cl_all [] t ∧ va_D (va_A [(h0, .inr (7, [.null, .int 0, .int 0, .int 0, .int 0, .int 0, .int 0, .null, .null, .null, .null, .int 0, .int 0, .int 0, .int 0, .null]))] sz) [(h0, .inr (7, [.null, .int 0, .int 0, .int 0, .int 0, .int 0, .int 0, .ref q1, .ref q2, .ref q3, .ref q4, .int 0, .int 0, .int 0, .int 0, .null]))]) (va_A [(h0, .inr (7, [.null, .int 0, .int 0, .int 0, .int 0, .int 0, .int 0, .null, .null, .null, .null, .int 0, .int 0, .int 0, .int 0, .null]))] sz)) 4 80 (va_A [(h0, .inr (7, [.null, .int 0, .int 0, .int 0, .int 0, .int 0, .int 0, .null, .null, .null, .null, .int 0, .int 0, .int 0, .int 0, .null]))] sz) := by
  refine Met.ofW (cc := b_Payment_init) (maxL := 1) (ret := none) (by decide) rfl ?_
  intro p e s m args below meth c s₁ B hml hv
  obtain ⟨rfl, hsz, hP, hK, hD0, hZ⟩ := hv
  have hx := B.exec
  have hb := B.bytes
  have hr := B.returns
  have hT : ∀ w ∈ lw_all, w.before _ s = true := fun w h => atoms_spec (ws := w_Payment_init) B.pre w (List.mem_cons_of_mem _ h)
  have hown : s.vm.findClass R_Payment = some m.cls := findClass_of_methodNamed B.named
  have hlocks := B.notSynchronized
  have hin : meth.name = "<init>" := (name_of_methodNamed B.named B.method).1
  subst hsz
  have hD := hD0.self (sz := s.heap.size)
  generalize hAe : va_A [(h0, .inr (7, [.null, .int 0, .int 0, .int 0, .int 0, .int 0, .int 0, .null, .null, .null, .null, .int 0, .int 0, .int 0, .int 0, .null]))] s.heap.size = A at hD hZ ⊢
  have hA : ∀ q : Nat, s.heap.size ≤ q → A q := fun q h => by rw [← hAe]; exact Or.inr h
  have hS : va_S A s.heap s.heap [] := va_S.rf
  have hl := lv_entry ([.ref h0]) (n := 1) (Nat.le_of_ble_eq_true rfl)
  rw [lg_entry_eq]
  generalize (lg_sl ([.ref h0]) ++ List.replicate (1 - (lg_sl ([.ref h0])).length) Slot.unset).toArray = ls at hl ⊢
  have hl : lv_has ls 1 [(0, .ref h0)] := hl
  refine lv_aload_n hx hb d_Payment_init_0 rfl (lv_at hl 0 rfl) ?_
  refine W.objInit hx hb hown (hT _ k_31) (hT _ k_1) (hT _ k_2) rfl (by rw [hml]; exact hl.1) rfl d_Payment_init_1 (Nat.le_of_ble_eq_true rfl) (Nat.le_of_ble_eq_true rfl) ?_
  refine W.eq (g2 := F0 m 4 ls []) rfl ?_
  refine lv_aload_n hx hb d_Payment_init_4 rfl (lv_at hl 0 rfl) ?_
  refine lv_bipush (v := 8) hx hb d_Payment_init_5 (by decide) ?_
  refine va_newa (a0 := (8, .inl (fun _ => 0))) hx hb (hT _ k_18) (ty := .int) rfl hK hP hD hS hA (fun _ => rfl) (by decide) (N' := 8) (by decide) (by decide) (Nat.le_of_ble_eq_true rfl) (Nat.le_of_ble_eq_true rfl) d_Payment_init_7 (fun q_1 e_2 H hK hP hD hS => ?_)
  have hK : va_K (dC, dI) cl_all [(e_2, .int)] s := hK
  have hP : va_P (dC, dI) cl_all [(h0, .inr (7, [.null, .int 0, .int 0, .int 0, .int 0, .int 0, .int 0, .null, .null, .null, .null, .int 0, .int 0, .int 0, .int 0, .null])), (q_1, .inl (e_2, 8, .inl (fun _ => 0)))] H := hP
  have hD : va_D A [(h0, .inr (7, [.null, .int 0, .int 0, .int 0, .int 0, .int 0, .int 0, .null, .null, .null, .null, .int 0, .int 0, .int 0, .int 0, .null])), (q_1, .inl (e_2, 8, .inl (fun _ => 0)))] := hD
  refine W.widen (k := 1) (n := 8) (Nat.le_of_ble_eq_true rfl) (Nat.le_of_ble_eq_true rfl) ?_
  refine va_putF (D := (dC, dI)) (ci := 7) (v := .ref q_1) (ty := .array (.int)) (C := R_Payment) (T := F_Payment) (N := 16) hx hb hT i_Payment t_Payment t_Payment_ok n_Payment hown hK hP hD hS 0 rfl rfl 7 (by decide) (hT _ k_32) (fun _ h9 => h9) rfl hin rfl (by decide +kernel) rfl rfl (Nat.le_of_ble_eq_true rfl) d_Payment_init_9 (fun H locs hP hD hS => ?_)
  have hP : va_P (dC, dI) cl_all [(h0, .inr (7, [.null, .int 0, .int 0, .int 0, .int 0, .int 0, .int 0, .ref q_1, .null, .null, .null, .int 0, .int 0, .int 0, .int 0, .null])), (q_1, .inl (e_2, 8, .inl (fun _ => 0)))] H := hP
  have hD : va_D A [(h0, .inr (7, [.null, .int 0, .int 0, .int 0, .int 0, .int 0, .int 0, .ref q_1, .null, .null, .null, .int 0, .int 0, .int 0, .int 0, .null])), (q_1, .inl (e_2, 8, .inl (fun _ => 0)))] := hD
  refine lv_aload_n hx hb d_Payment_init_12 rfl (lv_at hl 0 rfl) ?_
  refine lv_bipush (v := 8) hx hb d_Payment_init_13 (by decide) ?_
  refine va_newa (a0 := (8, .inl (fun _ => 0))) hx hb (hT _ k_18) (ty := .int) rfl hK hP hD hS hA (fun _ => rfl) (by decide) (N' := 8) (by decide) (by decide) (Nat.le_of_ble_eq_true rfl) (Nat.le_of_ble_eq_true rfl) d_Payment_init_15 (fun q_3 e_4 H hK hP hD hS => ?_)
  have hK : va_K (dC, dI) cl_all [(e_2, .int), (e_4, .int)] s := hK
  have hP : va_P (dC, dI) cl_all [(h0, .inr (7, [.null, .int 0, .int 0, .int 0, .int 0, .int 0, .int 0, .ref q_1, .null, .null, .null, .int 0, .int 0, .int 0, .int 0, .null])), (q_1, .inl (e_2, 8, .inl (fun _ => 0))), (q_3, .inl (e_4, 8, .inl (fun _ => 0)))] H := hP
  have hD : va_D A [(h0, .inr (7, [.null, .int 0, .int 0, .int 0, .int 0, .int 0, .int 0, .ref q_1, .null, .null, .null, .int 0, .int 0, .int 0, .int 0, .null])), (q_1, .inl (e_2, 8, .inl (fun _ => 0))), (q_3, .inl (e_4, 8, .inl (fun _ => 0)))] := hD
  refine W.widen (k := 2) (n := 16) (Nat.le_of_ble_eq_true rfl) (Nat.le_of_ble_eq_true rfl) ?_
  refine va_putF (D := (dC, dI)) (ci := 7) (v := .ref q_3) (ty := .array (.int)) (C := R_Payment) (T := F_Payment) (N := 16) hx hb hT i_Payment t_Payment t_Payment_ok n_Payment hown hK hP hD hS 0 rfl rfl 8 (by decide) (hT _ k_33) (fun _ h9 => h9) rfl hin rfl (by decide +kernel) rfl rfl (Nat.le_of_ble_eq_true rfl) d_Payment_init_17 (fun H locs hP hD hS => ?_)
  have hP : va_P (dC, dI) cl_all [(h0, .inr (7, [.null, .int 0, .int 0, .int 0, .int 0, .int 0, .int 0, .ref q_1, .ref q_3, .null, .null, .int 0, .int 0, .int 0, .int 0, .null])), (q_1, .inl (e_2, 8, .inl (fun _ => 0))), (q_3, .inl (e_4, 8, .inl (fun _ => 0)))] H := hP
  have hD : va_D A [(h0, .inr (7, [.null, .int 0, .int 0, .int 0, .int 0, .int 0, .int 0, .ref q_1, .ref q_3, .null, .null, .int 0, .int 0, .int 0, .int 0, .null])), (q_1, .inl (e_2, 8, .inl (fun _ => 0))), (q_3, .inl (e_4, 8, .inl (fun _ => 0)))] := hD
  refine lv_aload_n hx hb d_Payment_init_20 rfl (lv_at hl 0 rfl) ?_
  refine lv_bipush (v := 32) hx hb d_Payment_init_21 (by decide) ?_
  refine va_newa (a0 := (32, .inl (fun _ => 0))) hx hb (hT _ k_15) (ty := .byte) rfl hK hP hD hS hA (fun _ => rfl) (by decide) (N' := 32) (by decide) (by decide) (Nat.le_of_ble_eq_true rfl) (Nat.le_of_ble_eq_true rfl) d_Payment_init_23 (fun q_5 e_6 H hK hP hD hS => ?_)
  have hK : va_K (dC, dI) cl_all [(e_2, .int), (e_4, .int), (e_6, .byte)] s := hK
  have hP : va_P (dC, dI) cl_all [(h0, .inr (7, [.null, .int 0, .int 0, .int 0, .int 0, .int 0, .int 0, .ref q_1, .ref q_3, .null, .null, .int 0, .int 0, .int 0, .int 0, .null])), (q_1, .inl (e_2, 8, .inl (fun _ => 0))), (q_3, .inl (e_4, 8, .inl (fun _ => 0))), (q_5, .inl (e_6, 32, .inl (fun _ => 0)))] H := hP
  have hD : va_D A [(h0, .inr (7, [.null, .int 0, .int 0, .int 0, .int 0, .int 0, .int 0, .ref q_1, .ref q_3, .null, .null, .int 0, .int 0, .int 0, .int 0, .null])), (q_1, .inl (e_2, 8, .inl (fun _ => 0))), (q_3, .inl (e_4, 8, .inl (fun _ => 0))), (q_5, .inl (e_6, 32, .inl (fun _ => 0)))] := hD
  refine W.widen (k := 3) (n := 48) (Nat.le_of_ble_eq_true rfl) (Nat.le_of_ble_eq_true rfl) ?_
  refine va_putF (D := (dC, dI)) (ci := 7) (v := .ref q_5) (ty := .array (.byte)) (C := R_Payment) (T := F_Payment) (N := 16) hx hb hT i_Payment t_Payment t_Payment_ok n_Payment hown hK hP hD hS 0 rfl rfl 9 (by decide) (hT _ k_34) (fun _ h9 => h9) rfl hin rfl (by decide +kernel) rfl rfl (Nat.le_of_ble_eq_true rfl) d_Payment_init_25 (fun H locs hP hD hS => ?_)
  have hP : va_P (dC, dI) cl_all [(h0, .inr (7, [.null, .int 0, .int 0, .int 0, .int 0, .int 0, .int 0, .ref q_1, .ref q_3, .ref q_5, .null, .int 0, .int 0, .int 0, .int 0, .null])), (q_1, .inl (e_2, 8, .inl (fun _ => 0))), (q_3, .inl (e_4, 8, .inl (fun _ => 0))), (q_5, .inl (e_6, 32, .inl (fun _ => 0)))] H := hP
  have hD : va_D A [(h0, .inr (7, [.null, .int 0, .int 0, .int 0, .int 0, .int 0, .int 0, .ref q_1, .ref q_3, .ref q_5, .null, .int 0, .int 0, .int 0, .int 0, .null])), (q_1, .inl (e_2, 8, .inl (fun _ => 0))), (q_3, .inl (e_4, 8, .inl (fun _ => 0))), (q_5, .inl (e_6, 32, .inl (fun _ => 0)))] := hD
  refine lv_aload_n hx hb d_Payment_init_28 rfl (lv_at hl 0 rfl) ?_
  refine lv_bipush (v := 32) hx hb d_Payment_init_29 (by decide) ?_
  refine va_newa (a0 := (32, .inl (fun _ => 0))) hx hb (hT _ k_15) (ty := .byte) rfl hK hP hD hS hA (fun _ => rfl) (by decide) (N' := 32) (by decide) (by decide) (Nat.le_of_ble_eq_true rfl) (Nat.le_of_ble_eq_true rfl) d_Payment_init_31 (fun q_7 e_8 H hK hP hD hS => ?_)
  have hK : va_K (dC, dI) cl_all [(e_2, .int), (e_4, .int), (e_6, .byte), (e_8, .byte)] s := hK
  have hP : va_P (dC, dI) cl_all [(h0, .inr (7, [.null, .int 0, .int 0, .int 0, .int 0, .int 0, .int 0, .ref q_1, .ref q_3, .ref q_5, .null, .int 0, .int 0, .int 0, .int 0, .null])), (q_1, .inl (e_2, 8, .inl (fun _ => 0))), (q_3, .inl (e_4, 8, .inl (fun _ => 0))), (q_5, .inl (e_6, 32, .inl (fun _ => 0))), (q_7, .inl (e_8, 32, .inl (fun _ => 0)))] H := hP
  have hD : va_D A [(h0, .inr (7, [.null, .int 0, .int 0, .int 0, .int 0, .int 0, .int 0, .ref q_1, .ref q_3, .ref q_5, .null, .int 0, .int 0, .int 0, .int 0, .null])), (q_1, .inl (e_2, 8, .inl (fun _ => 0))), (q_3, .inl (e_4, 8, .inl (fun _ => 0))), (q_5, .inl (e_6, 32, .inl (fun _ => 0))), (q_7, .inl (e_8, 32, .inl (fun _ => 0)))] := hD
  refine W.widen (k := 4) (n := 80) (Nat.le_of_ble_eq_true rfl) (Nat.le_of_ble_eq_true rfl) ?_
  refine va_putF (D := (dC, dI)) (ci := 7) (v := .ref q_7) (ty := .array (.byte)) (C := R_Payment) (T := F_Payment) (N := 16) hx hb hT i_Payment t_Payment t_Payment_ok n_Payment hown hK hP hD hS 0 rfl rfl 10 (by decide) (hT _ k_35) (fun _ h9 => h9) rfl hin rfl (by decide +kernel) rfl rfl (Nat.le_of_ble_eq_true rfl) d_Payment_init_33 (fun H locs hP hD hS => ?_)
  have hP : va_P (dC, dI) cl_all [(h0, .inr (7, [.null, .int 0, .int 0, .int 0, .int 0, .int 0, .int 0, .ref q_1, .ref q_3, .ref q_5, .ref q_7, .int 0, .int 0, .int 0, .int 0, .null])), (q_1, .inl (e_2, 8, .inl (fun _ => 0))), (q_3, .inl (e_4, 8, .inl (fun _ => 0))), (q_5, .inl (e_6, 32, .inl (fun _ => 0))), (q_7, .inl (e_8, 32, .inl (fun _ => 0)))] H := hP
  have hD : va_D A [(h0, .inr (7, [.null, .int 0, .int 0, .int 0, .int 0, .int 0, .int 0, .ref q_1, .ref q_3, .ref q_5, .ref q_7, .int 0, .int 0, .int 0, .int 0, .null])), (q_1, .inl (e_2, 8, .inl (fun _ => 0))), (q_3, .inl (e_4, 8, .inl (fun _ => 0))), (q_5, .inl (e_6, 32, .inl (fun _ => 0))), (q_7, .inl (e_8, 32, .inl (fun _ => 0)))] := hD
  have hP9 := hP.sub (ws' := [(h0, .inr (7, [.null, .int 0, .int 0, .int 0, .int 0, .int 0, .int 0, .ref q_1, .ref q_3, .ref q_5, .ref q_7, .int 0, .int 0, .int 0, .int 0, .null]))]) [0] rfl
  have hD9 := hD.sub (ws' := [(h0, .inr (7, [.null, .int 0, .int 0, .int 0, .int 0, .int 0, .int 0, .ref q_1, .ref q_3, .ref q_5, .ref q_7, .int 0, .int 0, .int 0, .int 0, .null]))]) [0] (by decide) rfl
  have hK9 := hK.sub (tys' := []) [] rfl
  exact W.vret hx hb hr (fun t ht hW => ⟨⟨(), rfl, trivial, ⟨q_1, q_3, q_5, q_7, by rw [ht]; exact hP9, va_K.moved hW.alike hK9, hD9⟩⟩, hS.F ht⟩) hS.2.2 d_Payment_init_36
set_option maxHeartbeats 4000000 in
set_option maxRecDepth 100000 in
/-- Coins(): an empty list -/
theorem c_Coins_init (l : Launch) (dC : Nat → ClassId) (dI : Nat → Nat → Nat) (z : zT) (sz : Nat) (h0 : Nat)  : Met l y_Coins_init w_Coins_init ({ frames := 4, cells := 1, slots := 3, locals := 72 }) (va_Pc [.ref h0] (fun U => U.heap.size = sz ∧ va_P (dC, dI) cl_all [(h0, .inr (8, [.null]))] U.heap ∧ va_K (dC, dI) cl_all [] U ∧ va_D (fun _ => True) [(h0, .inr (8, [.null]))] ∧ zz z (va_A [(h0, .inr (8, [.null]))] sz) U U.heap)) (va_Qv (fun _ : Unit => True) (fun _ t => ∃ (q1 : Nat), va_P (dC, dI) cl_all [(h0, .inr (8, [.ref q1])), (q1, .inr (10, [.int 0, .ref z.1, .int 0]))] t.heap ∧ va_K (dC, dI) cl_all [] t ∧ va_D (va_A [(h0, .inr (8, [.null]))] sz) [(h0, .inr (8, [.ref q1])), (q1, .inr (10, [.int 0, .ref z.1, .int 0]))]) (va_A [(h0, .inr (8, [.null]))] sz)) 1 3 (va_A [(h0, .inr (8, [.null]))] sz) := by
  refine Met.ofW (cc := b_Coins_init) (maxL := 1) (ret := none) (by decide) rfl ?_
  intro p e s m args below meth c s₁ B hml hv
  obtain ⟨rfl, hsz, hP, hK, hD0, hZ⟩ := hv
  have hx := B.exec
  have hb := B.bytes
  have hr := B.returns
  have hT : ∀ w ∈ lw_all, w.before _ s = true := fun w h => atoms_spec (ws := w_Coins_init) B.pre w (List.mem_cons_of_mem _ h)
  have hown : s.vm.findClass R_Coins = some m.cls := findClass_of_methodNamed B.named
  have hlocks := B.notSynchronized
  have hin : meth.name = "<init>" := (name_of_methodNamed B.named B.method).1
  subst hsz
  have hD := hD0.self (sz := s.heap.size)
  generalize hAe : va_A [(h0, .inr (8, [.null]))] s.heap.size = A at hD hZ ⊢
  have hA : ∀ q : Nat, s.heap.size ≤ q → A q := fun q h => by rw [← hAe]; exact Or.inr h
  have hS : va_S A s.heap s.heap [] := va_S.rf
  have hl := lv_entry ([.ref h0]) (n := 1) (Nat.le_of_ble_eq_true rfl)
  rw [lg_entry_eq]
  generalize (lg_sl ([.ref h0]) ++ List.replicate (1 - (lg_sl ([.ref h0])).length) Slot.unset).toArray = ls at hl ⊢
  have hl : lv_has ls 1 [(0, .ref h0)] := hl
  refine lv_aload_n hx hb d_Coins_init_0 rfl (lv_at hl 0 rfl) ?_
  have hPc := hP.sub (ws' := []) [] rfl
  have hDc := hD.sub (ws' := []) [] (by decide) rfl
  have hKc := hK.sub (tys' := []) [] rfl
  have hFc := va_free (wc := []) hD hS hA [] rfl
  refine va_callv (va_runIN (As := []) (rest := []) ⟨hx, hb, hml, hown, hT⟩ (c_View_init l dC dI z s.heap.size h0) ⟨va_cnB (host := "ChainLedger") 0 hT g_View_init rfl rfl rfl (zn_k_36 (zz_N hZ)) (hT _ k_37) (by decide +kernel) ⟨Nat.le_of_ble_eq_true rfl, Nat.le_of_ble_eq_true rfl⟩, rfl, (hT _ k_38)⟩ (zz_pre hPc hKc hDc hZ hS hFc) rfl rfl hl.1 rfl (lv_room (Nat.le_of_ble_eq_true rfl)) d_Coins_init_1 ⟨Nat.le_of_ble_eq_true rfl, Nat.le_of_ble_eq_true rfl⟩) hS (fun q _ h => hFc q h) hFc (fun u t H1 locs ht hvm hw hB hz1 hk1 hS => ?_)
  have hP1 : va_P (dC, dI) cl_all [] H1 := zz_P0
  have hD1 : va_D (va_A [] s.heap.size) [] := zz_D0
  obtain ⟨hP, hD⟩ := va_join (wr := [(h0, .inr (8, [.null]))]) (w1 := []) hP hD [] [0] rfl rfl (by decide) (by decide) hk1 hFc hP1 hD1
  generalize H1 = H at hP hS ⊢
  have hP : va_P (dC, dI) cl_all [(h0, .inr (8, [.null]))] H := hP
  have hD : va_D A [(h0, .inr (8, [.null]))] := hD
  refine lv_aload_n hx hb d_Coins_init_4 rfl (lv_at hl 0 rfl) ?_
  refine va_new (ci := 10) (fs := [.int 0, .null, .int 0]) (C := R_AL) (T := F_AL) (N := 3) hx hb hT i_AL t_AL t_AL_ok hown (hT _ k_39) (hT _ k_26) (hT _ k_27) hK hP hD hS hA rfl (fun j hj => df_AL j hj) (Nat.le_of_ble_eq_true rfl) (Nat.le_of_ble_eq_true rfl) d_Coins_init_5 (fun q_2 H hP hD hS => ?_)
  have hP : va_P (dC, dI) cl_all [(h0, .inr (8, [.null])), (q_2, .inr (10, [.int 0, .null, .int 0]))] H := hP
  have hD : va_D A [(h0, .inr (8, [.null])), (q_2, .inr (10, [.int 0, .null, .int 0]))] := hD
  refine W.widen (k := 1) (n := 3) (Nat.le_of_ble_eq_true rfl) (Nat.le_of_ble_eq_true rfl) ?_
  refine lv_dup hx hb d_Coins_init_8 rfl ?_
  have hPc := hP.sub (ws' := [(q_2, .inr (10, [.int 0, .null, .int 0]))]) [1] rfl
  have hDc := hD.sub (ws' := [(q_2, .inr (10, [.int 0, .null, .int 0]))]) [1] (by decide) rfl
  have hKc := hK.sub (tys' := []) [] rfl
  have hFc := va_free (wc := [(q_2, .inr (10, [.int 0, .null, .int 0]))]) hD hS hA [1] rfl
  refine va_callv (va_runI (As := []) (rest := [.ref q_2, .ref h0]) ⟨hx, hb, hml, hown, hT⟩ (c_AL_init l dC dI z H.size q_2) (cwI 0 hT g_AL_init rfl rfl rfl (hT _ k_27) (hT _ k_40) (hT _ k_29) rfl (by decide +kernel) ⟨Nat.le_of_ble_eq_true rfl, Nat.le_of_ble_eq_true rfl⟩) (zz_pre hPc hKc hDc hZ hS hFc) rfl rfl hl.1 rfl (lv_room (Nat.le_of_ble_eq_true rfl)) d_Coins_init_9 ⟨Nat.le_of_ble_eq_true rfl, Nat.le_of_ble_eq_true rfl⟩) hS (fun q _ h => hFc q h) hFc (fun u t H1 locs ht hvm hw hB hz1 hk1 hS => ?_)
  obtain ⟨hP1, hK1, hD1⟩ := hB
  rw [ht] at hP1
  obtain ⟨hP, hD⟩ := va_join (wr := [(h0, .inr (8, [.null]))]) (w1 := [(q_2, .inr (10, [.int 0, .ref z.1, .int 0]))]) hP hD [1] [0] rfl rfl (by decide) (by decide) hk1 hFc hP1 hD1
  generalize H1 = H at hP hS ⊢
  have hP : va_P (dC, dI) cl_all [(h0, .inr (8, [.null])), (q_2, .inr (10, [.int 0, .ref z.1, .int 0]))] H := hP
  have hD : va_D A [(h0, .inr (8, [.null])), (q_2, .inr (10, [.int 0, .ref z.1, .int 0]))] := hD
  refine va_putF (D := (dC, dI)) (ci := 8) (v := .ref q_2) (ty := .object "java/util/ArrayList") (C := R_Coins) (T := F_Coins) (N := 1) hx hb hT i_Coins t_Coins t_Coins_ok n_Coins hown hK hP hD hS 0 rfl rfl 0 (by decide) (hT _ k_41) (fun _ h9 => h9) rfl hin rfl (by decide +kernel) rfl rfl (Nat.le_of_ble_eq_true rfl) d_Coins_init_12 (fun H locs hP hD hS => ?_)
  have hP : va_P (dC, dI) cl_all [(h0, .inr (8, [.ref q_2])), (q_2, .inr (10, [.int 0, .ref z.1, .int 0]))] H := hP
  have hD : va_D A [(h0, .inr (8, [.ref q_2])), (q_2, .inr (10, [.int 0, .ref z.1, .int 0]))] := hD
  have hP9 := hP.sub (ws' := [(h0, .inr (8, [.ref q_2])), (q_2, .inr (10, [.int 0, .ref z.1, .int 0]))]) [0, 1] rfl
  have hD9 := hD.sub (ws' := [(h0, .inr (8, [.ref q_2])), (q_2, .inr (10, [.int 0, .ref z.1, .int 0]))]) [0, 1] (by decide) rfl
  have hK9 := hK.sub (tys' := []) [] rfl
  exact W.vret hx hb hr (fun t ht hW => ⟨⟨(), rfl, trivial, ⟨q_2, by rw [ht]; exact hP9, va_K.moved hW.alike hK9, hD9⟩⟩, hS.F ht⟩) hS.2.2 d_Coins_init_15
set_option maxHeartbeats 4000000 in
set_option maxRecDepth 100000 in
/-- Machine(): nobody looks at it before a payment comes -/
theorem c_Machine_init (l : Launch) (dC : Nat → ClassId) (dI : Nat → Nat → Nat) (z : zT) (sz : Nat) (h0 h1 : Nat)  : Met l y_Machine_init w_Machine_init ({ frames := 1, cells := 30, slots := 2224, locals := 12 }) (va_Pc [.ref h0, .ref h1] (fun U => U.heap.size = sz ∧ va_P (dC, dI) cl_all [(h0, .inr (4, [.null, .null, .null, .int 0, .null, .int 0, .int 0, .null, .null, .null, .int 0]))] U.heap ∧ va_K (dC, dI) cl_all [] U ∧ va_D (fun _ => True) [(h0, .inr (4, [.null, .null, .null, .int 0, .null, .int 0, .int 0, .null, .null, .null, .int 0]))] ∧ zz z (va_A [(h0, .inr (4, [.null, .null, .null, .int 0, .null, .int 0, .int 0, .null, .null, .null, .int 0]))] sz) U U.heap)) (va_Qv (fun _ : Unit => True) (fun _ t => True) (va_A [(h0, .inr (4, [.null, .null, .null, .int 0, .null, .int 0, .int 0, .null, .null, .null, .int 0]))] sz)) 30 2224 (va_A [(h0, .inr (4, [.null, .null, .null, .int 0, .null, .int 0, .int 0, .null, .null, .null, .int 0]))] sz) := by
  refine Met.ofW (cc := b_Machine_init) (maxL := 2) (ret := none) (by decide) rfl ?_
  intro p e s m args below meth c s₁ B hml hv
  obtain ⟨rfl, hsz, hP, hK, hD0, hZ⟩ := hv
  have hx := B.exec
  have hb := B.bytes
  have hr := B.returns
  have hT : ∀ w ∈ lw_all, w.before _ s = true := fun w h => atoms_spec (ws := w_Machine_init) B.pre w (List.mem_cons_of_mem _ h)
  have hown : s.vm.findClass R_Machine = some m.cls := findClass_of_methodNamed B.named
  have hlocks := B.notSynchronized
  have hin : meth.name = "<init>" := (name_of_methodNamed B.named B.method).1
  subst hsz
  have hD := hD0.self (sz := s.heap.size)
  generalize hAe : va_A [(h0, .inr (4, [.null, .null, .null, .int 0, .null, .int 0, .int 0, .null, .null, .null, .int 0]))] s.heap.size = A at hD hZ ⊢
  have hA : ∀ q : Nat, s.heap.size ≤ q → A q := fun q h => by rw [← hAe]; exact Or.inr h
  have hS : va_S A s.heap s.heap [] := va_S.rf
  have hl := lv_entry ([.ref h0, .ref h1]) (n := 2) (Nat.le_of_ble_eq_true rfl)
  rw [lg_entry_eq]
  generalize (lg_sl ([.ref h0, .ref h1]) ++ List.replicate (2 - (lg_sl ([.ref h0, .ref h1])).length) Slot.unset).toArray = ls at hl ⊢
  have hl : lv_has ls 2 [(0, .ref h0), (1, .ref h1)] := hl
  refine lv_aload_n hx hb d_Machine_init_0 rfl (lv_at hl 0 rfl) ?_
  refine W.objInit hx hb hown (hT _ k_42) (hT _ k_1) (hT _ k_2) rfl (by rw [hml]; exact hl.1) rfl d_Machine_init_1 (Nat.le_of_ble_eq_true rfl) (Nat.le_of_ble_eq_true rfl) ?_
  refine W.eq (g2 := F0 m 4 ls []) rfl ?_
  refine lv_aload_n hx hb d_Machine_init_4 rfl (lv_at hl 0 rfl) ?_
  refine lv_bipush (v := 24) hx hb d_Machine_init_5 (by decide) ?_
  refine lv_bipush (v := 80) hx hb d_Machine_init_7 (by decide) ?_
  refine zz_multi hx hb hown (hT _ k_43) (zz_N hZ).2.2.2.2 (hT _ k_15) hP hS hA (Nat.le_of_ble_eq_true rfl) (Nat.le_of_ble_eq_true rfl) d_Machine_init_9 (fun q_1 H locs hP hS => ?_)
  refine W.widen (k := 25) (n := 1944) (Nat.le_of_ble_eq_true rfl) (Nat.le_of_ble_eq_true rfl) ?_
  refine va_putF (D := (dC, dI)) (ci := 4) (v := .ref q_1) (ty := .array (.array (.byte))) (C := R_Machine) (T := F_Machine) (N := 11) hx hb hT i_Machine t_Machine t_Machine_ok n_Machine hown hK hP hD hS 0 rfl rfl 1 (by decide) (hT _ k_44) (fun _ h9 => h9) rfl hin rfl (by decide +kernel) rfl rfl (Nat.le_of_ble_eq_true rfl) d_Machine_init_13 (fun H locs hP hD hS => ?_)
  have hP : va_P (dC, dI) cl_all [(h0, .inr (4, [.null, .ref q_1, .null, .int 0, .null, .int 0, .int 0, .null, .null, .null, .int 0]))] H := hP
  have hD : va_D A [(h0, .inr (4, [.null, .ref q_1, .null, .int 0, .null, .int 0, .int 0, .null, .null, .null, .int 0]))] := hD
  refine lv_aload_n hx hb d_Machine_init_16 rfl (lv_at hl 0 rfl) ?_
  refine lv_bipush (v := 24) hx hb d_Machine_init_17 (by decide) ?_
  refine va_newa (a0 := (24, .inl (fun _ => 0))) hx hb (hT _ k_18) (ty := .int) rfl hK hP hD hS hA (fun _ => rfl) (by decide) (N' := 24) (by decide) (by decide) (Nat.le_of_ble_eq_true rfl) (Nat.le_of_ble_eq_true rfl) d_Machine_init_19 (fun q_2 e_3 H hK hP hD hS => ?_)
  have hK : va_K (dC, dI) cl_all [(e_3, .int)] s := hK
  have hP : va_P (dC, dI) cl_all [(h0, .inr (4, [.null, .ref q_1, .null, .int 0, .null, .int 0, .int 0, .null, .null, .null, .int 0])), (q_2, .inl (e_3, 24, .inl (fun _ => 0)))] H := hP
  have hD : va_D A [(h0, .inr (4, [.null, .ref q_1, .null, .int 0, .null, .int 0, .int 0, .null, .null, .null, .int 0])), (q_2, .inl (e_3, 24, .inl (fun _ => 0)))] := hD
  refine W.widen (k := 26) (n := 1968) (Nat.le_of_ble_eq_true rfl) (Nat.le_of_ble_eq_true rfl) ?_
  refine va_putF (D := (dC, dI)) (ci := 4) (v := .ref q_2) (ty := .array (.int)) (C := R_Machine) (T := F_Machine) (N := 11) hx hb hT i_Machine t_Machine t_Machine_ok n_Machine hown hK hP hD hS 0 rfl rfl 2 (by decide) (hT _ k_45) (fun _ h9 => h9) rfl hin rfl (by decide +kernel) rfl rfl (Nat.le_of_ble_eq_true rfl) d_Machine_init_21 (fun H locs hP hD hS => ?_)
  have hP : va_P (dC, dI) cl_all [(h0, .inr (4, [.null, .ref q_1, .ref q_2, .int 0, .null, .int 0, .int 0, .null, .null, .null, .int 0])), (q_2, .inl (e_3, 24, .inl (fun _ => 0)))] H := hP
  have hD : va_D A [(h0, .inr (4, [.null, .ref q_1, .ref q_2, .int 0, .null, .int 0, .int 0, .null, .null, .null, .int 0])), (q_2, .inl (e_3, 24, .inl (fun _ => 0)))] := hD
  refine lv_aload_n hx hb d_Machine_init_24 rfl (lv_at hl 0 rfl) ?_
  refine lv_bipush (v := 80) hx hb d_Machine_init_25 (by decide) ?_
  refine va_newa (a0 := (80, .inl (fun _ => 0))) hx hb (hT _ k_46) (ty := .boolean) rfl hK hP hD hS hA (fun _ => rfl) (by decide) (N' := 80) (by decide) (by decide) (Nat.le_of_ble_eq_true rfl) (Nat.le_of_ble_eq_true rfl) d_Machine_init_27 (fun q_4 e_5 H hK hP hD hS => ?_)
  have hK : va_K (dC, dI) cl_all [(e_3, .int), (e_5, .boolean)] s := hK
  have hP : va_P (dC, dI) cl_all [(h0, .inr (4, [.null, .ref q_1, .ref q_2, .int 0, .null, .int 0, .int 0, .null, .null, .null, .int 0])), (q_2, .inl (e_3, 24, .inl (fun _ => 0))), (q_4, .inl (e_5, 80, .inl (fun _ => 0)))] H := hP
  have hD : va_D A [(h0, .inr (4, [.null, .ref q_1, .ref q_2, .int 0, .null, .int 0, .int 0, .null, .null, .null, .int 0])), (q_2, .inl (e_3, 24, .inl (fun _ => 0))), (q_4, .inl (e_5, 80, .inl (fun _ => 0)))] := hD
  refine W.widen (k := 27) (n := 2048) (Nat.le_of_ble_eq_true rfl) (Nat.le_of_ble_eq_true rfl) ?_
  refine va_putF (D := (dC, dI)) (ci := 4) (v := .ref q_4) (ty := .array (.boolean)) (C := R_Machine) (T := F_Machine) (N := 11) hx hb hT i_Machine t_Machine t_Machine_ok n_Machine hown hK hP hD hS 0 rfl rfl 4 (by decide) (hT _ k_47) (fun _ h9 => h9) rfl hin rfl (by decide +kernel) rfl rfl (Nat.le_of_ble_eq_true rfl) d_Machine_init_29 (fun H locs hP hD hS => ?_)
  have hP : va_P (dC, dI) cl_all [(h0, .inr (4, [.null, .ref q_1, .ref q_2, .int 0, .ref q_4, .int 0, .int 0, .null, .null, .null, .int 0])), (q_2, .inl (e_3, 24, .inl (fun _ => 0))), (q_4, .inl (e_5, 80, .inl (fun _ => 0)))] H := hP
  have hD : va_D A [(h0, .inr (4, [.null, .ref q_1, .ref q_2, .int 0, .ref q_4, .int 0, .int 0, .null, .null, .null, .int 0])), (q_2, .inl (e_3, 24, .inl (fun _ => 0))), (q_4, .inl (e_5, 80, .inl (fun _ => 0)))] := hD
  refine lv_aload_n hx hb d_Machine_init_32 rfl (lv_at hl 0 rfl) ?_
  refine lv_bipush (v := 112) hx hb d_Machine_init_33 (by decide) ?_
  refine va_newa (a0 := (112, .inl (fun _ => 0))) hx hb (hT _ k_15) (ty := .byte) rfl hK hP hD hS hA (fun _ => rfl) (by decide) (N' := 112) (by decide) (by decide) (Nat.le_of_ble_eq_true rfl) (Nat.le_of_ble_eq_true rfl) d_Machine_init_35 (fun q_6 e_7 H hK hP hD hS => ?_)
  have hK : va_K (dC, dI) cl_all [(e_3, .int), (e_5, .boolean), (e_7, .byte)] s := hK
  have hP : va_P (dC, dI) cl_all [(h0, .inr (4, [.null, .ref q_1, .ref q_2, .int 0, .ref q_4, .int 0, .int 0, .null, .null, .null, .int 0])), (q_2, .inl (e_3, 24, .inl (fun _ => 0))), (q_4, .inl (e_5, 80, .inl (fun _ => 0))), (q_6, .inl (e_7, 112, .inl (fun _ => 0)))] H := hP
  have hD : va_D A [(h0, .inr (4, [.null, .ref q_1, .ref q_2, .int 0, .ref q_4, .int 0, .int 0, .null, .null, .null, .int 0])), (q_2, .inl (e_3, 24, .inl (fun _ => 0))), (q_4, .inl (e_5, 80, .inl (fun _ => 0))), (q_6, .inl (e_7, 112, .inl (fun _ => 0)))] := hD
  refine W.widen (k := 28) (n := 2160) (Nat.le_of_ble_eq_true rfl) (Nat.le_of_ble_eq_true rfl) ?_
  refine va_putF (D := (dC, dI)) (ci := 4) (v := .ref q_6) (ty := .array (.byte)) (C := R_Machine) (T := F_Machine) (N := 11) hx hb hT i_Machine t_Machine t_Machine_ok n_Machine hown hK hP hD hS 0 rfl rfl 7 (by decide) (hT _ k_48) (fun _ h9 => h9) rfl hin rfl (by decide +kernel) rfl rfl (Nat.le_of_ble_eq_true rfl) d_Machine_init_37 (fun H locs hP hD hS => ?_)
  have hP : va_P (dC, dI) cl_all [(h0, .inr (4, [.null, .ref q_1, .ref q_2, .int 0, .ref q_4, .int 0, .int 0, .ref q_6, .null, .null, .int 0])), (q_2, .inl (e_3, 24, .inl (fun _ => 0))), (q_4, .inl (e_5, 80, .inl (fun _ => 0))), (q_6, .inl (e_7, 112, .inl (fun _ => 0)))] H := hP
  have hD : va_D A [(h0, .inr (4, [.null, .ref q_1, .ref q_2, .int 0, .ref q_4, .int 0, .int 0, .ref q_6, .null, .null, .int 0])), (q_2, .inl (e_3, 24, .inl (fun _ => 0))), (q_4, .inl (e_5, 80, .inl (fun _ => 0))), (q_6, .inl (e_7, 112, .inl (fun _ => 0)))] := hD
  refine lv_aload_n hx hb d_Machine_init_40 rfl (lv_at hl 0 rfl) ?_
  refine lv_bipush (v := 32) hx hb d_Machine_init_41 (by decide) ?_
  refine va_newa (a0 := (32, .inl (fun _ => 0))) hx hb (hT _ k_15) (ty := .byte) rfl hK hP hD hS hA (fun _ => rfl) (by decide) (N' := 32) (by decide) (by decide) (Nat.le_of_ble_eq_true rfl) (Nat.le_of_ble_eq_true rfl) d_Machine_init_43 (fun q_8 e_9 H hK hP hD hS => ?_)
  have hK : va_K (dC, dI) cl_all [(e_3, .int), (e_5, .boolean), (e_7, .byte), (e_9, .byte)] s := hK
  have hP : va_P (dC, dI) cl_all [(h0, .inr (4, [.null, .ref q_1, .ref q_2, .int 0, .ref q_4, .int 0, .int 0, .ref q_6, .null, .null, .int 0])), (q_2, .inl (e_3, 24, .inl (fun _ => 0))), (q_4, .inl (e_5, 80, .inl (fun _ => 0))), (q_6, .inl (e_7, 112, .inl (fun _ => 0))), (q_8, .inl (e_9, 32, .inl (fun _ => 0)))] H := hP
  have hD : va_D A [(h0, .inr (4, [.null, .ref q_1, .ref q_2, .int 0, .ref q_4, .int 0, .int 0, .ref q_6, .null, .null, .int 0])), (q_2, .inl (e_3, 24, .inl (fun _ => 0))), (q_4, .inl (e_5, 80, .inl (fun _ => 0))), (q_6, .inl (e_7, 112, .inl (fun _ => 0))), (q_8, .inl (e_9, 32, .inl (fun _ => 0)))] := hD
  refine W.widen (k := 29) (n := 2192) (Nat.le_of_ble_eq_true rfl) (Nat.le_of_ble_eq_true rfl) ?_
  refine va_putF (D := (dC, dI)) (ci := 4) (v := .ref q_8) (ty := .array (.byte)) (C := R_Machine) (T := F_Machine) (N := 11) hx hb hT i_Machine t_Machine t_Machine_ok n_Machine hown hK hP hD hS 0 rfl rfl 8 (by decide) (hT _ k_49) (fun _ h9 => h9) rfl hin rfl (by decide +kernel) rfl rfl (Nat.le_of_ble_eq_true rfl) d_Machine_init_45 (fun H locs hP hD hS => ?_)
  have hP : va_P (dC, dI) cl_all [(h0, .inr (4, [.null, .ref q_1, .ref q_2, .int 0, .ref q_4, .int 0, .int 0, .ref q_6, .ref q_8, .null, .int 0])), (q_2, .inl (e_3, 24, .inl (fun _ => 0))), (q_4, .inl (e_5, 80, .inl (fun _ => 0))), (q_6, .inl (e_7, 112, .inl (fun _ => 0))), (q_8, .inl (e_9, 32, .inl (fun _ => 0)))] H := hP
  have hD : va_D A [(h0, .inr (4, [.null, .ref q_1, .ref q_2, .int 0, .ref q_4, .int 0, .int 0, .ref q_6, .ref q_8, .null, .int 0])), (q_2, .inl (e_3, 24, .inl (fun _ => 0))), (q_4, .inl (e_5, 80, .inl (fun _ => 0))), (q_6, .inl (e_7, 112, .inl (fun _ => 0))), (q_8, .inl (e_9, 32, .inl (fun _ => 0)))] := hD
  refine lv_aload_n hx hb d_Machine_init_48 rfl (lv_at hl 0 rfl) ?_
  refine lv_aload_n hx hb d_Machine_init_49 rfl (lv_at hl 1 rfl) ?_
  refine va_putF (D := (dC, dI)) (ci := 4) (v := .ref h1) (ty := .object "ChainLedger$Sha") (C := R_Machine) (T := F_Machine) (N := 11) hx hb hT i_Machine t_Machine t_Machine_ok n_Machine hown hK hP hD hS 0 rfl rfl 0 (by decide) (hT _ k_50) (fun _ h9 => h9) rfl hin rfl (by decide +kernel) rfl rfl (Nat.le_of_ble_eq_true rfl) d_Machine_init_50 (fun H locs hP hD hS => ?_)
  have hP : va_P (dC, dI) cl_all [(h0, .inr (4, [.ref h1, .ref q_1, .ref q_2, .int 0, .ref q_4, .int 0, .int 0, .ref q_6, .ref q_8, .null, .int 0])), (q_2, .inl (e_3, 24, .inl (fun _ => 0))), (q_4, .inl (e_5, 80, .inl (fun _ => 0))), (q_6, .inl (e_7, 112, .inl (fun _ => 0))), (q_8, .inl (e_9, 32, .inl (fun _ => 0)))] H := hP
  have hD : va_D A [(h0, .inr (4, [.ref h1, .ref q_1, .ref q_2, .int 0, .ref q_4, .int 0, .int 0, .ref q_6, .ref q_8, .null, .int 0])), (q_2, .inl (e_3, 24, .inl (fun _ => 0))), (q_4, .inl (e_5, 80, .inl (fun _ => 0))), (q_6, .inl (e_7, 112, .inl (fun _ => 0))), (q_8, .inl (e_9, 32, .inl (fun _ => 0)))] := hD
  refine lv_aload_n hx hb d_Machine_init_53 rfl (lv_at hl 0 rfl) ?_
  refine lv_bipush (v := 32) hx hb d_Machine_init_54 (by decide) ?_
  refine va_newa (a0 := (32, .inl (fun _ => 0))) hx hb (hT _ k_15) (ty := .byte) rfl hK hP hD hS hA (fun _ => rfl) (by decide) (N' := 32) (by decide) (by decide) (Nat.le_of_ble_eq_true rfl) (Nat.le_of_ble_eq_true rfl) d_Machine_init_56 (fun q_10 e_11 H hK hP hD hS => ?_)
  have hK : va_K (dC, dI) cl_all [(e_3, .int), (e_5, .boolean), (e_7, .byte), (e_9, .byte), (e_11, .byte)] s := hK
  have hP : va_P (dC, dI) cl_all [(h0, .inr (4, [.ref h1, .ref q_1, .ref q_2, .int 0, .ref q_4, .int 0, .int 0, .ref q_6, .ref q_8, .null, .int 0])), (q_2, .inl (e_3, 24, .inl (fun _ => 0))), (q_4, .inl (e_5, 80, .inl (fun _ => 0))), (q_6, .inl (e_7, 112, .inl (fun _ => 0))), (q_8, .inl (e_9, 32, .inl (fun _ => 0))), (q_10, .inl (e_11, 32, .inl (fun _ => 0)))] H := hP
  have hD : va_D A [(h0, .inr (4, [.ref h1, .ref q_1, .ref q_2, .int 0, .ref q_4, .int 0, .int 0, .ref q_6, .ref q_8, .null, .int 0])), (q_2, .inl (e_3, 24, .inl (fun _ => 0))), (q_4, .inl (e_5, 80, .inl (fun _ => 0))), (q_6, .inl (e_7, 112, .inl (fun _ => 0))), (q_8, .inl (e_9, 32, .inl (fun _ => 0))), (q_10, .inl (e_11, 32, .inl (fun _ => 0)))] := hD
  refine W.widen (k := 30) (n := 2224) (Nat.le_of_ble_eq_true rfl) (Nat.le_of_ble_eq_true rfl) ?_
  refine va_put (D := (dC, dI)) (ci := 4) (v := .ref q_10) (ty := .array (.byte)) (C := R_Machine) (T := F_Machine) (N := 11) hx hb hT i_Machine t_Machine t_Machine_ok n_Machine hown hK hP hD hS 0 rfl rfl 9 (by decide) (hT _ k_51) (fun _ h9 => h9) rfl (by decide +kernel) rfl rfl (Nat.le_of_ble_eq_true rfl) d_Machine_init_58 (fun H locs hP hD hS => ?_)
  have hP : va_P (dC, dI) cl_all [(h0, .inr (4, [.ref h1, .ref q_1, .ref q_2, .int 0, .ref q_4, .int 0, .int 0, .ref q_6, .ref q_8, .ref q_10, .int 0])), (q_2, .inl (e_3, 24, .inl (fun _ => 0))), (q_4, .inl (e_5, 80, .inl (fun _ => 0))), (q_6, .inl (e_7, 112, .inl (fun _ => 0))), (q_8, .inl (e_9, 32, .inl (fun _ => 0))), (q_10, .inl (e_11, 32, .inl (fun _ => 0)))] H := hP
  have hD : va_D A [(h0, .inr (4, [.ref h1, .ref q_1, .ref q_2, .int 0, .ref q_4, .int 0, .int 0, .ref q_6, .ref q_8, .ref q_10, .int 0])), (q_2, .inl (e_3, 24, .inl (fun _ => 0))), (q_4, .inl (e_5, 80, .inl (fun _ => 0))), (q_6, .inl (e_7, 112, .inl (fun _ => 0))), (q_8, .inl (e_9, 32, .inl (fun _ => 0))), (q_10, .inl (e_11, 32, .inl (fun _ => 0)))] := hD
  exact W.vret hx hb hr (fun t ht hW => ⟨⟨(), rfl, trivial, trivial⟩, hS.F ht⟩) hS.2.2 d_Machine_init_61
set_option maxHeartbeats 4000000 in
set_option maxRecDepth 100000 in
/-- Judge(): likewise -/
theorem c_Judge_init (l : Launch) (dC : Nat → ClassId) (dI : Nat → Nat → Nat) (z : zT) (sz : Nat) (h0 h1 : Nat)  : Met l y_Judge_init w_Judge_init ({ frames := 2, cells := 34, slots := 6341, locals := 33 }) (va_Pc [.ref h0, .ref h1] (fun U => U.heap.size = sz ∧ va_P (dC, dI) cl_all [(h0, .inr (3, [.null, .null, .null, .null]))] U.heap ∧ va_K (dC, dI) cl_all [] U ∧ va_D (fun _ => True) [(h0, .inr (3, [.null, .null, .null, .null]))] ∧ zz z (va_A [(h0, .inr (3, [.null, .null, .null, .null]))] sz) U U.heap)) (va_Qv (fun _ : Unit => True) (fun _ t => True) (va_A [(h0, .inr (3, [.null, .null, .null, .null]))] sz)) 34 6341 (va_A [(h0, .inr (3, [.null, .null, .null, .null]))] sz) := by
  refine Met.ofW (cc := b_Judge_init) (maxL := 2) (ret := none) (by decide) rfl ?_
  intro p e s m args below meth c s₁ B hml hv
  obtain ⟨rfl, hsz, hP, hK, hD0, hZ⟩ := hv
  have hx := B.exec
  have hb := B.bytes
  have hr := B.returns
  have hT : ∀ w ∈ lw_all, w.before _ s = true := fun w h => atoms_spec (ws := w_Judge_init) B.pre w (List.mem_cons_of_mem _ h)
  have hown : s.vm.findClass R_Judge = some m.cls := findClass_of_methodNamed B.named
  have hlocks := B.notSynchronized
  have hin : meth.name = "<init>" := (name_of_methodNamed B.named B.method).1
  subst hsz
  have hD := hD0.self (sz := s.heap.size)
  generalize hAe : va_A [(h0, .inr (3, [.null, .null, .null, .null]))] s.heap.size = A at hD hZ ⊢
  have hA : ∀ q : Nat, s.heap.size ≤ q → A q := fun q h => by rw [← hAe]; exact Or.inr h
  have hS : va_S A s.heap s.heap [] := va_S.rf
  have hl := lv_entry ([.ref h0, .ref h1]) (n := 2) (Nat.le_of_ble_eq_true rfl)
  rw [lg_entry_eq]
  generalize (lg_sl ([.ref h0, .ref h1]) ++ List.replicate (2 - (lg_sl ([.ref h0, .ref h1])).length) Slot.unset).toArray = ls at hl ⊢
  have hl : lv_has ls 2 [(0, .ref h0), (1, .ref h1)] := hl
  refine lv_aload_n hx hb d_Judge_init_0 rfl (lv_at hl 0 rfl) ?_
  refine W.objInit hx hb hown (hT _ k_52) (hT _ k_1) (hT _ k_2) rfl (by rw [hml]; exact hl.1) rfl d_Judge_init_1 (Nat.le_of_ble_eq_true rfl) (Nat.le_of_ble_eq_true rfl) ?_
  refine W.eq (g2 := F0 m 4 ls []) rfl ?_
  refine lv_aload_n hx hb d_Judge_init_4 rfl (lv_at hl 0 rfl) ?_
  refine va_new (ci := 1) (fs := [.null, .int 0]) (C := R_Row) (T := F_Row) (N := 2) hx hb hT i_Row t_Row t_Row_ok hown (hT _ k_53) (hT _ k_54) (hT _ k_55) hK hP hD hS hA rfl (fun j hj => df_Row j hj) (Nat.le_of_ble_eq_true rfl) (Nat.le_of_ble_eq_true rfl) d_Judge_init_5 (fun q_1 H hP hD hS => ?_)
  have hP : va_P (dC, dI) cl_all [(h0, .inr (3, [.null, .null, .null, .null])), (q_1, .inr (1, [.null, .int 0]))] H := hP
  have hD : va_D A [(h0, .inr (3, [.null, .null, .null, .null])), (q_1, .inr (1, [.null, .int 0]))] := hD
  refine W.widen (k := 1) (n := 2) (Nat.le_of_ble_eq_true rfl) (Nat.le_of_ble_eq_true rfl) ?_
  refine lv_dup hx hb d_Judge_init_8 rfl ?_
  have hPc := hP.sub (ws' := [(q_1, .inr (1, [.null, .int 0]))]) [1] rfl
  have hDc := hD.sub (ws' := [(q_1, .inr (1, [.null, .int 0]))]) [1] (by decide) rfl
  have hKc := hK.sub (tys' := []) [] rfl
  have hFc := va_free (wc := [(q_1, .inr (1, [.null, .int 0]))]) hD hS hA [1] rfl
  refine va_callv (va_runIN (As := []) (rest := [.ref q_1, .ref h0]) ⟨hx, hb, hml, hown, hT⟩ (c_Row_init l dC dI z H.size q_1) ⟨va_cnB (host := "ChainLedger") 0 hT g_Row_init rfl rfl rfl (zn_k_56 (zz_N hZ)) (hT _ k_55) (by decide +kernel) ⟨Nat.le_of_ble_eq_true rfl, Nat.le_of_ble_eq_true rfl⟩, rfl, (hT _ k_57)⟩ (zz_pre hPc hKc hDc hZ hS hFc) rfl rfl hl.1 rfl (lv_room (Nat.le_of_ble_eq_true rfl)) d_Judge_init_9 ⟨Nat.le_of_ble_eq_true rfl, Nat.le_of_ble_eq_true rfl⟩) hS (fun q _ h => hFc q h) hFc (fun u t H1 locs ht hvm hw hB hz1 hk1 hS => ?_)
  obtain ⟨q_3, e_4, hP1, hK1, hD1⟩ := hB
  rw [ht] at hP1
  have hK := hK.app (va_K.moved hvm.symm hK1)
  have hK : va_K (dC, dI) cl_all [(e_4, .byte)] s := hK
  obtain ⟨hP, hD⟩ := va_join (wr := [(h0, .inr (3, [.null, .null, .null, .null]))]) (w1 := [(q_1, .inr (1, [.ref q_3, .int 0])), (q_3, .inl (e_4, 4096, .inl (fun _ => 0)))]) hP hD [1] [0] rfl rfl (by decide) (by decide) hk1 hFc hP1 hD1
  generalize H1 = H at hP hS ⊢
  have hP : va_P (dC, dI) cl_all [(h0, .inr (3, [.null, .null, .null, .null])), (q_1, .inr (1, [.ref q_3, .int 0])), (q_3, .inl (e_4, 4096, .inl (fun _ => 0)))] H := hP
  have hD : va_D A [(h0, .inr (3, [.null, .null, .null, .null])), (q_1, .inr (1, [.ref q_3, .int 0])), (q_3, .inl (e_4, 4096, .inl (fun _ => 0)))] := hD
  refine W.widen (k := 2) (n := 4098) (Nat.le_of_ble_eq_true rfl) (Nat.le_of_ble_eq_true rfl) ?_
  refine va_putF (D := (dC, dI)) (ci := 3) (v := .ref q_1) (ty := .object "ChainLedger$Row") (C := R_Judge) (T := F_Judge) (N := 4) hx hb hT i_Judge t_Judge t_Judge_ok n_Judge hown hK hP hD hS 0 rfl rfl 2 (by decide) (hT _ k_58) (fun _ h9 => h9) rfl hin rfl (by decide +kernel) rfl rfl (Nat.le_of_ble_eq_true rfl) d_Judge_init_12 (fun H locs hP hD hS => ?_)
  have hP : va_P (dC, dI) cl_all [(h0, .inr (3, [.null, .null, .ref q_1, .null])), (q_1, .inr (1, [.ref q_3, .int 0])), (q_3, .inl (e_4, 4096, .inl (fun _ => 0)))] H := hP
  have hD : va_D A [(h0, .inr (3, [.null, .null, .ref q_1, .null])), (q_1, .inr (1, [.ref q_3, .int 0])), (q_3, .inl (e_4, 4096, .inl (fun _ => 0)))] := hD
  refine lv_aload_n hx hb d_Judge_init_15 rfl (lv_at hl 0 rfl) ?_
  refine lv_bipush (v := 8) hx hb d_Judge_init_16 (by decide) ?_
  refine va_newq (C := "ChainLedger$Coin") hx hb hown (hT _ k_59) (zz_N hZ).2.2.2.1 hK hP hD hS hA (by decide) (N' := 8) (by decide) (by decide) (Nat.le_of_ble_eq_true rfl) (Nat.le_of_ble_eq_true rfl) d_Judge_init_18 (fun q_5 e_6 H hK hP hD hS => ?_)
  have hK : va_K (dC, dI) cl_all [(e_4, .byte), (e_6, .object "ChainLedger$Coin")] s := hK
  have hP : va_P (dC, dI) cl_all [(h0, .inr (3, [.null, .null, .ref q_1, .null])), (q_1, .inr (1, [.ref q_3, .int 0])), (q_3, .inl (e_4, 4096, .inl (fun _ => 0))), (q_5, .inl (e_6, 8, .inr (.inr (.inr (.inr (fun _ => none))))))] H := hP
  have hD : va_D A [(h0, .inr (3, [.null, .null, .ref q_1, .null])), (q_1, .inr (1, [.ref q_3, .int 0])), (q_3, .inl (e_4, 4096, .inl (fun _ => 0))), (q_5, .inl (e_6, 8, .inr (.inr (.inr (.inr (fun _ => none))))))] := hD
  refine W.widen (k := 3) (n := 4106) (Nat.le_of_ble_eq_true rfl) (Nat.le_of_ble_eq_true rfl) ?_
  refine va_putF (D := (dC, dI)) (ci := 3) (v := .ref q_5) (ty := .array (.object "ChainLedger$Coin")) (C := R_Judge) (T := F_Judge) (N := 4) hx hb hT i_Judge t_Judge t_Judge_ok n_Judge hown hK hP hD hS 0 rfl rfl 3 (by decide) (hT _ k_60) (fun _ h9 => h9) rfl hin rfl (by decide +kernel) rfl rfl (Nat.le_of_ble_eq_true rfl) d_Judge_init_21 (fun H locs hP hD hS => ?_)
  have hP : va_P (dC, dI) cl_all [(h0, .inr (3, [.null, .null, .ref q_1, .ref q_5])), (q_1, .inr (1, [.ref q_3, .int 0])), (q_3, .inl (e_4, 4096, .inl (fun _ => 0))), (q_5, .inl (e_6, 8, .inr (.inr (.inr (.inr (fun _ => none))))))] H := hP
  have hD : va_D A [(h0, .inr (3, [.null, .null, .ref q_1, .ref q_5])), (q_1, .inr (1, [.ref q_3, .int 0])), (q_3, .inl (e_4, 4096, .inl (fun _ => 0))), (q_5, .inl (e_6, 8, .inr (.inr (.inr (.inr (fun _ => none))))))] := hD
  refine lv_aload_n hx hb d_Judge_init_24 rfl (lv_at hl 0 rfl) ?_
  refine lv_aload_n hx hb d_Judge_init_25 rfl (lv_at hl 1 rfl) ?_
  refine va_putF (D := (dC, dI)) (ci := 3) (v := .ref h1) (ty := .object "ChainLedger$Sha") (C := R_Judge) (T := F_Judge) (N := 4) hx hb hT i_Judge t_Judge t_Judge_ok n_Judge hown hK hP hD hS 0 rfl rfl 0 (by decide) (hT _ k_61) (fun _ h9 => h9) rfl hin rfl (by decide +kernel) rfl rfl (Nat.le_of_ble_eq_true rfl) d_Judge_init_26 (fun H locs hP hD hS => ?_)
  have hP : va_P (dC, dI) cl_all [(h0, .inr (3, [.ref h1, .null, .ref q_1, .ref q_5])), (q_1, .inr (1, [.ref q_3, .int 0])), (q_3, .inl (e_4, 4096, .inl (fun _ => 0))), (q_5, .inl (e_6, 8, .inr (.inr (.inr (.inr (fun _ => none))))))] H := hP
  have hD : va_D A [(h0, .inr (3, [.ref h1, .null, .ref q_1, .ref q_5])), (q_1, .inr (1, [.ref q_3, .int 0])), (q_3, .inl (e_4, 4096, .inl (fun _ => 0))), (q_5, .inl (e_6, 8, .inr (.inr (.inr (.inr (fun _ => none))))))] := hD
  refine lv_aload_n hx hb d_Judge_init_29 rfl (lv_at hl 0 rfl) ?_
  refine va_new (ci := 4) (fs := [.null, .null, .null, .int 0, .null, .int 0, .int 0, .null, .null, .null, .int 0]) (C := R_Machine) (T := F_Machine) (N := 11) hx hb hT i_Machine t_Machine t_Machine_ok hown (hT _ k_62) (hT _ k_63) (hT _ k_64) hK hP hD hS hA rfl (fun j hj => df_Machine j hj) (Nat.le_of_ble_eq_true rfl) (Nat.le_of_ble_eq_true rfl) d_Judge_init_30 (fun q_7 H hP hD hS => ?_)
  have hP : va_P (dC, dI) cl_all [(h0, .inr (3, [.ref h1, .null, .ref q_1, .ref q_5])), (q_1, .inr (1, [.ref q_3, .int 0])), (q_3, .inl (e_4, 4096, .inl (fun _ => 0))), (q_5, .inl (e_6, 8, .inr (.inr (.inr (.inr (fun _ => none)))))), (q_7, .inr (4, [.null, .null, .null, .int 0, .null, .int 0, .int 0, .null, .null, .null, .int 0]))] H := hP
  have hD : va_D A [(h0, .inr (3, [.ref h1, .null, .ref q_1, .ref q_5])), (q_1, .inr (1, [.ref q_3, .int 0])), (q_3, .inl (e_4, 4096, .inl (fun _ => 0))), (q_5, .inl (e_6, 8, .inr (.inr (.inr (.inr (fun _ => none)))))), (q_7, .inr (4, [.null, .null, .null, .int 0, .null, .int 0, .int 0, .null, .null, .null, .int 0]))] := hD
  refine W.widen (k := 4) (n := 4117) (Nat.le_of_ble_eq_true rfl) (Nat.le_of_ble_eq_true rfl) ?_
  refine lv_dup hx hb d_Judge_init_33 rfl ?_
  refine lv_aload_n hx hb d_Judge_init_34 rfl (lv_at hl 1 rfl) ?_
  have hPc := hP.sub (ws' := [(q_7, .inr (4, [.null, .null, .null, .int 0, .null, .int 0, .int 0, .null, .null, .null, .int 0]))]) [4] rfl
  have hDc := hD.sub (ws' := [(q_7, .inr (4, [.null, .null, .null, .int 0, .null, .int 0, .int 0, .null, .null, .null, .int 0]))]) [4] (by decide) rfl
  have hKc := hK.sub (tys' := []) [] rfl
  have hFc := va_free (wc := [(q_7, .inr (4, [.null, .null, .null, .int 0, .null, .int 0, .int 0, .null, .null, .null, .int 0]))]) hD hS hA [4] rfl
  refine va_callv (va_runI (As := [.ref h1]) (rest := [.ref q_7, .ref h0]) ⟨hx, hb, hml, hown, hT⟩ (c_Machine_init l dC dI z H.size q_7 h1) (cwI 1 hT g_Machine_init rfl rfl rfl (hT _ k_64) (hT _ k_65) (hT _ k_66) rfl (by decide +kernel) ⟨Nat.le_of_ble_eq_true rfl, Nat.le_of_ble_eq_true rfl⟩) (zz_pre hPc hKc hDc hZ hS hFc) rfl rfl hl.1 rfl (lv_room (Nat.le_of_ble_eq_true rfl)) d_Judge_init_35 ⟨Nat.le_of_ble_eq_true rfl, Nat.le_of_ble_eq_true rfl⟩) hS (fun q _ h => hFc q h) hFc (fun u t H1 locs ht hvm hw hB hz1 hk1 hS => ?_)
  have hP1 : va_P (dC, dI) cl_all [] H1 := zz_P0
  have hD1 : va_D (va_A [(q_7, .inr (4, [.null, .null, .null, .int 0, .null, .int 0, .int 0, .null, .null, .null, .int 0]))] H.size) [] := zz_D0
  obtain ⟨hP, hD⟩ := va_join (wr := [(h0, .inr (3, [.ref h1, .null, .ref q_1, .ref q_5])), (q_1, .inr (1, [.ref q_3, .int 0])), (q_3, .inl (e_4, 4096, .inl (fun _ => 0))), (q_5, .inl (e_6, 8, .inr (.inr (.inr (.inr (fun _ => none))))))]) (w1 := []) hP hD [4] [0, 1, 2, 3] rfl rfl (by decide) (by decide) hk1 hFc hP1 hD1
  generalize H1 = H at hP hS ⊢
  have hP : va_P (dC, dI) cl_all [(h0, .inr (3, [.ref h1, .null, .ref q_1, .ref q_5])), (q_1, .inr (1, [.ref q_3, .int 0])), (q_3, .inl (e_4, 4096, .inl (fun _ => 0))), (q_5, .inl (e_6, 8, .inr (.inr (.inr (.inr (fun _ => none))))))] H := hP
  have hD : va_D A [(h0, .inr (3, [.ref h1, .null, .ref q_1, .ref q_5])), (q_1, .inr (1, [.ref q_3, .int 0])), (q_3, .inl (e_4, 4096, .inl (fun _ => 0))), (q_5, .inl (e_6, 8, .inr (.inr (.inr (.inr (fun _ => none))))))] := hD
  refine W.widen (k := 34) (n := 6341) (Nat.le_of_ble_eq_true rfl) (Nat.le_of_ble_eq_true rfl) ?_
  refine va_putF (D := (dC, dI)) (ci := 3) (v := .ref q_7) (ty := .object "ChainLedger$Machine") (C := R_Judge) (T := F_Judge) (N := 4) hx hb hT i_Judge t_Judge t_Judge_ok n_Judge hown hK hP hD hS 0 rfl rfl 1 (by decide) (hT _ k_67) (fun _ h9 => h9) rfl hin rfl (by decide +kernel) rfl rfl (Nat.le_of_ble_eq_true rfl) d_Judge_init_38 (fun H locs hP hD hS => ?_)
  have hP : va_P (dC, dI) cl_all [(h0, .inr (3, [.ref h1, .ref q_7, .ref q_1, .ref q_5])), (q_1, .inr (1, [.ref q_3, .int 0])), (q_3, .inl (e_4, 4096, .inl (fun _ => 0))), (q_5, .inl (e_6, 8, .inr (.inr (.inr (.inr (fun _ => none))))))] H := hP
  have hD : va_D A [(h0, .inr (3, [.ref h1, .ref q_7, .ref q_1, .ref q_5])), (q_1, .inr (1, [.ref q_3, .int 0])), (q_3, .inl (e_4, 4096, .inl (fun _ => 0))), (q_5, .inl (e_6, 8, .inr (.inr (.inr (.inr (fun _ => none))))))] := hD
  exact W.vret hx hb hr (fun t ht hW => ⟨⟨(), rfl, trivial, trivial⟩, hS.F ht⟩) hS.2.2 d_Judge_init_41
set_option maxHeartbeats 4000000 in
set_option maxRecDepth 100000 in
/-- Chain(): BLOCK 0 alone is stored, and is the tip -/
theorem c_Chain_init (l : Launch) (dC : Nat → ClassId) (dI : Nat → Nat → Nat) (z : zT) (sz : Nat) (h0 h1 h2 : Nat)  : Met l y_Chain_init w_Chain_init ({ frames := 5, cells := 12, slots := 1890, locals := 92 }) (va_Pc [.ref h0, .ref h1, .ref h2] (fun U => U.heap.size = sz ∧ va_P (dC, dI) cl_all [(h0, .inr (5, [.null, .null, .null, .null, .int 0, .int 0, .null, .null, .null, .null, .int 0, .null, .int 0, .null, .int 0, .int 0, .null]))] U.heap ∧ va_K (dC, dI) cl_all [] U ∧ va_D (fun _ => True) [(h0, .inr (5, [.null, .null, .null, .null, .int 0, .int 0, .null, .null, .null, .null, .int 0, .null, .int 0, .null, .int 0, .int 0, .null]))] ∧ zz z (va_A [(h0, .inr (5, [.null, .null, .null, .null, .int 0, .int 0, .null, .null, .null, .null, .int 0, .null, .int 0, .null, .int 0, .int 0, .null]))] sz) U U.heap)) (va_Qv (fun _ : Unit => True) (fun _ t => ∃ (q1 : Nat) (q2 : Nat) (q3 : Nat) (q4 : Nat) (q5 : Nat) (q6 : Nat) (q7 : Nat) (q8 : Nat) (q9 : Nat) (q10 : Nat) (q11 : Nat) (q12 : Nat) (e1 : ClassId) (e2 : ClassId) (e3 : ClassId) (fb : Nat → Option Nat), fb 0 = some q6 ∧ va_P (dC, dI) cl_all [(h0, .inr (5, [.ref h1, .ref h2, .ref q1, .ref q3, .int 1, .int 0, .ref q4, .ref q6, .ref q5, .ref q8, .int 0, .ref q9, .int 0, .ref q10, .int 0, .int 1, .null])), (q1, .inr (8, [.ref q2])), (q2, .inr (10, [.int 0, .ref z.1, .int 0])), (q3, .inl (e1, 256, .inr (.inr (.inr (.inr fb))))), (q4, .inr (10, [.int 0, .ref z.1, .int 0])), (q5, .inl (e2, 1024, .inl (fun _ => 0))), (q6, .inr (6, [.null, .int 0, .ref q7, .int 0, .int 32768, .int 0, .ref q11, .int 0, .null, .int 0, .int 0, .long 0, .int 1, .int 0, .int 1, .int 0, .ref q12])), (q7, .inl (e3, 32, .inl (fun _ => 0)))] t.heap ∧ va_K (dC, dI) cl_all [(e1, .object "ChainLedger$Block"), (e2, .byte), (e3, .byte)] t ∧ va_D (va_A [(h0, .inr (5, [.null, .null, .null, .null, .int 0, .int 0, .null, .null, .null, .null, .int 0, .null, .int 0, .null, .int 0, .int 0, .null]))] sz) [(h0, .inr (5, [.ref h1, .ref h2, .ref q1, .ref q3, .int 1, .int 0, .ref q4, .ref q6, .ref q5, .ref q8, .int 0, .ref q9, .int 0, .ref q10, .int 0, .int 1, .null])), (q1, .inr (8, [.ref q2])), (q2, .inr (10, [.int 0, .ref z.1, .int 0])), (q3, .inl (e1, 256, .inr (.inr (.inr (.inr fb))))), (q4, .inr (10, [.int 0, .ref z.1, .int 0])), (q5, .inl (e2, 1024, .inl (fun _ => 0))), (q6, .inr (6, [.null, .int 0, .ref q7, .int 0, .int 32768, .int 0, .ref q11, .int 0, .null, .int 0, .int 0, .long 0, .int 1, .int 0, .int 1, .int 0, .ref q12])), (q7, .inl (e3, 32, .inl (fun _ => 0)))]) (va_A [(h0, .inr (5, [.null, .null, .null, .null, .int 0, .int 0, .null, .null, .null, .null, .int 0, .null, .int 0, .null, .int 0, .int 0, .null]))] sz)) 12 1890 (va_A [(h0, .inr (5, [.null, .null, .null, .null, .int 0, .int 0, .null, .null, .null, .null, .int 0, .null, .int 0, .null, .int 0, .int 0, .null]))] sz) := by
  refine Met.ofW (cc := b_Chain_init) (maxL := 4) (ret := none) (by decide) rfl ?_
  intro p e s m args below meth c s₁ B hml hv
  obtain ⟨rfl, hsz, hP, hK, hD0, hZ⟩ := hv
  have hx := B.exec
  have hb := B.bytes
  have hr := B.returns
  have hT : ∀ w ∈ lw_all, w.before _ s = true := fun w h => atoms_spec (ws := w_Chain_init) B.pre w (List.mem_cons_of_mem _ h)
  have hown : s.vm.findClass R_Chain = some m.cls := findClass_of_methodNamed B.named
  have hlocks := B.notSynchronized
  have hin : meth.name = "<init>" := (name_of_methodNamed B.named B.method).1
  subst hsz
  have hD := hD0.self (sz := s.heap.size)
  generalize hAe : va_A [(h0, .inr (5, [.null, .null, .null, .null, .int 0, .int 0, .null, .null, .null, .null, .int 0, .null, .int 0, .null, .int 0, .int 0, .null]))] s.heap.size = A at hD hZ ⊢
  have hA : ∀ q : Nat, s.heap.size ≤ q → A q := fun q h => by rw [← hAe]; exact Or.inr h
  have hS : va_S A s.heap s.heap [] := va_S.rf
  have hl := lv_entry ([.ref h0, .ref h1, .ref h2]) (n := 4) (Nat.le_of_ble_eq_true rfl)
  rw [lg_entry_eq]
  generalize (lg_sl ([.ref h0, .ref h1, .ref h2]) ++ List.replicate (4 - (lg_sl ([.ref h0, .ref h1, .ref h2])).length) Slot.unset).toArray = ls at hl ⊢
  have hl : lv_has ls 4 [(0, .ref h0), (1, .ref h1), (2, .ref h2)] := hl
  refine lv_aload_n hx hb d_Chain_init_0 rfl (lv_at hl 0 rfl) ?_
  refine W.objInit hx hb hown (hT _ k_68) (hT _ k_1) (hT _ k_2) rfl (by rw [hml]; exact hl.1) rfl d_Chain_init_1 (Nat.le_of_ble_eq_true rfl) (Nat.le_of_ble_eq_true rfl) ?_
  refine W.eq (g2 := F0 m 4 ls []) rfl ?_
  refine lv_aload_n hx hb d_Chain_init_4 rfl (lv_at hl 0 rfl) ?_
  refine va_new (ci := 8) (fs := [.null]) (C := R_Coins) (T := F_Coins) (N := 1) hx hb hT i_Coins t_Coins t_Coins_ok hown (hT _ k_69) (hT _ k_70) (hT _ k_71) hK hP hD hS hA rfl (fun j hj => df_Coins j hj) (Nat.le_of_ble_eq_true rfl) (Nat.le_of_ble_eq_true rfl) d_Chain_init_5 (fun q_1 H hP hD hS => ?_)
  have hP : va_P (dC, dI) cl_all [(h0, .inr (5, [.null, .null, .null, .null, .int 0, .int 0, .null, .null, .null, .null, .int 0, .null, .int 0, .null, .int 0, .int 0, .null])), (q_1, .inr (8, [.null]))] H := hP
  have hD : va_D A [(h0, .inr (5, [.null, .null, .null, .null, .int 0, .int 0, .null, .null, .null, .null, .int 0, .null, .int 0, .null, .int 0, .int 0, .null])), (q_1, .inr (8, [.null]))] := hD
  refine W.widen (k := 1) (n := 1) (Nat.le_of_ble_eq_true rfl) (Nat.le_of_ble_eq_true rfl) ?_
  refine lv_dup hx hb d_Chain_init_8 rfl ?_
  have hPc := hP.sub (ws' := [(q_1, .inr (8, [.null]))]) [1] rfl
  have hDc := hD.sub (ws' := [(q_1, .inr (8, [.null]))]) [1] (by decide) rfl
  have hKc := hK.sub (tys' := []) [] rfl
  have hFc := va_free (wc := [(q_1, .inr (8, [.null]))]) hD hS hA [1] rfl
  refine va_callv (va_runIN (As := []) (rest := [.ref q_1, .ref h0]) ⟨hx, hb, hml, hown, hT⟩ (c_Coins_init l dC dI z H.size q_1) ⟨va_cnB (host := "ChainLedger") 0 hT g_Coins_init rfl rfl rfl (zn_k_72 (zz_N hZ)) (hT _ k_71) (by decide +kernel) ⟨Nat.le_of_ble_eq_true rfl, Nat.le_of_ble_eq_true rfl⟩, rfl, (hT _ k_73)⟩ (zz_pre hPc hKc hDc hZ hS hFc) rfl rfl hl.1 rfl (lv_room (Nat.le_of_ble_eq_true rfl)) d_Chain_init_9 ⟨Nat.le_of_ble_eq_true rfl, Nat.le_of_ble_eq_true rfl⟩) hS (fun q _ h => hFc q h) hFc (fun u t H1 locs ht hvm hw hB hz1 hk1 hS => ?_)
  obtain ⟨q_3, hP1, hK1, hD1⟩ := hB
  rw [ht] at hP1
  obtain ⟨hP, hD⟩ := va_join (wr := [(h0, .inr (5, [.null, .null, .null, .null, .int 0, .int 0, .null, .null, .null, .null, .int 0, .null, .int 0, .null, .int 0, .int 0, .null]))]) (w1 := [(q_1, .inr (8, [.ref q_3])), (q_3, .inr (10, [.int 0, .ref z.1, .int 0]))]) hP hD [1] [0] rfl rfl (by decide) (by decide) hk1 hFc hP1 hD1
  generalize H1 = H at hP hS ⊢
  have hP : va_P (dC, dI) cl_all [(h0, .inr (5, [.null, .null, .null, .null, .int 0, .int 0, .null, .null, .null, .null, .int 0, .null, .int 0, .null, .int 0, .int 0, .null])), (q_1, .inr (8, [.ref q_3])), (q_3, .inr (10, [.int 0, .ref z.1, .int 0]))] H := hP
  have hD : va_D A [(h0, .inr (5, [.null, .null, .null, .null, .int 0, .int 0, .null, .null, .null, .null, .int 0, .null, .int 0, .null, .int 0, .int 0, .null])), (q_1, .inr (8, [.ref q_3])), (q_3, .inr (10, [.int 0, .ref z.1, .int 0]))] := hD
  refine W.widen (k := 2) (n := 4) (Nat.le_of_ble_eq_true rfl) (Nat.le_of_ble_eq_true rfl) ?_
  refine va_putF (D := (dC, dI)) (ci := 5) (v := .ref q_1) (ty := .object "ChainLedger$Coins") (C := R_Chain) (T := F_Chain) (N := 17) hx hb hT i_Chain t_Chain t_Chain_ok n_Chain hown hK hP hD hS 0 rfl rfl 2 (by decide) (hT _ k_74) (fun _ h9 => h9) rfl hin rfl (by decide +kernel) rfl rfl (Nat.le_of_ble_eq_true rfl) d_Chain_init_12 (fun H locs hP hD hS => ?_)
  have hP : va_P (dC, dI) cl_all [(h0, .inr (5, [.null, .null, .ref q_1, .null, .int 0, .int 0, .null, .null, .null, .null, .int 0, .null, .int 0, .null, .int 0, .int 0, .null])), (q_1, .inr (8, [.ref q_3])), (q_3, .inr (10, [.int 0, .ref z.1, .int 0]))] H := hP
  have hD : va_D A [(h0, .inr (5, [.null, .null, .ref q_1, .null, .int 0, .int 0, .null, .null, .null, .null, .int 0, .null, .int 0, .null, .int 0, .int 0, .null])), (q_1, .inr (8, [.ref q_3])), (q_3, .inr (10, [.int 0, .ref z.1, .int 0]))] := hD
  refine lv_aload_n hx hb d_Chain_init_15 rfl (lv_at hl 0 rfl) ?_
  refine lv_sipush (v := 256) hx hb d_Chain_init_16 (by decide) ?_
  refine va_newq (C := "ChainLedger$Block") hx hb hown (hT _ k_75) (zz_N hZ).2.1 hK hP hD hS hA (by decide) (N' := 256) (by decide) (by decide) (Nat.le_of_ble_eq_true rfl) (Nat.le_of_ble_eq_true rfl) d_Chain_init_19 (fun q_4 e_5 H hK hP hD hS => ?_)
  have hK : va_K (dC, dI) cl_all [(e_5, .object "ChainLedger$Block")] s := hK
  have hP : va_P (dC, dI) cl_all [(h0, .inr (5, [.null, .null, .ref q_1, .null, .int 0, .int 0, .null, .null, .null, .null, .int 0, .null, .int 0, .null, .int 0, .int 0, .null])), (q_1, .inr (8, [.ref q_3])), (q_3, .inr (10, [.int 0, .ref z.1, .int 0])), (q_4, .inl (e_5, 256, .inr (.inr (.inr (.inr (fun _ => none))))))] H := hP
  have hD : va_D A [(h0, .inr (5, [.null, .null, .ref q_1, .null, .int 0, .int 0, .null, .null, .null, .null, .int 0, .null, .int 0, .null, .int 0, .int 0, .null])), (q_1, .inr (8, [.ref q_3])), (q_3, .inr (10, [.int 0, .ref z.1, .int 0])), (q_4, .inl (e_5, 256, .inr (.inr (.inr (.inr (fun _ => none))))))] := hD
  refine W.widen (k := 3) (n := 260) (Nat.le_of_ble_eq_true rfl) (Nat.le_of_ble_eq_true rfl) ?_
  refine va_putF (D := (dC, dI)) (ci := 5) (v := .ref q_4) (ty := .array (.object "ChainLedger$Block")) (C := R_Chain) (T := F_Chain) (N := 17) hx hb hT i_Chain t_Chain t_Chain_ok n_Chain hown hK hP hD hS 0 rfl rfl 3 (by decide) (hT _ k_76) (fun _ h9 => h9) rfl hin rfl (by decide +kernel) rfl rfl (Nat.le_of_ble_eq_true rfl) d_Chain_init_22 (fun H locs hP hD hS => ?_)
  have hP : va_P (dC, dI) cl_all [(h0, .inr (5, [.null, .null, .ref q_1, .ref q_4, .int 0, .int 0, .null, .null, .null, .null, .int 0, .null, .int 0, .null, .int 0, .int 0, .null])), (q_1, .inr (8, [.ref q_3])), (q_3, .inr (10, [.int 0, .ref z.1, .int 0])), (q_4, .inl (e_5, 256, .inr (.inr (.inr (.inr (fun _ => none))))))] H := hP
  have hD : va_D A [(h0, .inr (5, [.null, .null, .ref q_1, .ref q_4, .int 0, .int 0, .null, .null, .null, .null, .int 0, .null, .int 0, .null, .int 0, .int 0, .null])), (q_1, .inr (8, [.ref q_3])), (q_3, .inr (10, [.int 0, .ref z.1, .int 0])), (q_4, .inl (e_5, 256, .inr (.inr (.inr (.inr (fun _ => none))))))] := hD
  refine lv_aload_n hx hb d_Chain_init_25 rfl (lv_at hl 0 rfl) ?_
  refine va_new (ci := 10) (fs := [.int 0, .null, .int 0]) (C := R_AL) (T := F_AL) (N := 3) hx hb hT i_AL t_AL t_AL_ok hown (hT _ k_77) (hT _ k_26) (hT _ k_27) hK hP hD hS hA rfl (fun j hj => df_AL j hj) (Nat.le_of_ble_eq_true rfl) (Nat.le_of_ble_eq_true rfl) d_Chain_init_26 (fun q_6 H hP hD hS => ?_)
  have hP : va_P (dC, dI) cl_all [(h0, .inr (5, [.null, .null, .ref q_1, .ref q_4, .int 0, .int 0, .null, .null, .null, .null, .int 0, .null, .int 0, .null, .int 0, .int 0, .null])), (q_1, .inr (8, [.ref q_3])), (q_3, .inr (10, [.int 0, .ref z.1, .int 0])), (q_4, .inl (e_5, 256, .inr (.inr (.inr (.inr (fun _ => none)))))), (q_6, .inr (10, [.int 0, .null, .int 0]))] H := hP
  have hD : va_D A [(h0, .inr (5, [.null, .null, .ref q_1, .ref q_4, .int 0, .int 0, .null, .null, .null, .null, .int 0, .null, .int 0, .null, .int 0, .int 0, .null])), (q_1, .inr (8, [.ref q_3])), (q_3, .inr (10, [.int 0, .ref z.1, .int 0])), (q_4, .inl (e_5, 256, .inr (.inr (.inr (.inr (fun _ => none)))))), (q_6, .inr (10, [.int 0, .null, .int 0]))] := hD
  refine W.widen (k := 4) (n := 263) (Nat.le_of_ble_eq_true rfl) (Nat.le_of_ble_eq_true rfl) ?_
  refine lv_dup hx hb d_Chain_init_29 rfl ?_
  have hPc := hP.sub (ws' := [(q_6, .inr (10, [.int 0, .null, .int 0]))]) [4] rfl
  have hDc := hD.sub (ws' := [(q_6, .inr (10, [.int 0, .null, .int 0]))]) [4] (by decide) rfl
  have hKc := hK.sub (tys' := []) [] rfl
  have hFc := va_free (wc := [(q_6, .inr (10, [.int 0, .null, .int 0]))]) hD hS hA [4] rfl
  refine va_callv (va_runI (As := []) (rest := [.ref q_6, .ref h0]) ⟨hx, hb, hml, hown, hT⟩ (c_AL_init l dC dI z H.size q_6) (cwI 0 hT g_AL_init rfl rfl rfl (hT _ k_27) (hT _ k_78) (hT _ k_29) rfl (by decide +kernel) ⟨Nat.le_of_ble_eq_true rfl, Nat.le_of_ble_eq_true rfl⟩) (zz_pre hPc hKc hDc hZ hS hFc) rfl rfl hl.1 rfl (lv_room (Nat.le_of_ble_eq_true rfl)) d_Chain_init_30 ⟨Nat.le_of_ble_eq_true rfl, Nat.le_of_ble_eq_true rfl⟩) hS (fun q _ h => hFc q h) hFc (fun u t H1 locs ht hvm hw hB hz1 hk1 hS => ?_)
  obtain ⟨hP1, hK1, hD1⟩ := hB
  rw [ht] at hP1
  obtain ⟨hP, hD⟩ := va_join (wr := [(h0, .inr (5, [.null, .null, .ref q_1, .ref q_4, .int 0, .int 0, .null, .null, .null, .null, .int 0, .null, .int 0, .null, .int 0, .int 0, .null])), (q_1, .inr (8, [.ref q_3])), (q_3, .inr (10, [.int 0, .ref z.1, .int 0])), (q_4, .inl (e_5, 256, .inr (.inr (.inr (.inr (fun _ => none))))))]) (w1 := [(q_6, .inr (10, [.int 0, .ref z.1, .int 0]))]) hP hD [4] [0, 1, 2, 3] rfl rfl (by decide) (by decide) hk1 hFc hP1 hD1
  generalize H1 = H at hP hS ⊢
  have hP : va_P (dC, dI) cl_all [(h0, .inr (5, [.null, .null, .ref q_1, .ref q_4, .int 0, .int 0, .null, .null, .null, .null, .int 0, .null, .int 0, .null, .int 0, .int 0, .null])), (q_1, .inr (8, [.ref q_3])), (q_3, .inr (10, [.int 0, .ref z.1, .int 0])), (q_4, .inl (e_5, 256, .inr (.inr (.inr (.inr (fun _ => none)))))), (q_6, .inr (10, [.int 0, .ref z.1, .int 0]))] H := hP
  have hD : va_D A [(h0, .inr (5, [.null, .null, .ref q_1, .ref q_4, .int 0, .int 0, .null, .null, .null, .null, .int 0, .null, .int 0, .null, .int 0, .int 0, .null])), (q_1, .inr (8, [.ref q_3])), (q_3, .inr (10, [.int 0, .ref z.1, .int 0])), (q_4, .inl (e_5, 256, .inr (.inr (.inr (.inr (fun _ => none)))))), (q_6, .inr (10, [.int 0, .ref z.1, .int 0]))] := hD
  refine va_putF (D := (dC, dI)) (ci := 5) (v := .ref q_6) (ty := .object "java/util/ArrayList") (C := R_Chain) (T := F_Chain) (N := 17) hx hb hT i_Chain t_Chain t_Chain_ok n_Chain hown hK hP hD hS 0 rfl rfl 6 (by decide) (hT _ k_79) (fun _ h9 => h9) rfl hin rfl (by decide +kernel) rfl rfl (Nat.le_of_ble_eq_true rfl) d_Chain_init_33 (fun H locs hP hD hS => ?_)
  have hP : va_P (dC, dI) cl_all [(h0, .inr (5, [.null, .null, .ref q_1, .ref q_4, .int 0, .int 0, .ref q_6, .null, .null, .null, .int 0, .null, .int 0, .null, .int 0, .int 0, .null])), (q_1, .inr (8, [.ref q_3])), (q_3, .inr (10, [.int 0, .ref z.1, .int 0])), (q_4, .inl (e_5, 256, .inr (.inr (.inr (.inr (fun _ => none)))))), (q_6, .inr (10, [.int 0, .ref z.1, .int 0]))] H := hP
  have hD : va_D A [(h0, .inr (5, [.null, .null, .ref q_1, .ref q_4, .int 0, .int 0, .ref q_6, .null, .null, .null, .int 0, .null, .int 0, .null, .int 0, .int 0, .null])), (q_1, .inr (8, [.ref q_3])), (q_3, .inr (10, [.int 0, .ref z.1, .int 0])), (q_4, .inl (e_5, 256, .inr (.inr (.inr (.inr (fun _ => none)))))), (q_6, .inr (10, [.int 0, .ref z.1, .int 0]))] := hD
  refine lv_aload_n hx hb d_Chain_init_36 rfl (lv_at hl 0 rfl) ?_
  refine lv_sipush (v := 1024) hx hb d_Chain_init_37 (by decide) ?_
  refine va_newa (a0 := (1024, .inl (fun _ => 0))) hx hb (hT _ k_15) (ty := .byte) rfl hK hP hD hS hA (fun _ => rfl) (by decide) (N' := 1024) (by decide) (by decide) (Nat.le_of_ble_eq_true rfl) (Nat.le_of_ble_eq_true rfl) d_Chain_init_40 (fun q_8 e_9 H hK hP hD hS => ?_)
  have hK : va_K (dC, dI) cl_all [(e_5, .object "ChainLedger$Block"), (e_9, .byte)] s := hK
  have hP : va_P (dC, dI) cl_all [(h0, .inr (5, [.null, .null, .ref q_1, .ref q_4, .int 0, .int 0, .ref q_6, .null, .null, .null, .int 0, .null, .int 0, .null, .int 0, .int 0, .null])), (q_1, .inr (8, [.ref q_3])), (q_3, .inr (10, [.int 0, .ref z.1, .int 0])), (q_4, .inl (e_5, 256, .inr (.inr (.inr (.inr (fun _ => none)))))), (q_6, .inr (10, [.int 0, .ref z.1, .int 0])), (q_8, .inl (e_9, 1024, .inl (fun _ => 0)))] H := hP
  have hD : va_D A [(h0, .inr (5, [.null, .null, .ref q_1, .ref q_4, .int 0, .int 0, .ref q_6, .null, .null, .null, .int 0, .null, .int 0, .null, .int 0, .int 0, .null])), (q_1, .inr (8, [.ref q_3])), (q_3, .inr (10, [.int 0, .ref z.1, .int 0])), (q_4, .inl (e_5, 256, .inr (.inr (.inr (.inr (fun _ => none)))))), (q_6, .inr (10, [.int 0, .ref z.1, .int 0])), (q_8, .inl (e_9, 1024, .inl (fun _ => 0)))] := hD
  refine W.widen (k := 5) (n := 1287) (Nat.le_of_ble_eq_true rfl) (Nat.le_of_ble_eq_true rfl) ?_
  refine va_putF (D := (dC, dI)) (ci := 5) (v := .ref q_8) (ty := .array (.byte)) (C := R_Chain) (T := F_Chain) (N := 17) hx hb hT i_Chain t_Chain t_Chain_ok n_Chain hown hK hP hD hS 0 rfl rfl 8 (by decide) (hT _ k_80) (fun _ h9 => h9) rfl hin rfl (by decide +kernel) rfl rfl (Nat.le_of_ble_eq_true rfl) d_Chain_init_42 (fun H locs hP hD hS => ?_)
  have hP : va_P (dC, dI) cl_all [(h0, .inr (5, [.null, .null, .ref q_1, .ref q_4, .int 0, .int 0, .ref q_6, .null, .ref q_8, .null, .int 0, .null, .int 0, .null, .int 0, .int 0, .null])), (q_1, .inr (8, [.ref q_3])), (q_3, .inr (10, [.int 0, .ref z.1, .int 0])), (q_4, .inl (e_5, 256, .inr (.inr (.inr (.inr (fun _ => none)))))), (q_6, .inr (10, [.int 0, .ref z.1, .int 0])), (q_8, .inl (e_9, 1024, .inl (fun _ => 0)))] H := hP
  have hD : va_D A [(h0, .inr (5, [.null, .null, .ref q_1, .ref q_4, .int 0, .int 0, .ref q_6, .null, .ref q_8, .null, .int 0, .null, .int 0, .null, .int 0, .int 0, .null])), (q_1, .inr (8, [.ref q_3])), (q_3, .inr (10, [.int 0, .ref z.1, .int 0])), (q_4, .inl (e_5, 256, .inr (.inr (.inr (.inr (fun _ => none)))))), (q_6, .inr (10, [.int 0, .ref z.1, .int 0])), (q_8, .inl (e_9, 1024, .inl (fun _ => 0)))] := hD
  refine lv_aload_n hx hb d_Chain_init_45 rfl (lv_at hl 0 rfl) ?_
  refine lv_sipush (v := 256) hx hb d_Chain_init_46 (by decide) ?_
  refine va_newq (C := "ChainLedger$Block") hx hb hown (hT _ k_75) (zz_N hZ).2.1 hK hP hD hS hA (by decide) (N' := 256) (by decide) (by decide) (Nat.le_of_ble_eq_true rfl) (Nat.le_of_ble_eq_true rfl) d_Chain_init_49 (fun q_10 e_11 H hK hP hD hS => ?_)
  have hK : va_K (dC, dI) cl_all [(e_5, .object "ChainLedger$Block"), (e_9, .byte), (e_11, .object "ChainLedger$Block")] s := hK
  have hP : va_P (dC, dI) cl_all [(h0, .inr (5, [.null, .null, .ref q_1, .ref q_4, .int 0, .int 0, .ref q_6, .null, .ref q_8, .null, .int 0, .null, .int 0, .null, .int 0, .int 0, .null])), (q_1, .inr (8, [.ref q_3])), (q_3, .inr (10, [.int 0, .ref z.1, .int 0])), (q_4, .inl (e_5, 256, .inr (.inr (.inr (.inr (fun _ => none)))))), (q_6, .inr (10, [.int 0, .ref z.1, .int 0])), (q_8, .inl (e_9, 1024, .inl (fun _ => 0))), (q_10, .inl (e_11, 256, .inr (.inr (.inr (.inr (fun _ => none))))))] H := hP
  have hD : va_D A [(h0, .inr (5, [.null, .null, .ref q_1, .ref q_4, .int 0, .int 0, .ref q_6, .null, .ref q_8, .null, .int 0, .null, .int 0, .null, .int 0, .int 0, .null])), (q_1, .inr (8, [.ref q_3])), (q_3, .inr (10, [.int 0, .ref z.1, .int 0])), (q_4, .inl (e_5, 256, .inr (.inr (.inr (.inr (fun _ => none)))))), (q_6, .inr (10, [.int 0, .ref z.1, .int 0])), (q_8, .inl (e_9, 1024, .inl (fun _ => 0))), (q_10, .inl (e_11, 256, .inr (.inr (.inr (.inr (fun _ => none))))))] := hD
  refine W.widen (k := 6) (n := 1543) (Nat.le_of_ble_eq_true rfl) (Nat.le_of_ble_eq_true rfl) ?_
  refine va_putF (D := (dC, dI)) (ci := 5) (v := .ref q_10) (ty := .array (.object "ChainLedger$Block")) (C := R_Chain) (T := F_Chain) (N := 17) hx hb hT i_Chain t_Chain t_Chain_ok n_Chain hown hK hP hD hS 0 rfl rfl 9 (by decide) (hT _ k_81) (fun _ h9 => h9) rfl hin rfl (by decide +kernel) rfl rfl (Nat.le_of_ble_eq_true rfl) d_Chain_init_52 (fun H locs hP hD hS => ?_)
  have hP : va_P (dC, dI) cl_all [(h0, .inr (5, [.null, .null, .ref q_1, .ref q_4, .int 0, .int 0, .ref q_6, .null, .ref q_8, .ref q_10, .int 0, .null, .int 0, .null, .int 0, .int 0, .null])), (q_1, .inr (8, [.ref q_3])), (q_3, .inr (10, [.int 0, .ref z.1, .int 0])), (q_4, .inl (e_5, 256, .inr (.inr (.inr (.inr (fun _ => none)))))), (q_6, .inr (10, [.int 0, .ref z.1, .int 0])), (q_8, .inl (e_9, 1024, .inl (fun _ => 0))), (q_10, .inl (e_11, 256, .inr (.inr (.inr (.inr (fun _ => none))))))] H := hP
  have hD : va_D A [(h0, .inr (5, [.null, .null, .ref q_1, .ref q_4, .int 0, .int 0, .ref q_6, .null, .ref q_8, .ref q_10, .int 0, .null, .int 0, .null, .int 0, .int 0, .null])), (q_1, .inr (8, [.ref q_3])), (q_3, .inr (10, [.int 0, .ref z.1, .int 0])), (q_4, .inl (e_5, 256, .inr (.inr (.inr (.inr (fun _ => none)))))), (q_6, .inr (10, [.int 0, .ref z.1, .int 0])), (q_8, .inl (e_9, 1024, .inl (fun _ => 0))), (q_10, .inl (e_11, 256, .inr (.inr (.inr (.inr (fun _ => none))))))] := hD
  refine lv_aload_n hx hb d_Chain_init_55 rfl (lv_at hl 0 rfl) ?_
  refine lv_sipush (v := 256) hx hb d_Chain_init_56 (by decide) ?_
  refine va_newq (C := "ChainLedger$Block") hx hb hown (hT _ k_75) (zz_N hZ).2.1 hK hP hD hS hA (by decide) (N' := 256) (by decide) (by decide) (Nat.le_of_ble_eq_true rfl) (Nat.le_of_ble_eq_true rfl) d_Chain_init_59 (fun q_12 e_13 H hK hP hD hS => ?_)
  have hK : va_K (dC, dI) cl_all [(e_5, .object "ChainLedger$Block"), (e_9, .byte), (e_11, .object "ChainLedger$Block"), (e_13, .object "ChainLedger$Block")] s := hK
  have hP : va_P (dC, dI) cl_all [(h0, .inr (5, [.null, .null, .ref q_1, .ref q_4, .int 0, .int 0, .ref q_6, .null, .ref q_8, .ref q_10, .int 0, .null, .int 0, .null, .int 0, .int 0, .null])), (q_1, .inr (8, [.ref q_3])), (q_3, .inr (10, [.int 0, .ref z.1, .int 0])), (q_4, .inl (e_5, 256, .inr (.inr (.inr (.inr (fun _ => none)))))), (q_6, .inr (10, [.int 0, .ref z.1, .int 0])), (q_8, .inl (e_9, 1024, .inl (fun _ => 0))), (q_10, .inl (e_11, 256, .inr (.inr (.inr (.inr (fun _ => none)))))), (q_12, .inl (e_13, 256, .inr (.inr (.inr (.inr (fun _ => none))))))] H := hP
  have hD : va_D A [(h0, .inr (5, [.null, .null, .ref q_1, .ref q_4, .int 0, .int 0, .ref q_6, .null, .ref q_8, .ref q_10, .int 0, .null, .int 0, .null, .int 0, .int 0, .null])), (q_1, .inr (8, [.ref q_3])), (q_3, .inr (10, [.int 0, .ref z.1, .int 0])), (q_4, .inl (e_5, 256, .inr (.inr (.inr (.inr (fun _ => none)))))), (q_6, .inr (10, [.int 0, .ref z.1, .int 0])), (q_8, .inl (e_9, 1024, .inl (fun _ => 0))), (q_10, .inl (e_11, 256, .inr (.inr (.inr (.inr (fun _ => none)))))), (q_12, .inl (e_13, 256, .inr (.inr (.inr (.inr (fun _ => none))))))] := hD
  refine W.widen (k := 7) (n := 1799) (Nat.le_of_ble_eq_true rfl) (Nat.le_of_ble_eq_true rfl) ?_
  refine va_putF (D := (dC, dI)) (ci := 5) (v := .ref q_12) (ty := .array (.object "ChainLedger$Block")) (C := R_Chain) (T := F_Chain) (N := 17) hx hb hT i_Chain t_Chain t_Chain_ok n_Chain hown hK hP hD hS 0 rfl rfl 11 (by decide) (hT _ k_82) (fun _ h9 => h9) rfl hin rfl (by decide +kernel) rfl rfl (Nat.le_of_ble_eq_true rfl) d_Chain_init_62 (fun H locs hP hD hS => ?_)
  have hP : va_P (dC, dI) cl_all [(h0, .inr (5, [.null, .null, .ref q_1, .ref q_4, .int 0, .int 0, .ref q_6, .null, .ref q_8, .ref q_10, .int 0, .ref q_12, .int 0, .null, .int 0, .int 0, .null])), (q_1, .inr (8, [.ref q_3])), (q_3, .inr (10, [.int 0, .ref z.1, .int 0])), (q_4, .inl (e_5, 256, .inr (.inr (.inr (.inr (fun _ => none)))))), (q_6, .inr (10, [.int 0, .ref z.1, .int 0])), (q_8, .inl (e_9, 1024, .inl (fun _ => 0))), (q_10, .inl (e_11, 256, .inr (.inr (.inr (.inr (fun _ => none)))))), (q_12, .inl (e_13, 256, .inr (.inr (.inr (.inr (fun _ => none))))))] H := hP
  have hD : va_D A [(h0, .inr (5, [.null, .null, .ref q_1, .ref q_4, .int 0, .int 0, .ref q_6, .null, .ref q_8, .ref q_10, .int 0, .ref q_12, .int 0, .null, .int 0, .int 0, .null])), (q_1, .inr (8, [.ref q_3])), (q_3, .inr (10, [.int 0, .ref z.1, .int 0])), (q_4, .inl (e_5, 256, .inr (.inr (.inr (.inr (fun _ => none)))))), (q_6, .inr (10, [.int 0, .ref z.1, .int 0])), (q_8, .inl (e_9, 1024, .inl (fun _ => 0))), (q_10, .inl (e_11, 256, .inr (.inr (.inr (.inr (fun _ => none)))))), (q_12, .inl (e_13, 256, .inr (.inr (.inr (.inr (fun _ => none))))))] := hD
  refine lv_aload_n hx hb d_Chain_init_65 rfl (lv_at hl 0 rfl) ?_
  refine lv_bipush (v := 7) hx hb d_Chain_init_66 (by decide) ?_
  refine va_newa (a0 := (7, .inl (fun _ => 0))) hx hb (hT _ k_18) (ty := .int) rfl hK hP hD hS hA (fun _ => rfl) (by decide) (N' := 7) (by decide) (by decide) (Nat.le_of_ble_eq_true rfl) (Nat.le_of_ble_eq_true rfl) d_Chain_init_68 (fun q_14 e_15 H hK hP hD hS => ?_)
  have hK : va_K (dC, dI) cl_all [(e_5, .object "ChainLedger$Block"), (e_9, .byte), (e_11, .object "ChainLedger$Block"), (e_13, .object "ChainLedger$Block"), (e_15, .int)] s := hK
  have hP : va_P (dC, dI) cl_all [(h0, .inr (5, [.null, .null, .ref q_1, .ref q_4, .int 0, .int 0, .ref q_6, .null, .ref q_8, .ref q_10, .int 0, .ref q_12, .int 0, .null, .int 0, .int 0, .null])), (q_1, .inr (8, [.ref q_3])), (q_3, .inr (10, [.int 0, .ref z.1, .int 0])), (q_4, .inl (e_5, 256, .inr (.inr (.inr (.inr (fun _ => none)))))), (q_6, .inr (10, [.int 0, .ref z.1, .int 0])), (q_8, .inl (e_9, 1024, .inl (fun _ => 0))), (q_10, .inl (e_11, 256, .inr (.inr (.inr (.inr (fun _ => none)))))), (q_12, .inl (e_13, 256, .inr (.inr (.inr (.inr (fun _ => none)))))), (q_14, .inl (e_15, 7, .inl (fun _ => 0)))] H := hP
  have hD : va_D A [(h0, .inr (5, [.null, .null, .ref q_1, .ref q_4, .int 0, .int 0, .ref q_6, .null, .ref q_8, .ref q_10, .int 0, .ref q_12, .int 0, .null, .int 0, .int 0, .null])), (q_1, .inr (8, [.ref q_3])), (q_3, .inr (10, [.int 0, .ref z.1, .int 0])), (q_4, .inl (e_5, 256, .inr (.inr (.inr (.inr (fun _ => none)))))), (q_6, .inr (10, [.int 0, .ref z.1, .int 0])), (q_8, .inl (e_9, 1024, .inl (fun _ => 0))), (q_10, .inl (e_11, 256, .inr (.inr (.inr (.inr (fun _ => none)))))), (q_12, .inl (e_13, 256, .inr (.inr (.inr (.inr (fun _ => none)))))), (q_14, .inl (e_15, 7, .inl (fun _ => 0)))] := hD
  refine W.widen (k := 8) (n := 1806) (Nat.le_of_ble_eq_true rfl) (Nat.le_of_ble_eq_true rfl) ?_
  refine va_putF (D := (dC, dI)) (ci := 5) (v := .ref q_14) (ty := .array (.int)) (C := R_Chain) (T := F_Chain) (N := 17) hx hb hT i_Chain t_Chain t_Chain_ok n_Chain hown hK hP hD hS 0 rfl rfl 13 (by decide) (hT _ k_83) (fun _ h9 => h9) rfl hin rfl (by decide +kernel) rfl rfl (Nat.le_of_ble_eq_true rfl) d_Chain_init_70 (fun H locs hP hD hS => ?_)
  have hP : va_P (dC, dI) cl_all [(h0, .inr (5, [.null, .null, .ref q_1, .ref q_4, .int 0, .int 0, .ref q_6, .null, .ref q_8, .ref q_10, .int 0, .ref q_12, .int 0, .ref q_14, .int 0, .int 0, .null])), (q_1, .inr (8, [.ref q_3])), (q_3, .inr (10, [.int 0, .ref z.1, .int 0])), (q_4, .inl (e_5, 256, .inr (.inr (.inr (.inr (fun _ => none)))))), (q_6, .inr (10, [.int 0, .ref z.1, .int 0])), (q_8, .inl (e_9, 1024, .inl (fun _ => 0))), (q_10, .inl (e_11, 256, .inr (.inr (.inr (.inr (fun _ => none)))))), (q_12, .inl (e_13, 256, .inr (.inr (.inr (.inr (fun _ => none)))))), (q_14, .inl (e_15, 7, .inl (fun _ => 0)))] H := hP
  have hD : va_D A [(h0, .inr (5, [.null, .null, .ref q_1, .ref q_4, .int 0, .int 0, .ref q_6, .null, .ref q_8, .ref q_10, .int 0, .ref q_12, .int 0, .ref q_14, .int 0, .int 0, .null])), (q_1, .inr (8, [.ref q_3])), (q_3, .inr (10, [.int 0, .ref z.1, .int 0])), (q_4, .inl (e_5, 256, .inr (.inr (.inr (.inr (fun _ => none)))))), (q_6, .inr (10, [.int 0, .ref z.1, .int 0])), (q_8, .inl (e_9, 1024, .inl (fun _ => 0))), (q_10, .inl (e_11, 256, .inr (.inr (.inr (.inr (fun _ => none)))))), (q_12, .inl (e_13, 256, .inr (.inr (.inr (.inr (fun _ => none)))))), (q_14, .inl (e_15, 7, .inl (fun _ => 0)))] := hD
  refine lv_aload_n hx hb d_Chain_init_73 rfl (lv_at hl 0 rfl) ?_
  refine lv_aload_n hx hb d_Chain_init_74 rfl (lv_at hl 1 rfl) ?_
  refine va_putF (D := (dC, dI)) (ci := 5) (v := .ref h1) (ty := .object "ChainLedger$Sha") (C := R_Chain) (T := F_Chain) (N := 17) hx hb hT i_Chain t_Chain t_Chain_ok n_Chain hown hK hP hD hS 0 rfl rfl 0 (by decide) (hT _ k_84) (fun _ h9 => h9) rfl hin rfl (by decide +kernel) rfl rfl (Nat.le_of_ble_eq_true rfl) d_Chain_init_75 (fun H locs hP hD hS => ?_)
  have hP : va_P (dC, dI) cl_all [(h0, .inr (5, [.ref h1, .null, .ref q_1, .ref q_4, .int 0, .int 0, .ref q_6, .null, .ref q_8, .ref q_10, .int 0, .ref q_12, .int 0, .ref q_14, .int 0, .int 0, .null])), (q_1, .inr (8, [.ref q_3])), (q_3, .inr (10, [.int 0, .ref z.1, .int 0])), (q_4, .inl (e_5, 256, .inr (.inr (.inr (.inr (fun _ => none)))))), (q_6, .inr (10, [.int 0, .ref z.1, .int 0])), (q_8, .inl (e_9, 1024, .inl (fun _ => 0))), (q_10, .inl (e_11, 256, .inr (.inr (.inr (.inr (fun _ => none)))))), (q_12, .inl (e_13, 256, .inr (.inr (.inr (.inr (fun _ => none)))))), (q_14, .inl (e_15, 7, .inl (fun _ => 0)))] H := hP
  have hD : va_D A [(h0, .inr (5, [.ref h1, .null, .ref q_1, .ref q_4, .int 0, .int 0, .ref q_6, .null, .ref q_8, .ref q_10, .int 0, .ref q_12, .int 0, .ref q_14, .int 0, .int 0, .null])), (q_1, .inr (8, [.ref q_3])), (q_3, .inr (10, [.int 0, .ref z.1, .int 0])), (q_4, .inl (e_5, 256, .inr (.inr (.inr (.inr (fun _ => none)))))), (q_6, .inr (10, [.int 0, .ref z.1, .int 0])), (q_8, .inl (e_9, 1024, .inl (fun _ => 0))), (q_10, .inl (e_11, 256, .inr (.inr (.inr (.inr (fun _ => none)))))), (q_12, .inl (e_13, 256, .inr (.inr (.inr (.inr (fun _ => none)))))), (q_14, .inl (e_15, 7, .inl (fun _ => 0)))] := hD
  refine lv_aload_n hx hb d_Chain_init_78 rfl (lv_at hl 0 rfl) ?_
  refine lv_aload_n hx hb d_Chain_init_79 rfl (lv_at hl 2 rfl) ?_
  refine va_putF (D := (dC, dI)) (ci := 5) (v := .ref h2) (ty := .object "ChainLedger$Judge") (C := R_Chain) (T := F_Chain) (N := 17) hx hb hT i_Chain t_Chain t_Chain_ok n_Chain hown hK hP hD hS 0 rfl rfl 1 (by decide) (hT _ k_85) (fun _ h9 => h9) rfl hin rfl (by decide +kernel) rfl rfl (Nat.le_of_ble_eq_true rfl) d_Chain_init_80 (fun H locs hP hD hS => ?_)
  have hP : va_P (dC, dI) cl_all [(h0, .inr (5, [.ref h1, .ref h2, .ref q_1, .ref q_4, .int 0, .int 0, .ref q_6, .null, .ref q_8, .ref q_10, .int 0, .ref q_12, .int 0, .ref q_14, .int 0, .int 0, .null])), (q_1, .inr (8, [.ref q_3])), (q_3, .inr (10, [.int 0, .ref z.1, .int 0])), (q_4, .inl (e_5, 256, .inr (.inr (.inr (.inr (fun _ => none)))))), (q_6, .inr (10, [.int 0, .ref z.1, .int 0])), (q_8, .inl (e_9, 1024, .inl (fun _ => 0))), (q_10, .inl (e_11, 256, .inr (.inr (.inr (.inr (fun _ => none)))))), (q_12, .inl (e_13, 256, .inr (.inr (.inr (.inr (fun _ => none)))))), (q_14, .inl (e_15, 7, .inl (fun _ => 0)))] H := hP
  have hD : va_D A [(h0, .inr (5, [.ref h1, .ref h2, .ref q_1, .ref q_4, .int 0, .int 0, .ref q_6, .null, .ref q_8, .ref q_10, .int 0, .ref q_12, .int 0, .ref q_14, .int 0, .int 0, .null])), (q_1, .inr (8, [.ref q_3])), (q_3, .inr (10, [.int 0, .ref z.1, .int 0])), (q_4, .inl (e_5, 256, .inr (.inr (.inr (.inr (fun _ => none)))))), (q_6, .inr (10, [.int 0, .ref z.1, .int 0])), (q_8, .inl (e_9, 1024, .inl (fun _ => 0))), (q_10, .inl (e_11, 256, .inr (.inr (.inr (.inr (fun _ => none)))))), (q_12, .inl (e_13, 256, .inr (.inr (.inr (.inr (fun _ => none)))))), (q_14, .inl (e_15, 7, .inl (fun _ => 0)))] := hD
  refine va_new (ci := 6) (fs := [.null, .int 0, .null, .int 0, .int 0, .int 0, .null, .int 0, .null, .int 0, .int 0, .long 0, .int 0, .int 0, .int 0, .int 0, .null]) (C := R_Block) (T := F_Block) (N := 17) hx hb hT i_Block t_Block t_Block_ok hown (hT _ k_86) (hT _ k_87) (hT _ k_88) hK hP hD hS hA rfl (fun j hj => df_Block j hj) (Nat.le_of_ble_eq_true rfl) (Nat.le_of_ble_eq_true rfl) d_Chain_init_83 (fun q_16 H hP hD hS => ?_)
  have hP : va_P (dC, dI) cl_all [(h0, .inr (5, [.ref h1, .ref h2, .ref q_1, .ref q_4, .int 0, .int 0, .ref q_6, .null, .ref q_8, .ref q_10, .int 0, .ref q_12, .int 0, .ref q_14, .int 0, .int 0, .null])), (q_1, .inr (8, [.ref q_3])), (q_3, .inr (10, [.int 0, .ref z.1, .int 0])), (q_4, .inl (e_5, 256, .inr (.inr (.inr (.inr (fun _ => none)))))), (q_6, .inr (10, [.int 0, .ref z.1, .int 0])), (q_8, .inl (e_9, 1024, .inl (fun _ => 0))), (q_10, .inl (e_11, 256, .inr (.inr (.inr (.inr (fun _ => none)))))), (q_12, .inl (e_13, 256, .inr (.inr (.inr (.inr (fun _ => none)))))), (q_14, .inl (e_15, 7, .inl (fun _ => 0))), (q_16, .inr (6, [.null, .int 0, .null, .int 0, .int 0, .int 0, .null, .int 0, .null, .int 0, .int 0, .long 0, .int 0, .int 0, .int 0, .int 0, .null]))] H := hP
  have hD : va_D A [(h0, .inr (5, [.ref h1, .ref h2, .ref q_1, .ref q_4, .int 0, .int 0, .ref q_6, .null, .ref q_8, .ref q_10, .int 0, .ref q_12, .int 0, .ref q_14, .int 0, .int 0, .null])), (q_1, .inr (8, [.ref q_3])), (q_3, .inr (10, [.int 0, .ref z.1, .int 0])), (q_4, .inl (e_5, 256, .inr (.inr (.inr (.inr (fun _ => none)))))), (q_6, .inr (10, [.int 0, .ref z.1, .int 0])), (q_8, .inl (e_9, 1024, .inl (fun _ => 0))), (q_10, .inl (e_11, 256, .inr (.inr (.inr (.inr (fun _ => none)))))), (q_12, .inl (e_13, 256, .inr (.inr (.inr (.inr (fun _ => none)))))), (q_14, .inl (e_15, 7, .inl (fun _ => 0))), (q_16, .inr (6, [.null, .int 0, .null, .int 0, .int 0, .int 0, .null, .int 0, .null, .int 0, .int 0, .long 0, .int 0, .int 0, .int 0, .int 0, .null]))] := hD
  refine W.widen (k := 9) (n := 1823) (Nat.le_of_ble_eq_true rfl) (Nat.le_of_ble_eq_true rfl) ?_
  refine lv_dup hx hb d_Chain_init_86 rfl ?_
  have hPc := hP.sub (ws' := [(q_16, .inr (6, [.null, .int 0, .null, .int 0, .int 0, .int 0, .null, .int 0, .null, .int 0, .int 0, .long 0, .int 0, .int 0, .int 0, .int 0, .null]))]) [9] rfl
  have hDc := hD.sub (ws' := [(q_16, .inr (6, [.null, .int 0, .null, .int 0, .int 0, .int 0, .null, .int 0, .null, .int 0, .int 0, .long 0, .int 0, .int 0, .int 0, .int 0, .null]))]) [9] (by decide) rfl
  have hKc := hK.sub (tys' := []) [] rfl
  have hFc := va_free (wc := [(q_16, .inr (6, [.null, .int 0, .null, .int 0, .int 0, .int 0, .null, .int 0, .null, .int 0, .int 0, .long 0, .int 0, .int 0, .int 0, .int 0, .null]))]) hD hS hA [9] rfl
  refine va_callv (va_runIN (As := []) (rest := [.ref q_16]) ⟨hx, hb, hml, hown, hT⟩ (c_Block_init l dC dI z H.size q_16) ⟨va_cnB (host := "ChainLedger") 0 hT g_Block_init rfl rfl rfl (zn_k_89 (zz_N hZ)) (hT _ k_88) (by decide +kernel) ⟨Nat.le_of_ble_eq_true rfl, Nat.le_of_ble_eq_true rfl⟩, rfl, (hT _ k_90)⟩ (zz_pre hPc hKc hDc hZ hS hFc) rfl rfl hl.1 rfl (lv_room (Nat.le_of_ble_eq_true rfl)) d_Chain_init_87 ⟨Nat.le_of_ble_eq_true rfl, Nat.le_of_ble_eq_true rfl⟩) hS (fun q _ h => hFc q h) hFc (fun u t H1 locs ht hvm hw hB hz1 hk1 hS => ?_)
  obtain ⟨q_18, q_19, q_20, e_21, hP1, hK1, hD1⟩ := hB
  rw [ht] at hP1
  have hK := hK.app (va_K.moved hvm.symm hK1)
  have hK : va_K (dC, dI) cl_all [(e_5, .object "ChainLedger$Block"), (e_9, .byte), (e_11, .object "ChainLedger$Block"), (e_13, .object "ChainLedger$Block"), (e_15, .int), (e_21, .byte)] s := hK
  obtain ⟨hP, hD⟩ := va_join (wr := [(h0, .inr (5, [.ref h1, .ref h2, .ref q_1, .ref q_4, .int 0, .int 0, .ref q_6, .null, .ref q_8, .ref q_10, .int 0, .ref q_12, .int 0, .ref q_14, .int 0, .int 0, .null])), (q_1, .inr (8, [.ref q_3])), (q_3, .inr (10, [.int 0, .ref z.1, .int 0])), (q_4, .inl (e_5, 256, .inr (.inr (.inr (.inr (fun _ => none)))))), (q_6, .inr (10, [.int 0, .ref z.1, .int 0])), (q_8, .inl (e_9, 1024, .inl (fun _ => 0))), (q_10, .inl (e_11, 256, .inr (.inr (.inr (.inr (fun _ => none)))))), (q_12, .inl (e_13, 256, .inr (.inr (.inr (.inr (fun _ => none)))))), (q_14, .inl (e_15, 7, .inl (fun _ => 0)))]) (w1 := [(q_16, .inr (6, [.null, .int 0, .ref q_18, .int 0, .int 0, .int 0, .ref q_19, .int 0, .null, .int 0, .int 0, .long 0, .int 0, .int 0, .int 0, .int 0, .ref q_20])), (q_18, .inl (e_21, 32, .inl (fun _ => 0)))]) hP hD [9] [0, 1, 2, 3, 4, 5, 6, 7, 8] rfl rfl (by decide) (by decide) hk1 hFc hP1 hD1
  generalize H1 = H at hP hS ⊢
  have hP : va_P (dC, dI) cl_all [(h0, .inr (5, [.ref h1, .ref h2, .ref q_1, .ref q_4, .int 0, .int 0, .ref q_6, .null, .ref q_8, .ref q_10, .int 0, .ref q_12, .int 0, .ref q_14, .int 0, .int 0, .null])), (q_1, .inr (8, [.ref q_3])), (q_3, .inr (10, [.int 0, .ref z.1, .int 0])), (q_4, .inl (e_5, 256, .inr (.inr (.inr (.inr (fun _ => none)))))), (q_6, .inr (10, [.int 0, .ref z.1, .int 0])), (q_8, .inl (e_9, 1024, .inl (fun _ => 0))), (q_10, .inl (e_11, 256, .inr (.inr (.inr (.inr (fun _ => none)))))), (q_12, .inl (e_13, 256, .inr (.inr (.inr (.inr (fun _ => none)))))), (q_14, .inl (e_15, 7, .inl (fun _ => 0))), (q_16, .inr (6, [.null, .int 0, .ref q_18, .int 0, .int 0, .int 0, .ref q_19, .int 0, .null, .int 0, .int 0, .long 0, .int 0, .int 0, .int 0, .int 0, .ref q_20])), (q_18, .inl (e_21, 32, .inl (fun _ => 0)))] H := hP
  have hD : va_D A [(h0, .inr (5, [.ref h1, .ref h2, .ref q_1, .ref q_4, .int 0, .int 0, .ref q_6, .null, .ref q_8, .ref q_10, .int 0, .ref q_12, .int 0, .ref q_14, .int 0, .int 0, .null])), (q_1, .inr (8, [.ref q_3])), (q_3, .inr (10, [.int 0, .ref z.1, .int 0])), (q_4, .inl (e_5, 256, .inr (.inr (.inr (.inr (fun _ => none)))))), (q_6, .inr (10, [.int 0, .ref z.1, .int 0])), (q_8, .inl (e_9, 1024, .inl (fun _ => 0))), (q_10, .inl (e_11, 256, .inr (.inr (.inr (.inr (fun _ => none)))))), (q_12, .inl (e_13, 256, .inr (.inr (.inr (.inr (fun _ => none)))))), (q_14, .inl (e_15, 7, .inl (fun _ => 0))), (q_16, .inr (6, [.null, .int 0, .ref q_18, .int 0, .int 0, .int 0, .ref q_19, .int 0, .null, .int 0, .int 0, .long 0, .int 0, .int 0, .int 0, .int 0, .ref q_20])), (q_18, .inl (e_21, 32, .inl (fun _ => 0)))] := hD
  refine W.widen (k := 12) (n := 1890) (Nat.le_of_ble_eq_true rfl) (Nat.le_of_ble_eq_true rfl) ?_
  refine lv_astore_n (lv' := [(3, .ref q_16), (0, .ref h0), (1, .ref h1), (2, .ref h2)]) hx hb d_Chain_init_90 rfl hl (by decide) rfl (fun ls hl => ?_)
  refine lv_aload_n hx hb d_Chain_init_91 rfl (lv_at hl 0 rfl) ?_
  refine lv_ldc hx hb hown (hT _ k_91) d_Chain_init_92 ?_
  refine va_put (D := (dC, dI)) (ci := 6) (v := .int 32768) (ty := .int) (C := R_Block) (T := F_Block) (N := 17) hx hb hT i_Block t_Block t_Block_ok n_Block hown hK hP hD hS 9 rfl rfl 4 (by decide) (hT _ k_92) (fun _ h9 => h9) rfl (by decide +kernel) rfl rfl (Nat.le_of_ble_eq_true rfl) d_Chain_init_94 (fun H locs hP hD hS => ?_)
  have hP : va_P (dC, dI) cl_all [(h0, .inr (5, [.ref h1, .ref h2, .ref q_1, .ref q_4, .int 0, .int 0, .ref q_6, .null, .ref q_8, .ref q_10, .int 0, .ref q_12, .int 0, .ref q_14, .int 0, .int 0, .null])), (q_1, .inr (8, [.ref q_3])), (q_3, .inr (10, [.int 0, .ref z.1, .int 0])), (q_4, .inl (e_5, 256, .inr (.inr (.inr (.inr (fun _ => none)))))), (q_6, .inr (10, [.int 0, .ref z.1, .int 0])), (q_8, .inl (e_9, 1024, .inl (fun _ => 0))), (q_10, .inl (e_11, 256, .inr (.inr (.inr (.inr (fun _ => none)))))), (q_12, .inl (e_13, 256, .inr (.inr (.inr (.inr (fun _ => none)))))), (q_14, .inl (e_15, 7, .inl (fun _ => 0))), (q_16, .inr (6, [.null, .int 0, .ref q_18, .int 0, .int 32768, .int 0, .ref q_19, .int 0, .null, .int 0, .int 0, .long 0, .int 0, .int 0, .int 0, .int 0, .ref q_20])), (q_18, .inl (e_21, 32, .inl (fun _ => 0)))] H := hP
  have hD : va_D A [(h0, .inr (5, [.ref h1, .ref h2, .ref q_1, .ref q_4, .int 0, .int 0, .ref q_6, .null, .ref q_8, .ref q_10, .int 0, .ref q_12, .int 0, .ref q_14, .int 0, .int 0, .null])), (q_1, .inr (8, [.ref q_3])), (q_3, .inr (10, [.int 0, .ref z.1, .int 0])), (q_4, .inl (e_5, 256, .inr (.inr (.inr (.inr (fun _ => none)))))), (q_6, .inr (10, [.int 0, .ref z.1, .int 0])), (q_8, .inl (e_9, 1024, .inl (fun _ => 0))), (q_10, .inl (e_11, 256, .inr (.inr (.inr (.inr (fun _ => none)))))), (q_12, .inl (e_13, 256, .inr (.inr (.inr (.inr (fun _ => none)))))), (q_14, .inl (e_15, 7, .inl (fun _ => 0))), (q_16, .inr (6, [.null, .int 0, .ref q_18, .int 0, .int 32768, .int 0, .ref q_19, .int 0, .null, .int 0, .int 0, .long 0, .int 0, .int 0, .int 0, .int 0, .ref q_20])), (q_18, .inl (e_21, 32, .inl (fun _ => 0)))] := hD
  refine lv_aload_n hx hb d_Chain_init_97 rfl (lv_at hl 0 rfl) ?_
  refine lv_iconst (v := 1) hx hb d_Chain_init_98 (by decide) ?_
  refine va_put (D := (dC, dI)) (ci := 6) (v := .int 1) (ty := .boolean) (C := R_Block) (T := F_Block) (N := 17) hx hb hT i_Block t_Block t_Block_ok n_Block hown hK hP hD hS 9 rfl rfl 12 (by decide) (hT _ k_93) (fun _ h9 => h9) rfl (by decide +kernel) (by decide) (by decide) (Nat.le_of_ble_eq_true rfl) d_Chain_init_99 (fun H locs hP hD hS => ?_)
  have hP : va_P (dC, dI) cl_all [(h0, .inr (5, [.ref h1, .ref h2, .ref q_1, .ref q_4, .int 0, .int 0, .ref q_6, .null, .ref q_8, .ref q_10, .int 0, .ref q_12, .int 0, .ref q_14, .int 0, .int 0, .null])), (q_1, .inr (8, [.ref q_3])), (q_3, .inr (10, [.int 0, .ref z.1, .int 0])), (q_4, .inl (e_5, 256, .inr (.inr (.inr (.inr (fun _ => none)))))), (q_6, .inr (10, [.int 0, .ref z.1, .int 0])), (q_8, .inl (e_9, 1024, .inl (fun _ => 0))), (q_10, .inl (e_11, 256, .inr (.inr (.inr (.inr (fun _ => none)))))), (q_12, .inl (e_13, 256, .inr (.inr (.inr (.inr (fun _ => none)))))), (q_14, .inl (e_15, 7, .inl (fun _ => 0))), (q_16, .inr (6, [.null, .int 0, .ref q_18, .int 0, .int 32768, .int 0, .ref q_19, .int 0, .null, .int 0, .int 0, .long 0, .int 1, .int 0, .int 0, .int 0, .ref q_20])), (q_18, .inl (e_21, 32, .inl (fun _ => 0)))] H := hP
  have hD : va_D A [(h0, .inr (5, [.ref h1, .ref h2, .ref q_1, .ref q_4, .int 0, .int 0, .ref q_6, .null, .ref q_8, .ref q_10, .int 0, .ref q_12, .int 0, .ref q_14, .int 0, .int 0, .null])), (q_1, .inr (8, [.ref q_3])), (q_3, .inr (10, [.int 0, .ref z.1, .int 0])), (q_4, .inl (e_5, 256, .inr (.inr (.inr (.inr (fun _ => none)))))), (q_6, .inr (10, [.int 0, .ref z.1, .int 0])), (q_8, .inl (e_9, 1024, .inl (fun _ => 0))), (q_10, .inl (e_11, 256, .inr (.inr (.inr (.inr (fun _ => none)))))), (q_12, .inl (e_13, 256, .inr (.inr (.inr (.inr (fun _ => none)))))), (q_14, .inl (e_15, 7, .inl (fun _ => 0))), (q_16, .inr (6, [.null, .int 0, .ref q_18, .int 0, .int 32768, .int 0, .ref q_19, .int 0, .null, .int 0, .int 0, .long 0, .int 1, .int 0, .int 0, .int 0, .ref q_20])), (q_18, .inl (e_21, 32, .inl (fun _ => 0)))] := hD
  refine lv_aload_n hx hb d_Chain_init_102 rfl (lv_at hl 0 rfl) ?_
  refine lv_iconst (v := 1) hx hb d_Chain_init_103 (by decide) ?_
  refine va_put (D := (dC, dI)) (ci := 6) (v := .int 1) (ty := .boolean) (C := R_Block) (T := F_Block) (N := 17) hx hb hT i_Block t_Block t_Block_ok n_Block hown hK hP hD hS 9 rfl rfl 14 (by decide) (hT _ k_94) (fun _ h9 => h9) rfl (by decide +kernel) (by decide) (by decide) (Nat.le_of_ble_eq_true rfl) d_Chain_init_104 (fun H locs hP hD hS => ?_)
  have hP : va_P (dC, dI) cl_all [(h0, .inr (5, [.ref h1, .ref h2, .ref q_1, .ref q_4, .int 0, .int 0, .ref q_6, .null, .ref q_8, .ref q_10, .int 0, .ref q_12, .int 0, .ref q_14, .int 0, .int 0, .null])), (q_1, .inr (8, [.ref q_3])), (q_3, .inr (10, [.int 0, .ref z.1, .int 0])), (q_4, .inl (e_5, 256, .inr (.inr (.inr (.inr (fun _ => none)))))), (q_6, .inr (10, [.int 0, .ref z.1, .int 0])), (q_8, .inl (e_9, 1024, .inl (fun _ => 0))), (q_10, .inl (e_11, 256, .inr (.inr (.inr (.inr (fun _ => none)))))), (q_12, .inl (e_13, 256, .inr (.inr (.inr (.inr (fun _ => none)))))), (q_14, .inl (e_15, 7, .inl (fun _ => 0))), (q_16, .inr (6, [.null, .int 0, .ref q_18, .int 0, .int 32768, .int 0, .ref q_19, .int 0, .null, .int 0, .int 0, .long 0, .int 1, .int 0, .int 1, .int 0, .ref q_20])), (q_18, .inl (e_21, 32, .inl (fun _ => 0)))] H := hP
  have hD : va_D A [(h0, .inr (5, [.ref h1, .ref h2, .ref q_1, .ref q_4, .int 0, .int 0, .ref q_6, .null, .ref q_8, .ref q_10, .int 0, .ref q_12, .int 0, .ref q_14, .int 0, .int 0, .null])), (q_1, .inr (8, [.ref q_3])), (q_3, .inr (10, [.int 0, .ref z.1, .int 0])), (q_4, .inl (e_5, 256, .inr (.inr (.inr (.inr (fun _ => none)))))), (q_6, .inr (10, [.int 0, .ref z.1, .int 0])), (q_8, .inl (e_9, 1024, .inl (fun _ => 0))), (q_10, .inl (e_11, 256, .inr (.inr (.inr (.inr (fun _ => none)))))), (q_12, .inl (e_13, 256, .inr (.inr (.inr (.inr (fun _ => none)))))), (q_14, .inl (e_15, 7, .inl (fun _ => 0))), (q_16, .inr (6, [.null, .int 0, .ref q_18, .int 0, .int 32768, .int 0, .ref q_19, .int 0, .null, .int 0, .int 0, .long 0, .int 1, .int 0, .int 1, .int 0, .ref q_20])), (q_18, .inl (e_21, 32, .inl (fun _ => 0)))] := hD
  refine lv_aload_n hx hb d_Chain_init_107 rfl (lv_at hl 1 rfl) ?_
  refine va_get (D := (dC, dI)) (ci := 5) (v := .ref q_4) (C := R_Chain) (T := F_Chain) (N := 17) hx hb hT i_Chain hown hK hP 0 rfl rfl 3 (by decide) (hT _ k_76) (fun _ h9 => h9) rfl d_Chain_init_108 ?_
  refine lv_iconst (v := 0) hx hb d_Chain_init_111 (by decide) ?_
  refine lv_aload_n hx hb d_Chain_init_112 rfl (lv_at hl 0 rfl) ?_
  refine va_astq hx hb hK hP hD hS 3 0 9 6 rfl rfl rfl rfl (by unfold vp_in; decide) d_Chain_init_113 (fun H locs hP hD hS => ?_)
  have hP : va_P (dC, dI) cl_all [(h0, .inr (5, [.ref h1, .ref h2, .ref q_1, .ref q_4, .int 0, .int 0, .ref q_6, .null, .ref q_8, .ref q_10, .int 0, .ref q_12, .int 0, .ref q_14, .int 0, .int 0, .null])), (q_1, .inr (8, [.ref q_3])), (q_3, .inr (10, [.int 0, .ref z.1, .int 0])), (q_4, .inl (e_5, 256, .inr (.inr (.inr (.inr (va_up (fun _ => none) (0 : Int32).toNatClampNeg (some q_16))))))), (q_6, .inr (10, [.int 0, .ref z.1, .int 0])), (q_8, .inl (e_9, 1024, .inl (fun _ => 0))), (q_10, .inl (e_11, 256, .inr (.inr (.inr (.inr (fun _ => none)))))), (q_12, .inl (e_13, 256, .inr (.inr (.inr (.inr (fun _ => none)))))), (q_14, .inl (e_15, 7, .inl (fun _ => 0))), (q_16, .inr (6, [.null, .int 0, .ref q_18, .int 0, .int 32768, .int 0, .ref q_19, .int 0, .null, .int 0, .int 0, .long 0, .int 1, .int 0, .int 1, .int 0, .ref q_20])), (q_18, .inl (e_21, 32, .inl (fun _ => 0)))] H := hP
  have hD : va_D A [(h0, .inr (5, [.ref h1, .ref h2, .ref q_1, .ref q_4, .int 0, .int 0, .ref q_6, .null, .ref q_8, .ref q_10, .int 0, .ref q_12, .int 0, .ref q_14, .int 0, .int 0, .null])), (q_1, .inr (8, [.ref q_3])), (q_3, .inr (10, [.int 0, .ref z.1, .int 0])), (q_4, .inl (e_5, 256, .inr (.inr (.inr (.inr (va_up (fun _ => none) (0 : Int32).toNatClampNeg (some q_16))))))), (q_6, .inr (10, [.int 0, .ref z.1, .int 0])), (q_8, .inl (e_9, 1024, .inl (fun _ => 0))), (q_10, .inl (e_11, 256, .inr (.inr (.inr (.inr (fun _ => none)))))), (q_12, .inl (e_13, 256, .inr (.inr (.inr (.inr (fun _ => none)))))), (q_14, .inl (e_15, 7, .inl (fun _ => 0))), (q_16, .inr (6, [.null, .int 0, .ref q_18, .int 0, .int 32768, .int 0, .ref q_19, .int 0, .null, .int 0, .int 0, .long 0, .int 1, .int 0, .int 1, .int 0, .ref q_20])), (q_18, .inl (e_21, 32, .inl (fun _ => 0)))] := hD
  refine lv_aload_n hx hb d_Chain_init_114 rfl (lv_at hl 1 rfl) ?_
  refine lv_iconst (v := 1) hx hb d_Chain_init_115 (by decide) ?_
  refine va_put (D := (dC, dI)) (ci := 5) (v := .int 1) (ty := .int) (C := R_Chain) (T := F_Chain) (N := 17) hx hb hT i_Chain t_Chain t_Chain_ok n_Chain hown hK hP hD hS 0 rfl rfl 4 (by decide) (hT _ k_95) (fun _ h9 => h9) rfl (by decide +kernel) rfl rfl (Nat.le_of_ble_eq_true rfl) d_Chain_init_116 (fun H locs hP hD hS => ?_)
  have hP : va_P (dC, dI) cl_all [(h0, .inr (5, [.ref h1, .ref h2, .ref q_1, .ref q_4, .int 1, .int 0, .ref q_6, .null, .ref q_8, .ref q_10, .int 0, .ref q_12, .int 0, .ref q_14, .int 0, .int 0, .null])), (q_1, .inr (8, [.ref q_3])), (q_3, .inr (10, [.int 0, .ref z.1, .int 0])), (q_4, .inl (e_5, 256, .inr (.inr (.inr (.inr (va_up (fun _ => none) (0 : Int32).toNatClampNeg (some q_16))))))), (q_6, .inr (10, [.int 0, .ref z.1, .int 0])), (q_8, .inl (e_9, 1024, .inl (fun _ => 0))), (q_10, .inl (e_11, 256, .inr (.inr (.inr (.inr (fun _ => none)))))), (q_12, .inl (e_13, 256, .inr (.inr (.inr (.inr (fun _ => none)))))), (q_14, .inl (e_15, 7, .inl (fun _ => 0))), (q_16, .inr (6, [.null, .int 0, .ref q_18, .int 0, .int 32768, .int 0, .ref q_19, .int 0, .null, .int 0, .int 0, .long 0, .int 1, .int 0, .int 1, .int 0, .ref q_20])), (q_18, .inl (e_21, 32, .inl (fun _ => 0)))] H := hP
  have hD : va_D A [(h0, .inr (5, [.ref h1, .ref h2, .ref q_1, .ref q_4, .int 1, .int 0, .ref q_6, .null, .ref q_8, .ref q_10, .int 0, .ref q_12, .int 0, .ref q_14, .int 0, .int 0, .null])), (q_1, .inr (8, [.ref q_3])), (q_3, .inr (10, [.int 0, .ref z.1, .int 0])), (q_4, .inl (e_5, 256, .inr (.inr (.inr (.inr (va_up (fun _ => none) (0 : Int32).toNatClampNeg (some q_16))))))), (q_6, .inr (10, [.int 0, .ref z.1, .int 0])), (q_8, .inl (e_9, 1024, .inl (fun _ => 0))), (q_10, .inl (e_11, 256, .inr (.inr (.inr (.inr (fun _ => none)))))), (q_12, .inl (e_13, 256, .inr (.inr (.inr (.inr (fun _ => none)))))), (q_14, .inl (e_15, 7, .inl (fun _ => 0))), (q_16, .inr (6, [.null, .int 0, .ref q_18, .int 0, .int 32768, .int 0, .ref q_19, .int 0, .null, .int 0, .int 0, .long 0, .int 1, .int 0, .int 1, .int 0, .ref q_20])), (q_18, .inl (e_21, 32, .inl (fun _ => 0)))] := hD
  refine lv_aload_n hx hb d_Chain_init_119 rfl (lv_at hl 1 rfl) ?_
  refine lv_iconst (v := 1) hx hb d_Chain_init_120 (by decide) ?_
  refine va_put (D := (dC, dI)) (ci := 5) (v := .int 1) (ty := .int) (C := R_Chain) (T := F_Chain) (N := 17) hx hb hT i_Chain t_Chain t_Chain_ok n_Chain hown hK hP hD hS 0 rfl rfl 15 (by decide) (hT _ k_96) (fun _ h9 => h9) rfl (by decide +kernel) rfl rfl (Nat.le_of_ble_eq_true rfl) d_Chain_init_121 (fun H locs hP hD hS => ?_)
  have hP : va_P (dC, dI) cl_all [(h0, .inr (5, [.ref h1, .ref h2, .ref q_1, .ref q_4, .int 1, .int 0, .ref q_6, .null, .ref q_8, .ref q_10, .int 0, .ref q_12, .int 0, .ref q_14, .int 0, .int 1, .null])), (q_1, .inr (8, [.ref q_3])), (q_3, .inr (10, [.int 0, .ref z.1, .int 0])), (q_4, .inl (e_5, 256, .inr (.inr (.inr (.inr (va_up (fun _ => none) (0 : Int32).toNatClampNeg (some q_16))))))), (q_6, .inr (10, [.int 0, .ref z.1, .int 0])), (q_8, .inl (e_9, 1024, .inl (fun _ => 0))), (q_10, .inl (e_11, 256, .inr (.inr (.inr (.inr (fun _ => none)))))), (q_12, .inl (e_13, 256, .inr (.inr (.inr (.inr (fun _ => none)))))), (q_14, .inl (e_15, 7, .inl (fun _ => 0))), (q_16, .inr (6, [.null, .int 0, .ref q_18, .int 0, .int 32768, .int 0, .ref q_19, .int 0, .null, .int 0, .int 0, .long 0, .int 1, .int 0, .int 1, .int 0, .ref q_20])), (q_18, .inl (e_21, 32, .inl (fun _ => 0)))] H := hP
  have hD : va_D A [(h0, .inr (5, [.ref h1, .ref h2, .ref q_1, .ref q_4, .int 1, .int 0, .ref q_6, .null, .ref q_8, .ref q_10, .int 0, .ref q_12, .int 0, .ref q_14, .int 0, .int 1, .null])), (q_1, .inr (8, [.ref q_3])), (q_3, .inr (10, [.int 0, .ref z.1, .int 0])), (q_4, .inl (e_5, 256, .inr (.inr (.inr (.inr (va_up (fun _ => none) (0 : Int32).toNatClampNeg (some q_16))))))), (q_6, .inr (10, [.int 0, .ref z.1, .int 0])), (q_8, .inl (e_9, 1024, .inl (fun _ => 0))), (q_10, .inl (e_11, 256, .inr (.inr (.inr (.inr (fun _ => none)))))), (q_12, .inl (e_13, 256, .inr (.inr (.inr (.inr (fun _ => none)))))), (q_14, .inl (e_15, 7, .inl (fun _ => 0))), (q_16, .inr (6, [.null, .int 0, .ref q_18, .int 0, .int 32768, .int 0, .ref q_19, .int 0, .null, .int 0, .int 0, .long 0, .int 1, .int 0, .int 1, .int 0, .ref q_20])), (q_18, .inl (e_21, 32, .inl (fun _ => 0)))] := hD
  refine lv_aload_n hx hb d_Chain_init_124 rfl (lv_at hl 1 rfl) ?_
  refine lv_aload_n hx hb d_Chain_init_125 rfl (lv_at hl 0 rfl) ?_
  refine va_put (D := (dC, dI)) (ci := 5) (v := .ref q_16) (ty := .object "ChainLedger$Block") (C := R_Chain) (T := F_Chain) (N := 17) hx hb hT i_Chain t_Chain t_Chain_ok n_Chain hown hK hP hD hS 0 rfl rfl 7 (by decide) (hT _ k_97) (fun _ h9 => h9) rfl (by decide +kernel) rfl rfl (Nat.le_of_ble_eq_true rfl) d_Chain_init_126 (fun H locs hP hD hS => ?_)
  have hP : va_P (dC, dI) cl_all [(h0, .inr (5, [.ref h1, .ref h2, .ref q_1, .ref q_4, .int 1, .int 0, .ref q_6, .ref q_16, .ref q_8, .ref q_10, .int 0, .ref q_12, .int 0, .ref q_14, .int 0, .int 1, .null])), (q_1, .inr (8, [.ref q_3])), (q_3, .inr (10, [.int 0, .ref z.1, .int 0])), (q_4, .inl (e_5, 256, .inr (.inr (.inr (.inr (va_up (fun _ => none) (0 : Int32).toNatClampNeg (some q_16))))))), (q_6, .inr (10, [.int 0, .ref z.1, .int 0])), (q_8, .inl (e_9, 1024, .inl (fun _ => 0))), (q_10, .inl (e_11, 256, .inr (.inr (.inr (.inr (fun _ => none)))))), (q_12, .inl (e_13, 256, .inr (.inr (.inr (.inr (fun _ => none)))))), (q_14, .inl (e_15, 7, .inl (fun _ => 0))), (q_16, .inr (6, [.null, .int 0, .ref q_18, .int 0, .int 32768, .int 0, .ref q_19, .int 0, .null, .int 0, .int 0, .long 0, .int 1, .int 0, .int 1, .int 0, .ref q_20])), (q_18, .inl (e_21, 32, .inl (fun _ => 0)))] H := hP
  have hD : va_D A [(h0, .inr (5, [.ref h1, .ref h2, .ref q_1, .ref q_4, .int 1, .int 0, .ref q_6, .ref q_16, .ref q_8, .ref q_10, .int 0, .ref q_12, .int 0, .ref q_14, .int 0, .int 1, .null])), (q_1, .inr (8, [.ref q_3])), (q_3, .inr (10, [.int 0, .ref z.1, .int 0])), (q_4, .inl (e_5, 256, .inr (.inr (.inr (.inr (va_up (fun _ => none) (0 : Int32).toNatClampNeg (some q_16))))))), (q_6, .inr (10, [.int 0, .ref z.1, .int 0])), (q_8, .inl (e_9, 1024, .inl (fun _ => 0))), (q_10, .inl (e_11, 256, .inr (.inr (.inr (.inr (fun _ => none)))))), (q_12, .inl (e_13, 256, .inr (.inr (.inr (.inr (fun _ => none)))))), (q_14, .inl (e_15, 7, .inl (fun _ => 0))), (q_16, .inr (6, [.null, .int 0, .ref q_18, .int 0, .int 32768, .int 0, .ref q_19, .int 0, .null, .int 0, .int 0, .long 0, .int 1, .int 0, .int 1, .int 0, .ref q_20])), (q_18, .inl (e_21, 32, .inl (fun _ => 0)))] := hD
  have hP9 := hP.sub (ws' := [(h0, .inr (5, [.ref h1, .ref h2, .ref q_1, .ref q_4, .int 1, .int 0, .ref q_6, .ref q_16, .ref q_8, .ref q_10, .int 0, .ref q_12, .int 0, .ref q_14, .int 0, .int 1, .null])), (q_1, .inr (8, [.ref q_3])), (q_3, .inr (10, [.int 0, .ref z.1, .int 0])), (q_4, .inl (e_5, 256, .inr (.inr (.inr (.inr (va_up (fun _ => none) (0 : Int32).toNatClampNeg (some q_16))))))), (q_6, .inr (10, [.int 0, .ref z.1, .int 0])), (q_8, .inl (e_9, 1024, .inl (fun _ => 0))), (q_16, .inr (6, [.null, .int 0, .ref q_18, .int 0, .int 32768, .int 0, .ref q_19, .int 0, .null, .int 0, .int 0, .long 0, .int 1, .int 0, .int 1, .int 0, .ref q_20])), (q_18, .inl (e_21, 32, .inl (fun _ => 0)))]) [0, 1, 2, 3, 4, 5, 9, 10] rfl
  have hD9 := hD.sub (ws' := [(h0, .inr (5, [.ref h1, .ref h2, .ref q_1, .ref q_4, .int 1, .int 0, .ref q_6, .ref q_16, .ref q_8, .ref q_10, .int 0, .ref q_12, .int 0, .ref q_14, .int 0, .int 1, .null])), (q_1, .inr (8, [.ref q_3])), (q_3, .inr (10, [.int 0, .ref z.1, .int 0])), (q_4, .inl (e_5, 256, .inr (.inr (.inr (.inr (va_up (fun _ => none) (0 : Int32).toNatClampNeg (some q_16))))))), (q_6, .inr (10, [.int 0, .ref z.1, .int 0])), (q_8, .inl (e_9, 1024, .inl (fun _ => 0))), (q_16, .inr (6, [.null, .int 0, .ref q_18, .int 0, .int 32768, .int 0, .ref q_19, .int 0, .null, .int 0, .int 0, .long 0, .int 1, .int 0, .int 1, .int 0, .ref q_20])), (q_18, .inl (e_21, 32, .inl (fun _ => 0)))]) [0, 1, 2, 3, 4, 5, 9, 10] (by decide) rfl
  have hK9 := hK.sub (tys' := [(e_5, .object "ChainLedger$Block"), (e_9, .byte), (e_21, .byte)]) [0, 1, 5] rfl
  exact W.vret hx hb hr (fun t ht hW => ⟨⟨(), rfl, trivial, ⟨q_1, q_3, q_4, q_6, q_8, q_16, q_18, q_10, q_12, q_14, q_19, q_20, e_5, e_9, e_21, (va_up (fun _ => none) (0 : Int32).toNatClampNeg (some q_16)), (by first | rfl | simp [va_up, sb_cl0]), by rw [ht]; exact hP9, va_K.moved hW.alike hK9, hD9⟩⟩, hS.F ht⟩) hS.2.2 d_Chain_init_129
end
