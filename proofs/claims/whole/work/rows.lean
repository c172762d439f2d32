section
-- ===== PART A: goes FIRST, ahead of the names: the tables' words, and 'selects' of the private methods out of them =====
/-- a private method of a class that the tables say can be made, by its rows of tables_1 -/
def lw_okq (q : MethodName × Nat) : Prop := (q.1.cls ≠ "java/lang/invoke/MethodHandle" ∧ q.1.cls ≠ "java/lang/invoke/VarHandle") ∧ Cond.instantiable q.1.cls q.2 ∈ tables_1 ∧ Cond.privateMethod q.1 ∈ tables_1 ∧ Cond.instanceMethod q.1 ∈ tables_1
theorem lw_p0 : lw_okq (⟨"PetitionDesk$Judgement", "findVoters", "(LPetitionDesk$Petition;)V"⟩, 8) := ⟨⟨by decide +kernel, by decide +kernel⟩, List.mem_of_getElem? (i := 225) (by decide +kernel), List.mem_of_getElem? (i := 341) (by decide +kernel), List.mem_of_getElem? (i := 342) (by decide +kernel)⟩
theorem lw_p1 : lw_okq (⟨"PetitionDesk$Judgement", "findWrongs", "(LPetitionDesk$Petition;)V"⟩, 8) := ⟨⟨by decide +kernel, by decide +kernel⟩, List.mem_of_getElem? (i := 225) (by decide +kernel), List.mem_of_getElem? (i := 349) (by decide +kernel), List.mem_of_getElem? (i := 350) (by decide +kernel)⟩
theorem lw_p2 : lw_okq (⟨"PetitionDesk$Judgement", "wrongOf", "(LPetitionDesk$Petition;II)I"⟩, 8) := ⟨⟨by decide +kernel, by decide +kernel⟩, List.mem_of_getElem? (i := 225) (by decide +kernel), List.mem_of_getElem? (i := 356) (by decide +kernel), List.mem_of_getElem? (i := 357) (by decide +kernel)⟩
theorem lw_p3 : lw_okq (⟨"PetitionDesk$Judgement", "hasVoter", "(I)Z"⟩, 8) := ⟨⟨by decide +kernel, by decide +kernel⟩, List.mem_of_getElem? (i := 225) (by decide +kernel), List.mem_of_getElem? (i := 360) (by decide +kernel), List.mem_of_getElem? (i := 361) (by decide +kernel)⟩
theorem lw_p4 : lw_okq (⟨"PetitionDesk$Judgement", "strikeSheets", "(LPetitionDesk$Petition;)V"⟩, 8) := ⟨⟨by decide +kernel, by decide +kernel⟩, List.mem_of_getElem? (i := 225) (by decide +kernel), List.mem_of_getElem? (i := 375) (by decide +kernel), List.mem_of_getElem? (i := 376) (by decide +kernel)⟩
theorem lw_p5 : lw_okq (⟨"PetitionDesk$Judgement", "findDoubles", "()V"⟩, 8) := ⟨⟨by decide +kernel, by decide +kernel⟩, List.mem_of_getElem? (i := 225) (by decide +kernel), List.mem_of_getElem? (i := 379) (by decide +kernel), List.mem_of_getElem? (i := 380) (by decide +kernel)⟩
theorem lw_p6 : lw_okq (⟨"PetitionDesk", "verdictOf", "(II)I"⟩, 11) := ⟨⟨by decide +kernel, by decide +kernel⟩, List.mem_of_getElem? (i := 27) (by decide +kernel), List.mem_of_getElem? (i := 395) (by decide +kernel), List.mem_of_getElem? (i := 396) (by decide +kernel)⟩
theorem lw_p7 : lw_okq (⟨"PetitionDesk$Chances", "waysWithMarked", "(IIIII)J"⟩, 2) := ⟨⟨by decide +kernel, by decide +kernel⟩, List.mem_of_getElem? (i := 260) (by decide +kernel), List.mem_of_getElem? (i := 408) (by decide +kernel), List.mem_of_getElem? (i := 409) (by decide +kernel)⟩
theorem lw_p8 : lw_okq (⟨"PetitionDesk", "requireArgument", "(Z)V"⟩, 11) := ⟨⟨by decide +kernel, by decide +kernel⟩, List.mem_of_getElem? (i := 27) (by decide +kernel), List.mem_of_getElem? (i := 436) (by decide +kernel), List.mem_of_getElem? (i := 437) (by decide +kernel)⟩
theorem lw_p9 : lw_okq (⟨"java/lang/Throwable", "fillInStackTrace", "(I)Ljava/lang/Throwable;"⟩, 6) := ⟨⟨by decide +kernel, by decide +kernel⟩, List.mem_of_getElem? (i := 478) (by decide +kernel), List.mem_of_getElem? (i := 476) (by decide +kernel), List.mem_of_getElem? (i := 477) (by decide +kernel)⟩
theorem lw_p10 : lw_okq (⟨"PetitionDesk$Tokens", "isLetter", "(I)Z"⟩, 6) := ⟨⟨by decide +kernel, by decide +kernel⟩, List.mem_of_getElem? (i := 41) (by decide +kernel), List.mem_of_getElem? (i := 517) (by decide +kernel), List.mem_of_getElem? (i := 518) (by decide +kernel)⟩
theorem lw_p11 : lw_okq (⟨"PetitionDesk$Tokens", "byteAt", "(I)I"⟩, 6) := ⟨⟨by decide +kernel, by decide +kernel⟩, List.mem_of_getElem? (i := 41) (by decide +kernel), List.mem_of_getElem? (i := 521) (by decide +kernel), List.mem_of_getElem? (i := 522) (by decide +kernel)⟩
theorem lw_p12 : lw_okq (⟨"PetitionDesk$Tokens", "kindOfWord", "(I)I"⟩, 6) := ⟨⟨by decide +kernel, by decide +kernel⟩, List.mem_of_getElem? (i := 41) (by decide +kernel), List.mem_of_getElem? (i := 525) (by decide +kernel), List.mem_of_getElem? (i := 526) (by decide +kernel)⟩
theorem lw_p13 : lw_okq (⟨"PetitionDesk$Tokens", "nameAt", "(I)I"⟩, 6) := ⟨⟨by decide +kernel, by decide +kernel⟩, List.mem_of_getElem? (i := 41) (by decide +kernel), List.mem_of_getElem? (i := 578) (by decide +kernel), List.mem_of_getElem? (i := 579) (by decide +kernel)⟩
theorem lw_p14 : lw_okq (⟨"PetitionDesk$Tokens", "add", "(III)V"⟩, 6) := ⟨⟨by decide +kernel, by decide +kernel⟩, List.mem_of_getElem? (i := 41) (by decide +kernel), List.mem_of_getElem? (i := 585) (by decide +kernel), List.mem_of_getElem? (i := 586) (by decide +kernel)⟩
theorem lw_p15 : lw_okq (⟨"PetitionDesk$Tokens", "isDigit", "(I)Z"⟩, 6) := ⟨⟨by decide +kernel, by decide +kernel⟩, List.mem_of_getElem? (i := 41) (by decide +kernel), List.mem_of_getElem? (i := 589) (by decide +kernel), List.mem_of_getElem? (i := 590) (by decide +kernel)⟩
def lw_privs_1 : List (MethodName × Nat) := [(⟨"PetitionDesk$Judgement", "findVoters", "(LPetitionDesk$Petition;)V"⟩, 8), (⟨"PetitionDesk$Judgement", "findWrongs", "(LPetitionDesk$Petition;)V"⟩, 8), (⟨"PetitionDesk$Judgement", "wrongOf", "(LPetitionDesk$Petition;II)I"⟩, 8), (⟨"PetitionDesk$Judgement", "hasVoter", "(I)Z"⟩, 8), (⟨"PetitionDesk$Judgement", "strikeSheets", "(LPetitionDesk$Petition;)V"⟩, 8), (⟨"PetitionDesk$Judgement", "findDoubles", "()V"⟩, 8), (⟨"PetitionDesk", "verdictOf", "(II)I"⟩, 11), (⟨"PetitionDesk$Chances", "waysWithMarked", "(IIIII)J"⟩, 2), (⟨"PetitionDesk", "requireArgument", "(Z)V"⟩, 11), (⟨"java/lang/Throwable", "fillInStackTrace", "(I)Ljava/lang/Throwable;"⟩, 6), (⟨"PetitionDesk$Tokens", "isLetter", "(I)Z"⟩, 6), (⟨"PetitionDesk$Tokens", "byteAt", "(I)I"⟩, 6), (⟨"PetitionDesk$Tokens", "kindOfWord", "(I)I"⟩, 6), (⟨"PetitionDesk$Tokens", "nameAt", "(I)I"⟩, 6), (⟨"PetitionDesk$Tokens", "add", "(III)V"⟩, 6), (⟨"PetitionDesk$Tokens", "isDigit", "(I)Z"⟩, 6)]
theorem lw_r1 : ∀ q ∈ lw_privs_1, lw_okq q := List.forall_mem_cons.mpr ⟨lw_p0, List.forall_mem_cons.mpr ⟨lw_p1, List.forall_mem_cons.mpr ⟨lw_p2, List.forall_mem_cons.mpr ⟨lw_p3, List.forall_mem_cons.mpr ⟨lw_p4, List.forall_mem_cons.mpr ⟨lw_p5, List.forall_mem_cons.mpr ⟨lw_p6, List.forall_mem_cons.mpr ⟨lw_p7, List.forall_mem_cons.mpr ⟨lw_p8, List.forall_mem_cons.mpr ⟨lw_p9, List.forall_mem_cons.mpr ⟨lw_p10, List.forall_mem_cons.mpr ⟨lw_p11, List.forall_mem_cons.mpr ⟨lw_p12, List.forall_mem_cons.mpr ⟨lw_p13, List.forall_mem_cons.mpr ⟨lw_p14, List.forall_mem_cons.mpr ⟨lw_p15, fun _ h => absurd h List.not_mem_nil⟩⟩⟩⟩⟩⟩⟩⟩⟩⟩⟩⟩⟩⟩⟩⟩
theorem lw_p16 : lw_okq (⟨"PetitionDesk$Tokens", "numberAt", "(I)I"⟩, 6) := ⟨⟨by decide +kernel, by decide +kernel⟩, List.mem_of_getElem? (i := 41) (by decide +kernel), List.mem_of_getElem? (i := 593) (by decide +kernel), List.mem_of_getElem? (i := 594) (by decide +kernel)⟩
theorem lw_p17 : lw_okq (⟨"PetitionDesk$TextReader", "kind", "()I"⟩, 6) := ⟨⟨by decide +kernel, by decide +kernel⟩, List.mem_of_getElem? (i := 35) (by decide +kernel), List.mem_of_getElem? (i := 605) (by decide +kernel), List.mem_of_getElem? (i := 606) (by decide +kernel)⟩
theorem lw_p18 : lw_okq (⟨"PetitionDesk$TextReader", "readTold", "()Z"⟩, 6) := ⟨⟨by decide +kernel, by decide +kernel⟩, List.mem_of_getElem? (i := 35) (by decide +kernel), List.mem_of_getElem? (i := 609) (by decide +kernel), List.mem_of_getElem? (i := 610) (by decide +kernel)⟩
theorem lw_p19 : lw_okq (⟨"PetitionDesk$TextReader", "readVoter", "()Z"⟩, 6) := ⟨⟨by decide +kernel, by decide +kernel⟩, List.mem_of_getElem? (i := 35) (by decide +kernel), List.mem_of_getElem? (i := 613) (by decide +kernel), List.mem_of_getElem? (i := 614) (by decide +kernel)⟩
theorem lw_p20 : lw_okq (⟨"PetitionDesk$TextReader", "place", "()I"⟩, 6) := ⟨⟨by decide +kernel, by decide +kernel⟩, List.mem_of_getElem? (i := 35) (by decide +kernel), List.mem_of_getElem? (i := 617) (by decide +kernel), List.mem_of_getElem? (i := 618) (by decide +kernel)⟩
theorem lw_p21 : lw_okq (⟨"PetitionDesk$TextReader", "refuse", "(II)Z"⟩, 6) := ⟨⟨by decide +kernel, by decide +kernel⟩, List.mem_of_getElem? (i := 35) (by decide +kernel), List.mem_of_getElem? (i := 621) (by decide +kernel), List.mem_of_getElem? (i := 622) (by decide +kernel)⟩
theorem lw_p22 : lw_okq (⟨"PetitionDesk$TextReader", "advance", "()V"⟩, 6) := ⟨⟨by decide +kernel, by decide +kernel⟩, List.mem_of_getElem? (i := 35) (by decide +kernel), List.mem_of_getElem? (i := 625) (by decide +kernel), List.mem_of_getElem? (i := 626) (by decide +kernel)⟩
theorem lw_p23 : lw_okq (⟨"PetitionDesk$TextReader", "takeName", "()I"⟩, 6) := ⟨⟨by decide +kernel, by decide +kernel⟩, List.mem_of_getElem? (i := 35) (by decide +kernel), List.mem_of_getElem? (i := 629) (by decide +kernel), List.mem_of_getElem? (i := 630) (by decide +kernel)⟩
theorem lw_p24 : lw_okq (⟨"PetitionDesk$TextReader", "takeNumber", "(II)I"⟩, 6) := ⟨⟨by decide +kernel, by decide +kernel⟩, List.mem_of_getElem? (i := 35) (by decide +kernel), List.mem_of_getElem? (i := 633) (by decide +kernel), List.mem_of_getElem? (i := 634) (by decide +kernel)⟩
theorem lw_p25 : lw_okq (⟨"PetitionDesk$TextReader", "readSheet", "()Z"⟩, 6) := ⟨⟨by decide +kernel, by decide +kernel⟩, List.mem_of_getElem? (i := 35) (by decide +kernel), List.mem_of_getElem? (i := 642) (by decide +kernel), List.mem_of_getElem? (i := 643) (by decide +kernel)⟩
theorem lw_p26 : lw_okq (⟨"PetitionDesk$TextReader", "readSigned", "()Z"⟩, 6) := ⟨⟨by decide +kernel, by decide +kernel⟩, List.mem_of_getElem? (i := 35) (by decide +kernel), List.mem_of_getElem? (i := 646) (by decide +kernel), List.mem_of_getElem? (i := 647) (by decide +kernel)⟩
theorem lw_p27 : lw_okq (⟨"PetitionDesk$Petition", "moveLines", "(III)V"⟩, 19) := ⟨⟨by decide +kernel, by decide +kernel⟩, List.mem_of_getElem? (i := 87) (by decide +kernel), List.mem_of_getElem? (i := 658) (by decide +kernel), List.mem_of_getElem? (i := 659) (by decide +kernel)⟩
theorem lw_p28 : lw_okq (⟨"PetitionDesk$TextReader", "readNeed", "()Z"⟩, 6) := ⟨⟨by decide +kernel, by decide +kernel⟩, List.mem_of_getElem? (i := 35) (by decide +kernel), List.mem_of_getElem? (i := 666) (by decide +kernel), List.mem_of_getElem? (i := 667) (by decide +kernel)⟩
theorem lw_p29 : lw_okq (⟨"PetitionDesk$TextReader", "takeOnce", "()Z"⟩, 6) := ⟨⟨by decide +kernel, by decide +kernel⟩, List.mem_of_getElem? (i := 35) (by decide +kernel), List.mem_of_getElem? (i := 670) (by decide +kernel), List.mem_of_getElem? (i := 671) (by decide +kernel)⟩
theorem lw_p30 : lw_okq (⟨"PetitionDesk$TextReader", "readSpan", "()Z"⟩, 6) := ⟨⟨by decide +kernel, by decide +kernel⟩, List.mem_of_getElem? (i := 35) (by decide +kernel), List.mem_of_getElem? (i := 674) (by decide +kernel), List.mem_of_getElem? (i := 675) (by decide +kernel)⟩
theorem lw_p31 : lw_okq (⟨"PetitionDesk$TextReader", "readSpoilt", "()Z"⟩, 6) := ⟨⟨by decide +kernel, by decide +kernel⟩, List.mem_of_getElem? (i := 35) (by decide +kernel), List.mem_of_getElem? (i := 678) (by decide +kernel), List.mem_of_getElem? (i := 679) (by decide +kernel)⟩
def lw_privs_2 : List (MethodName × Nat) := [(⟨"PetitionDesk$Tokens", "numberAt", "(I)I"⟩, 6), (⟨"PetitionDesk$TextReader", "kind", "()I"⟩, 6), (⟨"PetitionDesk$TextReader", "readTold", "()Z"⟩, 6), (⟨"PetitionDesk$TextReader", "readVoter", "()Z"⟩, 6), (⟨"PetitionDesk$TextReader", "place", "()I"⟩, 6), (⟨"PetitionDesk$TextReader", "refuse", "(II)Z"⟩, 6), (⟨"PetitionDesk$TextReader", "advance", "()V"⟩, 6), (⟨"PetitionDesk$TextReader", "takeName", "()I"⟩, 6), (⟨"PetitionDesk$TextReader", "takeNumber", "(II)I"⟩, 6), (⟨"PetitionDesk$TextReader", "readSheet", "()Z"⟩, 6), (⟨"PetitionDesk$TextReader", "readSigned", "()Z"⟩, 6), (⟨"PetitionDesk$Petition", "moveLines", "(III)V"⟩, 19), (⟨"PetitionDesk$TextReader", "readNeed", "()Z"⟩, 6), (⟨"PetitionDesk$TextReader", "takeOnce", "()Z"⟩, 6), (⟨"PetitionDesk$TextReader", "readSpan", "()Z"⟩, 6), (⟨"PetitionDesk$TextReader", "readSpoilt", "()Z"⟩, 6)]
theorem lw_r2 : ∀ q ∈ lw_privs_2, lw_okq q := List.forall_mem_cons.mpr ⟨lw_p16, List.forall_mem_cons.mpr ⟨lw_p17, List.forall_mem_cons.mpr ⟨lw_p18, List.forall_mem_cons.mpr ⟨lw_p19, List.forall_mem_cons.mpr ⟨lw_p20, List.forall_mem_cons.mpr ⟨lw_p21, List.forall_mem_cons.mpr ⟨lw_p22, List.forall_mem_cons.mpr ⟨lw_p23, List.forall_mem_cons.mpr ⟨lw_p24, List.forall_mem_cons.mpr ⟨lw_p25, List.forall_mem_cons.mpr ⟨lw_p26, List.forall_mem_cons.mpr ⟨lw_p27, List.forall_mem_cons.mpr ⟨lw_p28, List.forall_mem_cons.mpr ⟨lw_p29, List.forall_mem_cons.mpr ⟨lw_p30, List.forall_mem_cons.mpr ⟨lw_p31, fun _ h => absurd h List.not_mem_nil⟩⟩⟩⟩⟩⟩⟩⟩⟩⟩⟩⟩⟩⟩⟩⟩
theorem lw_p32 : lw_okq (⟨"PetitionDesk$TextReader", "readAlpha", "()Z"⟩, 6) := ⟨⟨by decide +kernel, by decide +kernel⟩, List.mem_of_getElem? (i := 35) (by decide +kernel), List.mem_of_getElem? (i := 682) (by decide +kernel), List.mem_of_getElem? (i := 683) (by decide +kernel)⟩
theorem lw_p33 : lw_okq (⟨"PetitionDesk$TextReader", "readChoice", "(I)Z"⟩, 6) := ⟨⟨by decide +kernel, by decide +kernel⟩, List.mem_of_getElem? (i := 35) (by decide +kernel), List.mem_of_getElem? (i := 686) (by decide +kernel), List.mem_of_getElem? (i := 687) (by decide +kernel)⟩
theorem lw_p34 : lw_okq (⟨"PetitionDesk$TextReader", "readChain", "(I)Z"⟩, 6) := ⟨⟨by decide +kernel, by decide +kernel⟩, List.mem_of_getElem? (i := 35) (by decide +kernel), List.mem_of_getElem? (i := 690) (by decide +kernel), List.mem_of_getElem? (i := 691) (by decide +kernel)⟩
theorem lw_p35 : lw_okq (⟨"PetitionDesk$TextReader", "readPart", "(I)Z"⟩, 6) := ⟨⟨by decide +kernel, by decide +kernel⟩, List.mem_of_getElem? (i := 35) (by decide +kernel), List.mem_of_getElem? (i := 694) (by decide +kernel), List.mem_of_getElem? (i := 695) (by decide +kernel)⟩
theorem lw_p36 : lw_okq (⟨"PetitionDesk$TextReader", "readComparison", "()Z"⟩, 6) := ⟨⟨by decide +kernel, by decide +kernel⟩, List.mem_of_getElem? (i := 35) (by decide +kernel), List.mem_of_getElem? (i := 698) (by decide +kernel), List.mem_of_getElem? (i := 699) (by decide +kernel)⟩
theorem lw_p37 : lw_okq (⟨"PetitionDesk$TextReader", "takeOperand", "()I"⟩, 6) := ⟨⟨by decide +kernel, by decide +kernel⟩, List.mem_of_getElem? (i := 35) (by decide +kernel), List.mem_of_getElem? (i := 702) (by decide +kernel), List.mem_of_getElem? (i := 703) (by decide +kernel)⟩
theorem lw_p38 : lw_okq (⟨"PetitionDesk$TextReader", "takeSign", "(C)Z"⟩, 6) := ⟨⟨by decide +kernel, by decide +kernel⟩, List.mem_of_getElem? (i := 35) (by decide +kernel), List.mem_of_getElem? (i := 717) (by decide +kernel), List.mem_of_getElem? (i := 718) (by decide +kernel)⟩
theorem lw_p39 : lw_okq (⟨"PetitionDesk", "keepForUndo", "()V"⟩, 11) := ⟨⟨by decide +kernel, by decide +kernel⟩, List.mem_of_getElem? (i := 27) (by decide +kernel), List.mem_of_getElem? (i := 722) (by decide +kernel), List.mem_of_getElem? (i := 723) (by decide +kernel)⟩
theorem lw_p40 : lw_okq (⟨"PetitionDesk", "drawLines", "(II)J"⟩, 11) := ⟨⟨by decide +kernel, by decide +kernel⟩, List.mem_of_getElem? (i := 27) (by decide +kernel), List.mem_of_getElem? (i := 742) (by decide +kernel), List.mem_of_getElem? (i := 743) (by decide +kernel)⟩
theorem lw_p41 : lw_okq (⟨"PetitionDesk", "indexOfUndrawn", "(JI)I"⟩, 11) := ⟨⟨by decide +kernel, by decide +kernel⟩, List.mem_of_getElem? (i := 27) (by decide +kernel), List.mem_of_getElem? (i := 747) (by decide +kernel), List.mem_of_getElem? (i := 748) (by decide +kernel)⟩
theorem lw_p42 : lw_okq (⟨"PetitionDesk$Judgement", "isGoodIn", "(JI)Z"⟩, 8) := ⟨⟨by decide +kernel, by decide +kernel⟩, List.mem_of_getElem? (i := 225) (by decide +kernel), List.mem_of_getElem? (i := 755) (by decide +kernel), List.mem_of_getElem? (i := 756) (by decide +kernel)⟩
theorem lw_p43 : lw_okq (⟨"PetitionDesk$Judgement", "isGood", "(I)Z"⟩, 8) := ⟨⟨by decide +kernel, by decide +kernel⟩, List.mem_of_getElem? (i := 225) (by decide +kernel), List.mem_of_getElem? (i := 759) (by decide +kernel), List.mem_of_getElem? (i := 760) (by decide +kernel)⟩
theorem lw_p44 : lw_okq (⟨"PetitionDesk", "isSheet", "(I)Z"⟩, 11) := ⟨⟨by decide +kernel, by decide +kernel⟩, List.mem_of_getElem? (i := 27) (by decide +kernel), List.mem_of_getElem? (i := 771) (by decide +kernel), List.mem_of_getElem? (i := 772) (by decide +kernel)⟩
theorem lw_p45 : lw_okq (⟨"PetitionDesk", "requireFound", "(Z)V"⟩, 11) := ⟨⟨by decide +kernel, by decide +kernel⟩, List.mem_of_getElem? (i := 27) (by decide +kernel), List.mem_of_getElem? (i := 775) (by decide +kernel), List.mem_of_getElem? (i := 776) (by decide +kernel)⟩
theorem lw_p46 : lw_okq (⟨"PetitionDesk", "isVoter", "(I)Z"⟩, 11) := ⟨⟨by decide +kernel, by decide +kernel⟩, List.mem_of_getElem? (i := 27) (by decide +kernel), List.mem_of_getElem? (i := 807) (by decide +kernel), List.mem_of_getElem? (i := 808) (by decide +kernel)⟩
theorem lw_p47 : lw_okq (⟨"PetitionDesk", "requireState", "(Z)V"⟩, 11) := ⟨⟨by decide +kernel, by decide +kernel⟩, List.mem_of_getElem? (i := 27) (by decide +kernel), List.mem_of_getElem? (i := 811) (by decide +kernel), List.mem_of_getElem? (i := 812) (by decide +kernel)⟩
def lw_privs_3 : List (MethodName × Nat) := [(⟨"PetitionDesk$TextReader", "readAlpha", "()Z"⟩, 6), (⟨"PetitionDesk$TextReader", "readChoice", "(I)Z"⟩, 6), (⟨"PetitionDesk$TextReader", "readChain", "(I)Z"⟩, 6), (⟨"PetitionDesk$TextReader", "readPart", "(I)Z"⟩, 6), (⟨"PetitionDesk$TextReader", "readComparison", "()Z"⟩, 6), (⟨"PetitionDesk$TextReader", "takeOperand", "()I"⟩, 6), (⟨"PetitionDesk$TextReader", "takeSign", "(C)Z"⟩, 6), (⟨"PetitionDesk", "keepForUndo", "()V"⟩, 11), (⟨"PetitionDesk", "drawLines", "(II)J"⟩, 11), (⟨"PetitionDesk", "indexOfUndrawn", "(JI)I"⟩, 11), (⟨"PetitionDesk$Judgement", "isGoodIn", "(JI)Z"⟩, 8), (⟨"PetitionDesk$Judgement", "isGood", "(I)Z"⟩, 8), (⟨"PetitionDesk", "isSheet", "(I)Z"⟩, 11), (⟨"PetitionDesk", "requireFound", "(Z)V"⟩, 11), (⟨"PetitionDesk", "isVoter", "(I)Z"⟩, 11), (⟨"PetitionDesk", "requireState", "(Z)V"⟩, 11)]
theorem lw_r3 : ∀ q ∈ lw_privs_3, lw_okq q := List.forall_mem_cons.mpr ⟨lw_p32, List.forall_mem_cons.mpr ⟨lw_p33, List.forall_mem_cons.mpr ⟨lw_p34, List.forall_mem_cons.mpr ⟨lw_p35, List.forall_mem_cons.mpr ⟨lw_p36, List.forall_mem_cons.mpr ⟨lw_p37, List.forall_mem_cons.mpr ⟨lw_p38, List.forall_mem_cons.mpr ⟨lw_p39, List.forall_mem_cons.mpr ⟨lw_p40, List.forall_mem_cons.mpr ⟨lw_p41, List.forall_mem_cons.mpr ⟨lw_p42, List.forall_mem_cons.mpr ⟨lw_p43, List.forall_mem_cons.mpr ⟨lw_p44, List.forall_mem_cons.mpr ⟨lw_p45, List.forall_mem_cons.mpr ⟨lw_p46, List.forall_mem_cons.mpr ⟨lw_p47, fun _ h => absurd h List.not_mem_nil⟩⟩⟩⟩⟩⟩⟩⟩⟩⟩⟩⟩⟩⟩⟩⟩
theorem lw_p48 : lw_okq (⟨"PetitionDesk", "isLine", "(II)Z"⟩, 11) := ⟨⟨by decide +kernel, by decide +kernel⟩, List.mem_of_getElem? (i := 27) (by decide +kernel), List.mem_of_getElem? (i := 844) (by decide +kernel), List.mem_of_getElem? (i := 845) (by decide +kernel)⟩
theorem lw_p49 : lw_okq (⟨"PetitionDesk", "sampleOf", "(I)J"⟩, 11) := ⟨⟨by decide +kernel, by decide +kernel⟩, List.mem_of_getElem? (i := 27) (by decide +kernel), List.mem_of_getElem? (i := 916) (by decide +kernel), List.mem_of_getElem? (i := 917) (by decide +kernel)⟩
theorem lw_p50 : lw_okq (⟨"PetitionDeskModel", "bad", "(ZII)Z"⟩, 21) := ⟨⟨by decide +kernel, by decide +kernel⟩, List.mem_of_getElem? (i := 1002) (by decide +kernel), List.mem_of_getElem? (i := 1092) (by decide +kernel), List.mem_of_getElem? (i := 1093) (by decide +kernel)⟩
theorem lw_p51 : lw_okq (⟨"PetitionDeskModel", "fine", "()Z"⟩, 21) := ⟨⟨by decide +kernel, by decide +kernel⟩, List.mem_of_getElem? (i := 1002) (by decide +kernel), List.mem_of_getElem? (i := 1096) (by decide +kernel), List.mem_of_getElem? (i := 1097) (by decide +kernel)⟩
theorem lw_p52 : lw_okq (⟨"PetitionDeskModel", "here", "()I"⟩, 21) := ⟨⟨by decide +kernel, by decide +kernel⟩, List.mem_of_getElem? (i := 1002) (by decide +kernel), List.mem_of_getElem? (i := 1100) (by decide +kernel), List.mem_of_getElem? (i := 1101) (by decide +kernel)⟩
theorem lw_p53 : lw_okq (⟨"PetitionDeskModel", "byteAt", "(I)I"⟩, 21) := ⟨⟨by decide +kernel, by decide +kernel⟩, List.mem_of_getElem? (i := 1002) (by decide +kernel), List.mem_of_getElem? (i := 1104) (by decide +kernel), List.mem_of_getElem? (i := 1105) (by decide +kernel)⟩
theorem lw_p54 : lw_okq (⟨"PetitionDeskModel", "readsLine", "()V"⟩, 21) := ⟨⟨by decide +kernel, by decide +kernel⟩, List.mem_of_getElem? (i := 1002) (by decide +kernel), List.mem_of_getElem? (i := 1108) (by decide +kernel), List.mem_of_getElem? (i := 1109) (by decide +kernel)⟩
theorem lw_p55 : lw_okq (⟨"PetitionDeskModel", "takes", "(Ljava/lang/String;)Z"⟩, 21) := ⟨⟨by decide +kernel, by decide +kernel⟩, List.mem_of_getElem? (i := 1002) (by decide +kernel), List.mem_of_getElem? (i := 1113) (by decide +kernel), List.mem_of_getElem? (i := 1114) (by decide +kernel)⟩
theorem lw_p56 : lw_okq (⟨"PetitionDeskModel", "isWord", "(Ljava/lang/String;)Z"⟩, 21) := ⟨⟨by decide +kernel, by decide +kernel⟩, List.mem_of_getElem? (i := 1002) (by decide +kernel), List.mem_of_getElem? (i := 1117) (by decide +kernel), List.mem_of_getElem? (i := 1118) (by decide +kernel)⟩
theorem lw_p57 : lw_okq (⟨"PetitionDeskModel", "readsVoter", "(I)V"⟩, 21) := ⟨⟨by decide +kernel, by decide +kernel⟩, List.mem_of_getElem? (i := 1002) (by decide +kernel), List.mem_of_getElem? (i := 1126) (by decide +kernel), List.mem_of_getElem? (i := 1127) (by decide +kernel)⟩
theorem lw_p58 : lw_okq (⟨"PetitionDeskModel", "wrong", "(II)V"⟩, 21) := ⟨⟨by decide +kernel, by decide +kernel⟩, List.mem_of_getElem? (i := 1002) (by decide +kernel), List.mem_of_getElem? (i := 1130) (by decide +kernel), List.mem_of_getElem? (i := 1131) (by decide +kernel)⟩
theorem lw_p59 : lw_okq (⟨"PetitionDeskModel", "name", "()I"⟩, 21) := ⟨⟨by decide +kernel, by decide +kernel⟩, List.mem_of_getElem? (i := 1002) (by decide +kernel), List.mem_of_getElem? (i := 1134) (by decide +kernel), List.mem_of_getElem? (i := 1135) (by decide +kernel)⟩
theorem lw_p60 : lw_okq (⟨"PetitionDeskModel", "number", "(II)I"⟩, 21) := ⟨⟨by decide +kernel, by decide +kernel⟩, List.mem_of_getElem? (i := 1002) (by decide +kernel), List.mem_of_getElem? (i := 1138) (by decide +kernel), List.mem_of_getElem? (i := 1139) (by decide +kernel)⟩
theorem lw_p61 : lw_okq (⟨"PetitionDeskModel", "readsSign", "(I)V"⟩, 21) := ⟨⟨by decide +kernel, by decide +kernel⟩, List.mem_of_getElem? (i := 1002) (by decide +kernel), List.mem_of_getElem? (i := 1157) (by decide +kernel), List.mem_of_getElem? (i := 1158) (by decide +kernel)⟩
theorem lw_p62 : lw_okq (⟨"PetitionDeskModel", "takesOnce", "(Ljava/lang/String;I)Z"⟩, 21) := ⟨⟨by decide +kernel, by decide +kernel⟩, List.mem_of_getElem? (i := 1002) (by decide +kernel), List.mem_of_getElem? (i := 1165) (by decide +kernel), List.mem_of_getElem? (i := 1166) (by decide +kernel)⟩
theorem lw_p63 : lw_okq (⟨"PetitionDeskModel", "any", "()V"⟩, 21) := ⟨⟨by decide +kernel, by decide +kernel⟩, List.mem_of_getElem? (i := 1002) (by decide +kernel), List.mem_of_getElem? (i := 1173) (by decide +kernel), List.mem_of_getElem? (i := 1174) (by decide +kernel)⟩
def lw_privs_4 : List (MethodName × Nat) := [(⟨"PetitionDesk", "isLine", "(II)Z"⟩, 11), (⟨"PetitionDesk", "sampleOf", "(I)J"⟩, 11), (⟨"PetitionDeskModel", "bad", "(ZII)Z"⟩, 21), (⟨"PetitionDeskModel", "fine", "()Z"⟩, 21), (⟨"PetitionDeskModel", "here", "()I"⟩, 21), (⟨"PetitionDeskModel", "byteAt", "(I)I"⟩, 21), (⟨"PetitionDeskModel", "readsLine", "()V"⟩, 21), (⟨"PetitionDeskModel", "takes", "(Ljava/lang/String;)Z"⟩, 21), (⟨"PetitionDeskModel", "isWord", "(Ljava/lang/String;)Z"⟩, 21), (⟨"PetitionDeskModel", "readsVoter", "(I)V"⟩, 21), (⟨"PetitionDeskModel", "wrong", "(II)V"⟩, 21), (⟨"PetitionDeskModel", "name", "()I"⟩, 21), (⟨"PetitionDeskModel", "number", "(II)I"⟩, 21), (⟨"PetitionDeskModel", "readsSign", "(I)V"⟩, 21), (⟨"PetitionDeskModel", "takesOnce", "(Ljava/lang/String;I)Z"⟩, 21), (⟨"PetitionDeskModel", "any", "()V"⟩, 21)]
theorem lw_r4 : ∀ q ∈ lw_privs_4, lw_okq q := List.forall_mem_cons.mpr ⟨lw_p48, List.forall_mem_cons.mpr ⟨lw_p49, List.forall_mem_cons.mpr ⟨lw_p50, List.forall_mem_cons.mpr ⟨lw_p51, List.forall_mem_cons.mpr ⟨lw_p52, List.forall_mem_cons.mpr ⟨lw_p53, List.forall_mem_cons.mpr ⟨lw_p54, List.forall_mem_cons.mpr ⟨lw_p55, List.forall_mem_cons.mpr ⟨lw_p56, List.forall_mem_cons.mpr ⟨lw_p57, List.forall_mem_cons.mpr ⟨lw_p58, List.forall_mem_cons.mpr ⟨lw_p59, List.forall_mem_cons.mpr ⟨lw_p60, List.forall_mem_cons.mpr ⟨lw_p61, List.forall_mem_cons.mpr ⟨lw_p62, List.forall_mem_cons.mpr ⟨lw_p63, fun _ h => absurd h List.not_mem_nil⟩⟩⟩⟩⟩⟩⟩⟩⟩⟩⟩⟩⟩⟩⟩⟩
theorem lw_p64 : lw_okq (⟨"PetitionDeskModel", "all", "()V"⟩, 21) := ⟨⟨by decide +kernel, by decide +kernel⟩, List.mem_of_getElem? (i := 1002) (by decide +kernel), List.mem_of_getElem? (i := 1177) (by decide +kernel), List.mem_of_getElem? (i := 1178) (by decide +kernel)⟩
theorem lw_p65 : lw_okq (⟨"PetitionDeskModel", "part", "()V"⟩, 21) := ⟨⟨by decide +kernel, by decide +kernel⟩, List.mem_of_getElem? (i := 1002) (by decide +kernel), List.mem_of_getElem? (i := 1181) (by decide +kernel), List.mem_of_getElem? (i := 1182) (by decide +kernel)⟩
theorem lw_p66 : lw_okq (⟨"PetitionDeskModel", "side", "()V"⟩, 21) := ⟨⟨by decide +kernel, by decide +kernel⟩, List.mem_of_getElem? (i := 1002) (by decide +kernel), List.mem_of_getElem? (i := 1186) (by decide +kernel), List.mem_of_getElem? (i := 1187) (by decide +kernel)⟩
theorem lw_p67 : lw_okq (⟨"PetitionDeskModel", "tells", "(I)V"⟩, 21) := ⟨⟨by decide +kernel, by decide +kernel⟩, List.mem_of_getElem? (i := 1002) (by decide +kernel), List.mem_of_getElem? (i := 1190) (by decide +kernel), List.mem_of_getElem? (i := 1191) (by decide +kernel)⟩
theorem lw_p68 : lw_okq (⟨"PetitionDeskModel", "must", "(I)V"⟩, 21) := ⟨⟨by decide +kernel, by decide +kernel⟩, List.mem_of_getElem? (i := 1002) (by decide +kernel), List.mem_of_getElem? (i := 1202) (by decide +kernel), List.mem_of_getElem? (i := 1203) (by decide +kernel)⟩
theorem lw_p69 : lw_okq (⟨"PetitionDeskModel", "remembers", "()V"⟩, 21) := ⟨⟨by decide +kernel, by decide +kernel⟩, List.mem_of_getElem? (i := 1002) (by decide +kernel), List.mem_of_getElem? (i := 1208) (by decide +kernel), List.mem_of_getElem? (i := 1209) (by decide +kernel)⟩
theorem lw_p70 : lw_okq (⟨"PetitionDeskModel", "lines", "()I"⟩, 21) := ⟨⟨by decide +kernel, by decide +kernel⟩, List.mem_of_getElem? (i := 1002) (by decide +kernel), List.mem_of_getElem? (i := 1215) (by decide +kernel), List.mem_of_getElem? (i := 1216) (by decide +kernel)⟩
theorem lw_p71 : lw_okq (⟨"PetitionDeskModel", "isIn", "(II)Z"⟩, 21) := ⟨⟨by decide +kernel, by decide +kernel⟩, List.mem_of_getElem? (i := 1002) (by decide +kernel), List.mem_of_getElem? (i := 1235) (by decide +kernel), List.mem_of_getElem? (i := 1236) (by decide +kernel)⟩
theorem lw_p72 : lw_okq (⟨"PetitionDeskModel", "judges", "([II)V"⟩, 21) := ⟨⟨by decide +kernel, by decide +kernel⟩, List.mem_of_getElem? (i := 1002) (by decide +kernel), List.mem_of_getElem? (i := 1239) (by decide +kernel), List.mem_of_getElem? (i := 1240) (by decide +kernel)⟩
theorem lw_p73 : lw_okq (⟨"PetitionDeskModel", "isGood", "([II)Z"⟩, 21) := ⟨⟨by decide +kernel, by decide +kernel⟩, List.mem_of_getElem? (i := 1002) (by decide +kernel), List.mem_of_getElem? (i := 1243) (by decide +kernel), List.mem_of_getElem? (i := 1244) (by decide +kernel)⟩
theorem lw_p74 : lw_okq (⟨"PetitionDeskModel", "fact", "([III)I"⟩, 21) := ⟨⟨by decide +kernel, by decide +kernel⟩, List.mem_of_getElem? (i := 1002) (by decide +kernel), List.mem_of_getElem? (i := 1247) (by decide +kernel), List.mem_of_getElem? (i := 1248) (by decide +kernel)⟩
theorem lw_p75 : lw_okq (⟨"PetitionDeskModel", "goodIn", "(I)I"⟩, 21) := ⟨⟨by decide +kernel, by decide +kernel⟩, List.mem_of_getElem? (i := 1002) (by decide +kernel), List.mem_of_getElem? (i := 1254) (by decide +kernel), List.mem_of_getElem? (i := 1255) (by decide +kernel)⟩
theorem lw_p76 : lw_okq (⟨"PetitionDeskModel", "isClean", "(I)Z"⟩, 21) := ⟨⟨by decide +kernel, by decide +kernel⟩, List.mem_of_getElem? (i := 1002) (by decide +kernel), List.mem_of_getElem? (i := 1258) (by decide +kernel), List.mem_of_getElem? (i := 1259) (by decide +kernel)⟩
theorem lw_p77 : lw_okq (⟨"PetitionDeskModel", "isSheet", "(I)Z"⟩, 21) := ⟨⟨by decide +kernel, by decide +kernel⟩, List.mem_of_getElem? (i := 1002) (by decide +kernel), List.mem_of_getElem? (i := 1266) (by decide +kernel), List.mem_of_getElem? (i := 1267) (by decide +kernel)⟩
theorem lw_p78 : lw_okq (⟨"PetitionDeskModel", "isVoter", "(I)Z"⟩, 21) := ⟨⟨by decide +kernel, by decide +kernel⟩, List.mem_of_getElem? (i := 1002) (by decide +kernel), List.mem_of_getElem? (i := 1274) (by decide +kernel), List.mem_of_getElem? (i := 1275) (by decide +kernel)⟩
theorem lw_p79 : lw_okq (⟨"PetitionDeskModel", "linesOf", "(I)I"⟩, 21) := ⟨⟨by decide +kernel, by decide +kernel⟩, List.mem_of_getElem? (i := 1002) (by decide +kernel), List.mem_of_getElem? (i := 1279) (by decide +kernel), List.mem_of_getElem? (i := 1280) (by decide +kernel)⟩
def lw_privs_5 : List (MethodName × Nat) := [(⟨"PetitionDeskModel", "all", "()V"⟩, 21), (⟨"PetitionDeskModel", "part", "()V"⟩, 21), (⟨"PetitionDeskModel", "side", "()V"⟩, 21), (⟨"PetitionDeskModel", "tells", "(I)V"⟩, 21), (⟨"PetitionDeskModel", "must", "(I)V"⟩, 21), (⟨"PetitionDeskModel", "remembers", "()V"⟩, 21), (⟨"PetitionDeskModel", "lines", "()I"⟩, 21), (⟨"PetitionDeskModel", "isIn", "(II)Z"⟩, 21), (⟨"PetitionDeskModel", "judges", "([II)V"⟩, 21), (⟨"PetitionDeskModel", "isGood", "([II)Z"⟩, 21), (⟨"PetitionDeskModel", "fact", "([III)I"⟩, 21), (⟨"PetitionDeskModel", "goodIn", "(I)I"⟩, 21), (⟨"PetitionDeskModel", "isClean", "(I)Z"⟩, 21), (⟨"PetitionDeskModel", "isSheet", "(I)Z"⟩, 21), (⟨"PetitionDeskModel", "isVoter", "(I)Z"⟩, 21), (⟨"PetitionDeskModel", "linesOf", "(I)I"⟩, 21)]
theorem lw_r5 : ∀ q ∈ lw_privs_5, lw_okq q := List.forall_mem_cons.mpr ⟨lw_p64, List.forall_mem_cons.mpr ⟨lw_p65, List.forall_mem_cons.mpr ⟨lw_p66, List.forall_mem_cons.mpr ⟨lw_p67, List.forall_mem_cons.mpr ⟨lw_p68, List.forall_mem_cons.mpr ⟨lw_p69, List.forall_mem_cons.mpr ⟨lw_p70, List.forall_mem_cons.mpr ⟨lw_p71, List.forall_mem_cons.mpr ⟨lw_p72, List.forall_mem_cons.mpr ⟨lw_p73, List.forall_mem_cons.mpr ⟨lw_p74, List.forall_mem_cons.mpr ⟨lw_p75, List.forall_mem_cons.mpr ⟨lw_p76, List.forall_mem_cons.mpr ⟨lw_p77, List.forall_mem_cons.mpr ⟨lw_p78, List.forall_mem_cons.mpr ⟨lw_p79, fun _ h => absurd h List.not_mem_nil⟩⟩⟩⟩⟩⟩⟩⟩⟩⟩⟩⟩⟩⟩⟩⟩
theorem lw_p80 : lw_okq (⟨"PetitionDeskModel", "spotOf", "(II)I"⟩, 21) := ⟨⟨by decide +kernel, by decide +kernel⟩, List.mem_of_getElem? (i := 1002) (by decide +kernel), List.mem_of_getElem? (i := 1283) (by decide +kernel), List.mem_of_getElem? (i := 1284) (by decide +kernel)⟩
theorem lw_p81 : lw_okq (⟨"PetitionDeskModel", "moves", "(II)V"⟩, 21) := ⟨⟨by decide +kernel, by decide +kernel⟩, List.mem_of_getElem? (i := 1002) (by decide +kernel), List.mem_of_getElem? (i := 1287) (by decide +kernel), List.mem_of_getElem? (i := 1288) (by decide +kernel)⟩
theorem lw_p82 : lw_okq (⟨"PetitionDeskModel", "emptiesSamples", "()V"⟩, 21) := ⟨⟨by decide +kernel, by decide +kernel⟩, List.mem_of_getElem? (i := 1002) (by decide +kernel), List.mem_of_getElem? (i := 1291) (by decide +kernel), List.mem_of_getElem? (i := 1292) (by decide +kernel)⟩
theorem lw_p83 : lw_okq (⟨"PetitionDeskModel", "isLine", "(II)Z"⟩, 21) := ⟨⟨by decide +kernel, by decide +kernel⟩, List.mem_of_getElem? (i := 1002) (by decide +kernel), List.mem_of_getElem? (i := 1299) (by decide +kernel), List.mem_of_getElem? (i := 1300) (by decide +kernel)⟩
theorem lw_p84 : lw_okq (⟨"PetitionDeskModel", "count", "(I)I"⟩, 21) := ⟨⟨by decide +kernel, by decide +kernel⟩, List.mem_of_getElem? (i := 1002) (by decide +kernel), List.mem_of_getElem? (i := 1331) (by decide +kernel), List.mem_of_getElem? (i := 1332) (by decide +kernel)⟩
theorem lw_p85 : lw_okq (⟨"PetitionDeskModel", "sizeOf", "(I)I"⟩, 21) := ⟨⟨by decide +kernel, by decide +kernel⟩, List.mem_of_getElem? (i := 1002) (by decide +kernel), List.mem_of_getElem? (i := 1343) (by decide +kernel), List.mem_of_getElem? (i := 1344) (by decide +kernel)⟩
theorem lw_p86 : lw_okq (⟨"PetitionDeskModel", "pairsIn", "(I)I"⟩, 21) := ⟨⟨by decide +kernel, by decide +kernel⟩, List.mem_of_getElem? (i := 1002) (by decide +kernel), List.mem_of_getElem? (i := 1347) (by decide +kernel), List.mem_of_getElem? (i := 1348) (by decide +kernel)⟩
theorem lw_p87 : lw_okq (⟨"PetitionDeskModel", "lowOf", "(II)I"⟩, 21) := ⟨⟨by decide +kernel, by decide +kernel⟩, List.mem_of_getElem? (i := 1002) (by decide +kernel), List.mem_of_getElem? (i := 1351) (by decide +kernel), List.mem_of_getElem? (i := 1352) (by decide +kernel)⟩
theorem lw_p88 : lw_okq (⟨"PetitionDeskModel", "waysBy", "(IIII)J"⟩, 21) := ⟨⟨by decide +kernel, by decide +kernel⟩, List.mem_of_getElem? (i := 1002) (by decide +kernel), List.mem_of_getElem? (i := 1355) (by decide +kernel), List.mem_of_getElem? (i := 1356) (by decide +kernel)⟩
theorem lw_p89 : lw_okq (⟨"PetitionDeskModel", "isMuch", "(JI)Z"⟩, 21) := ⟨⟨by decide +kernel, by decide +kernel⟩, List.mem_of_getElem? (i := 1002) (by decide +kernel), List.mem_of_getElem? (i := 1362) (by decide +kernel), List.mem_of_getElem? (i := 1363) (by decide +kernel)⟩
theorem lw_p90 : lw_okq (⟨"PetitionDeskModel", "highOf", "(II)I"⟩, 21) := ⟨⟨by decide +kernel, by decide +kernel⟩, List.mem_of_getElem? (i := 1002) (by decide +kernel), List.mem_of_getElem? (i := 1367) (by decide +kernel), List.mem_of_getElem? (i := 1368) (by decide +kernel)⟩
theorem lw_p91 : lw_okq (⟨"PetitionDeskModel", "votersIn", "(I)I"⟩, 21) := ⟨⟨by decide +kernel, by decide +kernel⟩, List.mem_of_getElem? (i := 1002) (by decide +kernel), List.mem_of_getElem? (i := 1382) (by decide +kernel), List.mem_of_getElem? (i := 1383) (by decide +kernel)⟩
theorem lw_p92 : lw_okq (⟨"PetitionDeskModel", "adds", "(II)V"⟩, 21) := ⟨⟨by decide +kernel, by decide +kernel⟩, List.mem_of_getElem? (i := 1002) (by decide +kernel), List.mem_of_getElem? (i := 1393) (by decide +kernel), List.mem_of_getElem? (i := 1394) (by decide +kernel)⟩
def lw_privs_6 : List (MethodName × Nat) := [(⟨"PetitionDeskModel", "spotOf", "(II)I"⟩, 21), (⟨"PetitionDeskModel", "moves", "(II)V"⟩, 21), (⟨"PetitionDeskModel", "emptiesSamples", "()V"⟩, 21), (⟨"PetitionDeskModel", "isLine", "(II)Z"⟩, 21), (⟨"PetitionDeskModel", "count", "(I)I"⟩, 21), (⟨"PetitionDeskModel", "sizeOf", "(I)I"⟩, 21), (⟨"PetitionDeskModel", "pairsIn", "(I)I"⟩, 21), (⟨"PetitionDeskModel", "lowOf", "(II)I"⟩, 21), (⟨"PetitionDeskModel", "waysBy", "(IIII)J"⟩, 21), (⟨"PetitionDeskModel", "isMuch", "(JI)Z"⟩, 21), (⟨"PetitionDeskModel", "highOf", "(II)I"⟩, 21), (⟨"PetitionDeskModel", "votersIn", "(I)I"⟩, 21), (⟨"PetitionDeskModel", "adds", "(II)V"⟩, 21)]
theorem lw_r6 : ∀ q ∈ lw_privs_6, lw_okq q := List.forall_mem_cons.mpr ⟨lw_p80, List.forall_mem_cons.mpr ⟨lw_p81, List.forall_mem_cons.mpr ⟨lw_p82, List.forall_mem_cons.mpr ⟨lw_p83, List.forall_mem_cons.mpr ⟨lw_p84, List.forall_mem_cons.mpr ⟨lw_p85, List.forall_mem_cons.mpr ⟨lw_p86, List.forall_mem_cons.mpr ⟨lw_p87, List.forall_mem_cons.mpr ⟨lw_p88, List.forall_mem_cons.mpr ⟨lw_p89, List.forall_mem_cons.mpr ⟨lw_p90, List.forall_mem_cons.mpr ⟨lw_p91, List.forall_mem_cons.mpr ⟨lw_p92, fun _ h => absurd h List.not_mem_nil⟩⟩⟩⟩⟩⟩⟩⟩⟩⟩⟩⟩⟩
def lw_privs : List (MethodName × Nat) := lw_privs_1 ++ (lw_privs_2 ++ (lw_privs_3 ++ (lw_privs_4 ++ (lw_privs_5 ++ (lw_privs_6)))))
def lw_tbl : List Cond := k2_sels lw_privs ++ tables_1
theorem lw_privs_ok : ∀ q ∈ lw_privs, lw_okq q := by
  show ∀ q ∈ lw_privs_1 ++ (lw_privs_2 ++ (lw_privs_3 ++ (lw_privs_4 ++ (lw_privs_5 ++ (lw_privs_6))))), lw_okq q
  exact List.forall_mem_append.mpr ⟨lw_r1, List.forall_mem_append.mpr ⟨lw_r2, List.forall_mem_append.mpr ⟨lw_r3, List.forall_mem_append.mpr ⟨lw_r4, List.forall_mem_append.mpr ⟨lw_r5, lw_r6⟩⟩⟩⟩⟩
end
section
/-! ===== BEGIN words of one list among another's, by their places ===== -/
theorem goodIn_r {big : List Cond} (ws : List Cond) (ps : List Nat) (hp : ws = ps.filterMap (fun i => big[i]?)) (h : ws.all goodWord = true) : GoodIn big ws := by
  intro w hw
  have h1 := List.all_eq_true.mp h w hw
  rw [hp] at hw
  obtain ⟨i, -, hi⟩ := List.mem_filterMap.mp hw
  have hm : w ∈ big := by first | exact List.mem_of_getElem? hi | exact List.getElem?_mem hi
  exact ⟨hm, good_of_word h1⟩
theorem goodIn_app {big a b : List Cond} (ha : GoodIn big a) (hb : GoodIn big b) : GoodIn big (a ++ b) := fun w h => (List.mem_append.mp h).elim (ha w) (hb w)
theorem goodIn_ca {big a b : List Cond} {c : Cond} (ha : GoodIn big (c :: a)) (hb : GoodIn big b) : GoodIn big (c :: (a ++ b)) := fun w h => (List.mem_cons.mp h).elim (fun e => ha w (List.mem_cons.mpr (Or.inl e))) (fun h => (List.mem_append.mp h).elim (fun h => ha w (List.mem_cons.mpr (Or.inr h))) (hb w))
theorem goodIn_sub {big ws : List Cond} (hm : ∀ w ∈ ws, w ∈ big) (h : ws.all goodWord = true) : GoodIn big ws := fun w hw => ⟨hm w hw, good_of_word (List.all_eq_true.mp h w hw)⟩
/-! ===== END ===== -/


/-! ===== BEGIN exceptions that leave a method, and their catching by the caller (launches without stack traces) ===== -/
section VXA
/-! The laws vx_back, vx_callV, vx_callS, vx_callSW, vx_throw0, vx_throwS follow proofs of the library, with one case more: JvmDerived/Free/Laws.lean (Back.of_free), Shelf42/LK1.lean (callV, callS), Shelf/KitTraced.lean (throwNew0V, throwNewS). -/
/-- where a method has thrown q: the class by its name, the cell, what was written, the world -/
def vx_T (XC : String → State → State → Prop) (st : State) (q : Addr) (t : State) (mc ms : Nat) (free : Addr → Prop) : Prop :=
  ∃ (E : String) (ce : Cell) (L : List Loc), XC E st t ∧ t.heap[q]? = some ce ∧ ce.vm = .none ∧ st.vm.findClass E = some ce.cls ∧ st.WarmedH t.vm ∧ st.sameButNew ({ t with vm := st.vm } : State) L mc ms ∧ ∀ z ∈ L, free z.base
def vx_Q (Qc : Array Value → State → Outcome → State → Prop) (XC : String → State → State → Prop) (mc ms : Nat) (free : Addr → Prop) : Array Value → State → Outcome → State → Prop := fun a st o t =>
  (Qc a st o t ∧ ∃ L, FrameEnd st o t L mc ms ∧ ∀ q ∈ L, free q.base) ∨ ∃ q, o = .threw q ∧ vx_T XC st q t mc ms free
/-- a callee that returns or throws -/
def vx_Met (l : Launch) (y : MethodName) (ws : List Cond) (rm : Room) (Pc : Array Value → State → Prop) (Qc : Array Value → State → Outcome → State → Prop) (XC : String → State → State → Prop) (mc ms : Nat) (free : Addr → Prop) : Prop :=
  MetFree l y (headSpec ws rm) Pc (fun _ _ _ _ _ => True) (vx_Q Qc XC mc ms free)
def vx_Post (XC : String → State → State → Prop) (mc ms : Nat) (free : Addr → Prop) : Pt → Array Value → Addr → Pt → Prop := fun A a q B =>
  ∃ (g : JFrame) (mk : MethodId) (t : State) (L : List Loc) (E : String) (ce : Cell), B.U.heap = t.heap ∧ B.U.vm = t.vm ∧ XC E (A.U.calling g mk a) t ∧ t.heap[q]? = some ce ∧ ce.vm = .none ∧ A.U.vm.findClass E = some ce.cls ∧ B.locs = A.locs ++ L ∧ (∀ z ∈ L, free z.base) ∧ B.cells = A.cells + mc ∧ B.slots = A.slots + ms
def vx_Back (l : Launch) (R : Room) (p : Program) (e : Env) (below : List Frame) (s : State) (sargs : Array Value) (y : MethodName) (len W9 : Nat)
    (Pre : Pt → Array Value → Prop) (Post : Pt → Array Value → Option Value → Pt → Prop) (PostX : Pt → Array Value → Addr → Pt → Prop) : Prop :=
  ∀ (m : MethodId) (meth : Method) (c : Code) (A : Pt) (g : JFrame) (ig : Instr) (mk : MethodId) (a : Array Value),
    Stand p l e R s m sargs below meth c A.U A.locs A.cells A.slots → g.method = m → g.locals.size = c.maxLocals → decode c.code g.pc = .ok (ig, len) →
    2 * g.monitorRoom + (g.stack.map fun v => v.category).sum ≤ W9 → A.U.methodNamed? y = some mk → Pre A a →
    (∃ (v : Option Value) (B : Pt), Stand p l e R s m sargs below meth c B.U B.locs B.cells B.slots ∧ Post A a v B ∧
      Steps p.tables e below (doInvoke e (A.U.setTop g) [] mk a).1 (B.U.setTop { g with pc := g.pc + len, stack := v.toList ++ g.stack })) ∨
    (∃ (q : Addr) (B : Pt), Stand p l e R s m sargs below meth c B.U B.locs B.cells B.slots ∧ PostX A a q B ∧
      Steps p.tables e below (doInvoke e (A.U.setTop g) [] mk a).1 ((B.U.setTop g).pushFrame (.throwing q)))
section Payer
variable {l : Launch} {R : Room} {p : Program} {e : Env} {below : List Frame} {s : State} {sargs : Array Value} {y : MethodName} {len W9 : Nat}
theorem vx_back {ws : List Cond} {rm : Room} {Pc : Array Value → State → Prop} {Qc : Array Value → State → Outcome → State → Prop} {XC : String → State → State → Prop} {mc ms : Nat} {free : Addr → Prop} {bytes : ByteArray} {maxL : Nat} {ret : Option FieldType}
    (hM : vx_Met l y ws rm Pc Qc XC mc ms free) (hblind : FrameBlind Pc) (hrc : rm.cells = mc) (hrs : rm.slots = ms)
    (hframes : rm.frames + 1 ≤ R.frames) (hlocals : W9 + (maxL + 11) + rm.locals ≤ R.locals)
    (hws : ∀ w ∈ ws, ∀ a' U, s.WarmedH U.vm → w.before a' U = true) (hcode : Cond.code y bytes maxL ret ∈ ws) (hinit : ∀ a' U, s.WarmedH U.vm → (Cond.initialized y.cls).before a' U = true) :
    vx_Back l R p e below s sargs y len W9 (PreOf R mc ms Pc) (PostOf Qc mc ms free) (vx_Post XC mc ms free) := by
  intro m meth c A g ig mk a X hg hsize hdg hW hn hp
  have h1 : (headSpec ws rm).pre.before a A.U = true := atoms_intro fun w hw => hws w hw _ _ X.warmed
  have h2 : (Cond.code y bytes maxL ret).before a A.U = true := hws _ hcode _ _ X.warmed
  have h3 : (Cond.initialized y.cls).before a A.U = true := hinit _ _ X.warmed
  have h4 : A.cells + (headSpec ws rm).room.cells ≤ R.cells := by rw [show (headSpec ws rm).room.cells = mc from hrc]; exact hp.1
  have h5 : A.slots + (headSpec ws rm).room.slots ≤ R.slots := by rw [show (headSpec ws rm).room.slots = ms from hrs]; exact hp.2.1
  have hPc : Pc a (A.U.calling g mk a) := hblind _ _ _ _ hp.2.2
  obtain ⟨U, Ls, c0, s0⟩ := A
  dsimp only [Pt.U, Pt.locs, Pt.cells, Pt.slots] at h1 h2 h3 h4 h5 X hn hPc ⊢
  obtain ⟨methY, cY, hmY, hcY, -, hlY, -, -, -, -⟩ := Cond.code_spec hn h2
  obtain ⟨kY, hkY, -⟩ := className_of_methodNamed hn
  have hinitY : kY.init = .initialized := Cond.initialized_spec (findClass_of_methodNamed hn) hkY h3
  have h : At U g.method c below := by rw [hg]; exact X.here
  have hlocals9 : W9 + (maxL + 11) + (headSpec ws rm).room.locals ≤ R.locals := hlocals
  have happ : (headSpec ws rm).appliesLoose y e.platform (U.calling g mk a) = true :=
    Spec.appliesLoose_calling (g := g) h hdg hn hkY hinitY
      (X.room_calling (g := g) (R' := (headSpec ws rm).room) hsize hmY hcY hframes (by rw [hlY]; omega) h4 h5) h1
  obtain ⟨mid, hmid⟩ := h.above
  have hfr : (U.setTop g).frames = (.java g :: mid) ++ below := by rw [State.frames_setTop' g h.top, hmid]; rfl
  obtain ⟨o, s₂, hsteps, -, hend, hq⟩ := Steps.callFree hM p X.admits X.cas X.clock (acts := []) hfr happ hPc trivial
  have hq' : vx_Q Qc XC mc ms free a (U.calling g mk a) o s₂ := hq
  rw [State.frames_setTop' g h.top] at hend
  obtain ⟨g₀, hg0⟩ := Option.isSome_iff_exists.mp h.top
  obtain ⟨r, hr⟩ := State.topJava?_eq_some.mp hg0
  have hr' : (({ U with heap := s₂.heap, slotsUsed := s₂.slotsUsed } : State).setVm s₂.vm).frames = .java g₀ :: r := hr
  rcases hq' with ⟨hqc, L, hfe, hL⟩ | ⟨q, rfl, E, ce, L, hx, hce, hcv, hcl, hW₂, hsm, hL⟩
  · obtain ⟨⟨v, rfl⟩, hW₂, e2, q2, q3, q4, q5, q6⟩ := id hfe
    have e3 : s₂ = ({ (U.calling g mk a).setFrames s₂.frames with heap := s₂.heap, slotsUsed := s₂.slotsUsed } : State).setVm s₂.vm := by
      have : s₂ = ({ s₂ with vm := (U.calling g mk a).vm } : State).setVm s₂.vm := rfl
      rw [e2] at this
      exact this
    obtain ⟨c₂, i₂, len₂, hc₂, hd₂, hf₂⟩ := hend
    have hW' : U.WarmedH s₂.vm := hW₂
    have hcc : c₂ = c := by
      have h1 : s₂.code? g.method = U.code? g.method := by
        rw [State.code?_eq, State.code?_eq, hW'.alike.method?]
      exact Option.some.inj (hc₂.symm.trans (h1.trans h.code))
    subst hcc
    have hlen : len₂ = len := by rw [hdg] at hd₂; cases hd₂; rfl
    subst hlen
    have hs₂ : s₂ = (({ U with heap := s₂.heap, slotsUsed := s₂.slotsUsed } : State).setVm s₂.vm).setTop { g with pc := g.pc + len₂, stack := v.toList ++ g.stack } := by
      refine e3.trans ?_
      rw [hf₂, State.calling_eq h.top, State.setFrames_setFrames, State.setTop_of_frames _ hr', hr]
      rfl
    have hsame : U.sameButNew ({ U with heap := s₂.heap, slotsUsed := s₂.slotsUsed } : State) L mc ms := by
      refine ⟨?_, q2, q3, q4, q5, q6⟩
      obtain ⟨t, ht, -⟩ := State.frames_cons hr
      show ({ U with heap := s₂.heap, slotsUsed := s₂.slotsUsed } : State) = { U.setFrames U.frames with heap := s₂.heap, slotsUsed := s₂.slotsUsed }
      rw [State.setFrames_self ht]
    subst hg
    refine Or.inl ⟨v, ⟨(({ U with heap := s₂.heap, slotsUsed := s₂.slotsUsed } : State).setVm s₂.vm), Ls ++ L, c0 + mc, s0 + ms⟩,
      ⟨X.admits, X.cas, X.clock, X.frames, X.room, X.hears, X.method, X.code, (X.here.setHeapUsed s₂.heap s₂.slotsUsed).setVm hW'.alike, X.tail, State.WarmedH.trans X.warmed hW', X.limits, X.bytes, X.same.trans (hsame.setVm s.vm)⟩,
      ⟨g, mk, s₂, L, rfl, rfl, hqc, rfl, hL, rfl, rfl⟩, ?_⟩
    show Steps p.tables e below _ ((({ U with heap := s₂.heap, slotsUsed := s₂.slotsUsed } : State).setVm s₂.vm).setTop { g with pc := g.pc + len₂, stack := v.toList ++ g.stack })
    rw [← hs₂]
    exact hsteps
  · obtain ⟨e2, q2, q3, q4, q5, q6⟩ := id hsm
    have e3 : s₂ = ({ (U.calling g mk a).setFrames s₂.frames with heap := s₂.heap, slotsUsed := s₂.slotsUsed } : State).setVm s₂.vm := by
      have : s₂ = ({ s₂ with vm := (U.calling g mk a).vm } : State).setVm s₂.vm := rfl
      rw [e2] at this
      exact this
    have hf₂ : s₂.frames = .throwing q :: .java g :: U.frames.tail := hend
    have hW' : U.WarmedH s₂.vm := hW₂
    have hs₂ : s₂ = ((({ U with heap := s₂.heap, slotsUsed := s₂.slotsUsed } : State).setVm s₂.vm).setTop g).pushFrame (.throwing q) := by
      refine e3.trans ?_
      rw [hf₂, State.calling_eq h.top, State.setFrames_setFrames, State.pushFrame, State.frames_setTop _ hr', State.setTop_of_frames _ hr', State.setFrames_setFrames, hr]
      rfl
    have hsame : U.sameButNew ({ U with heap := s₂.heap, slotsUsed := s₂.slotsUsed } : State) L mc ms := by
      refine ⟨?_, q2, q3, q4, q5, q6⟩
      obtain ⟨t, ht, -⟩ := State.frames_cons hr
      show ({ U with heap := s₂.heap, slotsUsed := s₂.slotsUsed } : State) = { U.setFrames U.frames with heap := s₂.heap, slotsUsed := s₂.slotsUsed }
      rw [State.setFrames_self ht]
    subst hg
    refine Or.inr ⟨q, ⟨(({ U with heap := s₂.heap, slotsUsed := s₂.slotsUsed } : State).setVm s₂.vm), Ls ++ L, c0 + mc, s0 + ms⟩,
      ⟨X.admits, X.cas, X.clock, X.frames, X.room, X.hears, X.method, X.code, (X.here.setHeapUsed s₂.heap s₂.slotsUsed).setVm hW'.alike, X.tail, State.WarmedH.trans X.warmed hW', X.limits, X.bytes, X.same.trans (hsame.setVm s.vm)⟩,
      ⟨g, mk, s₂, L, E, ce, rfl, rfl, hx, hce, hcv, hcl, rfl, hL, rfl, rfl⟩, ?_⟩
    show Steps p.tables e below _ (((({ U with heap := s₂.heap, slotsUsed := s₂.slotsUsed } : State).setVm s₂.vm).setTop g).pushFrame (.throwing q))
    rw [← hs₂]
    exact hsteps
end Payer
section Calls
variable {p : Program} {l : Launch} {e : Env} {R : Room} {s : State} {m : MethodId} {args : Array Value} {below : List Frame} {meth : Method} {c : Code} {T : State} {locs : List Loc} {cells slots : Nat}
theorem vx_callV (X : Stand p l e R s m args below meth c T locs cells slots) (hexec : p.tables.exec = Jvm.exec) {own C : String} {index : Nat} {y : MethodName} {bytes : ByteArray} {maxL : Nat} {ret : Option FieldType}
    (hown : s.vm.findClass own = some m.cls) (hlink : (Cond.methodLink own index y).before args s = true) (hinst : (Cond.instanceMethod y).before args s = true) (hsel : (Cond.selects C y y).before args s = true)
    (hcode : (Cond.code y bytes maxL ret).before args s = true) (hy : y.cls ≠ "java/lang/invoke/MethodHandle" ∧ y.cls ≠ "java/lang/invoke/VarHandle")
    {W9 : Nat} {Pre : Pt → Array Value → Prop} {Post : Pt → Array Value → Option Value → Pt → Prop} {PostX : Pt → Array Value → Addr → Pt → Prop} (hK : vx_Back l R p e below s args y 3 W9 Pre Post PostX)
    {b : Addr} {cellB : Cell} (hcell : T.heap[b]? = some cellB) (hobj : cellB.vm.isStatics = false) (hcls : s.vm.findClass C = some cellB.cls)
    {g : JFrame} (hg : g.method = m) (hsize : g.locals.size = c.maxLocals) {argsL rest : List Value} (hlen : ∀ sig, parseMethodDescriptor y.desc = some sig → argsL.length = sig.parameters.length)
    (hstack : g.stack = argsL.reverse ++ .ref b :: rest) (hW : 2 * g.monitorRoom + (rest.map fun v => v.category).sum ≤ W9) (hdg : decode c.code g.pc = .ok (.invokevirtual index, 3))
    (hpre : ∀ vm₁, s.WarmedH vm₁ → Pre ⟨T.setVm vm₁, locs, cells, slots⟩ (Value.ref b :: argsL).toArray) :
    (∃ (v : Option Value) (vm₁ : Vm) (B : Pt), s.WarmedH vm₁ ∧ Stand p l e R s m args below meth c B.U B.locs B.cells B.slots ∧ Post ⟨T.setVm vm₁, locs, cells, slots⟩ (Value.ref b :: argsL).toArray v B ∧
      ∀ target, Steps p.tables e below (B.U.setTop { g with pc := g.pc + 3, stack := v.toList ++ rest }) target → Steps p.tables e below (T.setTop g) target) ∨
    (∃ (q : Addr) (vm₁ : Vm) (B : Pt), s.WarmedH vm₁ ∧ Stand p l e R s m args below meth c B.U B.locs B.cells B.slots ∧ PostX ⟨T.setVm vm₁, locs, cells, slots⟩ (Value.ref b :: argsL).toArray q B ∧
      Steps p.tables e below (T.setTop g) ((B.U.setTop { g with stack := rest }).pushFrame (.throwing q))) := by
  obtain ⟨mk, methM, hnamed, hmethM, hstM, habM⟩ := Cond.instanceMethod_spec hinst
  obtain ⟨methM', cM, hmethM', -, -, -, -, -, -, hsigM⟩ := Cond.code_spec hnamed hcode
  cases hmethM.symm.trans hmethM'
  obtain ⟨c2, r2, m2, q1, q2, q3, q4, kP, hkP, hkPi⟩ := Cond.selects_spec hsel
  cases hcls.symm.trans q1
  cases (State.methodFound?_of_named hnamed hy).symm.trans q2
  cases hnamed.symm.trans q3
  have hselP : selectMethod e.platform s.vm cellB.cls mk = .method mk := by rw [Launch.admits_selectMethod X.admits]; exact q4
  obtain ⟨vm₁, X₁, hstep₁⟩ := X.invokevirtual hexec hown hlink hnamed hmethM hstM hkP hkPi hy (a := b) (cell := cellB) hcell
    (fun z h => by rw [h] at hobj; cases hobj) hselP hmethM habM hkP hkPi (g := g) hg (argsL := argsL) (rest := rest) (hlen _ hsigM) hstack hdg
  rcases hK m meth c ⟨T.setVm vm₁, locs, cells, slots⟩ { g with stack := rest } (.invokevirtual index) mk (Value.ref b :: argsL).toArray X₁ hg hsize hdg hW (X₁.named hnamed) (hpre vm₁ X₁.warmed) with ⟨v, B, X', hpost, hsteps⟩ | ⟨q, B, X', hpost, hsteps⟩
  · exact Or.inl ⟨v, vm₁, B, X₁.warmed, X', hpost, fun target h => hstep₁ _ fun acts => by rw [doInvoke_state]; exact hsteps.trans h⟩
  · exact Or.inr ⟨q, vm₁, B, X₁.warmed, X', hpost, hstep₁ _ fun acts => by rw [doInvoke_state]; exact hsteps⟩
theorem vx_callS (X : Stand p l e R s m args below meth c T locs cells slots) (hexec : p.tables.exec = Jvm.exec) {own : String} {index : Nat} {y : MethodName} {bytes : ByteArray} {maxL : Nat} {ret : Option FieldType}
    (hown : s.vm.findClass own = some m.cls) (hlink : (Cond.methodLink own index y).before args s = true) (hstat : (Cond.static y).before args s = true) (hinit : (Cond.initialized y.cls).before args s = true)
    (hcode : (Cond.code y bytes maxL ret).before args s = true) (hy : y.cls ≠ "java/lang/invoke/MethodHandle" ∧ y.cls ≠ "java/lang/invoke/VarHandle")
    {W9 : Nat} {Pre : Pt → Array Value → Prop} {Post : Pt → Array Value → Option Value → Pt → Prop} {PostX : Pt → Array Value → Addr → Pt → Prop} (hK : vx_Back l R p e below s args y 3 W9 Pre Post PostX)
    {g : JFrame} (hg : g.method = m) (hsize : g.locals.size = c.maxLocals) {argsL rest : List Value} (hlen : ∀ sig, parseMethodDescriptor y.desc = some sig → argsL.length = sig.parameters.length)
    (hstack : g.stack = argsL.reverse ++ rest) (hW : 2 * g.monitorRoom + (rest.map fun v => v.category).sum ≤ W9) (hdg : decode c.code g.pc = .ok (.invokestatic index, 3))
    (hpre : ∀ vm₁, s.WarmedH vm₁ → Pre ⟨T.setVm vm₁, locs, cells, slots⟩ argsL.toArray) :
    (∃ (v : Option Value) (vm₁ : Vm) (B : Pt), s.WarmedH vm₁ ∧ Stand p l e R s m args below meth c B.U B.locs B.cells B.slots ∧ Post ⟨T.setVm vm₁, locs, cells, slots⟩ argsL.toArray v B ∧
      ∀ target, Steps p.tables e below (B.U.setTop { g with pc := g.pc + 3, stack := v.toList ++ rest }) target → Steps p.tables e below (T.setTop g) target) ∨
    (∃ (q : Addr) (vm₁ : Vm) (B : Pt), s.WarmedH vm₁ ∧ Stand p l e R s m args below meth c B.U B.locs B.cells B.slots ∧ PostX ⟨T.setVm vm₁, locs, cells, slots⟩ argsL.toArray q B ∧
      Steps p.tables e below (T.setTop g) ((B.U.setTop { g with stack := rest }).pushFrame (.throwing q))) := by
  obtain ⟨mk, hnamed⟩ := Cond.code_named hcode
  obtain ⟨methM, cM, hmethM, -, -, -, -, -, -, hsigM⟩ := Cond.code_spec hnamed hcode
  have hstatic : methM.isStatic = true := Cond.static_spec hnamed hmethM hstat
  obtain ⟨kP, hkP, -⟩ := className_of_methodNamed hnamed
  have hinitP : kP.init = .initialized := Cond.initialized_spec (findClass_of_methodNamed hnamed) hkP hinit
  obtain ⟨vm₁, X₁, hstep₁⟩ := X.invokestatic hexec hown hlink hnamed hmethM hstatic hkP hinitP hy (g := g) hg (argsL := argsL) (rest := rest) (hlen _ hsigM) hstack hdg
  rcases hK m meth c ⟨T.setVm vm₁, locs, cells, slots⟩ { g with stack := rest } (.invokestatic index) mk argsL.toArray X₁ hg hsize hdg hW (X₁.named hnamed) (hpre vm₁ X₁.warmed) with ⟨v, B, X', hpost, hsteps⟩ | ⟨q, B, X', hpost, hsteps⟩
  · exact Or.inl ⟨v, vm₁, B, X₁.warmed, X', hpost, fun target h => hstep₁ _ fun acts => by rw [doInvoke_state]; exact hsteps.trans h⟩
  · exact Or.inr ⟨q, vm₁, B, X₁.warmed, X', hpost, hstep₁ _ fun acts => by rw [doInvoke_state]; exact hsteps⟩
end Calls
theorem vx_cls {s : State} {T : State} {vm₁ : Vm} {E : String} {k : ClassId} (hW : s.WarmedH vm₁) (h : (T.setVm vm₁).vm.findClass E = some k) : s.vm.findClass E = some k := by
  have h1 : vm₁.findClass E = some k := h
  rw [hW.alike.findClass] at h1
  exact h1
/-- the method's frame g, with q thrown over it -/
def vx_W (p : Program) (l : Launch) (e : Env) (R : Room) (s : State) (m : MethodId) (args : Array Value) (below : List Frame) (meth : Method) (c : Code) (H : Heap) (locs : List Loc) (cells slots : Nat) (Q : State → Prop) (g : JFrame) (q : Addr) : Prop :=
  ∀ T : State, T.heap = H → Stand p l e R s m args below meth c T locs cells slots → ∃ t, Steps p.tables e below ((T.setTop g).pushFrame (.throwing q)) t ∧ Q t
def vx_Run (p : Program) (l : Launch) (e : Env) (R : Room) (s : State) (m : MethodId) (args : Array Value) (below : List Frame) (meth : Method) (c : Code) (H : Heap) (locs : List Loc) (cells slots mc ms : Nat) (g : JFrame) (rest : List Value) (Qa : State → Outcome → State → Prop) (XC : String → State → State → Prop) (free : Addr → Prop) : Prop :=
  ∀ T : State, T.heap = H → Stand p l e R s m args below meth c T locs cells slots →
    (∃ (v : Option Value) (st₀ t T' : State) (L : List Loc), st₀.heap = H ∧ Stand p l e R s m args below meth c T' (locs ++ L) (cells + mc) (slots + ms) ∧ (∀ q ∈ L, free q.base) ∧ T'.heap = t.heap ∧ T'.vm = t.vm ∧ Qa st₀ (.returned v) t ∧
      Goes p e below T g T' { g with pc := g.pc + 3, stack := v.toList ++ rest }) ∨
    (∃ (q : Addr) (st₀ t T' : State) (L : List Loc) (E : String) (ce : Cell), st₀.heap = H ∧ Stand p l e R s m args below meth c T' (locs ++ L) (cells + mc) (slots + ms) ∧ (∀ z ∈ L, free z.base) ∧ T'.heap = t.heap ∧ T'.vm = t.vm ∧ XC E st₀ t ∧ t.heap[q]? = some ce ∧ ce.vm = .none ∧ s.vm.findClass E = some ce.cls ∧
      Steps p.tables e below (T.setTop g) ((T'.setTop { g with stack := rest }).pushFrame (.throwing q)))
def vx_X {S : Type} (px : S → Prop) (B : String → S → State → Prop) (A : Nat → Prop) : String → State → State → Prop := fun E st t => ∃ u : S, px u ∧ B E u t ∧ va_F A st t
section Runs
variable {p : Program} {l : Launch} {e : Env} {R : Room} {s : State} {m : MethodId} {args : Array Value} {below : List Frame} {meth : Method} {c : Code} {H : Heap} {locs : List Loc} {cells slots : Nat}
variable {y : MethodName} {bytes cc : ByteArray} {maxL nL mc ms n index : Nat} {ret : Option FieldType} {ws : List Cond} {rm : Room} {Pc : Array Value → State → Prop} {Qc : Array Value → State → Outcome → State → Prop} {XC : String → State → State → Prop} {free : Addr → Prop} {Ts : List Cond} {own C : String} {b : Addr} {As rest : List Value} {g : JFrame}
theorem vx_callBack (cb : CallB R s args own index y bytes maxL ret ws rm mc ms n) (hM : vx_Met l y ws rm Pc Qc XC mc ms free) (hbl : FrameBlind Pc) : vx_Back l R p e below s args y 3 8 (PreOf R mc ms Pc) (PostOf Qc mc ms free) (vx_Post XC mc ms free) := by
  obtain ⟨hrc, hrs, hfr, hlo, hws, hcw, -, hini, -⟩ := cb
  exact vx_back (bytes := bytes) (maxL := maxL) (ret := ret) hM hbl hrc hrs hfr hlo hws hcw (fun a' U hW => word_at hW (Or.inl (by first | rfl | simp [Cond.onTables, Cond.keeps, Cond.steady])) hini)
theorem vx_runV (S : CallFix p m c cc nL s args Ts own) (hM : vx_Met l y ws rm Pc Qc XC mc ms free) (cw : CallW R s args own C index y bytes maxL ret ws rm mc ms n) (hp : PreV s H C b Pc As)
    (hg : g.method = m) (hn : As.length = n) (hsize : g.locals.size = nL) (hstack : g.stack = As.reverse ++ .ref b :: rest) (hW : 2 * g.monitorRoom + (rest.map fun v => v.category).sum ≤ 8) (hdg : decode cc g.pc = .ok (.invokevirtual index, 3)) (hf : cells + mc ≤ R.cells ∧ slots + ms ≤ R.slots) :
    vx_Run p l e R s m args below meth c H locs cells slots mc ms g rest (Qc (Value.ref b :: As).toArray) XC free := by
  have hK : vx_Back l R p e below s args y 3 8 (PreOf R mc ms Pc) (PostOf Qc mc ms free) (vx_Post XC mc ms free) := vx_callBack cw.1 hM hp.1
  obtain ⟨⟨-, -, -, -, -, -, hcode, -, hy, hlen, hl⟩, hin, hse⟩ := cw
  obtain ⟨hx, hb, hml, ho, -⟩ := S
  obtain ⟨-, ⟨cellB, hcB, hoB, hclB⟩, hPc⟩ := hp
  intro T hT X
  rcases vx_callV X hx (C := C) (bytes := bytes) (maxL := maxL) (ret := ret) ho hl hin hse hcode hy hK (by rw [hT]; exact hcB) hoB hclB hg (hsize.trans hml.symm) (argsL := As) (rest := rest) (fun sig h => hn.trans (hlen sig h)) hstack hW (by rw [hb]; exact hdg)
    (fun vm₁ hW₁ => ⟨hf.1, hf.2, hPc (T.setVm vm₁) hT hW₁⟩) with ⟨v, vm₁, ⟨U', l2, c2, s2⟩, hW₁, X', ⟨g', mk, t, L, e1, e2, hq, h1, hL, h2, h3⟩, st⟩ | ⟨q, vm₁, ⟨U', l2, c2, s2⟩, hW₁, X', ⟨g', mk, t, L, E, ce, e1, e2, hq, hce, hcv, hcl, h1, hL, h2, h3⟩, st⟩
  · dsimp only [Pt.U, Pt.locs, Pt.cells, Pt.slots] at X' e1 e2 h1 h2 h3 st
    subst h1; subst h2; subst h3
    exact Or.inl ⟨v, (T.setVm vm₁).calling g' mk (Value.ref b :: As).toArray, t, U', L, hT, X', hL, e1, e2, hq, st⟩
  · dsimp only [Pt.U, Pt.locs, Pt.cells, Pt.slots] at X' e1 e2 h1 h2 h3 st hcl
    subst h1; subst h2; subst h3
    exact Or.inr ⟨q, (T.setVm vm₁).calling g' mk (Value.ref b :: As).toArray, t, U', L, E, ce, hT, X', hL, e1, e2, hq, hce, hcv, vx_cls hW₁ hcl, st⟩
theorem vx_runS (S : CallFix p m c cc nL s args Ts own) (hM : vx_Met l y ws rm Pc Qc XC mc ms free) (cw : CallB R s args own index y bytes maxL ret ws rm mc ms n ∧ (Cond.static y).before args s = true) (hp : PreS s H Pc As)
    (hg : g.method = m) (hn : As.length = n) (hsize : g.locals.size = nL) (hstack : g.stack = As.reverse ++ rest) (hW : 2 * g.monitorRoom + (rest.map fun v => v.category).sum ≤ 8) (hdg : decode cc g.pc = .ok (.invokestatic index, 3)) (hf : cells + mc ≤ R.cells ∧ slots + ms ≤ R.slots) :
    vx_Run p l e R s m args below meth c H locs cells slots mc ms g rest (Qc As.toArray) XC free := by
  have hK : vx_Back l R p e below s args y 3 8 (PreOf R mc ms Pc) (PostOf Qc mc ms free) (vx_Post XC mc ms free) := vx_callBack cw.1 hM hp.1
  obtain ⟨⟨-, -, -, -, -, -, hcode, hini, hy, hlen, hl⟩, hstt⟩ := cw
  obtain ⟨hx, hb, hml, ho, -⟩ := S
  intro T hT X
  rcases vx_callS X hx (bytes := bytes) (maxL := maxL) (ret := ret) ho hl hstt hini hcode hy hK hg (hsize.trans hml.symm) (argsL := As) (rest := rest) (fun sig h => hn.trans (hlen sig h)) hstack hW (by rw [hb]; exact hdg)
    (fun vm₁ hW₁ => ⟨hf.1, hf.2, hp.2 (T.setVm vm₁) hT hW₁⟩) with ⟨v, vm₁, ⟨U', l2, c2, s2⟩, hW₁, X', ⟨g', mk, t, L, e1, e2, hq, h1, hL, h2, h3⟩, st⟩ | ⟨q, vm₁, ⟨U', l2, c2, s2⟩, hW₁, X', ⟨g', mk, t, L, E, ce, e1, e2, hq, hce, hcv, hcl, h1, hL, h2, h3⟩, st⟩
  · dsimp only [Pt.U, Pt.locs, Pt.cells, Pt.slots] at X' e1 e2 h1 h2 h3 st
    subst h1; subst h2; subst h3
    exact Or.inl ⟨v, (T.setVm vm₁).calling g' mk As.toArray, t, U', L, hT, X', hL, e1, e2, hq, st⟩
  · dsimp only [Pt.U, Pt.locs, Pt.cells, Pt.slots] at X' e1 e2 h1 h2 h3 st hcl
    subst h1; subst h2; subst h3
    exact Or.inr ⟨q, (T.setVm vm₁).calling g' mk As.toArray, t, U', L, E, ce, hT, X', hL, e1, e2, hq, hce, hcv, vx_cls hW₁ hcl, st⟩
end Runs
section Rows
variable {p : Program} {l : Launch} {e : Env} {R : Room} {s : State} {m : MethodId} {args : Array Value} {below : List Frame} {meth : Method} {c : Code} {H : Heap} {locs : List Loc} {cells slots : Nat} {Q : State → Prop}
variable {mc ms : Nat} {free : Addr → Prop} {A0 A1 : Nat → Prop} {H0 : Heap} {a : Array Value} {pc : Nat} {ls : Array Slot} {st0 rest : List Value}
theorem vx_keep {st₀ t T' : State} {L : List Loc} (h0 : st₀.heap = H) (e1 : T'.heap = t.heap) (hS : va_S A0 H0 H locs) (hA : ∀ q, q < H.size → A1 q → A0 q) (hf : ∀ q, free q → A0 q) (hL : ∀ q ∈ L, free q.base) (hF : va_F A1 st₀ t) :
    H.size ≤ T'.heap.size ∧ (∀ q : Nat, q < H.size → ¬ A1 q → T'.heap[q]? = H[q]?) ∧ va_S A0 H0 T'.heap (locs ++ L) := by
  obtain ⟨hz, hk⟩ := hF
  rw [h0] at hz hk
  exact ⟨by rw [e1]; exact hz, fun q h1 h2 => by rw [e1]; exact hk q h1 h2,
    ⟨Nat.le_trans hS.1 (by rw [e1]; exact hz), fun q h1 h2 => by rw [e1, hk q (Nat.lt_of_lt_of_le h1 hS.1) (fun z => h2 (hA q (Nat.lt_of_lt_of_le h1 hS.1) z))]; exact hS.2.1 q h1 h2, fun q hq => by
      rcases List.mem_append.mp hq with h | h
      · exact hS.2.2 q h
      · exact hf _ (hL q h)⟩⟩
theorem vx_calli {S SX : Type} {post : Int32 → S → Prop} {px : SX → Prop} {B : S → State → Prop} {BX : String → SX → State → Prop} {AX : Nat → Prop} (hr : vx_Run p l e R s m args below meth c H locs cells slots mc ms (F0 m pc ls st0) rest (va_Qi post B A1 a) (vx_X px BX AX) free) (hS : va_S A0 H0 H locs) (hA : ∀ q, q < H.size → A1 q → A0 q) (hf : ∀ q, free q → A0 q) (hAX : ∀ q, q < H.size → AX q → A0 q)
    (kx : ∀ (E : String) (ce : Cell) (q9 : Addr) (u : SX) (t : State) (H1 : Heap) (locs1 : List Loc), t.heap = H1 → s.vm.Alike t.vm → px u → BX E u t → H.size ≤ H1.size → (∀ q : Nat, q < H.size → ¬ AX q → H1[q]? = H[q]?) → va_S A0 H0 H1 locs1 → H1[q9]? = some ce → ce.vm = .none → s.vm.findClass E = some ce.cls → vx_W p l e R s m args below meth c H1 locs1 (cells + mc) (slots + ms) Q (F0 m pc ls rest) q9)
    (kk : ∀ (r : Int32) (u : S) (t : State) (H1 : Heap) (locs1 : List Loc), t.heap = H1 → s.vm.Alike t.vm → post r u → B u t → H.size ≤ H1.size → (∀ q : Nat, q < H.size → ¬ A1 q → H1[q]? = H[q]?) → va_S A0 H0 H1 locs1 → W p l e R s m args below meth c H1 locs1 (cells + mc) (slots + ms) Q (F0 m (pc + 3) ls (.int r :: rest))) : W p l e R s m args below meth c H locs cells slots Q (F0 m pc ls st0) := by
  intro T hT X
  rcases hr T hT X with ⟨v, st₀, t, T', L, h0, X', hL, e1, e2, ⟨⟨r, u, hv, hp, hb⟩, hF⟩, st⟩ | ⟨q, st₀, t, T', L, E, ce, h0, X', hL, e1, e2, ⟨u, hp, hb, hF⟩, hce, hcv, hcl, st⟩
  · cases hv
    obtain ⟨k1, k2, k3⟩ := vx_keep h0 e1 hS hA hf hL hF
    obtain ⟨t2, a1, b1⟩ := kk r u t T'.heap (locs ++ L) e1.symm (by rw [← e2]; exact X'.warmed.alike) hp hb k1 k2 k3 T' rfl X'
    exact ⟨t2, st t2 a1, b1⟩
  · obtain ⟨k1, k2, k3⟩ := vx_keep h0 e1 hS hAX hf hL hF
    obtain ⟨t2, a1, b1⟩ := kx E ce q u t T'.heap (locs ++ L) e1.symm (by rw [← e2]; exact X'.warmed.alike) hp hb k1 k2 k3 (by rw [e1]; exact hce) hcv hcl T' rfl X'
    exact ⟨t2, st.trans a1, b1⟩
theorem vx_calll {S SX : Type} {post : Int64 → S → Prop} {px : SX → Prop} {B : S → State → Prop} {BX : String → SX → State → Prop} {AX : Nat → Prop} (hr : vx_Run p l e R s m args below meth c H locs cells slots mc ms (F0 m pc ls st0) rest (va_Ql post B A1 a) (vx_X px BX AX) free) (hS : va_S A0 H0 H locs) (hA : ∀ q, q < H.size → A1 q → A0 q) (hf : ∀ q, free q → A0 q) (hAX : ∀ q, q < H.size → AX q → A0 q)
    (kx : ∀ (E : String) (ce : Cell) (q9 : Addr) (u : SX) (t : State) (H1 : Heap) (locs1 : List Loc), t.heap = H1 → s.vm.Alike t.vm → px u → BX E u t → H.size ≤ H1.size → (∀ q : Nat, q < H.size → ¬ AX q → H1[q]? = H[q]?) → va_S A0 H0 H1 locs1 → H1[q9]? = some ce → ce.vm = .none → s.vm.findClass E = some ce.cls → vx_W p l e R s m args below meth c H1 locs1 (cells + mc) (slots + ms) Q (F0 m pc ls rest) q9)
    (kk : ∀ (r : Int64) (u : S) (t : State) (H1 : Heap) (locs1 : List Loc), t.heap = H1 → s.vm.Alike t.vm → post r u → B u t → H.size ≤ H1.size → (∀ q : Nat, q < H.size → ¬ A1 q → H1[q]? = H[q]?) → va_S A0 H0 H1 locs1 → W p l e R s m args below meth c H1 locs1 (cells + mc) (slots + ms) Q (F0 m (pc + 3) ls (.long r :: rest))) : W p l e R s m args below meth c H locs cells slots Q (F0 m pc ls st0) := by
  intro T hT X
  rcases hr T hT X with ⟨v, st₀, t, T', L, h0, X', hL, e1, e2, ⟨⟨r, u, hv, hp, hb⟩, hF⟩, st⟩ | ⟨q, st₀, t, T', L, E, ce, h0, X', hL, e1, e2, ⟨u, hp, hb, hF⟩, hce, hcv, hcl, st⟩
  · cases hv
    obtain ⟨k1, k2, k3⟩ := vx_keep h0 e1 hS hA hf hL hF
    obtain ⟨t2, a1, b1⟩ := kk r u t T'.heap (locs ++ L) e1.symm (by rw [← e2]; exact X'.warmed.alike) hp hb k1 k2 k3 T' rfl X'
    exact ⟨t2, st t2 a1, b1⟩
  · obtain ⟨k1, k2, k3⟩ := vx_keep h0 e1 hS hAX hf hL hF
    obtain ⟨t2, a1, b1⟩ := kx E ce q u t T'.heap (locs ++ L) e1.symm (by rw [← e2]; exact X'.warmed.alike) hp hb k1 k2 k3 (by rw [e1]; exact hce) hcv hcl T' rfl X'
    exact ⟨t2, st.trans a1, b1⟩
theorem vx_callf {S SX : Type} {post : UInt32 → S → Prop} {px : SX → Prop} {B : S → State → Prop} {BX : String → SX → State → Prop} {AX : Nat → Prop} (hr : vx_Run p l e R s m args below meth c H locs cells slots mc ms (F0 m pc ls st0) rest (va_Qf post B A1 a) (vx_X px BX AX) free) (hS : va_S A0 H0 H locs) (hA : ∀ q, q < H.size → A1 q → A0 q) (hf : ∀ q, free q → A0 q) (hAX : ∀ q, q < H.size → AX q → A0 q)
    (kx : ∀ (E : String) (ce : Cell) (q9 : Addr) (u : SX) (t : State) (H1 : Heap) (locs1 : List Loc), t.heap = H1 → s.vm.Alike t.vm → px u → BX E u t → H.size ≤ H1.size → (∀ q : Nat, q < H.size → ¬ AX q → H1[q]? = H[q]?) → va_S A0 H0 H1 locs1 → H1[q9]? = some ce → ce.vm = .none → s.vm.findClass E = some ce.cls → vx_W p l e R s m args below meth c H1 locs1 (cells + mc) (slots + ms) Q (F0 m pc ls rest) q9)
    (kk : ∀ (r : UInt32) (u : S) (t : State) (H1 : Heap) (locs1 : List Loc), t.heap = H1 → s.vm.Alike t.vm → post r u → B u t → H.size ≤ H1.size → (∀ q : Nat, q < H.size → ¬ A1 q → H1[q]? = H[q]?) → va_S A0 H0 H1 locs1 → W p l e R s m args below meth c H1 locs1 (cells + mc) (slots + ms) Q (F0 m (pc + 3) ls (.float r :: rest))) : W p l e R s m args below meth c H locs cells slots Q (F0 m pc ls st0) := by
  intro T hT X
  rcases hr T hT X with ⟨v, st₀, t, T', L, h0, X', hL, e1, e2, ⟨⟨r, u, hv, hp, hb⟩, hF⟩, st⟩ | ⟨q, st₀, t, T', L, E, ce, h0, X', hL, e1, e2, ⟨u, hp, hb, hF⟩, hce, hcv, hcl, st⟩
  · cases hv
    obtain ⟨k1, k2, k3⟩ := vx_keep h0 e1 hS hA hf hL hF
    obtain ⟨t2, a1, b1⟩ := kk r u t T'.heap (locs ++ L) e1.symm (by rw [← e2]; exact X'.warmed.alike) hp hb k1 k2 k3 T' rfl X'
    exact ⟨t2, st t2 a1, b1⟩
  · obtain ⟨k1, k2, k3⟩ := vx_keep h0 e1 hS hAX hf hL hF
    obtain ⟨t2, a1, b1⟩ := kx E ce q u t T'.heap (locs ++ L) e1.symm (by rw [← e2]; exact X'.warmed.alike) hp hb k1 k2 k3 (by rw [e1]; exact hce) hcv hcl T' rfl X'
    exact ⟨t2, st.trans a1, b1⟩
theorem vx_calld {S SX : Type} {post : UInt64 → S → Prop} {px : SX → Prop} {B : S → State → Prop} {BX : String → SX → State → Prop} {AX : Nat → Prop} (hr : vx_Run p l e R s m args below meth c H locs cells slots mc ms (F0 m pc ls st0) rest (va_Qd post B A1 a) (vx_X px BX AX) free) (hS : va_S A0 H0 H locs) (hA : ∀ q, q < H.size → A1 q → A0 q) (hf : ∀ q, free q → A0 q) (hAX : ∀ q, q < H.size → AX q → A0 q)
    (kx : ∀ (E : String) (ce : Cell) (q9 : Addr) (u : SX) (t : State) (H1 : Heap) (locs1 : List Loc), t.heap = H1 → s.vm.Alike t.vm → px u → BX E u t → H.size ≤ H1.size → (∀ q : Nat, q < H.size → ¬ AX q → H1[q]? = H[q]?) → va_S A0 H0 H1 locs1 → H1[q9]? = some ce → ce.vm = .none → s.vm.findClass E = some ce.cls → vx_W p l e R s m args below meth c H1 locs1 (cells + mc) (slots + ms) Q (F0 m pc ls rest) q9)
    (kk : ∀ (r : UInt64) (u : S) (t : State) (H1 : Heap) (locs1 : List Loc), t.heap = H1 → s.vm.Alike t.vm → post r u → B u t → H.size ≤ H1.size → (∀ q : Nat, q < H.size → ¬ A1 q → H1[q]? = H[q]?) → va_S A0 H0 H1 locs1 → W p l e R s m args below meth c H1 locs1 (cells + mc) (slots + ms) Q (F0 m (pc + 3) ls (.double r :: rest))) : W p l e R s m args below meth c H locs cells slots Q (F0 m pc ls st0) := by
  intro T hT X
  rcases hr T hT X with ⟨v, st₀, t, T', L, h0, X', hL, e1, e2, ⟨⟨r, u, hv, hp, hb⟩, hF⟩, st⟩ | ⟨q, st₀, t, T', L, E, ce, h0, X', hL, e1, e2, ⟨u, hp, hb, hF⟩, hce, hcv, hcl, st⟩
  · cases hv
    obtain ⟨k1, k2, k3⟩ := vx_keep h0 e1 hS hA hf hL hF
    obtain ⟨t2, a1, b1⟩ := kk r u t T'.heap (locs ++ L) e1.symm (by rw [← e2]; exact X'.warmed.alike) hp hb k1 k2 k3 T' rfl X'
    exact ⟨t2, st t2 a1, b1⟩
  · obtain ⟨k1, k2, k3⟩ := vx_keep h0 e1 hS hAX hf hL hF
    obtain ⟨t2, a1, b1⟩ := kx E ce q u t T'.heap (locs ++ L) e1.symm (by rw [← e2]; exact X'.warmed.alike) hp hb k1 k2 k3 (by rw [e1]; exact hce) hcv hcl T' rfl X'
    exact ⟨t2, st.trans a1, b1⟩
theorem vx_callv {S SX : Type} {post : S → Prop} {px : SX → Prop} {B : S → State → Prop} {BX : String → SX → State → Prop} {AX : Nat → Prop} (hr : vx_Run p l e R s m args below meth c H locs cells slots mc ms (F0 m pc ls st0) rest (va_Qv post B A1 a) (vx_X px BX AX) free) (hS : va_S A0 H0 H locs) (hA : ∀ q, q < H.size → A1 q → A0 q) (hf : ∀ q, free q → A0 q) (hAX : ∀ q, q < H.size → AX q → A0 q)
    (kx : ∀ (E : String) (ce : Cell) (q9 : Addr) (u : SX) (t : State) (H1 : Heap) (locs1 : List Loc), t.heap = H1 → s.vm.Alike t.vm → px u → BX E u t → H.size ≤ H1.size → (∀ q : Nat, q < H.size → ¬ AX q → H1[q]? = H[q]?) → va_S A0 H0 H1 locs1 → H1[q9]? = some ce → ce.vm = .none → s.vm.findClass E = some ce.cls → vx_W p l e R s m args below meth c H1 locs1 (cells + mc) (slots + ms) Q (F0 m pc ls rest) q9)
    (kk : ∀ (u : S) (t : State) (H1 : Heap) (locs1 : List Loc), t.heap = H1 → s.vm.Alike t.vm → post u → B u t → H.size ≤ H1.size → (∀ q : Nat, q < H.size → ¬ A1 q → H1[q]? = H[q]?) → va_S A0 H0 H1 locs1 → W p l e R s m args below meth c H1 locs1 (cells + mc) (slots + ms) Q (F0 m (pc + 3) ls (rest))) : W p l e R s m args below meth c H locs cells slots Q (F0 m pc ls st0) := by
  intro T hT X
  rcases hr T hT X with ⟨v, st₀, t, T', L, h0, X', hL, e1, e2, ⟨⟨u, hv, hp, hb⟩, hF⟩, st⟩ | ⟨q, st₀, t, T', L, E, ce, h0, X', hL, e1, e2, ⟨u, hp, hb, hF⟩, hce, hcv, hcl, st⟩
  · cases hv
    obtain ⟨k1, k2, k3⟩ := vx_keep h0 e1 hS hA hf hL hF
    obtain ⟨t2, a1, b1⟩ := kk u t T'.heap (locs ++ L) e1.symm (by rw [← e2]; exact X'.warmed.alike) hp hb k1 k2 k3 T' rfl X'
    exact ⟨t2, st t2 a1, b1⟩
  · obtain ⟨k1, k2, k3⟩ := vx_keep h0 e1 hS hAX hf hL hF
    obtain ⟨t2, a1, b1⟩ := kx E ce q u t T'.heap (locs ++ L) e1.symm (by rw [← e2]; exact X'.warmed.alike) hp hb k1 k2 k3 (by rw [e1]; exact hce) hcv hcl T' rfl X'
    exact ⟨t2, st.trans a1, b1⟩
/-- caught by the row x of this method's table; the rows ahead don't take it -/
theorem vx_catch {own name : String} {E : String} {ce : Cell} {q : Addr} (hown : s.vm.findClass own = some m.cls) (pre : List ExceptionTableEntry) (x : ExceptionTableEntry) (suf : List ExceptionTableEntry) (hsplit : c.exceptionTable.toList = pre ++ x :: suf)
    (hpass : ∀ z ∈ pre, covers z pc = false ∨ (z.catchType ≠ 0 ∧ ∃ nm : String, (Cond.classLink own z.catchType nm).before args s = true ∧ va_Nc E nm s)) (hx : covers x pc = true) (h0 : x.catchType ≠ 0)
    (hlink : (Cond.classLink own x.catchType name).before args s = true) (hcast : (Cond.castable E name).before args s = true) (hcell : H[q]? = some ce) (hv : ce.vm = .none) (hcl : s.vm.findClass E = some ce.cls)
    (kk : W p l e R s m args below meth c H locs cells slots Q (F0 m x.handlerPc ls [.ref q])) : vx_W p l e R s m args below meth c H locs cells slots Q (F0 m pc ls rest) q := by
  intro T hT X
  have hpl : e.platform.magicAccessors = ({} : Platform).magicAccessors := by rw [X.admits.platform]
  obtain ⟨c3, c4, hc3, hc4, hasg⟩ := Cond.castable_spec hcast
  cases Option.some.inj (hc3.symm.trans hcl)
  obtain ⟨c5, hc5, hcl5⟩ := Cond.classLink_spec hown hlink e.platform hpl
  cases Option.some.inj (hc4.symm.trans hc5)
  obtain ⟨vm', X', st⟩ := X.thenCaughtThrough q (g := F0 m pc ls rest) rfl (Steps.refl _) (by rw [hT]; exact hcell) (by rw [hv]; rfl) (by obtain ⟨k9, h9, -⟩ := Vm.findClass_spec hcl; exact ⟨k9, h9⟩) pre x suf hsplit
    (fun z hz => by
      rcases hpass z hz with h | ⟨hz0, nm, hl1, hn1⟩
      · exact Or.inl h
      · obtain ⟨c6, hc6, hcl6⟩ := Cond.classLink_spec hown hl1 e.platform hpl
        obtain ⟨a8, b8, h1, h2, h3⟩ := hn1
        cases Option.some.inj (h1.symm.trans hcl)
        cases Option.some.inj (h2.symm.trans hc6)
        exact Or.inr ⟨hz0, _, hcl6, h3⟩) hx (Or.inr ⟨h0, c4, hcl5, hasg⟩)
  obtain ⟨t, a1, b1⟩ := kk (T.setVm vm') hT X'
  exact ⟨t, st.trans a1, b1⟩
end Rows
section Ends
variable {p : Program} {l : Launch} {e : Env} {R : Room} {s : State} {m : MethodId} {args : Array Value} {below : List Frame} {meth : Method} {c : Code} {H : Heap} {locs : List Loc} {cells slots : Nat} {Q : State → Prop}
variable {mc ms : Nat} {free : Addr → Prop} {A0 A1 : Nat → Prop} {H0 : Heap} {a : Array Value} {ls : Array Slot} {st0 rest : List Value}
variable {Qc : Array Value → State → Outcome → State → Prop} {XC : String → State → State → Prop}
/-- what a body that may throw owes at its end -/
def vx_MQ (below : List Frame) (Qc : Array Value → State → Outcome → State → Prop) (XC : String → State → State → Prop) (a : Array Value) (s : State) (mc ms : Nat) (free : Addr → Prop) : State → Prop := fun t =>
  ∃ o, t.status = .running ∧ Ended t below o ∧ vx_Q Qc XC mc ms free a s o t
theorem vx_ret {g : JFrame} {mc ms : Nat} (k : W p l e R s m args below meth c H locs cells slots (MQ below Qc args s mc ms free) g) : W p l e R s m args below meth c H locs cells slots (vx_MQ below Qc XC args s mc ms free) g := by
  intro T hT X
  obtain ⟨t, a1, o, b1, b2, b3, b4⟩ := k T hT X
  exact ⟨t, a1, o, b1, b2, Or.inl ⟨b3, b4⟩⟩
/-- not caught here: it goes on to the caller -/
theorem vx_widen {g : JFrame} {q : Addr} {k n : Nat} (h1 : cells ≤ k) (h2 : slots ≤ n) (kk : vx_W p l e R s m args below meth c H locs k n Q g q) : vx_W p l e R s m args below meth c H locs cells slots Q g q := fun T hT X => kk T hT (stand_widen X h1 h2)
theorem vx_out {pc : Nat} {E : String} {ce : Cell} {q : Addr} {mc ms : Nat} (hout : ∀ x ∈ c.exceptionTable.toList, covers x pc = false) (hlocks : meth.locks = false) (hcell : H[q]? = some ce) (hv : ce.vm = .none) (hcl : s.vm.findClass E = some ce.cls)
    (hx : ∀ t : State, t.heap = H → s.vm.Alike t.vm → XC E s t) (hf : ∀ z ∈ locs, free z.base) (hc : cells ≤ mc) (hs : slots ≤ ms) :
    vx_W p l e R s m args below meth c H locs cells slots (vx_MQ below Qc XC args s mc ms free) (F0 m pc ls rest) q := by
  intro T hT X
  obtain ⟨st1, hrun, hend, hW, hsm⟩ := X.leaveThrown q (g := F0 m pc ls rest) rfl rfl rfl hout hlocks
  have hcell9 : (T.setFrames (.throwing q :: below)).heap[q]? = some ce := by
    show T.heap[q]? = some ce
    rw [hT]; exact hcell
  exact ⟨_, st1, .threw q, hrun, hend, Or.inr ⟨q, rfl, E, ce, locs, hx _ hT hW.alike, hcell9, hv, hcl, hW, hsm.mono hc hs, hf⟩⟩
theorem vx_frame {U : State} {k n : Nat} (h : s.sameButNew ({ U with vm := s.vm } : State) locs k n) : s.heap.size ≤ U.heap.size ∧ ∀ q : Nat, q < s.heap.size → (∀ z ∈ locs, z.base ≠ q) → U.heap[q]? = s.heap[q]? := by
  obtain ⟨-, h2, -, -, -, h6⟩ := h
  refine ⟨h2, fun q hq hz => ?_⟩
  obtain ⟨c9, e1, e2, e3, e4⟩ := h6 q _ (Array.getElem?_eq_getElem hq)
  have hs : c9.slots = (s.heap[q]).slots := Array.ext_getElem? fun i => e4 i fun hm => hz _ hm rfl
  have h9 : c9 = s.heap[q] := by
    rw [hs] at e2
    exact e2
  have e5 : U.heap[q]? = some c9 := e1
  rw [e5, h9, Array.getElem?_eq_getElem hq]
/-- the words of a throw but the four that speak of the heap -/
def vx_no (w : Cond) : Bool := decide (w ≠ .isRef (.static Bundle.tN "UNASSIGNED_STACK" Bundle.steD)) && decide (w ≠ .isRef (.static Bundle.tN "SUPPRESSED_SENTINEL" Bundle.listD)) && decide (w ≠ .laysStatic Bundle.tN "UNASSIGNED_STACK" Bundle.steD) && decide (w ≠ .laysStatic Bundle.tN "SUPPRESSED_SENTINEL" Bundle.listD)
def vx_at0 (own : String) (ic : Nat) (X : String) (names : List String) : List Cond := (Bundle.ownAtoms0 own ic X names).filter vx_no
def vx_atS (own : String) (ic : Nat) (X : String) (names : List String) : List Cond := (Bundle.ownAtoms own ic X names).filter vx_no
/-- a word that the tables alone decide, or a good one -/
def vx_ot (w : Cond) : Bool := w.onTables || goodWord w
theorem vx_ot_at {args a' : Array Value} {s U : State} {w : Cond} (hW : s.WarmedH U.vm) (hvm : s.vm = U.vm) (hg : vx_ot w = true) (h : w.before args s = true) : w.before a' U = true := by
  simp only [vx_ot, Bool.or_eq_true] at hg
  rcases hg with hg | hg
  · exact va_tabs hg hvm h
  · exact word_at hW (good_of_word hg) h
/-- a list's words: the good ones out of the method's own list, the others by premises of their own -/
theorem vx_hat {args : Array Value} {s : State} {L B : List Cond} (h1 : ∀ w ∈ L.filter goodWord, w.before args s = true) (h2 : ∀ w ∈ L.filter (fun w => !goodWord w), w ∈ B) (h3 : ∀ w ∈ B, w.before args s = true) : ∀ w ∈ L, w.before args s = true := by
  intro w hw
  by_cases g : goodWord w = true
  · exact h1 w (List.mem_filter.mpr ⟨hw, g⟩)
  · refine h3 w (h2 w (List.mem_filter.mpr ⟨hw, ?_⟩))
    show (!goodWord w) = true
    cases hgw : goodWord w
    · rfl
    · exact absurd hgw g
theorem vx_c {args : Array Value} {s : State} {w : Cond} {B : List Cond} (h : w.before args s = true) (t : ∀ w ∈ B, w.before args s = true) : ∀ w' ∈ w :: B, w'.before args s = true := fun w' h' => (List.mem_cons.mp h').elim (fun e => by rw [e]; exact h) (t w')
theorem vx_n {args : Array Value} {s : State} : ∀ w ∈ ([] : List Cond), w.before args s = true := fun _ h => nomatch h
theorem vx_own {args : Array Value} {s : State} {L : List Cond} (h1 : ∀ w ∈ L.filter vx_no, w.before args s = true)
    (hU : (Cond.isRef (.static Bundle.tN "UNASSIGNED_STACK" Bundle.steD)).before args s = true) (hN : (Cond.isRef (.static Bundle.tN "SUPPRESSED_SENTINEL" Bundle.listD)).before args s = true)
    (lU : (Cond.laysStatic Bundle.tN "UNASSIGNED_STACK" Bundle.steD).before args s = true) (lN : (Cond.laysStatic Bundle.tN "SUPPRESSED_SENTINEL" Bundle.listD).before args s = true) : ∀ w ∈ L, w.before args s = true := by
  intro w hw
  by_cases e1 : w = .isRef (.static Bundle.tN "UNASSIGNED_STACK" Bundle.steD)
  · rw [e1]; exact hU
  · by_cases e2 : w = .isRef (.static Bundle.tN "SUPPRESSED_SENTINEL" Bundle.listD)
    · rw [e2]; exact hN
    · by_cases e3 : w = .laysStatic Bundle.tN "UNASSIGNED_STACK" Bundle.steD
      · rw [e3]; exact lU
      · by_cases e4 : w = .laysStatic Bundle.tN "SUPPRESSED_SENTINEL" Bundle.listD
        · rw [e4]; exact lN
        · exact h1 w (List.mem_filter.mpr ⟨hw, by unfold vx_no; rw [decide_eq_true e1, decide_eq_true e2, decide_eq_true e3, decide_eq_true e4]; rfl⟩)
/-- where a static field lies, its class's statics cell in H -/
def vx_L (C n d : String) (A : Nat → Prop) (U : State) (H : Heap) : Prop := ∃ (c : ClassId) (k : Class) (i : Nat) (f : Field) (a : Nat) (cell : Cell), U.vm.findClass C = some c ∧ U.fieldFound? C n d = some (c, k, i, f) ∧ f.isStatic = true ∧ k.statics = some a ∧ H[a]? = some cell ∧ cell.vm.isStatics = true ∧ cell.cls = c ∧ f.slot < cell.slots.size ∧ k.staticTypes[f.slot]? = some f.type ∧ ¬ A a
theorem vx_L.moved {C n d : String} {A : Nat → Prop} {u U : State} {H : Heap} (hvm : u.vm.Alike U.vm) (h : vx_L C n d A u H) : vx_L C n d A U H := by
  obtain ⟨c, k, i, f, a, cell, h1, h2, h3, h4, h5, h6, h7, h8, h9, h10⟩ := h
  obtain ⟨k', hi', he⟩ := State.fieldFound?_setVm hvm h2
  exact ⟨c, k', i, f, a, cell, by rw [hvm.findClass]; exact h1, hi', h3, by rw [he]; exact h4, h5, h6, h7, h8, by rw [he]; exact h9, h10⟩
theorem vx_L.kept {C n d : String} {A : Nat → Prop} {U : State} {H H1 : Heap} (h : vx_L C n d A U H) (hq : ∀ a : Nat, a < H.size → ¬ A a → H1[a]? = H[a]?) : vx_L C n d A U H1 := by
  obtain ⟨c, k, i, f, a, cell, h1, h2, h3, h4, h5, h6, h7, h8, h9, h10⟩ := h
  exact ⟨c, k, i, f, a, cell, h1, h2, h3, h4, by rw [hq a (Array.getElem?_eq_some_iff.mp h5).1 h10]; exact h5, h6, h7, h8, h9, h10⟩
theorem vx_L.narrow {C n d : String} {A B : Nat → Prop} {U : State} {H : Heap} (h : vx_L C n d A U H) (hAB : ∀ q, B q → A q) : vx_L C n d B U H := by
  obtain ⟨c, k, i, f, a, cell, h1, h2, h3, h4, h5, h6, h7, h8, h9, h10⟩ := h
  exact ⟨c, k, i, f, a, cell, h1, h2, h3, h4, h5, h6, h7, h8, h9, fun z => h10 (hAB _ z)⟩
theorem vx_L.word {C n d : String} {A : Nat → Prop} {s : State} {args : Array Value} (h : vx_L C n d A s s.heap) : (Cond.laysStatic C n d).before args s = true := by
  obtain ⟨c, k, i, f, a, cell, h1, h2, h3, h4, h5, h6, h7, h8, h9, -⟩ := h
  show (Cond.laysStatic C n d).holds args s none s [] = true
  exact Cond.laysStatic_of h1 h2 h3 h4 h5 h6 h7 h8 h9
/-- .. and what it holds: null or some reference -/
def vx_Zq (C n d : String) (A : Nat → Prop) (U : State) (H : Heap) : Prop := va_Zq C n d A U H ∧ vx_L C n d A U H
theorem vx_Zq.moved {C n d : String} {A : Nat → Prop} {u U : State} {H : Heap} (hvm : u.vm.Alike U.vm) (h : vx_Zq C n d A u H) : vx_Zq C n d A U H := ⟨va_Zq.moved hvm h.1, vx_L.moved hvm h.2⟩
theorem vx_Zq.kept {C n d : String} {A : Nat → Prop} {U : State} {H H1 : Heap} (h : vx_Zq C n d A U H) (hq : ∀ a : Nat, a < H.size → ¬ A a → H1[a]? = H[a]?) : vx_Zq C n d A U H1 := ⟨va_Zq.kept h.1 hq, vx_L.kept h.2 hq⟩
theorem vx_Zq.narrow {C n d : String} {A B : Nat → Prop} {U : State} {H : Heap} (h : vx_Zq C n d A U H) (hAB : ∀ q, B q → A q) : vx_Zq C n d B U H := ⟨va_Zq.narrow h.1 hAB, vx_L.narrow h.2 hAB⟩
theorem vx_Zqof {args : Array Value} {s : State} {C n d : String} {A : Nat → Prop} (hl : (Cond.laysStatic C n d).before args s = true) (hini : (Cond.initialized C).before args s = true) (h : (Cond.isRef (.static C n d)).before args s = true) (hA : ∀ a : Nat, a < s.heap.size → ¬ A a) : vx_Zq C n d A s s.heap := by
  refine ⟨va_Zqof hl hini h hA, ?_⟩
  obtain ⟨c, k, i, f, a, cell, h1, h2, h3, h4, h5, h6, h7, h8, h9⟩ := Cond.laysStatic_spec hl
  exact ⟨c, k, i, f, a, cell, h1, h2, h3, h4, h5, h6, h7, h8, h9, hA a (Array.getElem?_eq_some_iff.mp h5).1⟩
theorem vx_isRef {C n d : String} {v : Value} {A : Nat → Prop} {s : State} {args : Array Value} (h : va_Z C n d v A s s.heap) (hv : v.isRef = true) : (Cond.isRef (.static C n d)).before args s = true := by
  obtain ⟨cf, kf, fi, f, a, cell, h1, h2, h3, h4, h5, h6, h7, -⟩ := h
  have he : (Term.static C n d).eval args s none [] s = some v := by
    simp [Term.eval, State.fieldNamed?, h1, h2, h4, h5, h6, h7]
  simp only [Cond.before, Cond.holds, Cond.value, he]
  cases v <;> simp_all [Value.isRef]
theorem vx_isRefq {C n d : String} {A : Nat → Prop} {s : State} {args : Array Value} (h : va_Zq C n d A s s.heap) : (Cond.isRef (.static C n d)).before args s = true := by
  rcases h with h | ⟨t, h⟩
  · exact vx_isRef h rfl
  · exact vx_isRef h rfl
/-- the same frame, seen from here: as if the method were called anew in this heap -/
theorem vx_rebase {T : State} (X : Stand p l e R s m args below meth c T locs cells slots) {R' : Room} (hf : R'.frames ≤ R.frames) (hl : R'.locals ≤ R.locals) (hc : cells + R'.cells ≤ R.cells) (hs : slots + R'.slots ≤ R.slots) :
    Stand p l e R' ((T.setVm s.vm).setFrames (.invoking m args :: below)) m args below meth c T [] 0 0 := by
  have htop : (T.setVm s.vm).topJava?.isSome := X.here.top
  have hF : ((T.setVm s.vm).setFrames (.invoking m args :: below)).frames = .invoking m args :: below := State.frames_setFrames _ (State.cur_lt_of_top htop)
  obtain ⟨g₀, hg0⟩ := Option.isSome_iff_exists.mp htop
  obtain ⟨r, hr⟩ := State.topJava?_eq_some.mp hg0
  have hl9 : e.platform.stackLimits (T.setVm s.vm).me = e.platform.stackLimits s.me := X.limits
  have hb9 : (T.setVm s.vm).me.stackBytes = s.me.stackBytes := X.bytes
  refine ⟨X.admits, X.cas, X.clock, hF, ?_, X.hears, X.method, X.code, X.here, X.tail, X.warmed, ?_, ?_, ?_⟩
  · have h := X.room
    have hU : ((T.setVm s.vm).setFrames (.invoking m args :: below)).localsInUse = s.localsInUse := by
      rw [State.localsInUse_invoking hF (meth := meth) (c := c) X.method X.code, State.localsInUse_invoking X.frames X.method X.code]
    simp only [State.hasRoom, Bool.and_eq_true, decide_eq_true_eq] at h ⊢
    obtain ⟨⟨⟨⟨h1, h2, h3, h4, h5, h6⟩, h7⟩, h8⟩, h9⟩ := h
    rw [X.frames, List.length_cons] at h2 h3
    have q1 := X.heapSize
    have q2 := X.used
    simp only [hF, hU, List.length_cons, State.stackLimits_setFrames, State.stackBytes_setFrames, hl9, hb9]
    refine ⟨⟨⟨⟨by omega, by omega, by omega, by omega, by omega, h6⟩, ?_⟩, ?_⟩, X.book⟩
    · show T.heap.size + R'.cells ≤ e.platform.maxCells
      omega
    · show T.slotsUsed + R'.slots ≤ e.platform.maxSlots
      omega
  · rw [State.stackLimits_setFrames]; rfl
  · rw [State.stackBytes_setFrames]; rfl
  · refine ⟨?_, Nat.le_refl _, Nat.le_refl _, ?_, ?_, fun a c9 h9 => ⟨c9, h9, rfl, rfl, fun _ _ => rfl⟩⟩
    · obtain ⟨t, ht, -⟩ := State.frames_cons hr
      show T.setVm s.vm = { ((T.setVm s.vm).setFrames (.invoking m args :: below)).setFrames (T.setVm s.vm).frames with heap := T.heap, slotsUsed := T.slotsUsed }
      rw [State.setFrames_setFrames, State.setFrames_self ht]
      rfl
    · show T.slotsUsed = T.slotsUsed + ((T.heap.toList.drop T.heap.size).map (·.slots.size)).sum
      rw [List.drop_eq_nil_of_le (Nat.le_of_eq Array.length_toList)]
      rfl
    · show ((T.heap.toList.drop T.heap.size).map (·.slots.size)).sum ≤ 0
      rw [List.drop_eq_nil_of_le (Nat.le_of_eq Array.length_toList)]
      exact Nat.le_refl _
/-- 'throw new E()': new; dup; invokespecial; athrow -/
theorem vx_throw0 {cc : ByteArray} {pc : Nat} (hexec : p.tables.exec = Jvm.exec) (hb : c.code = cc) (hl : l.stackTraces = false) {own cls : String} {names : List String} {ik ic mc ms : Nat} {A : Nat → Prop}
    (hown : s.vm.findClass own = some m.cls) (hcls : Bundle.fit cls = true) (hnames : ∀ n ∈ names, Bundle.fit n = true)
    (hk : (Cond.classLink own ik cls).before args s = true) (hini : (Cond.initialized cls).before args s = true) (hat : ∀ w ∈ vx_at0 own ic cls names, w.before args s = true)
    (hgood : ∀ w ∈ Cond.classLink own ik cls :: Cond.initialized cls :: vx_at0 own ic cls names, vx_ot w = true)
    (hU : vx_Zq Bundle.tN "UNASSIGNED_STACK" Bundle.steD A s s.heap) (hN : vx_Zq Bundle.tN "SUPPRESSED_SENTINEL" Bundle.listD A s s.heap) (hS : va_S A s.heap H locs) (hsize : ls.size = c.maxLocals)
    (d0 : decode cc pc = .ok (.new ik, 3)) (d3 : decode cc (pc + 3) = .ok (.dup, 1)) (d4 : decode cc (pc + 4) = .ok (.invokespecial ic, 3)) (d7 : decode cc (pc + 7) = .ok (.athrow, 1))
    (hout : ∀ x ∈ c.exceptionTable.toList, covers x (pc + 7) = false)
    (hRframes : names.length + 3 < R.frames) (hRlocals : (rest.map fun v => v.category).sum + (13 * (names.length + 1) + 42) ≤ R.locals) (hRcells : cells + 1 ≤ R.cells) (hRslots : slots + 6 ≤ R.slots) (hlocks : meth.locks = false)
    (hx : ∀ t : State, s.vm.Alike t.vm → H.size ≤ t.heap.size → (∀ q : Nat, q < H.size → t.heap[q]? = H[q]?) → XC cls s t)
    (hf : ∀ z ∈ locs, free z.base) (hc : cells + 1 ≤ mc) (hs : slots + 6 ≤ ms) :
    W p l e R s m args below meth c H locs cells slots (vx_MQ below Qc XC args s mc ms free) (F0 m pc ls rest) := by
  intro T hT X
  have htr : e.platform.stackTraces = false := (show e.platform.stackTraces = l.stackTraces by rw [X.admits.platform]).trans hl
  have Y := vx_rebase X (R' := { frames := R.frames, locals := R.locals, cells := 1, slots := 6 }) (Nat.le_refl _) (Nat.le_refl _) hRcells hRslots
  obtain ⟨s', hA⟩ : ∃ z, z = (T.setVm s.vm).setFrames (.invoking m args :: below) := ⟨_, rfl⟩
  rw [← hA] at Y
  have hvm : s'.vm = s.vm := by rw [hA]; rfl
  have hhp : s'.heap = H := by rw [hA]; exact hT
  have hW0 : s.WarmedH s'.vm := by rw [hvm]; exact State.WarmedH.refl s
  have hat' : ∀ w ∈ vx_at0 own ic cls names, w.before args s' = true := fun w hw => vx_ot_at hW0 hvm.symm (hgood w (List.mem_cons_of_mem _ (List.mem_cons_of_mem _ hw))) (hat w hw)
  have hk' : (Cond.classLink own ik cls).before args s' = true := vx_ot_at hW0 hvm.symm (hgood _ List.mem_cons_self) hk
  have hini' : (Cond.initialized cls).before args s' = true := vx_ot_at hW0 hvm.symm (hgood _ (List.mem_cons_of_mem _ List.mem_cons_self)) hini
  have hU' : vx_Zq Bundle.tN "UNASSIGNED_STACK" Bundle.steD A s' s'.heap := by rw [hhp]; exact vx_Zq.moved hW0.alike (hU.kept hS.2.1)
  have hN' : vx_Zq Bundle.tN "SUPPRESSED_SENTINEL" Bundle.listD A s' s'.heap := by rw [hhp]; exact vx_Zq.moved hW0.alike (hN.kept hS.2.1)
  have h : ∀ w ∈ Bundle.ownAtoms0 own ic cls names, w.before args s' = true := vx_own hat' (vx_isRefq hU'.1) (vx_isRefq hN'.1) hU'.2.word hN'.2.word
  have hown' : s'.vm.findClass own = some m.cls := by rw [hvm]; exact hown
  have hins : (Cond.instantiable cls 6).before args s' = true := h _ (by simp [Bundle.ownAtoms0])
  obtain ⟨vm₁, cX, kX, hfX, hkX, -, -, X₁, st1⟩ := Y.newCold hexec (own := own) (C := cls) (index := ik) (n := 6) hown' hk' hins hini'
    (g := F0 m pc ls rest) rfl (by rw [hb]; exact d0) (Nat.le_refl _) (Nat.le_refl _)
  generalize hT1 : (T.setVm vm₁).pushCell { cls := cX, slots := kX.instanceTypes.map defaultValue, vm := .none } = T1 at X₁ st1
  have hcat : (Value.ref T.heap.size).category = 1 := rfl
  have hcellA : T1.heap[T.heap.size]? = some (freshCell cX kX) := by rw [← hT1]; exact State.heap_pushCell_size _ _
  have d3' : decode c.code (pc + 3) = .ok (.dup, 1) := by rw [hb]; exact d3
  obtain ⟨U, hsteps, hrun, hend, hW, hsame, ce, hce, hO⟩ := X₁.ctorThrow0 hexec htr (own := own) (cls := cls) (names := names) (ic := ic) hown' hcls hnames h (fun x hx => nomatch hx) hfX hkX hcellA (by rw [hhp, hT]; exact Nat.le_refl _)
    (g := { method := m, pc := pc + 4, locals := ls, stack := .ref T.heap.size :: .ref T.heap.size :: rest, locked := none }) rfl hsize rfl rfl (rest := rest) rfl
    (by rw [hb]; exact d4) (by rw [hb]; exact d7) hout hRframes (by simp only [List.map_cons, List.sum_cons, hcat]; omega) hlocks
  obtain ⟨f1, f2⟩ := vx_frame hsame
  rw [hhp] at f1 f2
  have hWs : s.WarmedH U.vm := State.WarmedH.trans hW0 hW
  have hcl : s.vm.findClass cls = some ce.cls := by
    have h9 := hO.cls
    rw [hvm] at h9
    exact h9
  have hall : s.sameButNew ({ U with vm := s.vm } : State) locs mc ms := by
    subst hA
    obtain ⟨e1, e2⟩ := hsame
    rw [State.setFrames_setFrames] at e1
    have h2 : (T.setVm s.vm).sameButNew ({ U with vm := s.vm } : State) [] (0 + 1) (0 + 6) := ⟨e1, e2⟩
    have h3 := X.same.trans h2
    rw [List.append_nil] at h3
    exact h3.mono hc hs
  refine ⟨U, ?_, .threw T.heap.size, hrun, hend, Or.inr ⟨T.heap.size, rfl, cls, ce, locs, hx U hWs.alike f1 (fun q hq => f2 q hq (fun z hz => nomatch hz)), hce, hO.vm, hcl, hWs, hall, hf⟩⟩
  refine st1 _ ?_
  show Steps p.tables e below (T1.setTop { method := m, pc := pc + 3, locals := ls, stack := .ref T.heap.size :: rest, locked := none }) _
  jvm_step X₁.here [X₁.here.top, hexec, d3', Value.category]
  exact hsteps
/-- 'throw new E("text")': new; dup; ldc; invokespecial; athrow -/
theorem vx_throwS {cc : ByteArray} {pc : Nat} (hexec : p.tables.exec = Jvm.exec) (hb : c.code = cc) (hl : l.stackTraces = false) {own cls text : String} {names : List String} {ik is ic mc ms sa : Nat} {A : Nat → Prop}
    (hown : s.vm.findClass own = some m.cls) (hcls : Bundle.fit cls = true) (hnames : ∀ n ∈ names, Bundle.fit n = true)
    (hk : (Cond.classLink own ik cls).before args s = true) (hini : (Cond.initialized cls).before args s = true) (hstr : vk_R own is text sa s) (hat : ∀ w ∈ vx_atS own ic cls names, w.before args s = true)
    (hgood : ∀ w ∈ Cond.classLink own ik cls :: Cond.initialized cls :: vx_atS own ic cls names, vx_ot w = true)
    (hU : vx_Zq Bundle.tN "UNASSIGNED_STACK" Bundle.steD A s s.heap) (hN : vx_Zq Bundle.tN "SUPPRESSED_SENTINEL" Bundle.listD A s s.heap) (hS : va_S A s.heap H locs) (hsize : ls.size = c.maxLocals)
    (d0 : decode cc pc = .ok (.new ik, 3)) (d3 : decode cc (pc + 3) = .ok (.dup, 1)) (d4 : decode cc (pc + 4) = .ok (.ldc is, 2)) (d6 : decode cc (pc + 6) = .ok (.invokespecial ic, 3)) (d9 : decode cc (pc + 9) = .ok (.athrow, 1))
    (hout : ∀ x ∈ c.exceptionTable.toList, covers x (pc + 9) = false)
    (hRframes : names.length + 3 < R.frames) (hRlocals : (rest.map fun v => v.category).sum + (13 * (names.length + 1) + 43) ≤ R.locals) (hRcells : cells + 1 ≤ R.cells) (hRslots : slots + 6 ≤ R.slots) (hlocks : meth.locks = false)
    (hx : ∀ t : State, s.vm.Alike t.vm → H.size ≤ t.heap.size → (∀ q : Nat, q < H.size → t.heap[q]? = H[q]?) → XC cls s t)
    (hf : ∀ z ∈ locs, free z.base) (hc : cells + 1 ≤ mc) (hs : slots + 6 ≤ ms) :
    W p l e R s m args below meth c H locs cells slots (vx_MQ below Qc XC args s mc ms free) (F0 m pc ls rest) := by
  intro T hT X
  have htr : e.platform.stackTraces = false := (show e.platform.stackTraces = l.stackTraces by rw [X.admits.platform]).trans hl
  have Y := vx_rebase X (R' := { frames := R.frames, locals := R.locals, cells := 1, slots := 6 }) (Nat.le_refl _) (Nat.le_refl _) hRcells hRslots
  obtain ⟨s', hA⟩ : ∃ z, z = (T.setVm s.vm).setFrames (.invoking m args :: below) := ⟨_, rfl⟩
  rw [← hA] at Y
  have hvm : s'.vm = s.vm := by rw [hA]; rfl
  have hhp : s'.heap = H := by rw [hA]; exact hT
  have hW0 : s.WarmedH s'.vm := by rw [hvm]; exact State.WarmedH.refl s
  have hat' : ∀ w ∈ vx_atS own ic cls names, w.before args s' = true := fun w hw => vx_ot_at hW0 hvm.symm (hgood w (List.mem_cons_of_mem _ (List.mem_cons_of_mem _ hw))) (hat w hw)
  have hk' : (Cond.classLink own ik cls).before args s' = true := vx_ot_at hW0 hvm.symm (hgood _ List.mem_cons_self) hk
  have hini' : (Cond.initialized cls).before args s' = true := vx_ot_at hW0 hvm.symm (hgood _ (List.mem_cons_of_mem _ List.mem_cons_self)) hini
  have hU' : vx_Zq Bundle.tN "UNASSIGNED_STACK" Bundle.steD A s' s'.heap := by rw [hhp]; exact vx_Zq.moved hW0.alike (hU.kept hS.2.1)
  have hN' : vx_Zq Bundle.tN "SUPPRESSED_SENTINEL" Bundle.listD A s' s'.heap := by rw [hhp]; exact vx_Zq.moved hW0.alike (hN.kept hS.2.1)
  have h : ∀ w ∈ Bundle.ownAtoms own ic cls names, w.before args s' = true := vx_own hat' (vx_isRefq hU'.1) (vx_isRefq hN'.1) hU'.2.word hN'.2.word
  have hown' : s'.vm.findClass own = some m.cls := by rw [hvm]; exact hown
  have hins : (Cond.instantiable cls 6).before args s' = true := h _ (by simp [Bundle.ownAtoms])
  obtain ⟨vm₁, cX, kX, hfX, hkX, -, -, X₁, st1⟩ := Y.newCold hexec (own := own) (C := cls) (index := ik) (n := 6) hown' hk' hins hini'
    (g := F0 m pc ls rest) rfl (by rw [hb]; exact d0) (Nat.le_refl _) (Nat.le_refl _)
  generalize hT1 : (T.setVm vm₁).pushCell { cls := cX, slots := kX.instanceTypes.map defaultValue, vm := .none } = T1 at X₁ st1
  have hcat : (Value.ref T.heap.size).category = 1 := rfl
  have hcellA : T1.heap[T.heap.size]? = some (freshCell cX kX) := by rw [← hT1]; exact State.heap_pushCell_size _ _
  have d3' : decode c.code (pc + 3) = .ok (.dup, 1) := by rw [hb]; exact d3
  have d4' : decode c.code (pc + 4) = .ok (.ldc is, 2) := by rw [hb]; exact d4
  have hstr' : vk_R own is text sa s' := vk_R.warm hW0 hstr
  obtain ⟨U, hsteps, hrun, hend, hW, hsame, ce, hce, hO⟩ := X₁.ctorThrowS hexec htr (own := own) (cls := cls) (names := names) (ic := ic) hown' hcls hnames h (fun x hx => nomatch hx) hfX hkX hcellA (by rw [hhp, hT]; exact Nat.le_refl _) (msg := .ref sa) rfl
    (g := { method := m, pc := pc + 6, locals := ls, stack := .ref sa :: .ref T.heap.size :: .ref T.heap.size :: rest, locked := none }) rfl hsize rfl rfl (rest := rest) rfl
    (by rw [hb]; exact d6) (by rw [hb]; exact d9) hout hRframes (by simp only [List.map_cons, List.sum_cons, hcat]; omega) hlocks
  obtain ⟨f1, f2⟩ := vx_frame hsame
  rw [hhp] at f1 f2
  have hWs : s.WarmedH U.vm := State.WarmedH.trans hW0 hW
  have hcl : s.vm.findClass cls = some ce.cls := by
    have h9 := hO.cls
    rw [hvm] at h9
    exact h9
  have hall : s.sameButNew ({ U with vm := s.vm } : State) locs mc ms := by
    subst hA
    obtain ⟨e1, e2⟩ := hsame
    rw [State.setFrames_setFrames] at e1
    have h2 : (T.setVm s.vm).sameButNew ({ U with vm := s.vm } : State) [] (0 + 1) (0 + 6) := ⟨e1, e2⟩
    have h3 := X.same.trans h2
    rw [List.append_nil] at h3
    exact h3.mono hc hs
  refine ⟨U, ?_, .threw T.heap.size, hrun, hend, Or.inr ⟨T.heap.size, rfl, cls, ce, locs, hx U hWs.alike f1 (fun q hq => f2 q hq (fun z hz => nomatch hz)), hce, hO.vm, hcl, hWs, hall, hf⟩⟩
  refine st1 _ ?_
  show Steps p.tables e below (T1.setTop { method := m, pc := pc + 3, locals := ls, stack := .ref T.heap.size :: rest, locked := none }) _
  jvm_step X₁.here [X₁.here.top, hexec, d3', Value.category]
  exact X₁.ldcString hexec (own := own) (text := text) (index := is) (a := sa) hown' hstr'.1 hstr'.2
    (g := { method := m, pc := pc + 4, locals := ls, stack := .ref T.heap.size :: .ref T.heap.size :: rest, locked := none }) rfl d4' _ hsteps
/-- 'throw new E("text")', the text by a wide index -/
theorem vx_throwSW {cc : ByteArray} {pc : Nat} (hexec : p.tables.exec = Jvm.exec) (hb : c.code = cc) (hl : l.stackTraces = false) {own cls text : String} {names : List String} {ik is ic mc ms sa : Nat} {A : Nat → Prop}
    (hown : s.vm.findClass own = some m.cls) (hcls : Bundle.fit cls = true) (hnames : ∀ n ∈ names, Bundle.fit n = true)
    (hk : (Cond.classLink own ik cls).before args s = true) (hini : (Cond.initialized cls).before args s = true) (hstr : vk_R own is text sa s) (hat : ∀ w ∈ vx_atS own ic cls names, w.before args s = true)
    (hgood : ∀ w ∈ Cond.classLink own ik cls :: Cond.initialized cls :: vx_atS own ic cls names, vx_ot w = true)
    (hU : vx_Zq Bundle.tN "UNASSIGNED_STACK" Bundle.steD A s s.heap) (hN : vx_Zq Bundle.tN "SUPPRESSED_SENTINEL" Bundle.listD A s s.heap) (hS : va_S A s.heap H locs) (hsize : ls.size = c.maxLocals)
    (d0 : decode cc pc = .ok (.new ik, 3)) (d3 : decode cc (pc + 3) = .ok (.dup, 1)) (d4 : decode cc (pc + 4) = .ok (.ldc_w is, 3)) (d7 : decode cc (pc + 7) = .ok (.invokespecial ic, 3)) (d10 : decode cc (pc + 10) = .ok (.athrow, 1))
    (hout : ∀ x ∈ c.exceptionTable.toList, covers x (pc + 10) = false)
    (hRframes : names.length + 3 < R.frames) (hRlocals : (rest.map fun v => v.category).sum + (13 * (names.length + 1) + 43) ≤ R.locals) (hRcells : cells + 1 ≤ R.cells) (hRslots : slots + 6 ≤ R.slots) (hlocks : meth.locks = false)
    (hx : ∀ t : State, s.vm.Alike t.vm → H.size ≤ t.heap.size → (∀ q : Nat, q < H.size → t.heap[q]? = H[q]?) → XC cls s t)
    (hf : ∀ z ∈ locs, free z.base) (hc : cells + 1 ≤ mc) (hs : slots + 6 ≤ ms) :
    W p l e R s m args below meth c H locs cells slots (vx_MQ below Qc XC args s mc ms free) (F0 m pc ls rest) := by
  intro T hT X
  have htr : e.platform.stackTraces = false := (show e.platform.stackTraces = l.stackTraces by rw [X.admits.platform]).trans hl
  have Y := vx_rebase X (R' := { frames := R.frames, locals := R.locals, cells := 1, slots := 6 }) (Nat.le_refl _) (Nat.le_refl _) hRcells hRslots
  obtain ⟨s', hA⟩ : ∃ z, z = (T.setVm s.vm).setFrames (.invoking m args :: below) := ⟨_, rfl⟩
  rw [← hA] at Y
  have hvm : s'.vm = s.vm := by rw [hA]; rfl
  have hhp : s'.heap = H := by rw [hA]; exact hT
  have hW0 : s.WarmedH s'.vm := by rw [hvm]; exact State.WarmedH.refl s
  have hat' : ∀ w ∈ vx_atS own ic cls names, w.before args s' = true := fun w hw => vx_ot_at hW0 hvm.symm (hgood w (List.mem_cons_of_mem _ (List.mem_cons_of_mem _ hw))) (hat w hw)
  have hk' : (Cond.classLink own ik cls).before args s' = true := vx_ot_at hW0 hvm.symm (hgood _ List.mem_cons_self) hk
  have hini' : (Cond.initialized cls).before args s' = true := vx_ot_at hW0 hvm.symm (hgood _ (List.mem_cons_of_mem _ List.mem_cons_self)) hini
  have hU' : vx_Zq Bundle.tN "UNASSIGNED_STACK" Bundle.steD A s' s'.heap := by rw [hhp]; exact vx_Zq.moved hW0.alike (hU.kept hS.2.1)
  have hN' : vx_Zq Bundle.tN "SUPPRESSED_SENTINEL" Bundle.listD A s' s'.heap := by rw [hhp]; exact vx_Zq.moved hW0.alike (hN.kept hS.2.1)
  have h : ∀ w ∈ Bundle.ownAtoms own ic cls names, w.before args s' = true := vx_own hat' (vx_isRefq hU'.1) (vx_isRefq hN'.1) hU'.2.word hN'.2.word
  have hown' : s'.vm.findClass own = some m.cls := by rw [hvm]; exact hown
  have hins : (Cond.instantiable cls 6).before args s' = true := h _ (by simp [Bundle.ownAtoms])
  obtain ⟨vm₁, cX, kX, hfX, hkX, -, -, X₁, st1⟩ := Y.newCold hexec (own := own) (C := cls) (index := ik) (n := 6) hown' hk' hins hini'
    (g := F0 m pc ls rest) rfl (by rw [hb]; exact d0) (Nat.le_refl _) (Nat.le_refl _)
  generalize hT1 : (T.setVm vm₁).pushCell { cls := cX, slots := kX.instanceTypes.map defaultValue, vm := .none } = T1 at X₁ st1
  have hcat : (Value.ref T.heap.size).category = 1 := rfl
  have hcellA : T1.heap[T.heap.size]? = some (freshCell cX kX) := by rw [← hT1]; exact State.heap_pushCell_size _ _
  have d3' : decode c.code (pc + 3) = .ok (.dup, 1) := by rw [hb]; exact d3
  have d4' : decode c.code (pc + 4) = .ok (.ldc_w is, 3) := by rw [hb]; exact d4
  have hstr' : vk_R own is text sa s' := vk_R.warm hW0 hstr
  obtain ⟨U, hsteps, hrun, hend, hW, hsame, ce, hce, hO⟩ := X₁.ctorThrowS hexec htr (own := own) (cls := cls) (names := names) (ic := ic) hown' hcls hnames h (fun x hx => nomatch hx) hfX hkX hcellA (by rw [hhp, hT]; exact Nat.le_refl _) (msg := .ref sa) rfl
    (g := { method := m, pc := pc + 7, locals := ls, stack := .ref sa :: .ref T.heap.size :: .ref T.heap.size :: rest, locked := none }) rfl hsize rfl rfl (rest := rest) rfl
    (by rw [hb]; exact d7) (by rw [hb]; exact d10) hout hRframes (by simp only [List.map_cons, List.sum_cons, hcat]; omega) hlocks
  obtain ⟨f1, f2⟩ := vx_frame hsame
  rw [hhp] at f1 f2
  have hWs : s.WarmedH U.vm := State.WarmedH.trans hW0 hW
  have hcl : s.vm.findClass cls = some ce.cls := by
    have h9 := hO.cls
    rw [hvm] at h9
    exact h9
  have hall : s.sameButNew ({ U with vm := s.vm } : State) locs mc ms := by
    subst hA
    obtain ⟨e1, e2⟩ := hsame
    rw [State.setFrames_setFrames] at e1
    have h2 : (T.setVm s.vm).sameButNew ({ U with vm := s.vm } : State) [] (0 + 1) (0 + 6) := ⟨e1, e2⟩
    have h3 := X.same.trans h2
    rw [List.append_nil] at h3
    exact h3.mono hc hs
  refine ⟨U, ?_, .threw T.heap.size, hrun, hend, Or.inr ⟨T.heap.size, rfl, cls, ce, locs, hx U hWs.alike f1 (fun q hq => f2 q hq (fun z hz => nomatch hz)), hce, hO.vm, hcl, hWs, hall, hf⟩⟩
  refine st1 _ ?_
  show Steps p.tables e below (T1.setTop { method := m, pc := pc + 3, locals := ls, stack := .ref T.heap.size :: rest, locked := none }) _
  jvm_step X₁.here [X₁.here.top, hexec, d3', Value.category]
  exact X₁.ldcStringW hexec (own := own) (text := text) (index := is) (a := sa) hown' hstr'.1 hstr'.2
    (g := { method := m, pc := pc + 4, locals := ls, stack := .ref T.heap.size :: .ref T.heap.size :: rest, locked := none }) rfl d4' _ hsteps
end Ends
section Bodies
variable {l : Launch}
theorem vx_ofW {y : MethodName} {ws ws' : List Cond} {rm : Room} {Pc : Array Value → State → Prop} {Qc : Array Value → State → Outcome → State → Prop} {XC : String → State → State → Prop} {mc ms : Nat} {free : Addr → Prop} {cc : ByteArray} {maxL : Nat} {ret : Option FieldType}
    (hy : plainName y.cls = true) (hw : ws = Cond.code y cc maxL ret :: ws')
    (body : ∀ p e s m args below meth c s₁, BodyLoose p l y (headSpec ws rm) cc maxL ret e s m args below meth c s₁ → c.maxLocals = maxL → (∀ x ∈ c.exceptionTable.toList, False) → Pc args s →
      W p l e (headSpec ws rm).room s m args below meth c s.heap [] 0 0 (vx_MQ below Qc XC args s mc ms free) (entryFrame m args maxL)) : vx_Met l y ws rm Pc Qc XC mc ms free := by
  refine MetFree.of_bodyS (code := cc) (maxLocals := maxL) (ret := ret) hy ?_ ?_
  · intro args s m h hn
    obtain ⟨meth, c, h1, h2, h3, h4, h5, h6, -, -⟩ := Cond.code_spec hn (atoms_spec (ws := ws) h _ (by rw [hw]; exact List.mem_cons_self))
    exact ⟨meth, c, h1, h2, h3, h4, h5, h6⟩
  · intro p e s m args below meth c s₁ B hml hP _
    have hh0 : s₁.heap = s.heap := by rw [B.state]; rfl
    have ht : ∀ x ∈ c.exceptionTable.toList, False := by
      obtain ⟨meth9, c9, h1, h2, -, -, -, -, h7, -⟩ := Cond.code_spec B.named (atoms_spec (ws := ws) B.pre _ (by rw [hw]; exact List.mem_cons_self))
      cases Option.some.inj (h1.symm.trans B.method)
      cases Option.some.inj (h2.symm.trans (Stand.of_body B).code)
      intro x hx
      rw [Array.isEmpty_iff.mp h7] at hx
      cases hx
    obtain ⟨t, a1, o, b1, b2, b3⟩ := body p e s m args below meth c s₁ B hml ht hP s₁ hh0 (Stand.of_body B)
    exact ⟨t, o, a1, b1, b2, b3⟩
/-- the table of a body with handlers -/
theorem vx_table {p : Program} {x y : MethodName} {S : Spec} {cc bytes : ByteArray} {maxL maxL' : Nat} {ret ret' : Option FieldType} {e : Env} {s s₁ : State} {m : MethodId} {args : Array Value} {below : List Frame} {meth : Method} {c : Code} {hh : List (Nat × Nat × Nat × Nat)}
    (B : BodyLoose p l y S cc maxL ret e s m args below meth c s₁) (h : (Cond.codeWith y bytes maxL' ret' hh).before args s = true) : c.exceptionTable.toList = tableOf hh := by
  obtain ⟨m9, meth9, c9, hn9, h1, h2, -, -, h6, -⟩ := Cond.codeWith_spec h
  cases Option.some.inj (hn9.symm.trans B.named)
  cases Option.some.inj (h1.symm.trans B.method)
  cases Option.some.inj (h2.symm.trans (Stand.of_body B).code)
  rw [← h6, table_eq]
end Bodies
end VXA
/-! ===== END ===== -/
/-! ===== BEGIN a static call of a method with an exception table ===== -/
section VXS
variable {p : Program} {l : Launch} {e : Env} {R : Room} {s : State} {m : MethodId} {args : Array Value} {below : List Frame} {meth : Method} {c : Code} {T : State} {H : Heap} {locs : List Loc} {cells slots : Nat}
abbrev vx_CSW (R : Room) (s : State) (args : Array Value) (own : String) (index : Nat) (y : MethodName) (bytes : ByteArray) (maxL : Nat) (ret : Option FieldType) (hh : List (Nat × Nat × Nat × Nat)) (ws : List Cond) (rm : Room) (mc ms n : Nat) : Prop :=
  (rm.cells = mc ∧ rm.slots = ms ∧ rm.frames + 1 ≤ R.frames ∧ 8 + (maxL + 11) + rm.locals ≤ R.locals ∧ (∀ w ∈ ws, ∀ (a' : Array Value) (U : State), s.WarmedH U.vm → w.before a' U = true) ∧ Cond.codeWith y bytes maxL ret hh ∈ ws) ∧
  (Cond.codeWith y bytes maxL ret hh).before args s = true ∧ (Cond.initialized y.cls).before args s = true ∧ (y.cls ≠ "java/lang/invoke/MethodHandle" ∧ y.cls ≠ "java/lang/invoke/VarHandle") ∧
  (∀ sig, parseMethodDescriptor y.desc = some sig → n = sig.parameters.length) ∧ (Cond.methodLink own index y).before args s = true ∧ (Cond.static y).before args s = true
theorem vx_cwSW {own : String} {index maxL mc ms : Nat} {y : MethodName} {bytes : ByteArray} {ret : Option FieldType} {hh : List (Nat × Nat × Nat × Nat)} {Ts ws ws' : List Cond} {rm : Room} (n : Nat) (ht : ∀ w ∈ Ts, w.before args s = true) (hT : GoodIn Ts (va_wsS own index y ws)) (hw : ws = Cond.codeWith y bytes maxL ret hh :: ws') (hrc : rm.cells = mc) (hrs : rm.slots = ms)
    (hd : y.cls ≠ "java/lang/invoke/MethodHandle" ∧ y.cls ≠ "java/lang/invoke/VarHandle" ∧ (parseMethodDescriptor y.desc).map (fun d => d.parameters.length) = some n) (hR : rm.frames + 1 ≤ R.frames ∧ 8 + (maxL + 11) + rm.locals ≤ R.locals) :
    vx_CSW R s args own index y bytes maxL ret hh ws rm mc ms n := by
  have ok : ∀ w ∈ va_wsS own index y ws, w.before args s = true := fun w h => ht w (hT w h).1
  have hG : GoodIn Ts ws := fun w h => hT w (by unfold va_wsS; exact List.mem_append_right _ h)
  have hc : Cond.codeWith y bytes maxL ret hh ∈ ws := by rw [hw]; exact List.mem_cons_self
  refine ⟨⟨hrc, hrs, hR.1, hR.2, pay_in ht hG, hc⟩, ht _ (hG _ hc).1, ok _ (by simp [va_wsS]), ⟨hd.1, hd.2.1⟩, fun sig h => ?_, ok _ (by simp [va_wsS]), ok _ (by simp [va_wsS])⟩
  have h2 := hd.2.2
  rw [h] at h2
  exact (Option.some.inj h2).symm
theorem vx_callSW (X : Stand p l e R s m args below meth c T locs cells slots) (hexec : p.tables.exec = Jvm.exec) {own : String} {index : Nat} {y : MethodName} {bytes : ByteArray} {maxL : Nat} {ret : Option FieldType} {hh : List (Nat × Nat × Nat × Nat)}
    (hown : s.vm.findClass own = some m.cls) (hlink : (Cond.methodLink own index y).before args s = true) (hstat : (Cond.static y).before args s = true) (hinit : (Cond.initialized y.cls).before args s = true)
    (hcode : (Cond.codeWith y bytes maxL ret hh).before args s = true) (hy : y.cls ≠ "java/lang/invoke/MethodHandle" ∧ y.cls ≠ "java/lang/invoke/VarHandle")
    {W9 : Nat} {Pre : Pt → Array Value → Prop} {Post : Pt → Array Value → Option Value → Pt → Prop} (hK : Back l R p e below s args y 3 W9 Pre Post)
    {g : JFrame} (hg : g.method = m) (hsize : g.locals.size = c.maxLocals) {argsL rest : List Value} (hlen : ∀ sig, parseMethodDescriptor y.desc = some sig → argsL.length = sig.parameters.length)
    (hstack : g.stack = argsL.reverse ++ rest) (hW : 2 * g.monitorRoom + (rest.map fun v => v.category).sum ≤ W9) (hdg : decode c.code g.pc = .ok (.invokestatic index, 3))
    (hpre : ∀ vm₁, s.WarmedH vm₁ → Pre ⟨T.setVm vm₁, locs, cells, slots⟩ argsL.toArray) :
    ∃ (v : Option Value) (vm₁ : Vm) (B : Pt), s.WarmedH vm₁ ∧ Stand p l e R s m args below meth c B.U B.locs B.cells B.slots ∧ Post ⟨T.setVm vm₁, locs, cells, slots⟩ argsL.toArray v B ∧
      ∀ target, Steps p.tables e below (B.U.setTop { g with pc := g.pc + 3, stack := v.toList ++ rest }) target → Steps p.tables e below (T.setTop g) target := by
  obtain ⟨mk, methM, cM, hnamed, hmethM, -, -, -, -, -, -, hsigM⟩ := Cond.codeWith_spec hcode
  have hstatic : methM.isStatic = true := Cond.static_spec hnamed hmethM hstat
  obtain ⟨kP, hkP, -⟩ := className_of_methodNamed hnamed
  have hinitP : kP.init = .initialized := Cond.initialized_spec (findClass_of_methodNamed hnamed) hkP hinit
  obtain ⟨vm₁, X₁, hstep₁⟩ := X.invokestatic hexec hown hlink hnamed hmethM hstatic hkP hinitP hy (g := g) hg (argsL := argsL) (rest := rest) (hlen _ hsigM) hstack hdg
  obtain ⟨v, B, X', hpost, hsteps⟩ := hK m meth c ⟨T.setVm vm₁, locs, cells, slots⟩ { g with stack := rest } (.invokestatic index) mk argsL.toArray X₁ hg hsize hdg hW (X₁.named hnamed) (hpre vm₁ X₁.warmed)
  exact ⟨v, vm₁, B, X₁.warmed, X', hpost, fun target h => hstep₁ _ fun acts => by rw [doInvoke_state]; exact hsteps.trans h⟩
theorem vx_runSW {y : MethodName} {bytes cc : ByteArray} {maxL nL mc ms n index : Nat} {ret : Option FieldType} {hh : List (Nat × Nat × Nat × Nat)} {ws : List Cond} {rm : Room} {Pc : Array Value → State → Prop} {Qc : Array Value → State → Outcome → State → Prop} {free : Addr → Prop} {Ts : List Cond} {own : String} {As rest : List Value} {g : JFrame}
    (S : CallFix p m c cc nL s args Ts own) (hM : Met l y ws rm Pc Qc mc ms free) (cw : vx_CSW R s args own index y bytes maxL ret hh ws rm mc ms n) (hp : PreS s H Pc As)
    (hg : g.method = m) (hn : As.length = n) (hsize : g.locals.size = nL) (hstack : g.stack = As.reverse ++ rest) (hW : 2 * g.monitorRoom + (rest.map fun v => v.category).sum ≤ 8) (hdg : decode cc g.pc = .ok (.invokestatic index, 3)) (hf : cells + mc ≤ R.cells ∧ slots + ms ≤ R.slots) :
    va_Run p l e R s m args below meth c H locs cells slots mc ms g rest (Qc As.toArray) (free) := by
  obtain ⟨⟨hrc, hrs, hfr, hlo, hws, hcw⟩, hcode, hini, hy, hlen, hl, hstt⟩ := cw
  have hK : Back l R p e below s args y 3 8 (PreOf R mc ms Pc) (PostOf Qc mc ms free) := va_backW (hh := hh) (bytes := bytes) (maxL := maxL) (ret := ret) hM hp.1 hrc hrs hfr hlo hws hcw (fun a' U hW => word_at hW (Or.inl (by first | rfl | simp [Cond.onTables, Cond.keeps, Cond.steady])) hini)
  obtain ⟨hx, hb, hml, ho, -⟩ := S
  intro T hT X
  obtain ⟨v, vm₁, ⟨U', l2, c2, s2⟩, hW₁, X', ⟨g', mk, t, L, e1, e2, hq, h1, hL, h2, h3⟩, st⟩ := vx_callSW X hx (hh := hh) (bytes := bytes) (maxL := maxL) (ret := ret) ho hl hstt hini hcode hy hK hg (hsize.trans hml.symm) (argsL := As) (rest := rest) (fun sig h => hn.trans (hlen sig h)) hstack hW (by rw [hb]; exact hdg)
    (fun vm₁ hW₁ => ⟨hf.1, hf.2, hp.2 (T.setVm vm₁) hT hW₁⟩)
  dsimp only [Pt.U, Pt.locs, Pt.cells, Pt.slots] at X' e1 e2 h1 h2 h3 st
  subst h1; subst h2; subst h3
  exact ⟨v, (T.setVm vm₁).calling g' mk As.toArray, t, U', L, hT, X', hL, e1, e2, hq, st⟩
/-- not caught here, past rows that name other classes: it goes on to the caller -/
theorem vx_outP {p : Program} {l : Launch} {e : Env} {R : Room} {s : State} {m : MethodId} {args : Array Value} {below : List Frame} {meth : Method} {c : Code} {H : Heap} {locs : List Loc} {cells slots : Nat} {free : Addr → Prop} {ls : Array Slot} {rest : List Value} {Qc : Array Value → State → Outcome → State → Prop} {XC : String → State → State → Prop}
    {pc : Nat} {own E : String} {ce : Cell} {q : Addr} {mc ms : Nat} (hown : s.vm.findClass own = some m.cls) (hlocks : meth.locks = false)
    (hpass : ∀ z ∈ c.exceptionTable.toList, covers z pc = false ∨ (z.catchType ≠ 0 ∧ ∃ nm : String, (Cond.classLink own z.catchType nm).before args s = true ∧ va_Nc E nm s)) (hcell : H[q]? = some ce) (hv : ce.vm = .none) (hcl : s.vm.findClass E = some ce.cls)
    (hx : ∀ t : State, t.heap = H → s.vm.Alike t.vm → XC E s t) (hf : ∀ z ∈ locs, free z.base) (hc : cells ≤ mc) (hs : slots ≤ ms) :
    vx_W p l e R s m args below meth c H locs cells slots (vx_MQ below Qc XC args s mc ms free) (F0 m pc ls rest) q := by
  intro T hT X
  have hpl : e.platform.magicAccessors = ({} : Platform).magicAccessors := by rw [X.admits.platform]
  obtain ⟨vm', hW', X', st⟩ := X.outThrough hlocks q (g := F0 m pc ls rest) rfl rfl rfl (cell := ce) (by rw [hT]; exact hcell) (by rw [hv]; rfl)
    (by obtain ⟨k9, h9, -⟩ := Vm.findClass_spec hcl; exact ⟨k9, h9⟩) (fun z hz => by
      rcases hpass z hz with h | ⟨hz0, nm, hl1, hn1⟩
      · exact Or.inl h
      · obtain ⟨c6, hc6, hcl6⟩ := Cond.classLink_spec hown hl1 e.platform hpl
        obtain ⟨a8, b8, h1, h2, h3⟩ := hn1
        cases Option.some.inj (h1.symm.trans hcl)
        cases Option.some.inj (h2.symm.trans hc6)
        exact Or.inr ⟨hz0, _, hcl6, h3⟩)
  obtain ⟨g₀, hfr⟩ := X'.frames_eq
  have hcell9 : ((T.setVm vm').setFrames (.throwing q :: below)).heap[q]? = some ce := by
    show T.heap[q]? = some ce
    rw [hT]; exact hcell
  have hend : Ended ((T.setVm vm').setFrames (.throwing q :: below)) below (.threw q) := State.frames_setFrames _ (State.cur_lt_of_frames hfr)
  refine ⟨(T.setVm vm').setFrames (.throwing q :: below), ?_, .threw q, X'.here.running, hend, Or.inr ⟨q, rfl, E, ce, locs, hx _ hT (X'.ends _).1.alike, hcell9, hv, hcl, (X'.ends _).1, (X'.ends _).2.mono hc hs, hf⟩⟩
  rw [X.pushThrowing_eq]
  exact st
/-- a thing of a world lies in the heap -/
theorem vx_lt {D : va_G} {cl : List vw_C} {ws : va_W} {H1 : Heap} (h : va_P D cl ws H1) {k : Nat} {q : Nat × va_E} (hk : ws[k]? = some q) : q.1 < H1.size := (h k q hk).lt
end VXS
/-! ===== END ===== -/
/-! ===== BEGIN methods with a table of their own: called by a name, returning or throwing ===== -/
section VXH
/-! vx_backW, vx_callVX, vx_callSX, vx_callVW, vx_runVW, vx_runVX, vx_runSX, vx_ofWH follow the same proofs as their sisters above (Free/Laws.lean, Shelf42/LK1.lean); vx_outP calls Shelf42/NT130.lean (outThrough). -/
section
variable {l : Launch} {R : Room} {p : Program} {e : Env} {below : List Frame} {s : State} {sargs : Array Value} {y : MethodName} {len W9 : Nat}
theorem vx_backW {ws : List Cond} {rm : Room} {Pc : Array Value → State → Prop} {Qc : Array Value → State → Outcome → State → Prop} {XC : String → State → State → Prop} {mc ms : Nat} {free : Addr → Prop} {bytes : ByteArray} {maxL : Nat} {ret : Option FieldType} {hh : List (Nat × Nat × Nat × Nat)}
    (hM : vx_Met l y ws rm Pc Qc XC mc ms free) (hblind : FrameBlind Pc) (hrc : rm.cells = mc) (hrs : rm.slots = ms)
    (hframes : rm.frames + 1 ≤ R.frames) (hlocals : W9 + (maxL + 11) + rm.locals ≤ R.locals)
    (hws : ∀ w ∈ ws, ∀ a' U, s.WarmedH U.vm → w.before a' U = true) (hcode : Cond.codeWith y bytes maxL ret hh ∈ ws) (hinit : ∀ a' U, s.WarmedH U.vm → (Cond.initialized y.cls).before a' U = true) :
    vx_Back l R p e below s sargs y len W9 (PreOf R mc ms Pc) (PostOf Qc mc ms free) (vx_Post XC mc ms free) := by
  intro m meth c A g ig mk a X hg hsize hdg hW hn hp
  have h1 : (headSpec ws rm).pre.before a A.U = true := atoms_intro fun w hw => hws w hw _ _ X.warmed
  have h2 : (Cond.codeWith y bytes maxL ret hh).before a A.U = true := hws _ hcode _ _ X.warmed
  have h3 : (Cond.initialized y.cls).before a A.U = true := hinit _ _ X.warmed
  have h4 : A.cells + (headSpec ws rm).room.cells ≤ R.cells := by rw [show (headSpec ws rm).room.cells = mc from hrc]; exact hp.1
  have h5 : A.slots + (headSpec ws rm).room.slots ≤ R.slots := by rw [show (headSpec ws rm).room.slots = ms from hrs]; exact hp.2.1
  have hPc : Pc a (A.U.calling g mk a) := hblind _ _ _ _ hp.2.2
  obtain ⟨U, Ls, c0, s0⟩ := A
  dsimp only [Pt.U, Pt.locs, Pt.cells, Pt.slots] at h1 h2 h3 h4 h5 X hn hPc ⊢
  obtain ⟨m9, methY, cY, hn9, hmY, hcY, -, hlY, -⟩ := Cond.codeWith_spec h2
  cases Option.some.inj (hn9.symm.trans hn)
  obtain ⟨kY, hkY, -⟩ := className_of_methodNamed hn
  have hinitY : kY.init = .initialized := Cond.initialized_spec (findClass_of_methodNamed hn) hkY h3
  have h : At U g.method c below := by rw [hg]; exact X.here
  have hlocals9 : W9 + (maxL + 11) + (headSpec ws rm).room.locals ≤ R.locals := hlocals
  have happ : (headSpec ws rm).appliesLoose y e.platform (U.calling g mk a) = true :=
    Spec.appliesLoose_calling (g := g) h hdg hn hkY hinitY
      (X.room_calling (g := g) (R' := (headSpec ws rm).room) hsize hmY hcY hframes (by rw [hlY]; omega) h4 h5) h1
  obtain ⟨mid, hmid⟩ := h.above
  have hfr : (U.setTop g).frames = (.java g :: mid) ++ below := by rw [State.frames_setTop' g h.top, hmid]; rfl
  obtain ⟨o, s₂, hsteps, -, hend, hq⟩ := Steps.callFree hM p X.admits X.cas X.clock (acts := []) hfr happ hPc trivial
  have hq' : vx_Q Qc XC mc ms free a (U.calling g mk a) o s₂ := hq
  rw [State.frames_setTop' g h.top] at hend
  obtain ⟨g₀, hg0⟩ := Option.isSome_iff_exists.mp h.top
  obtain ⟨r, hr⟩ := State.topJava?_eq_some.mp hg0
  have hr' : (({ U with heap := s₂.heap, slotsUsed := s₂.slotsUsed } : State).setVm s₂.vm).frames = .java g₀ :: r := hr
  rcases hq' with ⟨hqc, L, hfe, hL⟩ | ⟨q, rfl, E, ce, L, hx, hce, hcv, hcl, hW₂, hsm, hL⟩
  · obtain ⟨⟨v, rfl⟩, hW₂, e2, q2, q3, q4, q5, q6⟩ := id hfe
    have e3 : s₂ = ({ (U.calling g mk a).setFrames s₂.frames with heap := s₂.heap, slotsUsed := s₂.slotsUsed } : State).setVm s₂.vm := by
      have : s₂ = ({ s₂ with vm := (U.calling g mk a).vm } : State).setVm s₂.vm := rfl
      rw [e2] at this
      exact this
    obtain ⟨c₂, i₂, len₂, hc₂, hd₂, hf₂⟩ := hend
    have hW' : U.WarmedH s₂.vm := hW₂
    have hcc : c₂ = c := by
      have h1 : s₂.code? g.method = U.code? g.method := by
        rw [State.code?_eq, State.code?_eq, hW'.alike.method?]
      exact Option.some.inj (hc₂.symm.trans (h1.trans h.code))
    subst hcc
    have hlen : len₂ = len := by rw [hdg] at hd₂; cases hd₂; rfl
    subst hlen
    have hs₂ : s₂ = (({ U with heap := s₂.heap, slotsUsed := s₂.slotsUsed } : State).setVm s₂.vm).setTop { g with pc := g.pc + len₂, stack := v.toList ++ g.stack } := by
      refine e3.trans ?_
      rw [hf₂, State.calling_eq h.top, State.setFrames_setFrames, State.setTop_of_frames _ hr', hr]
      rfl
    have hsame : U.sameButNew ({ U with heap := s₂.heap, slotsUsed := s₂.slotsUsed } : State) L mc ms := by
      refine ⟨?_, q2, q3, q4, q5, q6⟩
      obtain ⟨t, ht, -⟩ := State.frames_cons hr
      show ({ U with heap := s₂.heap, slotsUsed := s₂.slotsUsed } : State) = { U.setFrames U.frames with heap := s₂.heap, slotsUsed := s₂.slotsUsed }
      rw [State.setFrames_self ht]
    subst hg
    refine Or.inl ⟨v, ⟨(({ U with heap := s₂.heap, slotsUsed := s₂.slotsUsed } : State).setVm s₂.vm), Ls ++ L, c0 + mc, s0 + ms⟩,
      ⟨X.admits, X.cas, X.clock, X.frames, X.room, X.hears, X.method, X.code, (X.here.setHeapUsed s₂.heap s₂.slotsUsed).setVm hW'.alike, X.tail, State.WarmedH.trans X.warmed hW', X.limits, X.bytes, X.same.trans (hsame.setVm s.vm)⟩,
      ⟨g, mk, s₂, L, rfl, rfl, hqc, rfl, hL, rfl, rfl⟩, ?_⟩
    show Steps p.tables e below _ ((({ U with heap := s₂.heap, slotsUsed := s₂.slotsUsed } : State).setVm s₂.vm).setTop { g with pc := g.pc + len₂, stack := v.toList ++ g.stack })
    rw [← hs₂]
    exact hsteps
  · obtain ⟨e2, q2, q3, q4, q5, q6⟩ := id hsm
    have e3 : s₂ = ({ (U.calling g mk a).setFrames s₂.frames with heap := s₂.heap, slotsUsed := s₂.slotsUsed } : State).setVm s₂.vm := by
      have : s₂ = ({ s₂ with vm := (U.calling g mk a).vm } : State).setVm s₂.vm := rfl
      rw [e2] at this
      exact this
    have hf₂ : s₂.frames = .throwing q :: .java g :: U.frames.tail := hend
    have hW' : U.WarmedH s₂.vm := hW₂
    have hs₂ : s₂ = ((({ U with heap := s₂.heap, slotsUsed := s₂.slotsUsed } : State).setVm s₂.vm).setTop g).pushFrame (.throwing q) := by
      refine e3.trans ?_
      rw [hf₂, State.calling_eq h.top, State.setFrames_setFrames, State.pushFrame, State.frames_setTop _ hr', State.setTop_of_frames _ hr', State.setFrames_setFrames, hr]
      rfl
    have hsame : U.sameButNew ({ U with heap := s₂.heap, slotsUsed := s₂.slotsUsed } : State) L mc ms := by
      refine ⟨?_, q2, q3, q4, q5, q6⟩
      obtain ⟨t, ht, -⟩ := State.frames_cons hr
      show ({ U with heap := s₂.heap, slotsUsed := s₂.slotsUsed } : State) = { U.setFrames U.frames with heap := s₂.heap, slotsUsed := s₂.slotsUsed }
      rw [State.setFrames_self ht]
    subst hg
    refine Or.inr ⟨q, ⟨(({ U with heap := s₂.heap, slotsUsed := s₂.slotsUsed } : State).setVm s₂.vm), Ls ++ L, c0 + mc, s0 + ms⟩,
      ⟨X.admits, X.cas, X.clock, X.frames, X.room, X.hears, X.method, X.code, (X.here.setHeapUsed s₂.heap s₂.slotsUsed).setVm hW'.alike, X.tail, State.WarmedH.trans X.warmed hW', X.limits, X.bytes, X.same.trans (hsame.setVm s.vm)⟩,
      ⟨g, mk, s₂, L, E, ce, rfl, rfl, hx, hce, hcv, hcl, rfl, hL, rfl, rfl⟩, ?_⟩
    show Steps p.tables e below _ (((({ U with heap := s₂.heap, slotsUsed := s₂.slotsUsed } : State).setVm s₂.vm).setTop g).pushFrame (.throwing q))
    rw [← hs₂]
    exact hsteps
end
variable {p : Program} {l : Launch} {e : Env} {R : Room} {s : State} {m : MethodId} {args : Array Value} {below : List Frame} {meth : Method} {c : Code} {T : State} {H : Heap} {locs : List Loc} {cells slots : Nat}
theorem vx_callVX (X : Stand p l e R s m args below meth c T locs cells slots) (hexec : p.tables.exec = Jvm.exec) {own C : String} {index : Nat} {y : MethodName} {bytes : ByteArray} {maxL : Nat} {ret : Option FieldType} {hh : List (Nat × Nat × Nat × Nat)}
    (hown : s.vm.findClass own = some m.cls) (hlink : (Cond.methodLink own index y).before args s = true) (hinst : (Cond.instanceMethod y).before args s = true) (hsel : (Cond.selects C y y).before args s = true)
    (hcode : (Cond.codeWith y bytes maxL ret hh).before args s = true) (hy : y.cls ≠ "java/lang/invoke/MethodHandle" ∧ y.cls ≠ "java/lang/invoke/VarHandle")
    {W9 : Nat} {Pre : Pt → Array Value → Prop} {Post : Pt → Array Value → Option Value → Pt → Prop} {PostX : Pt → Array Value → Addr → Pt → Prop} (hK : vx_Back l R p e below s args y 3 W9 Pre Post PostX)
    {b : Addr} {cellB : Cell} (hcell : T.heap[b]? = some cellB) (hobj : cellB.vm.isStatics = false) (hcls : s.vm.findClass C = some cellB.cls)
    {g : JFrame} (hg : g.method = m) (hsize : g.locals.size = c.maxLocals) {argsL rest : List Value} (hlen : ∀ sig, parseMethodDescriptor y.desc = some sig → argsL.length = sig.parameters.length)
    (hstack : g.stack = argsL.reverse ++ .ref b :: rest) (hW : 2 * g.monitorRoom + (rest.map fun v => v.category).sum ≤ W9) (hdg : decode c.code g.pc = .ok (.invokevirtual index, 3))
    (hpre : ∀ vm₁, s.WarmedH vm₁ → Pre ⟨T.setVm vm₁, locs, cells, slots⟩ (Value.ref b :: argsL).toArray) :
    (∃ (v : Option Value) (vm₁ : Vm) (B : Pt), s.WarmedH vm₁ ∧ Stand p l e R s m args below meth c B.U B.locs B.cells B.slots ∧ Post ⟨T.setVm vm₁, locs, cells, slots⟩ (Value.ref b :: argsL).toArray v B ∧
      ∀ target, Steps p.tables e below (B.U.setTop { g with pc := g.pc + 3, stack := v.toList ++ rest }) target → Steps p.tables e below (T.setTop g) target) ∨
    (∃ (q : Addr) (vm₁ : Vm) (B : Pt), s.WarmedH vm₁ ∧ Stand p l e R s m args below meth c B.U B.locs B.cells B.slots ∧ PostX ⟨T.setVm vm₁, locs, cells, slots⟩ (Value.ref b :: argsL).toArray q B ∧
      Steps p.tables e below (T.setTop g) ((B.U.setTop { g with stack := rest }).pushFrame (.throwing q))) := by
  obtain ⟨mk, methM, hnamed, hmethM, hstM, habM⟩ := Cond.instanceMethod_spec hinst
  obtain ⟨m8, methM', cM, hn8, hmethM', -, -, -, -, -, -, hsigM⟩ := Cond.codeWith_spec hcode
  cases Option.some.inj (hn8.symm.trans hnamed)
  cases hmethM.symm.trans hmethM'
  obtain ⟨c2, r2, m2, q1, q2, q3, q4, kP, hkP, hkPi⟩ := Cond.selects_spec hsel
  cases hcls.symm.trans q1
  cases (State.methodFound?_of_named hnamed hy).symm.trans q2
  cases hnamed.symm.trans q3
  have hselP : selectMethod e.platform s.vm cellB.cls mk = .method mk := by rw [Launch.admits_selectMethod X.admits]; exact q4
  obtain ⟨vm₁, X₁, hstep₁⟩ := X.invokevirtual hexec hown hlink hnamed hmethM hstM hkP hkPi hy (a := b) (cell := cellB) hcell
    (fun z h => by rw [h] at hobj; cases hobj) hselP hmethM habM hkP hkPi (g := g) hg (argsL := argsL) (rest := rest) (hlen _ hsigM) hstack hdg
  rcases hK m meth c ⟨T.setVm vm₁, locs, cells, slots⟩ { g with stack := rest } (.invokevirtual index) mk (Value.ref b :: argsL).toArray X₁ hg hsize hdg hW (X₁.named hnamed) (hpre vm₁ X₁.warmed) with ⟨v, B, X', hpost, hsteps⟩ | ⟨q, B, X', hpost, hsteps⟩
  · exact Or.inl ⟨v, vm₁, B, X₁.warmed, X', hpost, fun target h => hstep₁ _ fun acts => by rw [doInvoke_state]; exact hsteps.trans h⟩
  · exact Or.inr ⟨q, vm₁, B, X₁.warmed, X', hpost, hstep₁ _ fun acts => by rw [doInvoke_state]; exact hsteps⟩
theorem vx_callSX (X : Stand p l e R s m args below meth c T locs cells slots) (hexec : p.tables.exec = Jvm.exec) {own : String} {index : Nat} {y : MethodName} {bytes : ByteArray} {maxL : Nat} {ret : Option FieldType} {hh : List (Nat × Nat × Nat × Nat)}
    (hown : s.vm.findClass own = some m.cls) (hlink : (Cond.methodLink own index y).before args s = true) (hstat : (Cond.static y).before args s = true) (hinit : (Cond.initialized y.cls).before args s = true)
    (hcode : (Cond.codeWith y bytes maxL ret hh).before args s = true) (hy : y.cls ≠ "java/lang/invoke/MethodHandle" ∧ y.cls ≠ "java/lang/invoke/VarHandle")
    {W9 : Nat} {Pre : Pt → Array Value → Prop} {Post : Pt → Array Value → Option Value → Pt → Prop} {PostX : Pt → Array Value → Addr → Pt → Prop} (hK : vx_Back l R p e below s args y 3 W9 Pre Post PostX)
    {g : JFrame} (hg : g.method = m) (hsize : g.locals.size = c.maxLocals) {argsL rest : List Value} (hlen : ∀ sig, parseMethodDescriptor y.desc = some sig → argsL.length = sig.parameters.length)
    (hstack : g.stack = argsL.reverse ++ rest) (hW : 2 * g.monitorRoom + (rest.map fun v => v.category).sum ≤ W9) (hdg : decode c.code g.pc = .ok (.invokestatic index, 3))
    (hpre : ∀ vm₁, s.WarmedH vm₁ → Pre ⟨T.setVm vm₁, locs, cells, slots⟩ argsL.toArray) :
    (∃ (v : Option Value) (vm₁ : Vm) (B : Pt), s.WarmedH vm₁ ∧ Stand p l e R s m args below meth c B.U B.locs B.cells B.slots ∧ Post ⟨T.setVm vm₁, locs, cells, slots⟩ argsL.toArray v B ∧
      ∀ target, Steps p.tables e below (B.U.setTop { g with pc := g.pc + 3, stack := v.toList ++ rest }) target → Steps p.tables e below (T.setTop g) target) ∨
    (∃ (q : Addr) (vm₁ : Vm) (B : Pt), s.WarmedH vm₁ ∧ Stand p l e R s m args below meth c B.U B.locs B.cells B.slots ∧ PostX ⟨T.setVm vm₁, locs, cells, slots⟩ argsL.toArray q B ∧
      Steps p.tables e below (T.setTop g) ((B.U.setTop { g with stack := rest }).pushFrame (.throwing q))) := by
  obtain ⟨mk, methM, cM, hnamed, hmethM, -, -, -, -, -, -, hsigM⟩ := Cond.codeWith_spec hcode
  have hstatic : methM.isStatic = true := Cond.static_spec hnamed hmethM hstat
  obtain ⟨kP, hkP, -⟩ := className_of_methodNamed hnamed
  have hinitP : kP.init = .initialized := Cond.initialized_spec (findClass_of_methodNamed hnamed) hkP hinit
  obtain ⟨vm₁, X₁, hstep₁⟩ := X.invokestatic hexec hown hlink hnamed hmethM hstatic hkP hinitP hy (g := g) hg (argsL := argsL) (rest := rest) (hlen _ hsigM) hstack hdg
  rcases hK m meth c ⟨T.setVm vm₁, locs, cells, slots⟩ { g with stack := rest } (.invokestatic index) mk argsL.toArray X₁ hg hsize hdg hW (X₁.named hnamed) (hpre vm₁ X₁.warmed) with ⟨v, B, X', hpost, hsteps⟩ | ⟨q, B, X', hpost, hsteps⟩
  · exact Or.inl ⟨v, vm₁, B, X₁.warmed, X', hpost, fun target h => hstep₁ _ fun acts => by rw [doInvoke_state]; exact hsteps.trans h⟩
  · exact Or.inr ⟨q, vm₁, B, X₁.warmed, X', hpost, hstep₁ _ fun acts => by rw [doInvoke_state]; exact hsteps⟩
theorem vx_callVW (X : Stand p l e R s m args below meth c T locs cells slots) (hexec : p.tables.exec = Jvm.exec) {own C : String} {index : Nat} {y : MethodName} {bytes : ByteArray} {maxL : Nat} {ret : Option FieldType} {hh : List (Nat × Nat × Nat × Nat)}
    (hown : s.vm.findClass own = some m.cls) (hlink : (Cond.methodLink own index y).before args s = true) (hinst : (Cond.instanceMethod y).before args s = true) (hsel : (Cond.selects C y y).before args s = true)
    (hcode : (Cond.codeWith y bytes maxL ret hh).before args s = true) (hy : y.cls ≠ "java/lang/invoke/MethodHandle" ∧ y.cls ≠ "java/lang/invoke/VarHandle")
    {W9 : Nat} {Pre : Pt → Array Value → Prop} {Post : Pt → Array Value → Option Value → Pt → Prop} (hK : Back l R p e below s args y 3 W9 Pre Post)
    {b : Addr} {cellB : Cell} (hcell : T.heap[b]? = some cellB) (hobj : cellB.vm.isStatics = false) (hcls : s.vm.findClass C = some cellB.cls)
    {g : JFrame} (hg : g.method = m) (hsize : g.locals.size = c.maxLocals) {argsL rest : List Value} (hlen : ∀ sig, parseMethodDescriptor y.desc = some sig → argsL.length = sig.parameters.length)
    (hstack : g.stack = argsL.reverse ++ .ref b :: rest) (hW : 2 * g.monitorRoom + (rest.map fun v => v.category).sum ≤ W9) (hdg : decode c.code g.pc = .ok (.invokevirtual index, 3))
    (hpre : ∀ vm₁, s.WarmedH vm₁ → Pre ⟨T.setVm vm₁, locs, cells, slots⟩ (Value.ref b :: argsL).toArray) :
    ∃ (v : Option Value) (vm₁ : Vm) (B : Pt), s.WarmedH vm₁ ∧ Stand p l e R s m args below meth c B.U B.locs B.cells B.slots ∧ Post ⟨T.setVm vm₁, locs, cells, slots⟩ (Value.ref b :: argsL).toArray v B ∧
      ∀ target, Steps p.tables e below (B.U.setTop { g with pc := g.pc + 3, stack := v.toList ++ rest }) target → Steps p.tables e below (T.setTop g) target := by
  obtain ⟨mk, methM, hnamed, hmethM, hstM, habM⟩ := Cond.instanceMethod_spec hinst
  obtain ⟨m8, methM', cM, hn8, hmethM', -, -, -, -, -, -, hsigM⟩ := Cond.codeWith_spec hcode
  cases Option.some.inj (hn8.symm.trans hnamed)
  cases hmethM.symm.trans hmethM'
  obtain ⟨c2, r2, m2, q1, q2, q3, q4, kP, hkP, hkPi⟩ := Cond.selects_spec hsel
  cases hcls.symm.trans q1
  cases (State.methodFound?_of_named hnamed hy).symm.trans q2
  cases hnamed.symm.trans q3
  have hselP : selectMethod e.platform s.vm cellB.cls mk = .method mk := by rw [Launch.admits_selectMethod X.admits]; exact q4
  obtain ⟨vm₁, X₁, hstep₁⟩ := X.invokevirtual hexec hown hlink hnamed hmethM hstM hkP hkPi hy (a := b) (cell := cellB) hcell
    (fun z h => by rw [h] at hobj; cases hobj) hselP hmethM habM hkP hkPi (g := g) hg (argsL := argsL) (rest := rest) (hlen _ hsigM) hstack hdg
  obtain ⟨v, B, X', hpost, hsteps⟩ := hK m meth c ⟨T.setVm vm₁, locs, cells, slots⟩ { g with stack := rest } (.invokevirtual index) mk (Value.ref b :: argsL).toArray X₁ hg hsize hdg hW (X₁.named hnamed) (hpre vm₁ X₁.warmed)
  exact ⟨v, vm₁, B, X₁.warmed, X', hpost, fun target h => hstep₁ _ fun acts => by rw [doInvoke_state]; exact hsteps.trans h⟩
abbrev vx_CVW (R : Room) (s : State) (args : Array Value) (own C : String) (index : Nat) (y : MethodName) (bytes : ByteArray) (maxL : Nat) (ret : Option FieldType) (hh : List (Nat × Nat × Nat × Nat)) (ws : List Cond) (rm : Room) (mc ms n : Nat) : Prop :=
  (rm.cells = mc ∧ rm.slots = ms ∧ rm.frames + 1 ≤ R.frames ∧ 8 + (maxL + 11) + rm.locals ≤ R.locals ∧ (∀ w ∈ ws, ∀ (a' : Array Value) (U : State), s.WarmedH U.vm → w.before a' U = true) ∧ Cond.codeWith y bytes maxL ret hh ∈ ws) ∧
  (Cond.codeWith y bytes maxL ret hh).before args s = true ∧ (Cond.initialized y.cls).before args s = true ∧ (y.cls ≠ "java/lang/invoke/MethodHandle" ∧ y.cls ≠ "java/lang/invoke/VarHandle") ∧
  (∀ sig, parseMethodDescriptor y.desc = some sig → n = sig.parameters.length) ∧ (Cond.methodLink own index y).before args s = true ∧ (Cond.instanceMethod y).before args s = true ∧ (Cond.selects C y y).before args s = true
theorem vx_cwVW {own C : String} {index maxL mc ms : Nat} {y : MethodName} {bytes : ByteArray} {ret : Option FieldType} {hh : List (Nat × Nat × Nat × Nat)} {Ts ws ws' : List Cond} {rm : Room} (n : Nat) (ht : ∀ w ∈ Ts, w.before args s = true) (hT : GoodIn Ts (wsV own index C y ws)) (hw : ws = Cond.codeWith y bytes maxL ret hh :: ws') (hrc : rm.cells = mc) (hrs : rm.slots = ms)
    (hd : y.cls = C ∧ y.cls ≠ "java/lang/invoke/MethodHandle" ∧ y.cls ≠ "java/lang/invoke/VarHandle" ∧ (parseMethodDescriptor y.desc).map (fun d => d.parameters.length) = some n) (hR : rm.frames + 1 ≤ R.frames ∧ 8 + (maxL + 11) + rm.locals ≤ R.locals) :
    vx_CVW R s args own C index y bytes maxL ret hh ws rm mc ms n := by
  obtain ⟨hC, hd⟩ := hd
  subst hC
  have ok : ∀ w ∈ wsV own index y.cls y ws, w.before args s = true := fun w h => ht w (hT w h).1
  have hG : GoodIn Ts ws := fun w h => hT w (by unfold wsV; exact List.mem_append_right _ h)
  have hc : Cond.codeWith y bytes maxL ret hh ∈ ws := by rw [hw]; exact List.mem_cons_self
  refine ⟨⟨hrc, hrs, hR.1, hR.2, pay_in ht hG, hc⟩, ht _ (hG _ hc).1, ok _ (by simp [wsV]), ⟨hd.1, hd.2.1⟩, fun sig h => ?_, ok _ (by simp [wsV]), ok _ (by simp [wsV]), ok _ (by simp [wsV])⟩
  have h2 := hd.2.2
  rw [h] at h2
  exact (Option.some.inj h2).symm
theorem vx_runVW {y : MethodName} {bytes cc : ByteArray} {maxL nL mc ms n index : Nat} {ret : Option FieldType} {hh : List (Nat × Nat × Nat × Nat)} {ws : List Cond} {rm : Room} {Pc : Array Value → State → Prop} {Qc : Array Value → State → Outcome → State → Prop} {free : Addr → Prop} {Ts : List Cond} {own C : String} {b : Addr} {As rest : List Value} {g : JFrame}
    (S : CallFix p m c cc nL s args Ts own) (hM : Met l y ws rm Pc Qc mc ms free) (cw : vx_CVW R s args own C index y bytes maxL ret hh ws rm mc ms n) (hp : PreV s H C b Pc As)
    (hg : g.method = m) (hn : As.length = n) (hsize : g.locals.size = nL) (hstack : g.stack = As.reverse ++ .ref b :: rest) (hW : 2 * g.monitorRoom + (rest.map fun v => v.category).sum ≤ 8) (hdg : decode cc g.pc = .ok (.invokevirtual index, 3)) (hf : cells + mc ≤ R.cells ∧ slots + ms ≤ R.slots) :
    va_Run p l e R s m args below meth c H locs cells slots mc ms g rest (Qc (Value.ref b :: As).toArray) free := by
  obtain ⟨⟨hrc, hrs, hfr, hlo, hws, hcw⟩, hcode, hini, hy, hlen, hl, hin, hse⟩ := cw
  have hK : Back l R p e below s args y 3 8 (PreOf R mc ms Pc) (PostOf Qc mc ms free) := va_backW (hh := hh) (bytes := bytes) (maxL := maxL) (ret := ret) hM hp.1 hrc hrs hfr hlo hws hcw (fun a' U hW => word_at hW (Or.inl (by first | rfl | simp [Cond.onTables, Cond.keeps, Cond.steady])) hini)
  obtain ⟨hx, hb, hml, ho, -⟩ := S
  obtain ⟨-, ⟨cellB, hcB, hoB, hclB⟩, hPc⟩ := hp
  intro T hT X
  obtain ⟨v, vm₁, ⟨U', l2, c2, s2⟩, hW₁, X', ⟨g', mk, t, L, e1, e2, hq, h1, hL, h2, h3⟩, st⟩ := vx_callVW X hx (C := C) (hh := hh) (bytes := bytes) (maxL := maxL) (ret := ret) ho hl hin hse hcode hy hK (by rw [hT]; exact hcB) hoB hclB hg (hsize.trans hml.symm) (argsL := As) (rest := rest) (fun sig h => hn.trans (hlen sig h)) hstack hW (by rw [hb]; exact hdg)
    (fun vm₁ hW₁ => ⟨hf.1, hf.2, hPc (T.setVm vm₁) hT hW₁⟩)
  dsimp only [Pt.U, Pt.locs, Pt.cells, Pt.slots] at X' e1 e2 h1 h2 h3 st
  subst h1; subst h2; subst h3
  exact ⟨v, (T.setVm vm₁).calling g' mk (Value.ref b :: As).toArray, t, U', L, hT, X', hL, e1, e2, hq, st⟩
section
variable {y : MethodName} {bytes cc : ByteArray} {maxL nL mc ms n index : Nat} {ret : Option FieldType} {ws : List Cond} {rm : Room} {Pc : Array Value → State → Prop} {Qc : Array Value → State → Outcome → State → Prop} {XC : String → State → State → Prop} {free : Addr → Prop} {Ts : List Cond} {own C : String} {b : Addr} {As rest : List Value} {g : JFrame}
theorem vx_runVX {hh : List (Nat × Nat × Nat × Nat)} (S : CallFix p m c cc nL s args Ts own) (hM : vx_Met l y ws rm Pc Qc XC mc ms free) (cw : vx_CVW R s args own C index y bytes maxL ret hh ws rm mc ms n) (hp : PreV s H C b Pc As)
    (hg : g.method = m) (hn : As.length = n) (hsize : g.locals.size = nL) (hstack : g.stack = As.reverse ++ .ref b :: rest) (hW : 2 * g.monitorRoom + (rest.map fun v => v.category).sum ≤ 8) (hdg : decode cc g.pc = .ok (.invokevirtual index, 3)) (hf : cells + mc ≤ R.cells ∧ slots + ms ≤ R.slots) :
    vx_Run p l e R s m args below meth c H locs cells slots mc ms g rest (Qc (Value.ref b :: As).toArray) XC free := by
  obtain ⟨⟨hrc, hrs, hfr, hlo, hws, hcw⟩, hcode, hini, hy, hlen, hl, hin, hse⟩ := cw
  have hK : vx_Back l R p e below s args y 3 8 (PreOf R mc ms Pc) (PostOf Qc mc ms free) (vx_Post XC mc ms free) := vx_backW (hh := hh) (bytes := bytes) (maxL := maxL) (ret := ret) hM hp.1 hrc hrs hfr hlo hws hcw (fun a' U hW => word_at hW (Or.inl (by first | rfl | simp [Cond.onTables, Cond.keeps, Cond.steady])) hini)
  obtain ⟨hx, hb, hml, ho, -⟩ := S
  obtain ⟨-, ⟨cellB, hcB, hoB, hclB⟩, hPc⟩ := hp
  intro T hT X
  rcases vx_callVX X hx (C := C) (hh := hh) (bytes := bytes) (maxL := maxL) (ret := ret) ho hl hin hse hcode hy hK (by rw [hT]; exact hcB) hoB hclB hg (hsize.trans hml.symm) (argsL := As) (rest := rest) (fun sig h => hn.trans (hlen sig h)) hstack hW (by rw [hb]; exact hdg)
    (fun vm₁ hW₁ => ⟨hf.1, hf.2, hPc (T.setVm vm₁) hT hW₁⟩) with ⟨v, vm₁, ⟨U', l2, c2, s2⟩, hW₁, X', ⟨g', mk, t, L, e1, e2, hq, h1, hL, h2, h3⟩, st⟩ | ⟨q, vm₁, ⟨U', l2, c2, s2⟩, hW₁, X', ⟨g', mk, t, L, E, ce, e1, e2, hq, hce, hcv, hcl, h1, hL, h2, h3⟩, st⟩
  · dsimp only [Pt.U, Pt.locs, Pt.cells, Pt.slots] at X' e1 e2 h1 h2 h3 st
    subst h1; subst h2; subst h3
    exact Or.inl ⟨v, (T.setVm vm₁).calling g' mk (Value.ref b :: As).toArray, t, U', L, hT, X', hL, e1, e2, hq, st⟩
  · dsimp only [Pt.U, Pt.locs, Pt.cells, Pt.slots] at X' e1 e2 h1 h2 h3 st hcl
    subst h1; subst h2; subst h3
    exact Or.inr ⟨q, (T.setVm vm₁).calling g' mk (Value.ref b :: As).toArray, t, U', L, E, ce, hT, X', hL, e1, e2, hq, hce, hcv, vx_cls hW₁ hcl, st⟩
theorem vx_runSX {hh : List (Nat × Nat × Nat × Nat)} (S : CallFix p m c cc nL s args Ts own) (hM : vx_Met l y ws rm Pc Qc XC mc ms free) (cw : vx_CSW R s args own index y bytes maxL ret hh ws rm mc ms n) (hp : PreS s H Pc As)
    (hg : g.method = m) (hn : As.length = n) (hsize : g.locals.size = nL) (hstack : g.stack = As.reverse ++ rest) (hW : 2 * g.monitorRoom + (rest.map fun v => v.category).sum ≤ 8) (hdg : decode cc g.pc = .ok (.invokestatic index, 3)) (hf : cells + mc ≤ R.cells ∧ slots + ms ≤ R.slots) :
    vx_Run p l e R s m args below meth c H locs cells slots mc ms g rest (Qc As.toArray) XC free := by
  obtain ⟨⟨hrc, hrs, hfr, hlo, hws, hcw⟩, hcode, hini, hy, hlen, hl, hstt⟩ := cw
  have hK : vx_Back l R p e below s args y 3 8 (PreOf R mc ms Pc) (PostOf Qc mc ms free) (vx_Post XC mc ms free) := vx_backW (hh := hh) (bytes := bytes) (maxL := maxL) (ret := ret) hM hp.1 hrc hrs hfr hlo hws hcw (fun a' U hW => word_at hW (Or.inl (by first | rfl | simp [Cond.onTables, Cond.keeps, Cond.steady])) hini)
  obtain ⟨hx, hb, hml, ho, -⟩ := S
  intro T hT X
  rcases vx_callSX X hx (hh := hh) (bytes := bytes) (maxL := maxL) (ret := ret) ho hl hstt hini hcode hy hK hg (hsize.trans hml.symm) (argsL := As) (rest := rest) (fun sig h => hn.trans (hlen sig h)) hstack hW (by rw [hb]; exact hdg)
    (fun vm₁ hW₁ => ⟨hf.1, hf.2, hp.2 (T.setVm vm₁) hT hW₁⟩) with ⟨v, vm₁, ⟨U', l2, c2, s2⟩, hW₁, X', ⟨g', mk, t, L, e1, e2, hq, h1, hL, h2, h3⟩, st⟩ | ⟨q, vm₁, ⟨U', l2, c2, s2⟩, hW₁, X', ⟨g', mk, t, L, E, ce, e1, e2, hq, hce, hcv, hcl, h1, hL, h2, h3⟩, st⟩
  · dsimp only [Pt.U, Pt.locs, Pt.cells, Pt.slots] at X' e1 e2 h1 h2 h3 st
    subst h1; subst h2; subst h3
    exact Or.inl ⟨v, (T.setVm vm₁).calling g' mk As.toArray, t, U', L, hT, X', hL, e1, e2, hq, st⟩
  · dsimp only [Pt.U, Pt.locs, Pt.cells, Pt.slots] at X' e1 e2 h1 h2 h3 st hcl
    subst h1; subst h2; subst h3
    exact Or.inr ⟨q, (T.setVm vm₁).calling g' mk As.toArray, t, U', L, E, ce, hT, X', hL, e1, e2, hq, hce, hcv, vx_cls hW₁ hcl, st⟩
end
end VXH
theorem vx_ofWH {l : Launch} {y : MethodName} {ws ws' : List Cond} {rm : Room} {Pc : Array Value → State → Prop} {Qc : Array Value → State → Outcome → State → Prop} {XC : String → State → State → Prop} {mc ms : Nat} {free : Addr → Prop} {cc : ByteArray} {maxL : Nat} {ret : Option FieldType} {hh : List (Nat × Nat × Nat × Nat)}
    (hy : plainName y.cls = true) (hw : ws = Cond.codeWith y cc maxL ret hh :: ws')
    (body : ∀ p e s m args below meth c s₁, BodyLoose p l y (headSpec ws rm) cc maxL ret e s m args below meth c s₁ → c.maxLocals = maxL → Pc args s →
      W p l e (headSpec ws rm).room s m args below meth c s.heap [] 0 0 (vx_MQ below Qc XC args s mc ms free) (entryFrame m args maxL)) : vx_Met l y ws rm Pc Qc XC mc ms free := by
  refine MetFree.of_bodyS (code := cc) (maxLocals := maxL) (ret := ret) hy ?_ ?_
  · intro args s m h hn
    obtain ⟨m9, meth, c, hn9, h1, h2, h3, h4, -, h5, h6, -⟩ := Cond.codeWith_spec (atoms_spec (ws := ws) h _ (by rw [hw]; exact List.mem_cons_self))
    cases hn.symm.trans hn9
    exact ⟨meth, c, h1, h2, h3, h4, h5, h6⟩
  · intro p e s m args below meth c s₁ B hml hP _
    have hh0 : s₁.heap = s.heap := by rw [B.state]; rfl
    obtain ⟨t, a1, o, b1, b2, b3⟩ := body p e s m args below meth c s₁ B hml hP s₁ hh0 (Stand.of_body B)
    exact ⟨t, o, a1, b1, b2, b3⟩
/-! ===== END ===== -/
end
section
def RX0 : String := "PetitionDesk$Chances"
def TX0 : u_T := fun k => match k with
  | 0 => ("PetitionDesk$Chances", "triangle", "[J", true)
  | _ => ("PetitionDesk$Chances", "ways", "[J", true)
def tyX0 : Nat → FieldType := fun k => match k with
  | 0 => .array .long
  | _ => .array .long
theorem nmX0 : ∀ a, a < 2 → ∀ b, b < 2 → a ≠ b → (TX0 a).2.1 ≠ (TX0 b).2.1 := by decide +kernel
theorem tyX0_ok : ∀ k, k < 2 → parseFieldDescriptor (TX0 k).2.2.1 = some (tyX0 k) := by decide +kernel
abbrev cX0_init : ByteArray := prog_2_method_1_code
def yX0_init : MethodName := ⟨RX0, "<init>", "()V"⟩
abbrev cX0_choose : ByteArray := prog_2_method_2_code
def yX0_choose : MethodName := ⟨RX0, "choose", "(II)J"⟩
abbrev cX0_lowBound : ByteArray := prog_2_method_3_code
def yX0_lowBound : MethodName := ⟨RX0, "lowBound", "(IIII)I"⟩
abbrev cX0_highBound : ByteArray := prog_2_method_4_code
def yX0_highBound : MethodName := ⟨RX0, "highBound", "(IIII)I"⟩
abbrev cX0_waysWithMarked : ByteArray := prog_2_method_5_code
def yX0_waysWithMarked : MethodName := ⟨RX0, "waysWithMarked", "(IIIII)J"⟩
abbrev cX0_waysWithoutPair : ByteArray := prog_2_method_6_code
def yX0_waysWithoutPair : MethodName := ⟨RX0, "waysWithoutPair", "([III)J"⟩
abbrev cX0_commonDivisor : ByteArray := prog_2_method_7_code
def yX0_commonDivisor : MethodName := ⟨RX0, "commonDivisor", "(JJ)J"⟩
def RX1 : String := "PetitionDesk$Judgement"
def TX1 : u_T := fun k => match k with
  | 0 => ("PetitionDesk$Judgement", "voterOf", "[I", true)
  | 1 => ("PetitionDesk$Judgement", "how", "[I", true)
  | 2 => ("PetitionDesk$Judgement", "tally", "[I", true)
  | 3 => ("PetitionDesk$Judgement", "struck", "I", false)
  | 4 => ("PetitionDesk$Judgement", "votersOn", "[I", true)
  | 5 => ("PetitionDesk$Judgement", "facts", "[I", true)
  | 6 => ("PetitionDesk$Judgement", "sheetOf", "[I", true)
  | _ => ("PetitionDesk$Judgement", "lines", "I", false)
def tyX1 : Nat → FieldType := fun k => match k with
  | 0 => .array .int
  | 1 => .array .int
  | 2 => .array .int
  | 3 => .int
  | 4 => .array .int
  | 5 => .array .int
  | 6 => .array .int
  | _ => .int
theorem nmX1 : ∀ a, a < 8 → ∀ b, b < 8 → a ≠ b → (TX1 a).2.1 ≠ (TX1 b).2.1 := by decide +kernel
theorem tyX1_ok : ∀ k, k < 8 → parseFieldDescriptor (TX1 k).2.2.1 = some (tyX1 k) := by decide +kernel
abbrev cX1_init : ByteArray := prog_3_method_1_code
def yX1_init : MethodName := ⟨RX1, "<init>", "()V"⟩
abbrev cX1_judge : ByteArray := prog_3_method_2_code
def yX1_judge : MethodName := ⟨RX1, "judge", "(LPetitionDesk$Petition;)V"⟩
abbrev cX1_findVoters : ByteArray := prog_3_method_3_code
def yX1_findVoters : MethodName := ⟨RX1, "findVoters", "(LPetitionDesk$Petition;)V"⟩
abbrev cX1_findWrongs : ByteArray := prog_3_method_4_code
def yX1_findWrongs : MethodName := ⟨RX1, "findWrongs", "(LPetitionDesk$Petition;)V"⟩
abbrev cX1_wrongOf : ByteArray := prog_3_method_5_code
def yX1_wrongOf : MethodName := ⟨RX1, "wrongOf", "(LPetitionDesk$Petition;II)I"⟩
abbrev cX1_strikeSheets : ByteArray := prog_3_method_6_code
def yX1_strikeSheets : MethodName := ⟨RX1, "strikeSheets", "(LPetitionDesk$Petition;)V"⟩
abbrev cX1_findDoubles : ByteArray := prog_3_method_7_code
def yX1_findDoubles : MethodName := ⟨RX1, "findDoubles", "()V"⟩
abbrev cX1_hasVoter : ByteArray := prog_3_method_8_code
def yX1_hasVoter : MethodName := ⟨RX1, "hasVoter", "(I)Z"⟩
abbrev cX1_isGood : ByteArray := prog_3_method_9_code
def yX1_isGood : MethodName := ⟨RX1, "isGood", "(I)Z"⟩
abbrev cX1_isGoodIn : ByteArray := prog_3_method_10_code
def yX1_isGoodIn : MethodName := ⟨RX1, "isGoodIn", "(JI)Z"⟩
abbrev cX1_countJudged : ByteArray := prog_3_method_11_code
def yX1_countJudged : MethodName := ⟨RX1, "countJudged", "(III)I"⟩
abbrev cX1_linesOf : ByteArray := prog_3_method_12_code
def yX1_linesOf : MethodName := ⟨RX1, "linesOf", "(I)I"⟩
abbrev cX1_trueLinesOf : ByteArray := prog_3_method_13_code
def yX1_trueLinesOf : MethodName := ⟨RX1, "trueLinesOf", "(I)I"⟩
abbrev cX1_goodIn : ByteArray := prog_3_method_14_code
def yX1_goodIn : MethodName := ⟨RX1, "goodIn", "(J)I"⟩
abbrev cX1_tallyGood : ByteArray := prog_3_method_15_code
def yX1_tallyGood : MethodName := ⟨RX1, "tallyGood", "(J)V"⟩
abbrev cX1_pairsIn : ByteArray := prog_3_method_16_code
def yX1_pairsIn : MethodName := ⟨RX1, "pairsIn", "(J)I"⟩
abbrev cX1_votersIn : ByteArray := prog_3_method_17_code
def yX1_votersIn : MethodName := ⟨RX1, "votersIn", "(J)I"⟩
abbrev cX1_trueWithout : ByteArray := prog_3_method_18_code
def yX1_trueWithout : MethodName := ⟨RX1, "trueWithout", "(I)I"⟩
def RX2 : String := "PetitionDesk$Names"
def TX2 : u_T := fun k => match k with
  | _ => ("", "", "", false)
def tyX2 : Nat → FieldType := fun k => match k with
  | _ => .int
theorem nmX2 : ∀ a, a < 0 → ∀ b, b < 0 → a ≠ b → (TX2 a).2.1 ≠ (TX2 b).2.1 := by decide +kernel
theorem tyX2_ok : ∀ k, k < 0 → parseFieldDescriptor (TX2 k).2.2.1 = some (tyX2 k) := by decide +kernel
abbrev cX2_withLetter : ByteArray := prog_4_method_2_code
def yX2_withLetter : MethodName := ⟨RX2, "withLetter", "(III)I"⟩
abbrev cX2_letterAt : ByteArray := prog_4_method_3_code
def yX2_letterAt : MethodName := ⟨RX2, "letterAt", "(II)I"⟩
abbrev cX2_length : ByteArray := prog_4_method_4_code
def yX2_length : MethodName := ⟨RX2, "length", "(I)I"⟩
def RX3 : String := "PetitionDesk$Petition"
def TX3 : u_T := fun k => match k with
  | 0 => ("PetitionDesk$Petition", "voters", "I", false)
  | 1 => ("PetitionDesk$Petition", "names", "[I", true)
  | 2 => ("PetitionDesk$Petition", "streets", "[I", true)
  | 3 => ("PetitionDesk$Petition", "since", "[I", true)
  | 4 => ("PetitionDesk$Petition", "sheets", "I", false)
  | 5 => ("PetitionDesk$Petition", "byHand", "I", false)
  | 6 => ("PetitionDesk$Petition", "lines", "I", false)
  | 7 => ("PetitionDesk$Petition", "lineNames", "[I", true)
  | 8 => ("PetitionDesk$Petition", "lineStreets", "[I", true)
  | 9 => ("PetitionDesk$Petition", "lineDays", "[I", true)
  | 10 => ("PetitionDesk$Petition", "lineSheets", "[I", true)
  | 11 => ("PetitionDesk$Petition", "need", "I", false)
  | 12 => ("PetitionDesk$Petition", "firstDay", "I", false)
  | 13 => ("PetitionDesk$Petition", "lastDay", "I", false)
  | 14 => ("PetitionDesk$Petition", "spoilt", "I", false)
  | 15 => ("PetitionDesk$Petition", "alpha", "I", false)
  | 16 => ("PetitionDesk$Petition", "rule", "LPetitionDesk$Rule;", true)
  | 17 => ("PetitionDesk$Petition", "sample0", "J", false)
  | _ => ("PetitionDesk$Petition", "sample1", "J", false)
def tyX3 : Nat → FieldType := fun k => match k with
  | 0 => .int
  | 1 => .array .int
  | 2 => .array .int
  | 3 => .array .int
  | 4 => .int
  | 5 => .int
  | 6 => .int
  | 7 => .array .int
  | 8 => .array .int
  | 9 => .array .int
  | 10 => .array .int
  | 11 => .int
  | 12 => .int
  | 13 => .int
  | 14 => .int
  | 15 => .int
  | 16 => .object "PetitionDesk$Rule"
  | 17 => .long
  | _ => .long
theorem nmX3 : ∀ a, a < 19 → ∀ b, b < 19 → a ≠ b → (TX3 a).2.1 ≠ (TX3 b).2.1 := by decide +kernel
theorem tyX3_ok : ∀ k, k < 19 → parseFieldDescriptor (TX3 k).2.2.1 = some (tyX3 k) := by decide +kernel
abbrev cX3_init : ByteArray := prog_5_method_1_code
def yX3_init : MethodName := ⟨RX3, "<init>", "()V"⟩
abbrev cX3_clear : ByteArray := prog_5_method_2_code
def yX3_clear : MethodName := ⟨RX3, "clear", "()V"⟩
abbrev cX3_copyFrom : ByteArray := prog_5_method_3_code
def yX3_copyFrom : MethodName := ⟨RX3, "copyFrom", "(LPetitionDesk$Petition;)V"⟩
abbrev cX3_emptySamples : ByteArray := prog_5_method_4_code
def yX3_emptySamples : MethodName := ⟨RX3, "emptySamples", "()V"⟩
abbrev cX3_isByHand : ByteArray := prog_5_method_5_code
def yX3_isByHand : MethodName := ⟨RX3, "isByHand", "(I)Z"⟩
abbrev cX3_voterWith : ByteArray := prog_5_method_6_code
def yX3_voterWith : MethodName := ⟨RX3, "voterWith", "(II)I"⟩
abbrev cX3_addVoter : ByteArray := prog_5_method_7_code
def yX3_addVoter : MethodName := ⟨RX3, "addVoter", "(III)V"⟩
abbrev cX3_firstOf : ByteArray := prog_5_method_8_code
def yX3_firstOf : MethodName := ⟨RX3, "firstOf", "(I)I"⟩
abbrev cX3_linesOn : ByteArray := prog_5_method_9_code
def yX3_linesOn : MethodName := ⟨RX3, "linesOn", "(I)I"⟩
abbrev cX3_addLine : ByteArray := prog_5_method_10_code
def yX3_addLine : MethodName := ⟨RX3, "addLine", "(IIII)V"⟩
abbrev cX3_removeLine : ByteArray := prog_5_method_11_code
def yX3_removeLine : MethodName := ⟨RX3, "removeLine", "(I)V"⟩
abbrev cX3_moveLines : ByteArray := prog_5_method_12_code
def yX3_moveLines : MethodName := ⟨RX3, "moveLines", "(III)V"⟩
def RX4 : String := "PetitionDesk$Rule"
def TX4 : u_T := fun k => match k with
  | 0 => ("PetitionDesk$Rule", "steps", "[I", true)
  | _ => ("PetitionDesk$Rule", "count", "I", false)
def tyX4 : Nat → FieldType := fun k => match k with
  | 0 => .array .int
  | _ => .int
theorem nmX4 : ∀ a, a < 2 → ∀ b, b < 2 → a ≠ b → (TX4 a).2.1 ≠ (TX4 b).2.1 := by decide +kernel
theorem tyX4_ok : ∀ k, k < 2 → parseFieldDescriptor (TX4 k).2.2.1 = some (tyX4 k) := by decide +kernel
abbrev cX4_init : ByteArray := prog_6_method_1_code
def yX4_init : MethodName := ⟨RX4, "<init>", "()V"⟩
abbrev cX4_add : ByteArray := prog_6_method_2_code
def yX4_add : MethodName := ⟨RX4, "add", "(I)V"⟩
abbrev cX4_addComparison : ByteArray := prog_6_method_3_code
def yX4_addComparison : MethodName := ⟨RX4, "addComparison", "(III)V"⟩
abbrev cX4_copyFrom : ByteArray := prog_6_method_4_code
def yX4_copyFrom : MethodName := ⟨RX4, "copyFrom", "(LPetitionDesk$Rule;)V"⟩
abbrev cX4_holds : ByteArray := prog_6_method_5_code
def yX4_holds : MethodName := ⟨RX4, "holds", "([I)Z"⟩
abbrev cX4_compares : ByteArray := prog_6_method_6_code
def yX4_compares : MethodName := ⟨RX4, "compares", "(I[I)Z"⟩
abbrev cX4_valueOf : ByteArray := prog_6_method_7_code
def yX4_valueOf : MethodName := ⟨RX4, "valueOf", "(I[I)I"⟩
def RX5 : String := "PetitionDesk$Tape"
def TX5 : u_T := fun k => match k with
  | 0 => ("PetitionDesk$Tape", "bytes", "[B", true)
  | _ => ("PetitionDesk$Tape", "count", "I", false)
def tyX5 : Nat → FieldType := fun k => match k with
  | 0 => .array .byte
  | _ => .int
theorem nmX5 : ∀ a, a < 2 → ∀ b, b < 2 → a ≠ b → (TX5 a).2.1 ≠ (TX5 b).2.1 := by decide +kernel
theorem tyX5_ok : ∀ k, k < 2 → parseFieldDescriptor (TX5 k).2.2.1 = some (tyX5 k) := by decide +kernel
abbrev cX5_init : ByteArray := prog_7_method_1_code
def yX5_init : MethodName := ⟨RX5, "<init>", "()V"⟩
abbrev cX5_hasRoom : ByteArray := prog_7_method_2_code
def yX5_hasRoom : MethodName := ⟨RX5, "hasRoom", "()Z"⟩
abbrev cX5_put : ByteArray := prog_7_method_3_code
def yX5_put : MethodName := ⟨RX5, "put", "(I)V"⟩
def RX6 : String := "PetitionDesk$TextReader"
def TX6 : u_T := fun k => match k with
  | 0 => ("PetitionDesk$TextReader", "tokens", "LPetitionDesk$Tokens;", true)
  | 1 => ("PetitionDesk$TextReader", "draft", "LPetitionDesk$Petition;", true)
  | 2 => ("PetitionDesk$TextReader", "faultKind", "I", false)
  | 3 => ("PetitionDesk$TextReader", "faultPlace", "I", false)
  | 4 => ("PetitionDesk$TextReader", "at", "I", false)
  | _ => ("PetitionDesk$TextReader", "onceTold", "I", false)
def tyX6 : Nat → FieldType := fun k => match k with
  | 0 => .object "PetitionDesk$Tokens"
  | 1 => .object "PetitionDesk$Petition"
  | 2 => .int
  | 3 => .int
  | 4 => .int
  | _ => .int
theorem nmX6 : ∀ a, a < 6 → ∀ b, b < 6 → a ≠ b → (TX6 a).2.1 ≠ (TX6 b).2.1 := by decide +kernel
theorem tyX6_ok : ∀ k, k < 6 → parseFieldDescriptor (TX6 k).2.2.1 = some (tyX6 k) := by decide +kernel
abbrev cX6_init : ByteArray := prog_8_method_1_code
def yX6_init : MethodName := ⟨RX6, "<init>", "()V"⟩
abbrev cX6_read : ByteArray := prog_8_method_2_code
def yX6_read : MethodName := ⟨RX6, "read", "(I)Z"⟩
abbrev cX6_readTold : ByteArray := prog_8_method_3_code
def yX6_readTold : MethodName := ⟨RX6, "readTold", "()Z"⟩
abbrev cX6_readVoter : ByteArray := prog_8_method_4_code
def yX6_readVoter : MethodName := ⟨RX6, "readVoter", "()Z"⟩
abbrev cX6_readSheet : ByteArray := prog_8_method_5_code
def yX6_readSheet : MethodName := ⟨RX6, "readSheet", "()Z"⟩
abbrev cX6_readSigned : ByteArray := prog_8_method_6_code
def yX6_readSigned : MethodName := ⟨RX6, "readSigned", "()Z"⟩
abbrev cX6_readNeed : ByteArray := prog_8_method_7_code
def yX6_readNeed : MethodName := ⟨RX6, "readNeed", "()Z"⟩
abbrev cX6_readSpan : ByteArray := prog_8_method_8_code
def yX6_readSpan : MethodName := ⟨RX6, "readSpan", "()Z"⟩
abbrev cX6_readSpoilt : ByteArray := prog_8_method_9_code
def yX6_readSpoilt : MethodName := ⟨RX6, "readSpoilt", "()Z"⟩
abbrev cX6_readAlpha : ByteArray := prog_8_method_10_code
def yX6_readAlpha : MethodName := ⟨RX6, "readAlpha", "()Z"⟩
abbrev cX6_readChoice : ByteArray := prog_8_method_11_code
def yX6_readChoice : MethodName := ⟨RX6, "readChoice", "(I)Z"⟩
abbrev cX6_readChain : ByteArray := prog_8_method_12_code
def yX6_readChain : MethodName := ⟨RX6, "readChain", "(I)Z"⟩
abbrev cX6_readPart : ByteArray := prog_8_method_13_code
def yX6_readPart : MethodName := ⟨RX6, "readPart", "(I)Z"⟩
abbrev cX6_readComparison : ByteArray := prog_8_method_14_code
def yX6_readComparison : MethodName := ⟨RX6, "readComparison", "()Z"⟩
abbrev cX6_takeOperand : ByteArray := prog_8_method_15_code
def yX6_takeOperand : MethodName := ⟨RX6, "takeOperand", "()I"⟩
abbrev cX6_factOf : ByteArray := prog_8_method_16_code
def yX6_factOf : MethodName := ⟨RX6, "factOf", "(I)I"⟩
abbrev cX6_takeOnce : ByteArray := prog_8_method_17_code
def yX6_takeOnce : MethodName := ⟨RX6, "takeOnce", "()Z"⟩
abbrev cX6_takeSign : ByteArray := prog_8_method_18_code
def yX6_takeSign : MethodName := ⟨RX6, "takeSign", "(C)Z"⟩
abbrev cX6_takeNumber : ByteArray := prog_8_method_19_code
def yX6_takeNumber : MethodName := ⟨RX6, "takeNumber", "(II)I"⟩
abbrev cX6_takeName : ByteArray := prog_8_method_20_code
def yX6_takeName : MethodName := ⟨RX6, "takeName", "()I"⟩
abbrev cX6_refuse : ByteArray := prog_8_method_21_code
def yX6_refuse : MethodName := ⟨RX6, "refuse", "(II)Z"⟩
abbrev cX6_kind : ByteArray := prog_8_method_22_code
def yX6_kind : MethodName := ⟨RX6, "kind", "()I"⟩
abbrev cX6_place : ByteArray := prog_8_method_23_code
def yX6_place : MethodName := ⟨RX6, "place", "()I"⟩
abbrev cX6_advance : ByteArray := prog_8_method_24_code
def yX6_advance : MethodName := ⟨RX6, "advance", "()V"⟩
def RX7 : String := "PetitionDesk$Tokens"
def TX7 : u_T := fun k => match k with
  | 0 => ("PetitionDesk$Tokens", "kinds", "[I", true)
  | 1 => ("PetitionDesk$Tokens", "places", "[I", true)
  | 2 => ("PetitionDesk$Tokens", "values", "[I", true)
  | 3 => ("PetitionDesk$Tokens", "tape", "LPetitionDesk$Tape;", true)
  | 4 => ("PetitionDesk$Tokens", "length", "I", false)
  | _ => ("PetitionDesk$Tokens", "count", "I", false)
def tyX7 : Nat → FieldType := fun k => match k with
  | 0 => .array .int
  | 1 => .array .int
  | 2 => .array .int
  | 3 => .object "PetitionDesk$Tape"
  | 4 => .int
  | _ => .int
theorem nmX7 : ∀ a, a < 6 → ∀ b, b < 6 → a ≠ b → (TX7 a).2.1 ≠ (TX7 b).2.1 := by decide +kernel
theorem tyX7_ok : ∀ k, k < 6 → parseFieldDescriptor (TX7 k).2.2.1 = some (tyX7 k) := by decide +kernel
abbrev cX7_init : ByteArray := prog_9_method_1_code
def yX7_init : MethodName := ⟨RX7, "<init>", "()V"⟩
abbrev cX7_scan : ByteArray := prog_9_method_2_code
def yX7_scan : MethodName := ⟨RX7, "scan", "(I)V"⟩
abbrev cX7_add : ByteArray := prog_9_method_3_code
def yX7_add : MethodName := ⟨RX7, "add", "(III)V"⟩
abbrev cX7_kindOfWord : ByteArray := prog_9_method_4_code
def yX7_kindOfWord : MethodName := ⟨RX7, "kindOfWord", "(I)I"⟩
abbrev cX7_nameAt : ByteArray := prog_9_method_5_code
def yX7_nameAt : MethodName := ⟨RX7, "nameAt", "(I)I"⟩
abbrev cX7_numberAt : ByteArray := prog_9_method_6_code
def yX7_numberAt : MethodName := ⟨RX7, "numberAt", "(I)I"⟩
abbrev cX7_isLetter : ByteArray := prog_9_method_7_code
def yX7_isLetter : MethodName := ⟨RX7, "isLetter", "(I)Z"⟩
abbrev cX7_isDigit : ByteArray := prog_9_method_8_code
def yX7_isDigit : MethodName := ⟨RX7, "isDigit", "(I)Z"⟩
abbrev cX7_byteAt : ByteArray := prog_9_method_9_code
def yX7_byteAt : MethodName := ⟨RX7, "byteAt", "(I)I"⟩
def RX8 : String := "PetitionDesk"
def TX8 : u_T := fun k => match k with
  | 0 => ("PetitionDesk", "reader", "LPetitionDesk$TextReader;", true)
  | 1 => ("PetitionDesk", "tape", "LPetitionDesk$Tape;", true)
  | 2 => ("PetitionDesk", "judgement", "LPetitionDesk$Judgement;", true)
  | 3 => ("PetitionDesk", "chances", "LPetitionDesk$Chances;", true)
  | 4 => ("PetitionDesk", "past", "[LPetitionDesk$Petition;", true)
  | 5 => ("PetitionDesk", "acts", "I", false)
  | 6 => ("PetitionDesk", "now", "LPetitionDesk$Petition;", false)
  | 7 => ("PetitionDesk", "faultPlace", "I", false)
  | 8 => ("PetitionDesk", "refusedElements", "I", false)
  | 9 => ("PetitionDesk", "refusedArguments", "I", false)
  | _ => ("PetitionDesk", "refusedStates", "I", false)
def tyX8 : Nat → FieldType := fun k => match k with
  | 0 => .object "PetitionDesk$TextReader"
  | 1 => .object "PetitionDesk$Tape"
  | 2 => .object "PetitionDesk$Judgement"
  | 3 => .object "PetitionDesk$Chances"
  | 4 => .array (.object "PetitionDesk$Petition")
  | 5 => .int
  | 6 => .object "PetitionDesk$Petition"
  | 7 => .int
  | 8 => .int
  | 9 => .int
  | _ => .int
theorem nmX8 : ∀ a, a < 11 → ∀ b, b < 11 → a ≠ b → (TX8 a).2.1 ≠ (TX8 b).2.1 := by decide +kernel
theorem tyX8_ok : ∀ k, k < 11 → parseFieldDescriptor (TX8 k).2.2.1 = some (tyX8 k) := by decide +kernel
abbrev cX8_init : ByteArray := prog_1_method_1_code
def yX8_init : MethodName := ⟨RX8, "<init>", "()V"⟩
abbrev cX8_feed : ByteArray := prog_1_method_2_code
def yX8_feed : MethodName := ⟨RX8, "feed", "(IIIII)I"⟩
abbrev cX8_text : ByteArray := prog_1_method_3_code
def yX8_text : MethodName := ⟨RX8, "text", "(I)I"⟩
abbrev cX8_fault : ByteArray := prog_1_method_4_code
def yX8_fault : MethodName := ⟨RX8, "fault", "()I"⟩
abbrev cX8_sample : ByteArray := prog_1_method_5_code
def yX8_sample : MethodName := ⟨RX8, "sample", "(III)I"⟩
abbrev cX8_strike : ByteArray := prog_1_method_6_code
def yX8_strike : MethodName := ⟨RX8, "strike", "(IZ)I"⟩
abbrev cX8_sign : ByteArray := prog_1_method_7_code
def yX8_sign : MethodName := ⟨RX8, "sign", "(III)I"⟩
abbrev cX8_erase : ByteArray := prog_1_method_8_code
def yX8_erase : MethodName := ⟨RX8, "erase", "(II)I"⟩
abbrev cX8_undo : ByteArray := prog_1_method_9_code
def yX8_undo : MethodName := ⟨RX8, "undo", "()I"⟩
abbrev cX8_told : ByteArray := prog_1_method_10_code
def yX8_told : MethodName := ⟨RX8, "told", "(I)I"⟩
abbrev cX8_voter : ByteArray := prog_1_method_11_code
def yX8_voter : MethodName := ⟨RX8, "voter", "(II)I"⟩
abbrev cX8_letter : ByteArray := prog_1_method_12_code
def yX8_letter : MethodName := ⟨RX8, "letter", "(II)I"⟩
abbrev cX8_sheet : ByteArray := prog_1_method_13_code
def yX8_sheet : MethodName := ⟨RX8, "sheet", "(II)I"⟩
abbrev cX8_line : ByteArray := prog_1_method_14_code
def yX8_line : MethodName := ⟨RX8, "line", "(III)I"⟩
abbrev cX8_judged : ByteArray := prog_1_method_15_code
def yX8_judged : MethodName := ⟨RX8, "judged", "(I)I"⟩
abbrev cX8_passes : ByteArray := prog_1_method_16_code
def yX8_passes : MethodName := ⟨RX8, "passes", "()I"⟩
abbrev cX8_drawn : ByteArray := prog_1_method_17_code
def yX8_drawn : MethodName := ⟨RX8, "drawn", "(II)I"⟩
abbrev cX8_estimate : ByteArray := prog_1_method_18_code
def yX8_estimate : MethodName := ⟨RX8, "estimate", "(II)J"⟩
abbrev cX8_unlike : ByteArray := prog_1_method_19_code
def yX8_unlike : MethodName := ⟨RX8, "unlike", "(I)I"⟩
abbrev cX8_unseen : ByteArray := prog_1_method_20_code
def yX8_unseen : MethodName := ⟨RX8, "unseen", "(II)J"⟩
abbrev cX8_fewest : ByteArray := prog_1_method_21_code
def yX8_fewest : MethodName := ⟨RX8, "fewest", "()I"⟩
abbrev cX8_worst : ByteArray := prog_1_method_22_code
def yX8_worst : MethodName := ⟨RX8, "worst", "(II)I"⟩
abbrev cX8_cost : ByteArray := prog_1_method_23_code
def yX8_cost : MethodName := ⟨RX8, "cost", "(I)I"⟩
abbrev cX8_print : ByteArray := prog_1_method_24_code
def yX8_print : MethodName := ⟨RX8, "print", "()J"⟩
abbrev cX8_status : ByteArray := prog_1_method_25_code
def yX8_status : MethodName := ⟨RX8, "status", "(I)I"⟩
abbrev cX8_requireFound : ByteArray := prog_1_method_26_code
def yX8_requireFound : MethodName := ⟨RX8, "requireFound", "(Z)V"⟩
abbrev cX8_requireArgument : ByteArray := prog_1_method_27_code
def yX8_requireArgument : MethodName := ⟨RX8, "requireArgument", "(Z)V"⟩
abbrev cX8_requireState : ByteArray := prog_1_method_28_code
def yX8_requireState : MethodName := ⟨RX8, "requireState", "(Z)V"⟩
abbrev cX8_isFrom : ByteArray := prog_1_method_29_code
def yX8_isFrom : MethodName := ⟨RX8, "isFrom", "(III)Z"⟩
abbrev cX8_isVoter : ByteArray := prog_1_method_30_code
def yX8_isVoter : MethodName := ⟨RX8, "isVoter", "(I)Z"⟩
abbrev cX8_isSheet : ByteArray := prog_1_method_31_code
def yX8_isSheet : MethodName := ⟨RX8, "isSheet", "(I)Z"⟩
abbrev cX8_isLine : ByteArray := prog_1_method_32_code
def yX8_isLine : MethodName := ⟨RX8, "isLine", "(II)Z"⟩
abbrev cX8_sampleOf : ByteArray := prog_1_method_33_code
def yX8_sampleOf : MethodName := ⟨RX8, "sampleOf", "(I)J"⟩
abbrev cX8_keepForUndo : ByteArray := prog_1_method_34_code
def yX8_keepForUndo : MethodName := ⟨RX8, "keepForUndo", "()V"⟩
abbrev cX8_drawLines : ByteArray := prog_1_method_35_code
def yX8_drawLines : MethodName := ⟨RX8, "drawLines", "(II)J"⟩
abbrev cX8_indexOfUndrawn : ByteArray := prog_1_method_36_code
def yX8_indexOfUndrawn : MethodName := ⟨RX8, "indexOfUndrawn", "(JI)I"⟩
abbrev cX8_verdictOf : ByteArray := prog_1_method_37_code
def yX8_verdictOf : MethodName := ⟨RX8, "verdictOf", "(II)I"⟩
abbrev cX8_inLowestTerms : ByteArray := prog_1_method_38_code
def yX8_inLowestTerms : MethodName := ⟨RX8, "inLowestTerms", "(JJI)J"⟩
def RX9 : String := "PetitionDeskModel"
def TX9 : u_T := fun k => match k with
  | 0 => ("PetitionDeskModel", "thrown", "I", false)
  | 1 => ("PetitionDeskModel", "refused", "[I", true)
  | 2 => ("PetitionDeskModel", "tape", "I", false)
  | 3 => ("PetitionDeskModel", "size", "I", false)
  | 4 => ("PetitionDeskModel", "at", "I", false)
  | 5 => ("PetitionDeskModel", "place", "I", false)
  | 6 => ("PetitionDeskModel", "fault", "I", false)
  | 7 => ("PetitionDeskModel", "faultAt", "I", false)
  | 8 => ("PetitionDeskModel", "fed", "[I", true)
  | 9 => ("PetitionDeskModel", "now", "[I", true)
  | 10 => ("PetitionDeskModel", "told", "[I", true)
  | 11 => ("PetitionDeskModel", "past", "[[I", true)
  | 12 => ("PetitionDeskModel", "backs", "I", false)
  | 13 => ("PetitionDeskModel", "codes", "I", false)
  | 14 => ("PetitionDeskModel", "open", "I", false)
  | 15 => ("PetitionDeskModel", "once", "I", false)
  | 16 => ("PetitionDeskModel", "how", "[I", true)
  | 17 => ("PetitionDeskModel", "whose", "[I", true)
  | 18 => ("PetitionDeskModel", "stack", "[I", true)
  | 19 => ("PetitionDeskModel", "struck", "I", false)
  | _ => ("PetitionDeskModel", "apart", "[J", true)
def tyX9 : Nat → FieldType := fun k => match k with
  | 0 => .int
  | 1 => .array .int
  | 2 => .int
  | 3 => .int
  | 4 => .int
  | 5 => .int
  | 6 => .int
  | 7 => .int
  | 8 => .array .int
  | 9 => .array .int
  | 10 => .array .int
  | 11 => .array (.array .int)
  | 12 => .int
  | 13 => .int
  | 14 => .int
  | 15 => .int
  | 16 => .array .int
  | 17 => .array .int
  | 18 => .array .int
  | 19 => .int
  | _ => .array .long
theorem nmX9 : ∀ a, a < 21 → ∀ b, b < 21 → a ≠ b → (TX9 a).2.1 ≠ (TX9 b).2.1 := by decide +kernel
theorem tyX9_ok : ∀ k, k < 21 → parseFieldDescriptor (TX9 k).2.2.1 = some (tyX9 k) := by decide +kernel
abbrev cX9_init : ByteArray := prog_11_method_1_code
def yX9_init : MethodName := ⟨RX9, "<init>", "()V"⟩
abbrev cX9_begins : ByteArray := prog_11_method_2_code
def yX9_begins : MethodName := ⟨RX9, "begins", "([I)V"⟩
abbrev cX9_thrown : ByteArray := prog_11_method_3_code
def yX9_thrown : MethodName := ⟨RX9, "thrown", "()I"⟩
abbrev cX9_bad : ByteArray := prog_11_method_4_code
def yX9_bad : MethodName := ⟨RX9, "bad", "(ZII)Z"⟩
abbrev cX9_in : ByteArray := prog_11_method_5_code
def yX9_in : MethodName := ⟨RX9, "in", "(JJJ)Z"⟩
abbrev cX9_less : ByteArray := prog_11_method_6_code
def yX9_less : MethodName := ⟨RX9, "less", "(II)I"⟩
abbrev cX9_feed : ByteArray := prog_11_method_7_code
def yX9_feed : MethodName := ⟨RX9, "feed", "(IIIII)I"⟩
abbrev cX9_copies : ByteArray := prog_11_method_8_code
def yX9_copies : MethodName := ⟨RX9, "copies", "([I[I)V"⟩
abbrev cX9_lineAt : ByteArray := prog_11_method_9_code
def yX9_lineAt : MethodName := ⟨RX9, "lineAt", "(II)I"⟩
abbrev cX9_voterAt : ByteArray := prog_11_method_10_code
def yX9_voterAt : MethodName := ⟨RX9, "voterAt", "(II)I"⟩
abbrev cX9_lines : ByteArray := prog_11_method_11_code
def yX9_lines : MethodName := ⟨RX9, "lines", "()I"⟩
abbrev cX9_byteAt : ByteArray := prog_11_method_12_code
def yX9_byteAt : MethodName := ⟨RX9, "byteAt", "(I)I"⟩
abbrev cX9_here : ByteArray := prog_11_method_13_code
def yX9_here : MethodName := ⟨RX9, "here", "()I"⟩
abbrev cX9_fine : ByteArray := prog_11_method_14_code
def yX9_fine : MethodName := ⟨RX9, "fine", "()Z"⟩
abbrev cX9_wrong : ByteArray := prog_11_method_15_code
def yX9_wrong : MethodName := ⟨RX9, "wrong", "(II)V"⟩
abbrev cX9_isSmall : ByteArray := prog_11_method_16_code
def yX9_isSmall : MethodName := ⟨RX9, "isSmall", "(I)Z"⟩
abbrev cX9_isDigit : ByteArray := prog_11_method_17_code
def yX9_isDigit : MethodName := ⟨RX9, "isDigit", "(I)Z"⟩
abbrev cX9_isWord : ByteArray := prog_11_method_18_code
def yX9_isWord : MethodName := ⟨RX9, "isWord", "(Ljava/lang/String;)Z"⟩
abbrev cX9_takes : ByteArray := prog_11_method_19_code
def yX9_takes : MethodName := ⟨RX9, "takes", "(Ljava/lang/String;)Z"⟩
abbrev cX9_must : ByteArray := prog_11_method_20_code
def yX9_must : MethodName := ⟨RX9, "must", "(I)V"⟩
abbrev cX9_number : ByteArray := prog_11_method_21_code
def yX9_number : MethodName := ⟨RX9, "number", "(II)I"⟩
abbrev cX9_name : ByteArray := prog_11_method_22_code
def yX9_name : MethodName := ⟨RX9, "name", "()I"⟩
abbrev cX9_voterOf : ByteArray := prog_11_method_23_code
def yX9_voterOf : MethodName := ⟨RX9, "voterOf", "([III)I"⟩
abbrev cX9_readsVoter : ByteArray := prog_11_method_24_code
def yX9_readsVoter : MethodName := ⟨RX9, "readsVoter", "(I)V"⟩
abbrev cX9_readsSign : ByteArray := prog_11_method_25_code
def yX9_readsSign : MethodName := ⟨RX9, "readsSign", "(I)V"⟩
abbrev cX9_tells : ByteArray := prog_11_method_26_code
def yX9_tells : MethodName := ⟨RX9, "tells", "(I)V"⟩
abbrev cX9_factOf : ByteArray := prog_11_method_27_code
def yX9_factOf : MethodName := ⟨RX9, "factOf", "(I)Ljava/lang/String;"⟩
abbrev cX9_side : ByteArray := prog_11_method_28_code
def yX9_side : MethodName := ⟨RX9, "side", "()V"⟩
abbrev cX9_part : ByteArray := prog_11_method_29_code
def yX9_part : MethodName := ⟨RX9, "part", "()V"⟩
abbrev cX9_all : ByteArray := prog_11_method_30_code
def yX9_all : MethodName := ⟨RX9, "all", "()V"⟩
abbrev cX9_any : ByteArray := prog_11_method_31_code
def yX9_any : MethodName := ⟨RX9, "any", "()V"⟩
abbrev cX9_takesOnce : ByteArray := prog_11_method_32_code
def yX9_takesOnce : MethodName := ⟨RX9, "takesOnce", "(Ljava/lang/String;I)Z"⟩
abbrev cX9_readsLine : ByteArray := prog_11_method_33_code
def yX9_readsLine : MethodName := ⟨RX9, "readsLine", "()V"⟩
abbrev cX9_text : ByteArray := prog_11_method_34_code
def yX9_text : MethodName := ⟨RX9, "text", "(I)I"⟩
abbrev cX9_fault : ByteArray := prog_11_method_35_code
def yX9_fault : MethodName := ⟨RX9, "fault", "()I"⟩
abbrev cX9_numberOf : ByteArray := prog_11_method_36_code
def yX9_numberOf : MethodName := ⟨RX9, "numberOf", "([II)I"⟩
abbrev cX9_fact : ByteArray := prog_11_method_37_code
def yX9_fact : MethodName := ⟨RX9, "fact", "([III)I"⟩
abbrev cX9_isGood : ByteArray := prog_11_method_38_code
def yX9_isGood : MethodName := ⟨RX9, "isGood", "([II)Z"⟩
abbrev cX9_judges : ByteArray := prog_11_method_39_code
def yX9_judges : MethodName := ⟨RX9, "judges", "([II)V"⟩
abbrev cX9_isClean : ByteArray := prog_11_method_40_code
def yX9_isClean : MethodName := ⟨RX9, "isClean", "(I)Z"⟩
abbrev cX9_count : ByteArray := prog_11_method_41_code
def yX9_count : MethodName := ⟨RX9, "count", "(I)I"⟩
abbrev cX9_remembers : ByteArray := prog_11_method_42_code
def yX9_remembers : MethodName := ⟨RX9, "remembers", "()V"⟩
abbrev cX9_undo : ByteArray := prog_11_method_43_code
def yX9_undo : MethodName := ⟨RX9, "undo", "()I"⟩
abbrev cX9_isSheet : ByteArray := prog_11_method_44_code
def yX9_isSheet : MethodName := ⟨RX9, "isSheet", "(I)Z"⟩
abbrev cX9_isVoter : ByteArray := prog_11_method_45_code
def yX9_isVoter : MethodName := ⟨RX9, "isVoter", "(I)Z"⟩
abbrev cX9_linesOf : ByteArray := prog_11_method_46_code
def yX9_linesOf : MethodName := ⟨RX9, "linesOf", "(I)I"⟩
abbrev cX9_spotOf : ByteArray := prog_11_method_47_code
def yX9_spotOf : MethodName := ⟨RX9, "spotOf", "(II)I"⟩
abbrev cX9_isLine : ByteArray := prog_11_method_48_code
def yX9_isLine : MethodName := ⟨RX9, "isLine", "(II)Z"⟩
abbrev cX9_isIn : ByteArray := prog_11_method_49_code
def yX9_isIn : MethodName := ⟨RX9, "isIn", "(II)Z"⟩
abbrev cX9_emptiesSamples : ByteArray := prog_11_method_50_code
def yX9_emptiesSamples : MethodName := ⟨RX9, "emptiesSamples", "()V"⟩
abbrev cX9_isSample : ByteArray := prog_11_method_51_code
def yX9_isSample : MethodName := ⟨RX9, "isSample", "(I)Z"⟩
abbrev cX9_goodIn : ByteArray := prog_11_method_52_code
def yX9_goodIn : MethodName := ⟨RX9, "goodIn", "(I)I"⟩
abbrev cX9_sample : ByteArray := prog_11_method_53_code
def yX9_sample : MethodName := ⟨RX9, "sample", "(III)I"⟩
abbrev cX9_strike : ByteArray := prog_11_method_54_code
def yX9_strike : MethodName := ⟨RX9, "strike", "(IZ)I"⟩
abbrev cX9_moves : ByteArray := prog_11_method_55_code
def yX9_moves : MethodName := ⟨RX9, "moves", "(II)V"⟩
abbrev cX9_sign : ByteArray := prog_11_method_56_code
def yX9_sign : MethodName := ⟨RX9, "sign", "(III)I"⟩
abbrev cX9_erase : ByteArray := prog_11_method_57_code
def yX9_erase : MethodName := ⟨RX9, "erase", "(II)I"⟩
abbrev cX9_told : ByteArray := prog_11_method_58_code
def yX9_told : MethodName := ⟨RX9, "told", "(I)I"⟩
abbrev cX9_voter : ByteArray := prog_11_method_59_code
def yX9_voter : MethodName := ⟨RX9, "voter", "(II)I"⟩
abbrev cX9_letter : ByteArray := prog_11_method_60_code
def yX9_letter : MethodName := ⟨RX9, "letter", "(II)I"⟩
abbrev cX9_sheet : ByteArray := prog_11_method_61_code
def yX9_sheet : MethodName := ⟨RX9, "sheet", "(II)I"⟩
abbrev cX9_line : ByteArray := prog_11_method_62_code
def yX9_line : MethodName := ⟨RX9, "line", "(III)I"⟩
abbrev cX9_judged : ByteArray := prog_11_method_63_code
def yX9_judged : MethodName := ⟨RX9, "judged", "(I)I"⟩
abbrev cX9_passes : ByteArray := prog_11_method_64_code
def yX9_passes : MethodName := ⟨RX9, "passes", "()I"⟩
abbrev cX9_ways : ByteArray := prog_11_method_65_code
def yX9_ways : MethodName := ⟨RX9, "ways", "(II)J"⟩
abbrev cX9_waysBy : ByteArray := prog_11_method_66_code
def yX9_waysBy : MethodName := ⟨RX9, "waysBy", "(IIII)J"⟩
abbrev cX9_isMuch : ByteArray := prog_11_method_67_code
def yX9_isMuch : MethodName := ⟨RX9, "isMuch", "(JI)Z"⟩
abbrev cX9_lowOf : ByteArray := prog_11_method_68_code
def yX9_lowOf : MethodName := ⟨RX9, "lowOf", "(II)I"⟩
abbrev cX9_highOf : ByteArray := prog_11_method_69_code
def yX9_highOf : MethodName := ⟨RX9, "highOf", "(II)I"⟩
abbrev cX9_sizeOf : ByteArray := prog_11_method_70_code
def yX9_sizeOf : MethodName := ⟨RX9, "sizeOf", "(I)I"⟩
abbrev cX9_pairsIn : ByteArray := prog_11_method_71_code
def yX9_pairsIn : MethodName := ⟨RX9, "pairsIn", "(I)I"⟩
abbrev cX9_drawn : ByteArray := prog_11_method_72_code
def yX9_drawn : MethodName := ⟨RX9, "drawn", "(II)I"⟩
abbrev cX9_terms : ByteArray := prog_11_method_73_code
def yX9_terms : MethodName := ⟨RX9, "terms", "(JJI)J"⟩
abbrev cX9_estimate : ByteArray := prog_11_method_74_code
def yX9_estimate : MethodName := ⟨RX9, "estimate", "(II)J"⟩
abbrev cX9_votersIn : ByteArray := prog_11_method_75_code
def yX9_votersIn : MethodName := ⟨RX9, "votersIn", "(I)I"⟩
abbrev cX9_ones : ByteArray := prog_11_method_76_code
def yX9_ones : MethodName := ⟨RX9, "ones", "(I)I"⟩
abbrev cX9_unlike : ByteArray := prog_11_method_77_code
def yX9_unlike : MethodName := ⟨RX9, "unlike", "(I)I"⟩
abbrev cX9_adds : ByteArray := prog_11_method_78_code
def yX9_adds : MethodName := ⟨RX9, "adds", "(II)V"⟩
abbrev cX9_unseen : ByteArray := prog_11_method_79_code
def yX9_unseen : MethodName := ⟨RX9, "unseen", "(II)J"⟩
abbrev cX9_fewest : ByteArray := prog_11_method_80_code
def yX9_fewest : MethodName := ⟨RX9, "fewest", "()I"⟩
abbrev cX9_worst : ByteArray := prog_11_method_81_code
def yX9_worst : MethodName := ⟨RX9, "worst", "(II)I"⟩
abbrev cX9_cost : ByteArray := prog_11_method_82_code
def yX9_cost : MethodName := ⟨RX9, "cost", "(I)I"⟩
abbrev cX9_print : ByteArray := prog_11_method_83_code
def yX9_print : MethodName := ⟨RX9, "print", "()J"⟩
abbrev cX9_status : ByteArray := prog_11_method_84_code
def yX9_status : MethodName := ⟨RX9, "status", "(I)I"⟩
def RJx145de : String := "java/io/Serializable"
def RJx9f9b0 : String := "java/lang/CharSequence"
def RJxb160c : String := "java/lang/Comparable"
def RJ6 : String := "java/lang/Integer"
abbrev cJ6_bitCount_0f7a4 : ByteArray := prog_18_method_49_code
def yJ6_bitCount_0f7a4 : MethodName := ⟨RJ6, "bitCount", "(I)I"⟩
def RJ13 : String := "java/lang/Long"
abbrev cJ13_bitCount_95d88 : ByteArray := prog_19_method_50_code
def yJ13_bitCount_95d88 : MethodName := ⟨RJ13, "bitCount", "(J)I"⟩
def RJ9 : String := "java/lang/Math"
abbrev cJ9_abs_067f4 : ByteArray := prog_20_method_61_code
def yJ9_abs_067f4 : MethodName := ⟨RJ9, "abs", "(J)J"⟩
abbrev cJ9_max_7cf53 : ByteArray := prog_20_method_65_code
def yJ9_max_7cf53 : MethodName := ⟨RJ9, "max", "(II)I"⟩
abbrev cJ9_min_7cf53 : ByteArray := prog_20_method_69_code
def yJ9_min_7cf53 : MethodName := ⟨RJ9, "min", "(II)I"⟩
def RJ0 : String := "java/lang/String"
abbrev cJ0_length_8abf5 : ByteArray := prog_22_method_54_code
def yJ0_length_8abf5 : MethodName := ⟨RJ0, "length", "()I"⟩
abbrev cJ0_charAt_5068e : ByteArray := prog_22_method_56_code
def yJ0_charAt_5068e : MethodName := ⟨RJ0, "charAt", "(I)C"⟩
abbrev cJ0_coder_7d493 : ByteArray := prog_22_method_152_code
def yJ0_coder_7d493 : MethodName := ⟨RJ0, "coder", "()B"⟩
abbrev cJ0_isLatin1_aae02 : ByteArray := prog_22_method_154_code
def yJ0_isLatin1_aae02 : MethodName := ⟨RJ0, "isLatin1", "()Z"⟩
abbrev cJ0_checkIndex_df160 : ByteArray := prog_22_method_155_code
def yJ0_checkIndex_df160 : MethodName := ⟨RJ0, "checkIndex", "(II)V"⟩
def RJ1 : String := "java/lang/StringLatin1"
abbrev cJ1_charAt_3b067 : ByteArray := prog_23_method_2_code
def yJ1_charAt_3b067 : MethodName := ⟨RJ1, "charAt", "([BI)C"⟩
def RJ2 : String := "java/lang/StringUTF16"
abbrev cJ2_getChar_3b067 : ByteArray := prog_24_method_5_code
def yJ2_getChar_3b067 : MethodName := ⟨RJ2, "getChar", "([BI)C"⟩
abbrev cJ2_length_9d52b : ByteArray := prog_24_method_6_code
def yJ2_length_9d52b : MethodName := ⟨RJ2, "length", "([B)I"⟩
abbrev cJ2_charAt_3b067 : ByteArray := prog_24_method_83_code
def yJ2_charAt_3b067 : MethodName := ⟨RJ2, "charAt", "([BI)C"⟩
abbrev cJ2_checkIndex_2214a : ByteArray := prog_24_method_91_code
def yJ2_checkIndex_2214a : MethodName := ⟨RJ2, "checkIndex", "(I[B)V"⟩
def RJ10 : String := "java/lang/System"
def RJxfd54e : String := "java/lang/constant/Constable"
def RJx3cf43 : String := "java/lang/constant/ConstantDesc"
def RJ7 : String := "java/util/Arrays"
abbrev cJ7_fill_53178 : ByteArray := prog_29_method_103_code
def yJ7_fill_53178 : MethodName := ⟨RJ7, "fill", "([II)V"⟩
def RJ3 : String := "jdk/internal/util/Preconditions"
abbrev cJ3_checkIndex_8e157 : ByteArray := prog_31_method_11_code
def yJ3_checkIndex_8e157 : MethodName := ⟨RJ3, "checkIndex", "(IILjava/util/function/BiFunction;)I"⟩
def RL : String := "PetitionDeskLaw"
abbrev cL_text : ByteArray := method_3_code
def yL_text : MethodName := ⟨RL, "text", "(LPetitionDesk;I[J)I"⟩
abbrev cL_sample : ByteArray := method_4_code
def yL_sample : MethodName := ⟨RL, "sample", "(LPetitionDesk;III[J)I"⟩
abbrev cL_strike : ByteArray := method_5_code
def yL_strike : MethodName := ⟨RL, "strike", "(LPetitionDesk;IZ[J)I"⟩
abbrev cL_sign : ByteArray := method_6_code
def yL_sign : MethodName := ⟨RL, "sign", "(LPetitionDesk;III[J)I"⟩
abbrev cL_erase : ByteArray := method_7_code
def yL_erase : MethodName := ⟨RL, "erase", "(LPetitionDesk;II[J)I"⟩
abbrev cL_told : ByteArray := method_8_code
def yL_told : MethodName := ⟨RL, "told", "(LPetitionDesk;I[J)I"⟩
abbrev cL_voter : ByteArray := method_9_code
def yL_voter : MethodName := ⟨RL, "voter", "(LPetitionDesk;II[J)I"⟩
abbrev cL_letter : ByteArray := method_10_code
def yL_letter : MethodName := ⟨RL, "letter", "(LPetitionDesk;II[J)I"⟩
abbrev cL_sheet : ByteArray := method_11_code
def yL_sheet : MethodName := ⟨RL, "sheet", "(LPetitionDesk;II[J)I"⟩
abbrev cL_line : ByteArray := method_12_code
def yL_line : MethodName := ⟨RL, "line", "(LPetitionDesk;III[J)I"⟩
abbrev cL_judged : ByteArray := method_13_code
def yL_judged : MethodName := ⟨RL, "judged", "(LPetitionDesk;I[J)I"⟩
abbrev cL_drawn : ByteArray := method_14_code
def yL_drawn : MethodName := ⟨RL, "drawn", "(LPetitionDesk;II[J)I"⟩
abbrev cL_estimate : ByteArray := method_15_code
def yL_estimate : MethodName := ⟨RL, "estimate", "(LPetitionDesk;II[J)I"⟩
abbrev cL_unlike : ByteArray := method_16_code
def yL_unlike : MethodName := ⟨RL, "unlike", "(LPetitionDesk;I[J)I"⟩
abbrev cL_unseen : ByteArray := method_17_code
def yL_unseen : MethodName := ⟨RL, "unseen", "(LPetitionDesk;II[J)I"⟩
abbrev cL_worst : ByteArray := method_18_code
def yL_worst : MethodName := ⟨RL, "worst", "(LPetitionDesk;II[J)I"⟩
abbrev cL_cost : ByteArray := method_19_code
def yL_cost : MethodName := ⟨RL, "cost", "(LPetitionDesk;I[J)I"⟩
abbrev cL_law : ByteArray := code
def yL_law : MethodName := ⟨RL, "law", "([I)Z"⟩
/-- the classes whose objects the world holds -/
abbrev pd_cl : List vw_C := [(RX0, TX0, 2), (RX1, TX1, 8), (RX3, TX3, 19), (RX4, TX4, 2), (RX5, TX5, 2), (RX6, TX6, 6), (RX7, TX7, 6), (RX8, TX8, 11), (RX9, TX9, 21)]
end
section
/-! ===== the world as pure memory: three stores over offsets, a list of shapes ===== -/
/-- launch, class ids and slots, array classes, the law's start, the script's cell -/
abbrev pd_G : Type := Launch × va_G × (Nat → ClassId) × State × Nat
def pd_z (G : pd_G) : Nat := G.2.2.2.1.heap.size
def pd_tys (G : pd_G) : List (ClassId × FieldType) := [(G.2.2.1 0, .int), (G.2.2.1 1, .byte), (G.2.2.1 2, .long), (G.2.2.1 3, .object "PetitionDesk$Petition"), (G.2.2.1 4, .array .int)]
/-- shapes, whether nothing else was made, ints, longs, references -/
abbrev pd_M : Type := List (Nat × Nat) × Bool × (Nat → Nat → Int32) × (Nat → Nat → Int64) × (Nat → Nat → Option Nat)
abbrev pd_O : Type := Option Value ⊕ String
/-- name, bytes, locals, return type, handlers -/
abbrev pd_MI : Type := MethodName × ByteArray × Nat × Option FieldType × List (Nat × Nat × Nat × Nat)
def pd_TB : List Cond := lw_tbl.filter goodWord
def pd_hd (mi : pd_MI) : Cond := match mi.2.2.2.2 with
  | [] => .code mi.1 mi.2.1 mi.2.2.1 mi.2.2.2.1
  | hh => .codeWith mi.1 mi.2.1 mi.2.2.1 mi.2.2.2.1 hh
def pd_lay : Nat → List Nat
  | 0 => [2, 2]
  | 1 => [2, 2, 2, 0, 2, 2, 2, 0]
  | 2 => [0, 2, 2, 2, 0, 0, 0, 2, 2, 2, 2, 0, 0, 0, 0, 0, 2, 1, 1]
  | 3 => [2, 0]
  | 4 => [2, 0]
  | 5 => [2, 2, 0, 0, 0, 0]
  | 6 => [2, 2, 2, 2, 0, 0]
  | 7 => [2, 2, 2, 2, 2, 0, 2, 0, 0, 0, 0]
  | 8 => [0, 2, 0, 0, 0, 0, 0, 0, 2, 2, 2, 2, 0, 0, 0, 0, 2, 2, 2, 0, 2]
  | _ => []
def pd_v (z : Nat) (i : Nat → Int32) (l : Nat → Int64) (r : Nat → Option Nat) (j t : Nat) : Value := match t with
  | 0 => .int (i j)
  | 1 => .long (l j)
  | _ => va_rf ((r j).map (fun q => z + q))
def pd_fs (z : Nat) (i : Nat → Int32) (l : Nat → Int64) (r : Nat → Option Nat) : Nat → List Nat → List Value
  | _, [] => []
  | j, t :: ts => pd_v z i l r j t :: pd_fs z i l r (j + 1) ts
theorem pd_fs_get (z : Nat) (i : Nat → Int32) (l : Nat → Int64) (r : Nat → Option Nat) : ∀ (ts : List Nat) (j k : Nat), (pd_fs z i l r j ts)[k]? = (ts[k]?).map (fun t => pd_v z i l r (j + k) t)
  | [], j, k => by simp [pd_fs]
  | t :: ts, j, 0 => by simp [pd_fs]
  | t :: ts, j, k + 1 => by
    rw [pd_fs, List.getElem?_cons_succ, List.getElem?_cons_succ, pd_fs_get z i l r ts (j + 1) k]
    rw [show j + 1 + k = j + (k + 1) by omega]
theorem pd_fs_len (z : Nat) (i : Nat → Int32) (l : Nat → Int64) (r : Nat → Option Nat) : ∀ (ts : List Nat) (j : Nat), (pd_fs z i l r j ts).length = ts.length
  | [], _ => rfl
  | _ :: ts, j => by rw [pd_fs, List.length_cons, List.length_cons, pd_fs_len z i l r ts (j + 1)]
def pd_rr (z : Nat) (r : Nat → Option Nat) : Nat → Option Nat := fun j => (r j).map (fun q => z + q)
def pd_ce (z : Nat) (tc : Nat → ClassId) (x : Nat × Nat) (i : Nat → Int32) (l : Nat → Int64) (r : Nat → Option Nat) : va_E := match x.1 with
  | 9 => .inl (tc 0, x.2, .inl i)
  | 10 => .inl (tc 1, x.2, .inl i)
  | 11 => .inl (tc 2, x.2, .inr (.inl l))
  | 12 => .inl (tc 3, x.2, .inr (.inr (.inr (.inr (pd_rr z r)))))
  | 13 => .inl (tc 4, x.2, .inr (.inr (.inr (.inr (pd_rr z r)))))
  | k => .inr (k, pd_fs z i l r 0 (pd_lay k))
def pd_ws (G : pd_G) (S : List (Nat × Nat)) (I : Nat → Nat → Int32) (L : Nat → Nat → Int64) (R : Nat → Nat → Option Nat) : va_W :=
  (List.range S.length).map fun k => (pd_z G + k, pd_ce (pd_z G) G.2.2.1 (S.getD k (0, 0)) (I k) (L k) (R k))
theorem pd_ws_len (G : pd_G) (S : List (Nat × Nat)) (I L R) : (pd_ws G S I L R).length = S.length := by simp [pd_ws]
theorem pd_ws_get {G : pd_G} {S : List (Nat × Nat)} {I L R} {k : Nat} {x : Nat × Nat} (h : S[k]? = some x) : (pd_ws G S I L R)[k]? = some (pd_z G + k, pd_ce (pd_z G) G.2.2.1 x (I k) (L k) (R k)) := by
  obtain ⟨hk, hx⟩ := List.getElem?_eq_some_iff.mp h
  unfold pd_ws
  rw [List.getElem?_map, List.getElem?_range hk]
  simp [List.getD_eq_getElem?_getD, h]
theorem pd_ws_of {G : pd_G} {S : List (Nat × Nat)} {I L R} {k : Nat} {q : Nat × va_E} (h : (pd_ws G S I L R)[k]? = some q) : k < S.length ∧ q.1 = pd_z G + k := by
  have hk : k < S.length := by
    have := (List.getElem?_eq_some_iff.mp h).1
    rwa [pd_ws_len] at this
  unfold pd_ws at h
  rw [List.getElem?_map, List.getElem?_range hk] at h
  cases h
  exact ⟨hk, rfl⟩
theorem pd_ws_D (G : pd_G) (S : List (Nat × Nat)) (I L R) : va_D (fun q => pd_z G ≤ q) (pd_ws G S I L R) := by
  refine ⟨fun i j p q hi hj e => ?_, fun k q hk => ?_⟩
  · have h1 := (pd_ws_of hi).2
    have h2 := (pd_ws_of hj).2
    omega
  · have h1 := (pd_ws_of hk).2
    show pd_z G ≤ q.1
    omega
theorem pd_ws_set {G : pd_G} {S : List (Nat × Nat)} {I I' : Nat → Nat → Int32} {L L' : Nat → Nat → Int64} {R R' : Nat → Nat → Option Nat} {k : Nat} {x : Nat × Nat} {e : va_E} (h : S[k]? = some x)
    (he : e = pd_ce (pd_z G) G.2.2.1 x (I' k) (L' k) (R' k)) (hI : ∀ j, j ≠ k → I' j = I j) (hL : ∀ j, j ≠ k → L' j = L j) (hR : ∀ j, j ≠ k → R' j = R j) :
    (pd_ws G S I L R).set k (pd_z G + k, e) = pd_ws G S I' L' R' := by
  obtain ⟨hk, hx⟩ := List.getElem?_eq_some_iff.mp h
  apply List.ext_getElem?
  intro j
  by_cases hj : j = k
  · subst hj
    rw [List.getElem?_set_self (by rw [pd_ws_len]; exact hk), pd_ws_get h, he]
  · rw [List.getElem?_set_ne (Ne.symm hj)]
    unfold pd_ws
    rw [List.getElem?_map, List.getElem?_map]
    by_cases hl : j < S.length
    · rw [List.getElem?_range hl]; simp [hI j hj, hL j hj, hR j hj]
    · rw [List.getElem?_eq_none (by simp; omega)]; rfl
def pd_up {α : Type} (f : Nat → Nat → α) (a k : Nat) (v : α) : Nat → Nat → α := fun b j => if b = a ∧ j = k then v else f b j
theorem pd_up_ne {α : Type} {f : Nat → Nat → α} {a k b : Nat} {v : α} (h : b ≠ a) : pd_up f a k v b = f b := by
  funext j; simp [pd_up, h]
theorem pd_up_at {α : Type} {f : Nat → Nat → α} {a k : Nat} {v : α} : pd_up f a k v a k = v := by simp [pd_up]
theorem pd_up_nj {α : Type} {f : Nat → Nat → α} {a b k j : Nat} {v : α} (h : j ≠ k) : pd_up f a k v b j = f b j := by simp [pd_up, h]
theorem pd_up_row (f : Nat → Nat → Int32) (a k : Nat) (v : Int32) : pd_up f a k v a = upd (f a) k v := by
  funext j; simp [pd_up, upd]
theorem pd_up_rowL (f : Nat → Nat → Int64) (a k : Nat) (v : Int64) : pd_up f a k v a = vp_updL (f a) k v := by
  funext j; simp [pd_up, vp_updL]
/-- the world in the heap -/
def pd_Wd (G : pd_G) (M : pd_M) (H : Heap) : Prop := va_P G.2.1 pd_cl (pd_ws G M.1 M.2.2.1 M.2.2.2.1 M.2.2.2.2) H ∧ (∀ q, q < pd_z G → H[q]? = G.2.2.2.1.heap[q]?) ∧ pd_z G + M.1.length ≤ H.size ∧ (M.2.1 = true → H.size = pd_z G + M.1.length)
/-- what holds of the launch and the start -/
def pd_OK (G : pd_G) : Prop := va_K G.2.1 pd_cl (pd_tys G) G.2.2.2.1 ∧ G.1.flags = flags0 ∧ (∀ w ∈ lw_tbl, w.before #[Value.ref G.2.2.2.2] G.2.2.2.1 = true) ∧ (Jvm.Cond.and given_1 narrow_1).before #[Value.ref G.2.2.2.2] G.2.2.2.1 = true
def pd_Fr (G : pd_G) (mi : pd_MI) (p : Program) (s : State) (m : MethodId) (args : Array Value) (meth : Method) (c : Code) : Prop :=
  p.tables.exec = Jvm.exec ∧ c.code = mi.2.1 ∧ meth.sig.returnType = mi.2.2.2.1 ∧ c.maxLocals = mi.2.2.1 ∧ s.vm.findClass mi.1.cls = some m.cls ∧ (∀ w ∈ pd_TB, w.before args s = true) ∧ meth.locks = false ∧ pd_OK G ∧ G.2.2.2.1.WarmedH s.vm ∧ va_K G.2.1 pd_cl (pd_tys G) s ∧ c.exceptionTable.toList = tableOf mi.2.2.2.2 ∧ meth.name = mi.1.name ∧ (pd_z G ≤ s.heap.size ∧ ∀ q, q < pd_z G → s.heap[q]? = G.2.2.2.1.heap[q]?)
def pd_rm (d mc ms : Nat) : Room := { frames := d, cells := mc, slots := ms, locals := 100 * d }
def pd_Qc (G : pd_G) (Q : pd_O → pd_M → Prop) : Array Value → State → Outcome → State → Prop := fun _ st o t => ∃ (r : Option Value) (M : pd_M), o = .returned r ∧ Q (.inl r) M ∧ pd_Wd G M t.heap ∧ st.heap.size ≤ t.heap.size
def pd_Xc (G : pd_G) (Q : pd_O → pd_M → Prop) : String → State → State → Prop := fun E st t => ∃ M : pd_M, Q (.inr E) M ∧ pd_Wd G M t.heap ∧ st.heap.size ≤ t.heap.size
def pd_Pc (G : pd_G) (av : List Value) (M : pd_M) : Array Value → State → Prop := va_Pc av (fun U => pd_OK G ∧ G.2.2.2.1.WarmedH U.vm ∧ pd_Wd G M U.heap)
/-- a method's contract: from arguments and memory, at most h frames deep -/
def pd_Ev (G : pd_G) (mi : pd_MI) (h mc ms : Nat) (av : List Value) (M : pd_M) (Q : pd_O → pd_M → Prop) : Prop :=
  ∀ d : Nat, h ≤ d → vx_Met G.1 mi.1 (pd_hd mi :: pd_TB) (pd_rm d mc ms) (pd_Pc G av M) (pd_Qc G Q) (pd_Xc G Q) mc ms (fun q => pd_z G ≤ q)
/-! locals by their numbers -/
def pd_lg : List (Option Value) → Nat → Option Value
  | [], _ => none
  | a :: _, 0 => a
  | _ :: l, n + 1 => pd_lg l n
def pd_ls : List (Option Value) → Nat → Option Value → List (Option Value)
  | [], _, _ => []
  | _ :: l, 0, v => v :: l
  | a :: l, n + 1, v => a :: pd_ls l n v
def pd_as : Nat → List (Option Value) → List (Nat × Value)
  | _, [] => []
  | b, none :: l => pd_as (b + 1) l
  | b, some v :: l => (b, v) :: pd_as (b + 1) l
theorem pd_as_lg : ∀ (lo : List (Option Value)) (b i : Nat) (v : Value), pd_lg lo i = some v → (b + i, v) ∈ pd_as b lo
  | [], _, _, _, h => by cases h
  | some w :: l, b, 0, v, h => by cases h; exact List.mem_cons_self
  | none :: l, b, 0, v, h => by cases h
  | some w :: l, b, i + 1, v, h => by
    have := pd_as_lg l (b + 1) i v h
    rw [show b + 1 + i = b + (i + 1) by omega] at this
    exact List.mem_cons_of_mem _ this
  | none :: l, b, i + 1, v, h => by
    have := pd_as_lg l (b + 1) i v h
    rw [show b + 1 + i = b + (i + 1) by omega] at this
    exact this
theorem pd_as_of : ∀ (lo : List (Option Value)) (b : Nat) (q : Nat × Value), q ∈ pd_as b lo → b ≤ q.1 ∧ pd_lg lo (q.1 - b) = some q.2
  | [], _, _, h => by cases h
  | some w :: l, b, q, h => by
    rcases List.mem_cons.mp h with rfl | h
    · exact ⟨Nat.le_refl _, by simp [pd_lg]⟩
    · obtain ⟨h1, h2⟩ := pd_as_of l (b + 1) q h
      refine ⟨by omega, ?_⟩
      rw [show q.1 - b = (q.1 - (b + 1)) + 1 by omega]
      exact h2
  | none :: l, b, q, h => by
    obtain ⟨h1, h2⟩ := pd_as_of l (b + 1) q h
    refine ⟨by omega, ?_⟩
    rw [show q.1 - b = (q.1 - (b + 1)) + 1 by omega]
    exact h2
theorem pd_lg_ls_ne : ∀ (lo : List (Option Value)) (i j : Nat) (v : Option Value), j ≠ i → pd_lg (pd_ls lo i v) j = pd_lg lo j
  | [], _, _, _, _ => rfl
  | a :: l, 0, 0, v, h => absurd rfl h
  | a :: l, 0, j + 1, v, h => rfl
  | a :: l, i + 1, 0, v, h => rfl
  | a :: l, i + 1, j + 1, v, h => pd_lg_ls_ne l i j v (fun e => h (by rw [e]))
theorem pd_lg_ls_at : ∀ (lo : List (Option Value)) (i : Nat) (v : Option Value), pd_lg (pd_ls lo i v) i = v ∨ pd_lg (pd_ls lo i v) i = none
  | [], _, _ => Or.inr rfl
  | a :: l, 0, v => Or.inl rfl
  | a :: l, i + 1, v => pd_lg_ls_at l i v
def pd_o1 (lo : List (Option Value)) : Nat → Bool
  | 0 => true
  | i + 1 => match pd_lg lo i with
    | some v => v.category != 2
    | none => true
theorem pd_lv_get {ls : Array Slot} {n : Nat} {lo : List (Option Value)} {i : Nat} {v : Value} (h : lv_has ls n (pd_as 0 lo)) (hg : pd_lg lo i = some v) : ls[i]? = some (.val v) := by
  have := h.2.2 _ (pd_as_lg lo 0 i v hg)
  rwa [Nat.zero_add] at this
theorem pd_lv_set1 {ls' : Array Slot} {n : Nat} {lo : List (Option Value)} {i : Nat} {v : Value} (hk : pd_o1 lo i = true) (h : lv_has ls' n ((i, v) :: (pd_as 0 lo).filter (fun q => !(q.1 == i) && !(q.1 + 1 == i && q.2.category == 2)))) : lv_has ls' n (pd_as 0 (pd_ls lo i (some v))) := by
  refine ⟨h.1, h.2.1, fun q hq => ?_⟩
  obtain ⟨-, hg⟩ := pd_as_of _ 0 q hq
  rw [Nat.sub_zero] at hg
  by_cases hi : q.1 = i
  · rw [hi] at hg ⊢
    rcases pd_lg_ls_at lo i (some v) with e | e
    · rw [e] at hg; cases hg
      exact h.2.2 (i, q.2) List.mem_cons_self
    · rw [e] at hg; cases hg
  · rw [pd_lg_ls_ne lo i q.1 _ hi] at hg
    refine h.2.2 q (List.mem_cons_of_mem _ (List.mem_filter.mpr ⟨?_, ?_⟩))
    · have := pd_as_lg lo 0 q.1 q.2 hg
      rw [Nat.zero_add] at this
      exact this
    · have h1 : (q.1 == i) = false := by simp [hi]
      rw [h1]
      by_cases h2 : q.1 + 1 = i
      · subst h2
        simp only [pd_o1, hg] at hk
        simp at hk
        simp [hk]
      · simp [h2]
theorem pd_lv_set2 {ls' : Array Slot} {n : Nat} {lo : List (Option Value)} {i : Nat} {v : Value} (hk : pd_o1 lo i = true) (h : lv_has ls' n ((i, v) :: (pd_as 0 lo).filter (fun q => !(q.1 == i) && (!(q.1 == i + 1) && !(q.1 + 1 == i && q.2.category == 2))))) : lv_has ls' n (pd_as 0 (pd_ls (pd_ls lo i (some v)) (i + 1) none)) := by
  refine ⟨h.1, h.2.1, fun q hq => ?_⟩
  obtain ⟨-, hg⟩ := pd_as_of _ 0 q hq
  rw [Nat.sub_zero] at hg
  by_cases hj : q.1 = i + 1
  · rw [hj] at hg
    rcases pd_lg_ls_at (pd_ls lo i (some v)) (i + 1) none with e | e <;> rw [e] at hg <;> cases hg
  rw [pd_lg_ls_ne _ (i + 1) q.1 _ hj] at hg
  by_cases hi : q.1 = i
  · rw [hi] at hg ⊢
    rcases pd_lg_ls_at lo i (some v) with e | e
    · rw [e] at hg; cases hg
      exact h.2.2 (i, q.2) List.mem_cons_self
    · rw [e] at hg; cases hg
  · rw [pd_lg_ls_ne lo i q.1 _ hi] at hg
    refine h.2.2 q (List.mem_cons_of_mem _ (List.mem_filter.mpr ⟨?_, ?_⟩))
    · have := pd_as_lg lo 0 q.1 q.2 hg
      rw [Nat.zero_add] at this
      exact this
    · have h1 : (q.1 == i) = false := by simp [hi]
      have h3 : (q.1 == i + 1) = false := by simp [hj]
      rw [h1, h3]
      by_cases h2 : q.1 + 1 = i
      · subst h2
        simp only [pd_o1, hg] at hk
        simp at hk
        simp [hk]
      · simp [h2]
/-- a place in a method: from here the method ends as Q says -/
def pd_At (G : pd_G) (mi : pd_MI) (h mc ms cs ss pc : Nat) (lo : List (Option Value)) (st : List Value) (M : pd_M) (Q : pd_O → pd_M → Prop) : Prop :=
  ∀ (d : Nat) (p : Program) (e : Env) (s : State) (m : MethodId) (args : Array Value) (below : List Frame) (meth : Method) (c : Code) (H : Heap) (locs : List Loc) (ls : Array Slot),
    h ≤ d → pd_Fr G mi p s m args meth c → va_S (fun q => pd_z G ≤ q) s.heap H locs → pd_Wd G M H → lv_has ls mi.2.2.1 (pd_as 0 lo) →
    W p G.1 e (pd_rm d mc ms) s m args below meth c H locs cs ss (vx_MQ below (pd_Qc G Q) (pd_Xc G Q) args s mc ms (fun q => pd_z G ≤ q)) (F0 m pc ls st)
/-! entry -/
def pd_lo : List Value → List (Option Value)
  | [] => []
  | .long x :: vs => some (.long x) :: none :: pd_lo vs
  | .double x :: vs => some (.double x) :: none :: pd_lo vs
  | v :: vs => some v :: pd_lo vs
theorem pd_as_app (b k : Nat) : ∀ lo : List (Option Value), ∀ q ∈ pd_as b (lo ++ List.replicate k none), q ∈ pd_as b lo := by
  intro lo
  induction lo generalizing b with
  | nil =>
    intro q hq
    obtain ⟨h1, h2⟩ := pd_as_of _ b q hq
    exfalso
    have : ∀ (k i : Nat), pd_lg (List.replicate k none) i = none := by
      intro k
      induction k with
      | zero => intro i; rfl
      | succ k ih => intro i; cases i with
        | zero => rfl
        | succ i => exact ih i
    rw [List.nil_append, this] at h2
    cases h2
  | cons a l ih =>
    intro q hq
    cases a with
    | none => exact ih (b + 1) q hq
    | some v =>
      rcases List.mem_cons.mp hq with rfl | hq
      · exact List.mem_cons_self
      · exact List.mem_cons_of_mem _ (ih (b + 1) q hq)
theorem pd_lo_args : ∀ (vs : List Value) (b : Nat), ∀ q ∈ pd_as b (pd_lo vs), q ∈ lv_args b vs
  | [], _, _, h => by cases h
  | .long x :: vs, b, q, h => by
    rcases List.mem_cons.mp h with rfl | h
    · exact List.mem_cons_self
    · refine List.mem_cons_of_mem _ ?_
      have := pd_lo_args vs (b + 2) q h
      simpa [Value.category] using this
  | .double x :: vs, b, q, h => by
    rcases List.mem_cons.mp h with rfl | h
    · exact List.mem_cons_self
    · refine List.mem_cons_of_mem _ ?_
      have := pd_lo_args vs (b + 2) q h
      simpa [Value.category] using this
  | .int x :: vs, b, q, h => by
    rcases List.mem_cons.mp h with rfl | h
    · exact List.mem_cons_self
    · refine List.mem_cons_of_mem _ ?_
      have := pd_lo_args vs (b + 1) q h
      simpa [Value.category] using this
  | .float x :: vs, b, q, h => by
    rcases List.mem_cons.mp h with rfl | h
    · exact List.mem_cons_self
    · refine List.mem_cons_of_mem _ ?_
      have := pd_lo_args vs (b + 1) q h
      simpa [Value.category] using this
  | .ref x :: vs, b, q, h => by
    rcases List.mem_cons.mp h with rfl | h
    · exact List.mem_cons_self
    · refine List.mem_cons_of_mem _ ?_
      have := pd_lo_args vs (b + 1) q h
      simpa [Value.category] using this
  | .null :: vs, b, q, h => by
    rcases List.mem_cons.mp h with rfl | h
    · exact List.mem_cons_self
    · refine List.mem_cons_of_mem _ ?_
      have := pd_lo_args vs (b + 1) q h
      simpa [Value.category] using this
  | .retAddr x :: vs, b, q, h => by
    rcases List.mem_cons.mp h with rfl | h
    · exact List.mem_cons_self
    · refine List.mem_cons_of_mem _ ?_
      have := pd_lo_args vs (b + 1) q h
      simpa [Value.category] using this
/-- a contract out of the walk from the entry -/
theorem pd_ev {G : pd_G} {mi : pd_MI} {h mc ms : Nat} {av : List Value} {M : pd_M} {Q : pd_O → pd_M → Prop} (k : Nat) {lo : List (Option Value)} (hp : plainName mi.1.cls = true) (hlen : (lg_sl av).length ≤ mi.2.2.1) (hlo : pd_lo av ++ List.replicate k none = lo)
    (K : pd_At G mi h mc ms 0 0 0 lo [] M Q) : pd_Ev G mi h mc ms av M Q := by
  intro d hd
  have body : ∀ p e s m args below meth c s₁, BodyLoose p G.1 mi.1 (headSpec (pd_hd mi :: pd_TB) (pd_rm d mc ms)) mi.2.1 mi.2.2.1 mi.2.2.2.1 e s m args below meth c s₁ → c.maxLocals = mi.2.2.1 → c.exceptionTable.toList = tableOf mi.2.2.2.2 → pd_Pc G av M args s →
      W p G.1 e (headSpec (pd_hd mi :: pd_TB) (pd_rm d mc ms)).room s m args below meth c s.heap [] 0 0 (vx_MQ below (pd_Qc G Q) (pd_Xc G Q) args s mc ms (fun q => pd_z G ≤ q)) (entryFrame m args mi.2.2.1) := by
    intro p e s m args below meth c s₁ B hml htab hP
    obtain ⟨rfl, hOK, hWm, hW⟩ := hP
    have hts := atoms_spec (ws := pd_hd mi :: pd_TB) B.pre
    have hl := lv_entry av (n := mi.2.2.1) hlen
    rw [lg_entry_eq]
    generalize (lg_sl av ++ List.replicate (mi.2.2.1 - (lg_sl av).length) Slot.unset).toArray = ls at hl ⊢
    refine K d p e s m _ below meth c s.heap [] ls hd ⟨B.exec, B.bytes, B.returns, hml, findClass_of_methodNamed B.named, fun w hw => hts w (List.mem_cons_of_mem _ hw), B.notSynchronized, hOK, hWm, va_K.moved hWm.alike hOK.1, htab, (name_of_methodNamed B.named B.method).1, Nat.le_trans (Nat.le_add_right _ _) hW.2.2.1, hW.2.1⟩ va_S.rf hW ⟨hl.1, hl.2.1, fun q hq => hl.2.2 q ?_⟩
    rw [← hlo] at hq
    exact pd_lo_args av 0 q (pd_as_app 0 k _ q hq)
  cases hh : mi.2.2.2.2 with
  | nil =>
    have e1 : pd_hd mi = .code mi.1 mi.2.1 mi.2.2.1 mi.2.2.2.1 := by unfold pd_hd; rw [hh]
    rw [e1] at body ⊢
    refine vx_ofW (cc := mi.2.1) (maxL := mi.2.2.1) (ret := mi.2.2.2.1) hp rfl ?_
    intro p e s m args below meth c s₁ B hml ht hP
    refine body p e s m args below meth c s₁ B hml ?_ hP
    rw [hh]
    cases hc : c.exceptionTable.toList with
    | nil => rfl
    | cons a l => exact absurd (by rw [hc]; exact List.mem_cons_self) (fun hm => ht a hm)
  | cons q qs =>
    have e1 : pd_hd mi = .codeWith mi.1 mi.2.1 mi.2.2.1 mi.2.2.2.1 (q :: qs) := by unfold pd_hd; rw [hh]
    rw [e1] at body ⊢
    refine vx_ofWH (cc := mi.2.1) (maxL := mi.2.2.1) (ret := mi.2.2.2.1) (hh := q :: qs) hp rfl ?_
    intro p e s m args below meth c s₁ B hml hP
    refine body p e s m args below meth c s₁ B hml ?_ hP
    rw [hh]
    exact vx_table (x := mi.1) B (atoms_spec (ws := _) B.pre _ List.mem_cons_self)
end
section
theorem at_iadd {G : pd_G} {mi : pd_MI} {h mc ms cs ss pc : Nat} {lo : List (Option Value)} {st : List Value} {M : pd_M} {Q : pd_O → pd_M → Prop} {x y : Int32} (hdg : decode mi.2.1 pc = .ok (.iadd, 1)) (k : pd_At G mi h mc ms cs ss (pc + 1) lo (.int (x + y) :: st) M Q) : pd_At G mi h mc ms cs ss pc lo (.int y :: .int x :: st) M Q := fun d p e s m args below meth c H locs ls hd F hS hW hl => lv_iadd F.1 F.2.1 hdg (k d p e s m args below meth c H locs ls hd F hS hW hl)
theorem at_isub {G : pd_G} {mi : pd_MI} {h mc ms cs ss pc : Nat} {lo : List (Option Value)} {st : List Value} {M : pd_M} {Q : pd_O → pd_M → Prop} {x y : Int32} (hdg : decode mi.2.1 pc = .ok (.isub, 1)) (k : pd_At G mi h mc ms cs ss (pc + 1) lo (.int (x - y) :: st) M Q) : pd_At G mi h mc ms cs ss pc lo (.int y :: .int x :: st) M Q := fun d p e s m args below meth c H locs ls hd F hS hW hl => lv_isub F.1 F.2.1 hdg (k d p e s m args below meth c H locs ls hd F hS hW hl)
theorem at_imul {G : pd_G} {mi : pd_MI} {h mc ms cs ss pc : Nat} {lo : List (Option Value)} {st : List Value} {M : pd_M} {Q : pd_O → pd_M → Prop} {x y : Int32} (hdg : decode mi.2.1 pc = .ok (.imul, 1)) (k : pd_At G mi h mc ms cs ss (pc + 1) lo (.int (x * y) :: st) M Q) : pd_At G mi h mc ms cs ss pc lo (.int y :: .int x :: st) M Q := fun d p e s m args below meth c H locs ls hd F hS hW hl => lv_imul F.1 F.2.1 hdg (k d p e s m args below meth c H locs ls hd F hS hW hl)
theorem at_iand {G : pd_G} {mi : pd_MI} {h mc ms cs ss pc : Nat} {lo : List (Option Value)} {st : List Value} {M : pd_M} {Q : pd_O → pd_M → Prop} {x y : Int32} (hdg : decode mi.2.1 pc = .ok (.iand, 1)) (k : pd_At G mi h mc ms cs ss (pc + 1) lo (.int (x &&& y) :: st) M Q) : pd_At G mi h mc ms cs ss pc lo (.int y :: .int x :: st) M Q := fun d p e s m args below meth c H locs ls hd F hS hW hl => lv_iand F.1 F.2.1 hdg (k d p e s m args below meth c H locs ls hd F hS hW hl)
theorem at_ior {G : pd_G} {mi : pd_MI} {h mc ms cs ss pc : Nat} {lo : List (Option Value)} {st : List Value} {M : pd_M} {Q : pd_O → pd_M → Prop} {x y : Int32} (hdg : decode mi.2.1 pc = .ok (.ior, 1)) (k : pd_At G mi h mc ms cs ss (pc + 1) lo (.int (x ||| y) :: st) M Q) : pd_At G mi h mc ms cs ss pc lo (.int y :: .int x :: st) M Q := fun d p e s m args below meth c H locs ls hd F hS hW hl => lv_ior F.1 F.2.1 hdg (k d p e s m args below meth c H locs ls hd F hS hW hl)
theorem at_ixor {G : pd_G} {mi : pd_MI} {h mc ms cs ss pc : Nat} {lo : List (Option Value)} {st : List Value} {M : pd_M} {Q : pd_O → pd_M → Prop} {x y : Int32} (hdg : decode mi.2.1 pc = .ok (.ixor, 1)) (k : pd_At G mi h mc ms cs ss (pc + 1) lo (.int (x ^^^ y) :: st) M Q) : pd_At G mi h mc ms cs ss pc lo (.int y :: .int x :: st) M Q := fun d p e s m args below meth c H locs ls hd F hS hW hl => lv_ixor F.1 F.2.1 hdg (k d p e s m args below meth c H locs ls hd F hS hW hl)
theorem at_ishl {G : pd_G} {mi : pd_MI} {h mc ms cs ss pc : Nat} {lo : List (Option Value)} {st : List Value} {M : pd_M} {Q : pd_O → pd_M → Prop} {x y : Int32} (hdg : decode mi.2.1 pc = .ok (.ishl, 1)) (k : pd_At G mi h mc ms cs ss (pc + 1) lo (.int (x <<< (y &&& 31)) :: st) M Q) : pd_At G mi h mc ms cs ss pc lo (.int y :: .int x :: st) M Q := fun d p e s m args below meth c H locs ls hd F hS hW hl => lv_ishl F.1 F.2.1 hdg (k d p e s m args below meth c H locs ls hd F hS hW hl)
theorem at_ishr {G : pd_G} {mi : pd_MI} {h mc ms cs ss pc : Nat} {lo : List (Option Value)} {st : List Value} {M : pd_M} {Q : pd_O → pd_M → Prop} {x y : Int32} (hdg : decode mi.2.1 pc = .ok (.ishr, 1)) (k : pd_At G mi h mc ms cs ss (pc + 1) lo (.int (x >>> (y &&& 31)) :: st) M Q) : pd_At G mi h mc ms cs ss pc lo (.int y :: .int x :: st) M Q := fun d p e s m args below meth c H locs ls hd F hS hW hl => lv_ishr F.1 F.2.1 hdg (k d p e s m args below meth c H locs ls hd F hS hW hl)
theorem at_iushr {G : pd_G} {mi : pd_MI} {h mc ms cs ss pc : Nat} {lo : List (Option Value)} {st : List Value} {M : pd_M} {Q : pd_O → pd_M → Prop} {x y : Int32} (hdg : decode mi.2.1 pc = .ok (.iushr, 1)) (k : pd_At G mi h mc ms cs ss (pc + 1) lo (.int ((x.toUInt32 >>> (y.toUInt32 &&& Int32.toUInt32 31)).toInt32) :: st) M Q) : pd_At G mi h mc ms cs ss pc lo (.int y :: .int x :: st) M Q := fun d p e s m args below meth c H locs ls hd F hS hW hl => lv_iushr F.1 F.2.1 hdg rfl (k d p e s m args below meth c H locs ls hd F hS hW hl)
theorem at_idiv {G : pd_G} {mi : pd_MI} {h mc ms cs ss pc : Nat} {lo : List (Option Value)} {st : List Value} {M : pd_M} {Q : pd_O → pd_M → Prop} {x y : Int32} (hdg : decode mi.2.1 pc = .ok (.idiv, 1)) (hne : ¬ y = 0) (k : pd_At G mi h mc ms cs ss (pc + 1) lo (.int (x / y) :: st) M Q) : pd_At G mi h mc ms cs ss pc lo (.int y :: .int x :: st) M Q := fun d p e s m args below meth c H locs ls hd F hS hW hl => lv_idiv F.1 F.2.1 hdg hne (k d p e s m args below meth c H locs ls hd F hS hW hl)
theorem at_irem {G : pd_G} {mi : pd_MI} {h mc ms cs ss pc : Nat} {lo : List (Option Value)} {st : List Value} {M : pd_M} {Q : pd_O → pd_M → Prop} {x y : Int32} (hdg : decode mi.2.1 pc = .ok (.irem, 1)) (hne : ¬ y = 0) (k : pd_At G mi h mc ms cs ss (pc + 1) lo (.int (x - x / y * y) :: st) M Q) : pd_At G mi h mc ms cs ss pc lo (.int y :: .int x :: st) M Q := fun d p e s m args below meth c H locs ls hd F hS hW hl => lv_irem F.1 F.2.1 hdg hne (k d p e s m args below meth c H locs ls hd F hS hW hl)
theorem at_ladd {G : pd_G} {mi : pd_MI} {h mc ms cs ss pc : Nat} {lo : List (Option Value)} {st : List Value} {M : pd_M} {Q : pd_O → pd_M → Prop} {x y : Int64} (hdg : decode mi.2.1 pc = .ok (.ladd, 1)) (k : pd_At G mi h mc ms cs ss (pc + 1) lo (.long (x + y) :: st) M Q) : pd_At G mi h mc ms cs ss pc lo (.long y :: .long x :: st) M Q := fun d p e s m args below meth c H locs ls hd F hS hW hl => lv_ladd F.1 F.2.1 hdg (k d p e s m args below meth c H locs ls hd F hS hW hl)
theorem at_lsub {G : pd_G} {mi : pd_MI} {h mc ms cs ss pc : Nat} {lo : List (Option Value)} {st : List Value} {M : pd_M} {Q : pd_O → pd_M → Prop} {x y : Int64} (hdg : decode mi.2.1 pc = .ok (.lsub, 1)) (k : pd_At G mi h mc ms cs ss (pc + 1) lo (.long (x - y) :: st) M Q) : pd_At G mi h mc ms cs ss pc lo (.long y :: .long x :: st) M Q := fun d p e s m args below meth c H locs ls hd F hS hW hl => lv_lsub F.1 F.2.1 hdg (k d p e s m args below meth c H locs ls hd F hS hW hl)
theorem at_lmul {G : pd_G} {mi : pd_MI} {h mc ms cs ss pc : Nat} {lo : List (Option Value)} {st : List Value} {M : pd_M} {Q : pd_O → pd_M → Prop} {x y : Int64} (hdg : decode mi.2.1 pc = .ok (.lmul, 1)) (k : pd_At G mi h mc ms cs ss (pc + 1) lo (.long (x * y) :: st) M Q) : pd_At G mi h mc ms cs ss pc lo (.long y :: .long x :: st) M Q := fun d p e s m args below meth c H locs ls hd F hS hW hl => lv_lmul F.1 F.2.1 hdg (k d p e s m args below meth c H locs ls hd F hS hW hl)
theorem at_land {G : pd_G} {mi : pd_MI} {h mc ms cs ss pc : Nat} {lo : List (Option Value)} {st : List Value} {M : pd_M} {Q : pd_O → pd_M → Prop} {x y : Int64} (hdg : decode mi.2.1 pc = .ok (.land, 1)) (k : pd_At G mi h mc ms cs ss (pc + 1) lo (.long (x &&& y) :: st) M Q) : pd_At G mi h mc ms cs ss pc lo (.long y :: .long x :: st) M Q := fun d p e s m args below meth c H locs ls hd F hS hW hl => lv_land F.1 F.2.1 hdg (k d p e s m args below meth c H locs ls hd F hS hW hl)
theorem at_lor {G : pd_G} {mi : pd_MI} {h mc ms cs ss pc : Nat} {lo : List (Option Value)} {st : List Value} {M : pd_M} {Q : pd_O → pd_M → Prop} {x y : Int64} (hdg : decode mi.2.1 pc = .ok (.lor, 1)) (k : pd_At G mi h mc ms cs ss (pc + 1) lo (.long (x ||| y) :: st) M Q) : pd_At G mi h mc ms cs ss pc lo (.long y :: .long x :: st) M Q := fun d p e s m args below meth c H locs ls hd F hS hW hl => lv_lor F.1 F.2.1 hdg (k d p e s m args below meth c H locs ls hd F hS hW hl)
theorem at_lxor {G : pd_G} {mi : pd_MI} {h mc ms cs ss pc : Nat} {lo : List (Option Value)} {st : List Value} {M : pd_M} {Q : pd_O → pd_M → Prop} {x y : Int64} (hdg : decode mi.2.1 pc = .ok (.lxor, 1)) (k : pd_At G mi h mc ms cs ss (pc + 1) lo (.long (x ^^^ y) :: st) M Q) : pd_At G mi h mc ms cs ss pc lo (.long y :: .long x :: st) M Q := fun d p e s m args below meth c H locs ls hd F hS hW hl => lv_lxor F.1 F.2.1 hdg (k d p e s m args below meth c H locs ls hd F hS hW hl)
theorem at_ldiv {G : pd_G} {mi : pd_MI} {h mc ms cs ss pc : Nat} {lo : List (Option Value)} {st : List Value} {M : pd_M} {Q : pd_O → pd_M → Prop} {x y : Int64} (hdg : decode mi.2.1 pc = .ok (.ldiv, 1)) (hne : ¬ y = 0) (k : pd_At G mi h mc ms cs ss (pc + 1) lo (.long (x / y) :: st) M Q) : pd_At G mi h mc ms cs ss pc lo (.long y :: .long x :: st) M Q := fun d p e s m args below meth c H locs ls hd F hS hW hl => lv_ldiv F.1 F.2.1 hdg hne (k d p e s m args below meth c H locs ls hd F hS hW hl)
theorem at_lrem {G : pd_G} {mi : pd_MI} {h mc ms cs ss pc : Nat} {lo : List (Option Value)} {st : List Value} {M : pd_M} {Q : pd_O → pd_M → Prop} {x y : Int64} (hdg : decode mi.2.1 pc = .ok (.lrem, 1)) (hne : ¬ y = 0) (k : pd_At G mi h mc ms cs ss (pc + 1) lo (.long (x - x / y * y) :: st) M Q) : pd_At G mi h mc ms cs ss pc lo (.long y :: .long x :: st) M Q := fun d p e s m args below meth c H locs ls hd F hS hW hl => lv_lrem F.1 F.2.1 hdg hne (k d p e s m args below meth c H locs ls hd F hS hW hl)
theorem at_lneg {G : pd_G} {mi : pd_MI} {h mc ms cs ss pc : Nat} {lo : List (Option Value)} {st : List Value} {M : pd_M} {Q : pd_O → pd_M → Prop} {x : Int64} (hdg : decode mi.2.1 pc = .ok (.lneg, 1)) (k : pd_At G mi h mc ms cs ss (pc + 1) lo (.long (-x) :: st) M Q) : pd_At G mi h mc ms cs ss pc lo (.long x :: st) M Q := fun d p e s m args below meth c H locs ls hd F hS hW hl => lv_lneg F.1 F.2.1 hdg (k d p e s m args below meth c H locs ls hd F hS hW hl)
theorem at_lshl {G : pd_G} {mi : pd_MI} {h mc ms cs ss pc : Nat} {lo : List (Option Value)} {st : List Value} {M : pd_M} {Q : pd_O → pd_M → Prop} {x : Int64} {y : Int32} (hdg : decode mi.2.1 pc = .ok (.lshl, 1)) (k : pd_At G mi h mc ms cs ss (pc + 1) lo (.long (x <<< (y.toInt64 &&& 63)) :: st) M Q) : pd_At G mi h mc ms cs ss pc lo (.int y :: .long x :: st) M Q := fun d p e s m args below meth c H locs ls hd F hS hW hl => lv_lshl F.1 F.2.1 hdg rfl (k d p e s m args below meth c H locs ls hd F hS hW hl)
theorem at_lshr {G : pd_G} {mi : pd_MI} {h mc ms cs ss pc : Nat} {lo : List (Option Value)} {st : List Value} {M : pd_M} {Q : pd_O → pd_M → Prop} {x : Int64} {y : Int32} (hdg : decode mi.2.1 pc = .ok (.lshr, 1)) (k : pd_At G mi h mc ms cs ss (pc + 1) lo (.long (x >>> (y.toInt64 &&& 63)) :: st) M Q) : pd_At G mi h mc ms cs ss pc lo (.int y :: .long x :: st) M Q := fun d p e s m args below meth c H locs ls hd F hS hW hl => lv_lshr F.1 F.2.1 hdg rfl (k d p e s m args below meth c H locs ls hd F hS hW hl)
theorem at_lushr {G : pd_G} {mi : pd_MI} {h mc ms cs ss pc : Nat} {lo : List (Option Value)} {st : List Value} {M : pd_M} {Q : pd_O → pd_M → Prop} {x : Int64} {y : Int32} (hdg : decode mi.2.1 pc = .ok (.lushr, 1)) (k : pd_At G mi h mc ms cs ss (pc + 1) lo (.long ((x.toUInt64 >>> (y.toInt64.toUInt64 &&& Int64.toUInt64 63)).toInt64) :: st) M Q) : pd_At G mi h mc ms cs ss pc lo (.int y :: .long x :: st) M Q := fun d p e s m args below meth c H locs ls hd F hS hW hl => lv_lushr F.1 F.2.1 hdg rfl (k d p e s m args below meth c H locs ls hd F hS hW hl)
theorem at_i2l {G : pd_G} {mi : pd_MI} {h mc ms cs ss pc : Nat} {lo : List (Option Value)} {st : List Value} {M : pd_M} {Q : pd_O → pd_M → Prop} {x : Int32} (hdg : decode mi.2.1 pc = .ok (.i2l, 1)) (k : pd_At G mi h mc ms cs ss (pc + 1) lo (.long x.toInt64 :: st) M Q) : pd_At G mi h mc ms cs ss pc lo (.int x :: st) M Q := fun d p e s m args below meth c H locs ls hd F hS hW hl => lv_i2l F.1 F.2.1 hdg rfl (k d p e s m args below meth c H locs ls hd F hS hW hl)
theorem at_l2i {G : pd_G} {mi : pd_MI} {h mc ms cs ss pc : Nat} {lo : List (Option Value)} {st : List Value} {M : pd_M} {Q : pd_O → pd_M → Prop} {x : Int64} (hdg : decode mi.2.1 pc = .ok (.l2i, 1)) (k : pd_At G mi h mc ms cs ss (pc + 1) lo (.int x.toInt32 :: st) M Q) : pd_At G mi h mc ms cs ss pc lo (.long x :: st) M Q := fun d p e s m args below meth c H locs ls hd F hS hW hl => lv_l2i F.1 F.2.1 hdg rfl (k d p e s m args below meth c H locs ls hd F hS hW hl)
theorem at_i2b {G : pd_G} {mi : pd_MI} {h mc ms cs ss pc : Nat} {lo : List (Option Value)} {st : List Value} {M : pd_M} {Q : pd_O → pd_M → Prop} {x : Int32} (hdg : decode mi.2.1 pc = .ok (.i2b, 1)) (k : pd_At G mi h mc ms cs ss (pc + 1) lo (.int x.toInt8.toInt32 :: st) M Q) : pd_At G mi h mc ms cs ss pc lo (.int x :: st) M Q := fun d p e s m args below meth c H locs ls hd F hS hW hl => lv_i2b F.1 F.2.1 hdg rfl (k d p e s m args below meth c H locs ls hd F hS hW hl)
theorem at_i2c {G : pd_G} {mi : pd_MI} {h mc ms cs ss pc : Nat} {lo : List (Option Value)} {st : List Value} {M : pd_M} {Q : pd_O → pd_M → Prop} {x : Int32} (hdg : decode mi.2.1 pc = .ok (.i2c, 1)) (k : pd_At G mi h mc ms cs ss (pc + 1) lo (.int (x.toUInt32 % 65536).toInt32 :: st) M Q) : pd_At G mi h mc ms cs ss pc lo (.int x :: st) M Q := fun d p e s m args below meth c H locs ls hd F hS hW hl => lv_i2c F.1 F.2.1 hdg rfl (k d p e s m args below meth c H locs ls hd F hS hW hl)
theorem at_lcmp {G : pd_G} {mi : pd_MI} {h mc ms cs ss pc : Nat} {lo : List (Option Value)} {st : List Value} {M : pd_M} {Q : pd_O → pd_M → Prop} {x y : Int64} (hdg : decode mi.2.1 pc = .ok (.lcmp, 1)) (k : pd_At G mi h mc ms cs ss (pc + 1) lo (.int (lg_cmp x y) :: st) M Q) : pd_At G mi h mc ms cs ss pc lo (.long y :: .long x :: st) M Q := fun d p e s m args below meth c H locs ls hd F hS hW hl => W.lcmp F.1 F.2.1 hdg (k d p e s m args below meth c H locs ls hd F hS hW hl)
theorem at_iconst {G : pd_G} {mi : pd_MI} {h mc ms cs ss pc : Nat} {lo : List (Option Value)} {st : List Value} {M : pd_M} {Q : pd_O → pd_M → Prop} {n : Int} {v : Int32} (hdg : decode mi.2.1 pc = .ok (.iconst n, 1)) (hv : Int32.ofInt n = v) (k : pd_At G mi h mc ms cs ss (pc + 1) lo (.int v :: st) M Q) : pd_At G mi h mc ms cs ss pc lo (st) M Q := fun d p e s m args below meth c H locs ls hd F hS hW hl => lv_iconst F.1 F.2.1 hdg hv (k d p e s m args below meth c H locs ls hd F hS hW hl)
theorem at_bipush {G : pd_G} {mi : pd_MI} {h mc ms cs ss pc : Nat} {lo : List (Option Value)} {st : List Value} {M : pd_M} {Q : pd_O → pd_M → Prop} {n : Int} {v : Int32} (hdg : decode mi.2.1 pc = .ok (.bipush n, 2)) (hv : (Int8.ofInt n).toInt32 = v) (k : pd_At G mi h mc ms cs ss (pc + 2) lo (.int v :: st) M Q) : pd_At G mi h mc ms cs ss pc lo (st) M Q := fun d p e s m args below meth c H locs ls hd F hS hW hl => lv_bipush F.1 F.2.1 hdg hv (k d p e s m args below meth c H locs ls hd F hS hW hl)
theorem at_sipush {G : pd_G} {mi : pd_MI} {h mc ms cs ss pc : Nat} {lo : List (Option Value)} {st : List Value} {M : pd_M} {Q : pd_O → pd_M → Prop} {n : Int} {v : Int32} (hdg : decode mi.2.1 pc = .ok (.sipush n, 3)) (hv : (Int16.ofInt n).toInt32 = v) (k : pd_At G mi h mc ms cs ss (pc + 3) lo (.int v :: st) M Q) : pd_At G mi h mc ms cs ss pc lo (st) M Q := fun d p e s m args below meth c H locs ls hd F hS hW hl => lv_sipush F.1 F.2.1 hdg hv (k d p e s m args below meth c H locs ls hd F hS hW hl)
theorem at_lconst {G : pd_G} {mi : pd_MI} {h mc ms cs ss pc : Nat} {lo : List (Option Value)} {st : List Value} {M : pd_M} {Q : pd_O → pd_M → Prop} {n : Fin 2} {v : Int64} (hdg : decode mi.2.1 pc = .ok (.lconst n, 1)) (hv : Int64.ofNat (n : Nat) = v) (k : pd_At G mi h mc ms cs ss (pc + 1) lo (.long v :: st) M Q) : pd_At G mi h mc ms cs ss pc lo (st) M Q := fun d p e s m args below meth c H locs ls hd F hS hW hl => lv_lconst F.1 F.2.1 hdg hv (k d p e s m args below meth c H locs ls hd F hS hW hl)
theorem at_dup {G : pd_G} {mi : pd_MI} {h mc ms cs ss pc : Nat} {lo : List (Option Value)} {st : List Value} {M : pd_M} {Q : pd_O → pd_M → Prop} {v : Value} (hdg : decode mi.2.1 pc = .ok (.dup, 1)) (hv : v.category = 1) (k : pd_At G mi h mc ms cs ss (pc + 1) lo (v :: v :: st) M Q) : pd_At G mi h mc ms cs ss pc lo (v :: st) M Q := fun d p e s m args below meth c H locs ls hd F hS hW hl => lv_dup F.1 F.2.1 hdg hv (k d p e s m args below meth c H locs ls hd F hS hW hl)
theorem at_pop {G : pd_G} {mi : pd_MI} {h mc ms cs ss pc : Nat} {lo : List (Option Value)} {st : List Value} {M : pd_M} {Q : pd_O → pd_M → Prop} {v : Value} (hdg : decode mi.2.1 pc = .ok (.pop, 1)) (hv : v.category = 1) (k : pd_At G mi h mc ms cs ss (pc + 1) lo (st) M Q) : pd_At G mi h mc ms cs ss pc lo (v :: st) M Q := fun d p e s m args below meth c H locs ls hd F hS hW hl => lv_pop F.1 F.2.1 hdg hv (k d p e s m args below meth c H locs ls hd F hS hW hl)
theorem at_dup2 {G : pd_G} {mi : pd_MI} {h mc ms cs ss pc : Nat} {lo : List (Option Value)} {st : List Value} {M : pd_M} {Q : pd_O → pd_M → Prop} {v w : Value} (hdg : decode mi.2.1 pc = .ok (.dup2, 1)) (hv : v.category = 1) (hw : w.category = 1) (k : pd_At G mi h mc ms cs ss (pc + 1) lo (v :: w :: v :: w :: st) M Q) : pd_At G mi h mc ms cs ss pc lo (v :: w :: st) M Q := fun d p e s m args below meth c H locs ls hd F hS hW hl => lv_dup2_11 F.1 F.2.1 hdg hv hw (k d p e s m args below meth c H locs ls hd F hS hW hl)
theorem at_iload_n {G : pd_G} {mi : pd_MI} {h mc ms cs ss pc : Nat} {lo : List (Option Value)} {st : List Value} {M : pd_M} {Q : pd_O → pd_M → Prop} {k : Fin 4} {x : Int32} (hdg : decode mi.2.1 pc = .ok (.iload_n k, 1)) (hg : pd_lg lo (k : Nat) = some (.int x)) (k : pd_At G mi h mc ms cs ss (pc + 1) lo (.int x :: st) M Q) : pd_At G mi h mc ms cs ss pc lo (st) M Q := fun d p e s m args below meth c H locs ls hd F hS hW hl => lv_iload_n F.1 F.2.1 hdg rfl (pd_lv_get hl hg) (k d p e s m args below meth c H locs ls hd F hS hW hl)
theorem at_iload {G : pd_G} {mi : pd_MI} {h mc ms cs ss pc : Nat} {lo : List (Option Value)} {st : List Value} {M : pd_M} {Q : pd_O → pd_M → Prop} {i : Nat} {x : Int32} (hdg : decode mi.2.1 pc = .ok (.iload i, 2)) (hg : pd_lg lo i = some (.int x)) (k : pd_At G mi h mc ms cs ss (pc + 2) lo (.int x :: st) M Q) : pd_At G mi h mc ms cs ss pc lo (st) M Q := fun d p e s m args below meth c H locs ls hd F hS hW hl => lv_iload F.1 F.2.1 hdg (pd_lv_get hl hg) (k d p e s m args below meth c H locs ls hd F hS hW hl)
theorem at_lload_n {G : pd_G} {mi : pd_MI} {h mc ms cs ss pc : Nat} {lo : List (Option Value)} {st : List Value} {M : pd_M} {Q : pd_O → pd_M → Prop} {k : Fin 4} {x : Int64} (hdg : decode mi.2.1 pc = .ok (.lload_n k, 1)) (hg : pd_lg lo (k : Nat) = some (.long x)) (k : pd_At G mi h mc ms cs ss (pc + 1) lo (.long x :: st) M Q) : pd_At G mi h mc ms cs ss pc lo (st) M Q := fun d p e s m args below meth c H locs ls hd F hS hW hl => lv_lload_n F.1 F.2.1 hdg rfl (pd_lv_get hl hg) (k d p e s m args below meth c H locs ls hd F hS hW hl)
theorem at_lload {G : pd_G} {mi : pd_MI} {h mc ms cs ss pc : Nat} {lo : List (Option Value)} {st : List Value} {M : pd_M} {Q : pd_O → pd_M → Prop} {i : Nat} {x : Int64} (hdg : decode mi.2.1 pc = .ok (.lload i, 2)) (hg : pd_lg lo i = some (.long x)) (k : pd_At G mi h mc ms cs ss (pc + 2) lo (.long x :: st) M Q) : pd_At G mi h mc ms cs ss pc lo (st) M Q := fun d p e s m args below meth c H locs ls hd F hS hW hl => lv_lload F.1 F.2.1 hdg (pd_lv_get hl hg) (k d p e s m args below meth c H locs ls hd F hS hW hl)
theorem at_aload_n {G : pd_G} {mi : pd_MI} {h mc ms cs ss pc : Nat} {lo : List (Option Value)} {st : List Value} {M : pd_M} {Q : pd_O → pd_M → Prop} {k : Fin 4} {x : Nat} (hdg : decode mi.2.1 pc = .ok (.aload_n k, 1)) (hg : pd_lg lo (k : Nat) = some (.ref x)) (k : pd_At G mi h mc ms cs ss (pc + 1) lo (.ref x :: st) M Q) : pd_At G mi h mc ms cs ss pc lo (st) M Q := fun d p e s m args below meth c H locs ls hd F hS hW hl => lv_aload_n F.1 F.2.1 hdg rfl (pd_lv_get hl hg) (k d p e s m args below meth c H locs ls hd F hS hW hl)
theorem at_aload {G : pd_G} {mi : pd_MI} {h mc ms cs ss pc : Nat} {lo : List (Option Value)} {st : List Value} {M : pd_M} {Q : pd_O → pd_M → Prop} {i : Nat} {x : Nat} (hdg : decode mi.2.1 pc = .ok (.aload i, 2)) (hg : pd_lg lo i = some (.ref x)) (k : pd_At G mi h mc ms cs ss (pc + 2) lo (.ref x :: st) M Q) : pd_At G mi h mc ms cs ss pc lo (st) M Q := fun d p e s m args below meth c H locs ls hd F hS hW hl => lv_aload F.1 F.2.1 hdg (pd_lv_get hl hg) (k d p e s m args below meth c H locs ls hd F hS hW hl)
theorem at_istore_n {G : pd_G} {mi : pd_MI} {h mc ms cs ss pc : Nat} {lo : List (Option Value)} {st : List Value} {M : pd_M} {Q : pd_O → pd_M → Prop} {k : Fin 4} {x : Int32} (hdg : decode mi.2.1 pc = .ok (.istore_n k, 1)) (hk : pd_o1 lo (k : Nat) = true) (hn : (k : Nat) < mi.2.2.1) (k : pd_At G mi h mc ms cs ss (pc + 1) (pd_ls lo (k : Nat) (some (.int x))) st M Q) : pd_At G mi h mc ms cs ss pc lo (.int x :: st) M Q := fun d p e s m args below meth c H locs ls hd F hS hW hl => lv_istore_n F.1 F.2.1 hdg rfl hl hn rfl (fun ls' hl' => k d p e s m args below meth c H locs ls' hd F hS hW (pd_lv_set1 hk hl'))
theorem at_istore {G : pd_G} {mi : pd_MI} {h mc ms cs ss pc : Nat} {lo : List (Option Value)} {st : List Value} {M : pd_M} {Q : pd_O → pd_M → Prop} {i : Nat} {x : Int32} (hdg : decode mi.2.1 pc = .ok (.istore i, 2)) (hk : pd_o1 lo i = true) (hn : i < mi.2.2.1) (k : pd_At G mi h mc ms cs ss (pc + 2) (pd_ls lo i (some (.int x))) st M Q) : pd_At G mi h mc ms cs ss pc lo (.int x :: st) M Q := fun d p e s m args below meth c H locs ls hd F hS hW hl => lv_istore F.1 F.2.1 hdg hl hn rfl (fun ls' hl' => k d p e s m args below meth c H locs ls' hd F hS hW (pd_lv_set1 hk hl'))
theorem at_astore_n {G : pd_G} {mi : pd_MI} {h mc ms cs ss pc : Nat} {lo : List (Option Value)} {st : List Value} {M : pd_M} {Q : pd_O → pd_M → Prop} {k : Fin 4} {x : Nat} (hdg : decode mi.2.1 pc = .ok (.astore_n k, 1)) (hk : pd_o1 lo (k : Nat) = true) (hn : (k : Nat) < mi.2.2.1) (k : pd_At G mi h mc ms cs ss (pc + 1) (pd_ls lo (k : Nat) (some (.ref x))) st M Q) : pd_At G mi h mc ms cs ss pc lo (.ref x :: st) M Q := fun d p e s m args below meth c H locs ls hd F hS hW hl => lv_astore_n F.1 F.2.1 hdg rfl hl hn rfl (fun ls' hl' => k d p e s m args below meth c H locs ls' hd F hS hW (pd_lv_set1 hk hl'))
theorem at_astore {G : pd_G} {mi : pd_MI} {h mc ms cs ss pc : Nat} {lo : List (Option Value)} {st : List Value} {M : pd_M} {Q : pd_O → pd_M → Prop} {i : Nat} {x : Nat} (hdg : decode mi.2.1 pc = .ok (.astore i, 2)) (hk : pd_o1 lo i = true) (hn : i < mi.2.2.1) (k : pd_At G mi h mc ms cs ss (pc + 2) (pd_ls lo i (some (.ref x))) st M Q) : pd_At G mi h mc ms cs ss pc lo (.ref x :: st) M Q := fun d p e s m args below meth c H locs ls hd F hS hW hl => lv_astore F.1 F.2.1 hdg hl hn rfl (fun ls' hl' => k d p e s m args below meth c H locs ls' hd F hS hW (pd_lv_set1 hk hl'))
theorem at_lstore_n {G : pd_G} {mi : pd_MI} {h mc ms cs ss pc : Nat} {lo : List (Option Value)} {st : List Value} {M : pd_M} {Q : pd_O → pd_M → Prop} {k : Fin 4} {x : Int64} (hdg : decode mi.2.1 pc = .ok (.lstore_n k, 1)) (hk : pd_o1 lo (k : Nat) = true) (hn : (k : Nat) + 1 < mi.2.2.1) (k : pd_At G mi h mc ms cs ss (pc + 1) (pd_ls (pd_ls lo (k : Nat) (some (.long x))) ((k : Nat) + 1) none) st M Q) : pd_At G mi h mc ms cs ss pc lo (.long x :: st) M Q := fun d p e s m args below meth c H locs ls hd F hS hW hl => lv_lstore_n F.1 F.2.1 hdg rfl hl hn rfl (fun ls' hl' => k d p e s m args below meth c H locs ls' hd F hS hW (pd_lv_set2 hk hl'))
theorem at_lstore {G : pd_G} {mi : pd_MI} {h mc ms cs ss pc : Nat} {lo : List (Option Value)} {st : List Value} {M : pd_M} {Q : pd_O → pd_M → Prop} {i : Nat} {x : Int64} (hdg : decode mi.2.1 pc = .ok (.lstore i, 2)) (hk : pd_o1 lo i = true) (hn : i + 1 < mi.2.2.1) (k : pd_At G mi h mc ms cs ss (pc + 2) (pd_ls (pd_ls lo i (some (.long x))) (i + 1) none) st M Q) : pd_At G mi h mc ms cs ss pc lo (.long x :: st) M Q := fun d p e s m args below meth c H locs ls hd F hS hW hl => lv_lstore F.1 F.2.1 hdg hl hn rfl (fun ls' hl' => k d p e s m args below meth c H locs ls' hd F hS hW (pd_lv_set2 hk hl'))
theorem at_iinc {G : pd_G} {mi : pd_MI} {h mc ms cs ss pc : Nat} {lo : List (Option Value)} {st : List Value} {M : pd_M} {Q : pd_O → pd_M → Prop} {i : Nat} {n : Int} {x v : Int32} (hdg : decode mi.2.1 pc = .ok (.iinc i n, 3)) (hg : pd_lg lo i = some (.int x)) (hv : x + Int32.ofInt n = v) (hk : pd_o1 lo i = true) (hn : i < mi.2.2.1) (k : pd_At G mi h mc ms cs ss (pc + 3) (pd_ls lo i (some (.int v))) st M Q) : pd_At G mi h mc ms cs ss pc lo st M Q := fun d p e s m args below meth c H locs ls hd F hS hW hl => by
  have hm := pd_as_lg lo 0 i _ hg
  rw [Nat.zero_add] at hm
  obtain ⟨j, hj⟩ := List.getElem?_of_mem hm
  exact lv_iinc F.1 F.2.1 hdg hl hj hv hn rfl (fun ls' hl' => k d p e s m args below meth c H locs ls' hd F hS hW (pd_lv_set1 hk hl'))
/-- a local that is no longer asked -/
theorem at_drop {G : pd_G} {mi : pd_MI} {h mc ms cs ss pc : Nat} {lo : List (Option Value)} {st : List Value} {M : pd_M} {Q : pd_O → pd_M → Prop} (i : Nat) (k : pd_At G mi h mc ms cs ss pc (pd_ls lo i none) st M Q) : pd_At G mi h mc ms cs ss pc lo st M Q := fun d p e s m args below meth c H locs ls hd F hS hW hl => k d p e s m args below meth c H locs ls hd F hS hW ⟨hl.1, hl.2.1, fun q hq => by
  obtain ⟨-, hg⟩ := pd_as_of _ 0 q hq
  rw [Nat.sub_zero] at hg
  by_cases hi : q.1 = i
  · rw [hi] at hg
    rcases pd_lg_ls_at lo i none with e | e <;> rw [e] at hg <;> cases hg
  · rw [pd_lg_ls_ne lo i q.1 _ hi] at hg
    have := pd_as_lg lo 0 q.1 q.2 hg
    rw [Nat.zero_add] at this
    exact hl.2.2 q this⟩
theorem at_goto {G : pd_G} {mi : pd_MI} {h mc ms cs ss pc : Nat} {lo : List (Option Value)} {st : List Value} {M : pd_M} {Q : pd_O → pd_M → Prop} {off : Int} {tgt : Nat} (hdg : decode mi.2.1 pc = .ok (.goto off, 3)) (ht : (pc : Int) + off = (tgt : Int)) (k : pd_At G mi h mc ms cs ss tgt lo st M Q) : pd_At G mi h mc ms cs ss pc lo st M Q := fun d p e s m args below meth c H locs ls hd F hS hW hl => lv_goto F.1 F.2.1 hdg ht (k d p e s m args below meth c H locs ls hd F hS hW hl)
theorem at_ifeq {G : pd_G} {mi : pd_MI} {h mc ms cs ss pc : Nat} {lo : List (Option Value)} {st : List Value} {M : pd_M} {Q : pd_O → pd_M → Prop} {x : Int32} {off : Int} {tgt : Nat} (hdg : decode mi.2.1 pc = .ok (.ifCond .eq off, 3)) (ht : (pc : Int) + off = (tgt : Int)) (kt : x = 0 → pd_At G mi h mc ms cs ss tgt lo st M Q) (kf : ¬ x = 0 → pd_At G mi h mc ms cs ss (pc + 3) lo st M Q) : pd_At G mi h mc ms cs ss pc lo (.int x :: st) M Q := fun d p e s m args below meth c H locs ls hd F hS hW hl => lv_if_eq F.1 F.2.1 hdg ht (fun q => kt q d p e s m args below meth c H locs ls hd F hS hW hl) (fun q => kf q d p e s m args below meth c H locs ls hd F hS hW hl)
theorem at_icmpeq {G : pd_G} {mi : pd_MI} {h mc ms cs ss pc : Nat} {lo : List (Option Value)} {st : List Value} {M : pd_M} {Q : pd_O → pd_M → Prop} {x y : Int32} {off : Int} {tgt : Nat} (hdg : decode mi.2.1 pc = .ok (.if_icmp .eq off, 3)) (ht : (pc : Int) + off = (tgt : Int)) (kt : x = y → pd_At G mi h mc ms cs ss tgt lo st M Q) (kf : ¬ x = y → pd_At G mi h mc ms cs ss (pc + 3) lo st M Q) : pd_At G mi h mc ms cs ss pc lo (.int y :: .int x :: st) M Q := fun d p e s m args below meth c H locs ls hd F hS hW hl => lv_icmp_eq F.1 F.2.1 hdg ht (fun q => kt q d p e s m args below meth c H locs ls hd F hS hW hl) (fun q => kf q d p e s m args below meth c H locs ls hd F hS hW hl)
theorem at_ifne {G : pd_G} {mi : pd_MI} {h mc ms cs ss pc : Nat} {lo : List (Option Value)} {st : List Value} {M : pd_M} {Q : pd_O → pd_M → Prop} {x : Int32} {off : Int} {tgt : Nat} (hdg : decode mi.2.1 pc = .ok (.ifCond .ne off, 3)) (ht : (pc : Int) + off = (tgt : Int)) (kt : ¬ x = 0 → pd_At G mi h mc ms cs ss tgt lo st M Q) (kf : x = 0 → pd_At G mi h mc ms cs ss (pc + 3) lo st M Q) : pd_At G mi h mc ms cs ss pc lo (.int x :: st) M Q := fun d p e s m args below meth c H locs ls hd F hS hW hl => lv_if_ne F.1 F.2.1 hdg ht (fun q => kt q d p e s m args below meth c H locs ls hd F hS hW hl) (fun q => kf q d p e s m args below meth c H locs ls hd F hS hW hl)
theorem at_icmpne {G : pd_G} {mi : pd_MI} {h mc ms cs ss pc : Nat} {lo : List (Option Value)} {st : List Value} {M : pd_M} {Q : pd_O → pd_M → Prop} {x y : Int32} {off : Int} {tgt : Nat} (hdg : decode mi.2.1 pc = .ok (.if_icmp .ne off, 3)) (ht : (pc : Int) + off = (tgt : Int)) (kt : ¬ x = y → pd_At G mi h mc ms cs ss tgt lo st M Q) (kf : x = y → pd_At G mi h mc ms cs ss (pc + 3) lo st M Q) : pd_At G mi h mc ms cs ss pc lo (.int y :: .int x :: st) M Q := fun d p e s m args below meth c H locs ls hd F hS hW hl => lv_icmp_ne F.1 F.2.1 hdg ht (fun q => kt q d p e s m args below meth c H locs ls hd F hS hW hl) (fun q => kf q d p e s m args below meth c H locs ls hd F hS hW hl)
theorem at_iflt {G : pd_G} {mi : pd_MI} {h mc ms cs ss pc : Nat} {lo : List (Option Value)} {st : List Value} {M : pd_M} {Q : pd_O → pd_M → Prop} {x : Int32} {off : Int} {tgt : Nat} (hdg : decode mi.2.1 pc = .ok (.ifCond .lt off, 3)) (ht : (pc : Int) + off = (tgt : Int)) (kt : x < 0 → pd_At G mi h mc ms cs ss tgt lo st M Q) (kf : ¬ x < 0 → pd_At G mi h mc ms cs ss (pc + 3) lo st M Q) : pd_At G mi h mc ms cs ss pc lo (.int x :: st) M Q := fun d p e s m args below meth c H locs ls hd F hS hW hl => lv_if_lt F.1 F.2.1 hdg ht (fun q => kt q d p e s m args below meth c H locs ls hd F hS hW hl) (fun q => kf q d p e s m args below meth c H locs ls hd F hS hW hl)
theorem at_icmplt {G : pd_G} {mi : pd_MI} {h mc ms cs ss pc : Nat} {lo : List (Option Value)} {st : List Value} {M : pd_M} {Q : pd_O → pd_M → Prop} {x y : Int32} {off : Int} {tgt : Nat} (hdg : decode mi.2.1 pc = .ok (.if_icmp .lt off, 3)) (ht : (pc : Int) + off = (tgt : Int)) (kt : x < y → pd_At G mi h mc ms cs ss tgt lo st M Q) (kf : ¬ x < y → pd_At G mi h mc ms cs ss (pc + 3) lo st M Q) : pd_At G mi h mc ms cs ss pc lo (.int y :: .int x :: st) M Q := fun d p e s m args below meth c H locs ls hd F hS hW hl => lv_icmp_lt F.1 F.2.1 hdg ht (fun q => kt q d p e s m args below meth c H locs ls hd F hS hW hl) (fun q => kf q d p e s m args below meth c H locs ls hd F hS hW hl)
theorem at_ifge {G : pd_G} {mi : pd_MI} {h mc ms cs ss pc : Nat} {lo : List (Option Value)} {st : List Value} {M : pd_M} {Q : pd_O → pd_M → Prop} {x : Int32} {off : Int} {tgt : Nat} (hdg : decode mi.2.1 pc = .ok (.ifCond .ge off, 3)) (ht : (pc : Int) + off = (tgt : Int)) (kt : 0 ≤ x → pd_At G mi h mc ms cs ss tgt lo st M Q) (kf : ¬ 0 ≤ x → pd_At G mi h mc ms cs ss (pc + 3) lo st M Q) : pd_At G mi h mc ms cs ss pc lo (.int x :: st) M Q := fun d p e s m args below meth c H locs ls hd F hS hW hl => lv_if_ge F.1 F.2.1 hdg ht (fun q => kt q d p e s m args below meth c H locs ls hd F hS hW hl) (fun q => kf q d p e s m args below meth c H locs ls hd F hS hW hl)
theorem at_icmpge {G : pd_G} {mi : pd_MI} {h mc ms cs ss pc : Nat} {lo : List (Option Value)} {st : List Value} {M : pd_M} {Q : pd_O → pd_M → Prop} {x y : Int32} {off : Int} {tgt : Nat} (hdg : decode mi.2.1 pc = .ok (.if_icmp .ge off, 3)) (ht : (pc : Int) + off = (tgt : Int)) (kt : y ≤ x → pd_At G mi h mc ms cs ss tgt lo st M Q) (kf : ¬ y ≤ x → pd_At G mi h mc ms cs ss (pc + 3) lo st M Q) : pd_At G mi h mc ms cs ss pc lo (.int y :: .int x :: st) M Q := fun d p e s m args below meth c H locs ls hd F hS hW hl => lv_icmp_ge F.1 F.2.1 hdg ht (fun q => kt q d p e s m args below meth c H locs ls hd F hS hW hl) (fun q => kf q d p e s m args below meth c H locs ls hd F hS hW hl)
theorem at_ifgt {G : pd_G} {mi : pd_MI} {h mc ms cs ss pc : Nat} {lo : List (Option Value)} {st : List Value} {M : pd_M} {Q : pd_O → pd_M → Prop} {x : Int32} {off : Int} {tgt : Nat} (hdg : decode mi.2.1 pc = .ok (.ifCond .gt off, 3)) (ht : (pc : Int) + off = (tgt : Int)) (kt : 0 < x → pd_At G mi h mc ms cs ss tgt lo st M Q) (kf : ¬ 0 < x → pd_At G mi h mc ms cs ss (pc + 3) lo st M Q) : pd_At G mi h mc ms cs ss pc lo (.int x :: st) M Q := fun d p e s m args below meth c H locs ls hd F hS hW hl => lv_if_gt F.1 F.2.1 hdg ht (fun q => kt q d p e s m args below meth c H locs ls hd F hS hW hl) (fun q => kf q d p e s m args below meth c H locs ls hd F hS hW hl)
theorem at_icmpgt {G : pd_G} {mi : pd_MI} {h mc ms cs ss pc : Nat} {lo : List (Option Value)} {st : List Value} {M : pd_M} {Q : pd_O → pd_M → Prop} {x y : Int32} {off : Int} {tgt : Nat} (hdg : decode mi.2.1 pc = .ok (.if_icmp .gt off, 3)) (ht : (pc : Int) + off = (tgt : Int)) (kt : y < x → pd_At G mi h mc ms cs ss tgt lo st M Q) (kf : ¬ y < x → pd_At G mi h mc ms cs ss (pc + 3) lo st M Q) : pd_At G mi h mc ms cs ss pc lo (.int y :: .int x :: st) M Q := fun d p e s m args below meth c H locs ls hd F hS hW hl => lv_icmp_gt F.1 F.2.1 hdg ht (fun q => kt q d p e s m args below meth c H locs ls hd F hS hW hl) (fun q => kf q d p e s m args below meth c H locs ls hd F hS hW hl)
theorem at_ifle {G : pd_G} {mi : pd_MI} {h mc ms cs ss pc : Nat} {lo : List (Option Value)} {st : List Value} {M : pd_M} {Q : pd_O → pd_M → Prop} {x : Int32} {off : Int} {tgt : Nat} (hdg : decode mi.2.1 pc = .ok (.ifCond .le off, 3)) (ht : (pc : Int) + off = (tgt : Int)) (kt : x ≤ 0 → pd_At G mi h mc ms cs ss tgt lo st M Q) (kf : ¬ x ≤ 0 → pd_At G mi h mc ms cs ss (pc + 3) lo st M Q) : pd_At G mi h mc ms cs ss pc lo (.int x :: st) M Q := fun d p e s m args below meth c H locs ls hd F hS hW hl => lv_if_le F.1 F.2.1 hdg ht (fun q => kt q d p e s m args below meth c H locs ls hd F hS hW hl) (fun q => kf q d p e s m args below meth c H locs ls hd F hS hW hl)
theorem at_icmple {G : pd_G} {mi : pd_MI} {h mc ms cs ss pc : Nat} {lo : List (Option Value)} {st : List Value} {M : pd_M} {Q : pd_O → pd_M → Prop} {x y : Int32} {off : Int} {tgt : Nat} (hdg : decode mi.2.1 pc = .ok (.if_icmp .le off, 3)) (ht : (pc : Int) + off = (tgt : Int)) (kt : x ≤ y → pd_At G mi h mc ms cs ss tgt lo st M Q) (kf : ¬ x ≤ y → pd_At G mi h mc ms cs ss (pc + 3) lo st M Q) : pd_At G mi h mc ms cs ss pc lo (.int y :: .int x :: st) M Q := fun d p e s m args below meth c H locs ls hd F hS hW hl => lv_icmp_le F.1 F.2.1 hdg ht (fun q => kt q d p e s m args below meth c H locs ls hd F hS hW hl) (fun q => kf q d p e s m args below meth c H locs ls hd F hS hW hl)
theorem pd_tb {w : Cond} {i : Nat} (h : lw_tbl[i]? = some w) (hg : goodWord w = true) : w ∈ pd_TB := List.mem_filter.mpr ⟨List.mem_of_getElem? h, hg⟩
theorem at_ldc {G : pd_G} {mi : pd_MI} {h mc ms cs ss pc : Nat} {lo : List (Option Value)} {st : List Value} {M : pd_M} {Q : pd_O → pd_M → Prop} {index : Nat} {v : Int32} (hw : Cond.constant mi.1.cls index v ∈ pd_TB) (hdg : decode mi.2.1 pc = .ok (.ldc index, 2)) (k : pd_At G mi h mc ms cs ss (pc + 2) lo (.int v :: st) M Q) : pd_At G mi h mc ms cs ss pc lo st M Q := fun d p e s m args below meth c H locs ls hd F hS hW hl => lv_ldc F.1 F.2.1 F.2.2.2.2.1 (F.2.2.2.2.2.1 _ hw) hdg (k d p e s m args below meth c H locs ls hd F hS hW hl)
theorem at_ldcw {G : pd_G} {mi : pd_MI} {h mc ms cs ss pc : Nat} {lo : List (Option Value)} {st : List Value} {M : pd_M} {Q : pd_O → pd_M → Prop} {index : Nat} {v : Int32} (hw : Cond.constant mi.1.cls index v ∈ pd_TB) (hdg : decode mi.2.1 pc = .ok (.ldc_w index, 3)) (k : pd_At G mi h mc ms cs ss (pc + 3) lo (.int v :: st) M Q) : pd_At G mi h mc ms cs ss pc lo st M Q := fun d p e s m args below meth c H locs ls hd F hS hW hl => lv_ldcw F.1 F.2.1 F.2.2.2.2.1 (F.2.2.2.2.2.1 _ hw) hdg (k d p e s m args below meth c H locs ls hd F hS hW hl)
theorem at_ldc2 {G : pd_G} {mi : pd_MI} {h mc ms cs ss pc : Nat} {lo : List (Option Value)} {st : List Value} {M : pd_M} {Q : pd_O → pd_M → Prop} {index : Nat} {v : Int64} (hw : Cond.constantLong mi.1.cls index v ∈ pd_TB) (hdg : decode mi.2.1 pc = .ok (.ldc2_w index, 3)) (k : pd_At G mi h mc ms cs ss (pc + 3) lo (.long v :: st) M Q) : pd_At G mi h mc ms cs ss pc lo st M Q := fun d p e s m args below meth c H locs ls hd F hS hW hl => lv_ldc2 F.1 F.2.1 F.2.2.2.2.1 (F.2.2.2.2.2.1 _ hw) hdg (k d p e s m args below meth c H locs ls hd F hS hW hl)
theorem at_tabOut {G : pd_G} {mi : pd_MI} {h mc ms cs ss pc : Nat} {lo : List (Option Value)} {st : List Value} {M : pd_M} {Q : pd_O → pd_M → Prop} {dflt l0 h0 : Int} {offs : Array Int} {len : Nat} {x : Int32} {tgt : Nat} (hdg : decode mi.2.1 pc = .ok (.tableswitch dflt l0 h0 offs, len)) (hx : x.toInt < l0 ∨ h0 < x.toInt) (ht : (pc : Int) + dflt = (tgt : Int)) (k : pd_At G mi h mc ms cs ss tgt lo st M Q) : pd_At G mi h mc ms cs ss pc lo (.int x :: st) M Q := fun d p e s m args below meth c H locs ls hd F hS hW hl => lv_tableOut F.1 F.2.1 hdg hx ht (k d p e s m args below meth c H locs ls hd F hS hW hl)
theorem at_tabIn {G : pd_G} {mi : pd_MI} {h mc ms cs ss pc : Nat} {lo : List (Option Value)} {st : List Value} {M : pd_M} {Q : pd_O → pd_M → Prop} {dflt l0 h0 : Int} {offs : Array Int} {len : Nat} {x : Int32} {off : Int} {tgt : Nat} (hdg : decode mi.2.1 pc = .ok (.tableswitch dflt l0 h0 offs, len)) (h1 : ¬ x.toInt < l0) (h2 : ¬ h0 < x.toInt) (ho : offs[(x.toInt - l0).toNat]? = some off) (ht : (pc : Int) + off = (tgt : Int)) (k : pd_At G mi h mc ms cs ss tgt lo st M Q) : pd_At G mi h mc ms cs ss pc lo (.int x :: st) M Q := fun d p e s m args below meth c H locs ls hd F hS hW hl => lv_tableIn F.1 F.2.1 hdg h1 h2 ho ht (k d p e s m args below meth c H locs ls hd F hS hW hl)
theorem at_lookup {G : pd_G} {mi : pd_MI} {h mc ms cs ss pc : Nat} {lo : List (Option Value)} {st : List Value} {M : pd_M} {Q : pd_O → pd_M → Prop} {dflt : Int} {ps : Array (Int × Int)} {len : Nat} {x : Int32} {off : Int} {tgt : Nat} (hdg : decode mi.2.1 pc = .ok (.lookupswitch dflt ps, len)) (hp : (ps.toList.zip (ps.toList.drop 1)).all (fun (a, next) => a.1 < next.1) = true) (ho : Op.lookupswitch.offset ps.toList dflt x.toInt = off) (ht : (pc : Int) + off = (tgt : Int)) (k : pd_At G mi h mc ms cs ss tgt lo st M Q) : pd_At G mi h mc ms cs ss pc lo (.int x :: st) M Q := fun d p e s m args below meth c H locs ls hd F hS hW hl => lv_lookup F.1 F.2.1 hdg hp ho ht (k d p e s m args below meth c H locs ls hd F hS hW hl)
end
section
/-! ===== fields, arrays, returns ===== -/
def pd_FL (own : String) (idx ci j : Nat) : Prop := ∃ (C : String) (T : u_T) (N : Nat), pd_cl[ci]? = some (C, T, N) ∧ j < N ∧ Cond.fieldLink own idx (T j).1 (T j).2.1 (T j).2.2.1 ∈ pd_TB
/-- what the tables say of each class -/
def pd_CK (q : vw_C) (ty : Nat → FieldType) (lay : List Nat) : Prop := (∀ w ∈ u_ws q.1 q.2.1 q.2.2, w ∈ pd_TB) ∧ (∀ k, k < q.2.2 → parseFieldDescriptor (q.2.1 k).2.2.1 = some (ty k)) ∧ (∀ a, a < q.2.2 → ∀ b, b < q.2.2 → a ≠ b → (q.2.1 a).2.1 ≠ (q.2.1 b).2.1) ∧ lay.length = q.2.2 ∧
  ∀ k, k < q.2.2 → (lay.getD k 9 = 0 ∧ ty k = .int) ∨ (lay.getD k 9 = 1 ∧ ty k = .long) ∨ (lay.getD k 9 = 2 ∧ (ty k).isReference = true)
theorem pd_tbm {ws : List Cond} (h : ws.all (fun w => decide (w ∈ lw_tbl) && goodWord w) = true) : ∀ w ∈ ws, w ∈ pd_TB := fun w hw => by
  have h1 := List.all_eq_true.mp h w hw
  simp only [Bool.and_eq_true, decide_eq_true_eq] at h1
  exact List.mem_filter.mpr h1
set_option maxRecDepth 100000 in
theorem pd_ck0 : pd_CK (RX0, TX0, 2) tyX0 (pd_lay 0) := ⟨pd_tbm (by decide +kernel), tyX0_ok, nmX0, rfl, by decide +kernel⟩
set_option maxRecDepth 100000 in
theorem pd_ck1 : pd_CK (RX1, TX1, 8) tyX1 (pd_lay 1) := ⟨pd_tbm (by decide +kernel), tyX1_ok, nmX1, rfl, by decide +kernel⟩
set_option maxRecDepth 100000 in
theorem pd_ck2 : pd_CK (RX3, TX3, 19) tyX3 (pd_lay 2) := ⟨pd_tbm (by decide +kernel), tyX3_ok, nmX3, rfl, by decide +kernel⟩
set_option maxRecDepth 100000 in
theorem pd_ck3 : pd_CK (RX4, TX4, 2) tyX4 (pd_lay 3) := ⟨pd_tbm (by decide +kernel), tyX4_ok, nmX4, rfl, by decide +kernel⟩
set_option maxRecDepth 100000 in
theorem pd_ck4 : pd_CK (RX5, TX5, 2) tyX5 (pd_lay 4) := ⟨pd_tbm (by decide +kernel), tyX5_ok, nmX5, rfl, by decide +kernel⟩
set_option maxRecDepth 100000 in
theorem pd_ck5 : pd_CK (RX6, TX6, 6) tyX6 (pd_lay 5) := ⟨pd_tbm (by decide +kernel), tyX6_ok, nmX6, rfl, by decide +kernel⟩
set_option maxRecDepth 100000 in
theorem pd_ck6 : pd_CK (RX7, TX7, 6) tyX7 (pd_lay 6) := ⟨pd_tbm (by decide +kernel), tyX7_ok, nmX7, rfl, by decide +kernel⟩
set_option maxRecDepth 100000 in
theorem pd_ck7 : pd_CK (RX8, TX8, 11) tyX8 (pd_lay 7) := ⟨pd_tbm (by decide +kernel), tyX8_ok, nmX8, rfl, by decide +kernel⟩
set_option maxRecDepth 100000 in
theorem pd_ck8 : pd_CK (RX9, TX9, 21) tyX9 (pd_lay 8) := ⟨pd_tbm (by decide +kernel), tyX9_ok, nmX9, rfl, by decide +kernel⟩
theorem pd_ck : ∀ (ci : Nat) (q : vw_C), pd_cl[ci]? = some q → ci < 9 ∧ ∃ ty, pd_CK q ty (pd_lay ci)
  | 0, _, h => by cases h; exact ⟨by decide, _, pd_ck0⟩
  | 1, _, h => by cases h; exact ⟨by decide, _, pd_ck1⟩
  | 2, _, h => by cases h; exact ⟨by decide, _, pd_ck2⟩
  | 3, _, h => by cases h; exact ⟨by decide, _, pd_ck3⟩
  | 4, _, h => by cases h; exact ⟨by decide, _, pd_ck4⟩
  | 5, _, h => by cases h; exact ⟨by decide, _, pd_ck5⟩
  | 6, _, h => by cases h; exact ⟨by decide, _, pd_ck6⟩
  | 7, _, h => by cases h; exact ⟨by decide, _, pd_ck7⟩
  | 8, _, h => by cases h; exact ⟨by decide, _, pd_ck8⟩
  | k + 9, _, h => by simp [pd_cl] at h
theorem pd_ce_obj {z : Nat} {tc : Nat → ClassId} {ci n : Nat} {i l r} (h : ci < 9) : pd_ce z tc (ci, n) i l r = .inr (ci, pd_fs z i l r 0 (pd_lay ci)) := by
  match ci, h with
  | 0, _ => rfl
  | 1, _ => rfl
  | 2, _ => rfl
  | 3, _ => rfl
  | 4, _ => rfl
  | 5, _ => rfl
  | 6, _ => rfl
  | 7, _ => rfl
  | 8, _ => rfl
  | k + 9, h => omega
theorem pd_fs_at {z : Nat} {i : Nat → Int32} {l : Nat → Int64} {r : Nat → Option Nat} {ts : List Nat} {j t : Nat} (h : ts[j]? = some t) : (pd_fs z i l r 0 ts)[j]? = some (pd_v z i l r j t) := by
  rw [pd_fs_get, h]; simp
section PDM
variable {G : pd_G} {mi : pd_MI} {h mc ms cs ss pc : Nat} {lo : List (Option Value)} {st : List Value} {Q : pd_O → pd_M → Prop} {S : List (Nat × Nat)} {fx : Bool} {I : Nat → Nat → Int32} {L : Nat → Nat → Int64} {R : Nat → Nat → Option Nat}
theorem at_get {idx ci j k n t : Nat} (hf : pd_FL mi.1.cls idx ci j) (hl : (pd_lay ci)[j]? = some t) (hs : S[k]? = some (ci, n)) (hdg : decode mi.2.1 pc = .ok (.getfield idx, 3))
    (K : pd_At G mi h mc ms cs ss (pc + 3) lo (pd_v (pd_z G) (I k) (L k) (R k) j t :: st) (S, fx, I, L, R) Q) : pd_At G mi h mc ms cs ss pc lo (.ref (pd_z G + k) :: st) (S, fx, I, L, R) Q := by
  intro d p e s m args below meth c H locs ls hd F hS hW hlv
  obtain ⟨C, T, N, hc, hj, hlk⟩ := hf
  obtain ⟨hci, ty, ck⟩ := pd_ck ci _ hc
  have he := pd_ws_get (G := G) (I := I) (L := L) (R := R) hs
  rw [pd_ce_obj hci] at he
  exact va_get F.1 F.2.1 F.2.2.2.2.2.1 ck.1 F.2.2.2.2.1 F.2.2.2.2.2.2.2.2.2.1 hW.1 k he hc j hj (F.2.2.2.2.2.1 _ hlk) (fun x hx => hx) (pd_fs_at hl) hdg (K d p e s m args below meth c H locs ls hd F hS hW hlv)
theorem at_geti {idx ci j k n : Nat} (hf : pd_FL mi.1.cls idx ci j) (hl : (pd_lay ci)[j]? = some 0) (hs : S[k]? = some (ci, n)) (hdg : decode mi.2.1 pc = .ok (.getfield idx, 3))
    (K : pd_At G mi h mc ms cs ss (pc + 3) lo (.int (I k j) :: st) (S, fx, I, L, R) Q) : pd_At G mi h mc ms cs ss pc lo (.ref (pd_z G + k) :: st) (S, fx, I, L, R) Q := at_get hf hl hs hdg K
theorem at_getl {idx ci j k n : Nat} (hf : pd_FL mi.1.cls idx ci j) (hl : (pd_lay ci)[j]? = some 1) (hs : S[k]? = some (ci, n)) (hdg : decode mi.2.1 pc = .ok (.getfield idx, 3))
    (K : pd_At G mi h mc ms cs ss (pc + 3) lo (.long (L k j) :: st) (S, fx, I, L, R) Q) : pd_At G mi h mc ms cs ss pc lo (.ref (pd_z G + k) :: st) (S, fx, I, L, R) Q := at_get hf hl hs hdg K
theorem at_getr {idx ci j k n : Nat} (q : Nat) (hf : pd_FL mi.1.cls idx ci j) (hl : (pd_lay ci)[j]? = some 2) (hs : S[k]? = some (ci, n)) (hr : R k j = some q) (hdg : decode mi.2.1 pc = .ok (.getfield idx, 3))
    (K : pd_At G mi h mc ms cs ss (pc + 3) lo (.ref (pd_z G + q) :: st) (S, fx, I, L, R) Q) : pd_At G mi h mc ms cs ss pc lo (.ref (pd_z G + k) :: st) (S, fx, I, L, R) Q := at_get hf hl hs hdg (by rw [show pd_v (pd_z G) (I k) (L k) (R k) j 2 = .ref (pd_z G + q) by simp [pd_v, hr, va_rf]]; exact K)
theorem pd_fs_set {z : Nat} {i i' : Nat → Int32} {l l' : Nat → Int64} {r r' : Nat → Option Nat} {ts : List Nat} {j t : Nat} {v : Value} (h : ts[j]? = some t) (hv : v = pd_v z i' l' r' j t) (hI : ∀ a, a ≠ j → i' a = i a) (hL : ∀ a, a ≠ j → l' a = l a) (hR : ∀ a, a ≠ j → r' a = r a) : (pd_fs z i l r 0 ts).set j v = pd_fs z i' l' r' 0 ts := by
  have hj := (List.getElem?_eq_some_iff.mp h).1
  apply List.ext_getElem?
  intro a
  by_cases ha : a = j
  · subst ha
    rw [List.getElem?_set_self (by rw [pd_fs_len]; exact hj), pd_fs_get, h, hv]; simp
  · rw [List.getElem?_set_ne (Ne.symm ha), pd_fs_get, pd_fs_get, Nat.zero_add]
    congr 1
    funext t
    unfold pd_v
    rw [hI a ha, hL a ha, hR a ha]
theorem pd_Wd_set {I' : Nat → Nat → Int32} {L' : Nat → Nat → Int64} {R' : Nat → Nat → Option Nat} {H H1 : Heap} {k : Nat} {x : Nat × Nat} (hW : pd_Wd G (S, fx, I, L, R) H) (hs : S[k]? = some x) (he : va_at G.2.1 pd_cl (pd_z G + k, pd_ce (pd_z G) G.2.2.1 x (I' k) (L' k) (R' k)) H1)
    (hI : ∀ j, j ≠ k → I' j = I j) (hL : ∀ j, j ≠ k → L' j = L j) (hR : ∀ j, j ≠ k → R' j = R j) (e2 : H1.size = H.size) (e3 : ∀ q, q ≠ pd_z G + k → H1[q]? = H[q]?) : pd_Wd G (S, fx, I', L', R') H1 := by
  refine ⟨?_, fun q hq => ?_, ?_, ?_⟩
  · have h1 := va_P.set hW.1 (pd_ws_D G S I L R) (pd_ws_get hs) he e3
    rw [pd_ws_set hs rfl hI hL hR] at h1
    exact h1
  · rw [e3 q (by omega)]; exact hW.2.1 q hq
  · rw [e2]; exact hW.2.2.1
  · rw [e2]; exact hW.2.2.2
/-- a field is written: not final, or in the constructor of its own class -/
theorem at_put {idx ci j k n t : Nat} {v : Value} {I' : Nat → Nat → Int32} {L' : Nat → Nat → Int64} {R' : Nat → Nat → Option Nat} (hf : pd_FL mi.1.cls idx ci j) (hl : (pd_lay ci)[j]? = some t) (hs : S[k]? = some (ci, n))
    (hfin : ∀ C T N, pd_cl[ci]? = some (C, T, N) → (T j).2.2.2 = false ∨ ((T j).2.2.2 = true ∧ mi.1.name = "<init>" ∧ (T j).1 = mi.1.cls)) (hv : v = pd_v (pd_z G) (I' k) (L' k) (R' k) j t)
    (hI : ∀ a b, ¬ (a = k ∧ b = j) → I' a b = I a b) (hL : ∀ a b, ¬ (a = k ∧ b = j) → L' a b = L a b) (hR : ∀ a b, ¬ (a = k ∧ b = j) → R' a b = R a b) (hdg : decode mi.2.1 pc = .ok (.putfield idx, 3))
    (K : pd_At G mi h mc ms cs ss (pc + 3) lo st (S, fx, I', L', R') Q) : pd_At G mi h mc ms cs ss pc lo (v :: .ref (pd_z G + k) :: st) (S, fx, I, L, R) Q := by
  intro d p e s m args below meth c H locs ls hd F hS hW hlv
  obtain ⟨C, T, N, hc, hj, hlk⟩ := hf
  obtain ⟨hci, ty, ck⟩ := pd_ck ci _ hc
  have he := pd_ws_get (G := G) (I := I) (L := L) (R := R) hs
  rw [pd_ce_obj hci] at he
  have hty := ck.2.1 j hj
  have hcase := ck.2.2.2.2 j hj
  have ht : (pd_lay ci).getD j 9 = t := by simp [List.getD_eq_getElem?_getD, hl]
  rw [ht] at hcase
  have hfit : narrow (ty j) v = v ∧ fits (ty j) v = true := by
    rcases hcase with ⟨rfl, e1⟩ | ⟨rfl, e1⟩ | ⟨rfl, e1⟩
    · rw [e1, hv]; exact ⟨rfl, rfl⟩
    · rw [e1, hv]; exact ⟨rfl, rfl⟩
    · have h2 : v = .null ∨ ∃ a, v = .ref a := by
        rw [hv]
        cases hq : R' k j with
        | none => left; simp [pd_v, hq, va_rf]
        | some q => right; exact ⟨pd_z G + q, by simp [pd_v, hq, va_rf]⟩
      generalize ty j = w at e1 ⊢
      cases w <;> first | (simp [FieldType.isReference] at e1; done) | (rcases h2 with h2 | ⟨a, h2⟩ <;> rw [h2] <;> exact ⟨rfl, rfl⟩)
  have hll : j < (pd_fs (pd_z G) (I k) (L k) (R k) 0 (pd_lay ci)).length := by rw [pd_fs_len, ck.2.2.2.1]; exact hj
  have hset : (pd_fs (pd_z G) (I k) (L k) (R k) 0 (pd_lay ci)).set j v = pd_fs (pd_z G) (I' k) (L' k) (R' k) 0 (pd_lay ci) := pd_fs_set hl hv (fun a ha => hI k a (fun q => ha q.2)) (fun a ha => hL k a (fun q => ha q.2)) (fun a ha => hR k a (fun q => ha q.2))
  have hts := F.2.2.2.2.2.1
  have hK := F.2.2.2.2.2.2.2.2.2.1
  have hap := va_apart (own := mi.1.cls) hts ck.1 ty ck.2.1 ck.2.2.1 hK hc
  obtain ⟨r, h1, cell, q1, q2, q3, q4⟩ := hW.1 k _ he
  have hr : r = (C, T, N) := Option.some.inj (h1.symm.trans hc)
  subst hr
  obtain ⟨hS1, hfc, kC, hkC, hkind⟩ := hK.1 ci _ hc
  obtain ⟨cf, kf, fi, f, hi, hsl⟩ := hS1 j hj
  have hlay := hts _ (ck.1 _ (u_in_lay hj))
  unfold u_lay at hlay
  have hst := (u_facts hfc hkC (u_lays hts ck.1 hj) hi).1
  have go : ∀ H1 : Heap, H1[pd_z G + k]? = some (cell.setSlot f.slot v) → H1.size = H.size → (∀ q, q ≠ pd_z G + k → H1[q]? = H[q]?) → W p G.1 e (pd_rm d mc ms) s m args below meth c H1 (locs ++ [⟨pd_z G + k, f.slot⟩]) cs ss (vx_MQ below (pd_Qc G Q) (pd_Xc G Q) args s mc ms (fun q => pd_z G ≤ q)) (F0 m (pc + 3) ls st) := by
    intro H1 e1 e2 e3
    refine K d p e s m args below meth c H1 _ ls hd F (hS.put e2 e3 (Nat.le_add_right _ _)) (pd_Wd_set hW hs ?_ (fun a ha => funext fun b => hI a b (fun q => ha q.1)) (fun a ha => funext fun b => hL a b (fun q => ha q.1)) (fun a ha => funext fun b => hR a b (fun q => ha q.1)) e2 e3) hlv
    rw [pd_ce_obj hci, ← hset]
    rw [hsl] at e1
    exact ⟨_, hc, t_OB.to (V := updV (vp_V (pd_fs (pd_z G) (I k) (L k) (R k) 0 (pd_lay ci))) j v) ⟨_, e1, q2, q3, t_set q4 hap hj v⟩ (fun a _ => vp_updV_set hll v a)⟩
  rcases hfin C T N hc with hf0 | ⟨hf1, hin2, hdecl⟩
  · rw [if_neg (by rw [hf0]; decide)] at hlay
    have h6 := u_store hfc hkC hkind hlay hi hty hfit.1 hfit.2
    exact W.putK F.1 F.2.1 (f := f) ⟨F.2.2.2.2.1, hts _ hlk, ⟨_, _, _, hi⟩, hst⟩ (by rw [q2]; exact h6) q1 q3 (by rw [hsl]; exact k2_hasslot (q4 j hj)) rfl rfl hdg go
  · rw [if_pos hf1] at hlay
    have hcf : m.cls = cf := by
      obtain ⟨_, _, c', _, _, _, -, -, hf', -, -, -, hown2, -⟩ := Cond.laysFinal_spec hlay
      have e1 : c' = cf := by have := hi.symm.trans hf'; simp at this; exact this.1.symm
      rw [hdecl] at hown2
      rw [← e1]; exact Option.some.inj (F.2.2.2.2.1.symm.trans hown2)
    have h6 := u_fits hfc hkC hkind (Or.inr hlay) hi hty hfit.1 hfit.2
    exact W.putFinK F.1 F.2.1 F.2.2.2.2.1 (hts _ hlk) hi hst hcf (F.2.2.2.2.2.2.2.2.2.2.2.1.trans hin2) (by rw [q2]; exact h6) q1 q3 (by rw [hsl]; exact k2_hasslot (q4 j hj)) rfl rfl hdg go
theorem at_puti {idx ci j k n : Nat} {v : Int32} (hf : pd_FL mi.1.cls idx ci j) (hl : (pd_lay ci)[j]? = some 0) (hs : S[k]? = some (ci, n)) (hfin : ∀ C T N, pd_cl[ci]? = some (C, T, N) → (T j).2.2.2 = false) (hdg : decode mi.2.1 pc = .ok (.putfield idx, 3))
    (K : pd_At G mi h mc ms cs ss (pc + 3) lo st (S, fx, pd_up I k j v, L, R) Q) : pd_At G mi h mc ms cs ss pc lo (.int v :: .ref (pd_z G + k) :: st) (S, fx, I, L, R) Q :=
  at_put hf hl hs (fun C T N hc => Or.inl (hfin C T N hc)) (by simp [pd_v, pd_up]) (fun a b hq => by simp [pd_up, hq]) (fun _ _ _ => rfl) (fun _ _ _ => rfl) hdg K
theorem at_putl {idx ci j k n : Nat} {v : Int64} (hf : pd_FL mi.1.cls idx ci j) (hl : (pd_lay ci)[j]? = some 1) (hs : S[k]? = some (ci, n)) (hfin : ∀ C T N, pd_cl[ci]? = some (C, T, N) → (T j).2.2.2 = false) (hdg : decode mi.2.1 pc = .ok (.putfield idx, 3))
    (K : pd_At G mi h mc ms cs ss (pc + 3) lo st (S, fx, I, pd_up L k j v, R) Q) : pd_At G mi h mc ms cs ss pc lo (.long v :: .ref (pd_z G + k) :: st) (S, fx, I, L, R) Q :=
  at_put hf hl hs (fun C T N hc => Or.inl (hfin C T N hc)) (by simp [pd_v, pd_up]) (fun _ _ _ => rfl) (fun a b hq => by simp [pd_up, hq]) (fun _ _ _ => rfl) hdg K
theorem at_putr {idx ci j k n q : Nat} (hf : pd_FL mi.1.cls idx ci j) (hl : (pd_lay ci)[j]? = some 2) (hs : S[k]? = some (ci, n)) (hfin : ∀ C T N, pd_cl[ci]? = some (C, T, N) → (T j).2.2.2 = false ∨ ((T j).2.2.2 = true ∧ mi.1.name = "<init>" ∧ (T j).1 = mi.1.cls)) (hdg : decode mi.2.1 pc = .ok (.putfield idx, 3))
    (K : pd_At G mi h mc ms cs ss (pc + 3) lo st (S, fx, I, L, pd_up R k j (some q)) Q) : pd_At G mi h mc ms cs ss pc lo (.ref (pd_z G + q) :: .ref (pd_z G + k) :: st) (S, fx, I, L, R) Q :=
  at_put hf hl hs hfin (by simp [pd_v, pd_up, va_rf]) (fun _ _ _ => rfl) (fun _ _ _ => rfl) (fun a b hq => by simp [pd_up, hq]) hdg K
/-! arrays: kind 9 int, 10 byte, 11 long, 12 Petition, 13 int[] -/
theorem at_iald {k n : Nat} {i : Int32} (hs : S[k]? = some (9, n)) (hin : vp_in i n) (hdg : decode mi.2.1 pc = .ok (.iaload, 1)) (K : pd_At G mi h mc ms cs ss (pc + 1) lo (.int (I k i.toNatClampNeg) :: st) (S, fx, I, L, R) Q) : pd_At G mi h mc ms cs ss pc lo (.int i :: .ref (pd_z G + k) :: st) (S, fx, I, L, R) Q := by
  intro d p e s m args below meth c H locs ls hd F hS hW hlv
  exact va_iald F.1 F.2.1 F.2.2.2.2.2.2.2.2.2.1 hW.1 k 0 (pd_ws_get hs) rfl hin hdg (K d p e s m args below meth c H locs ls hd F hS hW hlv)
theorem at_bald {k n : Nat} {i : Int32} (hs : S[k]? = some (10, n)) (hin : vp_in i n) (hdg : decode mi.2.1 pc = .ok (.baload, 1)) (K : pd_At G mi h mc ms cs ss (pc + 1) lo (.int (I k i.toNatClampNeg) :: st) (S, fx, I, L, R) Q) : pd_At G mi h mc ms cs ss pc lo (.int i :: .ref (pd_z G + k) :: st) (S, fx, I, L, R) Q := by
  intro d p e s m args below meth c H locs ls hd F hS hW hlv
  exact va_bald F.1 F.2.1 F.2.2.2.2.2.2.2.2.2.1 hW.1 k 1 (pd_ws_get hs) rfl hin hdg (K d p e s m args below meth c H locs ls hd F hS hW hlv)
theorem at_lald {k n : Nat} {i : Int32} (hs : S[k]? = some (11, n)) (hin : vp_in i n) (hdg : decode mi.2.1 pc = .ok (.laload, 1)) (K : pd_At G mi h mc ms cs ss (pc + 1) lo (.long (L k i.toNatClampNeg) :: st) (S, fx, I, L, R) Q) : pd_At G mi h mc ms cs ss pc lo (.int i :: .ref (pd_z G + k) :: st) (S, fx, I, L, R) Q := by
  intro d p e s m args below meth c H locs ls hd F hS hW hlv
  exact va_lald F.1 F.2.1 F.2.2.2.2.2.2.2.2.2.1 hW.1 k 2 (pd_ws_get hs) rfl hin hdg (K d p e s m args below meth c H locs ls hd F hS hW hlv)
theorem at_aald {k n : Nat} {i : Int32} (q : Nat) (hs : S[k]? = some (12, n)) (hin : vp_in i n) (hr : R k i.toNatClampNeg = some q) (hdg : decode mi.2.1 pc = .ok (.aaload, 1)) (K : pd_At G mi h mc ms cs ss (pc + 1) lo (.ref (pd_z G + q) :: st) (S, fx, I, L, R) Q) : pd_At G mi h mc ms cs ss pc lo (.int i :: .ref (pd_z G + k) :: st) (S, fx, I, L, R) Q := by
  intro d p e s m args below meth c H locs ls hd F hS hW hlv
  have hlt : i.toNatClampNeg < n := Nat.not_le.mp fun q => hin (Or.inr q)
  exact W.aald (v := .ref (pd_z G + q)) (ty := .object "PetitionDesk$Petition") F.1 F.2.1 (hW.1 k _ (pd_ws_get hs)) ((F.2.2.2.2.2.2.2.2.2.1.2 3 _ rfl).1 n (fun j => va_rf (pd_rr (pd_z G) (R k) j))) rfl (fun q => by cases q) (by show ¬ (i < 0 ∨ (arrV _ _ _).slots.size ≤ _); rw [arrV_size]; exact hin) (by show (arrV _ _ _).slots[_]? = _; rw [arrV_read _ _ hlt]; simp [pd_rr, hr, va_rf]) rfl rfl hdg (K d p e s m args below meth c H locs ls hd F hS hW hlv)
theorem at_aald2 {k n : Nat} {i : Int32} (q : Nat) (hs : S[k]? = some (13, n)) (hin : vp_in i n) (hr : R k i.toNatClampNeg = some q) (hdg : decode mi.2.1 pc = .ok (.aaload, 1)) (K : pd_At G mi h mc ms cs ss (pc + 1) lo (.ref (pd_z G + q) :: st) (S, fx, I, L, R) Q) : pd_At G mi h mc ms cs ss pc lo (.int i :: .ref (pd_z G + k) :: st) (S, fx, I, L, R) Q := by
  intro d p e s m args below meth c H locs ls hd F hS hW hlv
  have hlt : i.toNatClampNeg < n := Nat.not_le.mp fun q => hin (Or.inr q)
  exact W.aald (v := .ref (pd_z G + q)) (ty := .array .int) F.1 F.2.1 (hW.1 k _ (pd_ws_get hs)) ((F.2.2.2.2.2.2.2.2.2.1.2 4 _ rfl).1 n (fun j => va_rf (pd_rr (pd_z G) (R k) j))) rfl (fun q => by cases q) (by show ¬ (i < 0 ∨ (arrV _ _ _).slots.size ≤ _); rw [arrV_size]; exact hin) (by show (arrV _ _ _).slots[_]? = _; rw [arrV_read _ _ hlt]; simp [pd_rr, hr, va_rf]) rfl rfl hdg (K d p e s m args below meth c H locs ls hd F hS hW hlv)
theorem at_alen {k t n : Nat} {v : Int32} (hs : S[k]? = some (t, n)) (ht : 9 ≤ t ∧ t < 14) (hv : Int32.ofNat n = v) (hdg : decode mi.2.1 pc = .ok (.arraylength, 1)) (K : pd_At G mi h mc ms cs ss (pc + 1) lo (.int v :: st) (S, fx, I, L, R) Q) : pd_At G mi h mc ms cs ss pc lo (.ref (pd_z G + k) :: st) (S, fx, I, L, R) Q := by
  intro d p e s m args below meth c H locs ls hd F hS hW hlv
  have hk := K d p e s m args below meth c H locs ls hd F hS hW hlv
  have hKk := F.2.2.2.2.2.2.2.2.2.1
  rcases (show t = 9 ∨ t = 10 ∨ t = 11 ∨ t = 12 ∨ t = 13 by omega) with rfl | rfl | rfl | rfl | rfl
  · exact va_alen F.1 F.2.1 hKk hW.1 k 0 (pd_ws_get hs) rfl hv hdg hk
  · exact va_alen F.1 F.2.1 hKk hW.1 k 1 (pd_ws_get hs) rfl hv hdg hk
  · exact va_alen F.1 F.2.1 hKk hW.1 k 2 (pd_ws_get hs) rfl hv hdg hk
  · exact va_alen F.1 F.2.1 hKk hW.1 k 3 (pd_ws_get hs) rfl hv hdg hk
  · exact va_alen F.1 F.2.1 hKk hW.1 k 4 (pd_ws_get hs) rfl hv hdg hk
theorem at_iast {k n : Nat} {i x : Int32} (hs : S[k]? = some (9, n)) (hin : vp_in i n) (hdg : decode mi.2.1 pc = .ok (.iastore, 1)) (K : pd_At G mi h mc ms cs ss (pc + 1) lo st (S, fx, pd_up I k i.toNatClampNeg x, L, R) Q) : pd_At G mi h mc ms cs ss pc lo (.int x :: .int i :: .ref (pd_z G + k) :: st) (S, fx, I, L, R) Q := by
  intro d p e s m args below meth c H locs ls hd F hS hW hlv
  refine W.iast F.1 F.2.1 (hW.1 k _ (pd_ws_get hs)) ((F.2.2.2.2.2.2.2.2.2.1.2 0 _ rfl).1 n (fun j => .int (I k j))) (fun q => by cases q) (by show ¬ (i < 0 ∨ (arrV _ _ _).slots.size ≤ _); rw [arrV_size]; exact hin) rfl rfl hdg fun H1 e1 z oq => ?_
  refine K d p e s m args below meth c H1 _ ls hd F (hS.put z oq (Nat.le_add_right _ _)) (pd_Wd_set hW hs ?_ (fun a ha => pd_up_ne ha) (fun _ _ => rfl) (fun _ _ => rfl) z oq) hlv
  show H1[pd_z G + k]? = some (vp_cell _ _)
  rw [e1]
  rw [vp_cell_i, vp_cell_i, arrV_store]
  congr 2
  funext q
  by_cases hq : q = i.toNatClampNeg
  · subst hq
    simp [updV, pd_up]
  · simp [updV, pd_up, hq]
theorem at_bast {k n : Nat} {i x : Int32} (hs : S[k]? = some (10, n)) (hin : vp_in i n) (hdg : decode mi.2.1 pc = .ok (.bastore, 1)) (K : pd_At G mi h mc ms cs ss (pc + 1) lo st (S, fx, pd_up I k i.toNatClampNeg x.toInt8.toInt32, L, R) Q) : pd_At G mi h mc ms cs ss pc lo (.int x :: .int i :: .ref (pd_z G + k) :: st) (S, fx, I, L, R) Q := by
  intro d p e s m args below meth c H locs ls hd F hS hW hlv
  refine W.bast F.1 F.2.1 (hW.1 k _ (pd_ws_get hs)) ((F.2.2.2.2.2.2.2.2.2.1.2 1 _ rfl).1 n (fun j => .int (I k j))) (fun q => by cases q) (by show ¬ (i < 0 ∨ (arrV _ _ _).slots.size ≤ _); rw [arrV_size]; exact hin) rfl rfl hdg fun H1 e1 z oq => ?_
  refine K d p e s m args below meth c H1 _ ls hd F (hS.put z oq (Nat.le_add_right _ _)) (pd_Wd_set hW hs ?_ (fun a ha => pd_up_ne ha) (fun _ _ => rfl) (fun _ _ => rfl) z oq) hlv
  show H1[pd_z G + k]? = some (vp_cell _ _)
  rw [e1]
  rw [vp_cell_i, vp_cell_i, arrV_store]
  congr 2
  funext q
  by_cases hq : q = i.toNatClampNeg
  · subst hq
    simp [updV, pd_up, narrow]
  · simp [updV, pd_up, hq]
theorem at_last {k n : Nat} {i : Int32} {x : Int64} (hs : S[k]? = some (11, n)) (hin : vp_in i n) (hdg : decode mi.2.1 pc = .ok (.lastore, 1)) (K : pd_At G mi h mc ms cs ss (pc + 1) lo st (S, fx, I, pd_up L k i.toNatClampNeg x, R) Q) : pd_At G mi h mc ms cs ss pc lo (.long x :: .int i :: .ref (pd_z G + k) :: st) (S, fx, I, L, R) Q := by
  intro d p e s m args below meth c H locs ls hd F hS hW hlv
  refine W.last F.1 F.2.1 (hW.1 k _ (pd_ws_get hs)) ((F.2.2.2.2.2.2.2.2.2.1.2 2 _ rfl).1 n (fun j => .long (L k j))) (fun q => by cases q) (by show ¬ (i < 0 ∨ (arrV _ _ _).slots.size ≤ _); rw [arrV_size]; exact hin) rfl rfl hdg fun H1 e1 z oq => ?_
  refine K d p e s m args below meth c H1 _ ls hd F (hS.put z oq (Nat.le_add_right _ _)) (pd_Wd_set hW hs ?_ (fun _ _ => rfl) (fun a ha => pd_up_ne ha) (fun _ _ => rfl) z oq) hlv
  show H1[pd_z G + k]? = some (vp_cell _ _)
  rw [e1]
  rw [vp_cell_l, vp_cell_l, arrV_store]
  congr 2
  funext q
  by_cases hq : q = i.toNatClampNeg
  · subst hq
    simp [updV, pd_up]
  · simp [updV, pd_up, hq]
end PDM
end
section
/-! ===== returns, calls, throws ===== -/
/-- q is thrown at pc, its class is E -/
def pd_Xt (G : pd_G) (mi : pd_MI) (h mc ms cs ss pc : Nat) (lo : List (Option Value)) (st : List Value) (M : pd_M) (Q : pd_O → pd_M → Prop) (E : String) : Prop :=
  ∀ (d : Nat) (p : Program) (e : Env) (s : State) (m : MethodId) (args : Array Value) (below : List Frame) (meth : Method) (c : Code) (H : Heap) (locs : List Loc) (ls : Array Slot) (q : Addr) (ce : Cell),
    h ≤ d → pd_Fr G mi p s m args meth c → va_S (fun q => pd_z G ≤ q) s.heap H locs → pd_Wd G M H → lv_has ls mi.2.2.1 (pd_as 0 lo) → H[q]? = some ce → ce.vm = .none → s.vm.findClass E = some ce.cls →
    vx_W p G.1 e (pd_rm d mc ms) s m args below meth c H locs cs ss (vx_MQ below (pd_Qc G Q) (pd_Xc G Q) args s mc ms (fun q => pd_z G ≤ q)) (F0 m pc ls st) q
/-- behind a call that ended with o -/
def pd_Kc (G : pd_G) (mi : pd_MI) (h mc ms cs ss pc : Nat) (lo : List (Option Value)) (st : List Value) (Q : pd_O → pd_M → Prop) (o : pd_O) (M : pd_M) : Prop := match o with
  | .inl none => pd_At G mi h mc ms cs ss (pc + 3) lo st M Q
  | .inl (some v) => pd_At G mi h mc ms cs ss (pc + 3) lo (v :: st) M Q
  | .inr E => pd_Xt G mi h mc ms cs ss pc lo st M Q E
def pd_rt (v : Value) (M : pd_M) : pd_O → pd_M → Prop := fun o M' => o = .inl (some v) ∧ M' = M
def pd_rv (M : pd_M) : pd_O → pd_M → Prop := fun o M' => o = .inl none ∧ M' = M
section PDC
variable {G : pd_G} {mi : pd_MI} {h mc ms cs ss pc : Nat} {lo : List (Option Value)} {st : List Value} {M : pd_M} {Q : pd_O → pd_M → Prop}
theorem pd_k1 {v : Value} {M2 : pd_M} (K : pd_At G mi h mc ms cs ss (pc + 3) lo (v :: st) M2 Q) : ∀ o M', pd_rt v M2 o M' → pd_Kc G mi h mc ms cs ss pc lo st Q o M' := fun o M' hq => by
  obtain ⟨rfl, rfl⟩ := hq; exact K
theorem pd_k0 {M2 : pd_M} (K : pd_At G mi h mc ms cs ss (pc + 3) lo st M2 Q) : ∀ o M', pd_rv M2 o M' → pd_Kc G mi h mc ms cs ss pc lo st Q o M' := fun o M' hq => by
  obtain ⟨rfl, rfl⟩ := hq; exact K
theorem pd_Qc_of {H : Heap} {s t : State} {args : Array Value} {r : Option Value} (hq : Q (.inl r) M) (hW : pd_Wd G M H) (hs : s.heap.size ≤ H.size) (ht : t.heap = H) : pd_Qc G Q args s (.returned r) t := ⟨r, M, rfl, hq, by rw [ht]; exact hW, by rw [ht]; exact hs⟩
theorem at_iret {v : Int32} (hr : mi.2.2.2.1 = some .int) (hdg : decode mi.2.1 pc = .ok (.ireturn, 1)) (hq : Q (.inl (some (.int v))) M) (hc : cs ≤ mc := by first | exact Nat.le_refl _ | omega) (hs : ss ≤ ms := by first | exact Nat.le_refl _ | omega) : pd_At G mi h mc ms cs ss pc lo [.int v] M Q := fun d p e s m args below meth c H locs ls hd F hS hW hl =>
  vx_ret (W.widen hc hs (W.iret F.1 F.2.1 (F.2.2.1.trans hr) (fun t ht _ => pd_Qc_of hq hW hS.1 ht) hS.2.2 hdg F.2.2.2.2.2.2.1))
theorem at_zret {v : Int32} (hr : mi.2.2.2.1 = some .boolean) (hdg : decode mi.2.1 pc = .ok (.ireturn, 1)) (hv : v = 0 ∨ v = 1) (hq : Q (.inl (some (.int v))) M) (hc : cs ≤ mc := by first | exact Nat.le_refl _ | omega) (hs : ss ≤ ms := by first | exact Nat.le_refl _ | omega) : pd_At G mi h mc ms cs ss pc lo [.int v] M Q := fun d p e s m args below meth c H locs ls hd F hS hW hl =>
  vx_ret (W.widen hc hs (W.zret F.1 F.2.1 (F.2.2.1.trans hr) (by rcases hv with rfl | rfl <;> decide) (fun t ht _ => pd_Qc_of hq hW hS.1 ht) hS.2.2 hdg F.2.2.2.2.2.2.1))
theorem at_lret {v : Int64} (hr : mi.2.2.2.1 = some .long) (hdg : decode mi.2.1 pc = .ok (.lreturn, 1)) (hq : Q (.inl (some (.long v))) M) (hc : cs ≤ mc := by first | exact Nat.le_refl _ | omega) (hs : ss ≤ ms := by first | exact Nat.le_refl _ | omega) : pd_At G mi h mc ms cs ss pc lo [.long v] M Q := fun d p e s m args below meth c H locs ls hd F hS hW hl =>
  vx_ret (W.widen hc hs (W.lret F.1 F.2.1 (F.2.2.1.trans hr) (fun t ht _ => pd_Qc_of hq hW hS.1 ht) hS.2.2 hdg F.2.2.2.2.2.2.1))
theorem at_vret (hr : mi.2.2.2.1 = none) (hdg : decode mi.2.1 pc = .ok (.return_, 1)) (hq : Q (.inl none) M) (hc : cs ≤ mc := by first | exact Nat.le_refl _ | omega) (hs : ss ≤ ms := by first | exact Nat.le_refl _ | omega) : pd_At G mi h mc ms cs ss pc lo [] M Q := fun d p e s m args below meth c H locs ls hd F hS hW hl =>
  vx_ret (W.widen hc hs (W.vret F.1 F.2.1 (F.2.2.1.trans hr) (fun t ht _ => pd_Qc_of hq hW hS.1 ht) hS.2.2 hdg F.2.2.2.2.2.2.1))
theorem at_aret {a : Nat} {rt : FieldType} (hr : mi.2.2.2.1 = some rt) (hrt : (∃ n, rt = .object n) ∨ ∃ t, rt = .array t) (hdg : decode mi.2.1 pc = .ok (.areturn, 1)) (hq : Q (.inl (some (.ref a))) M) (hc : cs ≤ mc := by first | exact Nat.le_refl _ | omega) (hs : ss ≤ ms := by first | exact Nat.le_refl _ | omega) : pd_At G mi h mc ms cs ss pc lo [.ref a] M Q := fun d p e s m args below meth c H locs ls hd F hS hW hl =>
  vx_ret (W.widen hc hs (W.aret F.1 F.2.1 (F.2.2.1.trans hr) hrt (Or.inr ⟨a, rfl⟩) (fun t ht _ => pd_Qc_of hq hW hS.1 ht) hS.2.2 hdg F.2.2.2.2.2.2.1))
/-- it leaves the method -/
theorem at_out {E : String} (hout : mi.2.2.2.2 = []) (hq : Q (.inr E) M) (hc : cs ≤ mc := by first | exact Nat.le_refl _ | omega) (hs : ss ≤ ms := by first | exact Nat.le_refl _ | omega) : pd_Xt G mi h mc ms cs ss pc lo st M Q E := fun d p e s m args below meth c H locs ls q ce hd F hS hW hl hce hcv hcl =>
  vx_out (by rw [F.2.2.2.2.2.2.2.2.2.2.1, hout]; intro x hx; cases hx) F.2.2.2.2.2.2.1 hce hcv hcl (fun t ht _ => ⟨M, hq, by rw [ht]; exact hW, by rw [ht]; exact hS.1⟩) hS.2.2 hc hs
/-- the words of a call -/
def pd_CB (mi' : pd_MI) (n : Nat) : Prop := pd_hd mi' ∈ pd_TB ∧ Cond.initialized mi'.1.cls ∈ pd_TB ∧ (mi'.1.cls ≠ "java/lang/invoke/MethodHandle" ∧ mi'.1.cls ≠ "java/lang/invoke/VarHandle") ∧ (parseMethodDescriptor mi'.1.desc).map (fun d => d.parameters.length) = some n ∧ mi'.2.2.1 ≤ 80 ∧ mi'.2.2.2.2 = []
theorem pd_good {mi' : pd_MI} (h1 : pd_hd mi' ∈ pd_TB) : ∀ w ∈ pd_hd mi' :: pd_TB, w ∈ pd_TB ∧ ((w.onTables && w.keeps) = true ∨ ∃ ty, w = .arrayClass ty) := fun w hw => by
  have hm : w ∈ pd_TB := (List.mem_cons.mp hw).elim (fun e => by rw [e]; exact h1) id
  exact ⟨hm, good_of_word (List.mem_filter.mp hm).2⟩
theorem pd_callB {mi' : pd_MI} {n d mc' ms' : Nat} {R : Room} {s : State} {args : Array Value} {own : String} {idx : Nat} (hc : pd_CB mi' n) (hts : ∀ w ∈ pd_TB, w.before args s = true) (hl : Cond.methodLink own idx mi'.1 ∈ pd_TB) (hf : d + 1 ≤ R.frames) (hlo : 100 * (d + 1) ≤ R.locals) :
    CallB R s args own idx mi'.1 mi'.2.1 mi'.2.2.1 mi'.2.2.2.1 (pd_hd mi' :: pd_TB) (pd_rm d mc' ms') mc' ms' n := by
  have hhd : pd_hd mi' = .code mi'.1 mi'.2.1 mi'.2.2.1 mi'.2.2.2.1 := by unfold pd_hd; rw [hc.2.2.2.2.2]
  refine ⟨rfl, rfl, hf, ?_, pay_in hts (pd_good hc.1), by rw [hhd]; exact List.mem_cons_self, by rw [← hhd]; exact hts _ hc.1, hts _ hc.2.1, hc.2.2.1, fun sig hsig => ?_, hts _ hl⟩
  · have h1 := hc.2.2.2.2.1
    show 8 + (mi'.2.2.1 + 11) + 100 * d ≤ R.locals
    omega
  · have h2 := hc.2.2.2.1
    rw [hsig] at h2
    exact (Option.some.inj h2).symm
theorem pd_blind (av : List Value) (M : pd_M) : FrameBlind (pd_Pc G av M) := fun a U g mk q => q
theorem pd_vS {H H1 : Heap} {s : State} {locs L : List Loc} {M : pd_M} (hS : va_S (fun q => pd_z G ≤ q) s.heap H locs) (hs : ∀ q, q < pd_z G → s.heap[q]? = G.2.2.2.1.heap[q]?) (hz : H.size ≤ H1.size) (hW : pd_Wd G M H1) (hL : ∀ q ∈ L, pd_z G ≤ q.base) : va_S (fun q => pd_z G ≤ q) s.heap H1 (locs ++ L) :=
  ⟨Nat.le_trans hS.1 hz, fun q h1 h2 => (hW.2.1 q (Nat.not_le.mp h2)).trans (hs q (Nat.not_le.mp h2)).symm, fun q hq => (List.mem_append.mp hq).elim (hS.2.2 q) (hL q)⟩
/-- what a call's run gives -/
theorem pd_run {d mc' ms' : Nat} {p : Program} {e : Env} {s : State} {m : MethodId} {args : Array Value} {below : List Frame} {meth : Method} {c : Code} {H : Heap} {locs : List Loc} {ls : Array Slot} {st0 : List Value} {a : Array Value} {Q' : pd_O → pd_M → Prop} (hd : h ≤ d) (F : pd_Fr G mi p s m args meth c) (hS : va_S (fun q => pd_z G ≤ q) s.heap H locs) (hl : lv_has ls mi.2.2.1 (pd_as 0 lo))
    (hr : vx_Run p G.1 e (pd_rm d mc ms) s m args below meth c H locs cs ss mc' ms' (F0 m pc ls st0) st (pd_Qc G Q' a) (pd_Xc G Q') (fun q => pd_z G ≤ q)) (K : ∀ o M', Q' o M' → pd_Kc G mi h mc ms (cs + mc') (ss + ms') pc lo st Q o M') :
    W p G.1 e (pd_rm d mc ms) s m args below meth c H locs cs ss (vx_MQ below (pd_Qc G Q) (pd_Xc G Q) args s mc ms (fun q => pd_z G ≤ q)) (F0 m pc ls st0) := by
  have hbase := F.2.2.2.2.2.2.2.2.2.2.2.2.2
  intro T hT X
  rcases hr T hT X with ⟨v, st₀, t, T', L, h0, X', hL, e1, e2, ⟨r, M', hv, hQ, hWd, hz⟩, stp⟩ | ⟨q, st₀, t, T', L, E, ce, h0, X', hL, e1, e2, ⟨M', hQ, hWd, hz⟩, hce, hcv, hcl, stp⟩
  · cases hv
    rw [h0] at hz
    rw [← e1] at hWd hz
    have hS' := pd_vS hS hbase hz hWd hL
    have K1 := K _ _ hQ
    cases v with
    | none =>
      obtain ⟨t2, a1, b1⟩ := K1 d p e s m args below meth c T'.heap (locs ++ L) ls hd F hS' hWd hl T' rfl X'
      exact ⟨t2, stp t2 a1, b1⟩
    | some v =>
      obtain ⟨t2, a1, b1⟩ := K1 d p e s m args below meth c T'.heap (locs ++ L) ls hd F hS' hWd hl T' rfl X'
      exact ⟨t2, stp t2 a1, b1⟩
  · rw [h0] at hz
    rw [← e1] at hWd hz hce
    have hS' := pd_vS hS hbase hz hWd hL
    obtain ⟨t2, a1, b1⟩ := K _ _ hQ d p e s m args below meth c T'.heap (locs ++ L) ls q ce hd F hS' hWd hl hce hcv hcl T' rfl X'
    exact ⟨t2, stp.trans a1, b1⟩
def pd_CV (own : String) (idx : Nat) (mi' : pd_MI) (n ci : Nat) : Prop := pd_CB mi' n ∧ Cond.methodLink own idx mi'.1 ∈ pd_TB ∧ Cond.instanceMethod mi'.1 ∈ pd_TB ∧ Cond.selects mi'.1.cls mi'.1 mi'.1 ∈ pd_TB ∧ ∃ q : vw_C, pd_cl[ci]? = some q ∧ q.1 = mi'.1.cls ∧ ci < 9
theorem at_callV {mi' : pd_MI} {h' mc' ms' idx n ci k n0 : Nat} {As : List Value} {S : List (Nat × Nat)} {fx : Bool} {I L R} {Q' : pd_O → pd_M → Prop} (hc : pd_CV mi.1.cls idx mi' n ci) (hn : As.length = n) (hs : S[k]? = some (ci, n0)) (hE : pd_Ev G mi' h' mc' ms' (.ref (pd_z G + k) :: As) (S, fx, I, L, R) Q') (hh : h' + 1 ≤ h) (hb : cs + mc' ≤ mc ∧ ss + ms' ≤ ms) (hst : (st.map fun v => v.category).sum ≤ 8) (hdg : decode mi.2.1 pc = .ok (.invokevirtual idx, 3))
    (K : ∀ o M', Q' o M' → pd_Kc G mi h mc ms (cs + mc') (ss + ms') pc lo st Q o M') : pd_At G mi h mc ms cs ss pc lo (As.reverse ++ .ref (pd_z G + k) :: st) (S, fx, I, L, R) Q := by
  intro d p e s m args below meth c H locs ls hd F hS hW hl
  obtain ⟨hcb, hlk, hin, hse, q, hq1, hq2, hq3⟩ := hc
  have hts := F.2.2.2.2.2.1
  have he := pd_ws_get (G := G) (I := I) (L := L) (R := R) hs
  rw [pd_ce_obj hq3] at he
  have hrecv := va_recv F.2.2.2.2.2.2.2.2.2.1 hW.1 hq1 he
  rw [hq2] at hrecv
  refine pd_run (mc' := mc') (ms' := ms') hd F hS hl (vx_runV ⟨F.1, F.2.1, F.2.2.2.1, F.2.2.2.2.1, hts⟩ (hE (d - 1) (by omega)) ⟨pd_callB hcb hts hlk (by show d - 1 + 1 ≤ d; omega) (by show 100 * (d - 1 + 1) ≤ 100 * d; omega), hts _ hin, hts _ hse⟩ ⟨pd_blind _ _, hrecv, fun U hU hWm => ⟨rfl, F.2.2.2.2.2.2.2.1, State.WarmedH.trans F.2.2.2.2.2.2.2.2.1 hWm, by rw [hU]; exact hW⟩⟩ rfl hn hl.1 rfl (lv_room hst) hdg hb) K
def pd_CS (own : String) (idx : Nat) (mi' : pd_MI) (n : Nat) : Prop := pd_CB mi' n ∧ Cond.methodLink own idx mi'.1 ∈ pd_TB ∧ Cond.static mi'.1 ∈ pd_TB
theorem at_callS {mi' : pd_MI} {h' mc' ms' idx n : Nat} {As : List Value} {Q' : pd_O → pd_M → Prop} (hc : pd_CS mi.1.cls idx mi' n) (hn : As.length = n) (hE : pd_Ev G mi' h' mc' ms' As M Q') (hh : h' + 1 ≤ h) (hb : cs + mc' ≤ mc ∧ ss + ms' ≤ ms) (hst : (st.map fun v => v.category).sum ≤ 8) (hdg : decode mi.2.1 pc = .ok (.invokestatic idx, 3))
    (K : ∀ o M', Q' o M' → pd_Kc G mi h mc ms (cs + mc') (ss + ms') pc lo st Q o M') : pd_At G mi h mc ms cs ss pc lo (As.reverse ++ st) M Q := by
  intro d p e s m args below meth c H locs ls hd F hS hW hl
  obtain ⟨hcb, hlk, hstt⟩ := hc
  have hts := F.2.2.2.2.2.1
  refine pd_run (mc' := mc') (ms' := ms') hd F hS hl (vx_runS ⟨F.1, F.2.1, F.2.2.2.1, F.2.2.2.2.1, hts⟩ (hE (d - 1) (by omega)) ⟨pd_callB hcb hts hlk (by show d - 1 + 1 ≤ d; omega) (by show 100 * (d - 1 + 1) ≤ 100 * d; omega), hts _ hstt⟩ ⟨pd_blind _ _, fun U hU hWm => ⟨rfl, F.2.2.2.2.2.2.2.1, State.WarmedH.trans F.2.2.2.2.2.2.2.2.1 hWm, by rw [hU]; exact hW⟩⟩ rfl hn hl.1 rfl (lv_room hst) hdg hb) K
end PDC
end
