section
-- ===== PART A: goes FIRST, ahead of the names: the tables' words, and 'selects' of the private methods out of them =====
/-- a private method of a class that the tables say can be made, by its rows of tables_1 -/
def lw_okq (q : MethodName × Nat) : Prop := (q.1.cls ≠ "java/lang/invoke/MethodHandle" ∧ q.1.cls ≠ "java/lang/invoke/VarHandle") ∧ Cond.instantiable q.1.cls q.2 ∈ tables_1 ∧ Cond.privateMethod q.1 ∈ tables_1 ∧ Cond.instanceMethod q.1 ∈ tables_1
theorem lw_p0 : lw_okq (⟨"PetitionDesk$Judgement", "findVoters", "(LPetitionDesk$Petition;)V"⟩, 8) := ⟨⟨by decide +kernel, by decide +kernel⟩, List.mem_of_getElem? (i := 225) (by decide +kernel), List.mem_of_getElem? (i := 341) (by decide +kernel), List.mem_of_getElem? (i := 342) (by decide +kernel)⟩
theorem lw_p1 : lw_okq (⟨"PetitionDesk$Judgement", "findWrongs", "(LPetitionDesk$Petition;)V"⟩, 8) := ⟨⟨by decide +kernel, by decide +kernel⟩, List.mem_of_getElem? (i := 225) (by decide +kernel), List.mem_of_getElem? (i := 349) (by decide +kernel), List.mem_of_getElem? (i := 350) (by decide +kernel)⟩
theorem lw_p2 : lw_okq (⟨"PetitionDesk$Judgement", "wrongOf", "(LPetitionDesk$Petition;II)I"⟩, 8) := ⟨⟨by decide +kernel, by decide +kernel⟩, List.mem_of_getElem? (i := 225) (by decide +kernel), List.mem_of_getElem? (i := 356) (by decide +kernel), List.mem_of_getElem? (i := 357) (by decide +kernel)⟩
theorem lw_p3 : lw_okq (⟨"PetitionDesk$Judgement", "hasVoter", "(I)Z"⟩, 8) := ⟨⟨by decide +kernel, by decide +kernel⟩, List.mem_of_getElem? (i := 225) (by decide +kernel), List.mem_of_getElem? (i := 360) (by decide +kernel), List.mem_of_getElem? (i := 361) (by decide +kernel)⟩
theorem lw_p4 : lw_okq (⟨"PetitionDesk$Judgement", "strikeSheets", "(LPetitionDesk$Petition;)V"⟩, 8) := ⟨⟨by decide +kernel, by decide +kernel⟩, List.mem_of_getElem? (i := 225) (by decide +kernel), List.mem_of_getElem? (i := 375) (by decide +kernel), List.mem_of_getElem? (i := 376) (by decide +kernel)⟩
theorem lw_p5 : lw_okq (⟨"PetitionDesk$Judgement", "findDoubles", "()V"⟩, 8) := ⟨⟨by decide +kernel, by decide +kernel⟩, List.mem_of_getElem? (i := 225) (by decide +kernel), List.mem_of_getElem? (i := 379) (by decide +kernel), List.mem_of_getElem? (i := 380) (by decide +kernel)⟩
theorem lw_p6 : lw_okq (⟨"PetitionDesk", "verdictOf", "(II)I"⟩, 11) := ⟨⟨by decide +kernel, by decide +kernel⟩, List.mem_of_getElem? (i := 27) (by decide +kernel), List.mem_of_getElem? (i := 395) (by decide +kernel), List.mem_of_getElem? (i := 396) (by decide +kernel)⟩
theorem lw_p7 : lw_okq (⟨"PetitionDesk$Chances", "waysWithMarked", "(IIIII)J"⟩, 2) := ⟨⟨by decide +kernel, by decide +kernel⟩, List.mem_of_getElem? (i := 260) (by decide +kernel), List.mem_of_getElem? (i := 408) (by decide +kernel), List.mem_of_getElem? (i := 409) (by decide +kernel)⟩
theorem lw_p8 : lw_okq (⟨"PetitionDesk", "requireArgument", "(Z)V"⟩, 11) := ⟨⟨by decide +kernel, by decide +kernel⟩, List.mem_of_getElem? (i := 27) (by decide +kernel), List.mem_of_getElem? (i := 436) (by decide +kernel), List.mem_of_getElem? (i := 437) (by decide +kernel)⟩
theorem lw_p9 : lw_okq (⟨"java/lang/Throwable", "fillInStackTrace", "(I)Ljava/lang/Throwable;"⟩, 6) := ⟨⟨by decide +kernel, by decide +kernel⟩, List.mem_of_getElem? (i := 478) (by decide +kernel), List.mem_of_getElem? (i := 476) (by decide +kernel), List.mem_of_getElem? (i := 477) (by decide +kernel)⟩
theorem lw_p10 : lw_okq (⟨"PetitionDesk$Tokens", "isLetter", "(I)Z"⟩, 6) := ⟨⟨by decide +kernel, by decide +kernel⟩, List.mem_of_getElem? (i := 41) (by decide +kernel), List.mem_of_getElem? (i := 517) (by decide +kernel), List.mem_of_getElem? (i := 518) (by decide +kernel)⟩
theorem lw_p11 : lw_okq (⟨"PetitionDesk$Tokens", "byteAt", "(I)I"⟩, 6) := ⟨⟨by decide +kernel, by decide +kernel⟩, List.mem_of_getElem? (i := 41) (by decide +kernel), List.mem_of_getElem? (i := 521) (by decide +kernel), List.mem_of_getElem? (i := 522) (by decide +kernel)⟩
theorem lw_p12 : lw_okq (⟨"PetitionDesk$Tokens", "kindOfWord", "(I)I"⟩, 6) := ⟨⟨by decide +kernel, by decide +kernel⟩, List.mem_of_getElem? (i := 41) (by decide +kernel), List.mem_of_getElem? (i := 525) (by decide +kernel), List.mem_of_getElem? (i := 526) (by decide +kernel)⟩
theorem lw_p13 : lw_okq (⟨"PetitionDesk$Tokens", "nameAt", "(I)I"⟩, 6) := ⟨⟨by decide +kernel, by decide +kernel⟩, List.mem_of_getElem? (i := 41) (by decide +kernel), List.mem_of_getElem? (i := 578) (by decide +kernel), List.mem_of_getElem? (i := 579) (by decide +kernel)⟩
theorem lw_p14 : lw_okq (⟨"PetitionDesk$Tokens", "add", "(III)V"⟩, 6) := ⟨⟨by decide +kernel, by decide +kernel⟩, List.mem_of_getElem? (i := 41) (by decide +kernel), List.mem_of_getElem? (i := 585) (by decide +kernel), List.mem_of_getElem? (i := 586) (by decide +kernel)⟩
theorem lw_p15 : lw_okq (⟨"PetitionDesk$Tokens", "isDigit", "(I)Z"⟩, 6) := ⟨⟨by decide +kernel, by decide +kernel⟩, List.mem_of_getElem? (i := 41) (by decide +kernel), List.mem_of_getElem? (i := 589) (by decide +kernel), List.mem_of_getElem? (i := 590) (by decide +kernel)⟩
def lw_privs_1 : List (MethodName × Nat) := [(⟨"PetitionDesk$Judgement", "findVoters", "(LPetitionDesk$Petition;)V"⟩, 8), (⟨"PetitionDesk$Judgement", "findWrongs", "(LPetitionDesk$Petition;)V"⟩, 8), (⟨"PetitionDesk$Judgement", "wrongOf", "(LPetitionDesk$Petition;II)I"⟩, 8), (⟨"PetitionDesk$Judgement", "hasVoter", "(I)Z"⟩, 8), (⟨"PetitionDesk$Judgement", "strikeSheets", "(LPetitionDesk$Petition;)V"⟩, 8), (⟨"PetitionDesk$Judgement", "findDoubles", "()V"⟩, 8), (⟨"PetitionDesk", "verdictOf", "(II)I"⟩, 11), (⟨"PetitionDesk$Chances", "waysWithMarked", "(IIIII)J"⟩, 2), (⟨"PetitionDesk", "requireArgument", "(Z)V"⟩, 11), (⟨"java/lang/Throwable", "fillInStackTrace", "(I)Ljava/lang/Throwable;"⟩, 6), (⟨"PetitionDesk$Tokens", "isLetter", "(I)Z"⟩, 6), (⟨"PetitionDesk$Tokens", "byteAt", "(I)I"⟩, 6), (⟨"PetitionDesk$Tokens", "kindOfWord", "(I)I"⟩, 6), (⟨"PetitionDesk$Tokens", "nameAt", "(I)I"⟩, 6), (⟨"PetitionDesk$Tokens", "add", "(III)V"⟩, 6), (⟨"PetitionDesk$Tokens", "isDigit", "(I)Z"⟩, 6)]
theorem lw_r1 : ∀ q ∈ lw_privs_1, lw_okq q := List.forall_mem_cons.mpr ⟨lw_p0, List.forall_mem_cons.mpr ⟨lw_p1, List.forall_mem_cons.mpr ⟨lw_p2, List.forall_mem_cons.mpr ⟨lw_p3, List.forall_mem_cons.mpr ⟨lw_p4, List.forall_mem_cons.mpr ⟨lw_p5, List.forall_mem_cons.mpr ⟨lw_p6, List.forall_mem_cons.mpr ⟨lw_p7, List.forall_mem_cons.mpr ⟨lw_p8, List.forall_mem_cons.mpr ⟨lw_p9, List.forall_mem_cons.mpr ⟨lw_p10, List.forall_mem_cons.mpr ⟨lw_p11, List.forall_mem_cons.mpr ⟨lw_p12, List.forall_mem_cons.mpr ⟨lw_p13, List.forall_mem_cons.mpr ⟨lw_p14, List.forall_mem_cons.mpr ⟨lw_p15, fun _ h => absurd h List.not_mem_nil⟩⟩⟩⟩⟩⟩⟩⟩⟩⟩⟩⟩⟩⟩⟩⟩
theorem lw_p16 : lw_okq (⟨"PetitionDesk$Tokens", "numberAt", "(I)I"⟩, 6) := ⟨⟨by decide +kernel, by decide +kernel⟩, List.mem_of_getElem? (i := 41) (by decide +kernel), List.mem_of_getElem? (i := 593) (by decide +kernel), List.mem_of_getElem? (i := 594) (by decide +kernel)⟩
theorem lw_p17 : lw_okq (⟨"PetitionDesk$TextReader", "kind", "()I"⟩, 6) := ⟨⟨by decide +kernel, by decide +kernel⟩, List.mem_of_getElem? (i := 35) (by decide +kernel), List.mem_of_getElem? (i := 605) (by decide +kernel), List.mem_of_getElem? (i := 606) (by decide +kernel)⟩
theorem lw_p18 : lw_okq (⟨"PetitionDesk$TextReader", "readTold", "()Z"⟩, 6) := ⟨⟨by decide +kernel, by decide +kernel⟩, List.mem_of_getElem? (i := 35) (by decide +kernel), List.mem_of_getElem? (i := 609) (by decide +kernel), List.mem_of_getElem? (i := 610) (by decide +kernel)⟩
theorem lw_p19 : lw_okq (⟨"PetitionDesk$TextReader", "readVoter", "()Z"⟩, 6) := ⟨⟨by decide +kernel, by decide +kernel⟩, List.mem_of_getElem? (i := 35) (by decide +kernel), List.mem_of_getElem? (i := 613) (by decide +kernel), List.mem_of_getElem? (i := 614) (by decide +kernel)⟩
theorem lw_p20 : lw_okq (⟨"PetitionDesk$TextReader", "place", "()I"⟩, 6) := ⟨⟨by decide +kernel, by decide +kernel⟩, List.mem_of_getElem? (i := 35) (by decide +kernel), List.mem_of_getElem? (i := 617) (by decide +kernel), List.mem_of_getElem? (i := 618) (by decide +kernel)⟩
theorem lw_p21 : lw_okq (⟨"PetitionDesk$TextReader", "refuse", "(II)Z"⟩, 6) := ⟨⟨by decide +kernel, by decide +kernel⟩, List.mem_of_getElem? (i := 35) (by decide +kernel), List.mem_of_getElem? (i := 621) (by decide +kernel), List.mem_of_getElem? (i := 622) (by decide +kernel)⟩
theorem lw_p22 : lw_okq (⟨"PetitionDesk$TextReader", "advance", "()V"⟩, 6) := ⟨⟨by decide +kernel, by decide +kernel⟩, List.mem_of_getElem? (i := 35) (by decide +kernel), List.mem_of_getElem? (i := 625) (by decide +kernel), List.mem_of_getElem? (i := 626) (by decide +kernel)⟩
theorem lw_p23 : lw_okq (⟨"PetitionDesk$TextReader", "takeName", "()I"⟩, 6) := ⟨⟨by decide +kernel, by decide +kernel⟩, List.mem_of_getElem? (i := 35) (by decide +kernel), List.mem_of_getElem? (i := 629) (by decide +kernel), List.mem_of_getElem? (i := 630) (by decide +kernel)⟩
theorem lw_p24 : lw_okq (⟨"PetitionDesk$TextReader", "takeNumber", "(II)I"⟩, 6) := ⟨⟨by decide +kernel, by decide +kernel⟩, List.mem_of_getElem? (i := 35) (by decide +kernel), List.mem_of_getElem? (i := 633) (by decide +kernel), List.mem_of_getElem? (i := 634) (by decide +kernel)⟩
theorem lw_p25 : lw_okq (⟨"PetitionDesk$TextReader", "readSheet", "()Z"⟩, 6) := ⟨⟨by decide +kernel, by decide +kernel⟩, List.mem_of_getElem? (i := 35) (by decide +kernel), List.mem_of_getElem? (i := 642) (by decide +kernel), List.mem_of_getElem? (i := 643) (by decide +kernel)⟩
theorem lw_p26 : lw_okq (⟨"PetitionDesk$TextReader", "readSigned", "()Z"⟩, 6) := ⟨⟨by decide +kernel, by decide +kernel⟩, List.mem_of_getElem? (i := 35) (by decide +kernel), List.mem_of_getElem? (i := 646) (by decide +kernel), List.mem_of_getElem? (i := 647) (by decide +kernel)⟩
theorem lw_p27 : lw_okq (⟨"PetitionDesk$Petition", "moveLines", "(III)V"⟩, 19) := ⟨⟨by decide +kernel, by decide +kernel⟩, List.mem_of_getElem? (i := 87) (by decide +kernel), List.mem_of_getElem? (i := 658) (by decide +kernel), List.mem_of_getElem? (i := 659) (by decide +kernel)⟩
theorem lw_p28 : lw_okq (⟨"PetitionDesk$TextReader", "readNeed", "()Z"⟩, 6) := ⟨⟨by decide +kernel, by decide +kernel⟩, List.mem_of_getElem? (i := 35) (by decide +kernel), List.mem_of_getElem? (i := 666) (by decide +kernel), List.mem_of_getElem? (i := 667) (by decide +kernel)⟩
theorem lw_p29 : lw_okq (⟨"PetitionDesk$TextReader", "takeOnce", "()Z"⟩, 6) := ⟨⟨by decide +kernel, by decide +kernel⟩, List.mem_of_getElem? (i := 35) (by decide +kernel), List.mem_of_getElem? (i := 670) (by decide +kernel), List.mem_of_getElem? (i := 671) (by decide +kernel)⟩
theorem lw_p30 : lw_okq (⟨"PetitionDesk$TextReader", "readSpan", "()Z"⟩, 6) := ⟨⟨by decide +kernel, by decide +kernel⟩, List.mem_of_getElem? (i := 35) (by decide +kernel), List.mem_of_getElem? (i := 674) (by decide +kernel), List.mem_of_getElem? (i := 675) (by decide +kernel)⟩
theorem lw_p31 : lw_okq (⟨"PetitionDesk$TextReader", "readSpoilt", "()Z"⟩, 6) := ⟨⟨by decide +kernel, by decide +kernel⟩, List.mem_of_getElem? (i := 35) (by decide +kernel), List.mem_of_getElem? (i := 678) (by decide +kernel), List.mem_of_getElem? (i := 679) (by decide +kernel)⟩
def lw_privs_2 : List (MethodName × Nat) := [(⟨"PetitionDesk$Tokens", "numberAt", "(I)I"⟩, 6), (⟨"PetitionDesk$TextReader", "kind", "()I"⟩, 6), (⟨"PetitionDesk$TextReader", "readTold", "()Z"⟩, 6), (⟨"PetitionDesk$TextReader", "readVoter", "()Z"⟩, 6), (⟨"PetitionDesk$TextReader", "place", "()I"⟩, 6), (⟨"PetitionDesk$TextReader", "refuse", "(II)Z"⟩, 6), (⟨"PetitionDesk$TextReader", "advance", "()V"⟩, 6), (⟨"PetitionDesk$TextReader", "takeName", "()I"⟩, 6), (⟨"PetitionDesk$TextReader", "takeNumber", "(II)I"⟩, 6), (⟨"PetitionDesk$TextReader", "readSheet", "()Z"⟩, 6), (⟨"PetitionDesk$TextReader", "readSigned", "()Z"⟩, 6), (⟨"PetitionDesk$Petition", "moveLines", "(III)V"⟩, 19), (⟨"PetitionDesk$TextReader", "readNeed", "()Z"⟩, 6), (⟨"PetitionDesk$TextReader", "takeOnce", "()Z"⟩, 6), (⟨"PetitionDesk$TextReader", "readSpan", "()Z"⟩, 6), (⟨"PetitionDesk$TextReader", "readSpoilt", "()Z"⟩, 6)]
theorem lw_r2 : ∀ q ∈ lw_privs_2, lw_okq q := List.forall_mem_cons.mpr ⟨lw_p16, List.forall_mem_cons.mpr ⟨lw_p17, List.forall_mem_cons.mpr ⟨lw_p18, List.forall_mem_cons.mpr ⟨lw_p19, List.forall_mem_cons.mpr ⟨lw_p20, List.forall_mem_cons.mpr ⟨lw_p21, List.forall_mem_cons.mpr ⟨lw_p22, List.forall_mem_cons.mpr ⟨lw_p23, List.forall_mem_cons.mpr ⟨lw_p24, List.forall_mem_cons.mpr ⟨lw_p25, List.forall_mem_cons.mpr ⟨lw_p26, List.forall_mem_cons.mpr ⟨lw_p27, List.forall_mem_cons.mpr ⟨lw_p28, List.forall_mem_cons.mpr ⟨lw_p29, List.forall_mem_cons.mpr ⟨lw_p30, List.forall_mem_cons.mpr ⟨lw_p31, fun _ h => absurd h List.not_mem_nil⟩⟩⟩⟩⟩⟩⟩⟩⟩⟩⟩⟩⟩⟩⟩⟩
theorem lw_p32 : lw_okq (⟨"PetitionDesk$TextReader", "readAlpha", "()Z"⟩, 6) := ⟨⟨by decide +kernel, by decide +kernel⟩, List.mem_of_getElem? (i := 35) (by decide +kernel), List.mem_of_getElem? (i := 682) (by decide +kernel), List.mem_of_getElem? (i := 683) (by decide +kernel)⟩
theorem lw_p33 : lw_okq (⟨"PetitionDesk$TextReader", "readChoice", "(I)Z"⟩, 6) := ⟨⟨by decide +kernel, by decide +kernel⟩, List.mem_of_getElem? (i := 35) (by decide +kernel), List.mem_of_getElem? (i := 686) (by decide +kernel), List.mem_of_getElem? (i := 687) (by decide +kernel)⟩
theorem lw_p34 : lw_okq (⟨"PetitionDesk$TextReader", "readChain", "(I)Z"⟩, 6) := ⟨⟨by decide +kernel, by decide +kernel⟩, List.mem_of_getElem? (i := 35) (by decide +kernel), List.mem_of_getElem? (i := 690) (by decide +kernel), List.mem_of_getElem? (i := 691) (by decide +kernel)⟩
theorem lw_p35 : lw_okq (⟨"PetitionDesk$TextReader", "readPart", "(I)Z"⟩, 6) := ⟨⟨by decide +kernel, by decide +kernel⟩, List.mem_of_getElem? (i := 35) (by decide +kernel), List.mem_of_getElem? (i := 694) (by decide +kernel), List.mem_of_getElem? (i := 695) (by decide +kernel)⟩
theorem lw_p36 : lw_okq (⟨"PetitionDesk$TextReader", "readComparison", "()Z"⟩, 6) := ⟨⟨by decide +kernel, by decide +kernel⟩, List.mem_of_getElem? (i := 35) (by decide +kernel), List.mem_of_getElem? (i := 698) (by decide +kernel), List.mem_of_getElem? (i := 699) (by decide +kernel)⟩
theorem lw_p37 : lw_okq (⟨"PetitionDesk$TextReader", "takeOperand", "()I"⟩, 6) := ⟨⟨by decide +kernel, by decide +kernel⟩, List.mem_of_getElem? (i := 35) (by decide +kernel), List.mem_of_getElem? (i := 702) (by decide +kernel), List.mem_of_getElem? (i := 703) (by decide +kernel)⟩
theorem lw_p38 : lw_okq (⟨"PetitionDesk$TextReader", "takeSign", "(C)Z"⟩, 6) := ⟨⟨by decide +kernel, by decide +kernel⟩, List.mem_of_getElem? (i := 35) (by decide +kernel), List.mem_of_getElem? (i := 717) (by decide +kernel), List.mem_of_getElem? (i := 718) (by decide +kernel)⟩
theorem lw_p39 : lw_okq (⟨"PetitionDesk", "keepForUndo", "()V"⟩, 11) := ⟨⟨by decide +kernel, by decide +kernel⟩, List.mem_of_getElem? (i := 27) (by decide +kernel), List.mem_of_getElem? (i := 722) (by decide +kernel), List.mem_of_getElem? (i := 723) (by decide +kernel)⟩
theorem lw_p40 : lw_okq (⟨"PetitionDesk", "drawLines", "(II)J"⟩, 11) := ⟨⟨by decide +kernel, by decide +kernel⟩, List.mem_of_getElem? (i := 27) (by decide +kernel), List.mem_of_getElem? (i := 742) (by decide +kernel), List.mem_of_getElem? (i := 743) (by decide +kernel)⟩
theorem lw_p41 : lw_okq (⟨"PetitionDesk", "indexOfUndrawn", "(JI)I"⟩, 11) := ⟨⟨by decide +kernel, by decide +kernel⟩, List.mem_of_getElem? (i := 27) (by decide +kernel), List.mem_of_getElem? (i := 747) (by decide +kernel), List.mem_of_getElem? (i := 748) (by decide +kernel)⟩
theorem lw_p42 : lw_okq (⟨"PetitionDesk$Judgement", "isGoodIn", "(JI)Z"⟩, 8) := ⟨⟨by decide +kernel, by decide +kernel⟩, List.mem_of_getElem? (i := 225) (by decide +kernel), List.mem_of_getElem? (i := 755) (by decide +kernel), List.mem_of_getElem? (i := 756) (by decide +kernel)⟩
theorem lw_p43 : lw_okq (⟨"PetitionDesk$Judgement", "isGood", "(I)Z"⟩, 8) := ⟨⟨by decide +kernel, by decide +kernel⟩, List.mem_of_getElem? (i := 225) (by decide +kernel), List.mem_of_getElem? (i := 759) (by decide +kernel), List.mem_of_getElem? (i := 760) (by decide +kernel)⟩
theorem lw_p44 : lw_okq (⟨"PetitionDesk", "isSheet", "(I)Z"⟩, 11) := ⟨⟨by decide +kernel, by decide +kernel⟩, List.mem_of_getElem? (i := 27) (by decide +kernel), List.mem_of_getElem? (i := 771) (by decide +kernel), List.mem_of_getElem? (i := 772) (by decide +kernel)⟩
theorem lw_p45 : lw_okq (⟨"PetitionDesk", "requireFound", "(Z)V"⟩, 11) := ⟨⟨by decide +kernel, by decide +kernel⟩, List.mem_of_getElem? (i := 27) (by decide +kernel), List.mem_of_getElem? (i := 775) (by decide +kernel), List.mem_of_getElem? (i := 776) (by decide +kernel)⟩
theorem lw_p46 : lw_okq (⟨"PetitionDesk", "isVoter", "(I)Z"⟩, 11) := ⟨⟨by decide +kernel, by decide +kernel⟩, List.mem_of_getElem? (i := 27) (by decide +kernel), List.mem_of_getElem? (i := 807) (by decide +kernel), List.mem_of_getElem? (i := 808) (by decide +kernel)⟩
theorem lw_p47 : lw_okq (⟨"PetitionDesk", "requireState", "(Z)V"⟩, 11) := ⟨⟨by decide +kernel, by decide +kernel⟩, List.mem_of_getElem? (i := 27) (by decide +kernel), List.mem_of_getElem? (i := 811) (by decide +kernel), List.mem_of_getElem? (i := 812) (by decide +kernel)⟩
def lw_privs_3 : List (MethodName × Nat) := [(⟨"PetitionDesk$TextReader", "readAlpha", "()Z"⟩, 6), (⟨"PetitionDesk$TextReader", "readChoice", "(I)Z"⟩, 6), (⟨"PetitionDesk$TextReader", "readChain", "(I)Z"⟩, 6), (⟨"PetitionDesk$TextReader", "readPart", "(I)Z"⟩, 6), (⟨"PetitionDesk$TextReader", "readComparison", "()Z"⟩, 6), (⟨"PetitionDesk$TextReader", "takeOperand", "()I"⟩, 6), (⟨"PetitionDesk$TextReader", "takeSign", "(C)Z"⟩, 6), (⟨"PetitionDesk", "keepForUndo", "()V"⟩, 11), (⟨"PetitionDesk", "drawLines", "(II)J"⟩, 11), (⟨"PetitionDesk", "indexOfUndrawn", "(JI)I"⟩, 11), (⟨"PetitionDesk$Judgement", "isGoodIn", "(JI)Z"⟩, 8), (⟨"PetitionDesk$Judgement", "isGood", "(I)Z"⟩, 8), (⟨"PetitionDesk", "isSheet", "(I)Z"⟩, 11), (⟨"PetitionDesk", "requireFound", "(Z)V"⟩, 11), (⟨"PetitionDesk", "isVoter", "(I)Z"⟩, 11), (⟨"PetitionDesk", "requireState", "(Z)V"⟩, 11)]
theorem lw_r3 : ∀ q ∈ lw_privs_3, lw_okq q := List.forall_mem_cons.mpr ⟨lw_p32, List.forall_mem_cons.mpr ⟨lw_p33, List.forall_mem_cons.mpr ⟨lw_p34, List.forall_mem_cons.mpr ⟨lw_p35, List.forall_mem_cons.mpr ⟨lw_p36, List.forall_mem_cons.mpr ⟨lw_p37, List.forall_mem_cons.mpr ⟨lw_p38, List.forall_mem_cons.mpr ⟨lw_p39, List.forall_mem_cons.mpr ⟨lw_p40, List.forall_mem_cons.mpr ⟨lw_p41, List.forall_mem_cons.mpr ⟨lw_p42, List.forall_mem_cons.mpr ⟨lw_p43, List.forall_mem_cons.mpr ⟨lw_p44, List.forall_mem_cons.mpr ⟨lw_p45, List.forall_mem_cons.mpr ⟨lw_p46, List.forall_mem_cons.mpr ⟨lw_p47, fun _ h => absurd h List.not_mem_nil⟩⟩⟩⟩⟩⟩⟩⟩⟩⟩⟩⟩⟩⟩⟩⟩
theorem lw_p48 : lw_okq (⟨"PetitionDesk", "isLine", "(II)Z"⟩, 11) := ⟨⟨by decide +kernel, by decide +kernel⟩, List.mem_of_getElem? (i := 27) (by decide +kernel), List.mem_of_getElem? (i := 844) (by decide +kernel), List.mem_of_getElem? (i := 845) (by decide +kernel)⟩
theorem lw_p49 : lw_okq (⟨"PetitionDesk", "sampleOf", "(I)J"⟩, 11) := ⟨⟨by decide +kernel, by decide +kernel⟩, List.mem_of_getElem? (i := 27) (by decide +kernel), List.mem_of_getElem? (i := 916) (by decide +kernel), List.mem_of_getElem? (i := 917) (by decide +kernel)⟩
theorem lw_p50 : lw_okq (⟨"PetitionDeskModel", "bad", "(ZII)Z"⟩, 21) := ⟨⟨by decide +kernel, by decide +kernel⟩, List.mem_of_getElem? (i := 1002) (by decide +kernel), List.mem_of_getElem? (i := 1092) (by decide +kernel), List.mem_of_getElem? (i := 1093) (by decide +kernel)⟩
theorem lw_p51 : lw_okq (⟨"PetitionDeskModel", "fine", "()Z"⟩, 21) := ⟨⟨by decide +kernel, by decide +kernel⟩, List.mem_of_getElem? (i := 1002) (by decide +kernel), List.mem_of_getElem? (i := 1096) (by decide +kernel), List.mem_of_getElem? (i := 1097) (by decide +kernel)⟩
theorem lw_p52 : lw_okq (⟨"PetitionDeskModel", "here", "()I"⟩, 21) := ⟨⟨by decide +kernel, by decide +kernel⟩, List.mem_of_getElem? (i := 1002) (by decide +kernel), List.mem_of_getElem? (i := 1100) (by decide +kernel), List.mem_of_getElem? (i := 1101) (by decide +kernel)⟩
theorem lw_p53 : lw_okq (⟨"PetitionDeskModel", "byteAt", "(I)I"⟩, 21) := ⟨⟨by decide +kernel, by decide +kernel⟩, List.mem_of_getElem? (i := 1002) (by decide +kernel), List.mem_of_getElem? (i := 1104) (by decide +kernel), List.mem_of_getElem? (i := 1105) (by decide +kernel)⟩
theorem lw_p54 : lw_okq (⟨"PetitionDeskModel", "readsLine", "()V"⟩, 21) := ⟨⟨by decide +kernel, by decide +kernel⟩, List.mem_of_getElem? (i := 1002) (by decide +kernel), List.mem_of_getElem? (i := 1108) (by decide +kernel), List.mem_of_getElem? (i := 1109) (by decide +kernel)⟩
theorem lw_p55 : lw_okq (⟨"PetitionDeskModel", "takes", "(Ljava/lang/String;)Z"⟩, 21) := ⟨⟨by decide +kernel, by decide +kernel⟩, List.mem_of_getElem? (i := 1002) (by decide +kernel), List.mem_of_getElem? (i := 1113) (by decide +kernel), List.mem_of_getElem? (i := 1114) (by decide +kernel)⟩
theorem lw_p56 : lw_okq (⟨"PetitionDeskModel", "isWord", "(Ljava/lang/String;)Z"⟩, 21) := ⟨⟨by decide +kernel, by decide +kernel⟩, List.mem_of_getElem? (i := 1002) (by decide +kernel), List.mem_of_getElem? (i := 1117) (by decide +kernel), List.mem_of_getElem? (i := 1118) (by decide +kernel)⟩
theorem lw_p57 : lw_okq (⟨"PetitionDeskModel", "readsVoter", "(I)V"⟩, 21) := ⟨⟨by decide +kernel, by decide +kernel⟩, List.mem_of_getElem? (i := 1002) (by decide +kernel), List.mem_of_getElem? (i := 1126) (by decide +kernel), List.mem_of_getElem? (i := 1127) (by decide +kernel)⟩
theorem lw_p58 : lw_okq (⟨"PetitionDeskModel", "wrong", "(II)V"⟩, 21) := ⟨⟨by decide +kernel, by decide +kernel⟩, List.mem_of_getElem? (i := 1002) (by decide +kernel), List.mem_of_getElem? (i := 1130) (by decide +kernel), List.mem_of_getElem? (i := 1131) (by decide +kernel)⟩
theorem lw_p59 : lw_okq (⟨"PetitionDeskModel", "name", "()I"⟩, 21) := ⟨⟨by decide +kernel, by decide +kernel⟩, List.mem_of_getElem? (i := 1002) (by decide +kernel), List.mem_of_getElem? (i := 1134) (by decide +kernel), List.mem_of_getElem? (i := 1135) (by decide +kernel)⟩
theorem lw_p60 : lw_okq (⟨"PetitionDeskModel", "number", "(II)I"⟩, 21) := ⟨⟨by decide +kernel, by decide +kernel⟩, List.mem_of_getElem? (i := 1002) (by decide +kernel), List.mem_of_getElem? (i := 1138) (by decide +kernel), List.mem_of_getElem? (i := 1139) (by decide +kernel)⟩
theorem lw_p61 : lw_okq (⟨"PetitionDeskModel", "readsSign", "(I)V"⟩, 21) := ⟨⟨by decide +kernel, by decide +kernel⟩, List.mem_of_getElem? (i := 1002) (by decide +kernel), List.mem_of_getElem? (i := 1157) (by decide +kernel), List.mem_of_getElem? (i := 1158) (by decide +kernel)⟩
theorem lw_p62 : lw_okq (⟨"PetitionDeskModel", "takesOnce", "(Ljava/lang/String;I)Z"⟩, 21) := ⟨⟨by decide +kernel, by decide +kernel⟩, List.mem_of_getElem? (i := 1002) (by decide +kernel), List.mem_of_getElem? (i := 1165) (by decide +kernel), List.mem_of_getElem? (i := 1166) (by decide +kernel)⟩
theorem lw_p63 : lw_okq (⟨"PetitionDeskModel", "any", "()V"⟩, 21) := ⟨⟨by decide +kernel, by decide +kernel⟩, List.mem_of_getElem? (i := 1002) (by decide +kernel), List.mem_of_getElem? (i := 1173) (by decide +kernel), List.mem_of_getElem? (i := 1174) (by decide +kernel)⟩
def lw_privs_4 : List (MethodName × Nat) := [(⟨"PetitionDesk", "isLine", "(II)Z"⟩, 11), (⟨"PetitionDesk", "sampleOf", "(I)J"⟩, 11), (⟨"PetitionDeskModel", "bad", "(ZII)Z"⟩, 21), (⟨"PetitionDeskModel", "fine", "()Z"⟩, 21), (⟨"PetitionDeskModel", "here", "()I"⟩, 21), (⟨"PetitionDeskModel", "byteAt", "(I)I"⟩, 21), (⟨"PetitionDeskModel", "readsLine", "()V"⟩, 21), (⟨"PetitionDeskModel", "takes", "(Ljava/lang/String;)Z"⟩, 21), (⟨"PetitionDeskModel", "isWord", "(Ljava/lang/String;)Z"⟩, 21), (⟨"PetitionDeskModel", "readsVoter", "(I)V"⟩, 21), (⟨"PetitionDeskModel", "wrong", "(II)V"⟩, 21), (⟨"PetitionDeskModel", "name", "()I"⟩, 21), (⟨"PetitionDeskModel", "number", "(II)I"⟩, 21), (⟨"PetitionDeskModel", "readsSign", "(I)V"⟩, 21), (⟨"PetitionDeskModel", "takesOnce", "(Ljava/lang/String;I)Z"⟩, 21), (⟨"PetitionDeskModel", "any", "()V"⟩, 21)]
theorem lw_r4 : ∀ q ∈ lw_privs_4, lw_okq q := List.forall_mem_cons.mpr ⟨lw_p48, List.forall_mem_cons.mpr ⟨lw_p49, List.forall_mem_cons.mpr ⟨lw_p50, List.forall_mem_cons.mpr ⟨lw_p51, List.forall_mem_cons.mpr ⟨lw_p52, List.forall_mem_cons.mpr ⟨lw_p53, List.forall_mem_cons.mpr ⟨lw_p54, List.forall_mem_cons.mpr ⟨lw_p55, List.forall_mem_cons.mpr ⟨lw_p56, List.forall_mem_cons.mpr ⟨lw_p57, List.forall_mem_cons.mpr ⟨lw_p58, List.forall_mem_cons.mpr ⟨lw_p59, List.forall_mem_cons.mpr ⟨lw_p60, List.forall_mem_cons.mpr ⟨lw_p61, List.forall_mem_cons.mpr ⟨lw_p62, List.forall_mem_cons.mpr ⟨lw_p63, fun _ h => absurd h List.not_mem_nil⟩⟩⟩⟩⟩⟩⟩⟩⟩⟩⟩⟩⟩⟩⟩⟩
theorem lw_p64 : lw_okq (⟨"PetitionDeskModel", "all", "()V"⟩, 21) := ⟨⟨by decide +kernel, by decide +kernel⟩, List.mem_of_getElem? (i := 1002) (by decide +kernel), List.mem_of_getElem? (i := 1177) (by decide +kernel), List.mem_of_getElem? (i := 1178) (by decide +kernel)⟩
theorem lw_p65 : lw_okq (⟨"PetitionDeskModel", "part", "()V"⟩, 21) := ⟨⟨by decide +kernel, by decide +kernel⟩, List.mem_of_getElem? (i := 1002) (by decide +kernel), List.mem_of_getElem? (i := 1181) (by decide +kernel), List.mem_of_getElem? (i := 1182) (by decide +kernel)⟩
theorem lw_p66 : lw_okq (⟨"PetitionDeskModel", "side", "()V"⟩, 21) := ⟨⟨by decide +kernel, by decide +kernel⟩, List.mem_of_getElem? (i := 1002) (by decide +kernel), List.mem_of_getElem? (i := 1186) (by decide +kernel), List.mem_of_getElem? (i := 1187) (by decide +kernel)⟩
theorem lw_p67 : lw_okq (⟨"PetitionDeskModel", "tells", "(I)V"⟩, 21) := ⟨⟨by decide +kernel, by decide +kernel⟩, List.mem_of_getElem? (i := 1002) (by decide +kernel), List.mem_of_getElem? (i := 1190) (by decide +kernel), List.mem_of_getElem? (i := 1191) (by decide +kernel)⟩
theorem lw_p68 : lw_okq (⟨"PetitionDeskModel", "must", "(I)V"⟩, 21) := ⟨⟨by decide +kernel, by decide +kernel⟩, List.mem_of_getElem? (i := 1002) (by decide +kernel), List.mem_of_getElem? (i := 1202) (by decide +kernel), List.mem_of_getElem? (i := 1203) (by decide +kernel)⟩
theorem lw_p69 : lw_okq (⟨"PetitionDeskModel", "remembers", "()V"⟩, 21) := ⟨⟨by decide +kernel, by decide +kernel⟩, List.mem_of_getElem? (i := 1002) (by decide +kernel), List.mem_of_getElem? (i := 1208) (by decide +kernel), List.mem_of_getElem? (i := 1209) (by decide +kernel)⟩
theorem lw_p70 : lw_okq (⟨"PetitionDeskModel", "lines", "()I"⟩, 21) := ⟨⟨by decide +kernel, by decide +kernel⟩, List.mem_of_getElem? (i := 1002) (by decide +kernel), List.mem_of_getElem? (i := 1215) (by decide +kernel), List.mem_of_getElem? (i := 1216) (by decide +kernel)⟩
theorem lw_p71 : lw_okq (⟨"PetitionDeskModel", "isIn", "(II)Z"⟩, 21) := ⟨⟨by decide +kernel, by decide +kernel⟩, List.mem_of_getElem? (i := 1002) (by decide +kernel), List.mem_of_getElem? (i := 1235) (by decide +kernel), List.mem_of_getElem? (i := 1236) (by decide +kernel)⟩
theorem lw_p72 : lw_okq (⟨"PetitionDeskModel", "judges", "([II)V"⟩, 21) := ⟨⟨by decide +kernel, by decide +kernel⟩, List.mem_of_getElem? (i := 1002) (by decide +kernel), List.mem_of_getElem? (i := 1239) (by decide +kernel), List.mem_of_getElem? (i := 1240) (by decide +kernel)⟩
theorem lw_p73 : lw_okq (⟨"PetitionDeskModel", "isGood", "([II)Z"⟩, 21) := ⟨⟨by decide +kernel, by decide +kernel⟩, List.mem_of_getElem? (i := 1002) (by decide +kernel), List.mem_of_getElem? (i := 1243) (by decide +kernel), List.mem_of_getElem? (i := 1244) (by decide +kernel)⟩
theorem lw_p74 : lw_okq (⟨"PetitionDeskModel", "fact", "([III)I"⟩, 21) := ⟨⟨by decide +kernel, by decide +kernel⟩, List.mem_of_getElem? (i := 1002) (by decide +kernel), List.mem_of_getElem? (i := 1247) (by decide +kernel), List.mem_of_getElem? (i := 1248) (by decide +kernel)⟩
theorem lw_p75 : lw_okq (⟨"PetitionDeskModel", "goodIn", "(I)I"⟩, 21) := ⟨⟨by decide +kernel, by decide +kernel⟩, List.mem_of_getElem? (i := 1002) (by decide +kernel), List.mem_of_getElem? (i := 1254) (by decide +kernel), List.mem_of_getElem? (i := 1255) (by decide +kernel)⟩
theorem lw_p76 : lw_okq (⟨"PetitionDeskModel", "isClean", "(I)Z"⟩, 21) := ⟨⟨by decide +kernel, by decide +kernel⟩, List.mem_of_getElem? (i := 1002) (by decide +kernel), List.mem_of_getElem? (i := 1258) (by decide +kernel), List.mem_of_getElem? (i := 1259) (by decide +kernel)⟩
theorem lw_p77 : lw_okq (⟨"PetitionDeskModel", "isSheet", "(I)Z"⟩, 21) := ⟨⟨by decide +kernel, by decide +kernel⟩, List.mem_of_getElem? (i := 1002) (by decide +kernel), List.mem_of_getElem? (i := 1266) (by decide +kernel), List.mem_of_getElem? (i := 1267) (by decide +kernel)⟩
theorem lw_p78 : lw_okq (⟨"PetitionDeskModel", "isVoter", "(I)Z"⟩, 21) := ⟨⟨by decide +kernel, by decide +kernel⟩, List.mem_of_getElem? (i := 1002) (by decide +kernel), List.mem_of_getElem? (i := 1274) (by decide +kernel), List.mem_of_getElem? (i := 1275) (by decide +kernel)⟩
theorem lw_p79 : lw_okq (⟨"PetitionDeskModel", "linesOf", "(I)I"⟩, 21) := ⟨⟨by decide +kernel, by decide +kernel⟩, List.mem_of_getElem? (i := 1002) (by decide +kernel), List.mem_of_getElem? (i := 1279) (by decide +kernel), List.mem_of_getElem? (i := 1280) (by decide +kernel)⟩
def lw_privs_5 : List (MethodName × Nat) := [(⟨"PetitionDeskModel", "all", "()V"⟩, 21), (⟨"PetitionDeskModel", "part", "()V"⟩, 21), (⟨"PetitionDeskModel", "side", "()V"⟩, 21), (⟨"PetitionDeskModel", "tells", "(I)V"⟩, 21), (⟨"PetitionDeskModel", "must", "(I)V"⟩, 21), (⟨"PetitionDeskModel", "remembers", "()V"⟩, 21), (⟨"PetitionDeskModel", "lines", "()I"⟩, 21), (⟨"PetitionDeskModel", "isIn", "(II)Z"⟩, 21), (⟨"PetitionDeskModel", "judges", "([II)V"⟩, 21), (⟨"PetitionDeskModel", "isGood", "([II)Z"⟩, 21), (⟨"PetitionDeskModel", "fact", "([III)I"⟩, 21), (⟨"PetitionDeskModel", "goodIn", "(I)I"⟩, 21), (⟨"PetitionDeskModel", "isClean", "(I)Z"⟩, 21), (⟨"PetitionDeskModel", "isSheet", "(I)Z"⟩, 21), (⟨"PetitionDeskModel", "isVoter", "(I)Z"⟩, 21), (⟨"PetitionDeskModel", "linesOf", "(I)I"⟩, 21)]
theorem lw_r5 : ∀ q ∈ lw_privs_5, lw_okq q := List.forall_mem_cons.mpr ⟨lw_p64, List.forall_mem_cons.mpr ⟨lw_p65, List.forall_mem_cons.mpr ⟨lw_p66, List.forall_mem_cons.mpr ⟨lw_p67, List.forall_mem_cons.mpr ⟨lw_p68, List.forall_mem_cons.mpr ⟨lw_p69, List.forall_mem_cons.mpr ⟨lw_p70, List.forall_mem_cons.mpr ⟨lw_p71, List.forall_mem_cons.mpr ⟨lw_p72, List.forall_mem_cons.mpr ⟨lw_p73, List.forall_mem_cons.mpr ⟨lw_p74, List.forall_mem_cons.mpr ⟨lw_p75, List.forall_mem_cons.mpr ⟨lw_p76, List.forall_mem_cons.mpr ⟨lw_p77, List.forall_mem_cons.mpr ⟨lw_p78, List.forall_mem_cons.mpr ⟨lw_p79, fun _ h => absurd h List.not_mem_nil⟩⟩⟩⟩⟩⟩⟩⟩⟩⟩⟩⟩⟩⟩⟩⟩
theorem lw_p80 : lw_okq (⟨"PetitionDeskModel", "spotOf", "(II)I"⟩, 21) := ⟨⟨by decide +kernel, by decide +kernel⟩, List.mem_of_getElem? (i := 1002) (by decide +kernel), List.mem_of_getElem? (i := 1283) (by decide +kernel), List.mem_of_getElem? (i := 1284) (by decide +kernel)⟩
theorem lw_p81 : lw_okq (⟨"PetitionDeskModel", "moves", "(II)V"⟩, 21) := ⟨⟨by decide +kernel, by decide +kernel⟩, List.mem_of_getElem? (i := 1002) (by decide +kernel), List.mem_of_getElem? (i := 1287) (by decide +kernel), List.mem_of_getElem? (i := 1288) (by decide +kernel)⟩
theorem lw_p82 : lw_okq (⟨"PetitionDeskModel", "emptiesSamples", "()V"⟩, 21) := ⟨⟨by decide +kernel, by decide +kernel⟩, List.mem_of_getElem? (i := 1002) (by decide +kernel), List.mem_of_getElem? (i := 1291) (by decide +kernel), List.mem_of_getElem? (i := 1292) (by decide +kernel)⟩
theorem lw_p83 : lw_okq (⟨"PetitionDeskModel", "isLine", "(II)Z"⟩, 21) := ⟨⟨by decide +kernel, by decide +kernel⟩, List.mem_of_getElem? (i := 1002) (by decide +kernel), List.mem_of_getElem? (i := 1299) (by decide +kernel), List.mem_of_getElem? (i := 1300) (by decide +kernel)⟩
theorem lw_p84 : lw_okq (⟨"PetitionDeskModel", "count", "(I)I"⟩, 21) := ⟨⟨by decide +kernel, by decide +kernel⟩, List.mem_of_getElem? (i := 1002) (by decide +kernel), List.mem_of_getElem? (i := 1331) (by decide +kernel), List.mem_of_getElem? (i := 1332) (by decide +kernel)⟩
theorem lw_p85 : lw_okq (⟨"PetitionDeskModel", "sizeOf", "(I)I"⟩, 21) := ⟨⟨by decide +kernel, by decide +kernel⟩, List.mem_of_getElem? (i := 1002) (by decide +kernel), List.mem_of_getElem? (i := 1343) (by decide +kernel), List.mem_of_getElem? (i := 1344) (by decide +kernel)⟩
theorem lw_p86 : lw_okq (⟨"PetitionDeskModel", "pairsIn", "(I)I"⟩, 21) := ⟨⟨by decide +kernel, by decide +kernel⟩, List.mem_of_getElem? (i := 1002) (by decide +kernel), List.mem_of_getElem? (i := 1347) (by decide +kernel), List.mem_of_getElem? (i := 1348) (by decide +kernel)⟩
theorem lw_p87 : lw_okq (⟨"PetitionDeskModel", "lowOf", "(II)I"⟩, 21) := ⟨⟨by decide +kernel, by decide +kernel⟩, List.mem_of_getElem? (i := 1002) (by decide +kernel), List.mem_of_getElem? (i := 1351) (by decide +kernel), List.mem_of_getElem? (i := 1352) (by decide +kernel)⟩
theorem lw_p88 : lw_okq (⟨"PetitionDeskModel", "waysBy", "(IIII)J"⟩, 21) := ⟨⟨by decide +kernel, by decide +kernel⟩, List.mem_of_getElem? (i := 1002) (by decide +kernel), List.mem_of_getElem? (i := 1355) (by decide +kernel), List.mem_of_getElem? (i := 1356) (by decide +kernel)⟩
theorem lw_p89 : lw_okq (⟨"PetitionDeskModel", "isMuch", "(JI)Z"⟩, 21) := ⟨⟨by decide +kernel, by decide +kernel⟩, List.mem_of_getElem? (i := 1002) (by decide +kernel), List.mem_of_getElem? (i := 1362) (by decide +kernel), List.mem_of_getElem? (i := 1363) (by decide +kernel)⟩
theorem lw_p90 : lw_okq (⟨"PetitionDeskModel", "highOf", "(II)I"⟩, 21) := ⟨⟨by decide +kernel, by decide +kernel⟩, List.mem_of_getElem? (i := 1002) (by decide +kernel), List.mem_of_getElem? (i := 1367) (by decide +kernel), List.mem_of_getElem? (i := 1368) (by decide +kernel)⟩
theorem lw_p91 : lw_okq (⟨"PetitionDeskModel", "votersIn", "(I)I"⟩, 21) := ⟨⟨by decide +kernel, by decide +kernel⟩, List.mem_of_getElem? (i := 1002) (by decide +kernel), List.mem_of_getElem? (i := 1382) (by decide +kernel), List.mem_of_getElem? (i := 1383) (by decide +kernel)⟩
theorem lw_p92 : lw_okq (⟨"PetitionDeskModel", "adds", "(II)V"⟩, 21) := ⟨⟨by decide +kernel, by decide +kernel⟩, List.mem_of_getElem? (i := 1002) (by decide +kernel), List.mem_of_getElem? (i := 1393) (by decide +kernel), List.mem_of_getElem? (i := 1394) (by decide +kernel)⟩
def lw_privs_6 : List (MethodName × Nat) := [(⟨"PetitionDeskModel", "spotOf", "(II)I"⟩, 21), (⟨"PetitionDeskModel", "moves", "(II)V"⟩, 21), (⟨"PetitionDeskModel", "emptiesSamples", "()V"⟩, 21), (⟨"PetitionDeskModel", "isLine", "(II)Z"⟩, 21), (⟨"PetitionDeskModel", "count", "(I)I"⟩, 21), (⟨"PetitionDeskModel", "sizeOf", "(I)I"⟩, 21), (⟨"PetitionDeskModel", "pairsIn", "(I)I"⟩, 21), (⟨"PetitionDeskModel", "lowOf", "(II)I"⟩, 21), (⟨"PetitionDeskModel", "waysBy", "(IIII)J"⟩, 21), (⟨"PetitionDeskModel", "isMuch", "(JI)Z"⟩, 21), (⟨"PetitionDeskModel", "highOf", "(II)I"⟩, 21), (⟨"PetitionDeskModel", "votersIn", "(I)I"⟩, 21), (⟨"PetitionDeskModel", "adds", "(II)V"⟩, 21)]
theorem lw_r6 : ∀ q ∈ lw_privs_6, lw_okq q := List.forall_mem_cons.mpr ⟨lw_p80, List.forall_mem_cons.mpr ⟨lw_p81, List.forall_mem_cons.mpr ⟨lw_p82, List.forall_mem_cons.mpr ⟨lw_p83, List.forall_mem_cons.mpr ⟨lw_p84, List.forall_mem_cons.mpr ⟨lw_p85, List.forall_mem_cons.mpr ⟨lw_p86, List.forall_mem_cons.mpr ⟨lw_p87, List.forall_mem_cons.mpr ⟨lw_p88, List.forall_mem_cons.mpr ⟨lw_p89, List.forall_mem_cons.mpr ⟨lw_p90, List.forall_mem_cons.mpr ⟨lw_p91, List.forall_mem_cons.mpr ⟨lw_p92, fun _ h => absurd h List.not_mem_nil⟩⟩⟩⟩⟩⟩⟩⟩⟩⟩⟩⟩⟩
def lw_privs : List (MethodName × Nat) := lw_privs_1 ++ (lw_privs_2 ++ (lw_privs_3 ++ (lw_privs_4 ++ (lw_privs_5 ++ (lw_privs_6)))))
def lw_tbl : List Cond := k2_sels lw_privs ++ tables_1
theorem lw_privs_ok : ∀ q ∈ lw_privs, lw_okq q := by
  show ∀ q ∈ lw_privs_1 ++ (lw_privs_2 ++ (lw_privs_3 ++ (lw_privs_4 ++ (lw_privs_5 ++ (lw_privs_6))))), lw_okq q
  exact List.forall_mem_append.mpr ⟨lw_r1, List.forall_mem_append.mpr ⟨lw_r2, List.forall_mem_append.mpr ⟨lw_r3, List.forall_mem_append.mpr ⟨lw_r4, List.forall_mem_append.mpr ⟨lw_r5, lw_r6⟩⟩⟩⟩⟩
end
section
/-! ===== BEGIN words of one list among another's, by their places ===== -/
theorem goodIn_r {big : List Cond} (ws : List Cond) (ps : List Nat) (hp : ws = ps.filterMap (fun i => big[i]?)) (h : ws.all goodWord = true) : GoodIn big ws := by
  intro w hw
  have h1 := List.all_eq_true.mp h w hw
  rw [hp] at hw
  obtain ⟨i, -, hi⟩ := List.mem_filterMap.mp hw
  have hm : w ∈ big := by first | exact List.mem_of_getElem? hi | exact List.getElem?_mem hi
  exact ⟨hm, good_of_word h1⟩
theorem goodIn_app {big a b : List Cond} (ha : GoodIn big a) (hb : GoodIn big b) : GoodIn big (a ++ b) := fun w h => (List.mem_append.mp h).elim (ha w) (hb w)
theorem goodIn_ca {big a b : List Cond} {c : Cond} (ha : GoodIn big (c :: a)) (hb : GoodIn big b) : GoodIn big (c :: (a ++ b)) := fun w h => (List.mem_cons.mp h).elim (fun e => ha w (List.mem_cons.mpr (Or.inl e))) (fun h => (List.mem_append.mp h).elim (fun h => ha w (List.mem_cons.mpr (Or.inr h))) (hb w))
theorem goodIn_sub {big ws : List Cond} (hm : ∀ w ∈ ws, w ∈ big) (h : ws.all goodWord = true) : GoodIn big ws := fun w hw => ⟨hm w hw, good_of_word (List.all_eq_true.mp h w hw)⟩
/-! ===== END ===== -/


/-! ===== BEGIN exceptions that leave a method, and their catching by the caller (launches without stack traces) ===== -/
section VXA
/-! The laws vx_back, vx_callV, vx_callS, vx_callSW, vx_throw0, vx_throwS follow proofs of the library, with one case more: JvmDerived/Free/Laws.lean (Back.of_free), Shelf42/LK1.lean (callV, callS), Shelf/KitTraced.lean (throwNew0V, throwNewS). -/
/-- where a method has thrown q: the class by its name, the cell, what was written, the world -/
def vx_T (XC : String → State → State → Prop) (st : State) (q : Addr) (t : State) (mc ms : Nat) (free : Addr → Prop) : Prop :=
  ∃ (E : String) (ce : Cell) (L : List Loc), XC E st t ∧ t.heap[q]? = some ce ∧ ce.vm = .none ∧ st.vm.findClass E = some ce.cls ∧ st.WarmedH t.vm ∧ st.sameButNew ({ t with vm := st.vm } : State) L mc ms ∧ ∀ z ∈ L, free z.base
def vx_Q (Qc : Array Value → State → Outcome → State → Prop) (XC : String → State → State → Prop) (mc ms : Nat) (free : Addr → Prop) : Array Value → State → Outcome → State → Prop := fun a st o t =>
  (Qc a st o t ∧ ∃ L, FrameEnd st o t L mc ms ∧ ∀ q ∈ L, free q.base) ∨ ∃ q, o = .threw q ∧ vx_T XC st q t mc ms free
/-- a callee that returns or throws -/
def vx_Met (l : Launch) (y : MethodName) (ws : List Cond) (rm : Room) (Pc : Array Value → State → Prop) (Qc : Array Value → State → Outcome → State → Prop) (XC : String → State → State → Prop) (mc ms : Nat) (free : Addr → Prop) : Prop :=
  MetFree l y (headSpec ws rm) Pc (fun _ _ _ _ _ => True) (vx_Q Qc XC mc ms free)
def vx_Post (XC : String → State → State → Prop) (mc ms : Nat) (free : Addr → Prop) : Pt → Array Value → Addr → Pt → Prop := fun A a q B =>
  ∃ (g : JFrame) (mk : MethodId) (t : State) (L : List Loc) (E : String) (ce : Cell), B.U.heap = t.heap ∧ B.U.vm = t.vm ∧ XC E (A.U.calling g mk a) t ∧ t.heap[q]? = some ce ∧ ce.vm = .none ∧ A.U.vm.findClass E = some ce.cls ∧ B.locs = A.locs ++ L ∧ (∀ z ∈ L, free z.base) ∧ B.cells = A.cells + mc ∧ B.slots = A.slots + ms
def vx_Back (l : Launch) (R : Room) (p : Program) (e : Env) (below : List Frame) (s : State) (sargs : Array Value) (y : MethodName) (len W9 : Nat)
    (Pre : Pt → Array Value → Prop) (Post : Pt → Array Value → Option Value → Pt → Prop) (PostX : Pt → Array Value → Addr → Pt → Prop) : Prop :=
  ∀ (m : MethodId) (meth : Method) (c : Code) (A : Pt) (g : JFrame) (ig : Instr) (mk : MethodId) (a : Array Value),
    Stand p l e R s m sargs below meth c A.U A.locs A.cells A.slots → g.method = m → g.locals.size = c.maxLocals → decode c.code g.pc = .ok (ig, len) →
    2 * g.monitorRoom + (g.stack.map fun v => v.category).sum ≤ W9 → A.U.methodNamed? y = some mk → Pre A a →
    (∃ (v : Option Value) (B : Pt), Stand p l e R s m sargs below meth c B.U B.locs B.cells B.slots ∧ Post A a v B ∧
      Steps p.tables e below (doInvoke e (A.U.setTop g) [] mk a).1 (B.U.setTop { g with pc := g.pc + len, stack := v.toList ++ g.stack })) ∨
    (∃ (q : Addr) (B : Pt), Stand p l e R s m sargs below meth c B.U B.locs B.cells B.slots ∧ PostX A a q B ∧
      Steps p.tables e below (doInvoke e (A.U.setTop g) [] mk a).1 ((B.U.setTop g).pushFrame (.throwing q)))
section Payer
variable {l : Launch} {R : Room} {p : Program} {e : Env} {below : List Frame} {s : State} {sargs : Array Value} {y : MethodName} {len W9 : Nat}
theorem vx_back {ws : List Cond} {rm : Room} {Pc : Array Value → State → Prop} {Qc : Array Value → State → Outcome → State → Prop} {XC : String → State → State → Prop} {mc ms : Nat} {free : Addr → Prop} {bytes : ByteArray} {maxL : Nat} {ret : Option FieldType}
    (hM : vx_Met l y ws rm Pc Qc XC mc ms free) (hblind : FrameBlind Pc) (hrc : rm.cells = mc) (hrs : rm.slots = ms)
    (hframes : rm.frames + 1 ≤ R.frames) (hlocals : W9 + (maxL + 11) + rm.locals ≤ R.locals)
    (hws : ∀ w ∈ ws, ∀ a' U, s.WarmedH U.vm → w.before a' U = true) (hcode : Cond.code y bytes maxL ret ∈ ws) (hinit : ∀ a' U, s.WarmedH U.vm → (Cond.initialized y.cls).before a' U = true) :
    vx_Back l R p e below s sargs y len W9 (PreOf R mc ms Pc) (PostOf Qc mc ms free) (vx_Post XC mc ms free) := by
  intro m meth c A g ig mk a X hg hsize hdg hW hn hp
  have h1 : (headSpec ws rm).pre.before a A.U = true := atoms_intro fun w hw => hws w hw _ _ X.warmed
  have h2 : (Cond.code y bytes maxL ret).before a A.U = true := hws _ hcode _ _ X.warmed
  have h3 : (Cond.initialized y.cls).before a A.U = true := hinit _ _ X.warmed
  have h4 : A.cells + (headSpec ws rm).room.cells ≤ R.cells := by rw [show (headSpec ws rm).room.cells = mc from hrc]; exact hp.1
  have h5 : A.slots + (headSpec ws rm).room.slots ≤ R.slots := by rw [show (headSpec ws rm).room.slots = ms from hrs]; exact hp.2.1
  have hPc : Pc a (A.U.calling g mk a) := hblind _ _ _ _ hp.2.2
  obtain ⟨U, Ls, c0, s0⟩ := A
  dsimp only [Pt.U, Pt.locs, Pt.cells, Pt.slots] at h1 h2 h3 h4 h5 X hn hPc ⊢
  obtain ⟨methY, cY, hmY, hcY, -, hlY, -, -, -, -⟩ := Cond.code_spec hn h2
  obtain ⟨kY, hkY, -⟩ := className_of_methodNamed hn
  have hinitY : kY.init = .initialized := Cond.initialized_spec (findClass_of_methodNamed hn) hkY h3
  have h : At U g.method c below := by rw [hg]; exact X.here
  have hlocals9 : W9 + (maxL + 11) + (headSpec ws rm).room.locals ≤ R.locals := hlocals
  have happ : (headSpec ws rm).appliesLoose y e.platform (U.calling g mk a) = true :=
    Spec.appliesLoose_calling (g := g) h hdg hn hkY hinitY
      (X.room_calling (g := g) (R' := (headSpec ws rm).room) hsize hmY hcY hframes (by rw [hlY]; omega) h4 h5) h1
  obtain ⟨mid, hmid⟩ := h.above
  have hfr : (U.setTop g).frames = (.java g :: mid) ++ below := by rw [State.frames_setTop' g h.top, hmid]; rfl
  obtain ⟨o, s₂, hsteps, -, hend, hq⟩ := Steps.callFree hM p X.admits X.cas X.clock (acts := []) hfr happ hPc trivial
  have hq' : vx_Q Qc XC mc ms free a (U.calling g mk a) o s₂ := hq
  rw [State.frames_setTop' g h.top] at hend
  obtain ⟨g₀, hg0⟩ := Option.isSome_iff_exists.mp h.top
  obtain ⟨r, hr⟩ := State.topJava?_eq_some.mp hg0
  have hr' : (({ U with heap := s₂.heap, slotsUsed := s₂.slotsUsed } : State).setVm s₂.vm).frames = .java g₀ :: r := hr
  rcases hq' with ⟨hqc, L, hfe, hL⟩ | ⟨q, rfl, E, ce, L, hx, hce, hcv, hcl, hW₂, hsm, hL⟩
  · obtain ⟨⟨v, rfl⟩, hW₂, e2, q2, q3, q4, q5, q6⟩ := id hfe
    have e3 : s₂ = ({ (U.calling g mk a).setFrames s₂.frames with heap := s₂.heap, slotsUsed := s₂.slotsUsed } : State).setVm s₂.vm := by
      have : s₂ = ({ s₂ with vm := (U.calling g mk a).vm } : State).setVm s₂.vm := rfl
      rw [e2] at this
      exact this
    obtain ⟨c₂, i₂, len₂, hc₂, hd₂, hf₂⟩ := hend
    have hW' : U.WarmedH s₂.vm := hW₂
    have hcc : c₂ = c := by
      have h1 : s₂.code? g.method = U.code? g.method := by
        rw [State.code?_eq, State.code?_eq, hW'.alike.method?]
      exact Option.some.inj (hc₂.symm.trans (h1.trans h.code))
    subst hcc
    have hlen : len₂ = len := by rw [hdg] at hd₂; cases hd₂; rfl
    subst hlen
    have hs₂ : s₂ = (({ U with heap := s₂.heap, slotsUsed := s₂.slotsUsed } : State).setVm s₂.vm).setTop { g with pc := g.pc + len₂, stack := v.toList ++ g.stack } := by
      refine e3.trans ?_
      rw [hf₂, State.calling_eq h.top, State.setFrames_setFrames, State.setTop_of_frames _ hr', hr]
      rfl
    have hsame : U.sameButNew ({ U with heap := s₂.heap, slotsUsed := s₂.slotsUsed } : State) L mc ms := by
      refine ⟨?_, q2, q3, q4, q5, q6⟩
      obtain ⟨t, ht, -⟩ := State.frames_cons hr
      show ({ U with heap := s₂.heap, slotsUsed := s₂.slotsUsed } : State) = { U.setFrames U.frames with heap := s₂.heap, slotsUsed := s₂.slotsUsed }
      rw [State.setFrames_self ht]
    subst hg
    refine Or.inl ⟨v, ⟨(({ U with heap := s₂.heap, slotsUsed := s₂.slotsUsed } : State).setVm s₂.vm), Ls ++ L, c0 + mc, s0 + ms⟩,
      ⟨X.admits, X.cas, X.clock, X.frames, X.room, X.hears, X.method, X.code, (X.here.setHeapUsed s₂.heap s₂.slotsUsed).setVm hW'.alike, X.tail, State.WarmedH.trans X.warmed hW', X.limits, X.bytes, X.same.trans (hsame.setVm s.vm)⟩,
      ⟨g, mk, s₂, L, rfl, rfl, hqc, rfl, hL, rfl, rfl⟩, ?_⟩
    show Steps p.tables e below _ ((({ U with heap := s₂.heap, slotsUsed := s₂.slotsUsed } : State).setVm s₂.vm).setTop { g with pc := g.pc + len₂, stack := v.toList ++ g.stack })
    rw [← hs₂]
    exact hsteps
  · obtain ⟨e2, q2, q3, q4, q5, q6⟩ := id hsm
    have e3 : s₂ = ({ (U.calling g mk a).setFrames s₂.frames with heap := s₂.heap, slotsUsed := s₂.slotsUsed } : State).setVm s₂.vm := by
      have : s₂ = ({ s₂ with vm := (U.calling g mk a).vm } : State).setVm s₂.vm := rfl
      rw [e2] at this
      exact this
    have hf₂ : s₂.frames = .throwing q :: .java g :: U.frames.tail := hend
    have hW' : U.WarmedH s₂.vm := hW₂
    have hs₂ : s₂ = ((({ U with heap := s₂.heap, slotsUsed := s₂.slotsUsed } : State).setVm s₂.vm).setTop g).pushFrame (.throwing q) := by
      refine e3.trans ?_
      rw [hf₂, State.calling_eq h.top, State.setFrames_setFrames, State.pushFrame, State.frames_setTop _ hr', State.setTop_of_frames _ hr', State.setFrames_setFrames, hr]
      rfl
    have hsame : U.sameButNew ({ U with heap := s₂.heap, slotsUsed := s₂.slotsUsed } : State) L mc ms := by
      refine ⟨?_, q2, q3, q4, q5, q6⟩
      obtain ⟨t, ht, -⟩ := State.frames_cons hr
      show ({ U with heap := s₂.heap, slotsUsed := s₂.slotsUsed } : State) = { U.setFrames U.frames with heap := s₂.heap, slotsUsed := s₂.slotsUsed }
      rw [State.setFrames_self ht]
    subst hg
    refine Or.inr ⟨q, ⟨(({ U with heap := s₂.heap, slotsUsed := s₂.slotsUsed } : State).setVm s₂.vm), Ls ++ L, c0 + mc, s0 + ms⟩,
      ⟨X.admits, X.cas, X.clock, X.frames, X.room, X.hears, X.method, X.code, (X.here.setHeapUsed s₂.heap s₂.slotsUsed).setVm hW'.alike, X.tail, State.WarmedH.trans X.warmed hW', X.limits, X.bytes, X.same.trans (hsame.setVm s.vm)⟩,
      ⟨g, mk, s₂, L, E, ce, rfl, rfl, hx, hce, hcv, hcl, rfl, hL, rfl, rfl⟩, ?_⟩
    show Steps p.tables e below _ (((({ U with heap := s₂.heap, slotsUsed := s₂.slotsUsed } : State).setVm s₂.vm).setTop g).pushFrame (.throwing q))
    rw [← hs₂]
    exact hsteps
end Payer
section Calls
variable {p : Program} {l : Launch} {e : Env} {R : Room} {s : State} {m : MethodId} {args : Array Value} {below : List Frame} {meth : Method} {c : Code} {T : State} {locs : List Loc} {cells slots : Nat}
theorem vx_callV (X : Stand p l e R s m args below meth c T locs cells slots) (hexec : p.tables.exec = Jvm.exec) {own C : String} {index : Nat} {y : MethodName} {bytes : ByteArray} {maxL : Nat} {ret : Option FieldType}
    (hown : s.vm.findClass own = some m.cls) (hlink : (Cond.methodLink own index y).before args s = true) (hinst : (Cond.instanceMethod y).before args s = true) (hsel : (Cond.selects C y y).before args s = true)
    (hcode : (Cond.code y bytes maxL ret).before args s = true) (hy : y.cls ≠ "java/lang/invoke/MethodHandle" ∧ y.cls ≠ "java/lang/invoke/VarHandle")
    {W9 : Nat} {Pre : Pt → Array Value → Prop} {Post : Pt → Array Value → Option Value → Pt → Prop} {PostX : Pt → Array Value → Addr → Pt → Prop} (hK : vx_Back l R p e below s args y 3 W9 Pre Post PostX)
    {b : Addr} {cellB : Cell} (hcell : T.heap[b]? = some cellB) (hobj : cellB.vm.isStatics = false) (hcls : s.vm.findClass C = some cellB.cls)
    {g : JFrame} (hg : g.method = m) (hsize : g.locals.size = c.maxLocals) {argsL rest : List Value} (hlen : ∀ sig, parseMethodDescriptor y.desc = some sig → argsL.length = sig.parameters.length)
    (hstack : g.stack = argsL.reverse ++ .ref b :: rest) (hW : 2 * g.monitorRoom + (rest.map fun v => v.category).sum ≤ W9) (hdg : decode c.code g.pc = .ok (.invokevirtual index, 3))
    (hpre : ∀ vm₁, s.WarmedH vm₁ → Pre ⟨T.setVm vm₁, locs, cells, slots⟩ (Value.ref b :: argsL).toArray) :
    (∃ (v : Option Value) (vm₁ : Vm) (B : Pt), s.WarmedH vm₁ ∧ Stand p l e R s m args below meth c B.U B.locs B.cells B.slots ∧ Post ⟨T.setVm vm₁, locs, cells, slots⟩ (Value.ref b :: argsL).toArray v B ∧
      ∀ target, Steps p.tables e below (B.U.setTop { g with pc := g.pc + 3, stack := v.toList ++ rest }) target → Steps p.tables e below (T.setTop g) target) ∨
    (∃ (q : Addr) (vm₁ : Vm) (B : Pt), s.WarmedH vm₁ ∧ Stand p l e R s m args below meth c B.U B.locs B.cells B.slots ∧ PostX ⟨T.setVm vm₁, locs, cells, slots⟩ (Value.ref b :: argsL).toArray q B ∧
      Steps p.tables e below (T.setTop g) ((B.U.setTop { g with stack := rest }).pushFrame (.throwing q))) := by
  obtain ⟨mk, methM, hnamed, hmethM, hstM, habM⟩ := Cond.instanceMethod_spec hinst
  obtain ⟨methM', cM, hmethM', -, -, -, -, -, -, hsigM⟩ := Cond.code_spec hnamed hcode
  cases hmethM.symm.trans hmethM'
  obtain ⟨c2, r2, m2, q1, q2, q3, q4, kP, hkP, hkPi⟩ := Cond.selects_spec hsel
  cases hcls.symm.trans q1
  cases (State.methodFound?_of_named hnamed hy).symm.trans q2
  cases hnamed.symm.trans q3
  have hselP : selectMethod e.platform s.vm cellB.cls mk = .method mk := by rw [Launch.admits_selectMethod X.admits]; exact q4
  obtain ⟨vm₁, X₁, hstep₁⟩ := X.invokevirtual hexec hown hlink hnamed hmethM hstM hkP hkPi hy (a := b) (cell := cellB) hcell
    (fun z h => by rw [h] at hobj; cases hobj) hselP hmethM habM hkP hkPi (g := g) hg (argsL := argsL) (rest := rest) (hlen _ hsigM) hstack hdg
  rcases hK m meth c ⟨T.setVm vm₁, locs, cells, slots⟩ { g with stack := rest } (.invokevirtual index) mk (Value.ref b :: argsL).toArray X₁ hg hsize hdg hW (X₁.named hnamed) (hpre vm₁ X₁.warmed) with ⟨v, B, X', hpost, hsteps⟩ | ⟨q, B, X', hpost, hsteps⟩
  · exact Or.inl ⟨v, vm₁, B, X₁.warmed, X', hpost, fun target h => hstep₁ _ fun acts => by rw [doInvoke_state]; exact hsteps.trans h⟩
  · exact Or.inr ⟨q, vm₁, B, X₁.warmed, X', hpost, hstep₁ _ fun acts => by rw [doInvoke_state]; exact hsteps⟩
theorem vx_callS (X : Stand p l e R s m args below meth c T locs cells slots) (hexec : p.tables.exec = Jvm.exec) {own : String} {index : Nat} {y : MethodName} {bytes : ByteArray} {maxL : Nat} {ret : Option FieldType}
    (hown : s.vm.findClass own = some m.cls) (hlink : (Cond.methodLink own index y).before args s = true) (hstat : (Cond.static y).before args s = true) (hinit : (Cond.initialized y.cls).before args s = true)
    (hcode : (Cond.code y bytes maxL ret).before args s = true) (hy : y.cls ≠ "java/lang/invoke/MethodHandle" ∧ y.cls ≠ "java/lang/invoke/VarHandle")
    {W9 : Nat} {Pre : Pt → Array Value → Prop} {Post : Pt → Array Value → Option Value → Pt → Prop} {PostX : Pt → Array Value → Addr → Pt → Prop} (hK : vx_Back l R p e below s args y 3 W9 Pre Post PostX)
    {g : JFrame} (hg : g.method = m) (hsize : g.locals.size = c.maxLocals) {argsL rest : List Value} (hlen : ∀ sig, parseMethodDescriptor y.desc = some sig → argsL.length = sig.parameters.length)
    (hstack : g.stack = argsL.reverse ++ rest) (hW : 2 * g.monitorRoom + (rest.map fun v => v.category).sum ≤ W9) (hdg : decode c.code g.pc = .ok (.invokestatic index, 3))
    (hpre : ∀ vm₁, s.WarmedH vm₁ → Pre ⟨T.setVm vm₁, locs, cells, slots⟩ argsL.toArray) :
    (∃ (v : Option Value) (vm₁ : Vm) (B : Pt), s.WarmedH vm₁ ∧ Stand p l e R s m args below meth c B.U B.locs B.cells B.slots ∧ Post ⟨T.setVm vm₁, locs, cells, slots⟩ argsL.toArray v B ∧
      ∀ target, Steps p.tables e below (B.U.setTop { g with pc := g.pc + 3, stack := v.toList ++ rest }) target → Steps p.tables e below (T.setTop g) target) ∨
    (∃ (q : Addr) (vm₁ : Vm) (B : Pt), s.WarmedH vm₁ ∧ Stand p l e R s m args below meth c B.U B.locs B.cells B.slots ∧ PostX ⟨T.setVm vm₁, locs, cells, slots⟩ argsL.toArray q B ∧
      Steps p.tables e below (T.setTop g) ((B.U.setTop { g with stack := rest }).pushFrame (.throwing q))) := by
  obtain ⟨mk, hnamed⟩ := Cond.code_named hcode
  obtain ⟨methM, cM, hmethM, -, -, -, -, -, -, hsigM⟩ := Cond.code_spec hnamed hcode
  have hstatic : methM.isStatic = true := Cond.static_spec hnamed hmethM hstat
  obtain ⟨kP, hkP, -⟩ := className_of_methodNamed hnamed
  have hinitP : kP.init = .initialized := Cond.initialized_spec (findClass_of_methodNamed hnamed) hkP hinit
  obtain ⟨vm₁, X₁, hstep₁⟩ := X.invokestatic hexec hown hlink hnamed hmethM hstatic hkP hinitP hy (g := g) hg (argsL := argsL) (rest := rest) (hlen _ hsigM) hstack hdg
  rcases hK m meth c ⟨T.setVm vm₁, locs, cells, slots⟩ { g with stack := rest } (.invokestatic index) mk argsL.toArray X₁ hg hsize hdg hW (X₁.named hnamed) (hpre vm₁ X₁.warmed) with ⟨v, B, X', hpost, hsteps⟩ | ⟨q, B, X', hpost, hsteps⟩
  · exact Or.inl ⟨v, vm₁, B, X₁.warmed, X', hpost, fun target h => hstep₁ _ fun acts => by rw [doInvoke_state]; exact hsteps.trans h⟩
  · exact Or.inr ⟨q, vm₁, B, X₁.warmed, X', hpost, hstep₁ _ fun acts => by rw [doInvoke_state]; exact hsteps⟩
end Calls
theorem vx_cls {s : State} {T : State} {vm₁ : Vm} {E : String} {k : ClassId} (hW : s.WarmedH vm₁) (h : (T.setVm vm₁).vm.findClass E = some k) : s.vm.findClass E = some k := by
  have h1 : vm₁.findClass E = some k := h
  rw [hW.alike.findClass] at h1
  exact h1
/-- the method's frame g, with q thrown over it -/
def vx_W (p : Program) (l : Launch) (e : Env) (R : Room) (s : State) (m : MethodId) (args : Array Value) (below : List Frame) (meth : Method) (c : Code) (H : Heap) (locs : List Loc) (cells slots : Nat) (Q : State → Prop) (g : JFrame) (q : Addr) : Prop :=
  ∀ T : State, T.heap = H → Stand p l e R s m args below meth c T locs cells slots → ∃ t, Steps p.tables e below ((T.setTop g).pushFrame (.throwing q)) t ∧ Q t
def vx_Run (p : Program) (l : Launch) (e : Env) (R : Room) (s : State) (m : MethodId) (args : Array Value) (below : List Frame) (meth : Method) (c : Code) (H : Heap) (locs : List Loc) (cells slots mc ms : Nat) (g : JFrame) (rest : List Value) (Qa : State → Outcome → State → Prop) (XC : String → State → State → Prop) (free : Addr → Prop) : Prop :=
  ∀ T : State, T.heap = H → Stand p l e R s m args below meth c T locs cells slots →
    (∃ (v : Option Value) (st₀ t T' : State) (L : List Loc), st₀.heap = H ∧ Stand p l e R s m args below meth c T' (locs ++ L) (cells + mc) (slots + ms) ∧ (∀ q ∈ L, free q.base) ∧ T'.heap = t.heap ∧ T'.vm = t.vm ∧ Qa st₀ (.returned v) t ∧
      Goes p e below T g T' { g with pc := g.pc + 3, stack := v.toList ++ rest }) ∨
    (∃ (q : Addr) (st₀ t T' : State) (L : List Loc) (E : String) (ce : Cell), st₀.heap = H ∧ Stand p l e R s m args below meth c T' (locs ++ L) (cells + mc) (slots + ms) ∧ (∀ z ∈ L, free z.base) ∧ T'.heap = t.heap ∧ T'.vm = t.vm ∧ XC E st₀ t ∧ t.heap[q]? = some ce ∧ ce.vm = .none ∧ s.vm.findClass E = some ce.cls ∧
      Steps p.tables e below (T.setTop g) ((T'.setTop { g with stack := rest }).pushFrame (.throwing q)))
def vx_X {S : Type} (px : S → Prop) (B : String → S → State → Prop) (A : Nat → Prop) : String → State → State → Prop := fun E st t => ∃ u : S, px u ∧ B E u t ∧ va_F A st t
section Runs
variable {p : Program} {l : Launch} {e : Env} {R : Room} {s : State} {m : MethodId} {args : Array Value} {below : List Frame} {meth : Method} {c : Code} {H : Heap} {locs : List Loc} {cells slots : Nat}
variable {y : MethodName} {bytes cc : ByteArray} {maxL nL mc ms n index : Nat} {ret : Option FieldType} {ws : List Cond} {rm : Room} {Pc : Array Value → State → Prop} {Qc : Array Value → State → Outcome → State → Prop} {XC : String → State → State → Prop} {free : Addr → Prop} {Ts : List Cond} {own C : String} {b : Addr} {As rest : List Value} {g : JFrame}
theorem vx_callBack (cb : CallB R s args own index y bytes maxL ret ws rm mc ms n) (hM : vx_Met l y ws rm Pc Qc XC mc ms free) (hbl : FrameBlind Pc) : vx_Back l R p e below s args y 3 8 (PreOf R mc ms Pc) (PostOf Qc mc ms free) (vx_Post XC mc ms free) := by
  obtain ⟨hrc, hrs, hfr, hlo, hws, hcw, -, hini, -⟩ := cb
  exact vx_back (bytes := bytes) (maxL := maxL) (ret := ret) hM hbl hrc hrs hfr hlo hws hcw (fun a' U hW => word_at hW (Or.inl (by first | rfl | simp [Cond.onTables, Cond.keeps, Cond.steady])) hini)
theorem vx_runV (S : CallFix p m c cc nL s args Ts own) (hM : vx_Met l y ws rm Pc Qc XC mc ms free) (cw : CallW R s args own C index y bytes maxL ret ws rm mc ms n) (hp : PreV s H C b Pc As)
    (hg : g.method = m) (hn : As.length = n) (hsize : g.locals.size = nL) (hstack : g.stack = As.reverse ++ .ref b :: rest) (hW : 2 * g.monitorRoom + (rest.map fun v => v.category).sum ≤ 8) (hdg : decode cc g.pc = .ok (.invokevirtual index, 3)) (hf : cells + mc ≤ R.cells ∧ slots + ms ≤ R.slots) :
    vx_Run p l e R s m args below meth c H locs cells slots mc ms g rest (Qc (Value.ref b :: As).toArray) XC free := by
  have hK : vx_Back l R p e below s args y 3 8 (PreOf R mc ms Pc) (PostOf Qc mc ms free) (vx_Post XC mc ms free) := vx_callBack cw.1 hM hp.1
  obtain ⟨⟨-, -, -, -, -, -, hcode, -, hy, hlen, hl⟩, hin, hse⟩ := cw
  obtain ⟨hx, hb, hml, ho, -⟩ := S
  obtain ⟨-, ⟨cellB, hcB, hoB, hclB⟩, hPc⟩ := hp
  intro T hT X
  rcases vx_callV X hx (C := C) (bytes := bytes) (maxL := maxL) (ret := ret) ho hl hin hse hcode hy hK (by rw [hT]; exact hcB) hoB hclB hg (hsize.trans hml.symm) (argsL := As) (rest := rest) (fun sig h => hn.trans (hlen sig h)) hstack hW (by rw [hb]; exact hdg)
    (fun vm₁ hW₁ => ⟨hf.1, hf.2, hPc (T.setVm vm₁) hT hW₁⟩) with ⟨v, vm₁, ⟨U', l2, c2, s2⟩, hW₁, X', ⟨g', mk, t, L, e1, e2, hq, h1, hL, h2, h3⟩, st⟩ | ⟨q, vm₁, ⟨U', l2, c2, s2⟩, hW₁, X', ⟨g', mk, t, L, E, ce, e1, e2, hq, hce, hcv, hcl, h1, hL, h2, h3⟩, st⟩
  · dsimp only [Pt.U, Pt.locs, Pt.cells, Pt.slots] at X' e1 e2 h1 h2 h3 st
    subst h1; subst h2; subst h3
    exact Or.inl ⟨v, (T.setVm vm₁).calling g' mk (Value.ref b :: As).toArray, t, U', L, hT, X', hL, e1, e2, hq, st⟩
  · dsimp only [Pt.U, Pt.locs, Pt.cells, Pt.slots] at X' e1 e2 h1 h2 h3 st hcl
    subst h1; subst h2; subst h3
    exact Or.inr ⟨q, (T.setVm vm₁).calling g' mk (Value.ref b :: As).toArray, t, U', L, E, ce, hT, X', hL, e1, e2, hq, hce, hcv, vx_cls hW₁ hcl, st⟩
theorem vx_runS (S : CallFix p m c cc nL s args Ts own) (hM : vx_Met l y ws rm Pc Qc XC mc ms free) (cw : CallB R s args own index y bytes maxL ret ws rm mc ms n ∧ (Cond.static y).before args s = true) (hp : PreS s H Pc As)
    (hg : g.method = m) (hn : As.length = n) (hsize : g.locals.size = nL) (hstack : g.stack = As.reverse ++ rest) (hW : 2 * g.monitorRoom + (rest.map fun v => v.category).sum ≤ 8) (hdg : decode cc g.pc = .ok (.invokestatic index, 3)) (hf : cells + mc ≤ R.cells ∧ slots + ms ≤ R.slots) :
    vx_Run p l e R s m args below meth c H locs cells slots mc ms g rest (Qc As.toArray) XC free := by
  have hK : vx_Back l R p e below s args y 3 8 (PreOf R mc ms Pc) (PostOf Qc mc ms free) (vx_Post XC mc ms free) := vx_callBack cw.1 hM hp.1
  obtain ⟨⟨-, -, -, -, -, -, hcode, hini, hy, hlen, hl⟩, hstt⟩ := cw
  obtain ⟨hx, hb, hml, ho, -⟩ := S
  intro T hT X
  rcases vx_callS X hx (bytes := bytes) (maxL := maxL) (ret := ret) ho hl hstt hini hcode hy hK hg (hsize.trans hml.symm) (argsL := As) (rest := rest) (fun sig h => hn.trans (hlen sig h)) hstack hW (by rw [hb]; exact hdg)
    (fun vm₁ hW₁ => ⟨hf.1, hf.2, hp.2 (T.setVm vm₁) hT hW₁⟩) with ⟨v, vm₁, ⟨U', l2, c2, s2⟩, hW₁, X', ⟨g', mk, t, L, e1, e2, hq, h1, hL, h2, h3⟩, st⟩ | ⟨q, vm₁, ⟨U', l2, c2, s2⟩, hW₁, X', ⟨g', mk, t, L, E, ce, e1, e2, hq, hce, hcv, hcl, h1, hL, h2, h3⟩, st⟩
  · dsimp only [Pt.U, Pt.locs, Pt.cells, Pt.slots] at X' e1 e2 h1 h2 h3 st
    subst h1; subst h2; subst h3
    exact Or.inl ⟨v, (T.setVm vm₁).calling g' mk As.toArray, t, U', L, hT, X', hL, e1, e2, hq, st⟩
  · dsimp only [Pt.U, Pt.locs, Pt.cells, Pt.slots] at X' e1 e2 h1 h2 h3 st hcl
    subst h1; subst h2; subst h3
    exact Or.inr ⟨q, (T.setVm vm₁).calling g' mk As.toArray, t, U', L, E, ce, hT, X', hL, e1, e2, hq, hce, hcv, vx_cls hW₁ hcl, st⟩
end Runs
section Rows
variable {p : Program} {l : Launch} {e : Env} {R : Room} {s : State} {m : MethodId} {args : Array Value} {below : List Frame} {meth : Method} {c : Code} {H : Heap} {locs : List Loc} {cells slots : Nat} {Q : State → Prop}
variable {mc ms : Nat} {free : Addr → Prop} {A0 A1 : Nat → Prop} {H0 : Heap} {a : Array Value} {pc : Nat} {ls : Array Slot} {st0 rest : List Value}
theorem vx_keep {st₀ t T' : State} {L : List Loc} (h0 : st₀.heap = H) (e1 : T'.heap = t.heap) (hS : va_S A0 H0 H locs) (hA : ∀ q, q < H.size → A1 q → A0 q) (hf : ∀ q, free q → A0 q) (hL : ∀ q ∈ L, free q.base) (hF : va_F A1 st₀ t) :
    H.size ≤ T'.heap.size ∧ (∀ q : Nat, q < H.size → ¬ A1 q → T'.heap[q]? = H[q]?) ∧ va_S A0 H0 T'.heap (locs ++ L) := by
  obtain ⟨hz, hk⟩ := hF
  rw [h0] at hz hk
  exact ⟨by rw [e1]; exact hz, fun q h1 h2 => by rw [e1]; exact hk q h1 h2,
    ⟨Nat.le_trans hS.1 (by rw [e1]; exact hz), fun q h1 h2 => by rw [e1, hk q (Nat.lt_of_lt_of_le h1 hS.1) (fun z => h2 (hA q (Nat.lt_of_lt_of_le h1 hS.1) z))]; exact hS.2.1 q h1 h2, fun q hq => by
      rcases List.mem_append.mp hq with h | h
      · exact hS.2.2 q h
      · exact hf _ (hL q h)⟩⟩
theorem vx_calli {S SX : Type} {post : Int32 → S → Prop} {px : SX → Prop} {B : S → State → Prop} {BX : String → SX → State → Prop} {AX : Nat → Prop} (hr : vx_Run p l e R s m args below meth c H locs cells slots mc ms (F0 m pc ls st0) rest (va_Qi post B A1 a) (vx_X px BX AX) free) (hS : va_S A0 H0 H locs) (hA : ∀ q, q < H.size → A1 q → A0 q) (hf : ∀ q, free q → A0 q) (hAX : ∀ q, q < H.size → AX q → A0 q)
    (kx : ∀ (E : String) (ce : Cell) (q9 : Addr) (u : SX) (t : State) (H1 : Heap) (locs1 : List Loc), t.heap = H1 → s.vm.Alike t.vm → px u → BX E u t → H.size ≤ H1.size → (∀ q : Nat, q < H.size → ¬ AX q → H1[q]? = H[q]?) → va_S A0 H0 H1 locs1 → H1[q9]? = some ce → ce.vm = .none → s.vm.findClass E = some ce.cls → vx_W p l e R s m args below meth c H1 locs1 (cells + mc) (slots + ms) Q (F0 m pc ls rest) q9)
    (kk : ∀ (r : Int32) (u : S) (t : State) (H1 : Heap) (locs1 : List Loc), t.heap = H1 → s.vm.Alike t.vm → post r u → B u t → H.size ≤ H1.size → (∀ q : Nat, q < H.size → ¬ A1 q → H1[q]? = H[q]?) → va_S A0 H0 H1 locs1 → W p l e R s m args below meth c H1 locs1 (cells + mc) (slots + ms) Q (F0 m (pc + 3) ls (.int r :: rest))) : W p l e R s m args below meth c H locs cells slots Q (F0 m pc ls st0) := by
  intro T hT X
  rcases hr T hT X with ⟨v, st₀, t, T', L, h0, X', hL, e1, e2, ⟨⟨r, u, hv, hp, hb⟩, hF⟩, st⟩ | ⟨q, st₀, t, T', L, E, ce, h0, X', hL, e1, e2, ⟨u, hp, hb, hF⟩, hce, hcv, hcl, st⟩
  · cases hv
    obtain ⟨k1, k2, k3⟩ := vx_keep h0 e1 hS hA hf hL hF
    obtain ⟨t2, a1, b1⟩ := kk r u t T'.heap (locs ++ L) e1.symm (by rw [← e2]; exact X'.warmed.alike) hp hb k1 k2 k3 T' rfl X'
    exact ⟨t2, st t2 a1, b1⟩
  · obtain ⟨k1, k2, k3⟩ := vx_keep h0 e1 hS hAX hf hL hF
    obtain ⟨t2, a1, b1⟩ := kx E ce q u t T'.heap (locs ++ L) e1.symm (by rw [← e2]; exact X'.warmed.alike) hp hb k1 k2 k3 (by rw [e1]; exact hce) hcv hcl T' rfl X'
    exact ⟨t2, st.trans a1, b1⟩
theorem vx_calll {S SX : Type} {post : Int64 → S → Prop} {px : SX → Prop} {B : S → State → Prop} {BX : String → SX → State → Prop} {AX : Nat → Prop} (hr : vx_Run p l e R s m args below meth c H locs cells slots mc ms (F0 m pc ls st0) rest (va_Ql post B A1 a) (vx_X px BX AX) free) (hS : va_S A0 H0 H locs) (hA : ∀ q, q < H.size → A1 q → A0 q) (hf : ∀ q, free q → A0 q) (hAX : ∀ q, q < H.size → AX q → A0 q)
    (kx : ∀ (E : String) (ce : Cell) (q9 : Addr) (u : SX) (t : State) (H1 : Heap) (locs1 : List Loc), t.heap = H1 → s.vm.Alike t.vm → px u → BX E u t → H.size ≤ H1.size → (∀ q : Nat, q < H.size → ¬ AX q → H1[q]? = H[q]?) → va_S A0 H0 H1 locs1 → H1[q9]? = some ce → ce.vm = .none → s.vm.findClass E = some ce.cls → vx_W p l e R s m args below meth c H1 locs1 (cells + mc) (slots + ms) Q (F0 m pc ls rest) q9)
    (kk : ∀ (r : Int64) (u : S) (t : State) (H1 : Heap) (locs1 : List Loc), t.heap = H1 → s.vm.Alike t.vm → post r u → B u t → H.size ≤ H1.size → (∀ q : Nat, q < H.size → ¬ A1 q → H1[q]? = H[q]?) → va_S A0 H0 H1 locs1 → W p l e R s m args below meth c H1 locs1 (cells + mc) (slots + ms) Q (F0 m (pc + 3) ls (.long r :: rest))) : W p l e R s m args below meth c H locs cells slots Q (F0 m pc ls st0) := by
  intro T hT X
  rcases hr T hT X with ⟨v, st₀, t, T', L, h0, X', hL, e1, e2, ⟨⟨r, u, hv, hp, hb⟩, hF⟩, st⟩ | ⟨q, st₀, t, T', L, E, ce, h0, X', hL, e1, e2, ⟨u, hp, hb, hF⟩, hce, hcv, hcl, st⟩
  · cases hv
    obtain ⟨k1, k2, k3⟩ := vx_keep h0 e1 hS hA hf hL hF
    obtain ⟨t2, a1, b1⟩ := kk r u t T'.heap (locs ++ L) e1.symm (by rw [← e2]; exact X'.warmed.alike) hp hb k1 k2 k3 T' rfl X'
    exact ⟨t2, st t2 a1, b1⟩
  · obtain ⟨k1, k2, k3⟩ := vx_keep h0 e1 hS hAX hf hL hF
    obtain ⟨t2, a1, b1⟩ := kx E ce q u t T'.heap (locs ++ L) e1.symm (by rw [← e2]; exact X'.warmed.alike) hp hb k1 k2 k3 (by rw [e1]; exact hce) hcv hcl T' rfl X'
    exact ⟨t2, st.trans a1, b1⟩
theorem vx_callf {S SX : Type} {post : UInt32 → S → Prop} {px : SX → Prop} {B : S → State → Prop} {BX : String → SX → State → Prop} {AX : Nat → Prop} (hr : vx_Run p l e R s m args below meth c H locs cells slots mc ms (F0 m pc ls st0) rest (va_Qf post B A1 a) (vx_X px BX AX) free) (hS : va_S A0 H0 H locs) (hA : ∀ q, q < H.size → A1 q → A0 q) (hf : ∀ q, free q → A0 q) (hAX : ∀ q, q < H.size → AX q → A0 q)
    (kx : ∀ (E : String) (ce : Cell) (q9 : Addr) (u : SX) (t : State) (H1 : Heap) (locs1 : List Loc), t.heap = H1 → s.vm.Alike t.vm → px u → BX E u t → H.size ≤ H1.size → (∀ q : Nat, q < H.size → ¬ AX q → H1[q]? = H[q]?) → va_S A0 H0 H1 locs1 → H1[q9]? = some ce → ce.vm = .none → s.vm.findClass E = some ce.cls → vx_W p l e R s m args below meth c H1 locs1 (cells + mc) (slots + ms) Q (F0 m pc ls rest) q9)
    (kk : ∀ (r : UInt32) (u : S) (t : State) (H1 : Heap) (locs1 : List Loc), t.heap = H1 → s.vm.Alike t.vm → post r u → B u t → H.size ≤ H1.size → (∀ q : Nat, q < H.size → ¬ A1 q → H1[q]? = H[q]?) → va_S A0 H0 H1 locs1 → W p l e R s m args below meth c H1 locs1 (cells + mc) (slots + ms) Q (F0 m (pc + 3) ls (.float r :: rest))) : W p l e R s m args below meth c H locs cells slots Q (F0 m pc ls st0) := by
  intro T hT X
  rcases hr T hT X with ⟨v, st₀, t, T', L, h0, X', hL, e1, e2, ⟨⟨r, u, hv, hp, hb⟩, hF⟩, st⟩ | ⟨q, st₀, t, T', L, E, ce, h0, X', hL, e1, e2, ⟨u, hp, hb, hF⟩, hce, hcv, hcl, st⟩
  · cases hv
    obtain ⟨k1, k2, k3⟩ := vx_keep h0 e1 hS hA hf hL hF
    obtain ⟨t2, a1, b1⟩ := kk r u t T'.heap (locs ++ L) e1.symm (by rw [← e2]; exact X'.warmed.alike) hp hb k1 k2 k3 T' rfl X'
    exact ⟨t2, st t2 a1, b1⟩
  · obtain ⟨k1, k2, k3⟩ := vx_keep h0 e1 hS hAX hf hL hF
    obtain ⟨t2, a1, b1⟩ := kx E ce q u t T'.heap (locs ++ L) e1.symm (by rw [← e2]; exact X'.warmed.alike) hp hb k1 k2 k3 (by rw [e1]; exact hce) hcv hcl T' rfl X'
    exact ⟨t2, st.trans a1, b1⟩
theorem vx_calld {S SX : Type} {post : UInt64 → S → Prop} {px : SX → Prop} {B : S → State → Prop} {BX : String → SX → State → Prop} {AX : Nat → Prop} (hr : vx_Run p l e R s m args below meth c H locs cells slots mc ms (F0 m pc ls st0) rest (va_Qd post B A1 a) (vx_X px BX AX) free) (hS : va_S A0 H0 H locs) (hA : ∀ q, q < H.size → A1 q → A0 q) (hf : ∀ q, free q → A0 q) (hAX : ∀ q, q < H.size → AX q → A0 q)
    (kx : ∀ (E : String) (ce : Cell) (q9 : Addr) (u : SX) (t : State) (H1 : Heap) (locs1 : List Loc), t.heap = H1 → s.vm.Alike t.vm → px u → BX E u t → H.size ≤ H1.size → (∀ q : Nat, q < H.size → ¬ AX q → H1[q]? = H[q]?) → va_S A0 H0 H1 locs1 → H1[q9]? = some ce → ce.vm = .none → s.vm.findClass E = some ce.cls → vx_W p l e R s m args below meth c H1 locs1 (cells + mc) (slots + ms) Q (F0 m pc ls rest) q9)
    (kk : ∀ (r : UInt64) (u : S) (t : State) (H1 : Heap) (locs1 : List Loc), t.heap = H1 → s.vm.Alike t.vm → post r u → B u t → H.size ≤ H1.size → (∀ q : Nat, q < H.size → ¬ A1 q → H1[q]? = H[q]?) → va_S A0 H0 H1 locs1 → W p l e R s m args below meth c H1 locs1 (cells + mc) (slots + ms) Q (F0 m (pc + 3) ls (.double r :: rest))) : W p l e R s m args below meth c H locs cells slots Q (F0 m pc ls st0) := by
  intro T hT X
  rcases hr T hT X with ⟨v, st₀, t, T', L, h0, X', hL, e1, e2, ⟨⟨r, u, hv, hp, hb⟩, hF⟩, st⟩ | ⟨q, st₀, t, T', L, E, ce, h0, X', hL, e1, e2, ⟨u, hp, hb, hF⟩, hce, hcv, hcl, st⟩
  · cases hv
    obtain ⟨k1, k2, k3⟩ := vx_keep h0 e1 hS hA hf hL hF
    obtain ⟨t2, a1, b1⟩ := kk r u t T'.heap (locs ++ L) e1.symm (by rw [← e2]; exact X'.warmed.alike) hp hb k1 k2 k3 T' rfl X'
    exact ⟨t2, st t2 a1, b1⟩
  · obtain ⟨k1, k2, k3⟩ := vx_keep h0 e1 hS hAX hf hL hF
    obtain ⟨t2, a1, b1⟩ := kx E ce q u t T'.heap (locs ++ L) e1.symm (by rw [← e2]; exact X'.warmed.alike) hp hb k1 k2 k3 (by rw [e1]; exact hce) hcv hcl T' rfl X'
    exact ⟨t2, st.trans a1, b1⟩
theorem vx_callv {S SX : Type} {post : S → Prop} {px : SX → Prop} {B : S → State → Prop} {BX : String → SX → State → Prop} {AX : Nat → Prop} (hr : vx_Run p l e R s m args below meth c H locs cells slots mc ms (F0 m pc ls st0) rest (va_Qv post B A1 a) (vx_X px BX AX) free) (hS : va_S A0 H0 H locs) (hA : ∀ q, q < H.size → A1 q → A0 q) (hf : ∀ q, free q → A0 q) (hAX : ∀ q, q < H.size → AX q → A0 q)
    (kx : ∀ (E : String) (ce : Cell) (q9 : Addr) (u : SX) (t : State) (H1 : Heap) (locs1 : List Loc), t.heap = H1 → s.vm.Alike t.vm → px u → BX E u t → H.size ≤ H1.size → (∀ q : Nat, q < H.size → ¬ AX q → H1[q]? = H[q]?) → va_S A0 H0 H1 locs1 → H1[q9]? = some ce → ce.vm = .none → s.vm.findClass E = some ce.cls → vx_W p l e R s m args below meth c H1 locs1 (cells + mc) (slots + ms) Q (F0 m pc ls rest) q9)
    (kk : ∀ (u : S) (t : State) (H1 : Heap) (locs1 : List Loc), t.heap = H1 → s.vm.Alike t.vm → post u → B u t → H.size ≤ H1.size → (∀ q : Nat, q < H.size → ¬ A1 q → H1[q]? = H[q]?) → va_S A0 H0 H1 locs1 → W p l e R s m args below meth c H1 locs1 (cells + mc) (slots + ms) Q (F0 m (pc + 3) ls (rest))) : W p l e R s m args below meth c H locs cells slots Q (F0 m pc ls st0) := by
  intro T hT X
  rcases hr T hT X with ⟨v, st₀, t, T', L, h0, X', hL, e1, e2, ⟨⟨u, hv, hp, hb⟩, hF⟩, st⟩ | ⟨q, st₀, t, T', L, E, ce, h0, X', hL, e1, e2, ⟨u, hp, hb, hF⟩, hce, hcv, hcl, st⟩
  · cases hv
    obtain ⟨k1, k2, k3⟩ := vx_keep h0 e1 hS hA hf hL hF
    obtain ⟨t2, a1, b1⟩ := kk u t T'.heap (locs ++ L) e1.symm (by rw [← e2]; exact X'.warmed.alike) hp hb k1 k2 k3 T' rfl X'
    exact ⟨t2, st t2 a1, b1⟩
  · obtain ⟨k1, k2, k3⟩ := vx_keep h0 e1 hS hAX hf hL hF
    obtain ⟨t2, a1, b1⟩ := kx E ce q u t T'.heap (locs ++ L) e1.symm (by rw [← e2]; exact X'.warmed.alike) hp hb k1 k2 k3 (by rw [e1]; exact hce) hcv hcl T' rfl X'
    exact ⟨t2, st.trans a1, b1⟩
/-- caught by the row x of this method's table; the rows ahead don't take it -/
theorem vx_catch {own name : String} {E : String} {ce : Cell} {q : Addr} (hown : s.vm.findClass own = some m.cls) (pre : List ExceptionTableEntry) (x : ExceptionTableEntry) (suf : List ExceptionTableEntry) (hsplit : c.exceptionTable.toList = pre ++ x :: suf)
    (hpass : ∀ z ∈ pre, covers z pc = false ∨ (z.catchType ≠ 0 ∧ ∃ nm : String, (Cond.classLink own z.catchType nm).before args s = true ∧ va_Nc E nm s)) (hx : covers x pc = true) (h0 : x.catchType ≠ 0)
    (hlink : (Cond.classLink own x.catchType name).before args s = true) (hcast : (Cond.castable E name).before args s = true) (hcell : H[q]? = some ce) (hv : ce.vm = .none) (hcl : s.vm.findClass E = some ce.cls)
    (kk : W p l e R s m args below meth c H locs cells slots Q (F0 m x.handlerPc ls [.ref q])) : vx_W p l e R s m args below meth c H locs cells slots Q (F0 m pc ls rest) q := by
  intro T hT X
  have hpl : e.platform.magicAccessors = ({} : Platform).magicAccessors := by rw [X.admits.platform]
  obtain ⟨c3, c4, hc3, hc4, hasg⟩ := Cond.castable_spec hcast
  cases Option.some.inj (hc3.symm.trans hcl)
  obtain ⟨c5, hc5, hcl5⟩ := Cond.classLink_spec hown hlink e.platform hpl
  cases Option.some.inj (hc4.symm.trans hc5)
  obtain ⟨vm', X', st⟩ := X.thenCaughtThrough q (g := F0 m pc ls rest) rfl (Steps.refl _) (by rw [hT]; exact hcell) (by rw [hv]; rfl) (by obtain ⟨k9, h9, -⟩ := Vm.findClass_spec hcl; exact ⟨k9, h9⟩) pre x suf hsplit
    (fun z hz => by
      rcases hpass z hz with h | ⟨hz0, nm, hl1, hn1⟩
      · exact Or.inl h
      · obtain ⟨c6, hc6, hcl6⟩ := Cond.classLink_spec hown hl1 e.platform hpl
        obtain ⟨a8, b8, h1, h2, h3⟩ := hn1
        cases Option.some.inj (h1.symm.trans hcl)
        cases Option.some.inj (h2.symm.trans hc6)
        exact Or.inr ⟨hz0, _, hcl6, h3⟩) hx (Or.inr ⟨h0, c4, hcl5, hasg⟩)
  obtain ⟨t, a1, b1⟩ := kk (T.setVm vm') hT X'
  exact ⟨t, st.trans a1, b1⟩
end Rows
section Ends
variable {p : Program} {l : Launch} {e : Env} {R : Room} {s : State} {m : MethodId} {args : Array Value} {below : List Frame} {meth : Method} {c : Code} {H : Heap} {locs : List Loc} {cells slots : Nat} {Q : State → Prop}
variable {mc ms : Nat} {free : Addr → Prop} {A0 A1 : Nat → Prop} {H0 : Heap} {a : Array Value} {ls : Array Slot} {st0 rest : List Value}
variable {Qc : Array Value → State → Outcome → State → Prop} {XC : String → State → State → Prop}
/-- what a body that may throw owes at its end -/
def vx_MQ (below : List Frame) (Qc : Array Value → State → Outcome → State → Prop) (XC : String → State → State → Prop) (a : Array Value) (s : State) (mc ms : Nat) (free : Addr → Prop) : State → Prop := fun t =>
  ∃ o, t.status = .running ∧ Ended t below o ∧ vx_Q Qc XC mc ms free a s o t
theorem vx_ret {g : JFrame} {mc ms : Nat} (k : W p l e R s m args below meth c H locs cells slots (MQ below Qc args s mc ms free) g) : W p l e R s m args below meth c H locs cells slots (vx_MQ below Qc XC args s mc ms free) g := by
  intro T hT X
  obtain ⟨t, a1, o, b1, b2, b3, b4⟩ := k T hT X
  exact ⟨t, a1, o, b1, b2, Or.inl ⟨b3, b4⟩⟩
/-- not caught here: it goes on to the caller -/
theorem vx_widen {g : JFrame} {q : Addr} {k n : Nat} (h1 : cells ≤ k) (h2 : slots ≤ n) (kk : vx_W p l e R s m args below meth c H locs k n Q g q) : vx_W p l e R s m args below meth c H locs cells slots Q g q := fun T hT X => kk T hT (stand_widen X h1 h2)
theorem vx_out {pc : Nat} {E : String} {ce : Cell} {q : Addr} {mc ms : Nat} (hout : ∀ x ∈ c.exceptionTable.toList, covers x pc = false) (hlocks : meth.locks = false) (hcell : H[q]? = some ce) (hv : ce.vm = .none) (hcl : s.vm.findClass E = some ce.cls)
    (hx : ∀ t : State, t.heap = H → s.vm.Alike t.vm → XC E s t) (hf : ∀ z ∈ locs, free z.base) (hc : cells ≤ mc) (hs : slots ≤ ms) :
    vx_W p l e R s m args below meth c H locs cells slots (vx_MQ below Qc XC args s mc ms free) (F0 m pc ls rest) q := by
  intro T hT X
  obtain ⟨st1, hrun, hend, hW, hsm⟩ := X.leaveThrown q (g := F0 m pc ls rest) rfl rfl rfl hout hlocks
  have hcell9 : (T.setFrames (.throwing q :: below)).heap[q]? = some ce := by
    show T.heap[q]? = some ce
    rw [hT]; exact hcell
  exact ⟨_, st1, .threw q, hrun, hend, Or.inr ⟨q, rfl, E, ce, locs, hx _ hT hW.alike, hcell9, hv, hcl, hW, hsm.mono hc hs, hf⟩⟩
theorem vx_frame {U : State} {k n : Nat} (h : s.sameButNew ({ U with vm := s.vm } : State) locs k n) : s.heap.size ≤ U.heap.size ∧ ∀ q : Nat, q < s.heap.size → (∀ z ∈ locs, z.base ≠ q) → U.heap[q]? = s.heap[q]? := by
  obtain ⟨-, h2, -, -, -, h6⟩ := h
  refine ⟨h2, fun q hq hz => ?_⟩
  obtain ⟨c9, e1, e2, e3, e4⟩ := h6 q _ (Array.getElem?_eq_getElem hq)
  have hs : c9.slots = (s.heap[q]).slots := Array.ext_getElem? fun i => e4 i fun hm => hz _ hm rfl
  have h9 : c9 = s.heap[q] := by
    rw [hs] at e2
    exact e2
  have e5 : U.heap[q]? = some c9 := e1
  rw [e5, h9, Array.getElem?_eq_getElem hq]
/-- the words of a throw but the four that speak of the heap -/
def vx_no (w : Cond) : Bool := decide (w ≠ .isRef (.static Bundle.tN "UNASSIGNED_STACK" Bundle.steD)) && decide (w ≠ .isRef (.static Bundle.tN "SUPPRESSED_SENTINEL" Bundle.listD)) && decide (w ≠ .laysStatic Bundle.tN "UNASSIGNED_STACK" Bundle.steD) && decide (w ≠ .laysStatic Bundle.tN "SUPPRESSED_SENTINEL" Bundle.listD)
def vx_at0 (own : String) (ic : Nat) (X : String) (names : List String) : List Cond := (Bundle.ownAtoms0 own ic X names).filter vx_no
def vx_atS (own : String) (ic : Nat) (X : String) (names : List String) : List Cond := (Bundle.ownAtoms own ic X names).filter vx_no
/-- a word that the tables alone decide, or a good one -/
def vx_ot (w : Cond) : Bool := w.onTables || goodWord w
theorem vx_ot_at {args a' : Array Value} {s U : State} {w : Cond} (hW : s.WarmedH U.vm) (hvm : s.vm = U.vm) (hg : vx_ot w = true) (h : w.before args s = true) : w.before a' U = true := by
  simp only [vx_ot, Bool.or_eq_true] at hg
  rcases hg with hg | hg
  · exact va_tabs hg hvm h
  · exact word_at hW (good_of_word hg) h
/-- a list's words: the good ones out of the method's own list, the others by premises of their own -/
theorem vx_hat {args : Array Value} {s : State} {L B : List Cond} (h1 : ∀ w ∈ L.filter goodWord, w.before args s = true) (h2 : ∀ w ∈ L.filter (fun w => !goodWord w), w ∈ B) (h3 : ∀ w ∈ B, w.before args s = true) : ∀ w ∈ L, w.before args s = true := by
  intro w hw
  by_cases g : goodWord w = true
  · exact h1 w (List.mem_filter.mpr ⟨hw, g⟩)
  · refine h3 w (h2 w (List.mem_filter.mpr ⟨hw, ?_⟩))
    show (!goodWord w) = true
    cases hgw : goodWord w
    · rfl
    · exact absurd hgw g
theorem vx_c {args : Array Value} {s : State} {w : Cond} {B : List Cond} (h : w.before args s = true) (t : ∀ w ∈ B, w.before args s = true) : ∀ w' ∈ w :: B, w'.before args s = true := fun w' h' => (List.mem_cons.mp h').elim (fun e => by rw [e]; exact h) (t w')
theorem vx_n {args : Array Value} {s : State} : ∀ w ∈ ([] : List Cond), w.before args s = true := fun _ h => nomatch h
theorem vx_own {args : Array Value} {s : State} {L : List Cond} (h1 : ∀ w ∈ L.filter vx_no, w.before args s = true)
    (hU : (Cond.isRef (.static Bundle.tN "UNASSIGNED_STACK" Bundle.steD)).before args s = true) (hN : (Cond.isRef (.static Bundle.tN "SUPPRESSED_SENTINEL" Bundle.listD)).before args s = true)
    (lU : (Cond.laysStatic Bundle.tN "UNASSIGNED_STACK" Bundle.steD).before args s = true) (lN : (Cond.laysStatic Bundle.tN "SUPPRESSED_SENTINEL" Bundle.listD).before args s = true) : ∀ w ∈ L, w.before args s = true := by
  intro w hw
  by_cases e1 : w = .isRef (.static Bundle.tN "UNASSIGNED_STACK" Bundle.steD)
  · rw [e1]; exact hU
  · by_cases e2 : w = .isRef (.static Bundle.tN "SUPPRESSED_SENTINEL" Bundle.listD)
    · rw [e2]; exact hN
    · by_cases e3 : w = .laysStatic Bundle.tN "UNASSIGNED_STACK" Bundle.steD
      · rw [e3]; exact lU
      · by_cases e4 : w = .laysStatic Bundle.tN "SUPPRESSED_SENTINEL" Bundle.listD
        · rw [e4]; exact lN
        · exact h1 w (List.mem_filter.mpr ⟨hw, by unfold vx_no; rw [decide_eq_true e1, decide_eq_true e2, decide_eq_true e3, decide_eq_true e4]; rfl⟩)
/-- where a static field lies, its class's statics cell in H -/
def vx_L (C n d : String) (A : Nat → Prop) (U : State) (H : Heap) : Prop := ∃ (c : ClassId) (k : Class) (i : Nat) (f : Field) (a : Nat) (cell : Cell), U.vm.findClass C = some c ∧ U.fieldFound? C n d = some (c, k, i, f) ∧ f.isStatic = true ∧ k.statics = some a ∧ H[a]? = some cell ∧ cell.vm.isStatics = true ∧ cell.cls = c ∧ f.slot < cell.slots.size ∧ k.staticTypes[f.slot]? = some f.type ∧ ¬ A a
theorem vx_L.moved {C n d : String} {A : Nat → Prop} {u U : State} {H : Heap} (hvm : u.vm.Alike U.vm) (h : vx_L C n d A u H) : vx_L C n d A U H := by
  obtain ⟨c, k, i, f, a, cell, h1, h2, h3, h4, h5, h6, h7, h8, h9, h10⟩ := h
  obtain ⟨k', hi', he⟩ := State.fieldFound?_setVm hvm h2
  exact ⟨c, k', i, f, a, cell, by rw [hvm.findClass]; exact h1, hi', h3, by rw [he]; exact h4, h5, h6, h7, h8, by rw [he]; exact h9, h10⟩
theorem vx_L.kept {C n d : String} {A : Nat → Prop} {U : State} {H H1 : Heap} (h : vx_L C n d A U H) (hq : ∀ a : Nat, a < H.size → ¬ A a → H1[a]? = H[a]?) : vx_L C n d A U H1 := by
  obtain ⟨c, k, i, f, a, cell, h1, h2, h3, h4, h5, h6, h7, h8, h9, h10⟩ := h
  exact ⟨c, k, i, f, a, cell, h1, h2, h3, h4, by rw [hq a (Array.getElem?_eq_some_iff.mp h5).1 h10]; exact h5, h6, h7, h8, h9, h10⟩
theorem vx_L.narrow {C n d : String} {A B : Nat → Prop} {U : State} {H : Heap} (h : vx_L C n d A U H) (hAB : ∀ q, B q → A q) : vx_L C n d B U H := by
  obtain ⟨c, k, i, f, a, cell, h1, h2, h3, h4, h5, h6, h7, h8, h9, h10⟩ := h
  exact ⟨c, k, i, f, a, cell, h1, h2, h3, h4, h5, h6, h7, h8, h9, fun z => h10 (hAB _ z)⟩
theorem vx_L.word {C n d : String} {A : Nat → Prop} {s : State} {args : Array Value} (h : vx_L C n d A s s.heap) : (Cond.laysStatic C n d).before args s = true := by
  obtain ⟨c, k, i, f, a, cell, h1, h2, h3, h4, h5, h6, h7, h8, h9, -⟩ := h
  show (Cond.laysStatic C n d).holds args s none s [] = true
  exact Cond.laysStatic_of h1 h2 h3 h4 h5 h6 h7 h8 h9
/-- .. and what it holds: null or some reference -/
def vx_Zq (C n d : String) (A : Nat → Prop) (U : State) (H : Heap) : Prop := va_Zq C n d A U H ∧ vx_L C n d A U H
theorem vx_Zq.moved {C n d : String} {A : Nat → Prop} {u U : State} {H : Heap} (hvm : u.vm.Alike U.vm) (h : vx_Zq C n d A u H) : vx_Zq C n d A U H := ⟨va_Zq.moved hvm h.1, vx_L.moved hvm h.2⟩
theorem vx_Zq.kept {C n d : String} {A : Nat → Prop} {U : State} {H H1 : Heap} (h : vx_Zq C n d A U H) (hq : ∀ a : Nat, a < H.size → ¬ A a → H1[a]? = H[a]?) : vx_Zq C n d A U H1 := ⟨va_Zq.kept h.1 hq, vx_L.kept h.2 hq⟩
theorem vx_Zq.narrow {C n d : String} {A B : Nat → Prop} {U : State} {H : Heap} (h : vx_Zq C n d A U H) (hAB : ∀ q, B q → A q) : vx_Zq C n d B U H := ⟨va_Zq.narrow h.1 hAB, vx_L.narrow h.2 hAB⟩
theorem vx_Zqof {args : Array Value} {s : State} {C n d : String} {A : Nat → Prop} (hl : (Cond.laysStatic C n d).before args s = true) (hini : (Cond.initialized C).before args s = true) (h : (Cond.isRef (.static C n d)).before args s = true) (hA : ∀ a : Nat, a < s.heap.size → ¬ A a) : vx_Zq C n d A s s.heap := by
  refine ⟨va_Zqof hl hini h hA, ?_⟩
  obtain ⟨c, k, i, f, a, cell, h1, h2, h3, h4, h5, h6, h7, h8, h9⟩ := Cond.laysStatic_spec hl
  exact ⟨c, k, i, f, a, cell, h1, h2, h3, h4, h5, h6, h7, h8, h9, hA a (Array.getElem?_eq_some_iff.mp h5).1⟩
theorem vx_isRef {C n d : String} {v : Value} {A : Nat → Prop} {s : State} {args : Array Value} (h : va_Z C n d v A s s.heap) (hv : v.isRef = true) : (Cond.isRef (.static C n d)).before args s = true := by
  obtain ⟨cf, kf, fi, f, a, cell, h1, h2, h3, h4, h5, h6, h7, -⟩ := h
  have he : (Term.static C n d).eval args s none [] s = some v := by
    simp [Term.eval, State.fieldNamed?, h1, h2, h4, h5, h6, h7]
  simp only [Cond.before, Cond.holds, Cond.value, he]
  cases v <;> simp_all [Value.isRef]
theorem vx_isRefq {C n d : String} {A : Nat → Prop} {s : State} {args : Array Value} (h : va_Zq C n d A s s.heap) : (Cond.isRef (.static C n d)).before args s = true := by
  rcases h with h | ⟨t, h⟩
  · exact vx_isRef h rfl
  · exact vx_isRef h rfl
/-- the same frame, seen from here: as if the method were called anew in this heap -/
theorem vx_rebase {T : State} (X : Stand p l e R s m args below meth c T locs cells slots) {R' : Room} (hf : R'.frames ≤ R.frames) (hl : R'.locals ≤ R.locals) (hc : cells + R'.cells ≤ R.cells) (hs : slots + R'.slots ≤ R.slots) :
    Stand p l e R' ((T.setVm s.vm).setFrames (.invoking m args :: below)) m args below meth c T [] 0 0 := by
  have htop : (T.setVm s.vm).topJava?.isSome := X.here.top
  have hF : ((T.setVm s.vm).setFrames (.invoking m args :: below)).frames = .invoking m args :: below := State.frames_setFrames _ (State.cur_lt_of_top htop)
  obtain ⟨g₀, hg0⟩ := Option.isSome_iff_exists.mp htop
  obtain ⟨r, hr⟩ := State.topJava?_eq_some.mp hg0
  have hl9 : e.platform.stackLimits (T.setVm s.vm).me = e.platform.stackLimits s.me := X.limits
  have hb9 : (T.setVm s.vm).me.stackBytes = s.me.stackBytes := X.bytes
  refine ⟨X.admits, X.cas, X.clock, hF, ?_, X.hears, X.method, X.code, X.here, X.tail, X.warmed, ?_, ?_, ?_⟩
  · have h := X.room
    have hU : ((T.setVm s.vm).setFrames (.invoking m args :: below)).localsInUse = s.localsInUse := by
      rw [State.localsInUse_invoking hF (meth := meth) (c := c) X.method X.code, State.localsInUse_invoking X.frames X.method X.code]
    simp only [State.hasRoom, Bool.and_eq_true, decide_eq_true_eq] at h ⊢
    obtain ⟨⟨⟨⟨h1, h2, h3, h4, h5, h6⟩, h7⟩, h8⟩, h9⟩ := h
    rw [X.frames, List.length_cons] at h2 h3
    have q1 := X.heapSize
    have q2 := X.used
    simp only [hF, hU, List.length_cons, State.stackLimits_setFrames, State.stackBytes_setFrames, hl9, hb9]
    refine ⟨⟨⟨⟨by omega, by omega, by omega, by omega, by omega, h6⟩, ?_⟩, ?_⟩, X.book⟩
    · show T.heap.size + R'.cells ≤ e.platform.maxCells
      omega
    · show T.slotsUsed + R'.slots ≤ e.platform.maxSlots
      omega
  · rw [State.stackLimits_setFrames]; rfl
  · rw [State.stackBytes_setFrames]; rfl
  · refine ⟨?_, Nat.le_refl _, Nat.le_refl _, ?_, ?_, fun a c9 h9 => ⟨c9, h9, rfl, rfl, fun _ _ => rfl⟩⟩
    · obtain ⟨t, ht, -⟩ := State.frames_cons hr
      show T.setVm s.vm = { ((T.setVm s.vm).setFrames (.invoking m args :: below)).setFrames (T.setVm s.vm).frames with heap := T.heap, slotsUsed := T.slotsUsed }
      rw [State.setFrames_setFrames, State.setFrames_self ht]
      rfl
    · show T.slotsUsed = T.slotsUsed + ((T.heap.toList.drop T.heap.size).map (·.slots.size)).sum
      rw [List.drop_eq_nil_of_le (Nat.le_of_eq Array.length_toList)]
      rfl
    · show ((T.heap.toList.drop T.heap.size).map (·.slots.size)).sum ≤ 0
      rw [List.drop_eq_nil_of_le (Nat.le_of_eq Array.length_toList)]
      exact Nat.le_refl _
/-- 'throw new E()': new; dup; invokespecial; athrow -/
theorem vx_throw0 {cc : ByteArray} {pc : Nat} (hexec : p.tables.exec = Jvm.exec) (hb : c.code = cc) (hl : l.stackTraces = false) {own cls : String} {names : List String} {ik ic mc ms : Nat} {A : Nat → Prop}
    (hown : s.vm.findClass own = some m.cls) (hcls : Bundle.fit cls = true) (hnames : ∀ n ∈ names, Bundle.fit n = true)
    (hk : (Cond.classLink own ik cls).before args s = true) (hini : (Cond.initialized cls).before args s = true) (hat : ∀ w ∈ vx_at0 own ic cls names, w.before args s = true)
    (hgood : ∀ w ∈ Cond.classLink own ik cls :: Cond.initialized cls :: vx_at0 own ic cls names, vx_ot w = true)
    (hU : vx_Zq Bundle.tN "UNASSIGNED_STACK" Bundle.steD A s s.heap) (hN : vx_Zq Bundle.tN "SUPPRESSED_SENTINEL" Bundle.listD A s s.heap) (hS : va_S A s.heap H locs) (hsize : ls.size = c.maxLocals)
    (d0 : decode cc pc = .ok (.new ik, 3)) (d3 : decode cc (pc + 3) = .ok (.dup, 1)) (d4 : decode cc (pc + 4) = .ok (.invokespecial ic, 3)) (d7 : decode cc (pc + 7) = .ok (.athrow, 1))
    (hout : ∀ x ∈ c.exceptionTable.toList, covers x (pc + 7) = false)
    (hRframes : names.length + 3 < R.frames) (hRlocals : (rest.map fun v => v.category).sum + (13 * (names.length + 1) + 42) ≤ R.locals) (hRcells : cells + 1 ≤ R.cells) (hRslots : slots + 6 ≤ R.slots) (hlocks : meth.locks = false)
    (hx : ∀ t : State, s.vm.Alike t.vm → H.size ≤ t.heap.size → (∀ q : Nat, q < H.size → t.heap[q]? = H[q]?) → XC cls s t)
    (hf : ∀ z ∈ locs, free z.base) (hc : cells + 1 ≤ mc) (hs : slots + 6 ≤ ms) :
    W p l e R s m args below meth c H locs cells slots (vx_MQ below Qc XC args s mc ms free) (F0 m pc ls rest) := by
  intro T hT X
  have htr : e.platform.stackTraces = false := (show e.platform.stackTraces = l.stackTraces by rw [X.admits.platform]).trans hl
  have Y := vx_rebase X (R' := { frames := R.frames, locals := R.locals, cells := 1, slots := 6 }) (Nat.le_refl _) (Nat.le_refl _) hRcells hRslots
  obtain ⟨s', hA⟩ : ∃ z, z = (T.setVm s.vm).setFrames (.invoking m args :: below) := ⟨_, rfl⟩
  rw [← hA] at Y
  have hvm : s'.vm = s.vm := by rw [hA]; rfl
  have hhp : s'.heap = H := by rw [hA]; exact hT
  have hW0 : s.WarmedH s'.vm := by rw [hvm]; exact State.WarmedH.refl s
  have hat' : ∀ w ∈ vx_at0 own ic cls names, w.before args s' = true := fun w hw => vx_ot_at hW0 hvm.symm (hgood w (List.mem_cons_of_mem _ (List.mem_cons_of_mem _ hw))) (hat w hw)
  have hk' : (Cond.classLink own ik cls).before args s' = true := vx_ot_at hW0 hvm.symm (hgood _ List.mem_cons_self) hk
  have hini' : (Cond.initialized cls).before args s' = true := vx_ot_at hW0 hvm.symm (hgood _ (List.mem_cons_of_mem _ List.mem_cons_self)) hini
  have hU' : vx_Zq Bundle.tN "UNASSIGNED_STACK" Bundle.steD A s' s'.heap := by rw [hhp]; exact vx_Zq.moved hW0.alike (hU.kept hS.2.1)
  have hN' : vx_Zq Bundle.tN "SUPPRESSED_SENTINEL" Bundle.listD A s' s'.heap := by rw [hhp]; exact vx_Zq.moved hW0.alike (hN.kept hS.2.1)
  have h : ∀ w ∈ Bundle.ownAtoms0 own ic cls names, w.before args s' = true := vx_own hat' (vx_isRefq hU'.1) (vx_isRefq hN'.1) hU'.2.word hN'.2.word
  have hown' : s'.vm.findClass own = some m.cls := by rw [hvm]; exact hown
  have hins : (Cond.instantiable cls 6).before args s' = true := h _ (by simp [Bundle.ownAtoms0])
  obtain ⟨vm₁, cX, kX, hfX, hkX, -, -, X₁, st1⟩ := Y.newCold hexec (own := own) (C := cls) (index := ik) (n := 6) hown' hk' hins hini'
    (g := F0 m pc ls rest) rfl (by rw [hb]; exact d0) (Nat.le_refl _) (Nat.le_refl _)
  generalize hT1 : (T.setVm vm₁).pushCell { cls := cX, slots := kX.instanceTypes.map defaultValue, vm := .none } = T1 at X₁ st1
  have hcat : (Value.ref T.heap.size).category = 1 := rfl
  have hcellA : T1.heap[T.heap.size]? = some (freshCell cX kX) := by rw [← hT1]; exact State.heap_pushCell_size _ _
  have d3' : decode c.code (pc + 3) = .ok (.dup, 1) := by rw [hb]; exact d3
  obtain ⟨U, hsteps, hrun, hend, hW, hsame, ce, hce, hO⟩ := X₁.ctorThrow0 hexec htr (own := own) (cls := cls) (names := names) (ic := ic) hown' hcls hnames h (fun x hx => nomatch hx) hfX hkX hcellA (by rw [hhp, hT]; exact Nat.le_refl _)
    (g := { method := m, pc := pc + 4, locals := ls, stack := .ref T.heap.size :: .ref T.heap.size :: rest, locked := none }) rfl hsize rfl rfl (rest := rest) rfl
    (by rw [hb]; exact d4) (by rw [hb]; exact d7) hout hRframes (by simp only [List.map_cons, List.sum_cons, hcat]; omega) hlocks
  obtain ⟨f1, f2⟩ := vx_frame hsame
  rw [hhp] at f1 f2
  have hWs : s.WarmedH U.vm := State.WarmedH.trans hW0 hW
  have hcl : s.vm.findClass cls = some ce.cls := by
    have h9 := hO.cls
    rw [hvm] at h9
    exact h9
  have hall : s.sameButNew ({ U with vm := s.vm } : State) locs mc ms := by
    subst hA
    obtain ⟨e1, e2⟩ := hsame
    rw [State.setFrames_setFrames] at e1
    have h2 : (T.setVm s.vm).sameButNew ({ U with vm := s.vm } : State) [] (0 + 1) (0 + 6) := ⟨e1, e2⟩
    have h3 := X.same.trans h2
    rw [List.append_nil] at h3
    exact h3.mono hc hs
  refine ⟨U, ?_, .threw T.heap.size, hrun, hend, Or.inr ⟨T.heap.size, rfl, cls, ce, locs, hx U hWs.alike f1 (fun q hq => f2 q hq (fun z hz => nomatch hz)), hce, hO.vm, hcl, hWs, hall, hf⟩⟩
  refine st1 _ ?_
  show Steps p.tables e below (T1.setTop { method := m, pc := pc + 3, locals := ls, stack := .ref T.heap.size :: rest, locked := none }) _
  jvm_step X₁.here [X₁.here.top, hexec, d3', Value.category]
  exact hsteps
/-- 'throw new E("text")': new; dup; ldc; invokespecial; athrow -/
theorem vx_throwS {cc : ByteArray} {pc : Nat} (hexec : p.tables.exec = Jvm.exec) (hb : c.code = cc) (hl : l.stackTraces = false) {own cls text : String} {names : List String} {ik is ic mc ms sa : Nat} {A : Nat → Prop}
    (hown : s.vm.findClass own = some m.cls) (hcls : Bundle.fit cls = true) (hnames : ∀ n ∈ names, Bundle.fit n = true)
    (hk : (Cond.classLink own ik cls).before args s = true) (hini : (Cond.initialized cls).before args s = true) (hstr : vk_R own is text sa s) (hat : ∀ w ∈ vx_atS own ic cls names, w.before args s = true)
    (hgood : ∀ w ∈ Cond.classLink own ik cls :: Cond.initialized cls :: vx_atS own ic cls names, vx_ot w = true)
    (hU : vx_Zq Bundle.tN "UNASSIGNED_STACK" Bundle.steD A s s.heap) (hN : vx_Zq Bundle.tN "SUPPRESSED_SENTINEL" Bundle.listD A s s.heap) (hS : va_S A s.heap H locs) (hsize : ls.size = c.maxLocals)
    (d0 : decode cc pc = .ok (.new ik, 3)) (d3 : decode cc (pc + 3) = .ok (.dup, 1)) (d4 : decode cc (pc + 4) = .ok (.ldc is, 2)) (d6 : decode cc (pc + 6) = .ok (.invokespecial ic, 3)) (d9 : decode cc (pc + 9) = .ok (.athrow, 1))
    (hout : ∀ x ∈ c.exceptionTable.toList, covers x (pc + 9) = false)
    (hRframes : names.length + 3 < R.frames) (hRlocals : (rest.map fun v => v.category).sum + (13 * (names.length + 1) + 43) ≤ R.locals) (hRcells : cells + 1 ≤ R.cells) (hRslots : slots + 6 ≤ R.slots) (hlocks : meth.locks = false)
    (hx : ∀ t : State, s.vm.Alike t.vm → H.size ≤ t.heap.size → (∀ q : Nat, q < H.size → t.heap[q]? = H[q]?) → XC cls s t)
    (hf : ∀ z ∈ locs, free z.base) (hc : cells + 1 ≤ mc) (hs : slots + 6 ≤ ms) :
    W p l e R s m args below meth c H locs cells slots (vx_MQ below Qc XC args s mc ms free) (F0 m pc ls rest) := by
  intro T hT X
  have htr : e.platform.stackTraces = false := (show e.platform.stackTraces = l.stackTraces by rw [X.admits.platform]).trans hl
  have Y := vx_rebase X (R' := { frames := R.frames, locals := R.locals, cells := 1, slots := 6 }) (Nat.le_refl _) (Nat.le_refl _) hRcells hRslots
  obtain ⟨s', hA⟩ : ∃ z, z = (T.setVm s.vm).setFrames (.invoking m args :: below) := ⟨_, rfl⟩
  rw [← hA] at Y
  have hvm : s'.vm = s.vm := by rw [hA]; rfl
  have hhp : s'.heap = H := by rw [hA]; exact hT
  have hW0 : s.WarmedH s'.vm := by rw [hvm]; exact State.WarmedH.refl s
  have hat' : ∀ w ∈ vx_atS own ic cls names, w.before args s' = true := fun w hw => vx_ot_at hW0 hvm.symm (hgood w (List.mem_cons_of_mem _ (List.mem_cons_of_mem _ hw))) (hat w hw)
  have hk' : (Cond.classLink own ik cls).before args s' = true := vx_ot_at hW0 hvm.symm (hgood _ List.mem_cons_self) hk
  have hini' : (Cond.initialized cls).before args s' = true := vx_ot_at hW0 hvm.symm (hgood _ (List.mem_cons_of_mem _ List.mem_cons_self)) hini
  have hU' : vx_Zq Bundle.tN "UNASSIGNED_STACK" Bundle.steD A s' s'.heap := by rw [hhp]; exact vx_Zq.moved hW0.alike (hU.kept hS.2.1)
  have hN' : vx_Zq Bundle.tN "SUPPRESSED_SENTINEL" Bundle.listD A s' s'.heap := by rw [hhp]; exact vx_Zq.moved hW0.alike (hN.kept hS.2.1)
  have h : ∀ w ∈ Bundle.ownAtoms own ic cls names, w.before args s' = true := vx_own hat' (vx_isRefq hU'.1) (vx_isRefq hN'.1) hU'.2.word hN'.2.word
  have hown' : s'.vm.findClass own = some m.cls := by rw [hvm]; exact hown
  have hins : (Cond.instantiable cls 6).before args s' = true := h _ (by simp [Bundle.ownAtoms])
  obtain ⟨vm₁, cX, kX, hfX, hkX, -, -, X₁, st1⟩ := Y.newCold hexec (own := own) (C := cls) (index := ik) (n := 6) hown' hk' hins hini'
    (g := F0 m pc ls rest) rfl (by rw [hb]; exact d0) (Nat.le_refl _) (Nat.le_refl _)
  generalize hT1 : (T.setVm vm₁).pushCell { cls := cX, slots := kX.instanceTypes.map defaultValue, vm := .none } = T1 at X₁ st1
  have hcat : (Value.ref T.heap.size).category = 1 := rfl
  have hcellA : T1.heap[T.heap.size]? = some (freshCell cX kX) := by rw [← hT1]; exact State.heap_pushCell_size _ _
  have d3' : decode c.code (pc + 3) = .ok (.dup, 1) := by rw [hb]; exact d3
  have d4' : decode c.code (pc + 4) = .ok (.ldc is, 2) := by rw [hb]; exact d4
  have hstr' : vk_R own is text sa s' := vk_R.warm hW0 hstr
  obtain ⟨U, hsteps, hrun, hend, hW, hsame, ce, hce, hO⟩ := X₁.ctorThrowS hexec htr (own := own) (cls := cls) (names := names) (ic := ic) hown' hcls hnames h (fun x hx => nomatch hx) hfX hkX hcellA (by rw [hhp, hT]; exact Nat.le_refl _) (msg := .ref sa) rfl
    (g := { method := m, pc := pc + 6, locals := ls, stack := .ref sa :: .ref T.heap.size :: .ref T.heap.size :: rest, locked := none }) rfl hsize rfl rfl (rest := rest) rfl
    (by rw [hb]; exact d6) (by rw [hb]; exact d9) hout hRframes (by simp only [List.map_cons, List.sum_cons, hcat]; omega) hlocks
  obtain ⟨f1, f2⟩ := vx_frame hsame
  rw [hhp] at f1 f2
  have hWs : s.WarmedH U.vm := State.WarmedH.trans hW0 hW
  have hcl : s.vm.findClass cls = some ce.cls := by
    have h9 := hO.cls
    rw [hvm] at h9
    exact h9
  have hall : s.sameButNew ({ U with vm := s.vm } : State) locs mc ms := by
    subst hA
    obtain ⟨e1, e2⟩ := hsame
    rw [State.setFrames_setFrames] at e1
    have h2 : (T.setVm s.vm).sameButNew ({ U with vm := s.vm } : State) [] (0 + 1) (0 + 6) := ⟨e1, e2⟩
    have h3 := X.same.trans h2
    rw [List.append_nil] at h3
    exact h3.mono hc hs
  refine ⟨U, ?_, .threw T.heap.size, hrun, hend, Or.inr ⟨T.heap.size, rfl, cls, ce, locs, hx U hWs.alike f1 (fun q hq => f2 q hq (fun z hz => nomatch hz)), hce, hO.vm, hcl, hWs, hall, hf⟩⟩
  refine st1 _ ?_
  show Steps p.tables e below (T1.setTop { method := m, pc := pc + 3, locals := ls, stack := .ref T.heap.size :: rest, locked := none }) _
  jvm_step X₁.here [X₁.here.top, hexec, d3', Value.category]
  exact X₁.ldcString hexec (own := own) (text := text) (index := is) (a := sa) hown' hstr'.1 hstr'.2
    (g := { method := m, pc := pc + 4, locals := ls, stack := .ref T.heap.size :: .ref T.heap.size :: rest, locked := none }) rfl d4' _ hsteps
/-- 'throw new E("text")', the text by a wide index -/
theorem vx_throwSW {cc : ByteArray} {pc : Nat} (hexec : p.tables.exec = Jvm.exec) (hb : c.code = cc) (hl : l.stackTraces = false) {own cls text : String} {names : List String} {ik is ic mc ms sa : Nat} {A : Nat → Prop}
    (hown : s.vm.findClass own = some m.cls) (hcls : Bundle.fit cls = true) (hnames : ∀ n ∈ names, Bundle.fit n = true)
    (hk : (Cond.classLink own ik cls).before args s = true) (hini : (Cond.initialized cls).before args s = true) (hstr : vk_R own is text sa s) (hat : ∀ w ∈ vx_atS own ic cls names, w.before args s = true)
    (hgood : ∀ w ∈ Cond.classLink own ik cls :: Cond.initialized cls :: vx_atS own ic cls names, vx_ot w = true)
    (hU : vx_Zq Bundle.tN "UNASSIGNED_STACK" Bundle.steD A s s.heap) (hN : vx_Zq Bundle.tN "SUPPRESSED_SENTINEL" Bundle.listD A s s.heap) (hS : va_S A s.heap H locs) (hsize : ls.size = c.maxLocals)
    (d0 : decode cc pc = .ok (.new ik, 3)) (d3 : decode cc (pc + 3) = .ok (.dup, 1)) (d4 : decode cc (pc + 4) = .ok (.ldc_w is, 3)) (d7 : decode cc (pc + 7) = .ok (.invokespecial ic, 3)) (d10 : decode cc (pc + 10) = .ok (.athrow, 1))
    (hout : ∀ x ∈ c.exceptionTable.toList, covers x (pc + 10) = false)
    (hRframes : names.length + 3 < R.frames) (hRlocals : (rest.map fun v => v.category).sum + (13 * (names.length + 1) + 43) ≤ R.locals) (hRcells : cells + 1 ≤ R.cells) (hRslots : slots + 6 ≤ R.slots) (hlocks : meth.locks = false)
    (hx : ∀ t : State, s.vm.Alike t.vm → H.size ≤ t.heap.size → (∀ q : Nat, q < H.size → t.heap[q]? = H[q]?) → XC cls s t)
    (hf : ∀ z ∈ locs, free z.base) (hc : cells + 1 ≤ mc) (hs : slots + 6 ≤ ms) :
    W p l e R s m args below meth c H locs cells slots (vx_MQ below Qc XC args s mc ms free) (F0 m pc ls rest) := by
  intro T hT X
  have htr : e.platform.stackTraces = false := (show e.platform.stackTraces = l.stackTraces by rw [X.admits.platform]).trans hl
  have Y := vx_rebase X (R' := { frames := R.frames, locals := R.locals, cells := 1, slots := 6 }) (Nat.le_refl _) (Nat.le_refl _) hRcells hRslots
  obtain ⟨s', hA⟩ : ∃ z, z = (T.setVm s.vm).setFrames (.invoking m args :: below) := ⟨_, rfl⟩
  rw [← hA] at Y
  have hvm : s'.vm = s.vm := by rw [hA]; rfl
  have hhp : s'.heap = H := by rw [hA]; exact hT
  have hW0 : s.WarmedH s'.vm := by rw [hvm]; exact State.WarmedH.refl s
  have hat' : ∀ w ∈ vx_atS own ic cls names, w.before args s' = true := fun w hw => vx_ot_at hW0 hvm.symm (hgood w (List.mem_cons_of_mem _ (List.mem_cons_of_mem _ hw))) (hat w hw)
  have hk' : (Cond.classLink own ik cls).before args s' = true := vx_ot_at hW0 hvm.symm (hgood _ List.mem_cons_self) hk
  have hini' : (Cond.initialized cls).before args s' = true := vx_ot_at hW0 hvm.symm (hgood _ (List.mem_cons_of_mem _ List.mem_cons_self)) hini
  have hU' : vx_Zq Bundle.tN "UNASSIGNED_STACK" Bundle.steD A s' s'.heap := by rw [hhp]; exact vx_Zq.moved hW0.alike (hU.kept hS.2.1)
  have hN' : vx_Zq Bundle.tN "SUPPRESSED_SENTINEL" Bundle.listD A s' s'.heap := by rw [hhp]; exact vx_Zq.moved hW0.alike (hN.kept hS.2.1)
  have h : ∀ w ∈ Bundle.ownAtoms own ic cls names, w.before args s' = true := vx_own hat' (vx_isRefq hU'.1) (vx_isRefq hN'.1) hU'.2.word hN'.2.word
  have hown' : s'.vm.findClass own = some m.cls := by rw [hvm]; exact hown
  have hins : (Cond.instantiable cls 6).before args s' = true := h _ (by simp [Bundle.ownAtoms])
  obtain ⟨vm₁, cX, kX, hfX, hkX, -, -, X₁, st1⟩ := Y.newCold hexec (own := own) (C := cls) (index := ik) (n := 6) hown' hk' hins hini'
    (g := F0 m pc ls rest) rfl (by rw [hb]; exact d0) (Nat.le_refl _) (Nat.le_refl _)
  generalize hT1 : (T.setVm vm₁).pushCell { cls := cX, slots := kX.instanceTypes.map defaultValue, vm := .none } = T1 at X₁ st1
  have hcat : (Value.ref T.heap.size).category = 1 := rfl
  have hcellA : T1.heap[T.heap.size]? = some (freshCell cX kX) := by rw [← hT1]; exact State.heap_pushCell_size _ _
  have d3' : decode c.code (pc + 3) = .ok (.dup, 1) := by rw [hb]; exact d3
  have d4' : decode c.code (pc + 4) = .ok (.ldc_w is, 3) := by rw [hb]; exact d4
  have hstr' : vk_R own is text sa s' := vk_R.warm hW0 hstr
  obtain ⟨U, hsteps, hrun, hend, hW, hsame, ce, hce, hO⟩ := X₁.ctorThrowS hexec htr (own := own) (cls := cls) (names := names) (ic := ic) hown' hcls hnames h (fun x hx => nomatch hx) hfX hkX hcellA (by rw [hhp, hT]; exact Nat.le_refl _) (msg := .ref sa) rfl
    (g := { method := m, pc := pc + 7, locals := ls, stack := .ref sa :: .ref T.heap.size :: .ref T.heap.size :: rest, locked := none }) rfl hsize rfl rfl (rest := rest) rfl
    (by rw [hb]; exact d7) (by rw [hb]; exact d10) hout hRframes (by simp only [List.map_cons, List.sum_cons, hcat]; omega) hlocks
  obtain ⟨f1, f2⟩ := vx_frame hsame
  rw [hhp] at f1 f2
  have hWs : s.WarmedH U.vm := State.WarmedH.trans hW0 hW
  have hcl : s.vm.findClass cls = some ce.cls := by
    have h9 := hO.cls
    rw [hvm] at h9
    exact h9
  have hall : s.sameButNew ({ U with vm := s.vm } : State) locs mc ms := by
    subst hA
    obtain ⟨e1, e2⟩ := hsame
    rw [State.setFrames_setFrames] at e1
    have h2 : (T.setVm s.vm).sameButNew ({ U with vm := s.vm } : State) [] (0 + 1) (0 + 6) := ⟨e1, e2⟩
    have h3 := X.same.trans h2
    rw [List.append_nil] at h3
    exact h3.mono hc hs
  refine ⟨U, ?_, .threw T.heap.size, hrun, hend, Or.inr ⟨T.heap.size, rfl, cls, ce, locs, hx U hWs.alike f1 (fun q hq => f2 q hq (fun z hz => nomatch hz)), hce, hO.vm, hcl, hWs, hall, hf⟩⟩
  refine st1 _ ?_
  show Steps p.tables e below (T1.setTop { method := m, pc := pc + 3, locals := ls, stack := .ref T.heap.size :: rest, locked := none }) _
  jvm_step X₁.here [X₁.here.top, hexec, d3', Value.category]
  exact X₁.ldcStringW hexec (own := own) (text := text) (index := is) (a := sa) hown' hstr'.1 hstr'.2
    (g := { method := m, pc := pc + 4, locals := ls, stack := .ref T.heap.size :: .ref T.heap.size :: rest, locked := none }) rfl d4' _ hsteps
end Ends
section Bodies
variable {l : Launch}
theorem vx_ofW {y : MethodName} {ws ws' : List Cond} {rm : Room} {Pc : Array Value → State → Prop} {Qc : Array Value → State → Outcome → State → Prop} {XC : String → State → State → Prop} {mc ms : Nat} {free : Addr → Prop} {cc : ByteArray} {maxL : Nat} {ret : Option FieldType}
    (hy : plainName y.cls = true) (hw : ws = Cond.code y cc maxL ret :: ws')
    (body : ∀ p e s m args below meth c s₁, BodyLoose p l y (headSpec ws rm) cc maxL ret e s m args below meth c s₁ → c.maxLocals = maxL → (∀ x ∈ c.exceptionTable.toList, False) → Pc args s →
      W p l e (headSpec ws rm).room s m args below meth c s.heap [] 0 0 (vx_MQ below Qc XC args s mc ms free) (entryFrame m args maxL)) : vx_Met l y ws rm Pc Qc XC mc ms free := by
  refine MetFree.of_bodyS (code := cc) (maxLocals := maxL) (ret := ret) hy ?_ ?_
  · intro args s m h hn
    obtain ⟨meth, c, h1, h2, h3, h4, h5, h6, -, -⟩ := Cond.code_spec hn (atoms_spec (ws := ws) h _ (by rw [hw]; exact List.mem_cons_self))
    exact ⟨meth, c, h1, h2, h3, h4, h5, h6⟩
  · intro p e s m args below meth c s₁ B hml hP _
    have hh0 : s₁.heap = s.heap := by rw [B.state]; rfl
    have ht : ∀ x ∈ c.exceptionTable.toList, False := by
      obtain ⟨meth9, c9, h1, h2, -, -, -, -, h7, -⟩ := Cond.code_spec B.named (atoms_spec (ws := ws) B.pre _ (by rw [hw]; exact List.mem_cons_self))
      cases Option.some.inj (h1.symm.trans B.method)
      cases Option.some.inj (h2.symm.trans (Stand.of_body B).code)
      intro x hx
      rw [Array.isEmpty_iff.mp h7] at hx
      cases hx
    obtain ⟨t, a1, o, b1, b2, b3⟩ := body p e s m args below meth c s₁ B hml ht hP s₁ hh0 (Stand.of_body B)
    exact ⟨t, o, a1, b1, b2, b3⟩
/-- the table of a body with handlers -/
theorem vx_table {p : Program} {x y : MethodName} {S : Spec} {cc bytes : ByteArray} {maxL maxL' : Nat} {ret ret' : Option FieldType} {e : Env} {s s₁ : State} {m : MethodId} {args : Array Value} {below : List Frame} {meth : Method} {c : Code} {hh : List (Nat × Nat × Nat × Nat)}
    (B : BodyLoose p l y S cc maxL ret e s m args below meth c s₁) (h : (Cond.codeWith y bytes maxL' ret' hh).before args s = true) : c.exceptionTable.toList = tableOf hh := by
  obtain ⟨m9, meth9, c9, hn9, h1, h2, -, -, h6, -⟩ := Cond.codeWith_spec h
  cases Option.some.inj (hn9.symm.trans B.named)
  cases Option.some.inj (h1.symm.trans B.method)
  cases Option.some.inj (h2.symm.trans (Stand.of_body B).code)
  rw [← h6, table_eq]
end Bodies
end VXA
/-! ===== END ===== -/
/-! ===== BEGIN a static call of a method with an exception table ===== -/
section VXS
variable {p : Program} {l : Launch} {e : Env} {R : Room} {s : State} {m : MethodId} {args : Array Value} {below : List Frame} {meth : Method} {c : Code} {T : State} {H : Heap} {locs : List Loc} {cells slots : Nat}
abbrev vx_CSW (R : Room) (s : State) (args : Array Value) (own : String) (index : Nat) (y : MethodName) (bytes : ByteArray) (maxL : Nat) (ret : Option FieldType) (hh : List (Nat × Nat × Nat × Nat)) (ws : List Cond) (rm : Room) (mc ms n : Nat) : Prop :=
  (rm.cells = mc ∧ rm.slots = ms ∧ rm.frames + 1 ≤ R.frames ∧ 8 + (maxL + 11) + rm.locals ≤ R.locals ∧ (∀ w ∈ ws, ∀ (a' : Array Value) (U : State), s.WarmedH U.vm → w.before a' U = true) ∧ Cond.codeWith y bytes maxL ret hh ∈ ws) ∧
  (Cond.codeWith y bytes maxL ret hh).before args s = true ∧ (Cond.initialized y.cls).before args s = true ∧ (y.cls ≠ "java/lang/invoke/MethodHandle" ∧ y.cls ≠ "java/lang/invoke/VarHandle") ∧
  (∀ sig, parseMethodDescriptor y.desc = some sig → n = sig.parameters.length) ∧ (Cond.methodLink own index y).before args s = true ∧ (Cond.static y).before args s = true
theorem vx_cwSW {own : String} {index maxL mc ms : Nat} {y : MethodName} {bytes : ByteArray} {ret : Option FieldType} {hh : List (Nat × Nat × Nat × Nat)} {Ts ws ws' : List Cond} {rm : Room} (n : Nat) (ht : ∀ w ∈ Ts, w.before args s = true) (hT : GoodIn Ts (va_wsS own index y ws)) (hw : ws = Cond.codeWith y bytes maxL ret hh :: ws') (hrc : rm.cells = mc) (hrs : rm.slots = ms)
    (hd : y.cls ≠ "java/lang/invoke/MethodHandle" ∧ y.cls ≠ "java/lang/invoke/VarHandle" ∧ (parseMethodDescriptor y.desc).map (fun d => d.parameters.length) = some n) (hR : rm.frames + 1 ≤ R.frames ∧ 8 + (maxL + 11) + rm.locals ≤ R.locals) :
    vx_CSW R s args own index y bytes maxL ret hh ws rm mc ms n := by
  have ok : ∀ w ∈ va_wsS own index y ws, w.before args s = true := fun w h => ht w (hT w h).1
  have hG : GoodIn Ts ws := fun w h => hT w (by unfold va_wsS; exact List.mem_append_right _ h)
  have hc : Cond.codeWith y bytes maxL ret hh ∈ ws := by rw [hw]; exact List.mem_cons_self
  refine ⟨⟨hrc, hrs, hR.1, hR.2, pay_in ht hG, hc⟩, ht _ (hG _ hc).1, ok _ (by simp [va_wsS]), ⟨hd.1, hd.2.1⟩, fun sig h => ?_, ok _ (by simp [va_wsS]), ok _ (by simp [va_wsS])⟩
  have h2 := hd.2.2
  rw [h] at h2
  exact (Option.some.inj h2).symm
theorem vx_callSW (X : Stand p l e R s m args below meth c T locs cells slots) (hexec : p.tables.exec = Jvm.exec) {own : String} {index : Nat} {y : MethodName} {bytes : ByteArray} {maxL : Nat} {ret : Option FieldType} {hh : List (Nat × Nat × Nat × Nat)}
    (hown : s.vm.findClass own = some m.cls) (hlink : (Cond.methodLink own index y).before args s = true) (hstat : (Cond.static y).before args s = true) (hinit : (Cond.initialized y.cls).before args s = true)
    (hcode : (Cond.codeWith y bytes maxL ret hh).before args s = true) (hy : y.cls ≠ "java/lang/invoke/MethodHandle" ∧ y.cls ≠ "java/lang/invoke/VarHandle")
    {W9 : Nat} {Pre : Pt → Array Value → Prop} {Post : Pt → Array Value → Option Value → Pt → Prop} (hK : Back l R p e below s args y 3 W9 Pre Post)
    {g : JFrame} (hg : g.method = m) (hsize : g.locals.size = c.maxLocals) {argsL rest : List Value} (hlen : ∀ sig, parseMethodDescriptor y.desc = some sig → argsL.length = sig.parameters.length)
    (hstack : g.stack = argsL.reverse ++ rest) (hW : 2 * g.monitorRoom + (rest.map fun v => v.category).sum ≤ W9) (hdg : decode c.code g.pc = .ok (.invokestatic index, 3))
    (hpre : ∀ vm₁, s.WarmedH vm₁ → Pre ⟨T.setVm vm₁, locs, cells, slots⟩ argsL.toArray) :
    ∃ (v : Option Value) (vm₁ : Vm) (B : Pt), s.WarmedH vm₁ ∧ Stand p l e R s m args below meth c B.U B.locs B.cells B.slots ∧ Post ⟨T.setVm vm₁, locs, cells, slots⟩ argsL.toArray v B ∧
      ∀ target, Steps p.tables e below (B.U.setTop { g with pc := g.pc + 3, stack := v.toList ++ rest }) target → Steps p.tables e below (T.setTop g) target := by
  obtain ⟨mk, methM, cM, hnamed, hmethM, -, -, -, -, -, -, hsigM⟩ := Cond.codeWith_spec hcode
  have hstatic : methM.isStatic = true := Cond.static_spec hnamed hmethM hstat
  obtain ⟨kP, hkP, -⟩ := className_of_methodNamed hnamed
  have hinitP : kP.init = .initialized := Cond.initialized_spec (findClass_of_methodNamed hnamed) hkP hinit
  obtain ⟨vm₁, X₁, hstep₁⟩ := X.invokestatic hexec hown hlink hnamed hmethM hstatic hkP hinitP hy (g := g) hg (argsL := argsL) (rest := rest) (hlen _ hsigM) hstack hdg
  obtain ⟨v, B, X', hpost, hsteps⟩ := hK m meth c ⟨T.setVm vm₁, locs, cells, slots⟩ { g with stack := rest } (.invokestatic index) mk argsL.toArray X₁ hg hsize hdg hW (X₁.named hnamed) (hpre vm₁ X₁.warmed)
  exact ⟨v, vm₁, B, X₁.warmed, X', hpost, fun target h => hstep₁ _ fun acts => by rw [doInvoke_state]; exact hsteps.trans h⟩
theorem vx_runSW {y : MethodName} {bytes cc : ByteArray} {maxL nL mc ms n index : Nat} {ret : Option FieldType} {hh : List (Nat × Nat × Nat × Nat)} {ws : List Cond} {rm : Room} {Pc : Array Value → State → Prop} {Qc : Array Value → State → Outcome → State → Prop} {free : Addr → Prop} {Ts : List Cond} {own : String} {As rest : List Value} {g : JFrame}
    (S : CallFix p m c cc nL s args Ts own) (hM : Met l y ws rm Pc Qc mc ms free) (cw : vx_CSW R s args own index y bytes maxL ret hh ws rm mc ms n) (hp : PreS s H Pc As)
    (hg : g.method = m) (hn : As.length = n) (hsize : g.locals.size = nL) (hstack : g.stack = As.reverse ++ rest) (hW : 2 * g.monitorRoom + (rest.map fun v => v.category).sum ≤ 8) (hdg : decode cc g.pc = .ok (.invokestatic index, 3)) (hf : cells + mc ≤ R.cells ∧ slots + ms ≤ R.slots) :
    va_Run p l e R s m args below meth c H locs cells slots mc ms g rest (Qc As.toArray) (free) := by
  obtain ⟨⟨hrc, hrs, hfr, hlo, hws, hcw⟩, hcode, hini, hy, hlen, hl, hstt⟩ := cw
  have hK : Back l R p e below s args y 3 8 (PreOf R mc ms Pc) (PostOf Qc mc ms free) := va_backW (hh := hh) (bytes := bytes) (maxL := maxL) (ret := ret) hM hp.1 hrc hrs hfr hlo hws hcw (fun a' U hW => word_at hW (Or.inl (by first | rfl | simp [Cond.onTables, Cond.keeps, Cond.steady])) hini)
  obtain ⟨hx, hb, hml, ho, -⟩ := S
  intro T hT X
  obtain ⟨v, vm₁, ⟨U', l2, c2, s2⟩, hW₁, X', ⟨g', mk, t, L, e1, e2, hq, h1, hL, h2, h3⟩, st⟩ := vx_callSW X hx (hh := hh) (bytes := bytes) (maxL := maxL) (ret := ret) ho hl hstt hini hcode hy hK hg (hsize.trans hml.symm) (argsL := As) (rest := rest) (fun sig h => hn.trans (hlen sig h)) hstack hW (by rw [hb]; exact hdg)
    (fun vm₁ hW₁ => ⟨hf.1, hf.2, hp.2 (T.setVm vm₁) hT hW₁⟩)
  dsimp only [Pt.U, Pt.locs, Pt.cells, Pt.slots] at X' e1 e2 h1 h2 h3 st
  subst h1; subst h2; subst h3
  exact ⟨v, (T.setVm vm₁).calling g' mk As.toArray, t, U', L, hT, X', hL, e1, e2, hq, st⟩
/-- not caught here, past rows that name other classes: it goes on to the caller -/
theorem vx_outP {p : Program} {l : Launch} {e : Env} {R : Room} {s : State} {m : MethodId} {args : Array Value} {below : List Frame} {meth : Method} {c : Code} {H : Heap} {locs : List Loc} {cells slots : Nat} {free : Addr → Prop} {ls : Array Slot} {rest : List Value} {Qc : Array Value → State → Outcome → State → Prop} {XC : String → State → State → Prop}
    {pc : Nat} {own E : String} {ce : Cell} {q : Addr} {mc ms : Nat} (hown : s.vm.findClass own = some m.cls) (hlocks : meth.locks = false)
    (hpass : ∀ z ∈ c.exceptionTable.toList, covers z pc = false ∨ (z.catchType ≠ 0 ∧ ∃ nm : String, (Cond.classLink own z.catchType nm).before args s = true ∧ va_Nc E nm s)) (hcell : H[q]? = some ce) (hv : ce.vm = .none) (hcl : s.vm.findClass E = some ce.cls)
    (hx : ∀ t : State, t.heap = H → s.vm.Alike t.vm → XC E s t) (hf : ∀ z ∈ locs, free z.base) (hc : cells ≤ mc) (hs : slots ≤ ms) :
    vx_W p l e R s m args below meth c H locs cells slots (vx_MQ below Qc XC args s mc ms free) (F0 m pc ls rest) q := by
  intro T hT X
  have hpl : e.platform.magicAccessors = ({} : Platform).magicAccessors := by rw [X.admits.platform]
  obtain ⟨vm', hW', X', st⟩ := X.outThrough hlocks q (g := F0 m pc ls rest) rfl rfl rfl (cell := ce) (by rw [hT]; exact hcell) (by rw [hv]; rfl)
    (by obtain ⟨k9, h9, -⟩ := Vm.findClass_spec hcl; exact ⟨k9, h9⟩) (fun z hz => by
      rcases hpass z hz with h | ⟨hz0, nm, hl1, hn1⟩
      · exact Or.inl h
      · obtain ⟨c6, hc6, hcl6⟩ := Cond.classLink_spec hown hl1 e.platform hpl
        obtain ⟨a8, b8, h1, h2, h3⟩ := hn1
        cases Option.some.inj (h1.symm.trans hcl)
        cases Option.some.inj (h2.symm.trans hc6)
        exact Or.inr ⟨hz0, _, hcl6, h3⟩)
  obtain ⟨g₀, hfr⟩ := X'.frames_eq
  have hcell9 : ((T.setVm vm').setFrames (.throwing q :: below)).heap[q]? = some ce := by
    show T.heap[q]? = some ce
    rw [hT]; exact hcell
  have hend : Ended ((T.setVm vm').setFrames (.throwing q :: below)) below (.threw q) := State.frames_setFrames _ (State.cur_lt_of_frames hfr)
  refine ⟨(T.setVm vm').setFrames (.throwing q :: below), ?_, .threw q, X'.here.running, hend, Or.inr ⟨q, rfl, E, ce, locs, hx _ hT (X'.ends _).1.alike, hcell9, hv, hcl, (X'.ends _).1, (X'.ends _).2.mono hc hs, hf⟩⟩
  rw [X.pushThrowing_eq]
  exact st
/-- a thing of a world lies in the heap -/
theorem vx_lt {D : va_G} {cl : List vw_C} {ws : va_W} {H1 : Heap} (h : va_P D cl ws H1) {k : Nat} {q : Nat × va_E} (hk : ws[k]? = some q) : q.1 < H1.size := (h k q hk).lt
end VXS
/-! ===== END ===== -/
/-! ===== BEGIN methods with a table of their own: called by a name, returning or throwing ===== -/
section VXH
/-! vx_backW, vx_callVX, vx_callSX, vx_callVW, vx_runVW, vx_runVX, vx_runSX, vx_ofWH follow the same proofs as their sisters above (Free/Laws.lean, Shelf42/LK1.lean); vx_outP calls Shelf42/NT130.lean (outThrough). -/
section
variable {l : Launch} {R : Room} {p : Program} {e : Env} {below : List Frame} {s : State} {sargs : Array Value} {y : MethodName} {len W9 : Nat}
theorem vx_backW {ws : List Cond} {rm : Room} {Pc : Array Value → State → Prop} {Qc : Array Value → State → Outcome → State → Prop} {XC : String → State → State → Prop} {mc ms : Nat} {free : Addr → Prop} {bytes : ByteArray} {maxL : Nat} {ret : Option FieldType} {hh : List (Nat × Nat × Nat × Nat)}
    (hM : vx_Met l y ws rm Pc Qc XC mc ms free) (hblind : FrameBlind Pc) (hrc : rm.cells = mc) (hrs : rm.slots = ms)
    (hframes : rm.frames + 1 ≤ R.frames) (hlocals : W9 + (maxL + 11) + rm.locals ≤ R.locals)
    (hws : ∀ w ∈ ws, ∀ a' U, s.WarmedH U.vm → w.before a' U = true) (hcode : Cond.codeWith y bytes maxL ret hh ∈ ws) (hinit : ∀ a' U, s.WarmedH U.vm → (Cond.initialized y.cls).before a' U = true) :
    vx_Back l R p e below s sargs y len W9 (PreOf R mc ms Pc) (PostOf Qc mc ms free) (vx_Post XC mc ms free) := by
  intro m meth c A g ig mk a X hg hsize hdg hW hn hp
  have h1 : (headSpec ws rm).pre.before a A.U = true := atoms_intro fun w hw => hws w hw _ _ X.warmed
  have h2 : (Cond.codeWith y bytes maxL ret hh).before a A.U = true := hws _ hcode _ _ X.warmed
  have h3 : (Cond.initialized y.cls).before a A.U = true := hinit _ _ X.warmed
  have h4 : A.cells + (headSpec ws rm).room.cells ≤ R.cells := by rw [show (headSpec ws rm).room.cells = mc from hrc]; exact hp.1
  have h5 : A.slots + (headSpec ws rm).room.slots ≤ R.slots := by rw [show (headSpec ws rm).room.slots = ms from hrs]; exact hp.2.1
  have hPc : Pc a (A.U.calling g mk a) := hblind _ _ _ _ hp.2.2
  obtain ⟨U, Ls, c0, s0⟩ := A
  dsimp only [Pt.U, Pt.locs, Pt.cells, Pt.slots] at h1 h2 h3 h4 h5 X hn hPc ⊢
  obtain ⟨m9, methY, cY, hn9, hmY, hcY, -, hlY, -⟩ := Cond.codeWith_spec h2
  cases Option.some.inj (hn9.symm.trans hn)
  obtain ⟨kY, hkY, -⟩ := className_of_methodNamed hn
  have hinitY : kY.init = .initialized := Cond.initialized_spec (findClass_of_methodNamed hn) hkY h3
  have h : At U g.method c below := by rw [hg]; exact X.here
  have hlocals9 : W9 + (maxL + 11) + (headSpec ws rm).room.locals ≤ R.locals := hlocals
  have happ : (headSpec ws rm).appliesLoose y e.platform (U.calling g mk a) = true :=
    Spec.appliesLoose_calling (g := g) h hdg hn hkY hinitY
      (X.room_calling (g := g) (R' := (headSpec ws rm).room) hsize hmY hcY hframes (by rw [hlY]; omega) h4 h5) h1
  obtain ⟨mid, hmid⟩ := h.above
  have hfr : (U.setTop g).frames = (.java g :: mid) ++ below := by rw [State.frames_setTop' g h.top, hmid]; rfl
  obtain ⟨o, s₂, hsteps, -, hend, hq⟩ := Steps.callFree hM p X.admits X.cas X.clock (acts := []) hfr happ hPc trivial
  have hq' : vx_Q Qc XC mc ms free a (U.calling g mk a) o s₂ := hq
  rw [State.frames_setTop' g h.top] at hend
  obtain ⟨g₀, hg0⟩ := Option.isSome_iff_exists.mp h.top
  obtain ⟨r, hr⟩ := State.topJava?_eq_some.mp hg0
  have hr' : (({ U with heap := s₂.heap, slotsUsed := s₂.slotsUsed } : State).setVm s₂.vm).frames = .java g₀ :: r := hr
  rcases hq' with ⟨hqc, L, hfe, hL⟩ | ⟨q, rfl, E, ce, L, hx, hce, hcv, hcl, hW₂, hsm, hL⟩
  · obtain ⟨⟨v, rfl⟩, hW₂, e2, q2, q3, q4, q5, q6⟩ := id hfe
    have e3 : s₂ = ({ (U.calling g mk a).setFrames s₂.frames with heap := s₂.heap, slotsUsed := s₂.slotsUsed } : State).setVm s₂.vm := by
      have : s₂ = ({ s₂ with vm := (U.calling g mk a).vm } : State).setVm s₂.vm := rfl
      rw [e2] at this
      exact this
    obtain ⟨c₂, i₂, len₂, hc₂, hd₂, hf₂⟩ := hend
    have hW' : U.WarmedH s₂.vm := hW₂
    have hcc : c₂ = c := by
      have h1 : s₂.code? g.method = U.code? g.method := by
        rw [State.code?_eq, State.code?_eq, hW'.alike.method?]
      exact Option.some.inj (hc₂.symm.trans (h1.trans h.code))
    subst hcc
    have hlen : len₂ = len := by rw [hdg] at hd₂; cases hd₂; rfl
    subst hlen
    have hs₂ : s₂ = (({ U with heap := s₂.heap, slotsUsed := s₂.slotsUsed } : State).setVm s₂.vm).setTop { g with pc := g.pc + len₂, stack := v.toList ++ g.stack } := by
      refine e3.trans ?_
      rw [hf₂, State.calling_eq h.top, State.setFrames_setFrames, State.setTop_of_frames _ hr', hr]
      rfl
    have hsame : U.sameButNew ({ U with heap := s₂.heap, slotsUsed := s₂.slotsUsed } : State) L mc ms := by
      refine ⟨?_, q2, q3, q4, q5, q6⟩
      obtain ⟨t, ht, -⟩ := State.frames_cons hr
      show ({ U with heap := s₂.heap, slotsUsed := s₂.slotsUsed } : State) = { U.setFrames U.frames with heap := s₂.heap, slotsUsed := s₂.slotsUsed }
      rw [State.setFrames_self ht]
    subst hg
    refine Or.inl ⟨v, ⟨(({ U with heap := s₂.heap, slotsUsed := s₂.slotsUsed } : State).setVm s₂.vm), Ls ++ L, c0 + mc, s0 + ms⟩,
      ⟨X.admits, X.cas, X.clock, X.frames, X.room, X.hears, X.method, X.code, (X.here.setHeapUsed s₂.heap s₂.slotsUsed).setVm hW'.alike, X.tail, State.WarmedH.trans X.warmed hW', X.limits, X.bytes, X.same.trans (hsame.setVm s.vm)⟩,
      ⟨g, mk, s₂, L, rfl, rfl, hqc, rfl, hL, rfl, rfl⟩, ?_⟩
    show Steps p.tables e below _ ((({ U with heap := s₂.heap, slotsUsed := s₂.slotsUsed } : State).setVm s₂.vm).setTop { g with pc := g.pc + len₂, stack := v.toList ++ g.stack })
    rw [← hs₂]
    exact hsteps
  · obtain ⟨e2, q2, q3, q4, q5, q6⟩ := id hsm
    have e3 : s₂ = ({ (U.calling g mk a).setFrames s₂.frames with heap := s₂.heap, slotsUsed := s₂.slotsUsed } : State).setVm s₂.vm := by
      have : s₂ = ({ s₂ with vm := (U.calling g mk a).vm } : State).setVm s₂.vm := rfl
      rw [e2] at this
      exact this
    have hf₂ : s₂.frames = .throwing q :: .java g :: U.frames.tail := hend
    have hW' : U.WarmedH s₂.vm := hW₂
    have hs₂ : s₂ = ((({ U with heap := s₂.heap, slotsUsed := s₂.slotsUsed } : State).setVm s₂.vm).setTop g).pushFrame (.throwing q) := by
      refine e3.trans ?_
      rw [hf₂, State.calling_eq h.top, State.setFrames_setFrames, State.pushFrame, State.frames_setTop _ hr', State.setTop_of_frames _ hr', State.setFrames_setFrames, hr]
      rfl
    have hsame : U.sameButNew ({ U with heap := s₂.heap, slotsUsed := s₂.slotsUsed } : State) L mc ms := by
      refine ⟨?_, q2, q3, q4, q5, q6⟩
      obtain ⟨t, ht, -⟩ := State.frames_cons hr
      show ({ U with heap := s₂.heap, slotsUsed := s₂.slotsUsed } : State) = { U.setFrames U.frames with heap := s₂.heap, slotsUsed := s₂.slotsUsed }
      rw [State.setFrames_self ht]
    subst hg
    refine Or.inr ⟨q, ⟨(({ U with heap := s₂.heap, slotsUsed := s₂.slotsUsed } : State).setVm s₂.vm), Ls ++ L, c0 + mc, s0 + ms⟩,
      ⟨X.admits, X.cas, X.clock, X.frames, X.room, X.hears, X.method, X.code, (X.here.setHeapUsed s₂.heap s₂.slotsUsed).setVm hW'.alike, X.tail, State.WarmedH.trans X.warmed hW', X.limits, X.bytes, X.same.trans (hsame.setVm s.vm)⟩,
      ⟨g, mk, s₂, L, E, ce, rfl, rfl, hx, hce, hcv, hcl, rfl, hL, rfl, rfl⟩, ?_⟩
    show Steps p.tables e below _ (((({ U with heap := s₂.heap, slotsUsed := s₂.slotsUsed } : State).setVm s₂.vm).setTop g).pushFrame (.throwing q))
    rw [← hs₂]
    exact hsteps
end
variable {p : Program} {l : Launch} {e : Env} {R : Room} {s : State} {m : MethodId} {args : Array Value} {below : List Frame} {meth : Method} {c : Code} {T : State} {H : Heap} {locs : List Loc} {cells slots : Nat}
theorem vx_callVX (X : Stand p l e R s m args below meth c T locs cells slots) (hexec : p.tables.exec = Jvm.exec) {own C : String} {index : Nat} {y : MethodName} {bytes : ByteArray} {maxL : Nat} {ret : Option FieldType} {hh : List (Nat × Nat × Nat × Nat)}
    (hown : s.vm.findClass own = some m.cls) (hlink : (Cond.methodLink own index y).before args s = true) (hinst : (Cond.instanceMethod y).before args s = true) (hsel : (Cond.selects C y y).before args s = true)
    (hcode : (Cond.codeWith y bytes maxL ret hh).before args s = true) (hy : y.cls ≠ "java/lang/invoke/MethodHandle" ∧ y.cls ≠ "java/lang/invoke/VarHandle")
    {W9 : Nat} {Pre : Pt → Array Value → Prop} {Post : Pt → Array Value → Option Value → Pt → Prop} {PostX : Pt → Array Value → Addr → Pt → Prop} (hK : vx_Back l R p e below s args y 3 W9 Pre Post PostX)
    {b : Addr} {cellB : Cell} (hcell : T.heap[b]? = some cellB) (hobj : cellB.vm.isStatics = false) (hcls : s.vm.findClass C = some cellB.cls)
    {g : JFrame} (hg : g.method = m) (hsize : g.locals.size = c.maxLocals) {argsL rest : List Value} (hlen : ∀ sig, parseMethodDescriptor y.desc = some sig → argsL.length = sig.parameters.length)
    (hstack : g.stack = argsL.reverse ++ .ref b :: rest) (hW : 2 * g.monitorRoom + (rest.map fun v => v.category).sum ≤ W9) (hdg : decode c.code g.pc = .ok (.invokevirtual index, 3))
    (hpre : ∀ vm₁, s.WarmedH vm₁ → Pre ⟨T.setVm vm₁, locs, cells, slots⟩ (Value.ref b :: argsL).toArray) :
    (∃ (v : Option Value) (vm₁ : Vm) (B : Pt), s.WarmedH vm₁ ∧ Stand p l e R s m args below meth c B.U B.locs B.cells B.slots ∧ Post ⟨T.setVm vm₁, locs, cells, slots⟩ (Value.ref b :: argsL).toArray v B ∧
      ∀ target, Steps p.tables e below (B.U.setTop { g with pc := g.pc + 3, stack := v.toList ++ rest }) target → Steps p.tables e below (T.setTop g) target) ∨
    (∃ (q : Addr) (vm₁ : Vm) (B : Pt), s.WarmedH vm₁ ∧ Stand p l e R s m args below meth c B.U B.locs B.cells B.slots ∧ PostX ⟨T.setVm vm₁, locs, cells, slots⟩ (Value.ref b :: argsL).toArray q B ∧
      Steps p.tables e below (T.setTop g) ((B.U.setTop { g with stack := rest }).pushFrame (.throwing q))) := by
  obtain ⟨mk, methM, hnamed, hmethM, hstM, habM⟩ := Cond.instanceMethod_spec hinst
  obtain ⟨m8, methM', cM, hn8, hmethM', -, -, -, -, -, -, hsigM⟩ := Cond.codeWith_spec hcode
  cases Option.some.inj (hn8.symm.trans hnamed)
  cases hmethM.symm.trans hmethM'
  obtain ⟨c2, r2, m2, q1, q2, q3, q4, kP, hkP, hkPi⟩ := Cond.selects_spec hsel
  cases hcls.symm.trans q1
  cases (State.methodFound?_of_named hnamed hy).symm.trans q2
  cases hnamed.symm.trans q3
  have hselP : selectMethod e.platform s.vm cellB.cls mk = .method mk := by rw [Launch.admits_selectMethod X.admits]; exact q4
  obtain ⟨vm₁, X₁, hstep₁⟩ := X.invokevirtual hexec hown hlink hnamed hmethM hstM hkP hkPi hy (a := b) (cell := cellB) hcell
    (fun z h => by rw [h] at hobj; cases hobj) hselP hmethM habM hkP hkPi (g := g) hg (argsL := argsL) (rest := rest) (hlen _ hsigM) hstack hdg
  rcases hK m meth c ⟨T.setVm vm₁, locs, cells, slots⟩ { g with stack := rest } (.invokevirtual index) mk (Value.ref b :: argsL).toArray X₁ hg hsize hdg hW (X₁.named hnamed) (hpre vm₁ X₁.warmed) with ⟨v, B, X', hpost, hsteps⟩ | ⟨q, B, X', hpost, hsteps⟩
  · exact Or.inl ⟨v, vm₁, B, X₁.warmed, X', hpost, fun target h => hstep₁ _ fun acts => by rw [doInvoke_state]; exact hsteps.trans h⟩
  · exact Or.inr ⟨q, vm₁, B, X₁.warmed, X', hpost, hstep₁ _ fun acts => by rw [doInvoke_state]; exact hsteps⟩
theorem vx_callSX (X : Stand p l e R s m args below meth c T locs cells slots) (hexec : p.tables.exec = Jvm.exec) {own : String} {index : Nat} {y : MethodName} {bytes : ByteArray} {maxL : Nat} {ret : Option FieldType} {hh : List (Nat × Nat × Nat × Nat)}
    (hown : s.vm.findClass own = some m.cls) (hlink : (Cond.methodLink own index y).before args s = true) (hstat : (Cond.static y).before args s = true) (hinit : (Cond.initialized y.cls).before args s = true)
    (hcode : (Cond.codeWith y bytes maxL ret hh).before args s = true) (hy : y.cls ≠ "java/lang/invoke/MethodHandle" ∧ y.cls ≠ "java/lang/invoke/VarHandle")
    {W9 : Nat} {Pre : Pt → Array Value → Prop} {Post : Pt → Array Value → Option Value → Pt → Prop} {PostX : Pt → Array Value → Addr → Pt → Prop} (hK : vx_Back l R p e below s args y 3 W9 Pre Post PostX)
    {g : JFrame} (hg : g.method = m) (hsize : g.locals.size = c.maxLocals) {argsL rest : List Value} (hlen : ∀ sig, parseMethodDescriptor y.desc = some sig → argsL.length = sig.parameters.length)
    (hstack : g.stack = argsL.reverse ++ rest) (hW : 2 * g.monitorRoom + (rest.map fun v => v.category).sum ≤ W9) (hdg : decode c.code g.pc = .ok (.invokestatic index, 3))
    (hpre : ∀ vm₁, s.WarmedH vm₁ → Pre ⟨T.setVm vm₁, locs, cells, slots⟩ argsL.toArray) :
    (∃ (v : Option Value) (vm₁ : Vm) (B : Pt), s.WarmedH vm₁ ∧ Stand p l e R s m args below meth c B.U B.locs B.cells B.slots ∧ Post ⟨T.setVm vm₁, locs, cells, slots⟩ argsL.toArray v B ∧
      ∀ target, Steps p.tables e below (B.U.setTop { g with pc := g.pc + 3, stack := v.toList ++ rest }) target → Steps p.tables e below (T.setTop g) target) ∨
    (∃ (q : Addr) (vm₁ : Vm) (B : Pt), s.WarmedH vm₁ ∧ Stand p l e R s m args below meth c B.U B.locs B.cells B.slots ∧ PostX ⟨T.setVm vm₁, locs, cells, slots⟩ argsL.toArray q B ∧
      Steps p.tables e below (T.setTop g) ((B.U.setTop { g with stack := rest }).pushFrame (.throwing q))) := by
  obtain ⟨mk, methM, cM, hnamed, hmethM, -, -, -, -, -, -, hsigM⟩ := Cond.codeWith_spec hcode
  have hstatic : methM.isStatic = true := Cond.static_spec hnamed hmethM hstat
  obtain ⟨kP, hkP, -⟩ := className_of_methodNamed hnamed
  have hinitP : kP.init = .initialized := Cond.initialized_spec (findClass_of_methodNamed hnamed) hkP hinit
  obtain ⟨vm₁, X₁, hstep₁⟩ := X.invokestatic hexec hown hlink hnamed hmethM hstatic hkP hinitP hy (g := g) hg (argsL := argsL) (rest := rest) (hlen _ hsigM) hstack hdg
  rcases hK m meth c ⟨T.setVm vm₁, locs, cells, slots⟩ { g with stack := rest } (.invokestatic index) mk argsL.toArray X₁ hg hsize hdg hW (X₁.named hnamed) (hpre vm₁ X₁.warmed) with ⟨v, B, X', hpost, hsteps⟩ | ⟨q, B, X', hpost, hsteps⟩
  · exact Or.inl ⟨v, vm₁, B, X₁.warmed, X', hpost, fun target h => hstep₁ _ fun acts => by rw [doInvoke_state]; exact hsteps.trans h⟩
  · exact Or.inr ⟨q, vm₁, B, X₁.warmed, X', hpost, hstep₁ _ fun acts => by rw [doInvoke_state]; exact hsteps⟩
theorem vx_callVW (X : Stand p l e R s m args below meth c T locs cells slots) (hexec : p.tables.exec = Jvm.exec) {own C : String} {index : Nat} {y : MethodName} {bytes : ByteArray} {maxL : Nat} {ret : Option FieldType} {hh : List (Nat × Nat × Nat × Nat)}
    (hown : s.vm.findClass own = some m.cls) (hlink : (Cond.methodLink own index y).before args s = true) (hinst : (Cond.instanceMethod y).before args s = true) (hsel : (Cond.selects C y y).before args s = true)
    (hcode : (Cond.codeWith y bytes maxL ret hh).before args s = true) (hy : y.cls ≠ "java/lang/invoke/MethodHandle" ∧ y.cls ≠ "java/lang/invoke/VarHandle")
    {W9 : Nat} {Pre : Pt → Array Value → Prop} {Post : Pt → Array Value → Option Value → Pt → Prop} (hK : Back l R p e below s args y 3 W9 Pre Post)
    {b : Addr} {cellB : Cell} (hcell : T.heap[b]? = some cellB) (hobj : cellB.vm.isStatics = false) (hcls : s.vm.findClass C = some cellB.cls)
    {g : JFrame} (hg : g.method = m) (hsize : g.locals.size = c.maxLocals) {argsL rest : List Value} (hlen : ∀ sig, parseMethodDescriptor y.desc = some sig → argsL.length = sig.parameters.length)
    (hstack : g.stack = argsL.reverse ++ .ref b :: rest) (hW : 2 * g.monitorRoom + (rest.map fun v => v.category).sum ≤ W9) (hdg : decode c.code g.pc = .ok (.invokevirtual index, 3))
    (hpre : ∀ vm₁, s.WarmedH vm₁ → Pre ⟨T.setVm vm₁, locs, cells, slots⟩ (Value.ref b :: argsL).toArray) :
    ∃ (v : Option Value) (vm₁ : Vm) (B : Pt), s.WarmedH vm₁ ∧ Stand p l e R s m args below meth c B.U B.locs B.cells B.slots ∧ Post ⟨T.setVm vm₁, locs, cells, slots⟩ (Value.ref b :: argsL).toArray v B ∧
      ∀ target, Steps p.tables e below (B.U.setTop { g with pc := g.pc + 3, stack := v.toList ++ rest }) target → Steps p.tables e below (T.setTop g) target := by
  obtain ⟨mk, methM, hnamed, hmethM, hstM, habM⟩ := Cond.instanceMethod_spec hinst
  obtain ⟨m8, methM', cM, hn8, hmethM', -, -, -, -, -, -, hsigM⟩ := Cond.codeWith_spec hcode
  cases Option.some.inj (hn8.symm.trans hnamed)
  cases hmethM.symm.trans hmethM'
  obtain ⟨c2, r2, m2, q1, q2, q3, q4, kP, hkP, hkPi⟩ := Cond.selects_spec hsel
  cases hcls.symm.trans q1
  cases (State.methodFound?_of_named hnamed hy).symm.trans q2
  cases hnamed.symm.trans q3
  have hselP : selectMethod e.platform s.vm cellB.cls mk = .method mk := by rw [Launch.admits_selectMethod X.admits]; exact q4
  obtain ⟨vm₁, X₁, hstep₁⟩ := X.invokevirtual hexec hown hlink hnamed hmethM hstM hkP hkPi hy (a := b) (cell := cellB) hcell
    (fun z h => by rw [h] at hobj; cases hobj) hselP hmethM habM hkP hkPi (g := g) hg (argsL := argsL) (rest := rest) (hlen _ hsigM) hstack hdg
  obtain ⟨v, B, X', hpost, hsteps⟩ := hK m meth c ⟨T.setVm vm₁, locs, cells, slots⟩ { g with stack := rest } (.invokevirtual index) mk (Value.ref b :: argsL).toArray X₁ hg hsize hdg hW (X₁.named hnamed) (hpre vm₁ X₁.warmed)
  exact ⟨v, vm₁, B, X₁.warmed, X', hpost, fun target h => hstep₁ _ fun acts => by rw [doInvoke_state]; exact hsteps.trans h⟩
abbrev vx_CVW (R : Room) (s : State) (args : Array Value) (own C : String) (index : Nat) (y : MethodName) (bytes : ByteArray) (maxL : Nat) (ret : Option FieldType) (hh : List (Nat × Nat × Nat × Nat)) (ws : List Cond) (rm : Room) (mc ms n : Nat) : Prop :=
  (rm.cells = mc ∧ rm.slots = ms ∧ rm.frames + 1 ≤ R.frames ∧ 8 + (maxL + 11) + rm.locals ≤ R.locals ∧ (∀ w ∈ ws, ∀ (a' : Array Value) (U : State), s.WarmedH U.vm → w.before a' U = true) ∧ Cond.codeWith y bytes maxL ret hh ∈ ws) ∧
  (Cond.codeWith y bytes maxL ret hh).before args s = true ∧ (Cond.initialized y.cls).before args s = true ∧ (y.cls ≠ "java/lang/invoke/MethodHandle" ∧ y.cls ≠ "java/lang/invoke/VarHandle") ∧
  (∀ sig, parseMethodDescriptor y.desc = some sig → n = sig.parameters.length) ∧ (Cond.methodLink own index y).before args s = true ∧ (Cond.instanceMethod y).before args s = true ∧ (Cond.selects C y y).before args s = true
theorem vx_cwVW {own C : String} {index maxL mc ms : Nat} {y : MethodName} {bytes : ByteArray} {ret : Option FieldType} {hh : List (Nat × Nat × Nat × Nat)} {Ts ws ws' : List Cond} {rm : Room} (n : Nat) (ht : ∀ w ∈ Ts, w.before args s = true) (hT : GoodIn Ts (wsV own index C y ws)) (hw : ws = Cond.codeWith y bytes maxL ret hh :: ws') (hrc : rm.cells = mc) (hrs : rm.slots = ms)
    (hd : y.cls = C ∧ y.cls ≠ "java/lang/invoke/MethodHandle" ∧ y.cls ≠ "java/lang/invoke/VarHandle" ∧ (parseMethodDescriptor y.desc).map (fun d => d.parameters.length) = some n) (hR : rm.frames + 1 ≤ R.frames ∧ 8 + (maxL + 11) + rm.locals ≤ R.locals) :
    vx_CVW R s args own C index y bytes maxL ret hh ws rm mc ms n := by
  obtain ⟨hC, hd⟩ := hd
  subst hC
  have ok : ∀ w ∈ wsV own index y.cls y ws, w.before args s = true := fun w h => ht w (hT w h).1
  have hG : GoodIn Ts ws := fun w h => hT w (by unfold wsV; exact List.mem_append_right _ h)
  have hc : Cond.codeWith y bytes maxL ret hh ∈ ws := by rw [hw]; exact List.mem_cons_self
  refine ⟨⟨hrc, hrs, hR.1, hR.2, pay_in ht hG, hc⟩, ht _ (hG _ hc).1, ok _ (by simp [wsV]), ⟨hd.1, hd.2.1⟩, fun sig h => ?_, ok _ (by simp [wsV]), ok _ (by simp [wsV]), ok _ (by simp [wsV])⟩
  have h2 := hd.2.2
  rw [h] at h2
  exact (Option.some.inj h2).symm
theorem vx_runVW {y : MethodName} {bytes cc : ByteArray} {maxL nL mc ms n index : Nat} {ret : Option FieldType} {hh : List (Nat × Nat × Nat × Nat)} {ws : List Cond} {rm : Room} {Pc : Array Value → State → Prop} {Qc : Array Value → State → Outcome → State → Prop} {free : Addr → Prop} {Ts : List Cond} {own C : String} {b : Addr} {As rest : List Value} {g : JFrame}
    (S : CallFix p m c cc nL s args Ts own) (hM : Met l y ws rm Pc Qc mc ms free) (cw : vx_CVW R s args own C index y bytes maxL ret hh ws rm mc ms n) (hp : PreV s H C b Pc As)
    (hg : g.method = m) (hn : As.length = n) (hsize : g.locals.size = nL) (hstack : g.stack = As.reverse ++ .ref b :: rest) (hW : 2 * g.monitorRoom + (rest.map fun v => v.category).sum ≤ 8) (hdg : decode cc g.pc = .ok (.invokevirtual index, 3)) (hf : cells + mc ≤ R.cells ∧ slots + ms ≤ R.slots) :
    va_Run p l e R s m args below meth c H locs cells slots mc ms g rest (Qc (Value.ref b :: As).toArray) free := by
  obtain ⟨⟨hrc, hrs, hfr, hlo, hws, hcw⟩, hcode, hini, hy, hlen, hl, hin, hse⟩ := cw
  have hK : Back l R p e below s args y 3 8 (PreOf R mc ms Pc) (PostOf Qc mc ms free) := va_backW (hh := hh) (bytes := bytes) (maxL := maxL) (ret := ret) hM hp.1 hrc hrs hfr hlo hws hcw (fun a' U hW => word_at hW (Or.inl (by first | rfl | simp [Cond.onTables, Cond.keeps, Cond.steady])) hini)
  obtain ⟨hx, hb, hml, ho, -⟩ := S
  obtain ⟨-, ⟨cellB, hcB, hoB, hclB⟩, hPc⟩ := hp
  intro T hT X
  obtain ⟨v, vm₁, ⟨U', l2, c2, s2⟩, hW₁, X', ⟨g', mk, t, L, e1, e2, hq, h1, hL, h2, h3⟩, st⟩ := vx_callVW X hx (C := C) (hh := hh) (bytes := bytes) (maxL := maxL) (ret := ret) ho hl hin hse hcode hy hK (by rw [hT]; exact hcB) hoB hclB hg (hsize.trans hml.symm) (argsL := As) (rest := rest) (fun sig h => hn.trans (hlen sig h)) hstack hW (by rw [hb]; exact hdg)
    (fun vm₁ hW₁ => ⟨hf.1, hf.2, hPc (T.setVm vm₁) hT hW₁⟩)
  dsimp only [Pt.U, Pt.locs, Pt.cells, Pt.slots] at X' e1 e2 h1 h2 h3 st
  subst h1; subst h2; subst h3
  exact ⟨v, (T.setVm vm₁).calling g' mk (Value.ref b :: As).toArray, t, U', L, hT, X', hL, e1, e2, hq, st⟩
section
variable {y : MethodName} {bytes cc : ByteArray} {maxL nL mc ms n index : Nat} {ret : Option FieldType} {ws : List Cond} {rm : Room} {Pc : Array Value → State → Prop} {Qc : Array Value → State → Outcome → State → Prop} {XC : String → State → State → Prop} {free : Addr → Prop} {Ts : List Cond} {own C : String} {b : Addr} {As rest : List Value} {g : JFrame}
theorem vx_runVX {hh : List (Nat × Nat × Nat × Nat)} (S : CallFix p m c cc nL s args Ts own) (hM : vx_Met l y ws rm Pc Qc XC mc ms free) (cw : vx_CVW R s args own C index y bytes maxL ret hh ws rm mc ms n) (hp : PreV s H C b Pc As)
    (hg : g.method = m) (hn : As.length = n) (hsize : g.locals.size = nL) (hstack : g.stack = As.reverse ++ .ref b :: rest) (hW : 2 * g.monitorRoom + (rest.map fun v => v.category).sum ≤ 8) (hdg : decode cc g.pc = .ok (.invokevirtual index, 3)) (hf : cells + mc ≤ R.cells ∧ slots + ms ≤ R.slots) :
    vx_Run p l e R s m args below meth c H locs cells slots mc ms g rest (Qc (Value.ref b :: As).toArray) XC free := by
  obtain ⟨⟨hrc, hrs, hfr, hlo, hws, hcw⟩, hcode, hini, hy, hlen, hl, hin, hse⟩ := cw
  have hK : vx_Back l R p e below s args y 3 8 (PreOf R mc ms Pc) (PostOf Qc mc ms free) (vx_Post XC mc ms free) := vx_backW (hh := hh) (bytes := bytes) (maxL := maxL) (ret := ret) hM hp.1 hrc hrs hfr hlo hws hcw (fun a' U hW => word_at hW (Or.inl (by first | rfl | simp [Cond.onTables, Cond.keeps, Cond.steady])) hini)
  obtain ⟨hx, hb, hml, ho, -⟩ := S
  obtain ⟨-, ⟨cellB, hcB, hoB, hclB⟩, hPc⟩ := hp
  intro T hT X
  rcases vx_callVX X hx (C := C) (hh := hh) (bytes := bytes) (maxL := maxL) (ret := ret) ho hl hin hse hcode hy hK (by rw [hT]; exact hcB) hoB hclB hg (hsize.trans hml.symm) (argsL := As) (rest := rest) (fun sig h => hn.trans (hlen sig h)) hstack hW (by rw [hb]; exact hdg)
    (fun vm₁ hW₁ => ⟨hf.1, hf.2, hPc (T.setVm vm₁) hT hW₁⟩) with ⟨v, vm₁, ⟨U', l2, c2, s2⟩, hW₁, X', ⟨g', mk, t, L, e1, e2, hq, h1, hL, h2, h3⟩, st⟩ | ⟨q, vm₁, ⟨U', l2, c2, s2⟩, hW₁, X', ⟨g', mk, t, L, E, ce, e1, e2, hq, hce, hcv, hcl, h1, hL, h2, h3⟩, st⟩
  · dsimp only [Pt.U, Pt.locs, Pt.cells, Pt.slots] at X' e1 e2 h1 h2 h3 st
    subst h1; subst h2; subst h3
    exact Or.inl ⟨v, (T.setVm vm₁).calling g' mk (Value.ref b :: As).toArray, t, U', L, hT, X', hL, e1, e2, hq, st⟩
  · dsimp only [Pt.U, Pt.locs, Pt.cells, Pt.slots] at X' e1 e2 h1 h2 h3 st hcl
    subst h1; subst h2; subst h3
    exact Or.inr ⟨q, (T.setVm vm₁).calling g' mk (Value.ref b :: As).toArray, t, U', L, E, ce, hT, X', hL, e1, e2, hq, hce, hcv, vx_cls hW₁ hcl, st⟩
theorem vx_runSX {hh : List (Nat × Nat × Nat × Nat)} (S : CallFix p m c cc nL s args Ts own) (hM : vx_Met l y ws rm Pc Qc XC mc ms free) (cw : vx_CSW R s args own index y bytes maxL ret hh ws rm mc ms n) (hp : PreS s H Pc As)
    (hg : g.method = m) (hn : As.length = n) (hsize : g.locals.size = nL) (hstack : g.stack = As.reverse ++ rest) (hW : 2 * g.monitorRoom + (rest.map fun v => v.category).sum ≤ 8) (hdg : decode cc g.pc = .ok (.invokestatic index, 3)) (hf : cells + mc ≤ R.cells ∧ slots + ms ≤ R.slots) :
    vx_Run p l e R s m args below meth c H locs cells slots mc ms g rest (Qc As.toArray) XC free := by
  obtain ⟨⟨hrc, hrs, hfr, hlo, hws, hcw⟩, hcode, hini, hy, hlen, hl, hstt⟩ := cw
  have hK : vx_Back l R p e below s args y 3 8 (PreOf R mc ms Pc) (PostOf Qc mc ms free) (vx_Post XC mc ms free) := vx_backW (hh := hh) (bytes := bytes) (maxL := maxL) (ret := ret) hM hp.1 hrc hrs hfr hlo hws hcw (fun a' U hW => word_at hW (Or.inl (by first | rfl | simp [Cond.onTables, Cond.keeps, Cond.steady])) hini)
  obtain ⟨hx, hb, hml, ho, -⟩ := S
  intro T hT X
  rcases vx_callSX X hx (hh := hh) (bytes := bytes) (maxL := maxL) (ret := ret) ho hl hstt hini hcode hy hK hg (hsize.trans hml.symm) (argsL := As) (rest := rest) (fun sig h => hn.trans (hlen sig h)) hstack hW (by rw [hb]; exact hdg)
    (fun vm₁ hW₁ => ⟨hf.1, hf.2, hp.2 (T.setVm vm₁) hT hW₁⟩) with ⟨v, vm₁, ⟨U', l2, c2, s2⟩, hW₁, X', ⟨g', mk, t, L, e1, e2, hq, h1, hL, h2, h3⟩, st⟩ | ⟨q, vm₁, ⟨U', l2, c2, s2⟩, hW₁, X', ⟨g', mk, t, L, E, ce, e1, e2, hq, hce, hcv, hcl, h1, hL, h2, h3⟩, st⟩
  · dsimp only [Pt.U, Pt.locs, Pt.cells, Pt.slots] at X' e1 e2 h1 h2 h3 st
    subst h1; subst h2; subst h3
    exact Or.inl ⟨v, (T.setVm vm₁).calling g' mk As.toArray, t, U', L, hT, X', hL, e1, e2, hq, st⟩
  · dsimp only [Pt.U, Pt.locs, Pt.cells, Pt.slots] at X' e1 e2 h1 h2 h3 st hcl
    subst h1; subst h2; subst h3
    exact Or.inr ⟨q, (T.setVm vm₁).calling g' mk As.toArray, t, U', L, E, ce, hT, X', hL, e1, e2, hq, hce, hcv, vx_cls hW₁ hcl, st⟩
end
end VXH
theorem vx_ofWH {l : Launch} {y : MethodName} {ws ws' : List Cond} {rm : Room} {Pc : Array Value → State → Prop} {Qc : Array Value → State → Outcome → State → Prop} {XC : String → State → State → Prop} {mc ms : Nat} {free : Addr → Prop} {cc : ByteArray} {maxL : Nat} {ret : Option FieldType} {hh : List (Nat × Nat × Nat × Nat)}
    (hy : plainName y.cls = true) (hw : ws = Cond.codeWith y cc maxL ret hh :: ws')
    (body : ∀ p e s m args below meth c s₁, BodyLoose p l y (headSpec ws rm) cc maxL ret e s m args below meth c s₁ → c.maxLocals = maxL → Pc args s →
      W p l e (headSpec ws rm).room s m args below meth c s.heap [] 0 0 (vx_MQ below Qc XC args s mc ms free) (entryFrame m args maxL)) : vx_Met l y ws rm Pc Qc XC mc ms free := by
  refine MetFree.of_bodyS (code := cc) (maxLocals := maxL) (ret := ret) hy ?_ ?_
  · intro args s m h hn
    obtain ⟨m9, meth, c, hn9, h1, h2, h3, h4, -, h5, h6, -⟩ := Cond.codeWith_spec (atoms_spec (ws := ws) h _ (by rw [hw]; exact List.mem_cons_self))
    cases hn.symm.trans hn9
    exact ⟨meth, c, h1, h2, h3, h4, h5, h6⟩
  · intro p e s m args below meth c s₁ B hml hP _
    have hh0 : s₁.heap = s.heap := by rw [B.state]; rfl
    obtain ⟨t, a1, o, b1, b2, b3⟩ := body p e s m args below meth c s₁ B hml hP s₁ hh0 (Stand.of_body B)
    exact ⟨t, o, a1, b1, b2, b3⟩
/-! ===== END ===== -/
end
section
def RX0 : String := "PetitionDesk$Chances"
def TX0 : u_T := fun k => match k with
  | 0 => ("PetitionDesk$Chances", "triangle", "[J", true)
  | _ => ("PetitionDesk$Chances", "ways", "[J", true)
def tyX0 : Nat → FieldType := fun k => match k with
  | 0 => .array .long
  | _ => .array .long
theorem nmX0 : ∀ a, a < 2 → ∀ b, b < 2 → a ≠ b → (TX0 a).2.1 ≠ (TX0 b).2.1 := by decide +kernel
theorem tyX0_ok : ∀ k, k < 2 → parseFieldDescriptor (TX0 k).2.2.1 = some (tyX0 k) := by decide +kernel
abbrev cX0_init : ByteArray := prog_2_method_1_code
def yX0_init : MethodName := ⟨RX0, "<init>", "()V"⟩
abbrev cX0_choose : ByteArray := prog_2_method_2_code
def yX0_choose : MethodName := ⟨RX0, "choose", "(II)J"⟩
abbrev cX0_lowBound : ByteArray := prog_2_method_3_code
def yX0_lowBound : MethodName := ⟨RX0, "lowBound", "(IIII)I"⟩
abbrev cX0_highBound : ByteArray := prog_2_method_4_code
def yX0_highBound : MethodName := ⟨RX0, "highBound", "(IIII)I"⟩
abbrev cX0_waysWithMarked : ByteArray := prog_2_method_5_code
def yX0_waysWithMarked : MethodName := ⟨RX0, "waysWithMarked", "(IIIII)J"⟩
abbrev cX0_waysWithoutPair : ByteArray := prog_2_method_6_code
def yX0_waysWithoutPair : MethodName := ⟨RX0, "waysWithoutPair", "([III)J"⟩
abbrev cX0_commonDivisor : ByteArray := prog_2_method_7_code
def yX0_commonDivisor : MethodName := ⟨RX0, "commonDivisor", "(JJ)J"⟩
def RX1 : String := "PetitionDesk$Judgement"
def TX1 : u_T := fun k => match k with
  | 0 => ("PetitionDesk$Judgement", "voterOf", "[I", true)
  | 1 => ("PetitionDesk$Judgement", "how", "[I", true)
  | 2 => ("PetitionDesk$Judgement", "tally", "[I", true)
  | 3 => ("PetitionDesk$Judgement", "struck", "I", false)
  | 4 => ("PetitionDesk$Judgement", "votersOn", "[I", true)
  | 5 => ("PetitionDesk$Judgement", "facts", "[I", true)
  | 6 => ("PetitionDesk$Judgement", "sheetOf", "[I", true)
  | _ => ("PetitionDesk$Judgement", "lines", "I", false)
def tyX1 : Nat → FieldType := fun k => match k with
  | 0 => .array .int
  | 1 => .array .int
  | 2 => .array .int
  | 3 => .int
  | 4 => .array .int
  | 5 => .array .int
  | 6 => .array .int
  | _ => .int
theorem nmX1 : ∀ a, a < 8 → ∀ b, b < 8 → a ≠ b → (TX1 a).2.1 ≠ (TX1 b).2.1 := by decide +kernel
theorem tyX1_ok : ∀ k, k < 8 → parseFieldDescriptor (TX1 k).2.2.1 = some (tyX1 k) := by decide +kernel
abbrev cX1_init : ByteArray := prog_3_method_1_code
def yX1_init : MethodName := ⟨RX1, "<init>", "()V"⟩
abbrev cX1_judge : ByteArray := prog_3_method_2_code
def yX1_judge : MethodName := ⟨RX1, "judge", "(LPetitionDesk$Petition;)V"⟩
abbrev cX1_findVoters : ByteArray := prog_3_method_3_code
def yX1_findVoters : MethodName := ⟨RX1, "findVoters", "(LPetitionDesk$Petition;)V"⟩
abbrev cX1_findWrongs : ByteArray := prog_3_method_4_code
def yX1_findWrongs : MethodName := ⟨RX1, "findWrongs", "(LPetitionDesk$Petition;)V"⟩
abbrev cX1_wrongOf : ByteArray := prog_3_method_5_code
def yX1_wrongOf : MethodName := ⟨RX1, "wrongOf", "(LPetitionDesk$Petition;II)I"⟩
abbrev cX1_strikeSheets : ByteArray := prog_3_method_6_code
def yX1_strikeSheets : MethodName := ⟨RX1, "strikeSheets", "(LPetitionDesk$Petition;)V"⟩
abbrev cX1_findDoubles : ByteArray := prog_3_method_7_code
def yX1_findDoubles : MethodName := ⟨RX1, "findDoubles", "()V"⟩
abbrev cX1_hasVoter : ByteArray := prog_3_method_8_code
def yX1_hasVoter : MethodName := ⟨RX1, "hasVoter", "(I)Z"⟩
abbrev cX1_isGood : ByteArray := prog_3_method_9_code
def yX1_isGood : MethodName := ⟨RX1, "isGood", "(I)Z"⟩
abbrev cX1_isGoodIn : ByteArray := prog_3_method_10_code
def yX1_isGoodIn : MethodName := ⟨RX1, "isGoodIn", "(JI)Z"⟩
abbrev cX1_countJudged : ByteArray := prog_3_method_11_code
def yX1_countJudged : MethodName := ⟨RX1, "countJudged", "(III)I"⟩
abbrev cX1_linesOf : ByteArray := prog_3_method_12_code
def yX1_linesOf : MethodName := ⟨RX1, "linesOf", "(I)I"⟩
abbrev cX1_trueLinesOf : ByteArray := prog_3_method_13_code
def yX1_trueLinesOf : MethodName := ⟨RX1, "trueLinesOf", "(I)I"⟩
abbrev cX1_goodIn : ByteArray := prog_3_method_14_code
def yX1_goodIn : MethodName := ⟨RX1, "goodIn", "(J)I"⟩
abbrev cX1_tallyGood : ByteArray := prog_3_method_15_code
def yX1_tallyGood : MethodName := ⟨RX1, "tallyGood", "(J)V"⟩
abbrev cX1_pairsIn : ByteArray := prog_3_method_16_code
def yX1_pairsIn : MethodName := ⟨RX1, "pairsIn", "(J)I"⟩
abbrev cX1_votersIn : ByteArray := prog_3_method_17_code
def yX1_votersIn : MethodName := ⟨RX1, "votersIn", "(J)I"⟩
abbrev cX1_trueWithout : ByteArray := prog_3_method_18_code
def yX1_trueWithout : MethodName := ⟨RX1, "trueWithout", "(I)I"⟩
def RX2 : String := "PetitionDesk$Names"
def TX2 : u_T := fun k => match k with
  | _ => ("", "", "", false)
def tyX2 : Nat → FieldType := fun k => match k with
  | _ => .int
theorem nmX2 : ∀ a, a < 0 → ∀ b, b < 0 → a ≠ b → (TX2 a).2.1 ≠ (TX2 b).2.1 := by decide +kernel
theorem tyX2_ok : ∀ k, k < 0 → parseFieldDescriptor (TX2 k).2.2.1 = some (tyX2 k) := by decide +kernel
abbrev cX2_withLetter : ByteArray := prog_4_method_2_code
def yX2_withLetter : MethodName := ⟨RX2, "withLetter", "(III)I"⟩
abbrev cX2_letterAt : ByteArray := prog_4_method_3_code
def yX2_letterAt : MethodName := ⟨RX2, "letterAt", "(II)I"⟩
abbrev cX2_length : ByteArray := prog_4_method_4_code
def yX2_length : MethodName := ⟨RX2, "length", "(I)I"⟩
def RX3 : String := "PetitionDesk$Petition"
def TX3 : u_T := fun k => match k with
  | 0 => ("PetitionDesk$Petition", "voters", "I", false)
  | 1 => ("PetitionDesk$Petition", "names", "[I", true)
  | 2 => ("PetitionDesk$Petition", "streets", "[I", true)
  | 3 => ("PetitionDesk$Petition", "since", "[I", true)
  | 4 => ("PetitionDesk$Petition", "sheets", "I", false)
  | 5 => ("PetitionDesk$Petition", "byHand", "I", false)
  | 6 => ("PetitionDesk$Petition", "lines", "I", false)
  | 7 => ("PetitionDesk$Petition", "lineNames", "[I", true)
  | 8 => ("PetitionDesk$Petition", "lineStreets", "[I", true)
  | 9 => ("PetitionDesk$Petition", "lineDays", "[I", true)
  | 10 => ("PetitionDesk$Petition", "lineSheets", "[I", true)
  | 11 => ("PetitionDesk$Petition", "need", "I", false)
  | 12 => ("PetitionDesk$Petition", "firstDay", "I", false)
  | 13 => ("PetitionDesk$Petition", "lastDay", "I", false)
  | 14 => ("PetitionDesk$Petition", "spoilt", "I", false)
  | 15 => ("PetitionDesk$Petition", "alpha", "I", false)
  | 16 => ("PetitionDesk$Petition", "rule", "LPetitionDesk$Rule;", true)
  | 17 => ("PetitionDesk$Petition", "sample0", "J", false)
  | _ => ("PetitionDesk$Petition", "sample1", "J", false)
def tyX3 : Nat → FieldType := fun k => match k with
  | 0 => .int
  | 1 => .array .int
  | 2 => .array .int
  | 3 => .array .int
  | 4 => .int
  | 5 => .int
  | 6 => .int
  | 7 => .array .int
  | 8 => .array .int
  | 9 => .array .int
  | 10 => .array .int
  | 11 => .int
  | 12 => .int
  | 13 => .int
  | 14 => .int
  | 15 => .int
  | 16 => .object "PetitionDesk$Rule"
  | 17 => .long
  | _ => .long
theorem nmX3 : ∀ a, a < 19 → ∀ b, b < 19 → a ≠ b → (TX3 a).2.1 ≠ (TX3 b).2.1 := by decide +kernel
theorem tyX3_ok : ∀ k, k < 19 → parseFieldDescriptor (TX3 k).2.2.1 = some (tyX3 k) := by decide +kernel
abbrev cX3_init : ByteArray := prog_5_method_1_code
def yX3_init : MethodName := ⟨RX3, "<init>", "()V"⟩
abbrev cX3_clear : ByteArray := prog_5_method_2_code
def yX3_clear : MethodName := ⟨RX3, "clear", "()V"⟩
abbrev cX3_copyFrom : ByteArray := prog_5_method_3_code
def yX3_copyFrom : MethodName := ⟨RX3, "copyFrom", "(LPetitionDesk$Petition;)V"⟩
abbrev cX3_emptySamples : ByteArray := prog_5_method_4_code
def yX3_emptySamples : MethodName := ⟨RX3, "emptySamples", "()V"⟩
abbrev cX3_isByHand : ByteArray := prog_5_method_5_code
def yX3_isByHand : MethodName := ⟨RX3, "isByHand", "(I)Z"⟩
abbrev cX3_voterWith : ByteArray := prog_5_method_6_code
def yX3_voterWith : MethodName := ⟨RX3, "voterWith", "(II)I"⟩
abbrev cX3_addVoter : ByteArray := prog_5_method_7_code
def yX3_addVoter : MethodName := ⟨RX3, "addVoter", "(III)V"⟩
abbrev cX3_firstOf : ByteArray := prog_5_method_8_code
def yX3_firstOf : MethodName := ⟨RX3, "firstOf", "(I)I"⟩
abbrev cX3_linesOn : ByteArray := prog_5_method_9_code
def yX3_linesOn : MethodName := ⟨RX3, "linesOn", "(I)I"⟩
abbrev cX3_addLine : ByteArray := prog_5_method_10_code
def yX3_addLine : MethodName := ⟨RX3, "addLine", "(IIII)V"⟩
abbrev cX3_removeLine : ByteArray := prog_5_method_11_code
def yX3_removeLine : MethodName := ⟨RX3, "removeLine", "(I)V"⟩
abbrev cX3_moveLines : ByteArray := prog_5_method_12_code
def yX3_moveLines : MethodName := ⟨RX3, "moveLines", "(III)V"⟩
def RX4 : String := "PetitionDesk$Rule"
def TX4 : u_T := fun k => match k with
  | 0 => ("PetitionDesk$Rule", "steps", "[I", true)
  | _ => ("PetitionDesk$Rule", "count", "I", false)
def tyX4 : Nat → FieldType := fun k => match k with
  | 0 => .array .int
  | _ => .int
theorem nmX4 : ∀ a, a < 2 → ∀ b, b < 2 → a ≠ b → (TX4 a).2.1 ≠ (TX4 b).2.1 := by decide +kernel
theorem tyX4_ok : ∀ k, k < 2 → parseFieldDescriptor (TX4 k).2.2.1 = some (tyX4 k) := by decide +kernel
abbrev cX4_init : ByteArray := prog_6_method_1_code
def yX4_init : MethodName := ⟨RX4, "<init>", "()V"⟩
abbrev cX4_add : ByteArray := prog_6_method_2_code
def yX4_add : MethodName := ⟨RX4, "add", "(I)V"⟩
abbrev cX4_addComparison : ByteArray := prog_6_method_3_code
def yX4_addComparison : MethodName := ⟨RX4, "addComparison", "(III)V"⟩
abbrev cX4_copyFrom : ByteArray := prog_6_method_4_code
def yX4_copyFrom : MethodName := ⟨RX4, "copyFrom", "(LPetitionDesk$Rule;)V"⟩
abbrev cX4_holds : ByteArray := prog_6_method_5_code
def yX4_holds : MethodName := ⟨RX4, "holds", "([I)Z"⟩
abbrev cX4_compares : ByteArray := prog_6_method_6_code
def yX4_compares : MethodName := ⟨RX4, "compares", "(I[I)Z"⟩
abbrev cX4_valueOf : ByteArray := prog_6_method_7_code
def yX4_valueOf : MethodName := ⟨RX4, "valueOf", "(I[I)I"⟩
def RX5 : String := "PetitionDesk$Tape"
def TX5 : u_T := fun k => match k with
  | 0 => ("PetitionDesk$Tape", "bytes", "[B", true)
  | _ => ("PetitionDesk$Tape", "count", "I", false)
def tyX5 : Nat → FieldType := fun k => match k with
  | 0 => .array .byte
  | _ => .int
theorem nmX5 : ∀ a, a < 2 → ∀ b, b < 2 → a ≠ b → (TX5 a).2.1 ≠ (TX5 b).2.1 := by decide +kernel
theorem tyX5_ok : ∀ k, k < 2 → parseFieldDescriptor (TX5 k).2.2.1 = some (tyX5 k) := by decide +kernel
abbrev cX5_init : ByteArray := prog_7_method_1_code
def yX5_init : MethodName := ⟨RX5, "<init>", "()V"⟩
abbrev cX5_hasRoom : ByteArray := prog_7_method_2_code
def yX5_hasRoom : MethodName := ⟨RX5, "hasRoom", "()Z"⟩
abbrev cX5_put : ByteArray := prog_7_method_3_code
def yX5_put : MethodName := ⟨RX5, "put", "(I)V"⟩
def RX6 : String := "PetitionDesk$TextReader"
def TX6 : u_T := fun k => match k with
  | 0 => ("PetitionDesk$TextReader", "tokens", "LPetitionDesk$Tokens;", true)
  | 1 => ("PetitionDesk$TextReader", "draft", "LPetitionDesk$Petition;", true)
  | 2 => ("PetitionDesk$TextReader", "faultKind", "I", false)
  | 3 => ("PetitionDesk$TextReader", "faultPlace", "I", false)
  | 4 => ("PetitionDesk$TextReader", "at", "I", false)
  | _ => ("PetitionDesk$TextReader", "onceTold", "I", false)
def tyX6 : Nat → FieldType := fun k => match k with
  | 0 => .object "PetitionDesk$Tokens"
  | 1 => .object "PetitionDesk$Petition"
  | 2 => .int
  | 3 => .int
  | 4 => .int
  | _ => .int
theorem nmX6 : ∀ a, a < 6 → ∀ b, b < 6 → a ≠ b → (TX6 a).2.1 ≠ (TX6 b).2.1 := by decide +kernel
theorem tyX6_ok : ∀ k, k < 6 → parseFieldDescriptor (TX6 k).2.2.1 = some (tyX6 k) := by decide +kernel
abbrev cX6_init : ByteArray := prog_8_method_1_code
def yX6_init : MethodName := ⟨RX6, "<init>", "()V"⟩
abbrev cX6_read : ByteArray := prog_8_method_2_code
def yX6_read : MethodName := ⟨RX6, "read", "(I)Z"⟩
abbrev cX6_readTold : ByteArray := prog_8_method_3_code
def yX6_readTold : MethodName := ⟨RX6, "readTold", "()Z"⟩
abbrev cX6_readVoter : ByteArray := prog_8_method_4_code
def yX6_readVoter : MethodName := ⟨RX6, "readVoter", "()Z"⟩
abbrev cX6_readSheet : ByteArray := prog_8_method_5_code
def yX6_readSheet : MethodName := ⟨RX6, "readSheet", "()Z"⟩
abbrev cX6_readSigned : ByteArray := prog_8_method_6_code
def yX6_readSigned : MethodName := ⟨RX6, "readSigned", "()Z"⟩
abbrev cX6_readNeed : ByteArray := prog_8_method_7_code
def yX6_readNeed : MethodName := ⟨RX6, "readNeed", "()Z"⟩
abbrev cX6_readSpan : ByteArray := prog_8_method_8_code
def yX6_readSpan : MethodName := ⟨RX6, "readSpan", "()Z"⟩
abbrev cX6_readSpoilt : ByteArray := prog_8_method_9_code
def yX6_readSpoilt : MethodName := ⟨RX6, "readSpoilt", "()Z"⟩
abbrev cX6_readAlpha : ByteArray := prog_8_method_10_code
def yX6_readAlpha : MethodName := ⟨RX6, "readAlpha", "()Z"⟩
abbrev cX6_readChoice : ByteArray := prog_8_method_11_code
def yX6_readChoice : MethodName := ⟨RX6, "readChoice", "(I)Z"⟩
abbrev cX6_readChain : ByteArray := prog_8_method_12_code
def yX6_readChain : MethodName := ⟨RX6, "readChain", "(I)Z"⟩
abbrev cX6_readPart : ByteArray := prog_8_method_13_code
def yX6_readPart : MethodName := ⟨RX6, "readPart", "(I)Z"⟩
abbrev cX6_readComparison : ByteArray := prog_8_method_14_code
def yX6_readComparison : MethodName := ⟨RX6, "readComparison", "()Z"⟩
abbrev cX6_takeOperand : ByteArray := prog_8_method_15_code
def yX6_takeOperand : MethodName := ⟨RX6, "takeOperand", "()I"⟩
abbrev cX6_factOf : ByteArray := prog_8_method_16_code
def yX6_factOf : MethodName := ⟨RX6, "factOf", "(I)I"⟩
abbrev cX6_takeOnce : ByteArray := prog_8_method_17_code
def yX6_takeOnce : MethodName := ⟨RX6, "takeOnce", "()Z"⟩
abbrev cX6_takeSign : ByteArray := prog_8_method_18_code
def yX6_takeSign : MethodName := ⟨RX6, "takeSign", "(C)Z"⟩
abbrev cX6_takeNumber : ByteArray := prog_8_method_19_code
def yX6_takeNumber : MethodName := ⟨RX6, "takeNumber", "(II)I"⟩
abbrev cX6_takeName : ByteArray := prog_8_method_20_code
def yX6_takeName : MethodName := ⟨RX6, "takeName", "()I"⟩
abbrev cX6_refuse : ByteArray := prog_8_method_21_code
def yX6_refuse : MethodName := ⟨RX6, "refuse", "(II)Z"⟩
abbrev cX6_kind : ByteArray := prog_8_method_22_code
def yX6_kind : MethodName := ⟨RX6, "kind", "()I"⟩
abbrev cX6_place : ByteArray := prog_8_method_23_code
def yX6_place : MethodName := ⟨RX6, "place", "()I"⟩
abbrev cX6_advance : ByteArray := prog_8_method_24_code
def yX6_advance : MethodName := ⟨RX6, "advance", "()V"⟩
def RX7 : String := "PetitionDesk$Tokens"
def TX7 : u_T := fun k => match k with
  | 0 => ("PetitionDesk$Tokens", "kinds", "[I", true)
  | 1 => ("PetitionDesk$Tokens", "places", "[I", true)
  | 2 => ("PetitionDesk$Tokens", "values", "[I", true)
  | 3 => ("PetitionDesk$Tokens", "tape", "LPetitionDesk$Tape;", true)
  | 4 => ("PetitionDesk$Tokens", "length", "I", false)
  | _ => ("PetitionDesk$Tokens", "count", "I", false)
def tyX7 : Nat → FieldType := fun k => match k with
  | 0 => .array .int
  | 1 => .array .int
  | 2 => .array .int
  | 3 => .object "PetitionDesk$Tape"
  | 4 => .int
  | _ => .int
theorem nmX7 : ∀ a, a < 6 → ∀ b, b < 6 → a ≠ b → (TX7 a).2.1 ≠ (TX7 b).2.1 := by decide +kernel
theorem tyX7_ok : ∀ k, k < 6 → parseFieldDescriptor (TX7 k).2.2.1 = some (tyX7 k) := by decide +kernel
abbrev cX7_init : ByteArray := prog_9_method_1_code
def yX7_init : MethodName := ⟨RX7, "<init>", "()V"⟩
abbrev cX7_scan : ByteArray := prog_9_method_2_code
def yX7_scan : MethodName := ⟨RX7, "scan", "(I)V"⟩
abbrev cX7_add : ByteArray := prog_9_method_3_code
def yX7_add : MethodName := ⟨RX7, "add", "(III)V"⟩
abbrev cX7_kindOfWord : ByteArray := prog_9_method_4_code
def yX7_kindOfWord : MethodName := ⟨RX7, "kindOfWord", "(I)I"⟩
abbrev cX7_nameAt : ByteArray := prog_9_method_5_code
def yX7_nameAt : MethodName := ⟨RX7, "nameAt", "(I)I"⟩
abbrev cX7_numberAt : ByteArray := prog_9_method_6_code
def yX7_numberAt : MethodName := ⟨RX7, "numberAt", "(I)I"⟩
abbrev cX7_isLetter : ByteArray := prog_9_method_7_code
def yX7_isLetter : MethodName := ⟨RX7, "isLetter", "(I)Z"⟩
abbrev cX7_isDigit : ByteArray := prog_9_method_8_code
def yX7_isDigit : MethodName := ⟨RX7, "isDigit", "(I)Z"⟩
abbrev cX7_byteAt : ByteArray := prog_9_method_9_code
def yX7_byteAt : MethodName := ⟨RX7, "byteAt", "(I)I"⟩
def RX8 : String := "PetitionDesk"
def TX8 : u_T := fun k => match k with
  | 0 => ("PetitionDesk", "reader", "LPetitionDesk$TextReader;", true)
  | 1 => ("PetitionDesk", "tape", "LPetitionDesk$Tape;", true)
  | 2 => ("PetitionDesk", "judgement", "LPetitionDesk$Judgement;", true)
  | 3 => ("PetitionDesk", "chances", "LPetitionDesk$Chances;", true)
  | 4 => ("PetitionDesk", "past", "[LPetitionDesk$Petition;", true)
  | 5 => ("PetitionDesk", "acts", "I", false)
  | 6 => ("PetitionDesk", "now", "LPetitionDesk$Petition;", false)
  | 7 => ("PetitionDesk", "faultPlace", "I", false)
  | 8 => ("PetitionDesk", "refusedElements", "I", false)
  | 9 => ("PetitionDesk", "refusedArguments", "I", false)
  | _ => ("PetitionDesk", "refusedStates", "I", false)
def tyX8 : Nat → FieldType := fun k => match k with
  | 0 => .object "PetitionDesk$TextReader"
  | 1 => .object "PetitionDesk$Tape"
  | 2 => .object "PetitionDesk$Judgement"
  | 3 => .object "PetitionDesk$Chances"
  | 4 => .array (.object "PetitionDesk$Petition")
  | 5 => .int
  | 6 => .object "PetitionDesk$Petition"
  | 7 => .int
  | 8 => .int
  | 9 => .int
  | _ => .int
theorem nmX8 : ∀ a, a < 11 → ∀ b, b < 11 → a ≠ b → (TX8 a).2.1 ≠ (TX8 b).2.1 := by decide +kernel
theorem tyX8_ok : ∀ k, k < 11 → parseFieldDescriptor (TX8 k).2.2.1 = some (tyX8 k) := by decide +kernel
abbrev cX8_init : ByteArray := prog_1_method_1_code
def yX8_init : MethodName := ⟨RX8, "<init>", "()V"⟩
abbrev cX8_feed : ByteArray := prog_1_method_2_code
def yX8_feed : MethodName := ⟨RX8, "feed", "(IIIII)I"⟩
abbrev cX8_text : ByteArray := prog_1_method_3_code
def yX8_text : MethodName := ⟨RX8, "text", "(I)I"⟩
abbrev cX8_fault : ByteArray := prog_1_method_4_code
def yX8_fault : MethodName := ⟨RX8, "fault", "()I"⟩
abbrev cX8_sample : ByteArray := prog_1_method_5_code
def yX8_sample : MethodName := ⟨RX8, "sample", "(III)I"⟩
abbrev cX8_strike : ByteArray := prog_1_method_6_code
def yX8_strike : MethodName := ⟨RX8, "strike", "(IZ)I"⟩
abbrev cX8_sign : ByteArray := prog_1_method_7_code
def yX8_sign : MethodName := ⟨RX8, "sign", "(III)I"⟩
abbrev cX8_erase : ByteArray := prog_1_method_8_code
def yX8_erase : MethodName := ⟨RX8, "erase", "(II)I"⟩
abbrev cX8_undo : ByteArray := prog_1_method_9_code
def yX8_undo : MethodName := ⟨RX8, "undo", "()I"⟩
abbrev cX8_told : ByteArray := prog_1_method_10_code
def yX8_told : MethodName := ⟨RX8, "told", "(I)I"⟩
abbrev cX8_voter : ByteArray := prog_1_method_11_code
def yX8_voter : MethodName := ⟨RX8, "voter", "(II)I"⟩
abbrev cX8_letter : ByteArray := prog_1_method_12_code
def yX8_letter : MethodName := ⟨RX8, "letter", "(II)I"⟩
abbrev cX8_sheet : ByteArray := prog_1_method_13_code
def yX8_sheet : MethodName := ⟨RX8, "sheet", "(II)I"⟩
abbrev cX8_line : ByteArray := prog_1_method_14_code
def yX8_line : MethodName := ⟨RX8, "line", "(III)I"⟩
abbrev cX8_judged : ByteArray := prog_1_method_15_code
def yX8_judged : MethodName := ⟨RX8, "judged", "(I)I"⟩
abbrev cX8_passes : ByteArray := prog_1_method_16_code
def yX8_passes : MethodName := ⟨RX8, "passes", "()I"⟩
abbrev cX8_drawn : ByteArray := prog_1_method_17_code
def yX8_drawn : MethodName := ⟨RX8, "drawn", "(II)I"⟩
abbrev cX8_estimate : ByteArray := prog_1_method_18_code
def yX8_estimate : MethodName := ⟨RX8, "estimate", "(II)J"⟩
abbrev cX8_unlike : ByteArray := prog_1_method_19_code
def yX8_unlike : MethodName := ⟨RX8, "unlike", "(I)I"⟩
abbrev cX8_unseen : ByteArray := prog_1_method_20_code
def yX8_unseen : MethodName := ⟨RX8, "unseen", "(II)J"⟩
abbrev cX8_fewest : ByteArray := prog_1_method_21_code
def yX8_fewest : MethodName := ⟨RX8, "fewest", "()I"⟩
abbrev cX8_worst : ByteArray := prog_1_method_22_code
def yX8_worst : MethodName := ⟨RX8, "worst", "(II)I"⟩
abbrev cX8_cost : ByteArray := prog_1_method_23_code
def yX8_cost : MethodName := ⟨RX8, "cost", "(I)I"⟩
abbrev cX8_print : ByteArray := prog_1_method_24_code
def yX8_print : MethodName := ⟨RX8, "print", "()J"⟩
abbrev cX8_status : ByteArray := prog_1_method_25_code
def yX8_status : MethodName := ⟨RX8, "status", "(I)I"⟩
abbrev cX8_requireFound : ByteArray := prog_1_method_26_code
def yX8_requireFound : MethodName := ⟨RX8, "requireFound", "(Z)V"⟩
abbrev cX8_requireArgument : ByteArray := prog_1_method_27_code
def yX8_requireArgument : MethodName := ⟨RX8, "requireArgument", "(Z)V"⟩
abbrev cX8_requireState : ByteArray := prog_1_method_28_code
def yX8_requireState : MethodName := ⟨RX8, "requireState", "(Z)V"⟩
abbrev cX8_isFrom : ByteArray := prog_1_method_29_code
def yX8_isFrom : MethodName := ⟨RX8, "isFrom", "(III)Z"⟩
abbrev cX8_isVoter : ByteArray := prog_1_method_30_code
def yX8_isVoter : MethodName := ⟨RX8, "isVoter", "(I)Z"⟩
abbrev cX8_isSheet : ByteArray := prog_1_method_31_code
def yX8_isSheet : MethodName := ⟨RX8, "isSheet", "(I)Z"⟩
abbrev cX8_isLine : ByteArray := prog_1_method_32_code
def yX8_isLine : MethodName := ⟨RX8, "isLine", "(II)Z"⟩
abbrev cX8_sampleOf : ByteArray := prog_1_method_33_code
def yX8_sampleOf : MethodName := ⟨RX8, "sampleOf", "(I)J"⟩
abbrev cX8_keepForUndo : ByteArray := prog_1_method_34_code
def yX8_keepForUndo : MethodName := ⟨RX8, "keepForUndo", "()V"⟩
abbrev cX8_drawLines : ByteArray := prog_1_method_35_code
def yX8_drawLines : MethodName := ⟨RX8, "drawLines", "(II)J"⟩
abbrev cX8_indexOfUndrawn : ByteArray := prog_1_method_36_code
def yX8_indexOfUndrawn : MethodName := ⟨RX8, "indexOfUndrawn", "(JI)I"⟩
abbrev cX8_verdictOf : ByteArray := prog_1_method_37_code
def yX8_verdictOf : MethodName := ⟨RX8, "verdictOf", "(II)I"⟩
abbrev cX8_inLowestTerms : ByteArray := prog_1_method_38_code
def yX8_inLowestTerms : MethodName := ⟨RX8, "inLowestTerms", "(JJI)J"⟩
def RX9 : String := "PetitionDeskModel"
def TX9 : u_T := fun k => match k with
  | 0 => ("PetitionDeskModel", "thrown", "I", false)
  | 1 => ("PetitionDeskModel", "refused", "[I", true)
  | 2 => ("PetitionDeskModel", "tape", "I", false)
  | 3 => ("PetitionDeskModel", "size", "I", false)
  | 4 => ("PetitionDeskModel", "at", "I", false)
  | 5 => ("PetitionDeskModel", "place", "I", false)
  | 6 => ("PetitionDeskModel", "fault", "I", false)
  | 7 => ("PetitionDeskModel", "faultAt", "I", false)
  | 8 => ("PetitionDeskModel", "fed", "[I", true)
  | 9 => ("PetitionDeskModel", "now", "[I", true)
  | 10 => ("PetitionDeskModel", "told", "[I", true)
  | 11 => ("PetitionDeskModel", "past", "[[I", true)
  | 12 => ("PetitionDeskModel", "backs", "I", false)
  | 13 => ("PetitionDeskModel", "codes", "I", false)
  | 14 => ("PetitionDeskModel", "open", "I", false)
  | 15 => ("PetitionDeskModel", "once", "I", false)
  | 16 => ("PetitionDeskModel", "how", "[I", true)
  | 17 => ("PetitionDeskModel", "whose", "[I", true)
  | 18 => ("PetitionDeskModel", "stack", "[I", true)
  | 19 => ("PetitionDeskModel", "struck", "I", false)
  | _ => ("PetitionDeskModel", "apart", "[J", true)
def tyX9 : Nat → FieldType := fun k => match k with
  | 0 => .int
  | 1 => .array .int
  | 2 => .int
  | 3 => .int
  | 4 => .int
  | 5 => .int
  | 6 => .int
  | 7 => .int
  | 8 => .array .int
  | 9 => .array .int
  | 10 => .array .int
  | 11 => .array (.array .int)
  | 12 => .int
  | 13 => .int
  | 14 => .int
  | 15 => .int
  | 16 => .array .int
  | 17 => .array .int
  | 18 => .array .int
  | 19 => .int
  | _ => .array .long
theorem nmX9 : ∀ a, a < 21 → ∀ b, b < 21 → a ≠ b → (TX9 a).2.1 ≠ (TX9 b).2.1 := by decide +kernel
theorem tyX9_ok : ∀ k, k < 21 → parseFieldDescriptor (TX9 k).2.2.1 = some (tyX9 k) := by decide +kernel
abbrev cX9_init : ByteArray := prog_11_method_1_code
def yX9_init : MethodName := ⟨RX9, "<init>", "()V"⟩
abbrev cX9_begins : ByteArray := prog_11_method_2_code
def yX9_begins : MethodName := ⟨RX9, "begins", "([I)V"⟩
abbrev cX9_thrown : ByteArray := prog_11_method_3_code
def yX9_thrown : MethodName := ⟨RX9, "thrown", "()I"⟩
abbrev cX9_bad : ByteArray := prog_11_method_4_code
def yX9_bad : MethodName := ⟨RX9, "bad", "(ZII)Z"⟩
abbrev cX9_in : ByteArray := prog_11_method_5_code
def yX9_in : MethodName := ⟨RX9, "in", "(JJJ)Z"⟩
abbrev cX9_less : ByteArray := prog_11_method_6_code
def yX9_less : MethodName := ⟨RX9, "less", "(II)I"⟩
abbrev cX9_feed : ByteArray := prog_11_method_7_code
def yX9_feed : MethodName := ⟨RX9, "feed", "(IIIII)I"⟩
abbrev cX9_copies : ByteArray := prog_11_method_8_code
def yX9_copies : MethodName := ⟨RX9, "copies", "([I[I)V"⟩
abbrev cX9_lineAt : ByteArray := prog_11_method_9_code
def yX9_lineAt : MethodName := ⟨RX9, "lineAt", "(II)I"⟩
abbrev cX9_voterAt : ByteArray := prog_11_method_10_code
def yX9_voterAt : MethodName := ⟨RX9, "voterAt", "(II)I"⟩
abbrev cX9_lines : ByteArray := prog_11_method_11_code
def yX9_lines : MethodName := ⟨RX9, "lines", "()I"⟩
abbrev cX9_byteAt : ByteArray := prog_11_method_12_code
def yX9_byteAt : MethodName := ⟨RX9, "byteAt", "(I)I"⟩
abbrev cX9_here : ByteArray := prog_11_method_13_code
def yX9_here : MethodName := ⟨RX9, "here", "()I"⟩
abbrev cX9_fine : ByteArray := prog_11_method_14_code
def yX9_fine : MethodName := ⟨RX9, "fine", "()Z"⟩
abbrev cX9_wrong : ByteArray := prog_11_method_15_code
def yX9_wrong : MethodName := ⟨RX9, "wrong", "(II)V"⟩
abbrev cX9_isSmall : ByteArray := prog_11_method_16_code
def yX9_isSmall : MethodName := ⟨RX9, "isSmall", "(I)Z"⟩
abbrev cX9_isDigit : ByteArray := prog_11_method_17_code
def yX9_isDigit : MethodName := ⟨RX9, "isDigit", "(I)Z"⟩
abbrev cX9_isWord : ByteArray := prog_11_method_18_code
def yX9_isWord : MethodName := ⟨RX9, "isWord", "(Ljava/lang/String;)Z"⟩
abbrev cX9_takes : ByteArray := prog_11_method_19_code
def yX9_takes : MethodName := ⟨RX9, "takes", "(Ljava/lang/String;)Z"⟩
abbrev cX9_must : ByteArray := prog_11_method_20_code
def yX9_must : MethodName := ⟨RX9, "must", "(I)V"⟩
abbrev cX9_number : ByteArray := prog_11_method_21_code
def yX9_number : MethodName := ⟨RX9, "number", "(II)I"⟩
abbrev cX9_name : ByteArray := prog_11_method_22_code
def yX9_name : MethodName := ⟨RX9, "name", "()I"⟩
abbrev cX9_voterOf : ByteArray := prog_11_method_23_code
def yX9_voterOf : MethodName := ⟨RX9, "voterOf", "([III)I"⟩
abbrev cX9_readsVoter : ByteArray := prog_11_method_24_code
def yX9_readsVoter : MethodName := ⟨RX9, "readsVoter", "(I)V"⟩
abbrev cX9_readsSign : ByteArray := prog_11_method_25_code
def yX9_readsSign : MethodName := ⟨RX9, "readsSign", "(I)V"⟩
abbrev cX9_tells : ByteArray := prog_11_method_26_code
def yX9_tells : MethodName := ⟨RX9, "tells", "(I)V"⟩
abbrev cX9_factOf : ByteArray := prog_11_method_27_code
def yX9_factOf : MethodName := ⟨RX9, "factOf", "(I)Ljava/lang/String;"⟩
abbrev cX9_side : ByteArray := prog_11_method_28_code
def yX9_side : MethodName := ⟨RX9, "side", "()V"⟩
abbrev cX9_part : ByteArray := prog_11_method_29_code
def yX9_part : MethodName := ⟨RX9, "part", "()V"⟩
abbrev cX9_all : ByteArray := prog_11_method_30_code
def yX9_all : MethodName := ⟨RX9, "all", "()V"⟩
abbrev cX9_any : ByteArray := prog_11_method_31_code
def yX9_any : MethodName := ⟨RX9, "any", "()V"⟩
abbrev cX9_takesOnce : ByteArray := prog_11_method_32_code
def yX9_takesOnce : MethodName := ⟨RX9, "takesOnce", "(Ljava/lang/String;I)Z"⟩
abbrev cX9_readsLine : ByteArray := prog_11_method_33_code
def yX9_readsLine : MethodName := ⟨RX9, "readsLine", "()V"⟩
abbrev cX9_text : ByteArray := prog_11_method_34_code
def yX9_text : MethodName := ⟨RX9, "text", "(I)I"⟩
abbrev cX9_fault : ByteArray := prog_11_method_35_code
def yX9_fault : MethodName := ⟨RX9, "fault", "()I"⟩
abbrev cX9_numberOf : ByteArray := prog_11_method_36_code
def yX9_numberOf : MethodName := ⟨RX9, "numberOf", "([II)I"⟩
abbrev cX9_fact : ByteArray := prog_11_method_37_code
def yX9_fact : MethodName := ⟨RX9, "fact", "([III)I"⟩
abbrev cX9_isGood : ByteArray := prog_11_method_38_code
def yX9_isGood : MethodName := ⟨RX9, "isGood", "([II)Z"⟩
abbrev cX9_judges : ByteArray := prog_11_method_39_code
def yX9_judges : MethodName := ⟨RX9, "judges", "([II)V"⟩
abbrev cX9_isClean : ByteArray := prog_11_method_40_code
def yX9_isClean : MethodName := ⟨RX9, "isClean", "(I)Z"⟩
abbrev cX9_count : ByteArray := prog_11_method_41_code
def yX9_count : MethodName := ⟨RX9, "count", "(I)I"⟩
abbrev cX9_remembers : ByteArray := prog_11_method_42_code
def yX9_remembers : MethodName := ⟨RX9, "remembers", "()V"⟩
abbrev cX9_undo : ByteArray := prog_11_method_43_code
def yX9_undo : MethodName := ⟨RX9, "undo", "()I"⟩
abbrev cX9_isSheet : ByteArray := prog_11_method_44_code
def yX9_isSheet : MethodName := ⟨RX9, "isSheet", "(I)Z"⟩
abbrev cX9_isVoter : ByteArray := prog_11_method_45_code
def yX9_isVoter : MethodName := ⟨RX9, "isVoter", "(I)Z"⟩
abbrev cX9_linesOf : ByteArray := prog_11_method_46_code
def yX9_linesOf : MethodName := ⟨RX9, "linesOf", "(I)I"⟩
abbrev cX9_spotOf : ByteArray := prog_11_method_47_code
def yX9_spotOf : MethodName := ⟨RX9, "spotOf", "(II)I"⟩
abbrev cX9_isLine : ByteArray := prog_11_method_48_code
def yX9_isLine : MethodName := ⟨RX9, "isLine", "(II)Z"⟩
abbrev cX9_isIn : ByteArray := prog_11_method_49_code
def yX9_isIn : MethodName := ⟨RX9, "isIn", "(II)Z"⟩
abbrev cX9_emptiesSamples : ByteArray := prog_11_method_50_code
def yX9_emptiesSamples : MethodName := ⟨RX9, "emptiesSamples", "()V"⟩
abbrev cX9_isSample : ByteArray := prog_11_method_51_code
def yX9_isSample : MethodName := ⟨RX9, "isSample", "(I)Z"⟩
abbrev cX9_goodIn : ByteArray := prog_11_method_52_code
def yX9_goodIn : MethodName := ⟨RX9, "goodIn", "(I)I"⟩
abbrev cX9_sample : ByteArray := prog_11_method_53_code
def yX9_sample : MethodName := ⟨RX9, "sample", "(III)I"⟩
abbrev cX9_strike : ByteArray := prog_11_method_54_code
def yX9_strike : MethodName := ⟨RX9, "strike", "(IZ)I"⟩
abbrev cX9_moves : ByteArray := prog_11_method_55_code
def yX9_moves : MethodName := ⟨RX9, "moves", "(II)V"⟩
abbrev cX9_sign : ByteArray := prog_11_method_56_code
def yX9_sign : MethodName := ⟨RX9, "sign", "(III)I"⟩
abbrev cX9_erase : ByteArray := prog_11_method_57_code
def yX9_erase : MethodName := ⟨RX9, "erase", "(II)I"⟩
abbrev cX9_told : ByteArray := prog_11_method_58_code
def yX9_told : MethodName := ⟨RX9, "told", "(I)I"⟩
abbrev cX9_voter : ByteArray := prog_11_method_59_code
def yX9_voter : MethodName := ⟨RX9, "voter", "(II)I"⟩
abbrev cX9_letter : ByteArray := prog_11_method_60_code
def yX9_letter : MethodName := ⟨RX9, "letter", "(II)I"⟩
abbrev cX9_sheet : ByteArray := prog_11_method_61_code
def yX9_sheet : MethodName := ⟨RX9, "sheet", "(II)I"⟩
abbrev cX9_line : ByteArray := prog_11_method_62_code
def yX9_line : MethodName := ⟨RX9, "line", "(III)I"⟩
abbrev cX9_judged : ByteArray := prog_11_method_63_code
def yX9_judged : MethodName := ⟨RX9, "judged", "(I)I"⟩
abbrev cX9_passes : ByteArray := prog_11_method_64_code
def yX9_passes : MethodName := ⟨RX9, "passes", "()I"⟩
abbrev cX9_ways : ByteArray := prog_11_method_65_code
def yX9_ways : MethodName := ⟨RX9, "ways", "(II)J"⟩
abbrev cX9_waysBy : ByteArray := prog_11_method_66_code
def yX9_waysBy : MethodName := ⟨RX9, "waysBy", "(IIII)J"⟩
abbrev cX9_isMuch : ByteArray := prog_11_method_67_code
def yX9_isMuch : MethodName := ⟨RX9, "isMuch", "(JI)Z"⟩
abbrev cX9_lowOf : ByteArray := prog_11_method_68_code
def yX9_lowOf : MethodName := ⟨RX9, "lowOf", "(II)I"⟩
abbrev cX9_highOf : ByteArray := prog_11_method_69_code
def yX9_highOf : MethodName := ⟨RX9, "highOf", "(II)I"⟩
abbrev cX9_sizeOf : ByteArray := prog_11_method_70_code
def yX9_sizeOf : MethodName := ⟨RX9, "sizeOf", "(I)I"⟩
abbrev cX9_pairsIn : ByteArray := prog_11_method_71_code
def yX9_pairsIn : MethodName := ⟨RX9, "pairsIn", "(I)I"⟩
abbrev cX9_drawn : ByteArray := prog_11_method_72_code
def yX9_drawn : MethodName := ⟨RX9, "drawn", "(II)I"⟩
abbrev cX9_terms : ByteArray := prog_11_method_73_code
def yX9_terms : MethodName := ⟨RX9, "terms", "(JJI)J"⟩
abbrev cX9_estimate : ByteArray := prog_11_method_74_code
def yX9_estimate : MethodName := ⟨RX9, "estimate", "(II)J"⟩
abbrev cX9_votersIn : ByteArray := prog_11_method_75_code
def yX9_votersIn : MethodName := ⟨RX9, "votersIn", "(I)I"⟩
abbrev cX9_ones : ByteArray := prog_11_method_76_code
def yX9_ones : MethodName := ⟨RX9, "ones", "(I)I"⟩
abbrev cX9_unlike : ByteArray := prog_11_method_77_code
def yX9_unlike : MethodName := ⟨RX9, "unlike", "(I)I"⟩
abbrev cX9_adds : ByteArray := prog_11_method_78_code
def yX9_adds : MethodName := ⟨RX9, "adds", "(II)V"⟩
abbrev cX9_unseen : ByteArray := prog_11_method_79_code
def yX9_unseen : MethodName := ⟨RX9, "unseen", "(II)J"⟩
abbrev cX9_fewest : ByteArray := prog_11_method_80_code
def yX9_fewest : MethodName := ⟨RX9, "fewest", "()I"⟩
abbrev cX9_worst : ByteArray := prog_11_method_81_code
def yX9_worst : MethodName := ⟨RX9, "worst", "(II)I"⟩
abbrev cX9_cost : ByteArray := prog_11_method_82_code
def yX9_cost : MethodName := ⟨RX9, "cost", "(I)I"⟩
abbrev cX9_print : ByteArray := prog_11_method_83_code
def yX9_print : MethodName := ⟨RX9, "print", "()J"⟩
abbrev cX9_status : ByteArray := prog_11_method_84_code
def yX9_status : MethodName := ⟨RX9, "status", "(I)I"⟩
def RJx145de : String := "java/io/Serializable"
def RJx9f9b0 : String := "java/lang/CharSequence"
def RJxb160c : String := "java/lang/Comparable"
def RJ6 : String := "java/lang/Integer"
abbrev cJ6_bitCount_0f7a4 : ByteArray := prog_18_method_49_code
def yJ6_bitCount_0f7a4 : MethodName := ⟨RJ6, "bitCount", "(I)I"⟩
def RJ13 : String := "java/lang/Long"
abbrev cJ13_bitCount_95d88 : ByteArray := prog_19_method_50_code
def yJ13_bitCount_95d88 : MethodName := ⟨RJ13, "bitCount", "(J)I"⟩
def RJ9 : String := "java/lang/Math"
abbrev cJ9_abs_067f4 : ByteArray := prog_20_method_61_code
def yJ9_abs_067f4 : MethodName := ⟨RJ9, "abs", "(J)J"⟩
abbrev cJ9_max_7cf53 : ByteArray := prog_20_method_65_code
def yJ9_max_7cf53 : MethodName := ⟨RJ9, "max", "(II)I"⟩
abbrev cJ9_min_7cf53 : ByteArray := prog_20_method_69_code
def yJ9_min_7cf53 : MethodName := ⟨RJ9, "min", "(II)I"⟩
def RJ0 : String := "java/lang/String"
abbrev cJ0_length_8abf5 : ByteArray := prog_22_method_54_code
def yJ0_length_8abf5 : MethodName := ⟨RJ0, "length", "()I"⟩
abbrev cJ0_charAt_5068e : ByteArray := prog_22_method_56_code
def yJ0_charAt_5068e : MethodName := ⟨RJ0, "charAt", "(I)C"⟩
abbrev cJ0_coder_7d493 : ByteArray := prog_22_method_152_code
def yJ0_coder_7d493 : MethodName := ⟨RJ0, "coder", "()B"⟩
abbrev cJ0_isLatin1_aae02 : ByteArray := prog_22_method_154_code
def yJ0_isLatin1_aae02 : MethodName := ⟨RJ0, "isLatin1", "()Z"⟩
abbrev cJ0_checkIndex_df160 : ByteArray := prog_22_method_155_code
def yJ0_checkIndex_df160 : MethodName := ⟨RJ0, "checkIndex", "(II)V"⟩
def RJ1 : String := "java/lang/StringLatin1"
abbrev cJ1_charAt_3b067 : ByteArray := prog_23_method_2_code
def yJ1_charAt_3b067 : MethodName := ⟨RJ1, "charAt", "([BI)C"⟩
def RJ2 : String := "java/lang/StringUTF16"
abbrev cJ2_getChar_3b067 : ByteArray := prog_24_method_5_code
def yJ2_getChar_3b067 : MethodName := ⟨RJ2, "getChar", "([BI)C"⟩
abbrev cJ2_length_9d52b : ByteArray := prog_24_method_6_code
def yJ2_length_9d52b : MethodName := ⟨RJ2, "length", "([B)I"⟩
abbrev cJ2_charAt_3b067 : ByteArray := prog_24_method_83_code
def yJ2_charAt_3b067 : MethodName := ⟨RJ2, "charAt", "([BI)C"⟩
abbrev cJ2_checkIndex_2214a : ByteArray := prog_24_method_91_code
def yJ2_checkIndex_2214a : MethodName := ⟨RJ2, "checkIndex", "(I[B)V"⟩
def RJ10 : String := "java/lang/System"
def RJxfd54e : String := "java/lang/constant/Constable"
def RJx3cf43 : String := "java/lang/constant/ConstantDesc"
def RJ7 : String := "java/util/Arrays"
abbrev cJ7_fill_53178 : ByteArray := prog_29_method_103_code
def yJ7_fill_53178 : MethodName := ⟨RJ7, "fill", "([II)V"⟩
def RJ3 : String := "jdk/internal/util/Preconditions"
abbrev cJ3_checkIndex_8e157 : ByteArray := prog_31_method_11_code
def yJ3_checkIndex_8e157 : MethodName := ⟨RJ3, "checkIndex", "(IILjava/util/function/BiFunction;)I"⟩
def RL : String := "PetitionDeskLaw"
abbrev cL_text : ByteArray := method_3_code
def yL_text : MethodName := ⟨RL, "text", "(LPetitionDesk;I[J)I"⟩
abbrev cL_sample : ByteArray := method_4_code
def yL_sample : MethodName := ⟨RL, "sample", "(LPetitionDesk;III[J)I"⟩
abbrev cL_strike : ByteArray := method_5_code
def yL_strike : MethodName := ⟨RL, "strike", "(LPetitionDesk;IZ[J)I"⟩
abbrev cL_sign : ByteArray := method_6_code
def yL_sign : MethodName := ⟨RL, "sign", "(LPetitionDesk;III[J)I"⟩
abbrev cL_erase : ByteArray := method_7_code
def yL_erase : MethodName := ⟨RL, "erase", "(LPetitionDesk;II[J)I"⟩
abbrev cL_told : ByteArray := method_8_code
def yL_told : MethodName := ⟨RL, "told", "(LPetitionDesk;I[J)I"⟩
abbrev cL_voter : ByteArray := method_9_code
def yL_voter : MethodName := ⟨RL, "voter", "(LPetitionDesk;II[J)I"⟩
abbrev cL_letter : ByteArray := method_10_code
def yL_letter : MethodName := ⟨RL, "letter", "(LPetitionDesk;II[J)I"⟩
abbrev cL_sheet : ByteArray := method_11_code
def yL_sheet : MethodName := ⟨RL, "sheet", "(LPetitionDesk;II[J)I"⟩
abbrev cL_line : ByteArray := method_12_code
def yL_line : MethodName := ⟨RL, "line", "(LPetitionDesk;III[J)I"⟩
abbrev cL_judged : ByteArray := method_13_code
def yL_judged : MethodName := ⟨RL, "judged", "(LPetitionDesk;I[J)I"⟩
abbrev cL_drawn : ByteArray := method_14_code
def yL_drawn : MethodName := ⟨RL, "drawn", "(LPetitionDesk;II[J)I"⟩
abbrev cL_estimate : ByteArray := method_15_code
def yL_estimate : MethodName := ⟨RL, "estimate", "(LPetitionDesk;II[J)I"⟩
abbrev cL_unlike : ByteArray := method_16_code
def yL_unlike : MethodName := ⟨RL, "unlike", "(LPetitionDesk;I[J)I"⟩
abbrev cL_unseen : ByteArray := method_17_code
def yL_unseen : MethodName := ⟨RL, "unseen", "(LPetitionDesk;II[J)I"⟩
abbrev cL_worst : ByteArray := method_18_code
def yL_worst : MethodName := ⟨RL, "worst", "(LPetitionDesk;II[J)I"⟩
abbrev cL_cost : ByteArray := method_19_code
def yL_cost : MethodName := ⟨RL, "cost", "(LPetitionDesk;I[J)I"⟩
abbrev cL_law : ByteArray := code
def yL_law : MethodName := ⟨RL, "law", "([I)Z"⟩
/-- the classes whose objects the world holds -/
abbrev pd_cl : List vw_C := [(RX0, TX0, 2), (RX1, TX1, 8), (RX3, TX3, 19), (RX4, TX4, 2), (RX5, TX5, 2), (RX6, TX6, 6), (RX7, TX7, 6), (RX8, TX8, 11), (RX9, TX9, 21)]
end
section
/-! ===== the world as pure memory: three stores over offsets, a list of shapes ===== -/
/-- launch, class ids and slots, array classes, the law's start, the script's cell -/
abbrev pd_G : Type := Launch × va_G × (Nat → ClassId) × State × Nat
def pd_z (G : pd_G) : Nat := G.2.2.2.1.heap.size
def pd_tys (G : pd_G) : List (ClassId × FieldType) := [(G.2.2.1 0, .int), (G.2.2.1 1, .byte), (G.2.2.1 2, .long), (G.2.2.1 3, .object "PetitionDesk$Petition"), (G.2.2.1 4, .array .int)]
/-- shapes, whether nothing else was made, ints, longs, references -/
abbrev pd_M : Type := List (Nat × Nat) × Bool × (Nat → Nat → Int32) × (Nat → Nat → Int64) × (Nat → Nat → Option Nat)
abbrev pd_O : Type := Option Value ⊕ String
/-- name, bytes, locals, return type, handlers -/
abbrev pd_MI : Type := MethodName × ByteArray × Nat × Option FieldType × List (Nat × Nat × Nat × Nat)
def pd_TB : List Cond := lw_tbl.filter goodWord
def pd_hd (mi : pd_MI) : Cond := match mi.2.2.2.2 with
  | [] => .code mi.1 mi.2.1 mi.2.2.1 mi.2.2.2.1
  | hh => .codeWith mi.1 mi.2.1 mi.2.2.1 mi.2.2.2.1 hh
def pd_lay : Nat → List Nat
  | 0 => [2, 2]
  | 1 => [2, 2, 2, 0, 2, 2, 2, 0]
  | 2 => [0, 2, 2, 2, 0, 0, 0, 2, 2, 2, 2, 0, 0, 0, 0, 0, 2, 1, 1]
  | 3 => [2, 0]
  | 4 => [2, 0]
  | 5 => [2, 2, 0, 0, 0, 0]
  | 6 => [2, 2, 2, 2, 0, 0]
  | 7 => [2, 2, 2, 2, 2, 0, 2, 0, 0, 0, 0]
  | 8 => [0, 2, 0, 0, 0, 0, 0, 0, 2, 2, 2, 2, 0, 0, 0, 0, 2, 2, 2, 0, 2]
  | _ => []
def pd_v (z : Nat) (i : Nat → Int32) (l : Nat → Int64) (r : Nat → Option Nat) (j t : Nat) : Value := match t with
  | 0 => .int (i j)
  | 1 => .long (l j)
  | _ => va_rf ((r j).map (fun q => z + q))
def pd_fs (z : Nat) (i : Nat → Int32) (l : Nat → Int64) (r : Nat → Option Nat) : Nat → List Nat → List Value
  | _, [] => []
  | j, t :: ts => pd_v z i l r j t :: pd_fs z i l r (j + 1) ts
theorem pd_fs_get (z : Nat) (i : Nat → Int32) (l : Nat → Int64) (r : Nat → Option Nat) : ∀ (ts : List Nat) (j k : Nat), (pd_fs z i l r j ts)[k]? = (ts[k]?).map (fun t => pd_v z i l r (j + k) t)
  | [], j, k => by simp [pd_fs]
  | t :: ts, j, 0 => by simp [pd_fs]
  | t :: ts, j, k + 1 => by
    rw [pd_fs, List.getElem?_cons_succ, List.getElem?_cons_succ, pd_fs_get z i l r ts (j + 1) k]
    rw [show j + 1 + k = j + (k + 1) by omega]
theorem pd_fs_len (z : Nat) (i : Nat → Int32) (l : Nat → Int64) (r : Nat → Option Nat) : ∀ (ts : List Nat) (j : Nat), (pd_fs z i l r j ts).length = ts.length
  | [], _ => rfl
  | _ :: ts, j => by rw [pd_fs, List.length_cons, List.length_cons, pd_fs_len z i l r ts (j + 1)]
def pd_rr (z : Nat) (r : Nat → Option Nat) : Nat → Option Nat := fun j => (r j).map (fun q => z + q)
def pd_ce (z : Nat) (tc : Nat → ClassId) (x : Nat × Nat) (i : Nat → Int32) (l : Nat → Int64) (r : Nat → Option Nat) : va_E := match x.1 with
  | 9 => .inl (tc 0, x.2, .inl i)
  | 10 => .inl (tc 1, x.2, .inl i)
  | 11 => .inl (tc 2, x.2, .inr (.inl l))
  | 12 => .inl (tc 3, x.2, .inr (.inr (.inr (.inr (pd_rr z r)))))
  | 13 => .inl (tc 4, x.2, .inr (.inr (.inr (.inr (pd_rr z r)))))
  | k => .inr (k, pd_fs z i l r 0 (pd_lay k))
def pd_ws (G : pd_G) (S : List (Nat × Nat)) (I : Nat → Nat → Int32) (L : Nat → Nat → Int64) (R : Nat → Nat → Option Nat) : va_W :=
  (List.range S.length).map fun k => (pd_z G + k, pd_ce (pd_z G) G.2.2.1 (S.getD k (0, 0)) (I k) (L k) (R k))
theorem pd_ws_len (G : pd_G) (S : List (Nat × Nat)) (I L R) : (pd_ws G S I L R).length = S.length := by simp [pd_ws]
theorem pd_ws_get {G : pd_G} {S : List (Nat × Nat)} {I L R} {k : Nat} {x : Nat × Nat} (h : S[k]? = some x) : (pd_ws G S I L R)[k]? = some (pd_z G + k, pd_ce (pd_z G) G.2.2.1 x (I k) (L k) (R k)) := by
  obtain ⟨hk, hx⟩ := List.getElem?_eq_some_iff.mp h
  unfold pd_ws
  rw [List.getElem?_map, List.getElem?_range hk]
  simp [List.getD_eq_getElem?_getD, h]
theorem pd_ws_of {G : pd_G} {S : List (Nat × Nat)} {I L R} {k : Nat} {q : Nat × va_E} (h : (pd_ws G S I L R)[k]? = some q) : k < S.length ∧ q.1 = pd_z G + k := by
  have hk : k < S.length := by
    have := (List.getElem?_eq_some_iff.mp h).1
    rwa [pd_ws_len] at this
  unfold pd_ws at h
  rw [List.getElem?_map, List.getElem?_range hk] at h
  cases h
  exact ⟨hk, rfl⟩
theorem pd_ws_D (G : pd_G) (S : List (Nat × Nat)) (I L R) : va_D (fun q => pd_z G ≤ q) (pd_ws G S I L R) := by
  refine ⟨fun i j p q hi hj e => ?_, fun k q hk => ?_⟩
  · have h1 := (pd_ws_of hi).2
    have h2 := (pd_ws_of hj).2
    omega
  · have h1 := (pd_ws_of hk).2
    show pd_z G ≤ q.1
    omega
theorem pd_ws_set {G : pd_G} {S : List (Nat × Nat)} {I I' : Nat → Nat → Int32} {L L' : Nat → Nat → Int64} {R R' : Nat → Nat → Option Nat} {k : Nat} {x : Nat × Nat} {e : va_E} (h : S[k]? = some x)
    (he : e = pd_ce (pd_z G) G.2.2.1 x (I' k) (L' k) (R' k)) (hI : ∀ j, j ≠ k → I' j = I j) (hL : ∀ j, j ≠ k → L' j = L j) (hR : ∀ j, j ≠ k → R' j = R j) :
    (pd_ws G S I L R).set k (pd_z G + k, e) = pd_ws G S I' L' R' := by
  obtain ⟨hk, hx⟩ := List.getElem?_eq_some_iff.mp h
  apply List.ext_getElem?
  intro j
  by_cases hj : j = k
  · subst hj
    rw [List.getElem?_set_self (by rw [pd_ws_len]; exact hk), pd_ws_get h, he]
  · rw [List.getElem?_set_ne (Ne.symm hj)]
    unfold pd_ws
    rw [List.getElem?_map, List.getElem?_map]
    by_cases hl : j < S.length
    · rw [List.getElem?_range hl]; simp [hI j hj, hL j hj, hR j hj]
    · rw [List.getElem?_eq_none (by simp; omega)]; rfl
def pd_up {α : Type} (f : Nat → Nat → α) (a k : Nat) (v : α) : Nat → Nat → α := fun b j => if b = a ∧ j = k then v else f b j
theorem pd_up_ne {α : Type} {f : Nat → Nat → α} {a k b : Nat} {v : α} (h : b ≠ a) : pd_up f a k v b = f b := by
  funext j; simp [pd_up, h]
theorem pd_up_at {α : Type} {f : Nat → Nat → α} {a k : Nat} {v : α} : pd_up f a k v a k = v := by simp [pd_up]
theorem pd_up_nj {α : Type} {f : Nat → Nat → α} {a b k j : Nat} {v : α} (h : j ≠ k) : pd_up f a k v b j = f b j := by simp [pd_up, h]
theorem pd_up_row (f : Nat → Nat → Int32) (a k : Nat) (v : Int32) : pd_up f a k v a = upd (f a) k v := by
  funext j; simp [pd_up, upd]
theorem pd_up_rowL (f : Nat → Nat → Int64) (a k : Nat) (v : Int64) : pd_up f a k v a = vp_updL (f a) k v := by
  funext j; simp [pd_up, vp_updL]
/-- the world in the heap -/
def pd_Wd (G : pd_G) (M : pd_M) (H : Heap) : Prop := va_P G.2.1 pd_cl (pd_ws G M.1 M.2.2.1 M.2.2.2.1 M.2.2.2.2) H ∧ (∀ q, q < pd_z G → H[q]? = G.2.2.2.1.heap[q]?) ∧ pd_z G + M.1.length ≤ H.size ∧ (M.2.1 = true → H.size = pd_z G + M.1.length)
/-- what holds of the launch and the start -/
def pd_OK (G : pd_G) : Prop := va_K G.2.1 pd_cl (pd_tys G) G.2.2.2.1 ∧ G.1.flags = flags0 ∧ (∀ w ∈ lw_tbl, w.before #[Value.ref G.2.2.2.2] G.2.2.2.1 = true) ∧ (Jvm.Cond.and given_1 narrow_1).before #[Value.ref G.2.2.2.2] G.2.2.2.1 = true
def pd_Fr (G : pd_G) (mi : pd_MI) (p : Program) (s : State) (m : MethodId) (args : Array Value) (meth : Method) (c : Code) : Prop :=
  p.tables.exec = Jvm.exec ∧ c.code = mi.2.1 ∧ meth.sig.returnType = mi.2.2.2.1 ∧ c.maxLocals = mi.2.2.1 ∧ s.vm.findClass mi.1.cls = some m.cls ∧ (∀ w ∈ pd_TB, w.before args s = true) ∧ meth.locks = false ∧ pd_OK G ∧ G.2.2.2.1.WarmedH s.vm ∧ va_K G.2.1 pd_cl (pd_tys G) s ∧ c.exceptionTable.toList = tableOf mi.2.2.2.2 ∧ meth.name = mi.1.name ∧ (pd_z G ≤ s.heap.size ∧ ∀ q, q < pd_z G → s.heap[q]? = G.2.2.2.1.heap[q]?)
def pd_rm (d mc ms : Nat) : Room := { frames := d, cells := mc, slots := ms, locals := 100 * d }
def pd_Qc (G : pd_G) (Q : pd_O → pd_M → Prop) : Array Value → State → Outcome → State → Prop := fun _ st o t => ∃ (r : Option Value) (M : pd_M), o = .returned r ∧ Q (.inl r) M ∧ pd_Wd G M t.heap ∧ st.heap.size ≤ t.heap.size
def pd_Xc (G : pd_G) (Q : pd_O → pd_M → Prop) : String → State → State → Prop := fun E st t => ∃ M : pd_M, Q (.inr E) M ∧ pd_Wd G M t.heap ∧ st.heap.size ≤ t.heap.size
def pd_Pc (G : pd_G) (av : List Value) (M : pd_M) : Array Value → State → Prop := va_Pc av (fun U => pd_OK G ∧ G.2.2.2.1.WarmedH U.vm ∧ pd_Wd G M U.heap)
/-- a method's contract: from arguments and memory, at most h frames deep -/
def pd_Ev (G : pd_G) (mi : pd_MI) (h mc ms : Nat) (av : List Value) (M : pd_M) (Q : pd_O → pd_M → Prop) : Prop :=
  ∀ d : Nat, h ≤ d → vx_Met G.1 mi.1 (pd_hd mi :: pd_TB) (pd_rm d mc ms) (pd_Pc G av M) (pd_Qc G Q) (pd_Xc G Q) mc ms (fun q => pd_z G ≤ q)
/-! locals by their numbers -/
def pd_lg : List (Option Value) → Nat → Option Value
  | [], _ => none
  | a :: _, 0 => a
  | _ :: l, n + 1 => pd_lg l n
def pd_ls : List (Option Value) → Nat → Option Value → List (Option Value)
  | [], _, _ => []
  | _ :: l, 0, v => v :: l
  | a :: l, n + 1, v => a :: pd_ls l n v
def pd_as : Nat → List (Option Value) → List (Nat × Value)
  | _, [] => []
  | b, none :: l => pd_as (b + 1) l
  | b, some v :: l => (b, v) :: pd_as (b + 1) l
theorem pd_as_lg : ∀ (lo : List (Option Value)) (b i : Nat) (v : Value), pd_lg lo i = some v → (b + i, v) ∈ pd_as b lo
  | [], _, _, _, h => by cases h
  | some w :: l, b, 0, v, h => by cases h; exact List.mem_cons_self
  | none :: l, b, 0, v, h => by cases h
  | some w :: l, b, i + 1, v, h => by
    have := pd_as_lg l (b + 1) i v h
    rw [show b + 1 + i = b + (i + 1) by omega] at this
    exact List.mem_cons_of_mem _ this
  | none :: l, b, i + 1, v, h => by
    have := pd_as_lg l (b + 1) i v h
    rw [show b + 1 + i = b + (i + 1) by omega] at this
    exact this
theorem pd_as_of : ∀ (lo : List (Option Value)) (b : Nat) (q : Nat × Value), q ∈ pd_as b lo → b ≤ q.1 ∧ pd_lg lo (q.1 - b) = some q.2
  | [], _, _, h => by cases h
  | some w :: l, b, q, h => by
    rcases List.mem_cons.mp h with rfl | h
    · exact ⟨Nat.le_refl _, by simp [pd_lg]⟩
    · obtain ⟨h1, h2⟩ := pd_as_of l (b + 1) q h
      refine ⟨by omega, ?_⟩
      rw [show q.1 - b = (q.1 - (b + 1)) + 1 by omega]
      exact h2
  | none :: l, b, q, h => by
    obtain ⟨h1, h2⟩ := pd_as_of l (b + 1) q h
    refine ⟨by omega, ?_⟩
    rw [show q.1 - b = (q.1 - (b + 1)) + 1 by omega]
    exact h2
theorem pd_lg_ls_ne : ∀ (lo : List (Option Value)) (i j : Nat) (v : Option Value), j ≠ i → pd_lg (pd_ls lo i v) j = pd_lg lo j
  | [], _, _, _, _ => rfl
  | a :: l, 0, 0, v, h => absurd rfl h
  | a :: l, 0, j + 1, v, h => rfl
  | a :: l, i + 1, 0, v, h => rfl
  | a :: l, i + 1, j + 1, v, h => pd_lg_ls_ne l i j v (fun e => h (by rw [e]))
theorem pd_lg_ls_at : ∀ (lo : List (Option Value)) (i : Nat) (v : Option Value), pd_lg (pd_ls lo i v) i = v ∨ pd_lg (pd_ls lo i v) i = none
  | [], _, _ => Or.inr rfl
  | a :: l, 0, v => Or.inl rfl
  | a :: l, i + 1, v => pd_lg_ls_at l i v
def pd_o1 (lo : List (Option Value)) : Nat → Bool
  | 0 => true
  | i + 1 => match pd_lg lo i with
    | some v => v.category != 2
    | none => true
theorem pd_lv_get {ls : Array Slot} {n : Nat} {lo : List (Option Value)} {i : Nat} {v : Value} (h : lv_has ls n (pd_as 0 lo)) (hg : pd_lg lo i = some v) : ls[i]? = some (.val v) := by
  have := h.2.2 _ (pd_as_lg lo 0 i v hg)
  rwa [Nat.zero_add] at this
theorem pd_lv_set1 {ls' : Array Slot} {n : Nat} {lo : List (Option Value)} {i : Nat} {v : Value} (hk : pd_o1 lo i = true) (h : lv_has ls' n ((i, v) :: (pd_as 0 lo).filter (fun q => !(q.1 == i) && !(q.1 + 1 == i && q.2.category == 2)))) : lv_has ls' n (pd_as 0 (pd_ls lo i (some v))) := by
  refine ⟨h.1, h.2.1, fun q hq => ?_⟩
  obtain ⟨-, hg⟩ := pd_as_of _ 0 q hq
  rw [Nat.sub_zero] at hg
  by_cases hi : q.1 = i
  · rw [hi] at hg ⊢
    rcases pd_lg_ls_at lo i (some v) with e | e
    · rw [e] at hg; cases hg
      exact h.2.2 (i, q.2) List.mem_cons_self
    · rw [e] at hg; cases hg
  · rw [pd_lg_ls_ne lo i q.1 _ hi] at hg
    refine h.2.2 q (List.mem_cons_of_mem _ (List.mem_filter.mpr ⟨?_, ?_⟩))
    · have := pd_as_lg lo 0 q.1 q.2 hg
      rw [Nat.zero_add] at this
      exact this
    · have h1 : (q.1 == i) = false := by simp [hi]
      rw [h1]
      by_cases h2 : q.1 + 1 = i
      · subst h2
        simp only [pd_o1, hg] at hk
        simp at hk
        simp [hk]
      · simp [h2]
theorem pd_lv_set2 {ls' : Array Slot} {n : Nat} {lo : List (Option Value)} {i : Nat} {v : Value} (hk : pd_o1 lo i = true) (h : lv_has ls' n ((i, v) :: (pd_as 0 lo).filter (fun q => !(q.1 == i) && (!(q.1 == i + 1) && !(q.1 + 1 == i && q.2.category == 2))))) : lv_has ls' n (pd_as 0 (pd_ls (pd_ls lo i (some v)) (i + 1) none)) := by
  refine ⟨h.1, h.2.1, fun q hq => ?_⟩
  obtain ⟨-, hg⟩ := pd_as_of _ 0 q hq
  rw [Nat.sub_zero] at hg
  by_cases hj : q.1 = i + 1
  · rw [hj] at hg
    rcases pd_lg_ls_at (pd_ls lo i (some v)) (i + 1) none with e | e <;> rw [e] at hg <;> cases hg
  rw [pd_lg_ls_ne _ (i + 1) q.1 _ hj] at hg
  by_cases hi : q.1 = i
  · rw [hi] at hg ⊢
    rcases pd_lg_ls_at lo i (some v) with e | e
    · rw [e] at hg; cases hg
      exact h.2.2 (i, q.2) List.mem_cons_self
    · rw [e] at hg; cases hg
  · rw [pd_lg_ls_ne lo i q.1 _ hi] at hg
    refine h.2.2 q (List.mem_cons_of_mem _ (List.mem_filter.mpr ⟨?_, ?_⟩))
    · have := pd_as_lg lo 0 q.1 q.2 hg
      rw [Nat.zero_add] at this
      exact this
    · have h1 : (q.1 == i) = false := by simp [hi]
      have h3 : (q.1 == i + 1) = false := by simp [hj]
      rw [h1, h3]
      by_cases h2 : q.1 + 1 = i
      · subst h2
        simp only [pd_o1, hg] at hk
        simp at hk
        simp [hk]
      · simp [h2]
/-- a place in a method: from here the method ends as Q says -/
def pd_At (G : pd_G) (mi : pd_MI) (h mc ms cs ss pc : Nat) (lo : List (Option Value)) (st : List Value) (M : pd_M) (Q : pd_O → pd_M → Prop) : Prop :=
  ∀ (d : Nat) (p : Program) (e : Env) (s : State) (m : MethodId) (args : Array Value) (below : List Frame) (meth : Method) (c : Code) (H : Heap) (locs : List Loc) (ls : Array Slot),
    h ≤ d → pd_Fr G mi p s m args meth c → va_S (fun q => pd_z G ≤ q) s.heap H locs → pd_Wd G M H → lv_has ls mi.2.2.1 (pd_as 0 lo) →
    W p G.1 e (pd_rm d mc ms) s m args below meth c H locs cs ss (vx_MQ below (pd_Qc G Q) (pd_Xc G Q) args s mc ms (fun q => pd_z G ≤ q)) (F0 m pc ls st)
/-! entry -/
def pd_lo : List Value → List (Option Value)
  | [] => []
  | .long x :: vs => some (.long x) :: none :: pd_lo vs
  | .double x :: vs => some (.double x) :: none :: pd_lo vs
  | v :: vs => some v :: pd_lo vs
theorem pd_as_app (b k : Nat) : ∀ lo : List (Option Value), ∀ q ∈ pd_as b (lo ++ List.replicate k none), q ∈ pd_as b lo := by
  intro lo
  induction lo generalizing b with
  | nil =>
    intro q hq
    obtain ⟨h1, h2⟩ := pd_as_of _ b q hq
    exfalso
    have : ∀ (k i : Nat), pd_lg (List.replicate k none) i = none := by
      intro k
      induction k with
      | zero => intro i; rfl
      | succ k ih => intro i; cases i with
        | zero => rfl
        | succ i => exact ih i
    rw [List.nil_append, this] at h2
    cases h2
  | cons a l ih =>
    intro q hq
    cases a with
    | none => exact ih (b + 1) q hq
    | some v =>
      rcases List.mem_cons.mp hq with rfl | hq
      · exact List.mem_cons_self
      · exact List.mem_cons_of_mem _ (ih (b + 1) q hq)
theorem pd_lo_args : ∀ (vs : List Value) (b : Nat), ∀ q ∈ pd_as b (pd_lo vs), q ∈ lv_args b vs
  | [], _, _, h => by cases h
  | .long x :: vs, b, q, h => by
    rcases List.mem_cons.mp h with rfl | h
    · exact List.mem_cons_self
    · refine List.mem_cons_of_mem _ ?_
      have := pd_lo_args vs (b + 2) q h
      simpa [Value.category] using this
  | .double x :: vs, b, q, h => by
    rcases List.mem_cons.mp h with rfl | h
    · exact List.mem_cons_self
    · refine List.mem_cons_of_mem _ ?_
      have := pd_lo_args vs (b + 2) q h
      simpa [Value.category] using this
  | .int x :: vs, b, q, h => by
    rcases List.mem_cons.mp h with rfl | h
    · exact List.mem_cons_self
    · refine List.mem_cons_of_mem _ ?_
      have := pd_lo_args vs (b + 1) q h
      simpa [Value.category] using this
  | .float x :: vs, b, q, h => by
    rcases List.mem_cons.mp h with rfl | h
    · exact List.mem_cons_self
    · refine List.mem_cons_of_mem _ ?_
      have := pd_lo_args vs (b + 1) q h
      simpa [Value.category] using this
  | .ref x :: vs, b, q, h => by
    rcases List.mem_cons.mp h with rfl | h
    · exact List.mem_cons_self
    · refine List.mem_cons_of_mem _ ?_
      have := pd_lo_args vs (b + 1) q h
      simpa [Value.category] using this
  | .null :: vs, b, q, h => by
    rcases List.mem_cons.mp h with rfl | h
    · exact List.mem_cons_self
    · refine List.mem_cons_of_mem _ ?_
      have := pd_lo_args vs (b + 1) q h
      simpa [Value.category] using this
  | .retAddr x :: vs, b, q, h => by
    rcases List.mem_cons.mp h with rfl | h
    · exact List.mem_cons_self
    · refine List.mem_cons_of_mem _ ?_
      have := pd_lo_args vs (b + 1) q h
      simpa [Value.category] using this
/-- a contract out of the walk from the entry -/
theorem pd_ev {G : pd_G} {mi : pd_MI} {h mc ms : Nat} {av : List Value} {M : pd_M} {Q : pd_O → pd_M → Prop} (k : Nat) {lo : List (Option Value)} (hp : plainName mi.1.cls = true) (hlen : (lg_sl av).length ≤ mi.2.2.1) (hlo : pd_lo av ++ List.replicate k none = lo)
    (K : pd_At G mi h mc ms 0 0 0 lo [] M Q) : pd_Ev G mi h mc ms av M Q := by
  intro d hd
  have body : ∀ p e s m args below meth c s₁, BodyLoose p G.1 mi.1 (headSpec (pd_hd mi :: pd_TB) (pd_rm d mc ms)) mi.2.1 mi.2.2.1 mi.2.2.2.1 e s m args below meth c s₁ → c.maxLocals = mi.2.2.1 → c.exceptionTable.toList = tableOf mi.2.2.2.2 → pd_Pc G av M args s →
      W p G.1 e (headSpec (pd_hd mi :: pd_TB) (pd_rm d mc ms)).room s m args below meth c s.heap [] 0 0 (vx_MQ below (pd_Qc G Q) (pd_Xc G Q) args s mc ms (fun q => pd_z G ≤ q)) (entryFrame m args mi.2.2.1) := by
    intro p e s m args below meth c s₁ B hml htab hP
    obtain ⟨rfl, hOK, hWm, hW⟩ := hP
    have hts := atoms_spec (ws := pd_hd mi :: pd_TB) B.pre
    have hl := lv_entry av (n := mi.2.2.1) hlen
    rw [lg_entry_eq]
    generalize (lg_sl av ++ List.replicate (mi.2.2.1 - (lg_sl av).length) Slot.unset).toArray = ls at hl ⊢
    refine K d p e s m _ below meth c s.heap [] ls hd ⟨B.exec, B.bytes, B.returns, hml, findClass_of_methodNamed B.named, fun w hw => hts w (List.mem_cons_of_mem _ hw), B.notSynchronized, hOK, hWm, va_K.moved hWm.alike hOK.1, htab, (name_of_methodNamed B.named B.method).1, Nat.le_trans (Nat.le_add_right _ _) hW.2.2.1, hW.2.1⟩ va_S.rf hW ⟨hl.1, hl.2.1, fun q hq => hl.2.2 q ?_⟩
    rw [← hlo] at hq
    exact pd_lo_args av 0 q (pd_as_app 0 k _ q hq)
  cases hh : mi.2.2.2.2 with
  | nil =>
    have e1 : pd_hd mi = .code mi.1 mi.2.1 mi.2.2.1 mi.2.2.2.1 := by unfold pd_hd; rw [hh]
    rw [e1] at body ⊢
    refine vx_ofW (cc := mi.2.1) (maxL := mi.2.2.1) (ret := mi.2.2.2.1) hp rfl ?_
    intro p e s m args below meth c s₁ B hml ht hP
    refine body p e s m args below meth c s₁ B hml ?_ hP
    rw [hh]
    cases hc : c.exceptionTable.toList with
    | nil => rfl
    | cons a l => exact absurd (by rw [hc]; exact List.mem_cons_self) (fun hm => ht a hm)
  | cons q qs =>
    have e1 : pd_hd mi = .codeWith mi.1 mi.2.1 mi.2.2.1 mi.2.2.2.1 (q :: qs) := by unfold pd_hd; rw [hh]
    rw [e1] at body ⊢
    refine vx_ofWH (cc := mi.2.1) (maxL := mi.2.2.1) (ret := mi.2.2.2.1) (hh := q :: qs) hp rfl ?_
    intro p e s m args below meth c s₁ B hml hP
    refine body p e s m args below meth c s₁ B hml ?_ hP
    rw [hh]
    exact vx_table (x := mi.1) B (atoms_spec (ws := _) B.pre _ List.mem_cons_self)
end
section
theorem at_iadd {G : pd_G} {mi : pd_MI} {h mc ms cs ss pc : Nat} {lo : List (Option Value)} {st : List Value} {M : pd_M} {Q : pd_O → pd_M → Prop} {x y : Int32} (hdg : decode mi.2.1 pc = .ok (.iadd, 1)) (k : pd_At G mi h mc ms cs ss (pc + 1) lo (.int (x + y) :: st) M Q) : pd_At G mi h mc ms cs ss pc lo (.int y :: .int x :: st) M Q := fun d p e s m args below meth c H locs ls hd F hS hW hl => lv_iadd F.1 F.2.1 hdg (k d p e s m args below meth c H locs ls hd F hS hW hl)
theorem at_isub {G : pd_G} {mi : pd_MI} {h mc ms cs ss pc : Nat} {lo : List (Option Value)} {st : List Value} {M : pd_M} {Q : pd_O → pd_M → Prop} {x y : Int32} (hdg : decode mi.2.1 pc = .ok (.isub, 1)) (k : pd_At G mi h mc ms cs ss (pc + 1) lo (.int (x - y) :: st) M Q) : pd_At G mi h mc ms cs ss pc lo (.int y :: .int x :: st) M Q := fun d p e s m args below meth c H locs ls hd F hS hW hl => lv_isub F.1 F.2.1 hdg (k d p e s m args below meth c H locs ls hd F hS hW hl)
theorem at_imul {G : pd_G} {mi : pd_MI} {h mc ms cs ss pc : Nat} {lo : List (Option Value)} {st : List Value} {M : pd_M} {Q : pd_O → pd_M → Prop} {x y : Int32} (hdg : decode mi.2.1 pc = .ok (.imul, 1)) (k : pd_At G mi h mc ms cs ss (pc + 1) lo (.int (x * y) :: st) M Q) : pd_At G mi h mc ms cs ss pc lo (.int y :: .int x :: st) M Q := fun d p e s m args below meth c H locs ls hd F hS hW hl => lv_imul F.1 F.2.1 hdg (k d p e s m args below meth c H locs ls hd F hS hW hl)
theorem at_iand {G : pd_G} {mi : pd_MI} {h mc ms cs ss pc : Nat} {lo : List (Option Value)} {st : List Value} {M : pd_M} {Q : pd_O → pd_M → Prop} {x y : Int32} (hdg : decode mi.2.1 pc = .ok (.iand, 1)) (k : pd_At G mi h mc ms cs ss (pc + 1) lo (.int (x &&& y) :: st) M Q) : pd_At G mi h mc ms cs ss pc lo (.int y :: .int x :: st) M Q := fun d p e s m args below meth c H locs ls hd F hS hW hl => lv_iand F.1 F.2.1 hdg (k d p e s m args below meth c H locs ls hd F hS hW hl)
theorem at_ior {G : pd_G} {mi : pd_MI} {h mc ms cs ss pc : Nat} {lo : List (Option Value)} {st : List Value} {M : pd_M} {Q : pd_O → pd_M → Prop} {x y : Int32} (hdg : decode mi.2.1 pc = .ok (.ior, 1)) (k : pd_At G mi h mc ms cs ss (pc + 1) lo (.int (x ||| y) :: st) M Q) : pd_At G mi h mc ms cs ss pc lo (.int y :: .int x :: st) M Q := fun d p e s m args below meth c H locs ls hd F hS hW hl => lv_ior F.1 F.2.1 hdg (k d p e s m args below meth c H locs ls hd F hS hW hl)
theorem at_ixor {G : pd_G} {mi : pd_MI} {h mc ms cs ss pc : Nat} {lo : List (Option Value)} {st : List Value} {M : pd_M} {Q : pd_O → pd_M → Prop} {x y : Int32} (hdg : decode mi.2.1 pc = .ok (.ixor, 1)) (k : pd_At G mi h mc ms cs ss (pc + 1) lo (.int (x ^^^ y) :: st) M Q) : pd_At G mi h mc ms cs ss pc lo (.int y :: .int x :: st) M Q := fun d p e s m args below meth c H locs ls hd F hS hW hl => lv_ixor F.1 F.2.1 hdg (k d p e s m args below meth c H locs ls hd F hS hW hl)
theorem at_ishl {G : pd_G} {mi : pd_MI} {h mc ms cs ss pc : Nat} {lo : List (Option Value)} {st : List Value} {M : pd_M} {Q : pd_O → pd_M → Prop} {x y : Int32} (hdg : decode mi.2.1 pc = .ok (.ishl, 1)) (k : pd_At G mi h mc ms cs ss (pc + 1) lo (.int (x <<< (y &&& 31)) :: st) M Q) : pd_At G mi h mc ms cs ss pc lo (.int y :: .int x :: st) M Q := fun d p e s m args below meth c H locs ls hd F hS hW hl => lv_ishl F.1 F.2.1 hdg (k d p e s m args below meth c H locs ls hd F hS hW hl)
theorem at_ishr {G : pd_G} {mi : pd_MI} {h mc ms cs ss pc : Nat} {lo : List (Option Value)} {st : List Value} {M : pd_M} {Q : pd_O → pd_M → Prop} {x y : Int32} (hdg : decode mi.2.1 pc = .ok (.ishr, 1)) (k : pd_At G mi h mc ms cs ss (pc + 1) lo (.int (x >>> (y &&& 31)) :: st) M Q) : pd_At G mi h mc ms cs ss pc lo (.int y :: .int x :: st) M Q := fun d p e s m args below meth c H locs ls hd F hS hW hl => lv_ishr F.1 F.2.1 hdg (k d p e s m args below meth c H locs ls hd F hS hW hl)
theorem at_iushr {G : pd_G} {mi : pd_MI} {h mc ms cs ss pc : Nat} {lo : List (Option Value)} {st : List Value} {M : pd_M} {Q : pd_O → pd_M → Prop} {x y : Int32} (hdg : decode mi.2.1 pc = .ok (.iushr, 1)) (k : pd_At G mi h mc ms cs ss (pc + 1) lo (.int ((x.toUInt32 >>> (y.toUInt32 &&& Int32.toUInt32 31)).toInt32) :: st) M Q) : pd_At G mi h mc ms cs ss pc lo (.int y :: .int x :: st) M Q := fun d p e s m args below meth c H locs ls hd F hS hW hl => lv_iushr F.1 F.2.1 hdg rfl (k d p e s m args below meth c H locs ls hd F hS hW hl)
theorem at_idiv {G : pd_G} {mi : pd_MI} {h mc ms cs ss pc : Nat} {lo : List (Option Value)} {st : List Value} {M : pd_M} {Q : pd_O → pd_M → Prop} {x y : Int32} (hdg : decode mi.2.1 pc = .ok (.idiv, 1)) (hne : ¬ y = 0) (k : pd_At G mi h mc ms cs ss (pc + 1) lo (.int (x / y) :: st) M Q) : pd_At G mi h mc ms cs ss pc lo (.int y :: .int x :: st) M Q := fun d p e s m args below meth c H locs ls hd F hS hW hl => lv_idiv F.1 F.2.1 hdg hne (k d p e s m args below meth c H locs ls hd F hS hW hl)
theorem at_irem {G : pd_G} {mi : pd_MI} {h mc ms cs ss pc : Nat} {lo : List (Option Value)} {st : List Value} {M : pd_M} {Q : pd_O → pd_M → Prop} {x y : Int32} (hdg : decode mi.2.1 pc = .ok (.irem, 1)) (hne : ¬ y = 0) (k : pd_At G mi h mc ms cs ss (pc + 1) lo (.int (x - x / y * y) :: st) M Q) : pd_At G mi h mc ms cs ss pc lo (.int y :: .int x :: st) M Q := fun d p e s m args below meth c H locs ls hd F hS hW hl => lv_irem F.1 F.2.1 hdg hne (k d p e s m args below meth c H locs ls hd F hS hW hl)
theorem at_ladd {G : pd_G} {mi : pd_MI} {h mc ms cs ss pc : Nat} {lo : List (Option Value)} {st : List Value} {M : pd_M} {Q : pd_O → pd_M → Prop} {x y : Int64} (hdg : decode mi.2.1 pc = .ok (.ladd, 1)) (k : pd_At G mi h mc ms cs ss (pc + 1) lo (.long (x + y) :: st) M Q) : pd_At G mi h mc ms cs ss pc lo (.long y :: .long x :: st) M Q := fun d p e s m args below meth c H locs ls hd F hS hW hl => lv_ladd F.1 F.2.1 hdg (k d p e s m args below meth c H locs ls hd F hS hW hl)
theorem at_lsub {G : pd_G} {mi : pd_MI} {h mc ms cs ss pc : Nat} {lo : List (Option Value)} {st : List Value} {M : pd_M} {Q : pd_O → pd_M → Prop} {x y : Int64} (hdg : decode mi.2.1 pc = .ok (.lsub, 1)) (k : pd_At G mi h mc ms cs ss (pc + 1) lo (.long (x - y) :: st) M Q) : pd_At G mi h mc ms cs ss pc lo (.long y :: .long x :: st) M Q := fun d p e s m args below meth c H locs ls hd F hS hW hl => lv_lsub F.1 F.2.1 hdg (k d p e s m args below meth c H locs ls hd F hS hW hl)
theorem at_lmul {G : pd_G} {mi : pd_MI} {h mc ms cs ss pc : Nat} {lo : List (Option Value)} {st : List Value} {M : pd_M} {Q : pd_O → pd_M → Prop} {x y : Int64} (hdg : decode mi.2.1 pc = .ok (.lmul, 1)) (k : pd_At G mi h mc ms cs ss (pc + 1) lo (.long (x * y) :: st) M Q) : pd_At G mi h mc ms cs ss pc lo (.long y :: .long x :: st) M Q := fun d p e s m args below meth c H locs ls hd F hS hW hl => lv_lmul F.1 F.2.1 hdg (k d p e s m args below meth c H locs ls hd F hS hW hl)
theorem at_land {G : pd_G} {mi : pd_MI} {h mc ms cs ss pc : Nat} {lo : List (Option Value)} {st : List Value} {M : pd_M} {Q : pd_O → pd_M → Prop} {x y : Int64} (hdg : decode mi.2.1 pc = .ok (.land, 1)) (k : pd_At G mi h mc ms cs ss (pc + 1) lo (.long (x &&& y) :: st) M Q) : pd_At G mi h mc ms cs ss pc lo (.long y :: .long x :: st) M Q := fun d p e s m args below meth c H locs ls hd F hS hW hl => lv_land F.1 F.2.1 hdg (k d p e s m args below meth c H locs ls hd F hS hW hl)
theorem at_lor {G : pd_G} {mi : pd_MI} {h mc ms cs ss pc : Nat} {lo : List (Option Value)} {st : List Value} {M : pd_M} {Q : pd_O → pd_M → Prop} {x y : Int64} (hdg : decode mi.2.1 pc = .ok (.lor, 1)) (k : pd_At G mi h mc ms cs ss (pc + 1) lo (.long (x ||| y) :: st) M Q) : pd_At G mi h mc ms cs ss pc lo (.long y :: .long x :: st) M Q := fun d p e s m args below meth c H locs ls hd F hS hW hl => lv_lor F.1 F.2.1 hdg (k d p e s m args below meth c H locs ls hd F hS hW hl)
theorem at_lxor {G : pd_G} {mi : pd_MI} {h mc ms cs ss pc : Nat} {lo : List (Option Value)} {st : List Value} {M : pd_M} {Q : pd_O → pd_M → Prop} {x y : Int64} (hdg : decode mi.2.1 pc = .ok (.lxor, 1)) (k : pd_At G mi h mc ms cs ss (pc + 1) lo (.long (x ^^^ y) :: st) M Q) : pd_At G mi h mc ms cs ss pc lo (.long y :: .long x :: st) M Q := fun d p e s m args below meth c H locs ls hd F hS hW hl => lv_lxor F.1 F.2.1 hdg (k d p e s m args below meth c H locs ls hd F hS hW hl)
theorem at_ldiv {G : pd_G} {mi : pd_MI} {h mc ms cs ss pc : Nat} {lo : List (Option Value)} {st : List Value} {M : pd_M} {Q : pd_O → pd_M → Prop} {x y : Int64} (hdg : decode mi.2.1 pc = .ok (.ldiv, 1)) (hne : ¬ y = 0) (k : pd_At G mi h mc ms cs ss (pc + 1) lo (.long (x / y) :: st) M Q) : pd_At G mi h mc ms cs ss pc lo (.long y :: .long x :: st) M Q := fun d p e s m args below meth c H locs ls hd F hS hW hl => lv_ldiv F.1 F.2.1 hdg hne (k d p e s m args below meth c H locs ls hd F hS hW hl)
theorem at_lrem {G : pd_G} {mi : pd_MI} {h mc ms cs ss pc : Nat} {lo : List (Option Value)} {st : List Value} {M : pd_M} {Q : pd_O → pd_M → Prop} {x y : Int64} (hdg : decode mi.2.1 pc = .ok (.lrem, 1)) (hne : ¬ y = 0) (k : pd_At G mi h mc ms cs ss (pc + 1) lo (.long (x - x / y * y) :: st) M Q) : pd_At G mi h mc ms cs ss pc lo (.long y :: .long x :: st) M Q := fun d p e s m args below meth c H locs ls hd F hS hW hl => lv_lrem F.1 F.2.1 hdg hne (k d p e s m args below meth c H locs ls hd F hS hW hl)
theorem at_lneg {G : pd_G} {mi : pd_MI} {h mc ms cs ss pc : Nat} {lo : List (Option Value)} {st : List Value} {M : pd_M} {Q : pd_O → pd_M → Prop} {x : Int64} (hdg : decode mi.2.1 pc = .ok (.lneg, 1)) (k : pd_At G mi h mc ms cs ss (pc + 1) lo (.long (-x) :: st) M Q) : pd_At G mi h mc ms cs ss pc lo (.long x :: st) M Q := fun d p e s m args below meth c H locs ls hd F hS hW hl => lv_lneg F.1 F.2.1 hdg (k d p e s m args below meth c H locs ls hd F hS hW hl)
theorem at_lshl {G : pd_G} {mi : pd_MI} {h mc ms cs ss pc : Nat} {lo : List (Option Value)} {st : List Value} {M : pd_M} {Q : pd_O → pd_M → Prop} {x : Int64} {y : Int32} (hdg : decode mi.2.1 pc = .ok (.lshl, 1)) (k : pd_At G mi h mc ms cs ss (pc + 1) lo (.long (x <<< (y.toInt64 &&& 63)) :: st) M Q) : pd_At G mi h mc ms cs ss pc lo (.int y :: .long x :: st) M Q := fun d p e s m args below meth c H locs ls hd F hS hW hl => lv_lshl F.1 F.2.1 hdg rfl (k d p e s m args below meth c H locs ls hd F hS hW hl)
theorem at_lshr {G : pd_G} {mi : pd_MI} {h mc ms cs ss pc : Nat} {lo : List (Option Value)} {st : List Value} {M : pd_M} {Q : pd_O → pd_M → Prop} {x : Int64} {y : Int32} (hdg : decode mi.2.1 pc = .ok (.lshr, 1)) (k : pd_At G mi h mc ms cs ss (pc + 1) lo (.long (x >>> (y.toInt64 &&& 63)) :: st) M Q) : pd_At G mi h mc ms cs ss pc lo (.int y :: .long x :: st) M Q := fun d p e s m args below meth c H locs ls hd F hS hW hl => lv_lshr F.1 F.2.1 hdg rfl (k d p e s m args below meth c H locs ls hd F hS hW hl)
theorem at_lushr {G : pd_G} {mi : pd_MI} {h mc ms cs ss pc : Nat} {lo : List (Option Value)} {st : List Value} {M : pd_M} {Q : pd_O → pd_M → Prop} {x : Int64} {y : Int32} (hdg : decode mi.2.1 pc = .ok (.lushr, 1)) (k : pd_At G mi h mc ms cs ss (pc + 1) lo (.long ((x.toUInt64 >>> (y.toInt64.toUInt64 &&& Int64.toUInt64 63)).toInt64) :: st) M Q) : pd_At G mi h mc ms cs ss pc lo (.int y :: .long x :: st) M Q := fun d p e s m args below meth c H locs ls hd F hS hW hl => lv_lushr F.1 F.2.1 hdg rfl (k d p e s m args below meth c H locs ls hd F hS hW hl)
theorem at_i2l {G : pd_G} {mi : pd_MI} {h mc ms cs ss pc : Nat} {lo : List (Option Value)} {st : List Value} {M : pd_M} {Q : pd_O → pd_M → Prop} {x : Int32} (hdg : decode mi.2.1 pc = .ok (.i2l, 1)) (k : pd_At G mi h mc ms cs ss (pc + 1) lo (.long x.toInt64 :: st) M Q) : pd_At G mi h mc ms cs ss pc lo (.int x :: st) M Q := fun d p e s m args below meth c H locs ls hd F hS hW hl => lv_i2l F.1 F.2.1 hdg rfl (k d p e s m args below meth c H locs ls hd F hS hW hl)
theorem at_l2i {G : pd_G} {mi : pd_MI} {h mc ms cs ss pc : Nat} {lo : List (Option Value)} {st : List Value} {M : pd_M} {Q : pd_O → pd_M → Prop} {x : Int64} (hdg : decode mi.2.1 pc = .ok (.l2i, 1)) (k : pd_At G mi h mc ms cs ss (pc + 1) lo (.int x.toInt32 :: st) M Q) : pd_At G mi h mc ms cs ss pc lo (.long x :: st) M Q := fun d p e s m args below meth c H locs ls hd F hS hW hl => lv_l2i F.1 F.2.1 hdg rfl (k d p e s m args below meth c H locs ls hd F hS hW hl)
theorem at_i2b {G : pd_G} {mi : pd_MI} {h mc ms cs ss pc : Nat} {lo : List (Option Value)} {st : List Value} {M : pd_M} {Q : pd_O → pd_M → Prop} {x : Int32} (hdg : decode mi.2.1 pc = .ok (.i2b, 1)) (k : pd_At G mi h mc ms cs ss (pc + 1) lo (.int x.toInt8.toInt32 :: st) M Q) : pd_At G mi h mc ms cs ss pc lo (.int x :: st) M Q := fun d p e s m args below meth c H locs ls hd F hS hW hl => lv_i2b F.1 F.2.1 hdg rfl (k d p e s m args below meth c H locs ls hd F hS hW hl)
theorem at_i2c {G : pd_G} {mi : pd_MI} {h mc ms cs ss pc : Nat} {lo : List (Option Value)} {st : List Value} {M : pd_M} {Q : pd_O → pd_M → Prop} {x : Int32} (hdg : decode mi.2.1 pc = .ok (.i2c, 1)) (k : pd_At G mi h mc ms cs ss (pc + 1) lo (.int (x.toUInt32 % 65536).toInt32 :: st) M Q) : pd_At G mi h mc ms cs ss pc lo (.int x :: st) M Q := fun d p e s m args below meth c H locs ls hd F hS hW hl => lv_i2c F.1 F.2.1 hdg rfl (k d p e s m args below meth c H locs ls hd F hS hW hl)
theorem at_lcmp {G : pd_G} {mi : pd_MI} {h mc ms cs ss pc : Nat} {lo : List (Option Value)} {st : List Value} {M : pd_M} {Q : pd_O → pd_M → Prop} {x y : Int64} (hdg : decode mi.2.1 pc = .ok (.lcmp, 1)) (k : pd_At G mi h mc ms cs ss (pc + 1) lo (.int (lg_cmp x y) :: st) M Q) : pd_At G mi h mc ms cs ss pc lo (.long y :: .long x :: st) M Q := fun d p e s m args below meth c H locs ls hd F hS hW hl => W.lcmp F.1 F.2.1 hdg (k d p e s m args below meth c H locs ls hd F hS hW hl)
theorem at_iconst {G : pd_G} {mi : pd_MI} {h mc ms cs ss pc : Nat} {lo : List (Option Value)} {st : List Value} {M : pd_M} {Q : pd_O → pd_M → Prop} {n : Int} {v : Int32} (hdg : decode mi.2.1 pc = .ok (.iconst n, 1)) (hv : Int32.ofInt n = v) (k : pd_At G mi h mc ms cs ss (pc + 1) lo (.int v :: st) M Q) : pd_At G mi h mc ms cs ss pc lo (st) M Q := fun d p e s m args below meth c H locs ls hd F hS hW hl => lv_iconst F.1 F.2.1 hdg hv (k d p e s m args below meth c H locs ls hd F hS hW hl)
theorem at_bipush {G : pd_G} {mi : pd_MI} {h mc ms cs ss pc : Nat} {lo : List (Option Value)} {st : List Value} {M : pd_M} {Q : pd_O → pd_M → Prop} {n : Int} {v : Int32} (hdg : decode mi.2.1 pc = .ok (.bipush n, 2)) (hv : (Int8.ofInt n).toInt32 = v) (k : pd_At G mi h mc ms cs ss (pc + 2) lo (.int v :: st) M Q) : pd_At G mi h mc ms cs ss pc lo (st) M Q := fun d p e s m args below meth c H locs ls hd F hS hW hl => lv_bipush F.1 F.2.1 hdg hv (k d p e s m args below meth c H locs ls hd F hS hW hl)
theorem at_sipush {G : pd_G} {mi : pd_MI} {h mc ms cs ss pc : Nat} {lo : List (Option Value)} {st : List Value} {M : pd_M} {Q : pd_O → pd_M → Prop} {n : Int} {v : Int32} (hdg : decode mi.2.1 pc = .ok (.sipush n, 3)) (hv : (Int16.ofInt n).toInt32 = v) (k : pd_At G mi h mc ms cs ss (pc + 3) lo (.int v :: st) M Q) : pd_At G mi h mc ms cs ss pc lo (st) M Q := fun d p e s m args below meth c H locs ls hd F hS hW hl => lv_sipush F.1 F.2.1 hdg hv (k d p e s m args below meth c H locs ls hd F hS hW hl)
theorem at_lconst {G : pd_G} {mi : pd_MI} {h mc ms cs ss pc : Nat} {lo : List (Option Value)} {st : List Value} {M : pd_M} {Q : pd_O → pd_M → Prop} {n : Fin 2} {v : Int64} (hdg : decode mi.2.1 pc = .ok (.lconst n, 1)) (hv : Int64.ofNat (n : Nat) = v) (k : pd_At G mi h mc ms cs ss (pc + 1) lo (.long v :: st) M Q) : pd_At G mi h mc ms cs ss pc lo (st) M Q := fun d p e s m args below meth c H locs ls hd F hS hW hl => lv_lconst F.1 F.2.1 hdg hv (k d p e s m args below meth c H locs ls hd F hS hW hl)
theorem at_dup {G : pd_G} {mi : pd_MI} {h mc ms cs ss pc : Nat} {lo : List (Option Value)} {st : List Value} {M : pd_M} {Q : pd_O → pd_M → Prop} {v : Value} (hdg : decode mi.2.1 pc = .ok (.dup, 1)) (hv : v.category = 1) (k : pd_At G mi h mc ms cs ss (pc + 1) lo (v :: v :: st) M Q) : pd_At G mi h mc ms cs ss pc lo (v :: st) M Q := fun d p e s m args below meth c H locs ls hd F hS hW hl => lv_dup F.1 F.2.1 hdg hv (k d p e s m args below meth c H locs ls hd F hS hW hl)
theorem at_pop {G : pd_G} {mi : pd_MI} {h mc ms cs ss pc : Nat} {lo : List (Option Value)} {st : List Value} {M : pd_M} {Q : pd_O → pd_M → Prop} {v : Value} (hdg : decode mi.2.1 pc = .ok (.pop, 1)) (hv : v.category = 1) (k : pd_At G mi h mc ms cs ss (pc + 1) lo (st) M Q) : pd_At G mi h mc ms cs ss pc lo (v :: st) M Q := fun d p e s m args below meth c H locs ls hd F hS hW hl => lv_pop F.1 F.2.1 hdg hv (k d p e s m args below meth c H locs ls hd F hS hW hl)
theorem at_dup2 {G : pd_G} {mi : pd_MI} {h mc ms cs ss pc : Nat} {lo : List (Option Value)} {st : List Value} {M : pd_M} {Q : pd_O → pd_M → Prop} {v w : Value} (hdg : decode mi.2.1 pc = .ok (.dup2, 1)) (hv : v.category = 1) (hw : w.category = 1) (k : pd_At G mi h mc ms cs ss (pc + 1) lo (v :: w :: v :: w :: st) M Q) : pd_At G mi h mc ms cs ss pc lo (v :: w :: st) M Q := fun d p e s m args below meth c H locs ls hd F hS hW hl => lv_dup2_11 F.1 F.2.1 hdg hv hw (k d p e s m args below meth c H locs ls hd F hS hW hl)
theorem at_iload_n {G : pd_G} {mi : pd_MI} {h mc ms cs ss pc : Nat} {lo : List (Option Value)} {st : List Value} {M : pd_M} {Q : pd_O → pd_M → Prop} {k : Fin 4} {x : Int32} (hdg : decode mi.2.1 pc = .ok (.iload_n k, 1)) (hg : pd_lg lo (k : Nat) = some (.int x)) (k : pd_At G mi h mc ms cs ss (pc + 1) lo (.int x :: st) M Q) : pd_At G mi h mc ms cs ss pc lo (st) M Q := fun d p e s m args below meth c H locs ls hd F hS hW hl => lv_iload_n F.1 F.2.1 hdg rfl (pd_lv_get hl hg) (k d p e s m args below meth c H locs ls hd F hS hW hl)
theorem at_iload {G : pd_G} {mi : pd_MI} {h mc ms cs ss pc : Nat} {lo : List (Option Value)} {st : List Value} {M : pd_M} {Q : pd_O → pd_M → Prop} {i : Nat} {x : Int32} (hdg : decode mi.2.1 pc = .ok (.iload i, 2)) (hg : pd_lg lo i = some (.int x)) (k : pd_At G mi h mc ms cs ss (pc + 2) lo (.int x :: st) M Q) : pd_At G mi h mc ms cs ss pc lo (st) M Q := fun d p e s m args below meth c H locs ls hd F hS hW hl => lv_iload F.1 F.2.1 hdg (pd_lv_get hl hg) (k d p e s m args below meth c H locs ls hd F hS hW hl)
theorem at_lload_n {G : pd_G} {mi : pd_MI} {h mc ms cs ss pc : Nat} {lo : List (Option Value)} {st : List Value} {M : pd_M} {Q : pd_O → pd_M → Prop} {k : Fin 4} {x : Int64} (hdg : decode mi.2.1 pc = .ok (.lload_n k, 1)) (hg : pd_lg lo (k : Nat) = some (.long x)) (k : pd_At G mi h mc ms cs ss (pc + 1) lo (.long x :: st) M Q) : pd_At G mi h mc ms cs ss pc lo (st) M Q := fun d p e s m args below meth c H locs ls hd F hS hW hl => lv_lload_n F.1 F.2.1 hdg rfl (pd_lv_get hl hg) (k d p e s m args below meth c H locs ls hd F hS hW hl)
theorem at_lload {G : pd_G} {mi : pd_MI} {h mc ms cs ss pc : Nat} {lo : List (Option Value)} {st : List Value} {M : pd_M} {Q : pd_O → pd_M → Prop} {i : Nat} {x : Int64} (hdg : decode mi.2.1 pc = .ok (.lload i, 2)) (hg : pd_lg lo i = some (.long x)) (k : pd_At G mi h mc ms cs ss (pc + 2) lo (.long x :: st) M Q) : pd_At G mi h mc ms cs ss pc lo (st) M Q := fun d p e s m args below meth c H locs ls hd F hS hW hl => lv_lload F.1 F.2.1 hdg (pd_lv_get hl hg) (k d p e s m args below meth c H locs ls hd F hS hW hl)
theorem at_aload_n {G : pd_G} {mi : pd_MI} {h mc ms cs ss pc : Nat} {lo : List (Option Value)} {st : List Value} {M : pd_M} {Q : pd_O → pd_M → Prop} {k : Fin 4} {x : Nat} (hdg : decode mi.2.1 pc = .ok (.aload_n k, 1)) (hg : pd_lg lo (k : Nat) = some (.ref x)) (k : pd_At G mi h mc ms cs ss (pc + 1) lo (.ref x :: st) M Q) : pd_At G mi h mc ms cs ss pc lo (st) M Q := fun d p e s m args below meth c H locs ls hd F hS hW hl => lv_aload_n F.1 F.2.1 hdg rfl (pd_lv_get hl hg) (k d p e s m args below meth c H locs ls hd F hS hW hl)
theorem at_aload {G : pd_G} {mi : pd_MI} {h mc ms cs ss pc : Nat} {lo : List (Option Value)} {st : List Value} {M : pd_M} {Q : pd_O → pd_M → Prop} {i : Nat} {x : Nat} (hdg : decode mi.2.1 pc = .ok (.aload i, 2)) (hg : pd_lg lo i = some (.ref x)) (k : pd_At G mi h mc ms cs ss (pc + 2) lo (.ref x :: st) M Q) : pd_At G mi h mc ms cs ss pc lo (st) M Q := fun d p e s m args below meth c H locs ls hd F hS hW hl => lv_aload F.1 F.2.1 hdg (pd_lv_get hl hg) (k d p e s m args below meth c H locs ls hd F hS hW hl)
theorem at_istore_n {G : pd_G} {mi : pd_MI} {h mc ms cs ss pc : Nat} {lo : List (Option Value)} {st : List Value} {M : pd_M} {Q : pd_O → pd_M → Prop} {k : Fin 4} {x : Int32} (hdg : decode mi.2.1 pc = .ok (.istore_n k, 1)) (hk : pd_o1 lo (k : Nat) = true) (hn : (k : Nat) < mi.2.2.1) (k : pd_At G mi h mc ms cs ss (pc + 1) (pd_ls lo (k : Nat) (some (.int x))) st M Q) : pd_At G mi h mc ms cs ss pc lo (.int x :: st) M Q := fun d p e s m args below meth c H locs ls hd F hS hW hl => lv_istore_n F.1 F.2.1 hdg rfl hl hn rfl (fun ls' hl' => k d p e s m args below meth c H locs ls' hd F hS hW (pd_lv_set1 hk hl'))
theorem at_istore {G : pd_G} {mi : pd_MI} {h mc ms cs ss pc : Nat} {lo : List (Option Value)} {st : List Value} {M : pd_M} {Q : pd_O → pd_M → Prop} {i : Nat} {x : Int32} (hdg : decode mi.2.1 pc = .ok (.istore i, 2)) (hk : pd_o1 lo i = true) (hn : i < mi.2.2.1) (k : pd_At G mi h mc ms cs ss (pc + 2) (pd_ls lo i (some (.int x))) st M Q) : pd_At G mi h mc ms cs ss pc lo (.int x :: st) M Q := fun d p e s m args below meth c H locs ls hd F hS hW hl => lv_istore F.1 F.2.1 hdg hl hn rfl (fun ls' hl' => k d p e s m args below meth c H locs ls' hd F hS hW (pd_lv_set1 hk hl'))
theorem at_astore_n {G : pd_G} {mi : pd_MI} {h mc ms cs ss pc : Nat} {lo : List (Option Value)} {st : List Value} {M : pd_M} {Q : pd_O → pd_M → Prop} {k : Fin 4} {x : Nat} (hdg : decode mi.2.1 pc = .ok (.astore_n k, 1)) (hk : pd_o1 lo (k : Nat) = true) (hn : (k : Nat) < mi.2.2.1) (k : pd_At G mi h mc ms cs ss (pc + 1) (pd_ls lo (k : Nat) (some (.ref x))) st M Q) : pd_At G mi h mc ms cs ss pc lo (.ref x :: st) M Q := fun d p e s m args below meth c H locs ls hd F hS hW hl => lv_astore_n F.1 F.2.1 hdg rfl hl hn rfl (fun ls' hl' => k d p e s m args below meth c H locs ls' hd F hS hW (pd_lv_set1 hk hl'))
theorem at_astore {G : pd_G} {mi : pd_MI} {h mc ms cs ss pc : Nat} {lo : List (Option Value)} {st : List Value} {M : pd_M} {Q : pd_O → pd_M → Prop} {i : Nat} {x : Nat} (hdg : decode mi.2.1 pc = .ok (.astore i, 2)) (hk : pd_o1 lo i = true) (hn : i < mi.2.2.1) (k : pd_At G mi h mc ms cs ss (pc + 2) (pd_ls lo i (some (.ref x))) st M Q) : pd_At G mi h mc ms cs ss pc lo (.ref x :: st) M Q := fun d p e s m args below meth c H locs ls hd F hS hW hl => lv_astore F.1 F.2.1 hdg hl hn rfl (fun ls' hl' => k d p e s m args below meth c H locs ls' hd F hS hW (pd_lv_set1 hk hl'))
theorem at_lstore_n {G : pd_G} {mi : pd_MI} {h mc ms cs ss pc : Nat} {lo : List (Option Value)} {st : List Value} {M : pd_M} {Q : pd_O → pd_M → Prop} {k : Fin 4} {x : Int64} (hdg : decode mi.2.1 pc = .ok (.lstore_n k, 1)) (hk : pd_o1 lo (k : Nat) = true) (hn : (k : Nat) + 1 < mi.2.2.1) (k : pd_At G mi h mc ms cs ss (pc + 1) (pd_ls (pd_ls lo (k : Nat) (some (.long x))) ((k : Nat) + 1) none) st M Q) : pd_At G mi h mc ms cs ss pc lo (.long x :: st) M Q := fun d p e s m args below meth c H locs ls hd F hS hW hl => lv_lstore_n F.1 F.2.1 hdg rfl hl hn rfl (fun ls' hl' => k d p e s m args below meth c H locs ls' hd F hS hW (pd_lv_set2 hk hl'))
theorem at_lstore {G : pd_G} {mi : pd_MI} {h mc ms cs ss pc : Nat} {lo : List (Option Value)} {st : List Value} {M : pd_M} {Q : pd_O → pd_M → Prop} {i : Nat} {x : Int64} (hdg : decode mi.2.1 pc = .ok (.lstore i, 2)) (hk : pd_o1 lo i = true) (hn : i + 1 < mi.2.2.1) (k : pd_At G mi h mc ms cs ss (pc + 2) (pd_ls (pd_ls lo i (some (.long x))) (i + 1) none) st M Q) : pd_At G mi h mc ms cs ss pc lo (.long x :: st) M Q := fun d p e s m args below meth c H locs ls hd F hS hW hl => lv_lstore F.1 F.2.1 hdg hl hn rfl (fun ls' hl' => k d p e s m args below meth c H locs ls' hd F hS hW (pd_lv_set2 hk hl'))
theorem at_iinc {G : pd_G} {mi : pd_MI} {h mc ms cs ss pc : Nat} {lo : List (Option Value)} {st : List Value} {M : pd_M} {Q : pd_O → pd_M → Prop} {i : Nat} {n : Int} {x v : Int32} (hdg : decode mi.2.1 pc = .ok (.iinc i n, 3)) (hg : pd_lg lo i = some (.int x)) (hv : x + Int32.ofInt n = v) (hk : pd_o1 lo i = true) (hn : i < mi.2.2.1) (k : pd_At G mi h mc ms cs ss (pc + 3) (pd_ls lo i (some (.int v))) st M Q) : pd_At G mi h mc ms cs ss pc lo st M Q := fun d p e s m args below meth c H locs ls hd F hS hW hl => by
  have hm := pd_as_lg lo 0 i _ hg
  rw [Nat.zero_add] at hm
  obtain ⟨j, hj⟩ := List.getElem?_of_mem hm
  exact lv_iinc F.1 F.2.1 hdg hl hj hv hn rfl (fun ls' hl' => k d p e s m args below meth c H locs ls' hd F hS hW (pd_lv_set1 hk hl'))
/-- a local that is no longer asked -/
theorem at_drop {G : pd_G} {mi : pd_MI} {h mc ms cs ss pc : Nat} {lo : List (Option Value)} {st : List Value} {M : pd_M} {Q : pd_O → pd_M → Prop} (i : Nat) (k : pd_At G mi h mc ms cs ss pc (pd_ls lo i none) st M Q) : pd_At G mi h mc ms cs ss pc lo st M Q := fun d p e s m args below meth c H locs ls hd F hS hW hl => k d p e s m args below meth c H locs ls hd F hS hW ⟨hl.1, hl.2.1, fun q hq => by
  obtain ⟨-, hg⟩ := pd_as_of _ 0 q hq
  rw [Nat.sub_zero] at hg
  by_cases hi : q.1 = i
  · rw [hi] at hg
    rcases pd_lg_ls_at lo i none with e | e <;> rw [e] at hg <;> cases hg
  · rw [pd_lg_ls_ne lo i q.1 _ hi] at hg
    have := pd_as_lg lo 0 q.1 q.2 hg
    rw [Nat.zero_add] at this
    exact hl.2.2 q this⟩
theorem at_goto {G : pd_G} {mi : pd_MI} {h mc ms cs ss pc : Nat} {lo : List (Option Value)} {st : List Value} {M : pd_M} {Q : pd_O → pd_M → Prop} {off : Int} {tgt : Nat} (hdg : decode mi.2.1 pc = .ok (.goto off, 3)) (ht : (pc : Int) + off = (tgt : Int)) (k : pd_At G mi h mc ms cs ss tgt lo st M Q) : pd_At G mi h mc ms cs ss pc lo st M Q := fun d p e s m args below meth c H locs ls hd F hS hW hl => lv_goto F.1 F.2.1 hdg ht (k d p e s m args below meth c H locs ls hd F hS hW hl)
theorem at_ifeq {G : pd_G} {mi : pd_MI} {h mc ms cs ss pc : Nat} {lo : List (Option Value)} {st : List Value} {M : pd_M} {Q : pd_O → pd_M → Prop} {x : Int32} {off : Int} {tgt : Nat} (hdg : decode mi.2.1 pc = .ok (.ifCond .eq off, 3)) (ht : (pc : Int) + off = (tgt : Int)) (kt : x = 0 → pd_At G mi h mc ms cs ss tgt lo st M Q) (kf : ¬ x = 0 → pd_At G mi h mc ms cs ss (pc + 3) lo st M Q) : pd_At G mi h mc ms cs ss pc lo (.int x :: st) M Q := fun d p e s m args below meth c H locs ls hd F hS hW hl => lv_if_eq F.1 F.2.1 hdg ht (fun q => kt q d p e s m args below meth c H locs ls hd F hS hW hl) (fun q => kf q d p e s m args below meth c H locs ls hd F hS hW hl)
theorem at_icmpeq {G : pd_G} {mi : pd_MI} {h mc ms cs ss pc : Nat} {lo : List (Option Value)} {st : List Value} {M : pd_M} {Q : pd_O → pd_M → Prop} {x y : Int32} {off : Int} {tgt : Nat} (hdg : decode mi.2.1 pc = .ok (.if_icmp .eq off, 3)) (ht : (pc : Int) + off = (tgt : Int)) (kt : x = y → pd_At G mi h mc ms cs ss tgt lo st M Q) (kf : ¬ x = y → pd_At G mi h mc ms cs ss (pc + 3) lo st M Q) : pd_At G mi h mc ms cs ss pc lo (.int y :: .int x :: st) M Q := fun d p e s m args below meth c H locs ls hd F hS hW hl => lv_icmp_eq F.1 F.2.1 hdg ht (fun q => kt q d p e s m args below meth c H locs ls hd F hS hW hl) (fun q => kf q d p e s m args below meth c H locs ls hd F hS hW hl)
theorem at_ifne {G : pd_G} {mi : pd_MI} {h mc ms cs ss pc : Nat} {lo : List (Option Value)} {st : List Value} {M : pd_M} {Q : pd_O → pd_M → Prop} {x : Int32} {off : Int} {tgt : Nat} (hdg : decode mi.2.1 pc = .ok (.ifCond .ne off, 3)) (ht : (pc : Int) + off = (tgt : Int)) (kt : ¬ x = 0 → pd_At G mi h mc ms cs ss tgt lo st M Q) (kf : x = 0 → pd_At G mi h mc ms cs ss (pc + 3) lo st M Q) : pd_At G mi h mc ms cs ss pc lo (.int x :: st) M Q := fun d p e s m args below meth c H locs ls hd F hS hW hl => lv_if_ne F.1 F.2.1 hdg ht (fun q => kt q d p e s m args below meth c H locs ls hd F hS hW hl) (fun q => kf q d p e s m args below meth c H locs ls hd F hS hW hl)
theorem at_icmpne {G : pd_G} {mi : pd_MI} {h mc ms cs ss pc : Nat} {lo : List (Option Value)} {st : List Value} {M : pd_M} {Q : pd_O → pd_M → Prop} {x y : Int32} {off : Int} {tgt : Nat} (hdg : decode mi.2.1 pc = .ok (.if_icmp .ne off, 3)) (ht : (pc : Int) + off = (tgt : Int)) (kt : ¬ x = y → pd_At G mi h mc ms cs ss tgt lo st M Q) (kf : x = y → pd_At G mi h mc ms cs ss (pc + 3) lo st M Q) : pd_At G mi h mc ms cs ss pc lo (.int y :: .int x :: st) M Q := fun d p e s m args below meth c H locs ls hd F hS hW hl => lv_icmp_ne F.1 F.2.1 hdg ht (fun q => kt q d p e s m args below meth c H locs ls hd F hS hW hl) (fun q => kf q d p e s m args below meth c H locs ls hd F hS hW hl)
theorem at_iflt {G : pd_G} {mi : pd_MI} {h mc ms cs ss pc : Nat} {lo : List (Option Value)} {st : List Value} {M : pd_M} {Q : pd_O → pd_M → Prop} {x : Int32} {off : Int} {tgt : Nat} (hdg : decode mi.2.1 pc = .ok (.ifCond .lt off, 3)) (ht : (pc : Int) + off = (tgt : Int)) (kt : x < 0 → pd_At G mi h mc ms cs ss tgt lo st M Q) (kf : ¬ x < 0 → pd_At G mi h mc ms cs ss (pc + 3) lo st M Q) : pd_At G mi h mc ms cs ss pc lo (.int x :: st) M Q := fun d p e s m args below meth c H locs ls hd F hS hW hl => lv_if_lt F.1 F.2.1 hdg ht (fun q => kt q d p e s m args below meth c H locs ls hd F hS hW hl) (fun q => kf q d p e s m args below meth c H locs ls hd F hS hW hl)
theorem at_icmplt {G : pd_G} {mi : pd_MI} {h mc ms cs ss pc : Nat} {lo : List (Option Value)} {st : List Value} {M : pd_M} {Q : pd_O → pd_M → Prop} {x y : Int32} {off : Int} {tgt : Nat} (hdg : decode mi.2.1 pc = .ok (.if_icmp .lt off, 3)) (ht : (pc : Int) + off = (tgt : Int)) (kt : x < y → pd_At G mi h mc ms cs ss tgt lo st M Q) (kf : ¬ x < y → pd_At G mi h mc ms cs ss (pc + 3) lo st M Q) : pd_At G mi h mc ms cs ss pc lo (.int y :: .int x :: st) M Q := fun d p e s m args below meth c H locs ls hd F hS hW hl => lv_icmp_lt F.1 F.2.1 hdg ht (fun q => kt q d p e s m args below meth c H locs ls hd F hS hW hl) (fun q => kf q d p e s m args below meth c H locs ls hd F hS hW hl)
theorem at_ifge {G : pd_G} {mi : pd_MI} {h mc ms cs ss pc : Nat} {lo : List (Option Value)} {st : List Value} {M : pd_M} {Q : pd_O → pd_M → Prop} {x : Int32} {off : Int} {tgt : Nat} (hdg : decode mi.2.1 pc = .ok (.ifCond .ge off, 3)) (ht : (pc : Int) + off = (tgt : Int)) (kt : 0 ≤ x → pd_At G mi h mc ms cs ss tgt lo st M Q) (kf : ¬ 0 ≤ x → pd_At G mi h mc ms cs ss (pc + 3) lo st M Q) : pd_At G mi h mc ms cs ss pc lo (.int x :: st) M Q := fun d p e s m args below meth c H locs ls hd F hS hW hl => lv_if_ge F.1 F.2.1 hdg ht (fun q => kt q d p e s m args below meth c H locs ls hd F hS hW hl) (fun q => kf q d p e s m args below meth c H locs ls hd F hS hW hl)
theorem at_icmpge {G : pd_G} {mi : pd_MI} {h mc ms cs ss pc : Nat} {lo : List (Option Value)} {st : List Value} {M : pd_M} {Q : pd_O → pd_M → Prop} {x y : Int32} {off : Int} {tgt : Nat} (hdg : decode mi.2.1 pc = .ok (.if_icmp .ge off, 3)) (ht : (pc : Int) + off = (tgt : Int)) (kt : y ≤ x → pd_At G mi h mc ms cs ss tgt lo st M Q) (kf : ¬ y ≤ x → pd_At G mi h mc ms cs ss (pc + 3) lo st M Q) : pd_At G mi h mc ms cs ss pc lo (.int y :: .int x :: st) M Q := fun d p e s m args below meth c H locs ls hd F hS hW hl => lv_icmp_ge F.1 F.2.1 hdg ht (fun q => kt q d p e s m args below meth c H locs ls hd F hS hW hl) (fun q => kf q d p e s m args below meth c H locs ls hd F hS hW hl)
theorem at_ifgt {G : pd_G} {mi : pd_MI} {h mc ms cs ss pc : Nat} {lo : List (Option Value)} {st : List Value} {M : pd_M} {Q : pd_O → pd_M → Prop} {x : Int32} {off : Int} {tgt : Nat} (hdg : decode mi.2.1 pc = .ok (.ifCond .gt off, 3)) (ht : (pc : Int) + off = (tgt : Int)) (kt : 0 < x → pd_At G mi h mc ms cs ss tgt lo st M Q) (kf : ¬ 0 < x → pd_At G mi h mc ms cs ss (pc + 3) lo st M Q) : pd_At G mi h mc ms cs ss pc lo (.int x :: st) M Q := fun d p e s m args below meth c H locs ls hd F hS hW hl => lv_if_gt F.1 F.2.1 hdg ht (fun q => kt q d p e s m args below meth c H locs ls hd F hS hW hl) (fun q => kf q d p e s m args below meth c H locs ls hd F hS hW hl)
theorem at_icmpgt {G : pd_G} {mi : pd_MI} {h mc ms cs ss pc : Nat} {lo : List (Option Value)} {st : List Value} {M : pd_M} {Q : pd_O → pd_M → Prop} {x y : Int32} {off : Int} {tgt : Nat} (hdg : decode mi.2.1 pc = .ok (.if_icmp .gt off, 3)) (ht : (pc : Int) + off = (tgt : Int)) (kt : y < x → pd_At G mi h mc ms cs ss tgt lo st M Q) (kf : ¬ y < x → pd_At G mi h mc ms cs ss (pc + 3) lo st M Q) : pd_At G mi h mc ms cs ss pc lo (.int y :: .int x :: st) M Q := fun d p e s m args below meth c H locs ls hd F hS hW hl => lv_icmp_gt F.1 F.2.1 hdg ht (fun q => kt q d p e s m args below meth c H locs ls hd F hS hW hl) (fun q => kf q d p e s m args below meth c H locs ls hd F hS hW hl)
theorem at_ifle {G : pd_G} {mi : pd_MI} {h mc ms cs ss pc : Nat} {lo : List (Option Value)} {st : List Value} {M : pd_M} {Q : pd_O → pd_M → Prop} {x : Int32} {off : Int} {tgt : Nat} (hdg : decode mi.2.1 pc = .ok (.ifCond .le off, 3)) (ht : (pc : Int) + off = (tgt : Int)) (kt : x ≤ 0 → pd_At G mi h mc ms cs ss tgt lo st M Q) (kf : ¬ x ≤ 0 → pd_At G mi h mc ms cs ss (pc + 3) lo st M Q) : pd_At G mi h mc ms cs ss pc lo (.int x :: st) M Q := fun d p e s m args below meth c H locs ls hd F hS hW hl => lv_if_le F.1 F.2.1 hdg ht (fun q => kt q d p e s m args below meth c H locs ls hd F hS hW hl) (fun q => kf q d p e s m args below meth c H locs ls hd F hS hW hl)
theorem at_icmple {G : pd_G} {mi : pd_MI} {h mc ms cs ss pc : Nat} {lo : List (Option Value)} {st : List Value} {M : pd_M} {Q : pd_O → pd_M → Prop} {x y : Int32} {off : Int} {tgt : Nat} (hdg : decode mi.2.1 pc = .ok (.if_icmp .le off, 3)) (ht : (pc : Int) + off = (tgt : Int)) (kt : x ≤ y → pd_At G mi h mc ms cs ss tgt lo st M Q) (kf : ¬ x ≤ y → pd_At G mi h mc ms cs ss (pc + 3) lo st M Q) : pd_At G mi h mc ms cs ss pc lo (.int y :: .int x :: st) M Q := fun d p e s m args below meth c H locs ls hd F hS hW hl => lv_icmp_le F.1 F.2.1 hdg ht (fun q => kt q d p e s m args below meth c H locs ls hd F hS hW hl) (fun q => kf q d p e s m args below meth c H locs ls hd F hS hW hl)
theorem pd_tb {w : Cond} {i : Nat} (h : lw_tbl[i]? = some w) (hg : goodWord w = true) : w ∈ pd_TB := List.mem_filter.mpr ⟨List.mem_of_getElem? h, hg⟩
theorem at_ldc {G : pd_G} {mi : pd_MI} {h mc ms cs ss pc : Nat} {lo : List (Option Value)} {st : List Value} {M : pd_M} {Q : pd_O → pd_M → Prop} {index : Nat} {v : Int32} (hw : Cond.constant mi.1.cls index v ∈ pd_TB) (hdg : decode mi.2.1 pc = .ok (.ldc index, 2)) (k : pd_At G mi h mc ms cs ss (pc + 2) lo (.int v :: st) M Q) : pd_At G mi h mc ms cs ss pc lo st M Q := fun d p e s m args below meth c H locs ls hd F hS hW hl => lv_ldc F.1 F.2.1 F.2.2.2.2.1 (F.2.2.2.2.2.1 _ hw) hdg (k d p e s m args below meth c H locs ls hd F hS hW hl)
theorem at_ldcw {G : pd_G} {mi : pd_MI} {h mc ms cs ss pc : Nat} {lo : List (Option Value)} {st : List Value} {M : pd_M} {Q : pd_O → pd_M → Prop} {index : Nat} {v : Int32} (hw : Cond.constant mi.1.cls index v ∈ pd_TB) (hdg : decode mi.2.1 pc = .ok (.ldc_w index, 3)) (k : pd_At G mi h mc ms cs ss (pc + 3) lo (.int v :: st) M Q) : pd_At G mi h mc ms cs ss pc lo st M Q := fun d p e s m args below meth c H locs ls hd F hS hW hl => lv_ldcw F.1 F.2.1 F.2.2.2.2.1 (F.2.2.2.2.2.1 _ hw) hdg (k d p e s m args below meth c H locs ls hd F hS hW hl)
theorem at_ldc2 {G : pd_G} {mi : pd_MI} {h mc ms cs ss pc : Nat} {lo : List (Option Value)} {st : List Value} {M : pd_M} {Q : pd_O → pd_M → Prop} {index : Nat} {v : Int64} (hw : Cond.constantLong mi.1.cls index v ∈ pd_TB) (hdg : decode mi.2.1 pc = .ok (.ldc2_w index, 3)) (k : pd_At G mi h mc ms cs ss (pc + 3) lo (.long v :: st) M Q) : pd_At G mi h mc ms cs ss pc lo st M Q := fun d p e s m args below meth c H locs ls hd F hS hW hl => lv_ldc2 F.1 F.2.1 F.2.2.2.2.1 (F.2.2.2.2.2.1 _ hw) hdg (k d p e s m args below meth c H locs ls hd F hS hW hl)
theorem at_tabOut {G : pd_G} {mi : pd_MI} {h mc ms cs ss pc : Nat} {lo : List (Option Value)} {st : List Value} {M : pd_M} {Q : pd_O → pd_M → Prop} {dflt l0 h0 : Int} {offs : Array Int} {len : Nat} {x : Int32} {tgt : Nat} (hdg : decode mi.2.1 pc = .ok (.tableswitch dflt l0 h0 offs, len)) (hx : x.toInt < l0 ∨ h0 < x.toInt) (ht : (pc : Int) + dflt = (tgt : Int)) (k : pd_At G mi h mc ms cs ss tgt lo st M Q) : pd_At G mi h mc ms cs ss pc lo (.int x :: st) M Q := fun d p e s m args below meth c H locs ls hd F hS hW hl => lv_tableOut F.1 F.2.1 hdg hx ht (k d p e s m args below meth c H locs ls hd F hS hW hl)
theorem at_tabIn {G : pd_G} {mi : pd_MI} {h mc ms cs ss pc : Nat} {lo : List (Option Value)} {st : List Value} {M : pd_M} {Q : pd_O → pd_M → Prop} {dflt l0 h0 : Int} {offs : Array Int} {len : Nat} {x : Int32} {off : Int} {tgt : Nat} (hdg : decode mi.2.1 pc = .ok (.tableswitch dflt l0 h0 offs, len)) (h1 : ¬ x.toInt < l0) (h2 : ¬ h0 < x.toInt) (ho : offs[(x.toInt - l0).toNat]? = some off) (ht : (pc : Int) + off = (tgt : Int)) (k : pd_At G mi h mc ms cs ss tgt lo st M Q) : pd_At G mi h mc ms cs ss pc lo (.int x :: st) M Q := fun d p e s m args below meth c H locs ls hd F hS hW hl => lv_tableIn F.1 F.2.1 hdg h1 h2 ho ht (k d p e s m args below meth c H locs ls hd F hS hW hl)
theorem at_lookup {G : pd_G} {mi : pd_MI} {h mc ms cs ss pc : Nat} {lo : List (Option Value)} {st : List Value} {M : pd_M} {Q : pd_O → pd_M → Prop} {dflt : Int} {ps : Array (Int × Int)} {len : Nat} {x : Int32} {off : Int} {tgt : Nat} (hdg : decode mi.2.1 pc = .ok (.lookupswitch dflt ps, len)) (hp : (ps.toList.zip (ps.toList.drop 1)).all (fun (a, next) => a.1 < next.1) = true) (ho : Op.lookupswitch.offset ps.toList dflt x.toInt = off) (ht : (pc : Int) + off = (tgt : Int)) (k : pd_At G mi h mc ms cs ss tgt lo st M Q) : pd_At G mi h mc ms cs ss pc lo (.int x :: st) M Q := fun d p e s m args below meth c H locs ls hd F hS hW hl => lv_lookup F.1 F.2.1 hdg hp ho ht (k d p e s m args below meth c H locs ls hd F hS hW hl)
end
section
/-! ===== fields, arrays, returns ===== -/
def pd_FL (own : String) (idx ci j : Nat) : Prop := ∃ (C : String) (T : u_T) (N : Nat), pd_cl[ci]? = some (C, T, N) ∧ j < N ∧ Cond.fieldLink own idx (T j).1 (T j).2.1 (T j).2.2.1 ∈ pd_TB
/-- what the tables say of each class -/
def pd_CK (q : vw_C) (ty : Nat → FieldType) (lay : List Nat) : Prop := (∀ w ∈ u_ws q.1 q.2.1 q.2.2, w ∈ pd_TB) ∧ (∀ k, k < q.2.2 → parseFieldDescriptor (q.2.1 k).2.2.1 = some (ty k)) ∧ (∀ a, a < q.2.2 → ∀ b, b < q.2.2 → a ≠ b → (q.2.1 a).2.1 ≠ (q.2.1 b).2.1) ∧ lay.length = q.2.2 ∧
  ∀ k, k < q.2.2 → (lay.getD k 9 = 0 ∧ ty k = .int) ∨ (lay.getD k 9 = 1 ∧ ty k = .long) ∨ (lay.getD k 9 = 2 ∧ (ty k).isReference = true)
theorem pd_tbm {ws : List Cond} (h : ws.all (fun w => decide (w ∈ lw_tbl) && goodWord w) = true) : ∀ w ∈ ws, w ∈ pd_TB := fun w hw => by
  have h1 := List.all_eq_true.mp h w hw
  simp only [Bool.and_eq_true, decide_eq_true_eq] at h1
  exact List.mem_filter.mpr h1
set_option maxRecDepth 100000 in
theorem pd_ck0 : pd_CK (RX0, TX0, 2) tyX0 (pd_lay 0) := ⟨pd_tbm (by decide +kernel), tyX0_ok, nmX0, rfl, by decide +kernel⟩
set_option maxRecDepth 100000 in
theorem pd_ck1 : pd_CK (RX1, TX1, 8) tyX1 (pd_lay 1) := ⟨pd_tbm (by decide +kernel), tyX1_ok, nmX1, rfl, by decide +kernel⟩
set_option maxRecDepth 100000 in
theorem pd_ck2 : pd_CK (RX3, TX3, 19) tyX3 (pd_lay 2) := ⟨pd_tbm (by decide +kernel), tyX3_ok, nmX3, rfl, by decide +kernel⟩
set_option maxRecDepth 100000 in
theorem pd_ck3 : pd_CK (RX4, TX4, 2) tyX4 (pd_lay 3) := ⟨pd_tbm (by decide +kernel), tyX4_ok, nmX4, rfl, by decide +kernel⟩
set_option maxRecDepth 100000 in
theorem pd_ck4 : pd_CK (RX5, TX5, 2) tyX5 (pd_lay 4) := ⟨pd_tbm (by decide +kernel), tyX5_ok, nmX5, rfl, by decide +kernel⟩
set_option maxRecDepth 100000 in
theorem pd_ck5 : pd_CK (RX6, TX6, 6) tyX6 (pd_lay 5) := ⟨pd_tbm (by decide +kernel), tyX6_ok, nmX6, rfl, by decide +kernel⟩
set_option maxRecDepth 100000 in
theorem pd_ck6 : pd_CK (RX7, TX7, 6) tyX7 (pd_lay 6) := ⟨pd_tbm (by decide +kernel), tyX7_ok, nmX7, rfl, by decide +kernel⟩
set_option maxRecDepth 100000 in
theorem pd_ck7 : pd_CK (RX8, TX8, 11) tyX8 (pd_lay 7) := ⟨pd_tbm (by decide +kernel), tyX8_ok, nmX8, rfl, by decide +kernel⟩
set_option maxRecDepth 100000 in
theorem pd_ck8 : pd_CK (RX9, TX9, 21) tyX9 (pd_lay 8) := ⟨pd_tbm (by decide +kernel), tyX9_ok, nmX9, rfl, by decide +kernel⟩
theorem pd_ck : ∀ (ci : Nat) (q : vw_C), pd_cl[ci]? = some q → ci < 9 ∧ ∃ ty, pd_CK q ty (pd_lay ci)
  | 0, _, h => by cases h; exact ⟨by decide, _, pd_ck0⟩
  | 1, _, h => by cases h; exact ⟨by decide, _, pd_ck1⟩
  | 2, _, h => by cases h; exact ⟨by decide, _, pd_ck2⟩
  | 3, _, h => by cases h; exact ⟨by decide, _, pd_ck3⟩
  | 4, _, h => by cases h; exact ⟨by decide, _, pd_ck4⟩
  | 5, _, h => by cases h; exact ⟨by decide, _, pd_ck5⟩
  | 6, _, h => by cases h; exact ⟨by decide, _, pd_ck6⟩
  | 7, _, h => by cases h; exact ⟨by decide, _, pd_ck7⟩
  | 8, _, h => by cases h; exact ⟨by decide, _, pd_ck8⟩
  | k + 9, _, h => by simp [pd_cl] at h
theorem pd_ce_obj {z : Nat} {tc : Nat → ClassId} {ci n : Nat} {i l r} (h : ci < 9) : pd_ce z tc (ci, n) i l r = .inr (ci, pd_fs z i l r 0 (pd_lay ci)) := by
  match ci, h with
  | 0, _ => rfl
  | 1, _ => rfl
  | 2, _ => rfl
  | 3, _ => rfl
  | 4, _ => rfl
  | 5, _ => rfl
  | 6, _ => rfl
  | 7, _ => rfl
  | 8, _ => rfl
  | k + 9, h => omega
theorem pd_fs_at {z : Nat} {i : Nat → Int32} {l : Nat → Int64} {r : Nat → Option Nat} {ts : List Nat} {j t : Nat} (h : ts[j]? = some t) : (pd_fs z i l r 0 ts)[j]? = some (pd_v z i l r j t) := by
  rw [pd_fs_get, h]; simp
section PDM
variable {G : pd_G} {mi : pd_MI} {h mc ms cs ss pc : Nat} {lo : List (Option Value)} {st : List Value} {Q : pd_O → pd_M → Prop} {S : List (Nat × Nat)} {fx : Bool} {I : Nat → Nat → Int32} {L : Nat → Nat → Int64} {R : Nat → Nat → Option Nat}
theorem at_get {idx ci j k n t : Nat} (hf : pd_FL mi.1.cls idx ci j) (hl : (pd_lay ci)[j]? = some t) (hs : S[k]? = some (ci, n)) (hdg : decode mi.2.1 pc = .ok (.getfield idx, 3))
    (K : pd_At G mi h mc ms cs ss (pc + 3) lo (pd_v (pd_z G) (I k) (L k) (R k) j t :: st) (S, fx, I, L, R) Q) : pd_At G mi h mc ms cs ss pc lo (.ref (pd_z G + k) :: st) (S, fx, I, L, R) Q := by
  intro d p e s m args below meth c H locs ls hd F hS hW hlv
  obtain ⟨C, T, N, hc, hj, hlk⟩ := hf
  obtain ⟨hci, ty, ck⟩ := pd_ck ci _ hc
  have he := pd_ws_get (G := G) (I := I) (L := L) (R := R) hs
  rw [pd_ce_obj hci] at he
  exact va_get F.1 F.2.1 F.2.2.2.2.2.1 ck.1 F.2.2.2.2.1 F.2.2.2.2.2.2.2.2.2.1 hW.1 k he hc j hj (F.2.2.2.2.2.1 _ hlk) (fun x hx => hx) (pd_fs_at hl) hdg (K d p e s m args below meth c H locs ls hd F hS hW hlv)
theorem at_geti {idx ci j k n : Nat} (hf : pd_FL mi.1.cls idx ci j) (hl : (pd_lay ci)[j]? = some 0) (hs : S[k]? = some (ci, n)) (hdg : decode mi.2.1 pc = .ok (.getfield idx, 3))
    (K : pd_At G mi h mc ms cs ss (pc + 3) lo (.int (I k j) :: st) (S, fx, I, L, R) Q) : pd_At G mi h mc ms cs ss pc lo (.ref (pd_z G + k) :: st) (S, fx, I, L, R) Q := at_get hf hl hs hdg K
theorem at_getl {idx ci j k n : Nat} (hf : pd_FL mi.1.cls idx ci j) (hl : (pd_lay ci)[j]? = some 1) (hs : S[k]? = some (ci, n)) (hdg : decode mi.2.1 pc = .ok (.getfield idx, 3))
    (K : pd_At G mi h mc ms cs ss (pc + 3) lo (.long (L k j) :: st) (S, fx, I, L, R) Q) : pd_At G mi h mc ms cs ss pc lo (.ref (pd_z G + k) :: st) (S, fx, I, L, R) Q := at_get hf hl hs hdg K
theorem at_getr {idx ci j k n : Nat} (q : Nat) (hf : pd_FL mi.1.cls idx ci j) (hl : (pd_lay ci)[j]? = some 2) (hs : S[k]? = some (ci, n)) (hr : R k j = some q) (hdg : decode mi.2.1 pc = .ok (.getfield idx, 3))
    (K : pd_At G mi h mc ms cs ss (pc + 3) lo (.ref (pd_z G + q) :: st) (S, fx, I, L, R) Q) : pd_At G mi h mc ms cs ss pc lo (.ref (pd_z G + k) :: st) (S, fx, I, L, R) Q := at_get hf hl hs hdg (by rw [show pd_v (pd_z G) (I k) (L k) (R k) j 2 = .ref (pd_z G + q) by simp [pd_v, hr, va_rf]]; exact K)
theorem pd_fs_set {z : Nat} {i i' : Nat → Int32} {l l' : Nat → Int64} {r r' : Nat → Option Nat} {ts : List Nat} {j t : Nat} {v : Value} (h : ts[j]? = some t) (hv : v = pd_v z i' l' r' j t) (hI : ∀ a, a ≠ j → i' a = i a) (hL : ∀ a, a ≠ j → l' a = l a) (hR : ∀ a, a ≠ j → r' a = r a) : (pd_fs z i l r 0 ts).set j v = pd_fs z i' l' r' 0 ts := by
  have hj := (List.getElem?_eq_some_iff.mp h).1
  apply List.ext_getElem?
  intro a
  by_cases ha : a = j
  · subst ha
    rw [List.getElem?_set_self (by rw [pd_fs_len]; exact hj), pd_fs_get, h, hv]; simp
  · rw [List.getElem?_set_ne (Ne.symm ha), pd_fs_get, pd_fs_get, Nat.zero_add]
    congr 1
    funext t
    unfold pd_v
    rw [hI a ha, hL a ha, hR a ha]
theorem pd_Wd_set {I' : Nat → Nat → Int32} {L' : Nat → Nat → Int64} {R' : Nat → Nat → Option Nat} {H H1 : Heap} {k : Nat} {x : Nat × Nat} (hW : pd_Wd G (S, fx, I, L, R) H) (hs : S[k]? = some x) (he : va_at G.2.1 pd_cl (pd_z G + k, pd_ce (pd_z G) G.2.2.1 x (I' k) (L' k) (R' k)) H1)
    (hI : ∀ j, j ≠ k → I' j = I j) (hL : ∀ j, j ≠ k → L' j = L j) (hR : ∀ j, j ≠ k → R' j = R j) (e2 : H1.size = H.size) (e3 : ∀ q, q ≠ pd_z G + k → H1[q]? = H[q]?) : pd_Wd G (S, fx, I', L', R') H1 := by
  refine ⟨?_, fun q hq => ?_, ?_, ?_⟩
  · have h1 := va_P.set hW.1 (pd_ws_D G S I L R) (pd_ws_get hs) he e3
    rw [pd_ws_set hs rfl hI hL hR] at h1
    exact h1
  · rw [e3 q (by omega)]; exact hW.2.1 q hq
  · rw [e2]; exact hW.2.2.1
  · rw [e2]; exact hW.2.2.2
/-- a field is written: not final, or in the constructor of its own class -/
theorem at_put {idx ci j k n t : Nat} {v : Value} {I' : Nat → Nat → Int32} {L' : Nat → Nat → Int64} {R' : Nat → Nat → Option Nat} (hf : pd_FL mi.1.cls idx ci j) (hl : (pd_lay ci)[j]? = some t) (hs : S[k]? = some (ci, n))
    (hfin : ∀ C T N, pd_cl[ci]? = some (C, T, N) → (T j).2.2.2 = false ∨ ((T j).2.2.2 = true ∧ mi.1.name = "<init>" ∧ (T j).1 = mi.1.cls)) (hv : v = pd_v (pd_z G) (I' k) (L' k) (R' k) j t)
    (hI : ∀ a b, ¬ (a = k ∧ b = j) → I' a b = I a b) (hL : ∀ a b, ¬ (a = k ∧ b = j) → L' a b = L a b) (hR : ∀ a b, ¬ (a = k ∧ b = j) → R' a b = R a b) (hdg : decode mi.2.1 pc = .ok (.putfield idx, 3))
    (K : pd_At G mi h mc ms cs ss (pc + 3) lo st (S, fx, I', L', R') Q) : pd_At G mi h mc ms cs ss pc lo (v :: .ref (pd_z G + k) :: st) (S, fx, I, L, R) Q := by
  intro d p e s m args below meth c H locs ls hd F hS hW hlv
  obtain ⟨C, T, N, hc, hj, hlk⟩ := hf
  obtain ⟨hci, ty, ck⟩ := pd_ck ci _ hc
  have he := pd_ws_get (G := G) (I := I) (L := L) (R := R) hs
  rw [pd_ce_obj hci] at he
  have hty := ck.2.1 j hj
  have hcase := ck.2.2.2.2 j hj
  have ht : (pd_lay ci).getD j 9 = t := by simp [List.getD_eq_getElem?_getD, hl]
  rw [ht] at hcase
  have hfit : narrow (ty j) v = v ∧ fits (ty j) v = true := by
    rcases hcase with ⟨rfl, e1⟩ | ⟨rfl, e1⟩ | ⟨rfl, e1⟩
    · rw [e1, hv]; exact ⟨rfl, rfl⟩
    · rw [e1, hv]; exact ⟨rfl, rfl⟩
    · have h2 : v = .null ∨ ∃ a, v = .ref a := by
        rw [hv]
        cases hq : R' k j with
        | none => left; simp [pd_v, hq, va_rf]
        | some q => right; exact ⟨pd_z G + q, by simp [pd_v, hq, va_rf]⟩
      generalize ty j = w at e1 ⊢
      cases w <;> first | (simp [FieldType.isReference] at e1; done) | (rcases h2 with h2 | ⟨a, h2⟩ <;> rw [h2] <;> exact ⟨rfl, rfl⟩)
  have hll : j < (pd_fs (pd_z G) (I k) (L k) (R k) 0 (pd_lay ci)).length := by rw [pd_fs_len, ck.2.2.2.1]; exact hj
  have hset : (pd_fs (pd_z G) (I k) (L k) (R k) 0 (pd_lay ci)).set j v = pd_fs (pd_z G) (I' k) (L' k) (R' k) 0 (pd_lay ci) := pd_fs_set hl hv (fun a ha => hI k a (fun q => ha q.2)) (fun a ha => hL k a (fun q => ha q.2)) (fun a ha => hR k a (fun q => ha q.2))
  have hts := F.2.2.2.2.2.1
  have hK := F.2.2.2.2.2.2.2.2.2.1
  have hap := va_apart (own := mi.1.cls) hts ck.1 ty ck.2.1 ck.2.2.1 hK hc
  obtain ⟨r, h1, cell, q1, q2, q3, q4⟩ := hW.1 k _ he
  have hr : r = (C, T, N) := Option.some.inj (h1.symm.trans hc)
  subst hr
  obtain ⟨hS1, hfc, kC, hkC, hkind⟩ := hK.1 ci _ hc
  obtain ⟨cf, kf, fi, f, hi, hsl⟩ := hS1 j hj
  have hlay := hts _ (ck.1 _ (u_in_lay hj))
  unfold u_lay at hlay
  have hst := (u_facts hfc hkC (u_lays hts ck.1 hj) hi).1
  have go : ∀ H1 : Heap, H1[pd_z G + k]? = some (cell.setSlot f.slot v) → H1.size = H.size → (∀ q, q ≠ pd_z G + k → H1[q]? = H[q]?) → W p G.1 e (pd_rm d mc ms) s m args below meth c H1 (locs ++ [⟨pd_z G + k, f.slot⟩]) cs ss (vx_MQ below (pd_Qc G Q) (pd_Xc G Q) args s mc ms (fun q => pd_z G ≤ q)) (F0 m (pc + 3) ls st) := by
    intro H1 e1 e2 e3
    refine K d p e s m args below meth c H1 _ ls hd F (hS.put e2 e3 (Nat.le_add_right _ _)) (pd_Wd_set hW hs ?_ (fun a ha => funext fun b => hI a b (fun q => ha q.1)) (fun a ha => funext fun b => hL a b (fun q => ha q.1)) (fun a ha => funext fun b => hR a b (fun q => ha q.1)) e2 e3) hlv
    rw [pd_ce_obj hci, ← hset]
    rw [hsl] at e1
    exact ⟨_, hc, t_OB.to (V := updV (vp_V (pd_fs (pd_z G) (I k) (L k) (R k) 0 (pd_lay ci))) j v) ⟨_, e1, q2, q3, t_set q4 hap hj v⟩ (fun a _ => vp_updV_set hll v a)⟩
  rcases hfin C T N hc with hf0 | ⟨hf1, hin2, hdecl⟩
  · rw [if_neg (by rw [hf0]; decide)] at hlay
    have h6 := u_store hfc hkC hkind hlay hi hty hfit.1 hfit.2
    exact W.putK F.1 F.2.1 (f := f) ⟨F.2.2.2.2.1, hts _ hlk, ⟨_, _, _, hi⟩, hst⟩ (by rw [q2]; exact h6) q1 q3 (by rw [hsl]; exact k2_hasslot (q4 j hj)) rfl rfl hdg go
  · rw [if_pos hf1] at hlay
    have hcf : m.cls = cf := by
      obtain ⟨_, _, c', _, _, _, -, -, hf', -, -, -, hown2, -⟩ := Cond.laysFinal_spec hlay
      have e1 : c' = cf := by have := hi.symm.trans hf'; simp at this; exact this.1.symm
      rw [hdecl] at hown2
      rw [← e1]; exact Option.some.inj (F.2.2.2.2.1.symm.trans hown2)
    have h6 := u_fits hfc hkC hkind (Or.inr hlay) hi hty hfit.1 hfit.2
    exact W.putFinK F.1 F.2.1 F.2.2.2.2.1 (hts _ hlk) hi hst hcf (F.2.2.2.2.2.2.2.2.2.2.2.1.trans hin2) (by rw [q2]; exact h6) q1 q3 (by rw [hsl]; exact k2_hasslot (q4 j hj)) rfl rfl hdg go
theorem at_puti {idx ci j k n : Nat} {v : Int32} (hf : pd_FL mi.1.cls idx ci j) (hl : (pd_lay ci)[j]? = some 0) (hs : S[k]? = some (ci, n)) (hfin : ∀ C T N, pd_cl[ci]? = some (C, T, N) → (T j).2.2.2 = false) (hdg : decode mi.2.1 pc = .ok (.putfield idx, 3))
    (K : pd_At G mi h mc ms cs ss (pc + 3) lo st (S, fx, pd_up I k j v, L, R) Q) : pd_At G mi h mc ms cs ss pc lo (.int v :: .ref (pd_z G + k) :: st) (S, fx, I, L, R) Q :=
  at_put hf hl hs (fun C T N hc => Or.inl (hfin C T N hc)) (by simp [pd_v, pd_up]) (fun a b hq => by simp [pd_up, hq]) (fun _ _ _ => rfl) (fun _ _ _ => rfl) hdg K
theorem at_putl {idx ci j k n : Nat} {v : Int64} (hf : pd_FL mi.1.cls idx ci j) (hl : (pd_lay ci)[j]? = some 1) (hs : S[k]? = some (ci, n)) (hfin : ∀ C T N, pd_cl[ci]? = some (C, T, N) → (T j).2.2.2 = false) (hdg : decode mi.2.1 pc = .ok (.putfield idx, 3))
    (K : pd_At G mi h mc ms cs ss (pc + 3) lo st (S, fx, I, pd_up L k j v, R) Q) : pd_At G mi h mc ms cs ss pc lo (.long v :: .ref (pd_z G + k) :: st) (S, fx, I, L, R) Q :=
  at_put hf hl hs (fun C T N hc => Or.inl (hfin C T N hc)) (by simp [pd_v, pd_up]) (fun _ _ _ => rfl) (fun a b hq => by simp [pd_up, hq]) (fun _ _ _ => rfl) hdg K
theorem at_putr {idx ci j k n q : Nat} (hf : pd_FL mi.1.cls idx ci j) (hl : (pd_lay ci)[j]? = some 2) (hs : S[k]? = some (ci, n)) (hfin : ∀ C T N, pd_cl[ci]? = some (C, T, N) → (T j).2.2.2 = false ∨ ((T j).2.2.2 = true ∧ mi.1.name = "<init>" ∧ (T j).1 = mi.1.cls)) (hdg : decode mi.2.1 pc = .ok (.putfield idx, 3))
    (K : pd_At G mi h mc ms cs ss (pc + 3) lo st (S, fx, I, L, pd_up R k j (some q)) Q) : pd_At G mi h mc ms cs ss pc lo (.ref (pd_z G + q) :: .ref (pd_z G + k) :: st) (S, fx, I, L, R) Q :=
  at_put hf hl hs hfin (by simp [pd_v, pd_up, va_rf]) (fun _ _ _ => rfl) (fun _ _ _ => rfl) (fun a b hq => by simp [pd_up, hq]) hdg K
/-! arrays: kind 9 int, 10 byte, 11 long, 12 Petition, 13 int[] -/
theorem at_iald {k n : Nat} {i : Int32} (hs : S[k]? = some (9, n)) (hin : vp_in i n) (hdg : decode mi.2.1 pc = .ok (.iaload, 1)) (K : pd_At G mi h mc ms cs ss (pc + 1) lo (.int (I k i.toNatClampNeg) :: st) (S, fx, I, L, R) Q) : pd_At G mi h mc ms cs ss pc lo (.int i :: .ref (pd_z G + k) :: st) (S, fx, I, L, R) Q := by
  intro d p e s m args below meth c H locs ls hd F hS hW hlv
  exact va_iald F.1 F.2.1 F.2.2.2.2.2.2.2.2.2.1 hW.1 k 0 (pd_ws_get hs) rfl hin hdg (K d p e s m args below meth c H locs ls hd F hS hW hlv)
theorem at_bald {k n : Nat} {i : Int32} (hs : S[k]? = some (10, n)) (hin : vp_in i n) (hdg : decode mi.2.1 pc = .ok (.baload, 1)) (K : pd_At G mi h mc ms cs ss (pc + 1) lo (.int (I k i.toNatClampNeg) :: st) (S, fx, I, L, R) Q) : pd_At G mi h mc ms cs ss pc lo (.int i :: .ref (pd_z G + k) :: st) (S, fx, I, L, R) Q := by
  intro d p e s m args below meth c H locs ls hd F hS hW hlv
  exact va_bald F.1 F.2.1 F.2.2.2.2.2.2.2.2.2.1 hW.1 k 1 (pd_ws_get hs) rfl hin hdg (K d p e s m args below meth c H locs ls hd F hS hW hlv)
theorem at_lald {k n : Nat} {i : Int32} (hs : S[k]? = some (11, n)) (hin : vp_in i n) (hdg : decode mi.2.1 pc = .ok (.laload, 1)) (K : pd_At G mi h mc ms cs ss (pc + 1) lo (.long (L k i.toNatClampNeg) :: st) (S, fx, I, L, R) Q) : pd_At G mi h mc ms cs ss pc lo (.int i :: .ref (pd_z G + k) :: st) (S, fx, I, L, R) Q := by
  intro d p e s m args below meth c H locs ls hd F hS hW hlv
  exact va_lald F.1 F.2.1 F.2.2.2.2.2.2.2.2.2.1 hW.1 k 2 (pd_ws_get hs) rfl hin hdg (K d p e s m args below meth c H locs ls hd F hS hW hlv)
theorem at_aald {k n : Nat} {i : Int32} (q : Nat) (hs : S[k]? = some (12, n)) (hin : vp_in i n) (hr : R k i.toNatClampNeg = some q) (hdg : decode mi.2.1 pc = .ok (.aaload, 1)) (K : pd_At G mi h mc ms cs ss (pc + 1) lo (.ref (pd_z G + q) :: st) (S, fx, I, L, R) Q) : pd_At G mi h mc ms cs ss pc lo (.int i :: .ref (pd_z G + k) :: st) (S, fx, I, L, R) Q := by
  intro d p e s m args below meth c H locs ls hd F hS hW hlv
  have hlt : i.toNatClampNeg < n := Nat.not_le.mp fun q => hin (Or.inr q)
  exact W.aald (v := .ref (pd_z G + q)) (ty := .object "PetitionDesk$Petition") F.1 F.2.1 (hW.1 k _ (pd_ws_get hs)) ((F.2.2.2.2.2.2.2.2.2.1.2 3 _ rfl).1 n (fun j => va_rf (pd_rr (pd_z G) (R k) j))) rfl (fun q => by cases q) (by show ¬ (i < 0 ∨ (arrV _ _ _).slots.size ≤ _); rw [arrV_size]; exact hin) (by show (arrV _ _ _).slots[_]? = _; rw [arrV_read _ _ hlt]; simp [pd_rr, hr, va_rf]) rfl rfl hdg (K d p e s m args below meth c H locs ls hd F hS hW hlv)
theorem at_aald2 {k n : Nat} {i : Int32} (q : Nat) (hs : S[k]? = some (13, n)) (hin : vp_in i n) (hr : R k i.toNatClampNeg = some q) (hdg : decode mi.2.1 pc = .ok (.aaload, 1)) (K : pd_At G mi h mc ms cs ss (pc + 1) lo (.ref (pd_z G + q) :: st) (S, fx, I, L, R) Q) : pd_At G mi h mc ms cs ss pc lo (.int i :: .ref (pd_z G + k) :: st) (S, fx, I, L, R) Q := by
  intro d p e s m args below meth c H locs ls hd F hS hW hlv
  have hlt : i.toNatClampNeg < n := Nat.not_le.mp fun q => hin (Or.inr q)
  exact W.aald (v := .ref (pd_z G + q)) (ty := .array .int) F.1 F.2.1 (hW.1 k _ (pd_ws_get hs)) ((F.2.2.2.2.2.2.2.2.2.1.2 4 _ rfl).1 n (fun j => va_rf (pd_rr (pd_z G) (R k) j))) rfl (fun q => by cases q) (by show ¬ (i < 0 ∨ (arrV _ _ _).slots.size ≤ _); rw [arrV_size]; exact hin) (by show (arrV _ _ _).slots[_]? = _; rw [arrV_read _ _ hlt]; simp [pd_rr, hr, va_rf]) rfl rfl hdg (K d p e s m args below meth c H locs ls hd F hS hW hlv)
theorem at_alen {k t n : Nat} {v : Int32} (hs : S[k]? = some (t, n)) (ht : 9 ≤ t ∧ t < 14) (hv : Int32.ofNat n = v) (hdg : decode mi.2.1 pc = .ok (.arraylength, 1)) (K : pd_At G mi h mc ms cs ss (pc + 1) lo (.int v :: st) (S, fx, I, L, R) Q) : pd_At G mi h mc ms cs ss pc lo (.ref (pd_z G + k) :: st) (S, fx, I, L, R) Q := by
  intro d p e s m args below meth c H locs ls hd F hS hW hlv
  have hk := K d p e s m args below meth c H locs ls hd F hS hW hlv
  have hKk := F.2.2.2.2.2.2.2.2.2.1
  rcases (show t = 9 ∨ t = 10 ∨ t = 11 ∨ t = 12 ∨ t = 13 by omega) with rfl | rfl | rfl | rfl | rfl
  · exact va_alen F.1 F.2.1 hKk hW.1 k 0 (pd_ws_get hs) rfl hv hdg hk
  · exact va_alen F.1 F.2.1 hKk hW.1 k 1 (pd_ws_get hs) rfl hv hdg hk
  · exact va_alen F.1 F.2.1 hKk hW.1 k 2 (pd_ws_get hs) rfl hv hdg hk
  · exact va_alen F.1 F.2.1 hKk hW.1 k 3 (pd_ws_get hs) rfl hv hdg hk
  · exact va_alen F.1 F.2.1 hKk hW.1 k 4 (pd_ws_get hs) rfl hv hdg hk
theorem at_iast {k n : Nat} {i x : Int32} (hs : S[k]? = some (9, n)) (hin : vp_in i n) (hdg : decode mi.2.1 pc = .ok (.iastore, 1)) (K : pd_At G mi h mc ms cs ss (pc + 1) lo st (S, fx, pd_up I k i.toNatClampNeg x, L, R) Q) : pd_At G mi h mc ms cs ss pc lo (.int x :: .int i :: .ref (pd_z G + k) :: st) (S, fx, I, L, R) Q := by
  intro d p e s m args below meth c H locs ls hd F hS hW hlv
  refine W.iast F.1 F.2.1 (hW.1 k _ (pd_ws_get hs)) ((F.2.2.2.2.2.2.2.2.2.1.2 0 _ rfl).1 n (fun j => .int (I k j))) (fun q => by cases q) (by show ¬ (i < 0 ∨ (arrV _ _ _).slots.size ≤ _); rw [arrV_size]; exact hin) rfl rfl hdg fun H1 e1 z oq => ?_
  refine K d p e s m args below meth c H1 _ ls hd F (hS.put z oq (Nat.le_add_right _ _)) (pd_Wd_set hW hs ?_ (fun a ha => pd_up_ne ha) (fun _ _ => rfl) (fun _ _ => rfl) z oq) hlv
  show H1[pd_z G + k]? = some (vp_cell _ _)
  rw [e1]
  rw [vp_cell_i, vp_cell_i, arrV_store]
  congr 2
  funext q
  by_cases hq : q = i.toNatClampNeg
  · subst hq
    simp [updV, pd_up]
  · simp [updV, pd_up, hq]
theorem at_bast {k n : Nat} {i x : Int32} (hs : S[k]? = some (10, n)) (hin : vp_in i n) (hdg : decode mi.2.1 pc = .ok (.bastore, 1)) (K : pd_At G mi h mc ms cs ss (pc + 1) lo st (S, fx, pd_up I k i.toNatClampNeg x.toInt8.toInt32, L, R) Q) : pd_At G mi h mc ms cs ss pc lo (.int x :: .int i :: .ref (pd_z G + k) :: st) (S, fx, I, L, R) Q := by
  intro d p e s m args below meth c H locs ls hd F hS hW hlv
  refine W.bast F.1 F.2.1 (hW.1 k _ (pd_ws_get hs)) ((F.2.2.2.2.2.2.2.2.2.1.2 1 _ rfl).1 n (fun j => .int (I k j))) (fun q => by cases q) (by show ¬ (i < 0 ∨ (arrV _ _ _).slots.size ≤ _); rw [arrV_size]; exact hin) rfl rfl hdg fun H1 e1 z oq => ?_
  refine K d p e s m args below meth c H1 _ ls hd F (hS.put z oq (Nat.le_add_right _ _)) (pd_Wd_set hW hs ?_ (fun a ha => pd_up_ne ha) (fun _ _ => rfl) (fun _ _ => rfl) z oq) hlv
  show H1[pd_z G + k]? = some (vp_cell _ _)
  rw [e1]
  rw [vp_cell_i, vp_cell_i, arrV_store]
  congr 2
  funext q
  by_cases hq : q = i.toNatClampNeg
  · subst hq
    simp [updV, pd_up, narrow]
  · simp [updV, pd_up, hq]
theorem at_last {k n : Nat} {i : Int32} {x : Int64} (hs : S[k]? = some (11, n)) (hin : vp_in i n) (hdg : decode mi.2.1 pc = .ok (.lastore, 1)) (K : pd_At G mi h mc ms cs ss (pc + 1) lo st (S, fx, I, pd_up L k i.toNatClampNeg x, R) Q) : pd_At G mi h mc ms cs ss pc lo (.long x :: .int i :: .ref (pd_z G + k) :: st) (S, fx, I, L, R) Q := by
  intro d p e s m args below meth c H locs ls hd F hS hW hlv
  refine W.last F.1 F.2.1 (hW.1 k _ (pd_ws_get hs)) ((F.2.2.2.2.2.2.2.2.2.1.2 2 _ rfl).1 n (fun j => .long (L k j))) (fun q => by cases q) (by show ¬ (i < 0 ∨ (arrV _ _ _).slots.size ≤ _); rw [arrV_size]; exact hin) rfl rfl hdg fun H1 e1 z oq => ?_
  refine K d p e s m args below meth c H1 _ ls hd F (hS.put z oq (Nat.le_add_right _ _)) (pd_Wd_set hW hs ?_ (fun _ _ => rfl) (fun a ha => pd_up_ne ha) (fun _ _ => rfl) z oq) hlv
  show H1[pd_z G + k]? = some (vp_cell _ _)
  rw [e1]
  rw [vp_cell_l, vp_cell_l, arrV_store]
  congr 2
  funext q
  by_cases hq : q = i.toNatClampNeg
  · subst hq
    simp [updV, pd_up]
  · simp [updV, pd_up, hq]
end PDM
end
section
/-! ===== returns, calls, throws ===== -/
/-- q is thrown at pc, its class is E -/
def pd_Xt (G : pd_G) (mi : pd_MI) (h mc ms cs ss pc : Nat) (lo : List (Option Value)) (st : List Value) (M : pd_M) (Q : pd_O → pd_M → Prop) (E : String) : Prop :=
  ∀ (d : Nat) (p : Program) (e : Env) (s : State) (m : MethodId) (args : Array Value) (below : List Frame) (meth : Method) (c : Code) (H : Heap) (locs : List Loc) (ls : Array Slot) (q : Addr) (ce : Cell),
    h ≤ d → pd_Fr G mi p s m args meth c → va_S (fun q => pd_z G ≤ q) s.heap H locs → pd_Wd G M H → lv_has ls mi.2.2.1 (pd_as 0 lo) → H[q]? = some ce → ce.vm = .none → s.vm.findClass E = some ce.cls →
    vx_W p G.1 e (pd_rm d mc ms) s m args below meth c H locs cs ss (vx_MQ below (pd_Qc G Q) (pd_Xc G Q) args s mc ms (fun q => pd_z G ≤ q)) (F0 m pc ls st) q
/-- behind a call that ended with o -/
def pd_Kc (G : pd_G) (mi : pd_MI) (h mc ms cs ss pc : Nat) (lo : List (Option Value)) (st : List Value) (Q : pd_O → pd_M → Prop) (o : pd_O) (M : pd_M) : Prop := match o with
  | .inl none => pd_At G mi h mc ms cs ss (pc + 3) lo st M Q
  | .inl (some v) => pd_At G mi h mc ms cs ss (pc + 3) lo (v :: st) M Q
  | .inr E => pd_Xt G mi h mc ms cs ss pc lo st M Q E
def pd_rt (v : Value) (M : pd_M) : pd_O → pd_M → Prop := fun o M' => o = .inl (some v) ∧ M' = M
def pd_rv (M : pd_M) : pd_O → pd_M → Prop := fun o M' => o = .inl none ∧ M' = M
section PDC
variable {G : pd_G} {mi : pd_MI} {h mc ms cs ss pc : Nat} {lo : List (Option Value)} {st : List Value} {M : pd_M} {Q : pd_O → pd_M → Prop}
theorem pd_k1 {v : Value} {M2 : pd_M} (K : pd_At G mi h mc ms cs ss (pc + 3) lo (v :: st) M2 Q) : ∀ o M', pd_rt v M2 o M' → pd_Kc G mi h mc ms cs ss pc lo st Q o M' := fun o M' hq => by
  obtain ⟨rfl, rfl⟩ := hq; exact K
theorem pd_k0 {M2 : pd_M} (K : pd_At G mi h mc ms cs ss (pc + 3) lo st M2 Q) : ∀ o M', pd_rv M2 o M' → pd_Kc G mi h mc ms cs ss pc lo st Q o M' := fun o M' hq => by
  obtain ⟨rfl, rfl⟩ := hq; exact K
theorem pd_Qc_of {H : Heap} {s t : State} {args : Array Value} {r : Option Value} (hq : Q (.inl r) M) (hW : pd_Wd G M H) (hs : s.heap.size ≤ H.size) (ht : t.heap = H) : pd_Qc G Q args s (.returned r) t := ⟨r, M, rfl, hq, by rw [ht]; exact hW, by rw [ht]; exact hs⟩
theorem at_iret {v : Int32} (hr : mi.2.2.2.1 = some .int) (hdg : decode mi.2.1 pc = .ok (.ireturn, 1)) (hq : Q (.inl (some (.int v))) M) (hc : cs ≤ mc := by first | exact Nat.le_refl _ | omega) (hs : ss ≤ ms := by first | exact Nat.le_refl _ | omega) : pd_At G mi h mc ms cs ss pc lo [.int v] M Q := fun d p e s m args below meth c H locs ls hd F hS hW hl =>
  vx_ret (W.widen hc hs (W.iret F.1 F.2.1 (F.2.2.1.trans hr) (fun t ht _ => pd_Qc_of hq hW hS.1 ht) hS.2.2 hdg F.2.2.2.2.2.2.1))
theorem at_zret {v : Int32} (hr : mi.2.2.2.1 = some .boolean) (hdg : decode mi.2.1 pc = .ok (.ireturn, 1)) (hv : v = 0 ∨ v = 1) (hq : Q (.inl (some (.int v))) M) (hc : cs ≤ mc := by first | exact Nat.le_refl _ | omega) (hs : ss ≤ ms := by first | exact Nat.le_refl _ | omega) : pd_At G mi h mc ms cs ss pc lo [.int v] M Q := fun d p e s m args below meth c H locs ls hd F hS hW hl =>
  vx_ret (W.widen hc hs (W.zret F.1 F.2.1 (F.2.2.1.trans hr) (by rcases hv with rfl | rfl <;> decide) (fun t ht _ => pd_Qc_of hq hW hS.1 ht) hS.2.2 hdg F.2.2.2.2.2.2.1))
theorem at_lret {v : Int64} (hr : mi.2.2.2.1 = some .long) (hdg : decode mi.2.1 pc = .ok (.lreturn, 1)) (hq : Q (.inl (some (.long v))) M) (hc : cs ≤ mc := by first | exact Nat.le_refl _ | omega) (hs : ss ≤ ms := by first | exact Nat.le_refl _ | omega) : pd_At G mi h mc ms cs ss pc lo [.long v] M Q := fun d p e s m args below meth c H locs ls hd F hS hW hl =>
  vx_ret (W.widen hc hs (W.lret F.1 F.2.1 (F.2.2.1.trans hr) (fun t ht _ => pd_Qc_of hq hW hS.1 ht) hS.2.2 hdg F.2.2.2.2.2.2.1))
theorem at_vret (hr : mi.2.2.2.1 = none) (hdg : decode mi.2.1 pc = .ok (.return_, 1)) (hq : Q (.inl none) M) (hc : cs ≤ mc := by first | exact Nat.le_refl _ | omega) (hs : ss ≤ ms := by first | exact Nat.le_refl _ | omega) : pd_At G mi h mc ms cs ss pc lo [] M Q := fun d p e s m args below meth c H locs ls hd F hS hW hl =>
  vx_ret (W.widen hc hs (W.vret F.1 F.2.1 (F.2.2.1.trans hr) (fun t ht _ => pd_Qc_of hq hW hS.1 ht) hS.2.2 hdg F.2.2.2.2.2.2.1))
theorem at_aret {a : Nat} {rt : FieldType} (hr : mi.2.2.2.1 = some rt) (hrt : (∃ n, rt = .object n) ∨ ∃ t, rt = .array t) (hdg : decode mi.2.1 pc = .ok (.areturn, 1)) (hq : Q (.inl (some (.ref a))) M) (hc : cs ≤ mc := by first | exact Nat.le_refl _ | omega) (hs : ss ≤ ms := by first | exact Nat.le_refl _ | omega) : pd_At G mi h mc ms cs ss pc lo [.ref a] M Q := fun d p e s m args below meth c H locs ls hd F hS hW hl =>
  vx_ret (W.widen hc hs (W.aret F.1 F.2.1 (F.2.2.1.trans hr) hrt (Or.inr ⟨a, rfl⟩) (fun t ht _ => pd_Qc_of hq hW hS.1 ht) hS.2.2 hdg F.2.2.2.2.2.2.1))
/-- it leaves the method -/
theorem at_out {E : String} (hout : mi.2.2.2.2 = []) (hq : Q (.inr E) M) (hc : cs ≤ mc := by first | exact Nat.le_refl _ | omega) (hs : ss ≤ ms := by first | exact Nat.le_refl _ | omega) : pd_Xt G mi h mc ms cs ss pc lo st M Q E := fun d p e s m args below meth c H locs ls q ce hd F hS hW hl hce hcv hcl =>
  vx_out (by rw [F.2.2.2.2.2.2.2.2.2.2.1, hout]; intro x hx; cases hx) F.2.2.2.2.2.2.1 hce hcv hcl (fun t ht _ => ⟨M, hq, by rw [ht]; exact hW, by rw [ht]; exact hS.1⟩) hS.2.2 hc hs
/-- the words of a call -/
def pd_CB (mi' : pd_MI) (n : Nat) : Prop := pd_hd mi' ∈ pd_TB ∧ Cond.initialized mi'.1.cls ∈ pd_TB ∧ (mi'.1.cls ≠ "java/lang/invoke/MethodHandle" ∧ mi'.1.cls ≠ "java/lang/invoke/VarHandle") ∧ (parseMethodDescriptor mi'.1.desc).map (fun d => d.parameters.length) = some n ∧ mi'.2.2.1 ≤ 80 ∧ mi'.2.2.2.2 = []
theorem pd_good {mi' : pd_MI} (h1 : pd_hd mi' ∈ pd_TB) : ∀ w ∈ pd_hd mi' :: pd_TB, w ∈ pd_TB ∧ ((w.onTables && w.keeps) = true ∨ ∃ ty, w = .arrayClass ty) := fun w hw => by
  have hm : w ∈ pd_TB := (List.mem_cons.mp hw).elim (fun e => by rw [e]; exact h1) id
  exact ⟨hm, good_of_word (List.mem_filter.mp hm).2⟩
theorem pd_callB {mi' : pd_MI} {n d mc' ms' : Nat} {R : Room} {s : State} {args : Array Value} {own : String} {idx : Nat} (hc : pd_CB mi' n) (hts : ∀ w ∈ pd_TB, w.before args s = true) (hl : Cond.methodLink own idx mi'.1 ∈ pd_TB) (hf : d + 1 ≤ R.frames) (hlo : 100 * (d + 1) ≤ R.locals) :
    CallB R s args own idx mi'.1 mi'.2.1 mi'.2.2.1 mi'.2.2.2.1 (pd_hd mi' :: pd_TB) (pd_rm d mc' ms') mc' ms' n := by
  have hhd : pd_hd mi' = .code mi'.1 mi'.2.1 mi'.2.2.1 mi'.2.2.2.1 := by unfold pd_hd; rw [hc.2.2.2.2.2]
  refine ⟨rfl, rfl, hf, ?_, pay_in hts (pd_good hc.1), by rw [hhd]; exact List.mem_cons_self, by rw [← hhd]; exact hts _ hc.1, hts _ hc.2.1, hc.2.2.1, fun sig hsig => ?_, hts _ hl⟩
  · have h1 := hc.2.2.2.2.1
    show 8 + (mi'.2.2.1 + 11) + 100 * d ≤ R.locals
    omega
  · have h2 := hc.2.2.2.1
    rw [hsig] at h2
    exact (Option.some.inj h2).symm
theorem pd_blind (av : List Value) (M : pd_M) : FrameBlind (pd_Pc G av M) := fun a U g mk q => q
theorem pd_vS {H H1 : Heap} {s : State} {locs L : List Loc} {M : pd_M} (hS : va_S (fun q => pd_z G ≤ q) s.heap H locs) (hs : ∀ q, q < pd_z G → s.heap[q]? = G.2.2.2.1.heap[q]?) (hz : H.size ≤ H1.size) (hW : pd_Wd G M H1) (hL : ∀ q ∈ L, pd_z G ≤ q.base) : va_S (fun q => pd_z G ≤ q) s.heap H1 (locs ++ L) :=
  ⟨Nat.le_trans hS.1 hz, fun q h1 h2 => (hW.2.1 q (Nat.not_le.mp h2)).trans (hs q (Nat.not_le.mp h2)).symm, fun q hq => (List.mem_append.mp hq).elim (hS.2.2 q) (hL q)⟩
/-- what a call's run gives -/
theorem pd_run {d mc' ms' : Nat} {p : Program} {e : Env} {s : State} {m : MethodId} {args : Array Value} {below : List Frame} {meth : Method} {c : Code} {H : Heap} {locs : List Loc} {ls : Array Slot} {st0 : List Value} {a : Array Value} {Q' : pd_O → pd_M → Prop} (hd : h ≤ d) (F : pd_Fr G mi p s m args meth c) (hS : va_S (fun q => pd_z G ≤ q) s.heap H locs) (hl : lv_has ls mi.2.2.1 (pd_as 0 lo))
    (hr : vx_Run p G.1 e (pd_rm d mc ms) s m args below meth c H locs cs ss mc' ms' (F0 m pc ls st0) st (pd_Qc G Q' a) (pd_Xc G Q') (fun q => pd_z G ≤ q)) (K : ∀ o M', Q' o M' → pd_Kc G mi h mc ms (cs + mc') (ss + ms') pc lo st Q o M') :
    W p G.1 e (pd_rm d mc ms) s m args below meth c H locs cs ss (vx_MQ below (pd_Qc G Q) (pd_Xc G Q) args s mc ms (fun q => pd_z G ≤ q)) (F0 m pc ls st0) := by
  have hbase := F.2.2.2.2.2.2.2.2.2.2.2.2.2
  intro T hT X
  rcases hr T hT X with ⟨v, st₀, t, T', L, h0, X', hL, e1, e2, ⟨r, M', hv, hQ, hWd, hz⟩, stp⟩ | ⟨q, st₀, t, T', L, E, ce, h0, X', hL, e1, e2, ⟨M', hQ, hWd, hz⟩, hce, hcv, hcl, stp⟩
  · cases hv
    rw [h0] at hz
    rw [← e1] at hWd hz
    have hS' := pd_vS hS hbase hz hWd hL
    have K1 := K _ _ hQ
    cases v with
    | none =>
      obtain ⟨t2, a1, b1⟩ := K1 d p e s m args below meth c T'.heap (locs ++ L) ls hd F hS' hWd hl T' rfl X'
      exact ⟨t2, stp t2 a1, b1⟩
    | some v =>
      obtain ⟨t2, a1, b1⟩ := K1 d p e s m args below meth c T'.heap (locs ++ L) ls hd F hS' hWd hl T' rfl X'
      exact ⟨t2, stp t2 a1, b1⟩
  · rw [h0] at hz
    rw [← e1] at hWd hz hce
    have hS' := pd_vS hS hbase hz hWd hL
    obtain ⟨t2, a1, b1⟩ := K _ _ hQ d p e s m args below meth c T'.heap (locs ++ L) ls q ce hd F hS' hWd hl hce hcv hcl T' rfl X'
    exact ⟨t2, stp.trans a1, b1⟩
def pd_CV (own : String) (idx : Nat) (mi' : pd_MI) (n ci : Nat) : Prop := pd_CB mi' n ∧ Cond.methodLink own idx mi'.1 ∈ pd_TB ∧ Cond.instanceMethod mi'.1 ∈ pd_TB ∧ Cond.selects mi'.1.cls mi'.1 mi'.1 ∈ pd_TB ∧ ∃ q : vw_C, pd_cl[ci]? = some q ∧ q.1 = mi'.1.cls ∧ ci < 9
theorem at_callV {mi' : pd_MI} {h' mc' ms' idx n ci k n0 : Nat} {As : List Value} {S : List (Nat × Nat)} {fx : Bool} {I L R} {Q' : pd_O → pd_M → Prop} (hc : pd_CV mi.1.cls idx mi' n ci) (hn : As.length = n) (hs : S[k]? = some (ci, n0)) (hE : pd_Ev G mi' h' mc' ms' (.ref (pd_z G + k) :: As) (S, fx, I, L, R) Q') (hh : h' + 1 ≤ h) (hb : cs + mc' ≤ mc ∧ ss + ms' ≤ ms) (hst : (st.map fun v => v.category).sum ≤ 8) (hdg : decode mi.2.1 pc = .ok (.invokevirtual idx, 3))
    (K : ∀ o M', Q' o M' → pd_Kc G mi h mc ms (cs + mc') (ss + ms') pc lo st Q o M') : pd_At G mi h mc ms cs ss pc lo (As.reverse ++ .ref (pd_z G + k) :: st) (S, fx, I, L, R) Q := by
  intro d p e s m args below meth c H locs ls hd F hS hW hl
  obtain ⟨hcb, hlk, hin, hse, q, hq1, hq2, hq3⟩ := hc
  have hts := F.2.2.2.2.2.1
  have he := pd_ws_get (G := G) (I := I) (L := L) (R := R) hs
  rw [pd_ce_obj hq3] at he
  have hrecv := va_recv F.2.2.2.2.2.2.2.2.2.1 hW.1 hq1 he
  rw [hq2] at hrecv
  refine pd_run (mc' := mc') (ms' := ms') hd F hS hl (vx_runV ⟨F.1, F.2.1, F.2.2.2.1, F.2.2.2.2.1, hts⟩ (hE (d - 1) (by omega)) ⟨pd_callB hcb hts hlk (by show d - 1 + 1 ≤ d; omega) (by show 100 * (d - 1 + 1) ≤ 100 * d; omega), hts _ hin, hts _ hse⟩ ⟨pd_blind _ _, hrecv, fun U hU hWm => ⟨rfl, F.2.2.2.2.2.2.2.1, State.WarmedH.trans F.2.2.2.2.2.2.2.2.1 hWm, by rw [hU]; exact hW⟩⟩ rfl hn hl.1 rfl (lv_room hst) hdg hb) K
def pd_CS (own : String) (idx : Nat) (mi' : pd_MI) (n : Nat) : Prop := pd_CB mi' n ∧ Cond.methodLink own idx mi'.1 ∈ pd_TB ∧ Cond.static mi'.1 ∈ pd_TB
theorem at_callS {mi' : pd_MI} {h' mc' ms' idx n : Nat} {As : List Value} {Q' : pd_O → pd_M → Prop} (hc : pd_CS mi.1.cls idx mi' n) (hn : As.length = n) (hE : pd_Ev G mi' h' mc' ms' As M Q') (hh : h' + 1 ≤ h) (hb : cs + mc' ≤ mc ∧ ss + ms' ≤ ms) (hst : (st.map fun v => v.category).sum ≤ 8) (hdg : decode mi.2.1 pc = .ok (.invokestatic idx, 3))
    (K : ∀ o M', Q' o M' → pd_Kc G mi h mc ms (cs + mc') (ss + ms') pc lo st Q o M') : pd_At G mi h mc ms cs ss pc lo (As.reverse ++ st) M Q := by
  intro d p e s m args below meth c H locs ls hd F hS hW hl
  obtain ⟨hcb, hlk, hstt⟩ := hc
  have hts := F.2.2.2.2.2.1
  refine pd_run (mc' := mc') (ms' := ms') hd F hS hl (vx_runS ⟨F.1, F.2.1, F.2.2.2.1, F.2.2.2.2.1, hts⟩ (hE (d - 1) (by omega)) ⟨pd_callB hcb hts hlk (by show d - 1 + 1 ≤ d; omega) (by show 100 * (d - 1 + 1) ≤ 100 * d; omega), hts _ hstt⟩ ⟨pd_blind _ _, fun U hU hWm => ⟨rfl, F.2.2.2.2.2.2.2.1, State.WarmedH.trans F.2.2.2.2.2.2.2.2.1 hWm, by rw [hU]; exact hW⟩⟩ rfl hn hl.1 rfl (lv_room hst) hdg hb) K
end PDC
end
section
def mi_X0_init : pd_MI := (yX0_init, cX0_init, 3, none, [])
def mi_X0_choose : pd_MI := (yX0_choose, cX0_choose, 3, (some .long), [])
def mi_X0_lowBound : pd_MI := (yX0_lowBound, cX0_lowBound, 8, (some .int), [])
def mi_X0_highBound : pd_MI := (yX0_highBound, cX0_highBound, 8, (some .int), [])
def mi_X0_waysWithMarked : pd_MI := (yX0_waysWithMarked, cX0_waysWithMarked, 9, (some .long), [])
def mi_X0_waysWithoutPair : pd_MI := (yX0_waysWithoutPair, cX0_waysWithoutPair, 7, (some .long), [])
def mi_X0_commonDivisor : pd_MI := (yX0_commonDivisor, cX0_commonDivisor, 11, (some .long), [])
def mi_X1_init : pd_MI := (yX1_init, cX1_init, 1, none, [])
def mi_X1_judge : pd_MI := (yX1_judge, cX1_judge, 2, none, [])
def mi_X1_findVoters : pd_MI := (yX1_findVoters, cX1_findVoters, 3, none, [])
def mi_X1_findWrongs : pd_MI := (yX1_findWrongs, cX1_findWrongs, 4, none, [])
def mi_X1_wrongOf : pd_MI := (yX1_wrongOf, cX1_wrongOf, 6, (some .int), [])
def mi_X1_strikeSheets : pd_MI := (yX1_strikeSheets, cX1_strikeSheets, 6, none, [])
def mi_X1_findDoubles : pd_MI := (yX1_findDoubles, cX1_findDoubles, 5, none, [])
def mi_X1_hasVoter : pd_MI := (yX1_hasVoter, cX1_hasVoter, 2, (some .boolean), [])
def mi_X1_isGood : pd_MI := (yX1_isGood, cX1_isGood, 2, (some .boolean), [])
def mi_X1_isGoodIn : pd_MI := (yX1_isGoodIn, cX1_isGoodIn, 4, (some .boolean), [])
def mi_X1_countJudged : pd_MI := (yX1_countJudged, cX1_countJudged, 6, (some .int), [])
def mi_X1_linesOf : pd_MI := (yX1_linesOf, cX1_linesOf, 4, (some .int), [])
def mi_X1_trueLinesOf : pd_MI := (yX1_trueLinesOf, cX1_trueLinesOf, 4, (some .int), [])
def mi_X1_goodIn : pd_MI := (yX1_goodIn, cX1_goodIn, 5, (some .int), [])
def mi_X1_tallyGood : pd_MI := (yX1_tallyGood, cX1_tallyGood, 4, none, [])
def mi_X1_pairsIn : pd_MI := (yX1_pairsIn, cX1_pairsIn, 5, (some .int), [])
def mi_X1_votersIn : pd_MI := (yX1_votersIn, cX1_votersIn, 5, (some .int), [])
def mi_X1_trueWithout : pd_MI := (yX1_trueWithout, cX1_trueWithout, 4, (some .int), [])
def mi_X2_withLetter : pd_MI := (yX2_withLetter, cX2_withLetter, 3, (some .int), [])
def mi_X2_letterAt : pd_MI := (yX2_letterAt, cX2_letterAt, 2, (some .int), [])
def mi_X2_length : pd_MI := (yX2_length, cX2_length, 2, (some .int), [])
def mi_X3_init : pd_MI := (yX3_init, cX3_init, 1, none, [])
def mi_X3_clear : pd_MI := (yX3_clear, cX3_clear, 1, none, [])
def mi_X3_copyFrom : pd_MI := (yX3_copyFrom, cX3_copyFrom, 2, none, [])
def mi_X3_emptySamples : pd_MI := (yX3_emptySamples, cX3_emptySamples, 1, none, [])
def mi_X3_isByHand : pd_MI := (yX3_isByHand, cX3_isByHand, 2, (some .boolean), [])
def mi_X3_voterWith : pd_MI := (yX3_voterWith, cX3_voterWith, 4, (some .int), [])
def mi_X3_addVoter : pd_MI := (yX3_addVoter, cX3_addVoter, 4, none, [])
def mi_X3_firstOf : pd_MI := (yX3_firstOf, cX3_firstOf, 3, (some .int), [])
def mi_X3_linesOn : pd_MI := (yX3_linesOn, cX3_linesOn, 2, (some .int), [])
def mi_X3_addLine : pd_MI := (yX3_addLine, cX3_addLine, 6, none, [])
def mi_X3_removeLine : pd_MI := (yX3_removeLine, cX3_removeLine, 2, none, [])
def mi_X3_moveLines : pd_MI := (yX3_moveLines, cX3_moveLines, 4, none, [])
def mi_X4_init : pd_MI := (yX4_init, cX4_init, 1, none, [])
def mi_X4_add : pd_MI := (yX4_add, cX4_add, 2, none, [])
def mi_X4_addComparison : pd_MI := (yX4_addComparison, cX4_addComparison, 4, none, [])
def mi_X4_copyFrom : pd_MI := (yX4_copyFrom, cX4_copyFrom, 2, none, [])
def mi_X4_holds : pd_MI := (yX4_holds, cX4_holds, 6, (some .boolean), [])
def mi_X4_compares : pd_MI := (yX4_compares, cX4_compares, 5, (some .boolean), [])
def mi_X4_valueOf : pd_MI := (yX4_valueOf, cX4_valueOf, 3, (some .int), [])
def mi_X5_init : pd_MI := (yX5_init, cX5_init, 1, none, [])
def mi_X5_hasRoom : pd_MI := (yX5_hasRoom, cX5_hasRoom, 1, (some .boolean), [])
def mi_X5_put : pd_MI := (yX5_put, cX5_put, 2, none, [])
def mi_X6_init : pd_MI := (yX6_init, cX6_init, 1, none, [])
def mi_X6_read : pd_MI := (yX6_read, cX6_read, 3, (some .boolean), [])
def mi_X6_readTold : pd_MI := (yX6_readTold, cX6_readTold, 1, (some .boolean), [])
def mi_X6_readVoter : pd_MI := (yX6_readVoter, cX6_readVoter, 5, (some .boolean), [])
def mi_X6_readSheet : pd_MI := (yX6_readSheet, cX6_readSheet, 1, (some .boolean), [])
def mi_X6_readSigned : pd_MI := (yX6_readSigned, cX6_readSigned, 4, (some .boolean), [])
def mi_X6_readNeed : pd_MI := (yX6_readNeed, cX6_readNeed, 1, (some .boolean), [])
def mi_X6_readSpan : pd_MI := (yX6_readSpan, cX6_readSpan, 1, (some .boolean), [])
def mi_X6_readSpoilt : pd_MI := (yX6_readSpoilt, cX6_readSpoilt, 1, (some .boolean), [])
def mi_X6_readAlpha : pd_MI := (yX6_readAlpha, cX6_readAlpha, 1, (some .boolean), [])
def mi_X6_readChoice : pd_MI := (yX6_readChoice, cX6_readChoice, 3, (some .boolean), [])
def mi_X6_readChain : pd_MI := (yX6_readChain, cX6_readChain, 3, (some .boolean), [])
def mi_X6_readPart : pd_MI := (yX6_readPart, cX6_readPart, 3, (some .boolean), [])
def mi_X6_readComparison : pd_MI := (yX6_readComparison, cX6_readComparison, 4, (some .boolean), [])
def mi_X6_takeOperand : pd_MI := (yX6_takeOperand, cX6_takeOperand, 2, (some .int), [])
def mi_X6_factOf : pd_MI := (yX6_factOf, cX6_factOf, 1, (some .int), [])
def mi_X6_takeOnce : pd_MI := (yX6_takeOnce, cX6_takeOnce, 2, (some .boolean), [])
def mi_X6_takeSign : pd_MI := (yX6_takeSign, cX6_takeSign, 2, (some .boolean), [])
def mi_X6_takeNumber : pd_MI := (yX6_takeNumber, cX6_takeNumber, 4, (some .int), [])
def mi_X6_takeName : pd_MI := (yX6_takeName, cX6_takeName, 3, (some .int), [])
def mi_X6_refuse : pd_MI := (yX6_refuse, cX6_refuse, 3, (some .boolean), [])
def mi_X6_kind : pd_MI := (yX6_kind, cX6_kind, 1, (some .int), [])
def mi_X6_place : pd_MI := (yX6_place, cX6_place, 1, (some .int), [])
def mi_X6_advance : pd_MI := (yX6_advance, cX6_advance, 1, none, [])
def mi_X7_init : pd_MI := (yX7_init, cX7_init, 1, none, [])
def mi_X7_scan : pd_MI := (yX7_scan, cX7_scan, 3, none, [])
def mi_X7_add : pd_MI := (yX7_add, cX7_add, 4, none, [])
def mi_X7_kindOfWord : pd_MI := (yX7_kindOfWord, cX7_kindOfWord, 6, (some .int), [])
def mi_X7_nameAt : pd_MI := (yX7_nameAt, cX7_nameAt, 4, (some .int), [])
def mi_X7_numberAt : pd_MI := (yX7_numberAt, cX7_numberAt, 4, (some .int), [])
def mi_X7_isLetter : pd_MI := (yX7_isLetter, cX7_isLetter, 2, (some .boolean), [])
def mi_X7_isDigit : pd_MI := (yX7_isDigit, cX7_isDigit, 2, (some .boolean), [])
def mi_X7_byteAt : pd_MI := (yX7_byteAt, cX7_byteAt, 2, (some .int), [])
def mi_X8_init : pd_MI := (yX8_init, cX8_init, 2, none, [])
def mi_X8_feed : pd_MI := (yX8_feed, cX8_feed, 6, (some .int), [])
def mi_X8_text : pd_MI := (yX8_text, cX8_text, 3, (some .int), [])
def mi_X8_fault : pd_MI := (yX8_fault, cX8_fault, 1, (some .int), [])
def mi_X8_sample : pd_MI := (yX8_sample, cX8_sample, 6, (some .int), [])
def mi_X8_strike : pd_MI := (yX8_strike, cX8_strike, 4, (some .int), [])
def mi_X8_sign : pd_MI := (yX8_sign, cX8_sign, 5, (some .int), [])
def mi_X8_erase : pd_MI := (yX8_erase, cX8_erase, 5, (some .int), [])
def mi_X8_undo : pd_MI := (yX8_undo, cX8_undo, 2, (some .int), [])
def mi_X8_told : pd_MI := (yX8_told, cX8_told, 2, (some .int), [])
def mi_X8_voter : pd_MI := (yX8_voter, cX8_voter, 3, (some .int), [])
def mi_X8_letter : pd_MI := (yX8_letter, cX8_letter, 3, (some .int), [])
def mi_X8_sheet : pd_MI := (yX8_sheet, cX8_sheet, 5, (some .int), [])
def mi_X8_line : pd_MI := (yX8_line, cX8_line, 5, (some .int), [])
def mi_X8_judged : pd_MI := (yX8_judged, cX8_judged, 2, (some .int), [])
def mi_X8_passes : pd_MI := (yX8_passes, cX8_passes, 1, (some .int), [])
def mi_X8_drawn : pd_MI := (yX8_drawn, cX8_drawn, 7, (some .int), [])
def mi_X8_estimate : pd_MI := (yX8_estimate, cX8_estimate, 15, (some .long), [])
def mi_X8_unlike : pd_MI := (yX8_unlike, cX8_unlike, 5, (some .int), [])
def mi_X8_unseen : pd_MI := (yX8_unseen, cX8_unseen, 5, (some .long), [])
def mi_X8_fewest : pd_MI := (yX8_fewest, cX8_fewest, 2, (some .int), [])
def mi_X8_worst : pd_MI := (yX8_worst, cX8_worst, 7, (some .int), [])
def mi_X8_cost : pd_MI := (yX8_cost, cX8_cost, 4, (some .int), [])
def mi_X8_print : pd_MI := (yX8_print, cX8_print, 4, (some .long), [])
def mi_X8_status : pd_MI := (yX8_status, cX8_status, 2, (some .int), [])
def mi_X8_requireFound : pd_MI := (yX8_requireFound, cX8_requireFound, 2, none, [])
def mi_X8_requireArgument : pd_MI := (yX8_requireArgument, cX8_requireArgument, 2, none, [])
def mi_X8_requireState : pd_MI := (yX8_requireState, cX8_requireState, 2, none, [])
def mi_X8_isFrom : pd_MI := (yX8_isFrom, cX8_isFrom, 3, (some .boolean), [])
def mi_X8_isVoter : pd_MI := (yX8_isVoter, cX8_isVoter, 2, (some .boolean), [])
def mi_X8_isSheet : pd_MI := (yX8_isSheet, cX8_isSheet, 2, (some .boolean), [])
def mi_X8_isLine : pd_MI := (yX8_isLine, cX8_isLine, 3, (some .boolean), [])
def mi_X8_sampleOf : pd_MI := (yX8_sampleOf, cX8_sampleOf, 2, (some .long), [])
def mi_X8_keepForUndo : pd_MI := (yX8_keepForUndo, cX8_keepForUndo, 3, none, [])
def mi_X8_drawLines : pd_MI := (yX8_drawLines, cX8_drawLines, 7, (some .long), [])
def mi_X8_indexOfUndrawn : pd_MI := (yX8_indexOfUndrawn, cX8_indexOfUndrawn, 6, (some .int), [])
def mi_X8_verdictOf : pd_MI := (yX8_verdictOf, cX8_verdictOf, 3, (some .int), [])
def mi_X8_inLowestTerms : pd_MI := (yX8_inLowestTerms, cX8_inLowestTerms, 7, (some .long), [])
def mi_X9_init : pd_MI := (yX9_init, cX9_init, 1, none, [])
def mi_X9_begins : pd_MI := (yX9_begins, cX9_begins, 2, none, [])
def mi_X9_thrown : pd_MI := (yX9_thrown, cX9_thrown, 1, (some .int), [])
def mi_X9_bad : pd_MI := (yX9_bad, cX9_bad, 4, (some .boolean), [])
def mi_X9_in : pd_MI := (yX9_in, cX9_in, 6, (some .boolean), [])
def mi_X9_less : pd_MI := (yX9_less, cX9_less, 2, (some .int), [])
def mi_X9_feed : pd_MI := (yX9_feed, cX9_feed, 8, (some .int), [])
def mi_X9_copies : pd_MI := (yX9_copies, cX9_copies, 3, none, [])
def mi_X9_lineAt : pd_MI := (yX9_lineAt, cX9_lineAt, 2, (some .int), [])
def mi_X9_voterAt : pd_MI := (yX9_voterAt, cX9_voterAt, 2, (some .int), [])
def mi_X9_lines : pd_MI := (yX9_lines, cX9_lines, 1, (some .int), [])
def mi_X9_byteAt : pd_MI := (yX9_byteAt, cX9_byteAt, 2, (some .int), [])
def mi_X9_here : pd_MI := (yX9_here, cX9_here, 1, (some .int), [])
def mi_X9_fine : pd_MI := (yX9_fine, cX9_fine, 1, (some .boolean), [])
def mi_X9_wrong : pd_MI := (yX9_wrong, cX9_wrong, 3, none, [])
def mi_X9_isSmall : pd_MI := (yX9_isSmall, cX9_isSmall, 1, (some .boolean), [])
def mi_X9_isDigit : pd_MI := (yX9_isDigit, cX9_isDigit, 1, (some .boolean), [])
def mi_X9_isWord : pd_MI := (yX9_isWord, cX9_isWord, 3, (some .boolean), [])
def mi_X9_takes : pd_MI := (yX9_takes, cX9_takes, 2, (some .boolean), [])
def mi_X9_must : pd_MI := (yX9_must, cX9_must, 2, none, [])
def mi_X9_number : pd_MI := (yX9_number, cX9_number, 5, (some .int), [])
def mi_X9_name : pd_MI := (yX9_name, cX9_name, 3, (some .int), [])
def mi_X9_voterOf : pd_MI := (yX9_voterOf, cX9_voterOf, 4, (some .int), [])
def mi_X9_readsVoter : pd_MI := (yX9_readsVoter, cX9_readsVoter, 7, none, [])
def mi_X9_readsSign : pd_MI := (yX9_readsSign, cX9_readsSign, 6, none, [])
def mi_X9_tells : pd_MI := (yX9_tells, cX9_tells, 2, none, [])
def mi_X9_factOf : pd_MI := (yX9_factOf, cX9_factOf, 1, (some (.object "java/lang/String")), [])
def mi_X9_side : pd_MI := (yX9_side, cX9_side, 2, none, [])
def mi_X9_part : pd_MI := (yX9_part, cX9_part, 3, none, [])
def mi_X9_all : pd_MI := (yX9_all, cX9_all, 1, none, [])
def mi_X9_any : pd_MI := (yX9_any, cX9_any, 1, none, [])
def mi_X9_takesOnce : pd_MI := (yX9_takesOnce, cX9_takesOnce, 3, (some .boolean), [])
def mi_X9_readsLine : pd_MI := (yX9_readsLine, cX9_readsLine, 2, none, [])
def mi_X9_text : pd_MI := (yX9_text, cX9_text, 2, (some .int), [])
def mi_X9_fault : pd_MI := (yX9_fault, cX9_fault, 1, (some .int), [])
def mi_X9_numberOf : pd_MI := (yX9_numberOf, cX9_numberOf, 4, (some .int), [])
def mi_X9_fact : pd_MI := (yX9_fact, cX9_fact, 6, (some .int), [])
def mi_X9_isGood : pd_MI := (yX9_isGood, cX9_isGood, 8, (some .boolean), [])
def mi_X9_judges : pd_MI := (yX9_judges, cX9_judges, 7, none, [])
def mi_X9_isClean : pd_MI := (yX9_isClean, cX9_isClean, 2, (some .boolean), [])
def mi_X9_count : pd_MI := (yX9_count, cX9_count, 4, (some .int), [])
def mi_X9_remembers : pd_MI := (yX9_remembers, cX9_remembers, 2, none, [])
def mi_X9_undo : pd_MI := (yX9_undo, cX9_undo, 1, (some .int), [])
def mi_X9_isSheet : pd_MI := (yX9_isSheet, cX9_isSheet, 2, (some .boolean), [])
def mi_X9_isVoter : pd_MI := (yX9_isVoter, cX9_isVoter, 2, (some .boolean), [])
def mi_X9_linesOf : pd_MI := (yX9_linesOf, cX9_linesOf, 4, (some .int), [])
def mi_X9_spotOf : pd_MI := (yX9_spotOf, cX9_spotOf, 5, (some .int), [])
def mi_X9_isLine : pd_MI := (yX9_isLine, cX9_isLine, 3, (some .boolean), [])
def mi_X9_isIn : pd_MI := (yX9_isIn, cX9_isIn, 3, (some .boolean), [])
def mi_X9_emptiesSamples : pd_MI := (yX9_emptiesSamples, cX9_emptiesSamples, 2, none, [])
def mi_X9_isSample : pd_MI := (yX9_isSample, cX9_isSample, 1, (some .boolean), [])
def mi_X9_goodIn : pd_MI := (yX9_goodIn, cX9_goodIn, 4, (some .int), [])
def mi_X9_sample : pd_MI := (yX9_sample, cX9_sample, 8, (some .int), [])
def mi_X9_strike : pd_MI := (yX9_strike, cX9_strike, 4, (some .int), [])
def mi_X9_moves : pd_MI := (yX9_moves, cX9_moves, 4, none, [])
def mi_X9_sign : pd_MI := (yX9_sign, cX9_sign, 7, (some .int), [])
def mi_X9_erase : pd_MI := (yX9_erase, cX9_erase, 6, (some .int), [])
def mi_X9_told : pd_MI := (yX9_told, cX9_told, 2, (some .int), [])
def mi_X9_voter : pd_MI := (yX9_voter, cX9_voter, 5, (some .int), [])
def mi_X9_letter : pd_MI := (yX9_letter, cX9_letter, 6, (some .int), [])
def mi_X9_sheet : pd_MI := (yX9_sheet, cX9_sheet, 5, (some .int), [])
def mi_X9_line : pd_MI := (yX9_line, cX9_line, 5, (some .int), [])
def mi_X9_judged : pd_MI := (yX9_judged, cX9_judged, 2, (some .int), [])
def mi_X9_passes : pd_MI := (yX9_passes, cX9_passes, 1, (some .int), [])
def mi_X9_ways : pd_MI := (yX9_ways, cX9_ways, 5, (some .long), [])
def mi_X9_waysBy : pd_MI := (yX9_waysBy, cX9_waysBy, 8, (some .long), [])
def mi_X9_isMuch : pd_MI := (yX9_isMuch, cX9_isMuch, 4, (some .boolean), [])
def mi_X9_lowOf : pd_MI := (yX9_lowOf, cX9_lowOf, 4, (some .int), [])
def mi_X9_highOf : pd_MI := (yX9_highOf, cX9_highOf, 4, (some .int), [])
def mi_X9_sizeOf : pd_MI := (yX9_sizeOf, cX9_sizeOf, 4, (some .int), [])
def mi_X9_pairsIn : pd_MI := (yX9_pairsIn, cX9_pairsIn, 5, (some .int), [])
def mi_X9_drawn : pd_MI := (yX9_drawn, cX9_drawn, 7, (some .int), [])
def mi_X9_terms : pd_MI := (yX9_terms, cX9_terms, 11, (some .long), [])
def mi_X9_estimate : pd_MI := (yX9_estimate, cX9_estimate, 7, (some .long), [])
def mi_X9_votersIn : pd_MI := (yX9_votersIn, cX9_votersIn, 4, (some .int), [])
def mi_X9_ones : pd_MI := (yX9_ones, cX9_ones, 3, (some .int), [])
def mi_X9_unlike : pd_MI := (yX9_unlike, cX9_unlike, 4, (some .int), [])
def mi_X9_adds : pd_MI := (yX9_adds, cX9_adds, 4, none, [])
def mi_X9_unseen : pd_MI := (yX9_unseen, cX9_unseen, 6, (some .long), [])
def mi_X9_fewest : pd_MI := (yX9_fewest, cX9_fewest, 2, (some .int), [])
def mi_X9_worst : pd_MI := (yX9_worst, cX9_worst, 8, (some .int), [])
def mi_X9_cost : pd_MI := (yX9_cost, cX9_cost, 2, (some .int), [])
def mi_X9_print : pd_MI := (yX9_print, cX9_print, 4, (some .long), [])
def mi_X9_status : pd_MI := (yX9_status, cX9_status, 2, (some .int), [])
def mi_J6_bitCount_0f7a4 : pd_MI := (yJ6_bitCount_0f7a4, cJ6_bitCount_0f7a4, 1, (some .int), [])
def mi_J13_bitCount_95d88 : pd_MI := (yJ13_bitCount_95d88, cJ13_bitCount_95d88, 2, (some .int), [])
def mi_J9_abs_067f4 : pd_MI := (yJ9_abs_067f4, cJ9_abs_067f4, 2, (some .long), [])
def mi_J9_max_7cf53 : pd_MI := (yJ9_max_7cf53, cJ9_max_7cf53, 2, (some .int), [])
def mi_J9_min_7cf53 : pd_MI := (yJ9_min_7cf53, cJ9_min_7cf53, 2, (some .int), [])
def mi_J0_length_8abf5 : pd_MI := (yJ0_length_8abf5, cJ0_length_8abf5, 1, (some .int), [])
def mi_J0_charAt_5068e : pd_MI := (yJ0_charAt_5068e, cJ0_charAt_5068e, 2, (some .char), [])
def mi_J0_coder_7d493 : pd_MI := (yJ0_coder_7d493, cJ0_coder_7d493, 1, (some .byte), [])
def mi_J0_isLatin1_aae02 : pd_MI := (yJ0_isLatin1_aae02, cJ0_isLatin1_aae02, 1, (some .boolean), [])
def mi_J0_checkIndex_df160 : pd_MI := (yJ0_checkIndex_df160, cJ0_checkIndex_df160, 2, none, [])
def mi_J1_charAt_3b067 : pd_MI := (yJ1_charAt_3b067, cJ1_charAt_3b067, 2, (some .char), [])
def mi_J2_getChar_3b067 : pd_MI := (yJ2_getChar_3b067, cJ2_getChar_3b067, 2, (some .char), [])
def mi_J2_length_9d52b : pd_MI := (yJ2_length_9d52b, cJ2_length_9d52b, 1, (some .int), [])
def mi_J2_charAt_3b067 : pd_MI := (yJ2_charAt_3b067, cJ2_charAt_3b067, 2, (some .char), [])
def mi_J2_checkIndex_2214a : pd_MI := (yJ2_checkIndex_2214a, cJ2_checkIndex_2214a, 2, none, [])
def mi_J7_fill_53178 : pd_MI := (yJ7_fill_53178, cJ7_fill_53178, 4, none, [])
def mi_J3_checkIndex_8e157 : pd_MI := (yJ3_checkIndex_8e157, cJ3_checkIndex_8e157, 3, (some .int), [])
def mi_L_text : pd_MI := (yL_text, cL_text, 4, (some .int), [(0, 9, 12, 13)])
def mi_L_sample : pd_MI := (yL_sample, cL_sample, 6, (some .int), [(0, 12, 15, 13)])
def mi_L_strike : pd_MI := (yL_strike, cL_strike, 5, (some .int), [(0, 10, 13, 23)])
def mi_L_sign : pd_MI := (yL_sign, cL_sign, 6, (some .int), [(0, 12, 15, 23), (0, 12, 19, 13), (0, 12, 23, 28)])
def mi_L_erase : pd_MI := (yL_erase, cL_erase, 5, (some .int), [(0, 10, 13, 23)])
def mi_L_told : pd_MI := (yL_told, cL_told, 4, (some .int), [(0, 9, 12, 13)])
def mi_L_voter : pd_MI := (yL_voter, cL_voter, 5, (some .int), [(0, 10, 13, 23), (0, 10, 17, 13)])
def mi_L_letter : pd_MI := (yL_letter, cL_letter, 5, (some .int), [(0, 10, 13, 23)])
def mi_L_sheet : pd_MI := (yL_sheet, cL_sheet, 5, (some .int), [(0, 10, 13, 23), (0, 10, 17, 13)])
def mi_L_line : pd_MI := (yL_line, cL_line, 6, (some .int), [(0, 12, 15, 23), (0, 12, 19, 13)])
def mi_L_judged : pd_MI := (yL_judged, cL_judged, 4, (some .int), [(0, 9, 12, 13)])
def mi_L_drawn : pd_MI := (yL_drawn, cL_drawn, 5, (some .int), [(0, 10, 13, 13)])
def mi_L_estimate : pd_MI := (yL_estimate, cL_estimate, 5, (some .int), [(0, 9, 12, 13), (0, 9, 16, 28)])
def mi_L_unlike : pd_MI := (yL_unlike, cL_unlike, 4, (some .int), [(0, 9, 12, 13)])
def mi_L_unseen : pd_MI := (yL_unseen, cL_unseen, 5, (some .int), [(0, 9, 12, 13)])
def mi_L_worst : pd_MI := (yL_worst, cL_worst, 5, (some .int), [(0, 10, 13, 13)])
def mi_L_cost : pd_MI := (yL_cost, cL_cost, 4, (some .int), [(0, 9, 12, 13)])
def mi_L_law : pd_MI := (yL_law, cL_law, 8, some .boolean, [])
end
section
theorem dX0_init_0 : decode cX0_init 0 = .ok (.aload_n 0, 1) := by decide +kernel
theorem dX0_init_1 : decode cX0_init 1 = .ok (.invokespecial 3, 3) := by decide +kernel
theorem dX0_init_4 : decode cX0_init 4 = .ok (.aload_n 0, 1) := by decide +kernel
theorem dX0_init_5 : decode cX0_init 5 = .ok (.sipush 1681, 3) := by decide +kernel
theorem dX0_init_8 : decode cX0_init 8 = .ok (.newarray .long, 2) := by decide +kernel
theorem dX0_init_10 : decode cX0_init 10 = .ok (.putfield 11, 3) := by decide +kernel
theorem dX0_init_13 : decode cX0_init 13 = .ok (.aload_n 0, 1) := by decide +kernel
theorem dX0_init_14 : decode cX0_init 14 = .ok (.bipush 41, 2) := by decide +kernel
theorem dX0_init_16 : decode cX0_init 16 = .ok (.newarray .long, 2) := by decide +kernel
theorem dX0_init_18 : decode cX0_init 18 = .ok (.putfield 15, 3) := by decide +kernel
theorem dX0_init_21 : decode cX0_init 21 = .ok (.iconst 0, 1) := by decide +kernel
theorem dX0_init_22 : decode cX0_init 22 = .ok (.istore_n 1, 1) := by decide +kernel
theorem dX0_init_23 : decode cX0_init 23 = .ok (.iload_n 1, 1) := by decide +kernel
theorem dX0_init_24 : decode cX0_init 24 = .ok (.bipush 41, 2) := by decide +kernel
theorem dX0_init_26 : decode cX0_init 26 = .ok (.if_icmp .ge 72, 3) := by decide +kernel
theorem dX0_init_29 : decode cX0_init 29 = .ok (.aload_n 0, 1) := by decide +kernel
theorem dX0_init_30 : decode cX0_init 30 = .ok (.getfield 11, 3) := by decide +kernel
theorem dX0_init_33 : decode cX0_init 33 = .ok (.iload_n 1, 1) := by decide +kernel
theorem dX0_init_34 : decode cX0_init 34 = .ok (.bipush 41, 2) := by decide +kernel
theorem dX0_init_36 : decode cX0_init 36 = .ok (.imul, 1) := by decide +kernel
theorem dX0_init_37 : decode cX0_init 37 = .ok (.lconst 1, 1) := by decide +kernel
theorem dX0_init_38 : decode cX0_init 38 = .ok (.lastore, 1) := by decide +kernel
theorem dX0_init_39 : decode cX0_init 39 = .ok (.iconst 1, 1) := by decide +kernel
theorem dX0_init_40 : decode cX0_init 40 = .ok (.istore_n 2, 1) := by decide +kernel
theorem dX0_init_41 : decode cX0_init 41 = .ok (.iload_n 2, 1) := by decide +kernel
theorem dX0_init_42 : decode cX0_init 42 = .ok (.iload_n 1, 1) := by decide +kernel
theorem dX0_init_43 : decode cX0_init 43 = .ok (.if_icmp .gt 49, 3) := by decide +kernel
theorem dX0_init_46 : decode cX0_init 46 = .ok (.aload_n 0, 1) := by decide +kernel
theorem dX0_init_47 : decode cX0_init 47 = .ok (.getfield 11, 3) := by decide +kernel
theorem dX0_init_50 : decode cX0_init 50 = .ok (.iload_n 1, 1) := by decide +kernel
theorem dX0_init_51 : decode cX0_init 51 = .ok (.bipush 41, 2) := by decide +kernel
theorem dX0_init_53 : decode cX0_init 53 = .ok (.imul, 1) := by decide +kernel
theorem dX0_init_54 : decode cX0_init 54 = .ok (.iload_n 2, 1) := by decide +kernel
theorem dX0_init_55 : decode cX0_init 55 = .ok (.iadd, 1) := by decide +kernel
theorem dX0_init_56 : decode cX0_init 56 = .ok (.aload_n 0, 1) := by decide +kernel
theorem dX0_init_57 : decode cX0_init 57 = .ok (.getfield 11, 3) := by decide +kernel
theorem dX0_init_60 : decode cX0_init 60 = .ok (.iload_n 1, 1) := by decide +kernel
theorem dX0_init_61 : decode cX0_init 61 = .ok (.iconst 1, 1) := by decide +kernel
theorem dX0_init_62 : decode cX0_init 62 = .ok (.isub, 1) := by decide +kernel
theorem dX0_init_63 : decode cX0_init 63 = .ok (.bipush 41, 2) := by decide +kernel
theorem dX0_init_65 : decode cX0_init 65 = .ok (.imul, 1) := by decide +kernel
theorem dX0_init_66 : decode cX0_init 66 = .ok (.iload_n 2, 1) := by decide +kernel
theorem dX0_init_67 : decode cX0_init 67 = .ok (.iadd, 1) := by decide +kernel
theorem dX0_init_68 : decode cX0_init 68 = .ok (.iconst 1, 1) := by decide +kernel
theorem dX0_init_69 : decode cX0_init 69 = .ok (.isub, 1) := by decide +kernel
theorem dX0_init_70 : decode cX0_init 70 = .ok (.laload, 1) := by decide +kernel
theorem dX0_init_71 : decode cX0_init 71 = .ok (.aload_n 0, 1) := by decide +kernel
theorem dX0_init_72 : decode cX0_init 72 = .ok (.getfield 11, 3) := by decide +kernel
theorem dX0_init_75 : decode cX0_init 75 = .ok (.iload_n 1, 1) := by decide +kernel
theorem dX0_init_76 : decode cX0_init 76 = .ok (.iconst 1, 1) := by decide +kernel
theorem dX0_init_77 : decode cX0_init 77 = .ok (.isub, 1) := by decide +kernel
theorem dX0_init_78 : decode cX0_init 78 = .ok (.bipush 41, 2) := by decide +kernel
theorem dX0_init_80 : decode cX0_init 80 = .ok (.imul, 1) := by decide +kernel
theorem dX0_init_81 : decode cX0_init 81 = .ok (.iload_n 2, 1) := by decide +kernel
theorem dX0_init_82 : decode cX0_init 82 = .ok (.iadd, 1) := by decide +kernel
theorem dX0_init_83 : decode cX0_init 83 = .ok (.laload, 1) := by decide +kernel
theorem dX0_init_84 : decode cX0_init 84 = .ok (.ladd, 1) := by decide +kernel
theorem dX0_init_85 : decode cX0_init 85 = .ok (.lastore, 1) := by decide +kernel
theorem dX0_init_86 : decode cX0_init 86 = .ok (.iinc 2 1, 3) := by decide +kernel
theorem dX0_init_89 : decode cX0_init 89 = .ok (.goto (-48), 3) := by decide +kernel
theorem dX0_init_92 : decode cX0_init 92 = .ok (.iinc 1 1, 3) := by decide +kernel
theorem dX0_init_95 : decode cX0_init 95 = .ok (.goto (-72), 3) := by decide +kernel
theorem dX0_init_98 : decode cX0_init 98 = .ok (.return_, 1) := by decide +kernel
theorem dX0_choose_0 : decode cX0_choose 0 = .ok (.iload_n 1, 1) := by decide +kernel
theorem dX0_choose_1 : decode cX0_choose 1 = .ok (.ifCond .lt 18, 3) := by decide +kernel
theorem dX0_choose_4 : decode cX0_choose 4 = .ok (.iload_n 1, 1) := by decide +kernel
theorem dX0_choose_5 : decode cX0_choose 5 = .ok (.bipush 40, 2) := by decide +kernel
theorem dX0_choose_7 : decode cX0_choose 7 = .ok (.if_icmp .gt 12, 3) := by decide +kernel
theorem dX0_choose_10 : decode cX0_choose 10 = .ok (.iload_n 2, 1) := by decide +kernel
theorem dX0_choose_11 : decode cX0_choose 11 = .ok (.ifCond .lt 8, 3) := by decide +kernel
theorem dX0_choose_14 : decode cX0_choose 14 = .ok (.iload_n 2, 1) := by decide +kernel
theorem dX0_choose_15 : decode cX0_choose 15 = .ok (.iload_n 1, 1) := by decide +kernel
theorem dX0_choose_16 : decode cX0_choose 16 = .ok (.if_icmp .le 5, 3) := by decide +kernel
theorem dX0_choose_19 : decode cX0_choose 19 = .ok (.lconst 0, 1) := by decide +kernel
theorem dX0_choose_20 : decode cX0_choose 20 = .ok (.lreturn, 1) := by decide +kernel
theorem dX0_choose_21 : decode cX0_choose 21 = .ok (.aload_n 0, 1) := by decide +kernel
theorem dX0_choose_22 : decode cX0_choose 22 = .ok (.getfield 11, 3) := by decide +kernel
theorem dX0_choose_25 : decode cX0_choose 25 = .ok (.iload_n 1, 1) := by decide +kernel
theorem dX0_choose_26 : decode cX0_choose 26 = .ok (.bipush 41, 2) := by decide +kernel
theorem dX0_choose_28 : decode cX0_choose 28 = .ok (.imul, 1) := by decide +kernel
theorem dX0_choose_29 : decode cX0_choose 29 = .ok (.iload_n 2, 1) := by decide +kernel
theorem dX0_choose_30 : decode cX0_choose 30 = .ok (.iadd, 1) := by decide +kernel
theorem dX0_choose_31 : decode cX0_choose 31 = .ok (.laload, 1) := by decide +kernel
theorem dX0_choose_32 : decode cX0_choose 32 = .ok (.lreturn, 1) := by decide +kernel
theorem dX0_lowBound_0 : decode cX0_lowBound 0 = .ok (.iload 4, 2) := by decide +kernel
theorem dX0_lowBound_2 : decode cX0_lowBound 2 = .ok (.i2l, 1) := by decide +kernel
theorem dX0_lowBound_3 : decode cX0_lowBound 3 = .ok (.aload_n 0, 1) := by decide +kernel
theorem dX0_lowBound_4 : decode cX0_lowBound 4 = .ok (.iload_n 1, 1) := by decide +kernel
theorem dX0_lowBound_5 : decode cX0_lowBound 5 = .ok (.iload_n 2, 1) := by decide +kernel
theorem dX0_lowBound_6 : decode cX0_lowBound 6 = .ok (.invokevirtual 18, 3) := by decide +kernel
theorem dX0_lowBound_9 : decode cX0_lowBound 9 = .ok (.lmul, 1) := by decide +kernel
theorem dX0_lowBound_10 : decode cX0_lowBound 10 = .ok (.lstore 5, 2) := by decide +kernel
theorem dX0_lowBound_12 : decode cX0_lowBound 12 = .ok (.iconst 0, 1) := by decide +kernel
theorem dX0_lowBound_13 : decode cX0_lowBound 13 = .ok (.istore 7, 2) := by decide +kernel
theorem dX0_lowBound_15 : decode cX0_lowBound 15 = .ok (.iload 7, 2) := by decide +kernel
theorem dX0_lowBound_17 : decode cX0_lowBound 17 = .ok (.iload_n 1, 1) := by decide +kernel
theorem dX0_lowBound_18 : decode cX0_lowBound 18 = .ok (.if_icmp .ge 32, 3) := by decide +kernel
theorem dX0_lowBound_21 : decode cX0_lowBound 21 = .ok (.ldc2_w 22, 3) := by decide +kernel
theorem dX0_lowBound_24 : decode cX0_lowBound 24 = .ok (.aload_n 0, 1) := by decide +kernel
theorem dX0_lowBound_25 : decode cX0_lowBound 25 = .ok (.iload_n 1, 1) := by decide +kernel
theorem dX0_lowBound_26 : decode cX0_lowBound 26 = .ok (.iload_n 2, 1) := by decide +kernel
theorem dX0_lowBound_27 : decode cX0_lowBound 27 = .ok (.iload 7, 2) := by decide +kernel
theorem dX0_lowBound_29 : decode cX0_lowBound 29 = .ok (.iload_n 3, 1) := by decide +kernel
theorem dX0_lowBound_30 : decode cX0_lowBound 30 = .ok (.iload_n 2, 1) := by decide +kernel
theorem dX0_lowBound_31 : decode cX0_lowBound 31 = .ok (.invokevirtual 24, 3) := by decide +kernel
theorem dX0_lowBound_34 : decode cX0_lowBound 34 = .ok (.lmul, 1) := by decide +kernel
theorem dX0_lowBound_35 : decode cX0_lowBound 35 = .ok (.lload 5, 2) := by decide +kernel
theorem dX0_lowBound_37 : decode cX0_lowBound 37 = .ok (.lcmp, 1) := by decide +kernel
theorem dX0_lowBound_38 : decode cX0_lowBound 38 = .ok (.ifCond .le 6, 3) := by decide +kernel
theorem dX0_lowBound_41 : decode cX0_lowBound 41 = .ok (.iload 7, 2) := by decide +kernel
theorem dX0_lowBound_43 : decode cX0_lowBound 43 = .ok (.ireturn, 1) := by decide +kernel
theorem dX0_lowBound_44 : decode cX0_lowBound 44 = .ok (.iinc 7 1, 3) := by decide +kernel
theorem dX0_lowBound_47 : decode cX0_lowBound 47 = .ok (.goto (-32), 3) := by decide +kernel
theorem dX0_lowBound_50 : decode cX0_lowBound 50 = .ok (.iload_n 1, 1) := by decide +kernel
theorem dX0_lowBound_51 : decode cX0_lowBound 51 = .ok (.ireturn, 1) := by decide +kernel
theorem dX0_highBound_0 : decode cX0_highBound 0 = .ok (.iload 4, 2) := by decide +kernel
theorem dX0_highBound_2 : decode cX0_highBound 2 = .ok (.i2l, 1) := by decide +kernel
theorem dX0_highBound_3 : decode cX0_highBound 3 = .ok (.aload_n 0, 1) := by decide +kernel
theorem dX0_highBound_4 : decode cX0_highBound 4 = .ok (.iload_n 1, 1) := by decide +kernel
theorem dX0_highBound_5 : decode cX0_highBound 5 = .ok (.iload_n 2, 1) := by decide +kernel
theorem dX0_highBound_6 : decode cX0_highBound 6 = .ok (.invokevirtual 18, 3) := by decide +kernel
theorem dX0_highBound_9 : decode cX0_highBound 9 = .ok (.lmul, 1) := by decide +kernel
theorem dX0_highBound_10 : decode cX0_highBound 10 = .ok (.lstore 5, 2) := by decide +kernel
theorem dX0_highBound_12 : decode cX0_highBound 12 = .ok (.iload_n 1, 1) := by decide +kernel
theorem dX0_highBound_13 : decode cX0_highBound 13 = .ok (.istore 7, 2) := by decide +kernel
theorem dX0_highBound_15 : decode cX0_highBound 15 = .ok (.iload 7, 2) := by decide +kernel
theorem dX0_highBound_17 : decode cX0_highBound 17 = .ok (.ifCond .le 32, 3) := by decide +kernel
theorem dX0_highBound_20 : decode cX0_highBound 20 = .ok (.ldc2_w 22, 3) := by decide +kernel
theorem dX0_highBound_23 : decode cX0_highBound 23 = .ok (.aload_n 0, 1) := by decide +kernel
theorem dX0_highBound_24 : decode cX0_highBound 24 = .ok (.iload_n 1, 1) := by decide +kernel
theorem dX0_highBound_25 : decode cX0_highBound 25 = .ok (.iload_n 2, 1) := by decide +kernel
theorem dX0_highBound_26 : decode cX0_highBound 26 = .ok (.iload 7, 2) := by decide +kernel
theorem dX0_highBound_28 : decode cX0_highBound 28 = .ok (.iconst 0, 1) := by decide +kernel
theorem dX0_highBound_29 : decode cX0_highBound 29 = .ok (.iload_n 3, 1) := by decide +kernel
theorem dX0_highBound_30 : decode cX0_highBound 30 = .ok (.invokevirtual 24, 3) := by decide +kernel
theorem dX0_highBound_33 : decode cX0_highBound 33 = .ok (.lmul, 1) := by decide +kernel
theorem dX0_highBound_34 : decode cX0_highBound 34 = .ok (.lload 5, 2) := by decide +kernel
theorem dX0_highBound_36 : decode cX0_highBound 36 = .ok (.lcmp, 1) := by decide +kernel
theorem dX0_highBound_37 : decode cX0_highBound 37 = .ok (.ifCond .le 6, 3) := by decide +kernel
theorem dX0_highBound_40 : decode cX0_highBound 40 = .ok (.iload 7, 2) := by decide +kernel
theorem dX0_highBound_42 : decode cX0_highBound 42 = .ok (.ireturn, 1) := by decide +kernel
theorem dX0_highBound_43 : decode cX0_highBound 43 = .ok (.iinc 7 (-1), 3) := by decide +kernel
theorem dX0_highBound_46 : decode cX0_highBound 46 = .ok (.goto (-31), 3) := by decide +kernel
theorem dX0_highBound_49 : decode cX0_highBound 49 = .ok (.iconst 0, 1) := by decide +kernel
theorem dX0_highBound_50 : decode cX0_highBound 50 = .ok (.ireturn, 1) := by decide +kernel
theorem dX0_waysWithMarked_0 : decode cX0_waysWithMarked 0 = .ok (.lconst 0, 1) := by decide +kernel
theorem dX0_waysWithMarked_1 : decode cX0_waysWithMarked 1 = .ok (.lstore 6, 2) := by decide +kernel
theorem dX0_waysWithMarked_3 : decode cX0_waysWithMarked 3 = .ok (.iload 4, 2) := by decide +kernel
theorem dX0_waysWithMarked_5 : decode cX0_waysWithMarked 5 = .ok (.istore 8, 2) := by decide +kernel
theorem dX0_waysWithMarked_7 : decode cX0_waysWithMarked 7 = .ok (.iload 8, 2) := by decide +kernel
theorem dX0_waysWithMarked_9 : decode cX0_waysWithMarked 9 = .ok (.iload 5, 2) := by decide +kernel
theorem dX0_waysWithMarked_11 : decode cX0_waysWithMarked 11 = .ok (.if_icmp .gt 39, 3) := by decide +kernel
theorem dX0_waysWithMarked_14 : decode cX0_waysWithMarked 14 = .ok (.iload 8, 2) := by decide +kernel
theorem dX0_waysWithMarked_16 : decode cX0_waysWithMarked 16 = .ok (.iload_n 2, 1) := by decide +kernel
theorem dX0_waysWithMarked_17 : decode cX0_waysWithMarked 17 = .ok (.if_icmp .gt 33, 3) := by decide +kernel
theorem dX0_waysWithMarked_20 : decode cX0_waysWithMarked 20 = .ok (.lload 6, 2) := by decide +kernel
theorem dX0_waysWithMarked_22 : decode cX0_waysWithMarked 22 = .ok (.aload_n 0, 1) := by decide +kernel
theorem dX0_waysWithMarked_23 : decode cX0_waysWithMarked 23 = .ok (.iload_n 3, 1) := by decide +kernel
theorem dX0_waysWithMarked_24 : decode cX0_waysWithMarked 24 = .ok (.iload 8, 2) := by decide +kernel
theorem dX0_waysWithMarked_26 : decode cX0_waysWithMarked 26 = .ok (.invokevirtual 18, 3) := by decide +kernel
theorem dX0_waysWithMarked_29 : decode cX0_waysWithMarked 29 = .ok (.aload_n 0, 1) := by decide +kernel
theorem dX0_waysWithMarked_30 : decode cX0_waysWithMarked 30 = .ok (.iload_n 1, 1) := by decide +kernel
theorem dX0_waysWithMarked_31 : decode cX0_waysWithMarked 31 = .ok (.iload_n 3, 1) := by decide +kernel
theorem dX0_waysWithMarked_32 : decode cX0_waysWithMarked 32 = .ok (.isub, 1) := by decide +kernel
theorem dX0_waysWithMarked_33 : decode cX0_waysWithMarked 33 = .ok (.iload_n 2, 1) := by decide +kernel
theorem dX0_waysWithMarked_34 : decode cX0_waysWithMarked 34 = .ok (.iload 8, 2) := by decide +kernel
theorem dX0_waysWithMarked_36 : decode cX0_waysWithMarked 36 = .ok (.isub, 1) := by decide +kernel
theorem dX0_waysWithMarked_37 : decode cX0_waysWithMarked 37 = .ok (.invokevirtual 18, 3) := by decide +kernel
theorem dX0_waysWithMarked_40 : decode cX0_waysWithMarked 40 = .ok (.lmul, 1) := by decide +kernel
theorem dX0_waysWithMarked_41 : decode cX0_waysWithMarked 41 = .ok (.ladd, 1) := by decide +kernel
theorem dX0_waysWithMarked_42 : decode cX0_waysWithMarked 42 = .ok (.lstore 6, 2) := by decide +kernel
theorem dX0_waysWithMarked_44 : decode cX0_waysWithMarked 44 = .ok (.iinc 8 1, 3) := by decide +kernel
theorem dX0_waysWithMarked_47 : decode cX0_waysWithMarked 47 = .ok (.goto (-40), 3) := by decide +kernel
theorem dX0_waysWithMarked_50 : decode cX0_waysWithMarked 50 = .ok (.lload 6, 2) := by decide +kernel
theorem dX0_waysWithMarked_52 : decode cX0_waysWithMarked 52 = .ok (.lreturn, 1) := by decide +kernel
theorem dX0_waysWithoutPair_0 : decode cX0_waysWithoutPair 0 = .ok (.iload_n 3, 1) := by decide +kernel
theorem dX0_waysWithoutPair_1 : decode cX0_waysWithoutPair 1 = .ok (.ifCond .lt 9, 3) := by decide +kernel
theorem dX0_waysWithoutPair_4 : decode cX0_waysWithoutPair 4 = .ok (.iload_n 3, 1) := by decide +kernel
theorem dX0_waysWithoutPair_5 : decode cX0_waysWithoutPair 5 = .ok (.bipush 40, 2) := by decide +kernel
theorem dX0_waysWithoutPair_7 : decode cX0_waysWithoutPair 7 = .ok (.if_icmp .le 5, 3) := by decide +kernel
theorem dX0_waysWithoutPair_10 : decode cX0_waysWithoutPair 10 = .ok (.lconst 0, 1) := by decide +kernel
theorem dX0_waysWithoutPair_11 : decode cX0_waysWithoutPair 11 = .ok (.lreturn, 1) := by decide +kernel
theorem dX0_waysWithoutPair_12 : decode cX0_waysWithoutPair 12 = .ok (.iload_n 2, 1) := by decide +kernel
theorem dX0_waysWithoutPair_13 : decode cX0_waysWithoutPair 13 = .ok (.istore 4, 2) := by decide +kernel
theorem dX0_waysWithoutPair_15 : decode cX0_waysWithoutPair 15 = .ok (.iconst 0, 1) := by decide +kernel
theorem dX0_waysWithoutPair_16 : decode cX0_waysWithoutPair 16 = .ok (.istore 5, 2) := by decide +kernel
theorem dX0_waysWithoutPair_18 : decode cX0_waysWithoutPair 18 = .ok (.iload 5, 2) := by decide +kernel
theorem dX0_waysWithoutPair_20 : decode cX0_waysWithoutPair 20 = .ok (.aload_n 1, 1) := by decide +kernel
theorem dX0_waysWithoutPair_21 : decode cX0_waysWithoutPair 21 = .ok (.arraylength, 1) := by decide +kernel
theorem dX0_waysWithoutPair_22 : decode cX0_waysWithoutPair 22 = .ok (.if_icmp .ge 18, 3) := by decide +kernel
theorem dX0_waysWithoutPair_25 : decode cX0_waysWithoutPair 25 = .ok (.iload 4, 2) := by decide +kernel
theorem dX0_waysWithoutPair_27 : decode cX0_waysWithoutPair 27 = .ok (.aload_n 1, 1) := by decide +kernel
theorem dX0_waysWithoutPair_28 : decode cX0_waysWithoutPair 28 = .ok (.iload 5, 2) := by decide +kernel
theorem dX0_waysWithoutPair_30 : decode cX0_waysWithoutPair 30 = .ok (.iaload, 1) := by decide +kernel
theorem dX0_waysWithoutPair_31 : decode cX0_waysWithoutPair 31 = .ok (.isub, 1) := by decide +kernel
theorem dX0_waysWithoutPair_32 : decode cX0_waysWithoutPair 32 = .ok (.istore 4, 2) := by decide +kernel
theorem dX0_waysWithoutPair_34 : decode cX0_waysWithoutPair 34 = .ok (.iinc 5 1, 3) := by decide +kernel
theorem dX0_waysWithoutPair_37 : decode cX0_waysWithoutPair 37 = .ok (.goto (-19), 3) := by decide +kernel
theorem dX0_waysWithoutPair_40 : decode cX0_waysWithoutPair 40 = .ok (.iconst 0, 1) := by decide +kernel
theorem dX0_waysWithoutPair_41 : decode cX0_waysWithoutPair 41 = .ok (.istore 5, 2) := by decide +kernel
theorem dX0_waysWithoutPair_43 : decode cX0_waysWithoutPair 43 = .ok (.iload 5, 2) := by decide +kernel
theorem dX0_waysWithoutPair_45 : decode cX0_waysWithoutPair 45 = .ok (.bipush 41, 2) := by decide +kernel
theorem dX0_waysWithoutPair_47 : decode cX0_waysWithoutPair 47 = .ok (.if_icmp .ge 24, 3) := by decide +kernel
theorem dX0_waysWithoutPair_50 : decode cX0_waysWithoutPair 50 = .ok (.aload_n 0, 1) := by decide +kernel
theorem dX0_waysWithoutPair_51 : decode cX0_waysWithoutPair 51 = .ok (.getfield 15, 3) := by decide +kernel
theorem dX0_waysWithoutPair_54 : decode cX0_waysWithoutPair 54 = .ok (.iload 5, 2) := by decide +kernel
theorem dX0_waysWithoutPair_56 : decode cX0_waysWithoutPair 56 = .ok (.aload_n 0, 1) := by decide +kernel
theorem dX0_waysWithoutPair_57 : decode cX0_waysWithoutPair 57 = .ok (.iload 4, 2) := by decide +kernel
theorem dX0_waysWithoutPair_59 : decode cX0_waysWithoutPair 59 = .ok (.iload 5, 2) := by decide +kernel
theorem dX0_waysWithoutPair_61 : decode cX0_waysWithoutPair 61 = .ok (.invokevirtual 18, 3) := by decide +kernel
theorem dX0_waysWithoutPair_64 : decode cX0_waysWithoutPair 64 = .ok (.lastore, 1) := by decide +kernel
theorem dX0_waysWithoutPair_65 : decode cX0_waysWithoutPair 65 = .ok (.iinc 5 1, 3) := by decide +kernel
theorem dX0_waysWithoutPair_68 : decode cX0_waysWithoutPair 68 = .ok (.goto (-25), 3) := by decide +kernel
theorem dX0_waysWithoutPair_71 : decode cX0_waysWithoutPair 71 = .ok (.iconst 0, 1) := by decide +kernel
theorem dX0_waysWithoutPair_72 : decode cX0_waysWithoutPair 72 = .ok (.istore 5, 2) := by decide +kernel
theorem dX0_waysWithoutPair_74 : decode cX0_waysWithoutPair 74 = .ok (.iload 5, 2) := by decide +kernel
theorem dX0_waysWithoutPair_76 : decode cX0_waysWithoutPair 76 = .ok (.aload_n 1, 1) := by decide +kernel
theorem dX0_waysWithoutPair_77 : decode cX0_waysWithoutPair 77 = .ok (.arraylength, 1) := by decide +kernel
theorem dX0_waysWithoutPair_78 : decode cX0_waysWithoutPair 78 = .ok (.if_icmp .ge 49, 3) := by decide +kernel
theorem dX0_waysWithoutPair_81 : decode cX0_waysWithoutPair 81 = .ok (.bipush 40, 2) := by decide +kernel
theorem dX0_waysWithoutPair_83 : decode cX0_waysWithoutPair 83 = .ok (.istore 6, 2) := by decide +kernel
theorem dX0_waysWithoutPair_85 : decode cX0_waysWithoutPair 85 = .ok (.iload 6, 2) := by decide +kernel
theorem dX0_waysWithoutPair_87 : decode cX0_waysWithoutPair 87 = .ok (.ifCond .le 34, 3) := by decide +kernel
theorem dX0_waysWithoutPair_90 : decode cX0_waysWithoutPair 90 = .ok (.aload_n 0, 1) := by decide +kernel
theorem dX0_waysWithoutPair_91 : decode cX0_waysWithoutPair 91 = .ok (.getfield 15, 3) := by decide +kernel
theorem dX0_waysWithoutPair_94 : decode cX0_waysWithoutPair 94 = .ok (.iload 6, 2) := by decide +kernel
theorem dX0_waysWithoutPair_96 : decode cX0_waysWithoutPair 96 = .ok (.dup2, 1) := by decide +kernel
theorem dX0_waysWithoutPair_97 : decode cX0_waysWithoutPair 97 = .ok (.laload, 1) := by decide +kernel
theorem dX0_waysWithoutPair_98 : decode cX0_waysWithoutPair 98 = .ok (.aload_n 1, 1) := by decide +kernel
theorem dX0_waysWithoutPair_99 : decode cX0_waysWithoutPair 99 = .ok (.iload 5, 2) := by decide +kernel
theorem dX0_waysWithoutPair_101 : decode cX0_waysWithoutPair 101 = .ok (.iaload, 1) := by decide +kernel
theorem dX0_waysWithoutPair_102 : decode cX0_waysWithoutPair 102 = .ok (.i2l, 1) := by decide +kernel
theorem dX0_waysWithoutPair_103 : decode cX0_waysWithoutPair 103 = .ok (.aload_n 0, 1) := by decide +kernel
theorem dX0_waysWithoutPair_104 : decode cX0_waysWithoutPair 104 = .ok (.getfield 15, 3) := by decide +kernel
theorem dX0_waysWithoutPair_107 : decode cX0_waysWithoutPair 107 = .ok (.iload 6, 2) := by decide +kernel
theorem dX0_waysWithoutPair_109 : decode cX0_waysWithoutPair 109 = .ok (.iconst 1, 1) := by decide +kernel
theorem dX0_waysWithoutPair_110 : decode cX0_waysWithoutPair 110 = .ok (.isub, 1) := by decide +kernel
theorem dX0_waysWithoutPair_111 : decode cX0_waysWithoutPair 111 = .ok (.laload, 1) := by decide +kernel
theorem dX0_waysWithoutPair_112 : decode cX0_waysWithoutPair 112 = .ok (.lmul, 1) := by decide +kernel
theorem dX0_waysWithoutPair_113 : decode cX0_waysWithoutPair 113 = .ok (.ladd, 1) := by decide +kernel
theorem dX0_waysWithoutPair_114 : decode cX0_waysWithoutPair 114 = .ok (.lastore, 1) := by decide +kernel
theorem dX0_waysWithoutPair_115 : decode cX0_waysWithoutPair 115 = .ok (.iinc 6 (-1), 3) := by decide +kernel
theorem dX0_waysWithoutPair_118 : decode cX0_waysWithoutPair 118 = .ok (.goto (-33), 3) := by decide +kernel
theorem dX0_waysWithoutPair_121 : decode cX0_waysWithoutPair 121 = .ok (.iinc 5 1, 3) := by decide +kernel
theorem dX0_waysWithoutPair_124 : decode cX0_waysWithoutPair 124 = .ok (.goto (-50), 3) := by decide +kernel
theorem dX0_waysWithoutPair_127 : decode cX0_waysWithoutPair 127 = .ok (.aload_n 0, 1) := by decide +kernel
theorem dX0_waysWithoutPair_128 : decode cX0_waysWithoutPair 128 = .ok (.getfield 15, 3) := by decide +kernel
theorem dX0_waysWithoutPair_131 : decode cX0_waysWithoutPair 131 = .ok (.iload_n 3, 1) := by decide +kernel
theorem dX0_waysWithoutPair_132 : decode cX0_waysWithoutPair 132 = .ok (.laload, 1) := by decide +kernel
theorem dX0_waysWithoutPair_133 : decode cX0_waysWithoutPair 133 = .ok (.lreturn, 1) := by decide +kernel
theorem dX0_commonDivisor_0 : decode cX0_commonDivisor 0 = .ok (.lload_n 0, 1) := by decide +kernel
theorem dX0_commonDivisor_1 : decode cX0_commonDivisor 1 = .ok (.invokestatic 28, 3) := by decide +kernel
theorem dX0_commonDivisor_4 : decode cX0_commonDivisor 4 = .ok (.lstore 4, 2) := by decide +kernel
theorem dX0_commonDivisor_6 : decode cX0_commonDivisor 6 = .ok (.lload_n 2, 1) := by decide +kernel
theorem dX0_commonDivisor_7 : decode cX0_commonDivisor 7 = .ok (.invokestatic 28, 3) := by decide +kernel
theorem dX0_commonDivisor_10 : decode cX0_commonDivisor 10 = .ok (.lstore 6, 2) := by decide +kernel
theorem dX0_commonDivisor_12 : decode cX0_commonDivisor 12 = .ok (.iconst 0, 1) := by decide +kernel
theorem dX0_commonDivisor_13 : decode cX0_commonDivisor 13 = .ok (.istore 8, 2) := by decide +kernel
theorem dX0_commonDivisor_15 : decode cX0_commonDivisor 15 = .ok (.iload 8, 2) := by decide +kernel
theorem dX0_commonDivisor_17 : decode cX0_commonDivisor 17 = .ok (.sipush 200, 3) := by decide +kernel
theorem dX0_commonDivisor_20 : decode cX0_commonDivisor 20 = .ok (.if_icmp .ge 31, 3) := by decide +kernel
theorem dX0_commonDivisor_23 : decode cX0_commonDivisor 23 = .ok (.lload 6, 2) := by decide +kernel
theorem dX0_commonDivisor_25 : decode cX0_commonDivisor 25 = .ok (.lconst 0, 1) := by decide +kernel
theorem dX0_commonDivisor_26 : decode cX0_commonDivisor 26 = .ok (.lcmp, 1) := by decide +kernel
theorem dX0_commonDivisor_27 : decode cX0_commonDivisor 27 = .ok (.ifCond .eq 24, 3) := by decide +kernel
theorem dX0_commonDivisor_30 : decode cX0_commonDivisor 30 = .ok (.lload 4, 2) := by decide +kernel
theorem dX0_commonDivisor_32 : decode cX0_commonDivisor 32 = .ok (.lload 6, 2) := by decide +kernel
theorem dX0_commonDivisor_34 : decode cX0_commonDivisor 34 = .ok (.lrem, 1) := by decide +kernel
theorem dX0_commonDivisor_35 : decode cX0_commonDivisor 35 = .ok (.lstore 9, 2) := by decide +kernel
theorem dX0_commonDivisor_37 : decode cX0_commonDivisor 37 = .ok (.lload 6, 2) := by decide +kernel
theorem dX0_commonDivisor_39 : decode cX0_commonDivisor 39 = .ok (.lstore 4, 2) := by decide +kernel
theorem dX0_commonDivisor_41 : decode cX0_commonDivisor 41 = .ok (.lload 9, 2) := by decide +kernel
theorem dX0_commonDivisor_43 : decode cX0_commonDivisor 43 = .ok (.lstore 6, 2) := by decide +kernel
theorem dX0_commonDivisor_45 : decode cX0_commonDivisor 45 = .ok (.iinc 8 1, 3) := by decide +kernel
theorem dX0_commonDivisor_48 : decode cX0_commonDivisor 48 = .ok (.goto (-33), 3) := by decide +kernel
theorem dX0_commonDivisor_51 : decode cX0_commonDivisor 51 = .ok (.lload 4, 2) := by decide +kernel
theorem dX0_commonDivisor_53 : decode cX0_commonDivisor 53 = .ok (.lreturn, 1) := by decide +kernel
theorem dX1_init_0 : decode cX1_init 0 = .ok (.aload_n 0, 1) := by decide +kernel
theorem dX1_init_1 : decode cX1_init 1 = .ok (.invokespecial 3, 3) := by decide +kernel
theorem dX1_init_4 : decode cX1_init 4 = .ok (.aload_n 0, 1) := by decide +kernel
theorem dX1_init_5 : decode cX1_init 5 = .ok (.bipush 40, 2) := by decide +kernel
theorem dX1_init_7 : decode cX1_init 7 = .ok (.newarray .int, 2) := by decide +kernel
theorem dX1_init_9 : decode cX1_init 9 = .ok (.putfield 9, 3) := by decide +kernel
theorem dX1_init_12 : decode cX1_init 12 = .ok (.aload_n 0, 1) := by decide +kernel
theorem dX1_init_13 : decode cX1_init 13 = .ok (.bipush 40, 2) := by decide +kernel
theorem dX1_init_15 : decode cX1_init 15 = .ok (.newarray .int, 2) := by decide +kernel
theorem dX1_init_17 : decode cX1_init 17 = .ok (.putfield 15, 3) := by decide +kernel
theorem dX1_init_20 : decode cX1_init 20 = .ok (.aload_n 0, 1) := by decide +kernel
theorem dX1_init_21 : decode cX1_init 21 = .ok (.bipush 16, 2) := by decide +kernel
theorem dX1_init_23 : decode cX1_init 23 = .ok (.newarray .int, 2) := by decide +kernel
theorem dX1_init_25 : decode cX1_init 25 = .ok (.putfield 18, 3) := by decide +kernel
theorem dX1_init_28 : decode cX1_init 28 = .ok (.aload_n 0, 1) := by decide +kernel
theorem dX1_init_29 : decode cX1_init 29 = .ok (.bipush 8, 2) := by decide +kernel
theorem dX1_init_31 : decode cX1_init 31 = .ok (.newarray .int, 2) := by decide +kernel
theorem dX1_init_33 : decode cX1_init 33 = .ok (.putfield 21, 3) := by decide +kernel
theorem dX1_init_36 : decode cX1_init 36 = .ok (.aload_n 0, 1) := by decide +kernel
theorem dX1_init_37 : decode cX1_init 37 = .ok (.bipush 6, 2) := by decide +kernel
theorem dX1_init_39 : decode cX1_init 39 = .ok (.newarray .int, 2) := by decide +kernel
theorem dX1_init_41 : decode cX1_init 41 = .ok (.putfield 26, 3) := by decide +kernel
theorem dX1_init_44 : decode cX1_init 44 = .ok (.aload_n 0, 1) := by decide +kernel
theorem dX1_init_45 : decode cX1_init 45 = .ok (.bipush 40, 2) := by decide +kernel
theorem dX1_init_47 : decode cX1_init 47 = .ok (.newarray .int, 2) := by decide +kernel
theorem dX1_init_49 : decode cX1_init 49 = .ok (.putfield 29, 3) := by decide +kernel
theorem dX1_init_52 : decode cX1_init 52 = .ok (.return_, 1) := by decide +kernel
theorem dX1_judge_0 : decode cX1_judge 0 = .ok (.aload_n 0, 1) := by decide +kernel
theorem dX1_judge_1 : decode cX1_judge 1 = .ok (.iconst 0, 1) := by decide +kernel
theorem dX1_judge_2 : decode cX1_judge 2 = .ok (.aload_n 1, 1) := by decide +kernel
theorem dX1_judge_3 : decode cX1_judge 3 = .ok (.getfield 32, 3) := by decide +kernel
theorem dX1_judge_6 : decode cX1_judge 6 = .ok (.bipush 40, 2) := by decide +kernel
theorem dX1_judge_8 : decode cX1_judge 8 = .ok (.invokestatic 38, 3) := by decide +kernel
theorem dX1_judge_11 : decode cX1_judge 11 = .ok (.invokestatic 44, 3) := by decide +kernel
theorem dX1_judge_14 : decode cX1_judge 14 = .ok (.putfield 47, 3) := by decide +kernel
theorem dX1_judge_17 : decode cX1_judge 17 = .ok (.aload_n 0, 1) := by decide +kernel
theorem dX1_judge_18 : decode cX1_judge 18 = .ok (.aload_n 1, 1) := by decide +kernel
theorem dX1_judge_19 : decode cX1_judge 19 = .ok (.invokevirtual 48, 3) := by decide +kernel
theorem dX1_judge_22 : decode cX1_judge 22 = .ok (.aload_n 0, 1) := by decide +kernel
theorem dX1_judge_23 : decode cX1_judge 23 = .ok (.aload_n 1, 1) := by decide +kernel
theorem dX1_judge_24 : decode cX1_judge 24 = .ok (.invokevirtual 52, 3) := by decide +kernel
theorem dX1_judge_27 : decode cX1_judge 27 = .ok (.aload_n 0, 1) := by decide +kernel
theorem dX1_judge_28 : decode cX1_judge 28 = .ok (.aload_n 1, 1) := by decide +kernel
theorem dX1_judge_29 : decode cX1_judge 29 = .ok (.invokevirtual 55, 3) := by decide +kernel
theorem dX1_judge_32 : decode cX1_judge 32 = .ok (.aload_n 0, 1) := by decide +kernel
theorem dX1_judge_33 : decode cX1_judge 33 = .ok (.invokevirtual 58, 3) := by decide +kernel
theorem dX1_judge_36 : decode cX1_judge 36 = .ok (.return_, 1) := by decide +kernel
theorem dX1_findVoters_0 : decode cX1_findVoters 0 = .ok (.iconst 0, 1) := by decide +kernel
theorem dX1_findVoters_1 : decode cX1_findVoters 1 = .ok (.istore_n 2, 1) := by decide +kernel
theorem dX1_findVoters_2 : decode cX1_findVoters 2 = .ok (.iload_n 2, 1) := by decide +kernel
theorem dX1_findVoters_3 : decode cX1_findVoters 3 = .ok (.aload_n 0, 1) := by decide +kernel
theorem dX1_findVoters_4 : decode cX1_findVoters 4 = .ok (.getfield 47, 3) := by decide +kernel
theorem dX1_findVoters_7 : decode cX1_findVoters 7 = .ok (.if_icmp .ge 43, 3) := by decide +kernel
theorem dX1_findVoters_10 : decode cX1_findVoters 10 = .ok (.aload_n 0, 1) := by decide +kernel
theorem dX1_findVoters_11 : decode cX1_findVoters 11 = .ok (.getfield 9, 3) := by decide +kernel
theorem dX1_findVoters_14 : decode cX1_findVoters 14 = .ok (.iload_n 2, 1) := by decide +kernel
theorem dX1_findVoters_15 : decode cX1_findVoters 15 = .ok (.aload_n 1, 1) := by decide +kernel
theorem dX1_findVoters_16 : decode cX1_findVoters 16 = .ok (.aload_n 1, 1) := by decide +kernel
theorem dX1_findVoters_17 : decode cX1_findVoters 17 = .ok (.getfield 61, 3) := by decide +kernel
theorem dX1_findVoters_20 : decode cX1_findVoters 20 = .ok (.iload_n 2, 1) := by decide +kernel
theorem dX1_findVoters_21 : decode cX1_findVoters 21 = .ok (.iaload, 1) := by decide +kernel
theorem dX1_findVoters_22 : decode cX1_findVoters 22 = .ok (.aload_n 1, 1) := by decide +kernel
theorem dX1_findVoters_23 : decode cX1_findVoters 23 = .ok (.getfield 64, 3) := by decide +kernel
theorem dX1_findVoters_26 : decode cX1_findVoters 26 = .ok (.iload_n 2, 1) := by decide +kernel
theorem dX1_findVoters_27 : decode cX1_findVoters 27 = .ok (.iaload, 1) := by decide +kernel
theorem dX1_findVoters_28 : decode cX1_findVoters 28 = .ok (.invokevirtual 67, 3) := by decide +kernel
theorem dX1_findVoters_31 : decode cX1_findVoters 31 = .ok (.iastore, 1) := by decide +kernel
theorem dX1_findVoters_32 : decode cX1_findVoters 32 = .ok (.aload_n 0, 1) := by decide +kernel
theorem dX1_findVoters_33 : decode cX1_findVoters 33 = .ok (.getfield 29, 3) := by decide +kernel
theorem dX1_findVoters_36 : decode cX1_findVoters 36 = .ok (.iload_n 2, 1) := by decide +kernel
theorem dX1_findVoters_37 : decode cX1_findVoters 37 = .ok (.aload_n 1, 1) := by decide +kernel
theorem dX1_findVoters_38 : decode cX1_findVoters 38 = .ok (.getfield 70, 3) := by decide +kernel
theorem dX1_findVoters_41 : decode cX1_findVoters 41 = .ok (.iload_n 2, 1) := by decide +kernel
theorem dX1_findVoters_42 : decode cX1_findVoters 42 = .ok (.iaload, 1) := by decide +kernel
theorem dX1_findVoters_43 : decode cX1_findVoters 43 = .ok (.iastore, 1) := by decide +kernel
theorem dX1_findVoters_44 : decode cX1_findVoters 44 = .ok (.iinc 2 1, 3) := by decide +kernel
theorem dX1_findVoters_47 : decode cX1_findVoters 47 = .ok (.goto (-45), 3) := by decide +kernel
theorem dX1_findVoters_50 : decode cX1_findVoters 50 = .ok (.return_, 1) := by decide +kernel
theorem dX1_findWrongs_0 : decode cX1_findWrongs 0 = .ok (.aload_n 0, 1) := by decide +kernel
theorem dX1_findWrongs_1 : decode cX1_findWrongs 1 = .ok (.getfield 18, 3) := by decide +kernel
theorem dX1_findWrongs_4 : decode cX1_findWrongs 4 = .ok (.iconst 0, 1) := by decide +kernel
theorem dX1_findWrongs_5 : decode cX1_findWrongs 5 = .ok (.invokestatic 73, 3) := by decide +kernel
theorem dX1_findWrongs_8 : decode cX1_findWrongs 8 = .ok (.iconst 0, 1) := by decide +kernel
theorem dX1_findWrongs_9 : decode cX1_findWrongs 9 = .ok (.istore_n 2, 1) := by decide +kernel
theorem dX1_findWrongs_10 : decode cX1_findWrongs 10 = .ok (.iconst 0, 1) := by decide +kernel
theorem dX1_findWrongs_11 : decode cX1_findWrongs 11 = .ok (.istore_n 3, 1) := by decide +kernel
theorem dX1_findWrongs_12 : decode cX1_findWrongs 12 = .ok (.iload_n 3, 1) := by decide +kernel
theorem dX1_findWrongs_13 : decode cX1_findWrongs 13 = .ok (.aload_n 0, 1) := by decide +kernel
theorem dX1_findWrongs_14 : decode cX1_findWrongs 14 = .ok (.getfield 47, 3) := by decide +kernel
theorem dX1_findWrongs_17 : decode cX1_findWrongs 17 = .ok (.if_icmp .ge 74, 3) := by decide +kernel
theorem dX1_findWrongs_20 : decode cX1_findWrongs 20 = .ok (.iload_n 3, 1) := by decide +kernel
theorem dX1_findWrongs_21 : decode cX1_findWrongs 21 = .ok (.ifCond .le 26, 3) := by decide +kernel
theorem dX1_findWrongs_24 : decode cX1_findWrongs 24 = .ok (.aload_n 0, 1) := by decide +kernel
theorem dX1_findWrongs_25 : decode cX1_findWrongs 25 = .ok (.getfield 29, 3) := by decide +kernel
theorem dX1_findWrongs_28 : decode cX1_findWrongs 28 = .ok (.iload_n 3, 1) := by decide +kernel
theorem dX1_findWrongs_29 : decode cX1_findWrongs 29 = .ok (.iaload, 1) := by decide +kernel
theorem dX1_findWrongs_30 : decode cX1_findWrongs 30 = .ok (.aload_n 0, 1) := by decide +kernel
theorem dX1_findWrongs_31 : decode cX1_findWrongs 31 = .ok (.getfield 29, 3) := by decide +kernel
theorem dX1_findWrongs_34 : decode cX1_findWrongs 34 = .ok (.iload_n 3, 1) := by decide +kernel
theorem dX1_findWrongs_35 : decode cX1_findWrongs 35 = .ok (.iconst 1, 1) := by decide +kernel
theorem dX1_findWrongs_36 : decode cX1_findWrongs 36 = .ok (.isub, 1) := by decide +kernel
theorem dX1_findWrongs_37 : decode cX1_findWrongs 37 = .ok (.iaload, 1) := by decide +kernel
theorem dX1_findWrongs_38 : decode cX1_findWrongs 38 = .ok (.if_icmp .ne 9, 3) := by decide +kernel
theorem dX1_findWrongs_41 : decode cX1_findWrongs 41 = .ok (.iload_n 2, 1) := by decide +kernel
theorem dX1_findWrongs_42 : decode cX1_findWrongs 42 = .ok (.iconst 1, 1) := by decide +kernel
theorem dX1_findWrongs_43 : decode cX1_findWrongs 43 = .ok (.iadd, 1) := by decide +kernel
theorem dX1_findWrongs_44 : decode cX1_findWrongs 44 = .ok (.goto 4, 3) := by decide +kernel
theorem dX1_findWrongs_47 : decode cX1_findWrongs 47 = .ok (.iconst 0, 1) := by decide +kernel
theorem dX1_findWrongs_48 : decode cX1_findWrongs 48 = .ok (.istore_n 2, 1) := by decide +kernel
theorem dX1_findWrongs_49 : decode cX1_findWrongs 49 = .ok (.aload_n 0, 1) := by decide +kernel
theorem dX1_findWrongs_50 : decode cX1_findWrongs 50 = .ok (.getfield 15, 3) := by decide +kernel
theorem dX1_findWrongs_53 : decode cX1_findWrongs 53 = .ok (.iload_n 3, 1) := by decide +kernel
theorem dX1_findWrongs_54 : decode cX1_findWrongs 54 = .ok (.aload_n 0, 1) := by decide +kernel
theorem dX1_findWrongs_55 : decode cX1_findWrongs 55 = .ok (.aload_n 1, 1) := by decide +kernel
theorem dX1_findWrongs_56 : decode cX1_findWrongs 56 = .ok (.iload_n 3, 1) := by decide +kernel
theorem dX1_findWrongs_57 : decode cX1_findWrongs 57 = .ok (.iload_n 2, 1) := by decide +kernel
theorem dX1_findWrongs_58 : decode cX1_findWrongs 58 = .ok (.invokevirtual 79, 3) := by decide +kernel
theorem dX1_findWrongs_61 : decode cX1_findWrongs 61 = .ok (.iastore, 1) := by decide +kernel
theorem dX1_findWrongs_62 : decode cX1_findWrongs 62 = .ok (.aload_n 0, 1) := by decide +kernel
theorem dX1_findWrongs_63 : decode cX1_findWrongs 63 = .ok (.iload_n 3, 1) := by decide +kernel
theorem dX1_findWrongs_64 : decode cX1_findWrongs 64 = .ok (.invokevirtual 83, 3) := by decide +kernel
theorem dX1_findWrongs_67 : decode cX1_findWrongs 67 = .ok (.ifCond .eq 18, 3) := by decide +kernel
theorem dX1_findWrongs_70 : decode cX1_findWrongs 70 = .ok (.aload_n 0, 1) := by decide +kernel
theorem dX1_findWrongs_71 : decode cX1_findWrongs 71 = .ok (.getfield 18, 3) := by decide +kernel
theorem dX1_findWrongs_74 : decode cX1_findWrongs 74 = .ok (.aload_n 0, 1) := by decide +kernel
theorem dX1_findWrongs_75 : decode cX1_findWrongs 75 = .ok (.getfield 9, 3) := by decide +kernel
theorem dX1_findWrongs_78 : decode cX1_findWrongs 78 = .ok (.iload_n 3, 1) := by decide +kernel
theorem dX1_findWrongs_79 : decode cX1_findWrongs 79 = .ok (.iaload, 1) := by decide +kernel
theorem dX1_findWrongs_80 : decode cX1_findWrongs 80 = .ok (.dup2, 1) := by decide +kernel
theorem dX1_findWrongs_81 : decode cX1_findWrongs 81 = .ok (.iaload, 1) := by decide +kernel
theorem dX1_findWrongs_82 : decode cX1_findWrongs 82 = .ok (.iconst 1, 1) := by decide +kernel
theorem dX1_findWrongs_83 : decode cX1_findWrongs 83 = .ok (.iadd, 1) := by decide +kernel
theorem dX1_findWrongs_84 : decode cX1_findWrongs 84 = .ok (.iastore, 1) := by decide +kernel
theorem dX1_findWrongs_85 : decode cX1_findWrongs 85 = .ok (.iinc 3 1, 3) := by decide +kernel
theorem dX1_findWrongs_88 : decode cX1_findWrongs 88 = .ok (.goto (-76), 3) := by decide +kernel
theorem dX1_findWrongs_91 : decode cX1_findWrongs 91 = .ok (.return_, 1) := by decide +kernel
theorem dX1_wrongOf_0 : decode cX1_wrongOf 0 = .ok (.aload_n 0, 1) := by decide +kernel
theorem dX1_wrongOf_1 : decode cX1_wrongOf 1 = .ok (.iload_n 2, 1) := by decide +kernel
theorem dX1_wrongOf_2 : decode cX1_wrongOf 2 = .ok (.invokevirtual 83, 3) := by decide +kernel
theorem dX1_wrongOf_5 : decode cX1_wrongOf 5 = .ok (.ifCond .ne 5, 3) := by decide +kernel
theorem dX1_wrongOf_8 : decode cX1_wrongOf 8 = .ok (.iconst 1, 1) := by decide +kernel
theorem dX1_wrongOf_9 : decode cX1_wrongOf 9 = .ok (.ireturn, 1) := by decide +kernel
theorem dX1_wrongOf_10 : decode cX1_wrongOf 10 = .ok (.aload_n 1, 1) := by decide +kernel
theorem dX1_wrongOf_11 : decode cX1_wrongOf 11 = .ok (.getfield 87, 3) := by decide +kernel
theorem dX1_wrongOf_14 : decode cX1_wrongOf 14 = .ok (.iload_n 2, 1) := by decide +kernel
theorem dX1_wrongOf_15 : decode cX1_wrongOf 15 = .ok (.iaload, 1) := by decide +kernel
theorem dX1_wrongOf_16 : decode cX1_wrongOf 16 = .ok (.istore 4, 2) := by decide +kernel
theorem dX1_wrongOf_18 : decode cX1_wrongOf 18 = .ok (.aload_n 1, 1) := by decide +kernel
theorem dX1_wrongOf_19 : decode cX1_wrongOf 19 = .ok (.getfield 90, 3) := by decide +kernel
theorem dX1_wrongOf_22 : decode cX1_wrongOf 22 = .ok (.aload_n 0, 1) := by decide +kernel
theorem dX1_wrongOf_23 : decode cX1_wrongOf 23 = .ok (.getfield 9, 3) := by decide +kernel
theorem dX1_wrongOf_26 : decode cX1_wrongOf 26 = .ok (.iload_n 2, 1) := by decide +kernel
theorem dX1_wrongOf_27 : decode cX1_wrongOf 27 = .ok (.iaload, 1) := by decide +kernel
theorem dX1_wrongOf_28 : decode cX1_wrongOf 28 = .ok (.iaload, 1) := by decide +kernel
theorem dX1_wrongOf_29 : decode cX1_wrongOf 29 = .ok (.istore 5, 2) := by decide +kernel
theorem dX1_wrongOf_31 : decode cX1_wrongOf 31 = .ok (.iload 4, 2) := by decide +kernel
theorem dX1_wrongOf_33 : decode cX1_wrongOf 33 = .ok (.aload_n 1, 1) := by decide +kernel
theorem dX1_wrongOf_34 : decode cX1_wrongOf 34 = .ok (.getfield 93, 3) := by decide +kernel
theorem dX1_wrongOf_37 : decode cX1_wrongOf 37 = .ok (.if_icmp .lt 19, 3) := by decide +kernel
theorem dX1_wrongOf_40 : decode cX1_wrongOf 40 = .ok (.iload 4, 2) := by decide +kernel
theorem dX1_wrongOf_42 : decode cX1_wrongOf 42 = .ok (.aload_n 1, 1) := by decide +kernel
theorem dX1_wrongOf_43 : decode cX1_wrongOf 43 = .ok (.getfield 96, 3) := by decide +kernel
theorem dX1_wrongOf_46 : decode cX1_wrongOf 46 = .ok (.if_icmp .gt 10, 3) := by decide +kernel
theorem dX1_wrongOf_49 : decode cX1_wrongOf 49 = .ok (.iload 5, 2) := by decide +kernel
theorem dX1_wrongOf_51 : decode cX1_wrongOf 51 = .ok (.iload 4, 2) := by decide +kernel
theorem dX1_wrongOf_53 : decode cX1_wrongOf 53 = .ok (.if_icmp .le 5, 3) := by decide +kernel
theorem dX1_wrongOf_56 : decode cX1_wrongOf 56 = .ok (.iconst 2, 1) := by decide +kernel
theorem dX1_wrongOf_57 : decode cX1_wrongOf 57 = .ok (.ireturn, 1) := by decide +kernel
theorem dX1_wrongOf_58 : decode cX1_wrongOf 58 = .ok (.aload_n 0, 1) := by decide +kernel
theorem dX1_wrongOf_59 : decode cX1_wrongOf 59 = .ok (.getfield 26, 3) := by decide +kernel
theorem dX1_wrongOf_62 : decode cX1_wrongOf 62 = .ok (.iconst 0, 1) := by decide +kernel
theorem dX1_wrongOf_63 : decode cX1_wrongOf 63 = .ok (.iload 4, 2) := by decide +kernel
theorem dX1_wrongOf_65 : decode cX1_wrongOf 65 = .ok (.iastore, 1) := by decide +kernel
theorem dX1_wrongOf_66 : decode cX1_wrongOf 66 = .ok (.aload_n 0, 1) := by decide +kernel
theorem dX1_wrongOf_67 : decode cX1_wrongOf 67 = .ok (.getfield 26, 3) := by decide +kernel
theorem dX1_wrongOf_70 : decode cX1_wrongOf 70 = .ok (.iconst 1, 1) := by decide +kernel
theorem dX1_wrongOf_71 : decode cX1_wrongOf 71 = .ok (.aload_n 1, 1) := by decide +kernel
theorem dX1_wrongOf_72 : decode cX1_wrongOf 72 = .ok (.getfield 64, 3) := by decide +kernel
theorem dX1_wrongOf_75 : decode cX1_wrongOf 75 = .ok (.iload_n 2, 1) := by decide +kernel
theorem dX1_wrongOf_76 : decode cX1_wrongOf 76 = .ok (.iaload, 1) := by decide +kernel
theorem dX1_wrongOf_77 : decode cX1_wrongOf 77 = .ok (.iastore, 1) := by decide +kernel
theorem dX1_wrongOf_78 : decode cX1_wrongOf 78 = .ok (.aload_n 0, 1) := by decide +kernel
theorem dX1_wrongOf_79 : decode cX1_wrongOf 79 = .ok (.getfield 26, 3) := by decide +kernel
theorem dX1_wrongOf_82 : decode cX1_wrongOf 82 = .ok (.iconst 2, 1) := by decide +kernel
theorem dX1_wrongOf_83 : decode cX1_wrongOf 83 = .ok (.iload_n 3, 1) := by decide +kernel
theorem dX1_wrongOf_84 : decode cX1_wrongOf 84 = .ok (.iastore, 1) := by decide +kernel
theorem dX1_wrongOf_85 : decode cX1_wrongOf 85 = .ok (.aload_n 0, 1) := by decide +kernel
theorem dX1_wrongOf_86 : decode cX1_wrongOf 86 = .ok (.getfield 26, 3) := by decide +kernel
theorem dX1_wrongOf_89 : decode cX1_wrongOf 89 = .ok (.iconst 3, 1) := by decide +kernel
theorem dX1_wrongOf_90 : decode cX1_wrongOf 90 = .ok (.aload_n 0, 1) := by decide +kernel
theorem dX1_wrongOf_91 : decode cX1_wrongOf 91 = .ok (.getfield 29, 3) := by decide +kernel
theorem dX1_wrongOf_94 : decode cX1_wrongOf 94 = .ok (.iload_n 2, 1) := by decide +kernel
theorem dX1_wrongOf_95 : decode cX1_wrongOf 95 = .ok (.iaload, 1) := by decide +kernel
theorem dX1_wrongOf_96 : decode cX1_wrongOf 96 = .ok (.iastore, 1) := by decide +kernel
theorem dX1_wrongOf_97 : decode cX1_wrongOf 97 = .ok (.aload_n 0, 1) := by decide +kernel
theorem dX1_wrongOf_98 : decode cX1_wrongOf 98 = .ok (.getfield 26, 3) := by decide +kernel
theorem dX1_wrongOf_101 : decode cX1_wrongOf 101 = .ok (.iconst 4, 1) := by decide +kernel
theorem dX1_wrongOf_102 : decode cX1_wrongOf 102 = .ok (.iload 5, 2) := by decide +kernel
theorem dX1_wrongOf_104 : decode cX1_wrongOf 104 = .ok (.iastore, 1) := by decide +kernel
theorem dX1_wrongOf_105 : decode cX1_wrongOf 105 = .ok (.aload_n 0, 1) := by decide +kernel
theorem dX1_wrongOf_106 : decode cX1_wrongOf 106 = .ok (.getfield 26, 3) := by decide +kernel
theorem dX1_wrongOf_109 : decode cX1_wrongOf 109 = .ok (.iconst 5, 1) := by decide +kernel
theorem dX1_wrongOf_110 : decode cX1_wrongOf 110 = .ok (.aload_n 0, 1) := by decide +kernel
theorem dX1_wrongOf_111 : decode cX1_wrongOf 111 = .ok (.getfield 18, 3) := by decide +kernel
theorem dX1_wrongOf_114 : decode cX1_wrongOf 114 = .ok (.aload_n 0, 1) := by decide +kernel
theorem dX1_wrongOf_115 : decode cX1_wrongOf 115 = .ok (.getfield 9, 3) := by decide +kernel
theorem dX1_wrongOf_118 : decode cX1_wrongOf 118 = .ok (.iload_n 2, 1) := by decide +kernel
theorem dX1_wrongOf_119 : decode cX1_wrongOf 119 = .ok (.iaload, 1) := by decide +kernel
theorem dX1_wrongOf_120 : decode cX1_wrongOf 120 = .ok (.iaload, 1) := by decide +kernel
theorem dX1_wrongOf_121 : decode cX1_wrongOf 121 = .ok (.iastore, 1) := by decide +kernel
theorem dX1_wrongOf_122 : decode cX1_wrongOf 122 = .ok (.aload_n 1, 1) := by decide +kernel
theorem dX1_wrongOf_123 : decode cX1_wrongOf 123 = .ok (.getfield 99, 3) := by decide +kernel
theorem dX1_wrongOf_126 : decode cX1_wrongOf 126 = .ok (.aload_n 0, 1) := by decide +kernel
theorem dX1_wrongOf_127 : decode cX1_wrongOf 127 = .ok (.getfield 26, 3) := by decide +kernel
theorem dX1_wrongOf_130 : decode cX1_wrongOf 130 = .ok (.invokevirtual 103, 3) := by decide +kernel
theorem dX1_wrongOf_133 : decode cX1_wrongOf 133 = .ok (.ifCond .eq 7, 3) := by decide +kernel
theorem dX1_wrongOf_136 : decode cX1_wrongOf 136 = .ok (.iconst 0, 1) := by decide +kernel
theorem dX1_wrongOf_137 : decode cX1_wrongOf 137 = .ok (.goto 4, 3) := by decide +kernel
theorem dX1_wrongOf_140 : decode cX1_wrongOf 140 = .ok (.iconst 3, 1) := by decide +kernel
theorem dX1_wrongOf_141 : decode cX1_wrongOf 141 = .ok (.ireturn, 1) := by decide +kernel
theorem dX1_strikeSheets_0 : decode cX1_strikeSheets 0 = .ok (.aload_n 0, 1) := by decide +kernel
theorem dX1_strikeSheets_1 : decode cX1_strikeSheets 1 = .ok (.aload_n 1, 1) := by decide +kernel
theorem dX1_strikeSheets_2 : decode cX1_strikeSheets 2 = .ok (.getfield 107, 3) := by decide +kernel
theorem dX1_strikeSheets_5 : decode cX1_strikeSheets 5 = .ok (.putfield 110, 3) := by decide +kernel
theorem dX1_strikeSheets_8 : decode cX1_strikeSheets 8 = .ok (.iconst 0, 1) := by decide +kernel
theorem dX1_strikeSheets_9 : decode cX1_strikeSheets 9 = .ok (.istore_n 2, 1) := by decide +kernel
theorem dX1_strikeSheets_10 : decode cX1_strikeSheets 10 = .ok (.iload_n 2, 1) := by decide +kernel
theorem dX1_strikeSheets_11 : decode cX1_strikeSheets 11 = .ok (.aload_n 1, 1) := by decide +kernel
theorem dX1_strikeSheets_12 : decode cX1_strikeSheets 12 = .ok (.getfield 113, 3) := by decide +kernel
theorem dX1_strikeSheets_15 : decode cX1_strikeSheets 15 = .ok (.if_icmp .ge 92, 3) := by decide +kernel
theorem dX1_strikeSheets_18 : decode cX1_strikeSheets 18 = .ok (.iconst 0, 1) := by decide +kernel
theorem dX1_strikeSheets_19 : decode cX1_strikeSheets 19 = .ok (.istore_n 3, 1) := by decide +kernel
theorem dX1_strikeSheets_20 : decode cX1_strikeSheets 20 = .ok (.iconst 0, 1) := by decide +kernel
theorem dX1_strikeSheets_21 : decode cX1_strikeSheets 21 = .ok (.istore 4, 2) := by decide +kernel
theorem dX1_strikeSheets_23 : decode cX1_strikeSheets 23 = .ok (.iconst 0, 1) := by decide +kernel
theorem dX1_strikeSheets_24 : decode cX1_strikeSheets 24 = .ok (.istore 5, 2) := by decide +kernel
theorem dX1_strikeSheets_26 : decode cX1_strikeSheets 26 = .ok (.iload 5, 2) := by decide +kernel
theorem dX1_strikeSheets_28 : decode cX1_strikeSheets 28 = .ok (.aload_n 0, 1) := by decide +kernel
theorem dX1_strikeSheets_29 : decode cX1_strikeSheets 29 = .ok (.getfield 47, 3) := by decide +kernel
theorem dX1_strikeSheets_32 : decode cX1_strikeSheets 32 = .ok (.if_icmp .ge 43, 3) := by decide +kernel
theorem dX1_strikeSheets_35 : decode cX1_strikeSheets 35 = .ok (.aload_n 0, 1) := by decide +kernel
theorem dX1_strikeSheets_36 : decode cX1_strikeSheets 36 = .ok (.getfield 29, 3) := by decide +kernel
theorem dX1_strikeSheets_39 : decode cX1_strikeSheets 39 = .ok (.iload 5, 2) := by decide +kernel
theorem dX1_strikeSheets_41 : decode cX1_strikeSheets 41 = .ok (.iaload, 1) := by decide +kernel
theorem dX1_strikeSheets_42 : decode cX1_strikeSheets 42 = .ok (.iload_n 2, 1) := by decide +kernel
theorem dX1_strikeSheets_43 : decode cX1_strikeSheets 43 = .ok (.if_icmp .ne 26, 3) := by decide +kernel
theorem dX1_strikeSheets_46 : decode cX1_strikeSheets 46 = .ok (.iinc 3 1, 3) := by decide +kernel
theorem dX1_strikeSheets_49 : decode cX1_strikeSheets 49 = .ok (.iload 4, 2) := by decide +kernel
theorem dX1_strikeSheets_51 : decode cX1_strikeSheets 51 = .ok (.aload_n 0, 1) := by decide +kernel
theorem dX1_strikeSheets_52 : decode cX1_strikeSheets 52 = .ok (.getfield 15, 3) := by decide +kernel
theorem dX1_strikeSheets_55 : decode cX1_strikeSheets 55 = .ok (.iload 5, 2) := by decide +kernel
theorem dX1_strikeSheets_57 : decode cX1_strikeSheets 57 = .ok (.iaload, 1) := by decide +kernel
theorem dX1_strikeSheets_58 : decode cX1_strikeSheets 58 = .ok (.ifCond .ne 7, 3) := by decide +kernel
theorem dX1_strikeSheets_61 : decode cX1_strikeSheets 61 = .ok (.iconst 0, 1) := by decide +kernel
theorem dX1_strikeSheets_62 : decode cX1_strikeSheets 62 = .ok (.goto 4, 3) := by decide +kernel
theorem dX1_strikeSheets_65 : decode cX1_strikeSheets 65 = .ok (.iconst 1, 1) := by decide +kernel
theorem dX1_strikeSheets_66 : decode cX1_strikeSheets 66 = .ok (.iadd, 1) := by decide +kernel
theorem dX1_strikeSheets_67 : decode cX1_strikeSheets 67 = .ok (.istore 4, 2) := by decide +kernel
theorem dX1_strikeSheets_69 : decode cX1_strikeSheets 69 = .ok (.iinc 5 1, 3) := by decide +kernel
theorem dX1_strikeSheets_72 : decode cX1_strikeSheets 72 = .ok (.goto (-46), 3) := by decide +kernel
theorem dX1_strikeSheets_75 : decode cX1_strikeSheets 75 = .ok (.iload 4, 2) := by decide +kernel
theorem dX1_strikeSheets_77 : decode cX1_strikeSheets 77 = .ok (.bipush 100, 2) := by decide +kernel
theorem dX1_strikeSheets_79 : decode cX1_strikeSheets 79 = .ok (.imul, 1) := by decide +kernel
theorem dX1_strikeSheets_80 : decode cX1_strikeSheets 80 = .ok (.aload_n 1, 1) := by decide +kernel
theorem dX1_strikeSheets_81 : decode cX1_strikeSheets 81 = .ok (.getfield 116, 3) := by decide +kernel
theorem dX1_strikeSheets_84 : decode cX1_strikeSheets 84 = .ok (.iload_n 3, 1) := by decide +kernel
theorem dX1_strikeSheets_85 : decode cX1_strikeSheets 85 = .ok (.imul, 1) := by decide +kernel
theorem dX1_strikeSheets_86 : decode cX1_strikeSheets 86 = .ok (.if_icmp .le 15, 3) := by decide +kernel
theorem dX1_strikeSheets_89 : decode cX1_strikeSheets 89 = .ok (.aload_n 0, 1) := by decide +kernel
theorem dX1_strikeSheets_90 : decode cX1_strikeSheets 90 = .ok (.dup, 1) := by decide +kernel
theorem dX1_strikeSheets_91 : decode cX1_strikeSheets 91 = .ok (.getfield 110, 3) := by decide +kernel
theorem dX1_strikeSheets_94 : decode cX1_strikeSheets 94 = .ok (.iconst 1, 1) := by decide +kernel
theorem dX1_strikeSheets_95 : decode cX1_strikeSheets 95 = .ok (.iload_n 2, 1) := by decide +kernel
theorem dX1_strikeSheets_96 : decode cX1_strikeSheets 96 = .ok (.ishl, 1) := by decide +kernel
theorem dX1_strikeSheets_97 : decode cX1_strikeSheets 97 = .ok (.ior, 1) := by decide +kernel
theorem dX1_strikeSheets_98 : decode cX1_strikeSheets 98 = .ok (.putfield 110, 3) := by decide +kernel
theorem dX1_strikeSheets_101 : decode cX1_strikeSheets 101 = .ok (.iinc 2 1, 3) := by decide +kernel
theorem dX1_strikeSheets_104 : decode cX1_strikeSheets 104 = .ok (.goto (-94), 3) := by decide +kernel
theorem dX1_strikeSheets_107 : decode cX1_strikeSheets 107 = .ok (.return_, 1) := by decide +kernel
theorem dX1_findDoubles_0 : decode cX1_findDoubles 0 = .ok (.aload_n 0, 1) := by decide +kernel
theorem dX1_findDoubles_1 : decode cX1_findDoubles 1 = .ok (.getfield 21, 3) := by decide +kernel
theorem dX1_findDoubles_4 : decode cX1_findDoubles 4 = .ok (.iconst 0, 1) := by decide +kernel
theorem dX1_findDoubles_5 : decode cX1_findDoubles 5 = .ok (.invokestatic 73, 3) := by decide +kernel
theorem dX1_findDoubles_8 : decode cX1_findDoubles 8 = .ok (.iconst 0, 1) := by decide +kernel
theorem dX1_findDoubles_9 : decode cX1_findDoubles 9 = .ok (.istore_n 1, 1) := by decide +kernel
theorem dX1_findDoubles_10 : decode cX1_findDoubles 10 = .ok (.iconst 0, 1) := by decide +kernel
theorem dX1_findDoubles_11 : decode cX1_findDoubles 11 = .ok (.istore_n 2, 1) := by decide +kernel
theorem dX1_findDoubles_12 : decode cX1_findDoubles 12 = .ok (.iload_n 2, 1) := by decide +kernel
theorem dX1_findDoubles_13 : decode cX1_findDoubles 13 = .ok (.aload_n 0, 1) := by decide +kernel
theorem dX1_findDoubles_14 : decode cX1_findDoubles 14 = .ok (.getfield 47, 3) := by decide +kernel
theorem dX1_findDoubles_17 : decode cX1_findDoubles 17 = .ok (.if_icmp .ge 91, 3) := by decide +kernel
theorem dX1_findDoubles_20 : decode cX1_findDoubles 20 = .ok (.aload_n 0, 1) := by decide +kernel
theorem dX1_findDoubles_21 : decode cX1_findDoubles 21 = .ok (.getfield 15, 3) := by decide +kernel
theorem dX1_findDoubles_24 : decode cX1_findDoubles 24 = .ok (.iload_n 2, 1) := by decide +kernel
theorem dX1_findDoubles_25 : decode cX1_findDoubles 25 = .ok (.iaload, 1) := by decide +kernel
theorem dX1_findDoubles_26 : decode cX1_findDoubles 26 = .ok (.ifCond .ne 76, 3) := by decide +kernel
theorem dX1_findDoubles_29 : decode cX1_findDoubles 29 = .ok (.aload_n 0, 1) := by decide +kernel
theorem dX1_findDoubles_30 : decode cX1_findDoubles 30 = .ok (.getfield 29, 3) := by decide +kernel
theorem dX1_findDoubles_33 : decode cX1_findDoubles 33 = .ok (.iload_n 2, 1) := by decide +kernel
theorem dX1_findDoubles_34 : decode cX1_findDoubles 34 = .ok (.iaload, 1) := by decide +kernel
theorem dX1_findDoubles_35 : decode cX1_findDoubles 35 = .ok (.istore_n 3, 1) := by decide +kernel
theorem dX1_findDoubles_36 : decode cX1_findDoubles 36 = .ok (.iconst 1, 1) := by decide +kernel
theorem dX1_findDoubles_37 : decode cX1_findDoubles 37 = .ok (.aload_n 0, 1) := by decide +kernel
theorem dX1_findDoubles_38 : decode cX1_findDoubles 38 = .ok (.getfield 9, 3) := by decide +kernel
theorem dX1_findDoubles_41 : decode cX1_findDoubles 41 = .ok (.iload_n 2, 1) := by decide +kernel
theorem dX1_findDoubles_42 : decode cX1_findDoubles 42 = .ok (.iaload, 1) := by decide +kernel
theorem dX1_findDoubles_43 : decode cX1_findDoubles 43 = .ok (.ishl, 1) := by decide +kernel
theorem dX1_findDoubles_44 : decode cX1_findDoubles 44 = .ok (.istore 4, 2) := by decide +kernel
theorem dX1_findDoubles_46 : decode cX1_findDoubles 46 = .ok (.aload_n 0, 1) := by decide +kernel
theorem dX1_findDoubles_47 : decode cX1_findDoubles 47 = .ok (.getfield 110, 3) := by decide +kernel
theorem dX1_findDoubles_50 : decode cX1_findDoubles 50 = .ok (.iload_n 3, 1) := by decide +kernel
theorem dX1_findDoubles_51 : decode cX1_findDoubles 51 = .ok (.ishr, 1) := by decide +kernel
theorem dX1_findDoubles_52 : decode cX1_findDoubles 52 = .ok (.iconst 1, 1) := by decide +kernel
theorem dX1_findDoubles_53 : decode cX1_findDoubles 53 = .ok (.iand, 1) := by decide +kernel
theorem dX1_findDoubles_54 : decode cX1_findDoubles 54 = .ok (.iconst 1, 1) := by decide +kernel
theorem dX1_findDoubles_55 : decode cX1_findDoubles 55 = .ok (.if_icmp .ne 13, 3) := by decide +kernel
theorem dX1_findDoubles_58 : decode cX1_findDoubles 58 = .ok (.aload_n 0, 1) := by decide +kernel
theorem dX1_findDoubles_59 : decode cX1_findDoubles 59 = .ok (.getfield 15, 3) := by decide +kernel
theorem dX1_findDoubles_62 : decode cX1_findDoubles 62 = .ok (.iload_n 2, 1) := by decide +kernel
theorem dX1_findDoubles_63 : decode cX1_findDoubles 63 = .ok (.iconst 4, 1) := by decide +kernel
theorem dX1_findDoubles_64 : decode cX1_findDoubles 64 = .ok (.iastore, 1) := by decide +kernel
theorem dX1_findDoubles_65 : decode cX1_findDoubles 65 = .ok (.goto 37, 3) := by decide +kernel
theorem dX1_findDoubles_68 : decode cX1_findDoubles 68 = .ok (.aload_n 0, 1) := by decide +kernel
theorem dX1_findDoubles_69 : decode cX1_findDoubles 69 = .ok (.getfield 15, 3) := by decide +kernel
theorem dX1_findDoubles_72 : decode cX1_findDoubles 72 = .ok (.iload_n 2, 1) := by decide +kernel
theorem dX1_findDoubles_73 : decode cX1_findDoubles 73 = .ok (.iload_n 1, 1) := by decide +kernel
theorem dX1_findDoubles_74 : decode cX1_findDoubles 74 = .ok (.iload 4, 2) := by decide +kernel
theorem dX1_findDoubles_76 : decode cX1_findDoubles 76 = .ok (.iand, 1) := by decide +kernel
theorem dX1_findDoubles_77 : decode cX1_findDoubles 77 = .ok (.ifCond .ne 7, 3) := by decide +kernel
theorem dX1_findDoubles_80 : decode cX1_findDoubles 80 = .ok (.iconst 0, 1) := by decide +kernel
theorem dX1_findDoubles_81 : decode cX1_findDoubles 81 = .ok (.goto 4, 3) := by decide +kernel
theorem dX1_findDoubles_84 : decode cX1_findDoubles 84 = .ok (.iconst 5, 1) := by decide +kernel
theorem dX1_findDoubles_85 : decode cX1_findDoubles 85 = .ok (.iastore, 1) := by decide +kernel
theorem dX1_findDoubles_86 : decode cX1_findDoubles 86 = .ok (.iload_n 1, 1) := by decide +kernel
theorem dX1_findDoubles_87 : decode cX1_findDoubles 87 = .ok (.iload 4, 2) := by decide +kernel
theorem dX1_findDoubles_89 : decode cX1_findDoubles 89 = .ok (.ior, 1) := by decide +kernel
theorem dX1_findDoubles_90 : decode cX1_findDoubles 90 = .ok (.istore_n 1, 1) := by decide +kernel
theorem dX1_findDoubles_91 : decode cX1_findDoubles 91 = .ok (.aload_n 0, 1) := by decide +kernel
theorem dX1_findDoubles_92 : decode cX1_findDoubles 92 = .ok (.getfield 21, 3) := by decide +kernel
theorem dX1_findDoubles_95 : decode cX1_findDoubles 95 = .ok (.iload_n 3, 1) := by decide +kernel
theorem dX1_findDoubles_96 : decode cX1_findDoubles 96 = .ok (.dup2, 1) := by decide +kernel
theorem dX1_findDoubles_97 : decode cX1_findDoubles 97 = .ok (.iaload, 1) := by decide +kernel
theorem dX1_findDoubles_98 : decode cX1_findDoubles 98 = .ok (.iload 4, 2) := by decide +kernel
theorem dX1_findDoubles_100 : decode cX1_findDoubles 100 = .ok (.ior, 1) := by decide +kernel
theorem dX1_findDoubles_101 : decode cX1_findDoubles 101 = .ok (.iastore, 1) := by decide +kernel
theorem dX1_findDoubles_102 : decode cX1_findDoubles 102 = .ok (.iinc 2 1, 3) := by decide +kernel
theorem dX1_findDoubles_105 : decode cX1_findDoubles 105 = .ok (.goto (-93), 3) := by decide +kernel
theorem dX1_findDoubles_108 : decode cX1_findDoubles 108 = .ok (.return_, 1) := by decide +kernel
theorem dX1_hasVoter_0 : decode cX1_hasVoter 0 = .ok (.aload_n 0, 1) := by decide +kernel
theorem dX1_hasVoter_1 : decode cX1_hasVoter 1 = .ok (.getfield 9, 3) := by decide +kernel
theorem dX1_hasVoter_4 : decode cX1_hasVoter 4 = .ok (.iload_n 1, 1) := by decide +kernel
theorem dX1_hasVoter_5 : decode cX1_hasVoter 5 = .ok (.iaload, 1) := by decide +kernel
theorem dX1_hasVoter_6 : decode cX1_hasVoter 6 = .ok (.ifCond .lt 18, 3) := by decide +kernel
theorem dX1_hasVoter_9 : decode cX1_hasVoter 9 = .ok (.aload_n 0, 1) := by decide +kernel
theorem dX1_hasVoter_10 : decode cX1_hasVoter 10 = .ok (.getfield 9, 3) := by decide +kernel
theorem dX1_hasVoter_13 : decode cX1_hasVoter 13 = .ok (.iload_n 1, 1) := by decide +kernel
theorem dX1_hasVoter_14 : decode cX1_hasVoter 14 = .ok (.iaload, 1) := by decide +kernel
theorem dX1_hasVoter_15 : decode cX1_hasVoter 15 = .ok (.bipush 16, 2) := by decide +kernel
theorem dX1_hasVoter_17 : decode cX1_hasVoter 17 = .ok (.if_icmp .ge 7, 3) := by decide +kernel
theorem dX1_hasVoter_20 : decode cX1_hasVoter 20 = .ok (.iconst 1, 1) := by decide +kernel
theorem dX1_hasVoter_21 : decode cX1_hasVoter 21 = .ok (.goto 4, 3) := by decide +kernel
theorem dX1_hasVoter_24 : decode cX1_hasVoter 24 = .ok (.iconst 0, 1) := by decide +kernel
theorem dX1_hasVoter_25 : decode cX1_hasVoter 25 = .ok (.ireturn, 1) := by decide +kernel
theorem dX1_isGood_0 : decode cX1_isGood 0 = .ok (.aload_n 0, 1) := by decide +kernel
theorem dX1_isGood_1 : decode cX1_isGood 1 = .ok (.getfield 15, 3) := by decide +kernel
theorem dX1_isGood_4 : decode cX1_isGood 4 = .ok (.iload_n 1, 1) := by decide +kernel
theorem dX1_isGood_5 : decode cX1_isGood 5 = .ok (.iaload, 1) := by decide +kernel
theorem dX1_isGood_6 : decode cX1_isGood 6 = .ok (.ifCond .eq 13, 3) := by decide +kernel
theorem dX1_isGood_9 : decode cX1_isGood 9 = .ok (.aload_n 0, 1) := by decide +kernel
theorem dX1_isGood_10 : decode cX1_isGood 10 = .ok (.getfield 15, 3) := by decide +kernel
theorem dX1_isGood_13 : decode cX1_isGood 13 = .ok (.iload_n 1, 1) := by decide +kernel
theorem dX1_isGood_14 : decode cX1_isGood 14 = .ok (.iaload, 1) := by decide +kernel
theorem dX1_isGood_15 : decode cX1_isGood 15 = .ok (.iconst 5, 1) := by decide +kernel
theorem dX1_isGood_16 : decode cX1_isGood 16 = .ok (.if_icmp .ne 7, 3) := by decide +kernel
theorem dX1_isGood_19 : decode cX1_isGood 19 = .ok (.iconst 1, 1) := by decide +kernel
theorem dX1_isGood_20 : decode cX1_isGood 20 = .ok (.goto 4, 3) := by decide +kernel
theorem dX1_isGood_23 : decode cX1_isGood 23 = .ok (.iconst 0, 1) := by decide +kernel
theorem dX1_isGood_24 : decode cX1_isGood 24 = .ok (.ireturn, 1) := by decide +kernel
theorem dX1_isGoodIn_0 : decode cX1_isGoodIn 0 = .ok (.lload_n 1, 1) := by decide +kernel
theorem dX1_isGoodIn_1 : decode cX1_isGoodIn 1 = .ok (.iload_n 3, 1) := by decide +kernel
theorem dX1_isGoodIn_2 : decode cX1_isGoodIn 2 = .ok (.lshr, 1) := by decide +kernel
theorem dX1_isGoodIn_3 : decode cX1_isGoodIn 3 = .ok (.lconst 1, 1) := by decide +kernel
theorem dX1_isGoodIn_4 : decode cX1_isGoodIn 4 = .ok (.land, 1) := by decide +kernel
theorem dX1_isGoodIn_5 : decode cX1_isGoodIn 5 = .ok (.lconst 1, 1) := by decide +kernel
theorem dX1_isGoodIn_6 : decode cX1_isGoodIn 6 = .ok (.lcmp, 1) := by decide +kernel
theorem dX1_isGoodIn_7 : decode cX1_isGoodIn 7 = .ok (.ifCond .ne 23, 3) := by decide +kernel
theorem dX1_isGoodIn_10 : decode cX1_isGoodIn 10 = .ok (.aload_n 0, 1) := by decide +kernel
theorem dX1_isGoodIn_11 : decode cX1_isGoodIn 11 = .ok (.iload_n 3, 1) := by decide +kernel
theorem dX1_isGoodIn_12 : decode cX1_isGoodIn 12 = .ok (.invokevirtual 119, 3) := by decide +kernel
theorem dX1_isGoodIn_15 : decode cX1_isGoodIn 15 = .ok (.ifCond .eq 15, 3) := by decide +kernel
theorem dX1_isGoodIn_18 : decode cX1_isGoodIn 18 = .ok (.aload_n 0, 1) := by decide +kernel
theorem dX1_isGoodIn_19 : decode cX1_isGoodIn 19 = .ok (.iload_n 3, 1) := by decide +kernel
theorem dX1_isGoodIn_20 : decode cX1_isGoodIn 20 = .ok (.invokevirtual 83, 3) := by decide +kernel
theorem dX1_isGoodIn_23 : decode cX1_isGoodIn 23 = .ok (.ifCond .eq 7, 3) := by decide +kernel
theorem dX1_isGoodIn_26 : decode cX1_isGoodIn 26 = .ok (.iconst 1, 1) := by decide +kernel
theorem dX1_isGoodIn_27 : decode cX1_isGoodIn 27 = .ok (.goto 4, 3) := by decide +kernel
theorem dX1_isGoodIn_30 : decode cX1_isGoodIn 30 = .ok (.iconst 0, 1) := by decide +kernel
theorem dX1_isGoodIn_31 : decode cX1_isGoodIn 31 = .ok (.ireturn, 1) := by decide +kernel
theorem dX1_countJudged_0 : decode cX1_countJudged 0 = .ok (.iconst 0, 1) := by decide +kernel
theorem dX1_countJudged_1 : decode cX1_countJudged 1 = .ok (.istore 4, 2) := by decide +kernel
theorem dX1_countJudged_3 : decode cX1_countJudged 3 = .ok (.iconst 0, 1) := by decide +kernel
theorem dX1_countJudged_4 : decode cX1_countJudged 4 = .ok (.iload_n 2, 1) := by decide +kernel
theorem dX1_countJudged_5 : decode cX1_countJudged 5 = .ok (.invokestatic 44, 3) := by decide +kernel
theorem dX1_countJudged_8 : decode cX1_countJudged 8 = .ok (.istore 5, 2) := by decide +kernel
theorem dX1_countJudged_10 : decode cX1_countJudged 10 = .ok (.iload 5, 2) := by decide +kernel
theorem dX1_countJudged_12 : decode cX1_countJudged 12 = .ok (.iload_n 3, 1) := by decide +kernel
theorem dX1_countJudged_13 : decode cX1_countJudged 13 = .ok (.if_icmp .ge 39, 3) := by decide +kernel
theorem dX1_countJudged_16 : decode cX1_countJudged 16 = .ok (.iload 5, 2) := by decide +kernel
theorem dX1_countJudged_18 : decode cX1_countJudged 18 = .ok (.aload_n 0, 1) := by decide +kernel
theorem dX1_countJudged_19 : decode cX1_countJudged 19 = .ok (.getfield 47, 3) := by decide +kernel
theorem dX1_countJudged_22 : decode cX1_countJudged 22 = .ok (.if_icmp .ge 30, 3) := by decide +kernel
theorem dX1_countJudged_25 : decode cX1_countJudged 25 = .ok (.iload 4, 2) := by decide +kernel
theorem dX1_countJudged_27 : decode cX1_countJudged 27 = .ok (.aload_n 0, 1) := by decide +kernel
theorem dX1_countJudged_28 : decode cX1_countJudged 28 = .ok (.getfield 15, 3) := by decide +kernel
theorem dX1_countJudged_31 : decode cX1_countJudged 31 = .ok (.iload 5, 2) := by decide +kernel
theorem dX1_countJudged_33 : decode cX1_countJudged 33 = .ok (.iaload, 1) := by decide +kernel
theorem dX1_countJudged_34 : decode cX1_countJudged 34 = .ok (.iload_n 1, 1) := by decide +kernel
theorem dX1_countJudged_35 : decode cX1_countJudged 35 = .ok (.if_icmp .ne 7, 3) := by decide +kernel
theorem dX1_countJudged_38 : decode cX1_countJudged 38 = .ok (.iconst 1, 1) := by decide +kernel
theorem dX1_countJudged_39 : decode cX1_countJudged 39 = .ok (.goto 4, 3) := by decide +kernel
theorem dX1_countJudged_42 : decode cX1_countJudged 42 = .ok (.iconst 0, 1) := by decide +kernel
theorem dX1_countJudged_43 : decode cX1_countJudged 43 = .ok (.iadd, 1) := by decide +kernel
theorem dX1_countJudged_44 : decode cX1_countJudged 44 = .ok (.istore 4, 2) := by decide +kernel
theorem dX1_countJudged_46 : decode cX1_countJudged 46 = .ok (.iinc 5 1, 3) := by decide +kernel
theorem dX1_countJudged_49 : decode cX1_countJudged 49 = .ok (.goto (-39), 3) := by decide +kernel
theorem dX1_countJudged_52 : decode cX1_countJudged 52 = .ok (.iload 4, 2) := by decide +kernel
theorem dX1_countJudged_54 : decode cX1_countJudged 54 = .ok (.ireturn, 1) := by decide +kernel
theorem dX1_linesOf_0 : decode cX1_linesOf 0 = .ok (.iconst 0, 1) := by decide +kernel
theorem dX1_linesOf_1 : decode cX1_linesOf 1 = .ok (.istore_n 2, 1) := by decide +kernel
theorem dX1_linesOf_2 : decode cX1_linesOf 2 = .ok (.iconst 0, 1) := by decide +kernel
theorem dX1_linesOf_3 : decode cX1_linesOf 3 = .ok (.istore_n 3, 1) := by decide +kernel
theorem dX1_linesOf_4 : decode cX1_linesOf 4 = .ok (.iload_n 3, 1) := by decide +kernel
theorem dX1_linesOf_5 : decode cX1_linesOf 5 = .ok (.aload_n 0, 1) := by decide +kernel
theorem dX1_linesOf_6 : decode cX1_linesOf 6 = .ok (.getfield 47, 3) := by decide +kernel
theorem dX1_linesOf_9 : decode cX1_linesOf 9 = .ok (.if_icmp .ge 27, 3) := by decide +kernel
theorem dX1_linesOf_12 : decode cX1_linesOf 12 = .ok (.iload_n 2, 1) := by decide +kernel
theorem dX1_linesOf_13 : decode cX1_linesOf 13 = .ok (.aload_n 0, 1) := by decide +kernel
theorem dX1_linesOf_14 : decode cX1_linesOf 14 = .ok (.getfield 9, 3) := by decide +kernel
theorem dX1_linesOf_17 : decode cX1_linesOf 17 = .ok (.iload_n 3, 1) := by decide +kernel
theorem dX1_linesOf_18 : decode cX1_linesOf 18 = .ok (.iaload, 1) := by decide +kernel
theorem dX1_linesOf_19 : decode cX1_linesOf 19 = .ok (.iload_n 1, 1) := by decide +kernel
theorem dX1_linesOf_20 : decode cX1_linesOf 20 = .ok (.if_icmp .ne 7, 3) := by decide +kernel
theorem dX1_linesOf_23 : decode cX1_linesOf 23 = .ok (.iconst 1, 1) := by decide +kernel
theorem dX1_linesOf_24 : decode cX1_linesOf 24 = .ok (.goto 4, 3) := by decide +kernel
theorem dX1_linesOf_27 : decode cX1_linesOf 27 = .ok (.iconst 0, 1) := by decide +kernel
theorem dX1_linesOf_28 : decode cX1_linesOf 28 = .ok (.iadd, 1) := by decide +kernel
theorem dX1_linesOf_29 : decode cX1_linesOf 29 = .ok (.istore_n 2, 1) := by decide +kernel
theorem dX1_linesOf_30 : decode cX1_linesOf 30 = .ok (.iinc 3 1, 3) := by decide +kernel
theorem dX1_linesOf_33 : decode cX1_linesOf 33 = .ok (.goto (-29), 3) := by decide +kernel
theorem dX1_linesOf_36 : decode cX1_linesOf 36 = .ok (.iload_n 2, 1) := by decide +kernel
theorem dX1_linesOf_37 : decode cX1_linesOf 37 = .ok (.ireturn, 1) := by decide +kernel
theorem dX1_trueLinesOf_0 : decode cX1_trueLinesOf 0 = .ok (.iconst 0, 1) := by decide +kernel
theorem dX1_trueLinesOf_1 : decode cX1_trueLinesOf 1 = .ok (.istore_n 2, 1) := by decide +kernel
theorem dX1_trueLinesOf_2 : decode cX1_trueLinesOf 2 = .ok (.iconst 0, 1) := by decide +kernel
theorem dX1_trueLinesOf_3 : decode cX1_trueLinesOf 3 = .ok (.istore_n 3, 1) := by decide +kernel
theorem dX1_trueLinesOf_4 : decode cX1_trueLinesOf 4 = .ok (.iload_n 3, 1) := by decide +kernel
theorem dX1_trueLinesOf_5 : decode cX1_trueLinesOf 5 = .ok (.aload_n 0, 1) := by decide +kernel
theorem dX1_trueLinesOf_6 : decode cX1_trueLinesOf 6 = .ok (.getfield 47, 3) := by decide +kernel
theorem dX1_trueLinesOf_9 : decode cX1_trueLinesOf 9 = .ok (.if_icmp .ge 36, 3) := by decide +kernel
theorem dX1_trueLinesOf_12 : decode cX1_trueLinesOf 12 = .ok (.iload_n 2, 1) := by decide +kernel
theorem dX1_trueLinesOf_13 : decode cX1_trueLinesOf 13 = .ok (.aload_n 0, 1) := by decide +kernel
theorem dX1_trueLinesOf_14 : decode cX1_trueLinesOf 14 = .ok (.getfield 9, 3) := by decide +kernel
theorem dX1_trueLinesOf_17 : decode cX1_trueLinesOf 17 = .ok (.iload_n 3, 1) := by decide +kernel
theorem dX1_trueLinesOf_18 : decode cX1_trueLinesOf 18 = .ok (.iaload, 1) := by decide +kernel
theorem dX1_trueLinesOf_19 : decode cX1_trueLinesOf 19 = .ok (.iload_n 1, 1) := by decide +kernel
theorem dX1_trueLinesOf_20 : decode cX1_trueLinesOf 20 = .ok (.if_icmp .ne 16, 3) := by decide +kernel
theorem dX1_trueLinesOf_23 : decode cX1_trueLinesOf 23 = .ok (.aload_n 0, 1) := by decide +kernel
theorem dX1_trueLinesOf_24 : decode cX1_trueLinesOf 24 = .ok (.getfield 15, 3) := by decide +kernel
theorem dX1_trueLinesOf_27 : decode cX1_trueLinesOf 27 = .ok (.iload_n 3, 1) := by decide +kernel
theorem dX1_trueLinesOf_28 : decode cX1_trueLinesOf 28 = .ok (.iaload, 1) := by decide +kernel
theorem dX1_trueLinesOf_29 : decode cX1_trueLinesOf 29 = .ok (.ifCond .ne 7, 3) := by decide +kernel
theorem dX1_trueLinesOf_32 : decode cX1_trueLinesOf 32 = .ok (.iconst 1, 1) := by decide +kernel
theorem dX1_trueLinesOf_33 : decode cX1_trueLinesOf 33 = .ok (.goto 4, 3) := by decide +kernel
theorem dX1_trueLinesOf_36 : decode cX1_trueLinesOf 36 = .ok (.iconst 0, 1) := by decide +kernel
theorem dX1_trueLinesOf_37 : decode cX1_trueLinesOf 37 = .ok (.iadd, 1) := by decide +kernel
theorem dX1_trueLinesOf_38 : decode cX1_trueLinesOf 38 = .ok (.istore_n 2, 1) := by decide +kernel
theorem dX1_trueLinesOf_39 : decode cX1_trueLinesOf 39 = .ok (.iinc 3 1, 3) := by decide +kernel
theorem dX1_trueLinesOf_42 : decode cX1_trueLinesOf 42 = .ok (.goto (-38), 3) := by decide +kernel
theorem dX1_trueLinesOf_45 : decode cX1_trueLinesOf 45 = .ok (.iload_n 2, 1) := by decide +kernel
theorem dX1_trueLinesOf_46 : decode cX1_trueLinesOf 46 = .ok (.ireturn, 1) := by decide +kernel
theorem dX1_goodIn_0 : decode cX1_goodIn 0 = .ok (.iconst 0, 1) := by decide +kernel
theorem dX1_goodIn_1 : decode cX1_goodIn 1 = .ok (.istore_n 3, 1) := by decide +kernel
theorem dX1_goodIn_2 : decode cX1_goodIn 2 = .ok (.iconst 0, 1) := by decide +kernel
theorem dX1_goodIn_3 : decode cX1_goodIn 3 = .ok (.istore 4, 2) := by decide +kernel
theorem dX1_goodIn_5 : decode cX1_goodIn 5 = .ok (.iload 4, 2) := by decide +kernel
theorem dX1_goodIn_7 : decode cX1_goodIn 7 = .ok (.aload_n 0, 1) := by decide +kernel
theorem dX1_goodIn_8 : decode cX1_goodIn 8 = .ok (.getfield 47, 3) := by decide +kernel
theorem dX1_goodIn_11 : decode cX1_goodIn 11 = .ok (.if_icmp .ge 27, 3) := by decide +kernel
theorem dX1_goodIn_14 : decode cX1_goodIn 14 = .ok (.iload_n 3, 1) := by decide +kernel
theorem dX1_goodIn_15 : decode cX1_goodIn 15 = .ok (.aload_n 0, 1) := by decide +kernel
theorem dX1_goodIn_16 : decode cX1_goodIn 16 = .ok (.lload_n 1, 1) := by decide +kernel
theorem dX1_goodIn_17 : decode cX1_goodIn 17 = .ok (.iload 4, 2) := by decide +kernel
theorem dX1_goodIn_19 : decode cX1_goodIn 19 = .ok (.invokevirtual 122, 3) := by decide +kernel
theorem dX1_goodIn_22 : decode cX1_goodIn 22 = .ok (.ifCond .eq 7, 3) := by decide +kernel
theorem dX1_goodIn_25 : decode cX1_goodIn 25 = .ok (.iconst 1, 1) := by decide +kernel
theorem dX1_goodIn_26 : decode cX1_goodIn 26 = .ok (.goto 4, 3) := by decide +kernel
theorem dX1_goodIn_29 : decode cX1_goodIn 29 = .ok (.iconst 0, 1) := by decide +kernel
theorem dX1_goodIn_30 : decode cX1_goodIn 30 = .ok (.iadd, 1) := by decide +kernel
theorem dX1_goodIn_31 : decode cX1_goodIn 31 = .ok (.istore_n 3, 1) := by decide +kernel
theorem dX1_goodIn_32 : decode cX1_goodIn 32 = .ok (.iinc 4 1, 3) := by decide +kernel
theorem dX1_goodIn_35 : decode cX1_goodIn 35 = .ok (.goto (-30), 3) := by decide +kernel
theorem dX1_goodIn_38 : decode cX1_goodIn 38 = .ok (.iload_n 3, 1) := by decide +kernel
theorem dX1_goodIn_39 : decode cX1_goodIn 39 = .ok (.ireturn, 1) := by decide +kernel
theorem dX1_tallyGood_0 : decode cX1_tallyGood 0 = .ok (.aload_n 0, 1) := by decide +kernel
theorem dX1_tallyGood_1 : decode cX1_tallyGood 1 = .ok (.getfield 18, 3) := by decide +kernel
theorem dX1_tallyGood_4 : decode cX1_tallyGood 4 = .ok (.iconst 0, 1) := by decide +kernel
theorem dX1_tallyGood_5 : decode cX1_tallyGood 5 = .ok (.invokestatic 73, 3) := by decide +kernel
theorem dX1_tallyGood_8 : decode cX1_tallyGood 8 = .ok (.iconst 0, 1) := by decide +kernel
theorem dX1_tallyGood_9 : decode cX1_tallyGood 9 = .ok (.istore_n 3, 1) := by decide +kernel
theorem dX1_tallyGood_10 : decode cX1_tallyGood 10 = .ok (.iload_n 3, 1) := by decide +kernel
theorem dX1_tallyGood_11 : decode cX1_tallyGood 11 = .ok (.aload_n 0, 1) := by decide +kernel
theorem dX1_tallyGood_12 : decode cX1_tallyGood 12 = .ok (.getfield 47, 3) := by decide +kernel
theorem dX1_tallyGood_15 : decode cX1_tallyGood 15 = .ok (.if_icmp .ge 33, 3) := by decide +kernel
theorem dX1_tallyGood_18 : decode cX1_tallyGood 18 = .ok (.aload_n 0, 1) := by decide +kernel
theorem dX1_tallyGood_19 : decode cX1_tallyGood 19 = .ok (.lload_n 1, 1) := by decide +kernel
theorem dX1_tallyGood_20 : decode cX1_tallyGood 20 = .ok (.iload_n 3, 1) := by decide +kernel
theorem dX1_tallyGood_21 : decode cX1_tallyGood 21 = .ok (.invokevirtual 122, 3) := by decide +kernel
theorem dX1_tallyGood_24 : decode cX1_tallyGood 24 = .ok (.ifCond .eq 18, 3) := by decide +kernel
theorem dX1_tallyGood_27 : decode cX1_tallyGood 27 = .ok (.aload_n 0, 1) := by decide +kernel
theorem dX1_tallyGood_28 : decode cX1_tallyGood 28 = .ok (.getfield 18, 3) := by decide +kernel
theorem dX1_tallyGood_31 : decode cX1_tallyGood 31 = .ok (.aload_n 0, 1) := by decide +kernel
theorem dX1_tallyGood_32 : decode cX1_tallyGood 32 = .ok (.getfield 9, 3) := by decide +kernel
theorem dX1_tallyGood_35 : decode cX1_tallyGood 35 = .ok (.iload_n 3, 1) := by decide +kernel
theorem dX1_tallyGood_36 : decode cX1_tallyGood 36 = .ok (.iaload, 1) := by decide +kernel
theorem dX1_tallyGood_37 : decode cX1_tallyGood 37 = .ok (.dup2, 1) := by decide +kernel
theorem dX1_tallyGood_38 : decode cX1_tallyGood 38 = .ok (.iaload, 1) := by decide +kernel
theorem dX1_tallyGood_39 : decode cX1_tallyGood 39 = .ok (.iconst 1, 1) := by decide +kernel
theorem dX1_tallyGood_40 : decode cX1_tallyGood 40 = .ok (.iadd, 1) := by decide +kernel
theorem dX1_tallyGood_41 : decode cX1_tallyGood 41 = .ok (.iastore, 1) := by decide +kernel
theorem dX1_tallyGood_42 : decode cX1_tallyGood 42 = .ok (.iinc 3 1, 3) := by decide +kernel
theorem dX1_tallyGood_45 : decode cX1_tallyGood 45 = .ok (.goto (-35), 3) := by decide +kernel
theorem dX1_tallyGood_48 : decode cX1_tallyGood 48 = .ok (.return_, 1) := by decide +kernel
theorem dX1_pairsIn_0 : decode cX1_pairsIn 0 = .ok (.aload_n 0, 1) := by decide +kernel
theorem dX1_pairsIn_1 : decode cX1_pairsIn 1 = .ok (.lload_n 1, 1) := by decide +kernel
theorem dX1_pairsIn_2 : decode cX1_pairsIn 2 = .ok (.invokevirtual 126, 3) := by decide +kernel
theorem dX1_pairsIn_5 : decode cX1_pairsIn 5 = .ok (.iconst 0, 1) := by decide +kernel
theorem dX1_pairsIn_6 : decode cX1_pairsIn 6 = .ok (.istore_n 3, 1) := by decide +kernel
theorem dX1_pairsIn_7 : decode cX1_pairsIn 7 = .ok (.iconst 0, 1) := by decide +kernel
theorem dX1_pairsIn_8 : decode cX1_pairsIn 8 = .ok (.istore 4, 2) := by decide +kernel
theorem dX1_pairsIn_10 : decode cX1_pairsIn 10 = .ok (.iload 4, 2) := by decide +kernel
theorem dX1_pairsIn_12 : decode cX1_pairsIn 12 = .ok (.bipush 16, 2) := by decide +kernel
theorem dX1_pairsIn_14 : decode cX1_pairsIn 14 = .ok (.if_icmp .ge 31, 3) := by decide +kernel
theorem dX1_pairsIn_17 : decode cX1_pairsIn 17 = .ok (.iload_n 3, 1) := by decide +kernel
theorem dX1_pairsIn_18 : decode cX1_pairsIn 18 = .ok (.aload_n 0, 1) := by decide +kernel
theorem dX1_pairsIn_19 : decode cX1_pairsIn 19 = .ok (.getfield 18, 3) := by decide +kernel
theorem dX1_pairsIn_22 : decode cX1_pairsIn 22 = .ok (.iload 4, 2) := by decide +kernel
theorem dX1_pairsIn_24 : decode cX1_pairsIn 24 = .ok (.iaload, 1) := by decide +kernel
theorem dX1_pairsIn_25 : decode cX1_pairsIn 25 = .ok (.aload_n 0, 1) := by decide +kernel
theorem dX1_pairsIn_26 : decode cX1_pairsIn 26 = .ok (.getfield 18, 3) := by decide +kernel
theorem dX1_pairsIn_29 : decode cX1_pairsIn 29 = .ok (.iload 4, 2) := by decide +kernel
theorem dX1_pairsIn_31 : decode cX1_pairsIn 31 = .ok (.iaload, 1) := by decide +kernel
theorem dX1_pairsIn_32 : decode cX1_pairsIn 32 = .ok (.iconst 1, 1) := by decide +kernel
theorem dX1_pairsIn_33 : decode cX1_pairsIn 33 = .ok (.isub, 1) := by decide +kernel
theorem dX1_pairsIn_34 : decode cX1_pairsIn 34 = .ok (.imul, 1) := by decide +kernel
theorem dX1_pairsIn_35 : decode cX1_pairsIn 35 = .ok (.iconst 2, 1) := by decide +kernel
theorem dX1_pairsIn_36 : decode cX1_pairsIn 36 = .ok (.idiv, 1) := by decide +kernel
theorem dX1_pairsIn_37 : decode cX1_pairsIn 37 = .ok (.iadd, 1) := by decide +kernel
theorem dX1_pairsIn_38 : decode cX1_pairsIn 38 = .ok (.istore_n 3, 1) := by decide +kernel
theorem dX1_pairsIn_39 : decode cX1_pairsIn 39 = .ok (.iinc 4 1, 3) := by decide +kernel
theorem dX1_pairsIn_42 : decode cX1_pairsIn 42 = .ok (.goto (-32), 3) := by decide +kernel
theorem dX1_pairsIn_45 : decode cX1_pairsIn 45 = .ok (.iload_n 3, 1) := by decide +kernel
theorem dX1_pairsIn_46 : decode cX1_pairsIn 46 = .ok (.ireturn, 1) := by decide +kernel
theorem dX1_votersIn_0 : decode cX1_votersIn 0 = .ok (.iconst 0, 1) := by decide +kernel
theorem dX1_votersIn_1 : decode cX1_votersIn 1 = .ok (.istore_n 3, 1) := by decide +kernel
theorem dX1_votersIn_2 : decode cX1_votersIn 2 = .ok (.iconst 0, 1) := by decide +kernel
theorem dX1_votersIn_3 : decode cX1_votersIn 3 = .ok (.istore 4, 2) := by decide +kernel
theorem dX1_votersIn_5 : decode cX1_votersIn 5 = .ok (.iload 4, 2) := by decide +kernel
theorem dX1_votersIn_7 : decode cX1_votersIn 7 = .ok (.aload_n 0, 1) := by decide +kernel
theorem dX1_votersIn_8 : decode cX1_votersIn 8 = .ok (.getfield 47, 3) := by decide +kernel
theorem dX1_votersIn_11 : decode cX1_votersIn 11 = .ok (.if_icmp .ge 35, 3) := by decide +kernel
theorem dX1_votersIn_14 : decode cX1_votersIn 14 = .ok (.iload_n 3, 1) := by decide +kernel
theorem dX1_votersIn_15 : decode cX1_votersIn 15 = .ok (.aload_n 0, 1) := by decide +kernel
theorem dX1_votersIn_16 : decode cX1_votersIn 16 = .ok (.lload_n 1, 1) := by decide +kernel
theorem dX1_votersIn_17 : decode cX1_votersIn 17 = .ok (.iload 4, 2) := by decide +kernel
theorem dX1_votersIn_19 : decode cX1_votersIn 19 = .ok (.invokevirtual 122, 3) := by decide +kernel
theorem dX1_votersIn_22 : decode cX1_votersIn 22 = .ok (.ifCond .eq 15, 3) := by decide +kernel
theorem dX1_votersIn_25 : decode cX1_votersIn 25 = .ok (.iconst 1, 1) := by decide +kernel
theorem dX1_votersIn_26 : decode cX1_votersIn 26 = .ok (.aload_n 0, 1) := by decide +kernel
theorem dX1_votersIn_27 : decode cX1_votersIn 27 = .ok (.getfield 9, 3) := by decide +kernel
theorem dX1_votersIn_30 : decode cX1_votersIn 30 = .ok (.iload 4, 2) := by decide +kernel
theorem dX1_votersIn_32 : decode cX1_votersIn 32 = .ok (.iaload, 1) := by decide +kernel
theorem dX1_votersIn_33 : decode cX1_votersIn 33 = .ok (.ishl, 1) := by decide +kernel
theorem dX1_votersIn_34 : decode cX1_votersIn 34 = .ok (.goto 4, 3) := by decide +kernel
theorem dX1_votersIn_37 : decode cX1_votersIn 37 = .ok (.iconst 0, 1) := by decide +kernel
theorem dX1_votersIn_38 : decode cX1_votersIn 38 = .ok (.ior, 1) := by decide +kernel
theorem dX1_votersIn_39 : decode cX1_votersIn 39 = .ok (.istore_n 3, 1) := by decide +kernel
theorem dX1_votersIn_40 : decode cX1_votersIn 40 = .ok (.iinc 4 1, 3) := by decide +kernel
theorem dX1_votersIn_43 : decode cX1_votersIn 43 = .ok (.goto (-38), 3) := by decide +kernel
theorem dX1_votersIn_46 : decode cX1_votersIn 46 = .ok (.iload_n 3, 1) := by decide +kernel
theorem dX1_votersIn_47 : decode cX1_votersIn 47 = .ok (.ireturn, 1) := by decide +kernel
theorem dX1_trueWithout_0 : decode cX1_trueWithout 0 = .ok (.iconst 0, 1) := by decide +kernel
theorem dX1_trueWithout_1 : decode cX1_trueWithout 1 = .ok (.istore_n 2, 1) := by decide +kernel
theorem dX1_trueWithout_2 : decode cX1_trueWithout 2 = .ok (.iconst 0, 1) := by decide +kernel
theorem dX1_trueWithout_3 : decode cX1_trueWithout 3 = .ok (.istore_n 3, 1) := by decide +kernel
theorem dX1_trueWithout_4 : decode cX1_trueWithout 4 = .ok (.iload_n 3, 1) := by decide +kernel
theorem dX1_trueWithout_5 : decode cX1_trueWithout 5 = .ok (.bipush 8, 2) := by decide +kernel
theorem dX1_trueWithout_7 : decode cX1_trueWithout 7 = .ok (.if_icmp .ge 30, 3) := by decide +kernel
theorem dX1_trueWithout_10 : decode cX1_trueWithout 10 = .ok (.iload_n 2, 1) := by decide +kernel
theorem dX1_trueWithout_11 : decode cX1_trueWithout 11 = .ok (.iload_n 1, 1) := by decide +kernel
theorem dX1_trueWithout_12 : decode cX1_trueWithout 12 = .ok (.iload_n 3, 1) := by decide +kernel
theorem dX1_trueWithout_13 : decode cX1_trueWithout 13 = .ok (.ishr, 1) := by decide +kernel
theorem dX1_trueWithout_14 : decode cX1_trueWithout 14 = .ok (.iconst 1, 1) := by decide +kernel
theorem dX1_trueWithout_15 : decode cX1_trueWithout 15 = .ok (.iand, 1) := by decide +kernel
theorem dX1_trueWithout_16 : decode cX1_trueWithout 16 = .ok (.ifCond .ne 12, 3) := by decide +kernel
theorem dX1_trueWithout_19 : decode cX1_trueWithout 19 = .ok (.aload_n 0, 1) := by decide +kernel
theorem dX1_trueWithout_20 : decode cX1_trueWithout 20 = .ok (.getfield 21, 3) := by decide +kernel
theorem dX1_trueWithout_23 : decode cX1_trueWithout 23 = .ok (.iload_n 3, 1) := by decide +kernel
theorem dX1_trueWithout_24 : decode cX1_trueWithout 24 = .ok (.iaload, 1) := by decide +kernel
theorem dX1_trueWithout_25 : decode cX1_trueWithout 25 = .ok (.goto 4, 3) := by decide +kernel
theorem dX1_trueWithout_28 : decode cX1_trueWithout 28 = .ok (.iconst 0, 1) := by decide +kernel
theorem dX1_trueWithout_29 : decode cX1_trueWithout 29 = .ok (.ior, 1) := by decide +kernel
theorem dX1_trueWithout_30 : decode cX1_trueWithout 30 = .ok (.istore_n 2, 1) := by decide +kernel
theorem dX1_trueWithout_31 : decode cX1_trueWithout 31 = .ok (.iinc 3 1, 3) := by decide +kernel
theorem dX1_trueWithout_34 : decode cX1_trueWithout 34 = .ok (.goto (-30), 3) := by decide +kernel
theorem dX1_trueWithout_37 : decode cX1_trueWithout 37 = .ok (.iload_n 2, 1) := by decide +kernel
theorem dX1_trueWithout_38 : decode cX1_trueWithout 38 = .ok (.invokestatic 130, 3) := by decide +kernel
theorem dX1_trueWithout_41 : decode cX1_trueWithout 41 = .ok (.ireturn, 1) := by decide +kernel
theorem dX2_withLetter_0 : decode cX2_withLetter 0 = .ok (.iload_n 0, 1) := by decide +kernel
theorem dX2_withLetter_1 : decode cX2_withLetter 1 = .ok (.iload_n 2, 1) := by decide +kernel
theorem dX2_withLetter_2 : decode cX2_withLetter 2 = .ok (.bipush 96, 2) := by decide +kernel
theorem dX2_withLetter_4 : decode cX2_withLetter 4 = .ok (.isub, 1) := by decide +kernel
theorem dX2_withLetter_5 : decode cX2_withLetter 5 = .ok (.iconst 5, 1) := by decide +kernel
theorem dX2_withLetter_6 : decode cX2_withLetter 6 = .ok (.iload_n 1, 1) := by decide +kernel
theorem dX2_withLetter_7 : decode cX2_withLetter 7 = .ok (.imul, 1) := by decide +kernel
theorem dX2_withLetter_8 : decode cX2_withLetter 8 = .ok (.ishl, 1) := by decide +kernel
theorem dX2_withLetter_9 : decode cX2_withLetter 9 = .ok (.ior, 1) := by decide +kernel
theorem dX2_withLetter_10 : decode cX2_withLetter 10 = .ok (.ireturn, 1) := by decide +kernel
theorem dX2_letterAt_0 : decode cX2_letterAt 0 = .ok (.iload_n 0, 1) := by decide +kernel
theorem dX2_letterAt_1 : decode cX2_letterAt 1 = .ok (.iconst 5, 1) := by decide +kernel
theorem dX2_letterAt_2 : decode cX2_letterAt 2 = .ok (.iload_n 1, 1) := by decide +kernel
theorem dX2_letterAt_3 : decode cX2_letterAt 3 = .ok (.imul, 1) := by decide +kernel
theorem dX2_letterAt_4 : decode cX2_letterAt 4 = .ok (.ishr, 1) := by decide +kernel
theorem dX2_letterAt_5 : decode cX2_letterAt 5 = .ok (.bipush 31, 2) := by decide +kernel
theorem dX2_letterAt_7 : decode cX2_letterAt 7 = .ok (.iand, 1) := by decide +kernel
theorem dX2_letterAt_8 : decode cX2_letterAt 8 = .ok (.bipush 96, 2) := by decide +kernel
theorem dX2_letterAt_10 : decode cX2_letterAt 10 = .ok (.iadd, 1) := by decide +kernel
theorem dX2_letterAt_11 : decode cX2_letterAt 11 = .ok (.ireturn, 1) := by decide +kernel
theorem dX2_length_0 : decode cX2_length 0 = .ok (.iconst 0, 1) := by decide +kernel
theorem dX2_length_1 : decode cX2_length 1 = .ok (.istore_n 1, 1) := by decide +kernel
theorem dX2_length_2 : decode cX2_length 2 = .ok (.iload_n 1, 1) := by decide +kernel
theorem dX2_length_3 : decode cX2_length 3 = .ok (.iconst 5, 1) := by decide +kernel
theorem dX2_length_4 : decode cX2_length 4 = .ok (.if_icmp .ge 20, 3) := by decide +kernel
theorem dX2_length_7 : decode cX2_length 7 = .ok (.iload_n 0, 1) := by decide +kernel
theorem dX2_length_8 : decode cX2_length 8 = .ok (.iconst 5, 1) := by decide +kernel
theorem dX2_length_9 : decode cX2_length 9 = .ok (.iload_n 1, 1) := by decide +kernel
theorem dX2_length_10 : decode cX2_length 10 = .ok (.imul, 1) := by decide +kernel
theorem dX2_length_11 : decode cX2_length 11 = .ok (.ishr, 1) := by decide +kernel
theorem dX2_length_12 : decode cX2_length 12 = .ok (.bipush 31, 2) := by decide +kernel
theorem dX2_length_14 : decode cX2_length 14 = .ok (.iand, 1) := by decide +kernel
theorem dX2_length_15 : decode cX2_length 15 = .ok (.ifCond .eq 9, 3) := by decide +kernel
theorem dX2_length_18 : decode cX2_length 18 = .ok (.iinc 1 1, 3) := by decide +kernel
theorem dX2_length_21 : decode cX2_length 21 = .ok (.goto (-19), 3) := by decide +kernel
theorem dX2_length_24 : decode cX2_length 24 = .ok (.iload_n 1, 1) := by decide +kernel
theorem dX2_length_25 : decode cX2_length 25 = .ok (.ireturn, 1) := by decide +kernel
theorem dX3_init_0 : decode cX3_init 0 = .ok (.aload_n 0, 1) := by decide +kernel
theorem dX3_init_1 : decode cX3_init 1 = .ok (.invokespecial 3, 3) := by decide +kernel
theorem dX3_init_4 : decode cX3_init 4 = .ok (.aload_n 0, 1) := by decide +kernel
theorem dX3_init_5 : decode cX3_init 5 = .ok (.bipush 16, 2) := by decide +kernel
theorem dX3_init_7 : decode cX3_init 7 = .ok (.newarray .int, 2) := by decide +kernel
theorem dX3_init_9 : decode cX3_init 9 = .ok (.putfield 9, 3) := by decide +kernel
theorem dX3_init_12 : decode cX3_init 12 = .ok (.aload_n 0, 1) := by decide +kernel
theorem dX3_init_13 : decode cX3_init 13 = .ok (.bipush 16, 2) := by decide +kernel
theorem dX3_init_15 : decode cX3_init 15 = .ok (.newarray .int, 2) := by decide +kernel
theorem dX3_init_17 : decode cX3_init 17 = .ok (.putfield 15, 3) := by decide +kernel
theorem dX3_init_20 : decode cX3_init 20 = .ok (.aload_n 0, 1) := by decide +kernel
theorem dX3_init_21 : decode cX3_init 21 = .ok (.bipush 16, 2) := by decide +kernel
theorem dX3_init_23 : decode cX3_init 23 = .ok (.newarray .int, 2) := by decide +kernel
theorem dX3_init_25 : decode cX3_init 25 = .ok (.putfield 18, 3) := by decide +kernel
theorem dX3_init_28 : decode cX3_init 28 = .ok (.aload_n 0, 1) := by decide +kernel
theorem dX3_init_29 : decode cX3_init 29 = .ok (.bipush 40, 2) := by decide +kernel
theorem dX3_init_31 : decode cX3_init 31 = .ok (.newarray .int, 2) := by decide +kernel
theorem dX3_init_33 : decode cX3_init 33 = .ok (.putfield 21, 3) := by decide +kernel
theorem dX3_init_36 : decode cX3_init 36 = .ok (.aload_n 0, 1) := by decide +kernel
theorem dX3_init_37 : decode cX3_init 37 = .ok (.bipush 40, 2) := by decide +kernel
theorem dX3_init_39 : decode cX3_init 39 = .ok (.newarray .int, 2) := by decide +kernel
theorem dX3_init_41 : decode cX3_init 41 = .ok (.putfield 24, 3) := by decide +kernel
theorem dX3_init_44 : decode cX3_init 44 = .ok (.aload_n 0, 1) := by decide +kernel
theorem dX3_init_45 : decode cX3_init 45 = .ok (.bipush 40, 2) := by decide +kernel
theorem dX3_init_47 : decode cX3_init 47 = .ok (.newarray .int, 2) := by decide +kernel
theorem dX3_init_49 : decode cX3_init 49 = .ok (.putfield 27, 3) := by decide +kernel
theorem dX3_init_52 : decode cX3_init 52 = .ok (.aload_n 0, 1) := by decide +kernel
theorem dX3_init_53 : decode cX3_init 53 = .ok (.bipush 40, 2) := by decide +kernel
theorem dX3_init_55 : decode cX3_init 55 = .ok (.newarray .int, 2) := by decide +kernel
theorem dX3_init_57 : decode cX3_init 57 = .ok (.putfield 30, 3) := by decide +kernel
theorem dX3_init_60 : decode cX3_init 60 = .ok (.aload_n 0, 1) := by decide +kernel
theorem dX3_init_61 : decode cX3_init 61 = .ok (.iconst 1, 1) := by decide +kernel
theorem dX3_init_62 : decode cX3_init 62 = .ok (.putfield 33, 3) := by decide +kernel
theorem dX3_init_65 : decode cX3_init 65 = .ok (.aload_n 0, 1) := by decide +kernel
theorem dX3_init_66 : decode cX3_init 66 = .ok (.sipush 999, 3) := by decide +kernel
theorem dX3_init_69 : decode cX3_init 69 = .ok (.putfield 37, 3) := by decide +kernel
theorem dX3_init_72 : decode cX3_init 72 = .ok (.aload_n 0, 1) := by decide +kernel
theorem dX3_init_73 : decode cX3_init 73 = .ok (.bipush 100, 2) := by decide +kernel
theorem dX3_init_75 : decode cX3_init 75 = .ok (.putfield 40, 3) := by decide +kernel
theorem dX3_init_78 : decode cX3_init 78 = .ok (.aload_n 0, 1) := by decide +kernel
theorem dX3_init_79 : decode cX3_init 79 = .ok (.bipush 50, 2) := by decide +kernel
theorem dX3_init_81 : decode cX3_init 81 = .ok (.putfield 43, 3) := by decide +kernel
theorem dX3_init_84 : decode cX3_init 84 = .ok (.aload_n 0, 1) := by decide +kernel
theorem dX3_init_85 : decode cX3_init 85 = .ok (.new 46, 3) := by decide +kernel
theorem dX3_init_88 : decode cX3_init 88 = .ok (.dup, 1) := by decide +kernel
theorem dX3_init_89 : decode cX3_init 89 = .ok (.invokespecial 48, 3) := by decide +kernel
theorem dX3_init_92 : decode cX3_init 92 = .ok (.putfield 49, 3) := by decide +kernel
theorem dX3_init_95 : decode cX3_init 95 = .ok (.return_, 1) := by decide +kernel
theorem dX3_clear_0 : decode cX3_clear 0 = .ok (.aload_n 0, 1) := by decide +kernel
theorem dX3_clear_1 : decode cX3_clear 1 = .ok (.iconst 0, 1) := by decide +kernel
theorem dX3_clear_2 : decode cX3_clear 2 = .ok (.putfield 53, 3) := by decide +kernel
theorem dX3_clear_5 : decode cX3_clear 5 = .ok (.aload_n 0, 1) := by decide +kernel
theorem dX3_clear_6 : decode cX3_clear 6 = .ok (.iconst 0, 1) := by decide +kernel
theorem dX3_clear_7 : decode cX3_clear 7 = .ok (.putfield 56, 3) := by decide +kernel
theorem dX3_clear_10 : decode cX3_clear 10 = .ok (.aload_n 0, 1) := by decide +kernel
theorem dX3_clear_11 : decode cX3_clear 11 = .ok (.iconst 0, 1) := by decide +kernel
theorem dX3_clear_12 : decode cX3_clear 12 = .ok (.putfield 59, 3) := by decide +kernel
theorem dX3_clear_15 : decode cX3_clear 15 = .ok (.aload_n 0, 1) := by decide +kernel
theorem dX3_clear_16 : decode cX3_clear 16 = .ok (.iconst 0, 1) := by decide +kernel
theorem dX3_clear_17 : decode cX3_clear 17 = .ok (.putfield 62, 3) := by decide +kernel
theorem dX3_clear_20 : decode cX3_clear 20 = .ok (.aload_n 0, 1) := by decide +kernel
theorem dX3_clear_21 : decode cX3_clear 21 = .ok (.iconst 1, 1) := by decide +kernel
theorem dX3_clear_22 : decode cX3_clear 22 = .ok (.putfield 33, 3) := by decide +kernel
theorem dX3_clear_25 : decode cX3_clear 25 = .ok (.aload_n 0, 1) := by decide +kernel
theorem dX3_clear_26 : decode cX3_clear 26 = .ok (.iconst 0, 1) := by decide +kernel
theorem dX3_clear_27 : decode cX3_clear 27 = .ok (.putfield 65, 3) := by decide +kernel
theorem dX3_clear_30 : decode cX3_clear 30 = .ok (.aload_n 0, 1) := by decide +kernel
theorem dX3_clear_31 : decode cX3_clear 31 = .ok (.sipush 999, 3) := by decide +kernel
theorem dX3_clear_34 : decode cX3_clear 34 = .ok (.putfield 37, 3) := by decide +kernel
theorem dX3_clear_37 : decode cX3_clear 37 = .ok (.aload_n 0, 1) := by decide +kernel
theorem dX3_clear_38 : decode cX3_clear 38 = .ok (.bipush 100, 2) := by decide +kernel
theorem dX3_clear_40 : decode cX3_clear 40 = .ok (.putfield 40, 3) := by decide +kernel
theorem dX3_clear_43 : decode cX3_clear 43 = .ok (.aload_n 0, 1) := by decide +kernel
theorem dX3_clear_44 : decode cX3_clear 44 = .ok (.bipush 50, 2) := by decide +kernel
theorem dX3_clear_46 : decode cX3_clear 46 = .ok (.putfield 43, 3) := by decide +kernel
theorem dX3_clear_49 : decode cX3_clear 49 = .ok (.aload_n 0, 1) := by decide +kernel
theorem dX3_clear_50 : decode cX3_clear 50 = .ok (.getfield 49, 3) := by decide +kernel
theorem dX3_clear_53 : decode cX3_clear 53 = .ok (.iconst 0, 1) := by decide +kernel
theorem dX3_clear_54 : decode cX3_clear 54 = .ok (.putfield 68, 3) := by decide +kernel
theorem dX3_clear_57 : decode cX3_clear 57 = .ok (.aload_n 0, 1) := by decide +kernel
theorem dX3_clear_58 : decode cX3_clear 58 = .ok (.invokevirtual 71, 3) := by decide +kernel
theorem dX3_clear_61 : decode cX3_clear 61 = .ok (.return_, 1) := by decide +kernel
theorem dX3_copyFrom_0 : decode cX3_copyFrom 0 = .ok (.aload_n 0, 1) := by decide +kernel
theorem dX3_copyFrom_1 : decode cX3_copyFrom 1 = .ok (.aload_n 1, 1) := by decide +kernel
theorem dX3_copyFrom_2 : decode cX3_copyFrom 2 = .ok (.getfield 53, 3) := by decide +kernel
theorem dX3_copyFrom_5 : decode cX3_copyFrom 5 = .ok (.putfield 53, 3) := by decide +kernel
theorem dX3_copyFrom_8 : decode cX3_copyFrom 8 = .ok (.aload_n 1, 1) := by decide +kernel
theorem dX3_copyFrom_9 : decode cX3_copyFrom 9 = .ok (.getfield 9, 3) := by decide +kernel
theorem dX3_copyFrom_12 : decode cX3_copyFrom 12 = .ok (.iconst 0, 1) := by decide +kernel
theorem dX3_copyFrom_13 : decode cX3_copyFrom 13 = .ok (.aload_n 0, 1) := by decide +kernel
theorem dX3_copyFrom_14 : decode cX3_copyFrom 14 = .ok (.getfield 9, 3) := by decide +kernel
theorem dX3_copyFrom_17 : decode cX3_copyFrom 17 = .ok (.iconst 0, 1) := by decide +kernel
theorem dX3_copyFrom_18 : decode cX3_copyFrom 18 = .ok (.bipush 16, 2) := by decide +kernel
theorem dX3_copyFrom_20 : decode cX3_copyFrom 20 = .ok (.invokestatic 74, 3) := by decide +kernel
theorem dX3_copyFrom_23 : decode cX3_copyFrom 23 = .ok (.aload_n 1, 1) := by decide +kernel
theorem dX3_copyFrom_24 : decode cX3_copyFrom 24 = .ok (.getfield 15, 3) := by decide +kernel
theorem dX3_copyFrom_27 : decode cX3_copyFrom 27 = .ok (.iconst 0, 1) := by decide +kernel
theorem dX3_copyFrom_28 : decode cX3_copyFrom 28 = .ok (.aload_n 0, 1) := by decide +kernel
theorem dX3_copyFrom_29 : decode cX3_copyFrom 29 = .ok (.getfield 15, 3) := by decide +kernel
theorem dX3_copyFrom_32 : decode cX3_copyFrom 32 = .ok (.iconst 0, 1) := by decide +kernel
theorem dX3_copyFrom_33 : decode cX3_copyFrom 33 = .ok (.bipush 16, 2) := by decide +kernel
theorem dX3_copyFrom_35 : decode cX3_copyFrom 35 = .ok (.invokestatic 74, 3) := by decide +kernel
theorem dX3_copyFrom_38 : decode cX3_copyFrom 38 = .ok (.aload_n 1, 1) := by decide +kernel
theorem dX3_copyFrom_39 : decode cX3_copyFrom 39 = .ok (.getfield 18, 3) := by decide +kernel
theorem dX3_copyFrom_42 : decode cX3_copyFrom 42 = .ok (.iconst 0, 1) := by decide +kernel
theorem dX3_copyFrom_43 : decode cX3_copyFrom 43 = .ok (.aload_n 0, 1) := by decide +kernel
theorem dX3_copyFrom_44 : decode cX3_copyFrom 44 = .ok (.getfield 18, 3) := by decide +kernel
theorem dX3_copyFrom_47 : decode cX3_copyFrom 47 = .ok (.iconst 0, 1) := by decide +kernel
theorem dX3_copyFrom_48 : decode cX3_copyFrom 48 = .ok (.bipush 16, 2) := by decide +kernel
theorem dX3_copyFrom_50 : decode cX3_copyFrom 50 = .ok (.invokestatic 74, 3) := by decide +kernel
theorem dX3_copyFrom_53 : decode cX3_copyFrom 53 = .ok (.aload_n 0, 1) := by decide +kernel
theorem dX3_copyFrom_54 : decode cX3_copyFrom 54 = .ok (.aload_n 1, 1) := by decide +kernel
theorem dX3_copyFrom_55 : decode cX3_copyFrom 55 = .ok (.getfield 56, 3) := by decide +kernel
theorem dX3_copyFrom_58 : decode cX3_copyFrom 58 = .ok (.putfield 56, 3) := by decide +kernel
theorem dX3_copyFrom_61 : decode cX3_copyFrom 61 = .ok (.aload_n 0, 1) := by decide +kernel
theorem dX3_copyFrom_62 : decode cX3_copyFrom 62 = .ok (.aload_n 1, 1) := by decide +kernel
theorem dX3_copyFrom_63 : decode cX3_copyFrom 63 = .ok (.getfield 59, 3) := by decide +kernel
theorem dX3_copyFrom_66 : decode cX3_copyFrom 66 = .ok (.putfield 59, 3) := by decide +kernel
theorem dX3_copyFrom_69 : decode cX3_copyFrom 69 = .ok (.aload_n 0, 1) := by decide +kernel
theorem dX3_copyFrom_70 : decode cX3_copyFrom 70 = .ok (.aload_n 1, 1) := by decide +kernel
theorem dX3_copyFrom_71 : decode cX3_copyFrom 71 = .ok (.getfield 62, 3) := by decide +kernel
theorem dX3_copyFrom_74 : decode cX3_copyFrom 74 = .ok (.putfield 62, 3) := by decide +kernel
theorem dX3_copyFrom_77 : decode cX3_copyFrom 77 = .ok (.aload_n 1, 1) := by decide +kernel
theorem dX3_copyFrom_78 : decode cX3_copyFrom 78 = .ok (.getfield 21, 3) := by decide +kernel
theorem dX3_copyFrom_81 : decode cX3_copyFrom 81 = .ok (.iconst 0, 1) := by decide +kernel
theorem dX3_copyFrom_82 : decode cX3_copyFrom 82 = .ok (.aload_n 0, 1) := by decide +kernel
theorem dX3_copyFrom_83 : decode cX3_copyFrom 83 = .ok (.getfield 21, 3) := by decide +kernel
theorem dX3_copyFrom_86 : decode cX3_copyFrom 86 = .ok (.iconst 0, 1) := by decide +kernel
theorem dX3_copyFrom_87 : decode cX3_copyFrom 87 = .ok (.bipush 40, 2) := by decide +kernel
theorem dX3_copyFrom_89 : decode cX3_copyFrom 89 = .ok (.invokestatic 74, 3) := by decide +kernel
theorem dX3_copyFrom_92 : decode cX3_copyFrom 92 = .ok (.aload_n 1, 1) := by decide +kernel
theorem dX3_copyFrom_93 : decode cX3_copyFrom 93 = .ok (.getfield 24, 3) := by decide +kernel
theorem dX3_copyFrom_96 : decode cX3_copyFrom 96 = .ok (.iconst 0, 1) := by decide +kernel
theorem dX3_copyFrom_97 : decode cX3_copyFrom 97 = .ok (.aload_n 0, 1) := by decide +kernel
theorem dX3_copyFrom_98 : decode cX3_copyFrom 98 = .ok (.getfield 24, 3) := by decide +kernel
theorem dX3_copyFrom_101 : decode cX3_copyFrom 101 = .ok (.iconst 0, 1) := by decide +kernel
theorem dX3_copyFrom_102 : decode cX3_copyFrom 102 = .ok (.bipush 40, 2) := by decide +kernel
theorem dX3_copyFrom_104 : decode cX3_copyFrom 104 = .ok (.invokestatic 74, 3) := by decide +kernel
theorem dX3_copyFrom_107 : decode cX3_copyFrom 107 = .ok (.aload_n 1, 1) := by decide +kernel
theorem dX3_copyFrom_108 : decode cX3_copyFrom 108 = .ok (.getfield 27, 3) := by decide +kernel
theorem dX3_copyFrom_111 : decode cX3_copyFrom 111 = .ok (.iconst 0, 1) := by decide +kernel
theorem dX3_copyFrom_112 : decode cX3_copyFrom 112 = .ok (.aload_n 0, 1) := by decide +kernel
theorem dX3_copyFrom_113 : decode cX3_copyFrom 113 = .ok (.getfield 27, 3) := by decide +kernel
theorem dX3_copyFrom_116 : decode cX3_copyFrom 116 = .ok (.iconst 0, 1) := by decide +kernel
theorem dX3_copyFrom_117 : decode cX3_copyFrom 117 = .ok (.bipush 40, 2) := by decide +kernel
theorem dX3_copyFrom_119 : decode cX3_copyFrom 119 = .ok (.invokestatic 74, 3) := by decide +kernel
theorem dX3_copyFrom_122 : decode cX3_copyFrom 122 = .ok (.aload_n 1, 1) := by decide +kernel
theorem dX3_copyFrom_123 : decode cX3_copyFrom 123 = .ok (.getfield 30, 3) := by decide +kernel
theorem dX3_copyFrom_126 : decode cX3_copyFrom 126 = .ok (.iconst 0, 1) := by decide +kernel
theorem dX3_copyFrom_127 : decode cX3_copyFrom 127 = .ok (.aload_n 0, 1) := by decide +kernel
theorem dX3_copyFrom_128 : decode cX3_copyFrom 128 = .ok (.getfield 30, 3) := by decide +kernel
theorem dX3_copyFrom_131 : decode cX3_copyFrom 131 = .ok (.iconst 0, 1) := by decide +kernel
theorem dX3_copyFrom_132 : decode cX3_copyFrom 132 = .ok (.bipush 40, 2) := by decide +kernel
theorem dX3_copyFrom_134 : decode cX3_copyFrom 134 = .ok (.invokestatic 74, 3) := by decide +kernel
theorem dX3_copyFrom_137 : decode cX3_copyFrom 137 = .ok (.aload_n 0, 1) := by decide +kernel
theorem dX3_copyFrom_138 : decode cX3_copyFrom 138 = .ok (.aload_n 1, 1) := by decide +kernel
theorem dX3_copyFrom_139 : decode cX3_copyFrom 139 = .ok (.getfield 33, 3) := by decide +kernel
theorem dX3_copyFrom_142 : decode cX3_copyFrom 142 = .ok (.putfield 33, 3) := by decide +kernel
theorem dX3_copyFrom_145 : decode cX3_copyFrom 145 = .ok (.aload_n 0, 1) := by decide +kernel
theorem dX3_copyFrom_146 : decode cX3_copyFrom 146 = .ok (.aload_n 1, 1) := by decide +kernel
theorem dX3_copyFrom_147 : decode cX3_copyFrom 147 = .ok (.getfield 65, 3) := by decide +kernel
theorem dX3_copyFrom_150 : decode cX3_copyFrom 150 = .ok (.putfield 65, 3) := by decide +kernel
theorem dX3_copyFrom_153 : decode cX3_copyFrom 153 = .ok (.aload_n 0, 1) := by decide +kernel
theorem dX3_copyFrom_154 : decode cX3_copyFrom 154 = .ok (.aload_n 1, 1) := by decide +kernel
theorem dX3_copyFrom_155 : decode cX3_copyFrom 155 = .ok (.getfield 37, 3) := by decide +kernel
theorem dX3_copyFrom_158 : decode cX3_copyFrom 158 = .ok (.putfield 37, 3) := by decide +kernel
theorem dX3_copyFrom_161 : decode cX3_copyFrom 161 = .ok (.aload_n 0, 1) := by decide +kernel
theorem dX3_copyFrom_162 : decode cX3_copyFrom 162 = .ok (.aload_n 1, 1) := by decide +kernel
theorem dX3_copyFrom_163 : decode cX3_copyFrom 163 = .ok (.getfield 40, 3) := by decide +kernel
theorem dX3_copyFrom_166 : decode cX3_copyFrom 166 = .ok (.putfield 40, 3) := by decide +kernel
theorem dX3_copyFrom_169 : decode cX3_copyFrom 169 = .ok (.aload_n 0, 1) := by decide +kernel
theorem dX3_copyFrom_170 : decode cX3_copyFrom 170 = .ok (.aload_n 1, 1) := by decide +kernel
theorem dX3_copyFrom_171 : decode cX3_copyFrom 171 = .ok (.getfield 43, 3) := by decide +kernel
theorem dX3_copyFrom_174 : decode cX3_copyFrom 174 = .ok (.putfield 43, 3) := by decide +kernel
theorem dX3_copyFrom_177 : decode cX3_copyFrom 177 = .ok (.aload_n 0, 1) := by decide +kernel
theorem dX3_copyFrom_178 : decode cX3_copyFrom 178 = .ok (.getfield 49, 3) := by decide +kernel
theorem dX3_copyFrom_181 : decode cX3_copyFrom 181 = .ok (.aload_n 1, 1) := by decide +kernel
theorem dX3_copyFrom_182 : decode cX3_copyFrom 182 = .ok (.getfield 49, 3) := by decide +kernel
theorem dX3_copyFrom_185 : decode cX3_copyFrom 185 = .ok (.invokevirtual 80, 3) := by decide +kernel
theorem dX3_copyFrom_188 : decode cX3_copyFrom 188 = .ok (.aload_n 0, 1) := by decide +kernel
theorem dX3_copyFrom_189 : decode cX3_copyFrom 189 = .ok (.aload_n 1, 1) := by decide +kernel
theorem dX3_copyFrom_190 : decode cX3_copyFrom 190 = .ok (.getfield 84, 3) := by decide +kernel
theorem dX3_copyFrom_193 : decode cX3_copyFrom 193 = .ok (.putfield 84, 3) := by decide +kernel
theorem dX3_copyFrom_196 : decode cX3_copyFrom 196 = .ok (.aload_n 0, 1) := by decide +kernel
theorem dX3_copyFrom_197 : decode cX3_copyFrom 197 = .ok (.aload_n 1, 1) := by decide +kernel
theorem dX3_copyFrom_198 : decode cX3_copyFrom 198 = .ok (.getfield 88, 3) := by decide +kernel
theorem dX3_copyFrom_201 : decode cX3_copyFrom 201 = .ok (.putfield 88, 3) := by decide +kernel
theorem dX3_copyFrom_204 : decode cX3_copyFrom 204 = .ok (.return_, 1) := by decide +kernel
theorem dX3_emptySamples_0 : decode cX3_emptySamples 0 = .ok (.aload_n 0, 1) := by decide +kernel
theorem dX3_emptySamples_1 : decode cX3_emptySamples 1 = .ok (.lconst 0, 1) := by decide +kernel
theorem dX3_emptySamples_2 : decode cX3_emptySamples 2 = .ok (.putfield 84, 3) := by decide +kernel
theorem dX3_emptySamples_5 : decode cX3_emptySamples 5 = .ok (.aload_n 0, 1) := by decide +kernel
theorem dX3_emptySamples_6 : decode cX3_emptySamples 6 = .ok (.lconst 0, 1) := by decide +kernel
theorem dX3_emptySamples_7 : decode cX3_emptySamples 7 = .ok (.putfield 88, 3) := by decide +kernel
theorem dX3_emptySamples_10 : decode cX3_emptySamples 10 = .ok (.return_, 1) := by decide +kernel
theorem dX3_isByHand_0 : decode cX3_isByHand 0 = .ok (.aload_n 0, 1) := by decide +kernel
theorem dX3_isByHand_1 : decode cX3_isByHand 1 = .ok (.getfield 59, 3) := by decide +kernel
theorem dX3_isByHand_4 : decode cX3_isByHand 4 = .ok (.iload_n 1, 1) := by decide +kernel
theorem dX3_isByHand_5 : decode cX3_isByHand 5 = .ok (.ishr, 1) := by decide +kernel
theorem dX3_isByHand_6 : decode cX3_isByHand 6 = .ok (.iconst 1, 1) := by decide +kernel
theorem dX3_isByHand_7 : decode cX3_isByHand 7 = .ok (.iand, 1) := by decide +kernel
theorem dX3_isByHand_8 : decode cX3_isByHand 8 = .ok (.iconst 1, 1) := by decide +kernel
theorem dX3_isByHand_9 : decode cX3_isByHand 9 = .ok (.if_icmp .ne 7, 3) := by decide +kernel
theorem dX3_isByHand_12 : decode cX3_isByHand 12 = .ok (.iconst 1, 1) := by decide +kernel
theorem dX3_isByHand_13 : decode cX3_isByHand 13 = .ok (.goto 4, 3) := by decide +kernel
theorem dX3_isByHand_16 : decode cX3_isByHand 16 = .ok (.iconst 0, 1) := by decide +kernel
theorem dX3_isByHand_17 : decode cX3_isByHand 17 = .ok (.ireturn, 1) := by decide +kernel
theorem dX3_voterWith_0 : decode cX3_voterWith 0 = .ok (.iconst 0, 1) := by decide +kernel
theorem dX3_voterWith_1 : decode cX3_voterWith 1 = .ok (.istore_n 3, 1) := by decide +kernel
theorem dX3_voterWith_2 : decode cX3_voterWith 2 = .ok (.iload_n 3, 1) := by decide +kernel
theorem dX3_voterWith_3 : decode cX3_voterWith 3 = .ok (.aload_n 0, 1) := by decide +kernel
theorem dX3_voterWith_4 : decode cX3_voterWith 4 = .ok (.getfield 53, 3) := by decide +kernel
theorem dX3_voterWith_7 : decode cX3_voterWith 7 = .ok (.if_icmp .ge 31, 3) := by decide +kernel
theorem dX3_voterWith_10 : decode cX3_voterWith 10 = .ok (.aload_n 0, 1) := by decide +kernel
theorem dX3_voterWith_11 : decode cX3_voterWith 11 = .ok (.getfield 9, 3) := by decide +kernel
theorem dX3_voterWith_14 : decode cX3_voterWith 14 = .ok (.iload_n 3, 1) := by decide +kernel
theorem dX3_voterWith_15 : decode cX3_voterWith 15 = .ok (.iaload, 1) := by decide +kernel
theorem dX3_voterWith_16 : decode cX3_voterWith 16 = .ok (.iload_n 1, 1) := by decide +kernel
theorem dX3_voterWith_17 : decode cX3_voterWith 17 = .ok (.if_icmp .ne 15, 3) := by decide +kernel
theorem dX3_voterWith_20 : decode cX3_voterWith 20 = .ok (.aload_n 0, 1) := by decide +kernel
theorem dX3_voterWith_21 : decode cX3_voterWith 21 = .ok (.getfield 15, 3) := by decide +kernel
theorem dX3_voterWith_24 : decode cX3_voterWith 24 = .ok (.iload_n 3, 1) := by decide +kernel
theorem dX3_voterWith_25 : decode cX3_voterWith 25 = .ok (.iaload, 1) := by decide +kernel
theorem dX3_voterWith_26 : decode cX3_voterWith 26 = .ok (.iload_n 2, 1) := by decide +kernel
theorem dX3_voterWith_27 : decode cX3_voterWith 27 = .ok (.if_icmp .ne 5, 3) := by decide +kernel
theorem dX3_voterWith_30 : decode cX3_voterWith 30 = .ok (.iload_n 3, 1) := by decide +kernel
theorem dX3_voterWith_31 : decode cX3_voterWith 31 = .ok (.ireturn, 1) := by decide +kernel
theorem dX3_voterWith_32 : decode cX3_voterWith 32 = .ok (.iinc 3 1, 3) := by decide +kernel
theorem dX3_voterWith_35 : decode cX3_voterWith 35 = .ok (.goto (-33), 3) := by decide +kernel
theorem dX3_voterWith_38 : decode cX3_voterWith 38 = .ok (.iconst (-1), 1) := by decide +kernel
theorem dX3_voterWith_39 : decode cX3_voterWith 39 = .ok (.ireturn, 1) := by decide +kernel
theorem dX3_addVoter_0 : decode cX3_addVoter 0 = .ok (.aload_n 0, 1) := by decide +kernel
theorem dX3_addVoter_1 : decode cX3_addVoter 1 = .ok (.getfield 53, 3) := by decide +kernel
theorem dX3_addVoter_4 : decode cX3_addVoter 4 = .ok (.ifCond .lt 12, 3) := by decide +kernel
theorem dX3_addVoter_7 : decode cX3_addVoter 7 = .ok (.aload_n 0, 1) := by decide +kernel
theorem dX3_addVoter_8 : decode cX3_addVoter 8 = .ok (.getfield 53, 3) := by decide +kernel
theorem dX3_addVoter_11 : decode cX3_addVoter 11 = .ok (.bipush 16, 2) := by decide +kernel
theorem dX3_addVoter_13 : decode cX3_addVoter 13 = .ok (.if_icmp .lt 4, 3) := by decide +kernel
theorem dX3_addVoter_16 : decode cX3_addVoter 16 = .ok (.return_, 1) := by decide +kernel
theorem dX3_addVoter_17 : decode cX3_addVoter 17 = .ok (.aload_n 0, 1) := by decide +kernel
theorem dX3_addVoter_18 : decode cX3_addVoter 18 = .ok (.getfield 9, 3) := by decide +kernel
theorem dX3_addVoter_21 : decode cX3_addVoter 21 = .ok (.aload_n 0, 1) := by decide +kernel
theorem dX3_addVoter_22 : decode cX3_addVoter 22 = .ok (.getfield 53, 3) := by decide +kernel
theorem dX3_addVoter_25 : decode cX3_addVoter 25 = .ok (.iload_n 1, 1) := by decide +kernel
theorem dX3_addVoter_26 : decode cX3_addVoter 26 = .ok (.iastore, 1) := by decide +kernel
theorem dX3_addVoter_27 : decode cX3_addVoter 27 = .ok (.aload_n 0, 1) := by decide +kernel
theorem dX3_addVoter_28 : decode cX3_addVoter 28 = .ok (.getfield 15, 3) := by decide +kernel
theorem dX3_addVoter_31 : decode cX3_addVoter 31 = .ok (.aload_n 0, 1) := by decide +kernel
theorem dX3_addVoter_32 : decode cX3_addVoter 32 = .ok (.getfield 53, 3) := by decide +kernel
theorem dX3_addVoter_35 : decode cX3_addVoter 35 = .ok (.iload_n 2, 1) := by decide +kernel
theorem dX3_addVoter_36 : decode cX3_addVoter 36 = .ok (.iastore, 1) := by decide +kernel
theorem dX3_addVoter_37 : decode cX3_addVoter 37 = .ok (.aload_n 0, 1) := by decide +kernel
theorem dX3_addVoter_38 : decode cX3_addVoter 38 = .ok (.getfield 18, 3) := by decide +kernel
theorem dX3_addVoter_41 : decode cX3_addVoter 41 = .ok (.aload_n 0, 1) := by decide +kernel
theorem dX3_addVoter_42 : decode cX3_addVoter 42 = .ok (.getfield 53, 3) := by decide +kernel
theorem dX3_addVoter_45 : decode cX3_addVoter 45 = .ok (.iload_n 3, 1) := by decide +kernel
theorem dX3_addVoter_46 : decode cX3_addVoter 46 = .ok (.iastore, 1) := by decide +kernel
theorem dX3_addVoter_47 : decode cX3_addVoter 47 = .ok (.aload_n 0, 1) := by decide +kernel
theorem dX3_addVoter_48 : decode cX3_addVoter 48 = .ok (.dup, 1) := by decide +kernel
theorem dX3_addVoter_49 : decode cX3_addVoter 49 = .ok (.getfield 53, 3) := by decide +kernel
theorem dX3_addVoter_52 : decode cX3_addVoter 52 = .ok (.iconst 1, 1) := by decide +kernel
theorem dX3_addVoter_53 : decode cX3_addVoter 53 = .ok (.iadd, 1) := by decide +kernel
theorem dX3_addVoter_54 : decode cX3_addVoter 54 = .ok (.putfield 53, 3) := by decide +kernel
theorem dX3_addVoter_57 : decode cX3_addVoter 57 = .ok (.return_, 1) := by decide +kernel
theorem dX3_firstOf_0 : decode cX3_firstOf 0 = .ok (.iconst 0, 1) := by decide +kernel
theorem dX3_firstOf_1 : decode cX3_firstOf 1 = .ok (.istore_n 2, 1) := by decide +kernel
theorem dX3_firstOf_2 : decode cX3_firstOf 2 = .ok (.iload_n 2, 1) := by decide +kernel
theorem dX3_firstOf_3 : decode cX3_firstOf 3 = .ok (.aload_n 0, 1) := by decide +kernel
theorem dX3_firstOf_4 : decode cX3_firstOf 4 = .ok (.getfield 62, 3) := by decide +kernel
theorem dX3_firstOf_7 : decode cX3_firstOf 7 = .ok (.if_icmp .ge 19, 3) := by decide +kernel
theorem dX3_firstOf_10 : decode cX3_firstOf 10 = .ok (.aload_n 0, 1) := by decide +kernel
theorem dX3_firstOf_11 : decode cX3_firstOf 11 = .ok (.getfield 30, 3) := by decide +kernel
theorem dX3_firstOf_14 : decode cX3_firstOf 14 = .ok (.iload_n 2, 1) := by decide +kernel
theorem dX3_firstOf_15 : decode cX3_firstOf 15 = .ok (.iaload, 1) := by decide +kernel
theorem dX3_firstOf_16 : decode cX3_firstOf 16 = .ok (.iload_n 1, 1) := by decide +kernel
theorem dX3_firstOf_17 : decode cX3_firstOf 17 = .ok (.if_icmp .ge 9, 3) := by decide +kernel
theorem dX3_firstOf_20 : decode cX3_firstOf 20 = .ok (.iinc 2 1, 3) := by decide +kernel
theorem dX3_firstOf_23 : decode cX3_firstOf 23 = .ok (.goto (-21), 3) := by decide +kernel
theorem dX3_firstOf_26 : decode cX3_firstOf 26 = .ok (.iload_n 2, 1) := by decide +kernel
theorem dX3_firstOf_27 : decode cX3_firstOf 27 = .ok (.ireturn, 1) := by decide +kernel
theorem dX3_linesOn_0 : decode cX3_linesOn 0 = .ok (.aload_n 0, 1) := by decide +kernel
theorem dX3_linesOn_1 : decode cX3_linesOn 1 = .ok (.iload_n 1, 1) := by decide +kernel
theorem dX3_linesOn_2 : decode cX3_linesOn 2 = .ok (.iconst 1, 1) := by decide +kernel
theorem dX3_linesOn_3 : decode cX3_linesOn 3 = .ok (.iadd, 1) := by decide +kernel
theorem dX3_linesOn_4 : decode cX3_linesOn 4 = .ok (.invokevirtual 91, 3) := by decide +kernel
theorem dX3_linesOn_7 : decode cX3_linesOn 7 = .ok (.aload_n 0, 1) := by decide +kernel
theorem dX3_linesOn_8 : decode cX3_linesOn 8 = .ok (.iload_n 1, 1) := by decide +kernel
theorem dX3_linesOn_9 : decode cX3_linesOn 9 = .ok (.invokevirtual 91, 3) := by decide +kernel
theorem dX3_linesOn_12 : decode cX3_linesOn 12 = .ok (.isub, 1) := by decide +kernel
theorem dX3_linesOn_13 : decode cX3_linesOn 13 = .ok (.ireturn, 1) := by decide +kernel
theorem dX3_addLine_0 : decode cX3_addLine 0 = .ok (.aload_n 0, 1) := by decide +kernel
theorem dX3_addLine_1 : decode cX3_addLine 1 = .ok (.getfield 62, 3) := by decide +kernel
theorem dX3_addLine_4 : decode cX3_addLine 4 = .ok (.ifCond .lt 12, 3) := by decide +kernel
theorem dX3_addLine_7 : decode cX3_addLine 7 = .ok (.aload_n 0, 1) := by decide +kernel
theorem dX3_addLine_8 : decode cX3_addLine 8 = .ok (.getfield 62, 3) := by decide +kernel
theorem dX3_addLine_11 : decode cX3_addLine 11 = .ok (.bipush 40, 2) := by decide +kernel
theorem dX3_addLine_13 : decode cX3_addLine 13 = .ok (.if_icmp .lt 4, 3) := by decide +kernel
theorem dX3_addLine_16 : decode cX3_addLine 16 = .ok (.return_, 1) := by decide +kernel
theorem dX3_addLine_17 : decode cX3_addLine 17 = .ok (.aload_n 0, 1) := by decide +kernel
theorem dX3_addLine_18 : decode cX3_addLine 18 = .ok (.iload_n 1, 1) := by decide +kernel
theorem dX3_addLine_19 : decode cX3_addLine 19 = .ok (.iconst 1, 1) := by decide +kernel
theorem dX3_addLine_20 : decode cX3_addLine 20 = .ok (.iadd, 1) := by decide +kernel
theorem dX3_addLine_21 : decode cX3_addLine 21 = .ok (.invokevirtual 91, 3) := by decide +kernel
theorem dX3_addLine_24 : decode cX3_addLine 24 = .ok (.istore 5, 2) := by decide +kernel
theorem dX3_addLine_26 : decode cX3_addLine 26 = .ok (.aload_n 0, 1) := by decide +kernel
theorem dX3_addLine_27 : decode cX3_addLine 27 = .ok (.iload 5, 2) := by decide +kernel
theorem dX3_addLine_29 : decode cX3_addLine 29 = .ok (.iload 5, 2) := by decide +kernel
theorem dX3_addLine_31 : decode cX3_addLine 31 = .ok (.iconst 1, 1) := by decide +kernel
theorem dX3_addLine_32 : decode cX3_addLine 32 = .ok (.iadd, 1) := by decide +kernel
theorem dX3_addLine_33 : decode cX3_addLine 33 = .ok (.aload_n 0, 1) := by decide +kernel
theorem dX3_addLine_34 : decode cX3_addLine 34 = .ok (.getfield 62, 3) := by decide +kernel
theorem dX3_addLine_37 : decode cX3_addLine 37 = .ok (.iload 5, 2) := by decide +kernel
theorem dX3_addLine_39 : decode cX3_addLine 39 = .ok (.isub, 1) := by decide +kernel
theorem dX3_addLine_40 : decode cX3_addLine 40 = .ok (.invokevirtual 95, 3) := by decide +kernel
theorem dX3_addLine_43 : decode cX3_addLine 43 = .ok (.aload_n 0, 1) := by decide +kernel
theorem dX3_addLine_44 : decode cX3_addLine 44 = .ok (.getfield 21, 3) := by decide +kernel
theorem dX3_addLine_47 : decode cX3_addLine 47 = .ok (.iload 5, 2) := by decide +kernel
theorem dX3_addLine_49 : decode cX3_addLine 49 = .ok (.iload_n 2, 1) := by decide +kernel
theorem dX3_addLine_50 : decode cX3_addLine 50 = .ok (.iastore, 1) := by decide +kernel
theorem dX3_addLine_51 : decode cX3_addLine 51 = .ok (.aload_n 0, 1) := by decide +kernel
theorem dX3_addLine_52 : decode cX3_addLine 52 = .ok (.getfield 24, 3) := by decide +kernel
theorem dX3_addLine_55 : decode cX3_addLine 55 = .ok (.iload 5, 2) := by decide +kernel
theorem dX3_addLine_57 : decode cX3_addLine 57 = .ok (.iload_n 3, 1) := by decide +kernel
theorem dX3_addLine_58 : decode cX3_addLine 58 = .ok (.iastore, 1) := by decide +kernel
theorem dX3_addLine_59 : decode cX3_addLine 59 = .ok (.aload_n 0, 1) := by decide +kernel
theorem dX3_addLine_60 : decode cX3_addLine 60 = .ok (.getfield 27, 3) := by decide +kernel
theorem dX3_addLine_63 : decode cX3_addLine 63 = .ok (.iload 5, 2) := by decide +kernel
theorem dX3_addLine_65 : decode cX3_addLine 65 = .ok (.iload 4, 2) := by decide +kernel
theorem dX3_addLine_67 : decode cX3_addLine 67 = .ok (.iastore, 1) := by decide +kernel
theorem dX3_addLine_68 : decode cX3_addLine 68 = .ok (.aload_n 0, 1) := by decide +kernel
theorem dX3_addLine_69 : decode cX3_addLine 69 = .ok (.getfield 30, 3) := by decide +kernel
theorem dX3_addLine_72 : decode cX3_addLine 72 = .ok (.iload 5, 2) := by decide +kernel
theorem dX3_addLine_74 : decode cX3_addLine 74 = .ok (.iload_n 1, 1) := by decide +kernel
theorem dX3_addLine_75 : decode cX3_addLine 75 = .ok (.iastore, 1) := by decide +kernel
theorem dX3_addLine_76 : decode cX3_addLine 76 = .ok (.aload_n 0, 1) := by decide +kernel
theorem dX3_addLine_77 : decode cX3_addLine 77 = .ok (.dup, 1) := by decide +kernel
theorem dX3_addLine_78 : decode cX3_addLine 78 = .ok (.getfield 62, 3) := by decide +kernel
theorem dX3_addLine_81 : decode cX3_addLine 81 = .ok (.iconst 1, 1) := by decide +kernel
theorem dX3_addLine_82 : decode cX3_addLine 82 = .ok (.iadd, 1) := by decide +kernel
theorem dX3_addLine_83 : decode cX3_addLine 83 = .ok (.putfield 62, 3) := by decide +kernel
theorem dX3_addLine_86 : decode cX3_addLine 86 = .ok (.return_, 1) := by decide +kernel
theorem dX3_removeLine_0 : decode cX3_removeLine 0 = .ok (.iload_n 1, 1) := by decide +kernel
theorem dX3_removeLine_1 : decode cX3_removeLine 1 = .ok (.ifCond .lt 11, 3) := by decide +kernel
theorem dX3_removeLine_4 : decode cX3_removeLine 4 = .ok (.iload_n 1, 1) := by decide +kernel
theorem dX3_removeLine_5 : decode cX3_removeLine 5 = .ok (.aload_n 0, 1) := by decide +kernel
theorem dX3_removeLine_6 : decode cX3_removeLine 6 = .ok (.getfield 62, 3) := by decide +kernel
theorem dX3_removeLine_9 : decode cX3_removeLine 9 = .ok (.if_icmp .lt 4, 3) := by decide +kernel
theorem dX3_removeLine_12 : decode cX3_removeLine 12 = .ok (.return_, 1) := by decide +kernel
theorem dX3_removeLine_13 : decode cX3_removeLine 13 = .ok (.aload_n 0, 1) := by decide +kernel
theorem dX3_removeLine_14 : decode cX3_removeLine 14 = .ok (.iload_n 1, 1) := by decide +kernel
theorem dX3_removeLine_15 : decode cX3_removeLine 15 = .ok (.iconst 1, 1) := by decide +kernel
theorem dX3_removeLine_16 : decode cX3_removeLine 16 = .ok (.iadd, 1) := by decide +kernel
theorem dX3_removeLine_17 : decode cX3_removeLine 17 = .ok (.iload_n 1, 1) := by decide +kernel
theorem dX3_removeLine_18 : decode cX3_removeLine 18 = .ok (.aload_n 0, 1) := by decide +kernel
theorem dX3_removeLine_19 : decode cX3_removeLine 19 = .ok (.getfield 62, 3) := by decide +kernel
theorem dX3_removeLine_22 : decode cX3_removeLine 22 = .ok (.iload_n 1, 1) := by decide +kernel
theorem dX3_removeLine_23 : decode cX3_removeLine 23 = .ok (.isub, 1) := by decide +kernel
theorem dX3_removeLine_24 : decode cX3_removeLine 24 = .ok (.iconst 1, 1) := by decide +kernel
theorem dX3_removeLine_25 : decode cX3_removeLine 25 = .ok (.isub, 1) := by decide +kernel
theorem dX3_removeLine_26 : decode cX3_removeLine 26 = .ok (.invokevirtual 95, 3) := by decide +kernel
theorem dX3_removeLine_29 : decode cX3_removeLine 29 = .ok (.aload_n 0, 1) := by decide +kernel
theorem dX3_removeLine_30 : decode cX3_removeLine 30 = .ok (.dup, 1) := by decide +kernel
theorem dX3_removeLine_31 : decode cX3_removeLine 31 = .ok (.getfield 62, 3) := by decide +kernel
theorem dX3_removeLine_34 : decode cX3_removeLine 34 = .ok (.iconst 1, 1) := by decide +kernel
theorem dX3_removeLine_35 : decode cX3_removeLine 35 = .ok (.isub, 1) := by decide +kernel
theorem dX3_removeLine_36 : decode cX3_removeLine 36 = .ok (.putfield 62, 3) := by decide +kernel
theorem dX3_removeLine_39 : decode cX3_removeLine 39 = .ok (.return_, 1) := by decide +kernel
theorem dX3_moveLines_0 : decode cX3_moveLines 0 = .ok (.iload_n 3, 1) := by decide +kernel
theorem dX3_moveLines_1 : decode cX3_moveLines 1 = .ok (.ifCond .le 23, 3) := by decide +kernel
theorem dX3_moveLines_4 : decode cX3_moveLines 4 = .ok (.iload_n 1, 1) := by decide +kernel
theorem dX3_moveLines_5 : decode cX3_moveLines 5 = .ok (.ifCond .lt 19, 3) := by decide +kernel
theorem dX3_moveLines_8 : decode cX3_moveLines 8 = .ok (.iload_n 2, 1) := by decide +kernel
theorem dX3_moveLines_9 : decode cX3_moveLines 9 = .ok (.ifCond .lt 15, 3) := by decide +kernel
theorem dX3_moveLines_12 : decode cX3_moveLines 12 = .ok (.iload_n 1, 1) := by decide +kernel
theorem dX3_moveLines_13 : decode cX3_moveLines 13 = .ok (.iload_n 2, 1) := by decide +kernel
theorem dX3_moveLines_14 : decode cX3_moveLines 14 = .ok (.invokestatic 99, 3) := by decide +kernel
theorem dX3_moveLines_17 : decode cX3_moveLines 17 = .ok (.iload_n 3, 1) := by decide +kernel
theorem dX3_moveLines_18 : decode cX3_moveLines 18 = .ok (.iadd, 1) := by decide +kernel
theorem dX3_moveLines_19 : decode cX3_moveLines 19 = .ok (.bipush 40, 2) := by decide +kernel
theorem dX3_moveLines_21 : decode cX3_moveLines 21 = .ok (.if_icmp .le 4, 3) := by decide +kernel
theorem dX3_moveLines_24 : decode cX3_moveLines 24 = .ok (.return_, 1) := by decide +kernel
theorem dX3_moveLines_25 : decode cX3_moveLines 25 = .ok (.aload_n 0, 1) := by decide +kernel
theorem dX3_moveLines_26 : decode cX3_moveLines 26 = .ok (.getfield 21, 3) := by decide +kernel
theorem dX3_moveLines_29 : decode cX3_moveLines 29 = .ok (.iload_n 1, 1) := by decide +kernel
theorem dX3_moveLines_30 : decode cX3_moveLines 30 = .ok (.aload_n 0, 1) := by decide +kernel
theorem dX3_moveLines_31 : decode cX3_moveLines 31 = .ok (.getfield 21, 3) := by decide +kernel
theorem dX3_moveLines_34 : decode cX3_moveLines 34 = .ok (.iload_n 2, 1) := by decide +kernel
theorem dX3_moveLines_35 : decode cX3_moveLines 35 = .ok (.iload_n 3, 1) := by decide +kernel
theorem dX3_moveLines_36 : decode cX3_moveLines 36 = .ok (.invokestatic 74, 3) := by decide +kernel
theorem dX3_moveLines_39 : decode cX3_moveLines 39 = .ok (.aload_n 0, 1) := by decide +kernel
theorem dX3_moveLines_40 : decode cX3_moveLines 40 = .ok (.getfield 24, 3) := by decide +kernel
theorem dX3_moveLines_43 : decode cX3_moveLines 43 = .ok (.iload_n 1, 1) := by decide +kernel
theorem dX3_moveLines_44 : decode cX3_moveLines 44 = .ok (.aload_n 0, 1) := by decide +kernel
theorem dX3_moveLines_45 : decode cX3_moveLines 45 = .ok (.getfield 24, 3) := by decide +kernel
theorem dX3_moveLines_48 : decode cX3_moveLines 48 = .ok (.iload_n 2, 1) := by decide +kernel
theorem dX3_moveLines_49 : decode cX3_moveLines 49 = .ok (.iload_n 3, 1) := by decide +kernel
theorem dX3_moveLines_50 : decode cX3_moveLines 50 = .ok (.invokestatic 74, 3) := by decide +kernel
theorem dX3_moveLines_53 : decode cX3_moveLines 53 = .ok (.aload_n 0, 1) := by decide +kernel
theorem dX3_moveLines_54 : decode cX3_moveLines 54 = .ok (.getfield 27, 3) := by decide +kernel
theorem dX3_moveLines_57 : decode cX3_moveLines 57 = .ok (.iload_n 1, 1) := by decide +kernel
theorem dX3_moveLines_58 : decode cX3_moveLines 58 = .ok (.aload_n 0, 1) := by decide +kernel
theorem dX3_moveLines_59 : decode cX3_moveLines 59 = .ok (.getfield 27, 3) := by decide +kernel
theorem dX3_moveLines_62 : decode cX3_moveLines 62 = .ok (.iload_n 2, 1) := by decide +kernel
theorem dX3_moveLines_63 : decode cX3_moveLines 63 = .ok (.iload_n 3, 1) := by decide +kernel
theorem dX3_moveLines_64 : decode cX3_moveLines 64 = .ok (.invokestatic 74, 3) := by decide +kernel
theorem dX3_moveLines_67 : decode cX3_moveLines 67 = .ok (.aload_n 0, 1) := by decide +kernel
theorem dX3_moveLines_68 : decode cX3_moveLines 68 = .ok (.getfield 30, 3) := by decide +kernel
theorem dX3_moveLines_71 : decode cX3_moveLines 71 = .ok (.iload_n 1, 1) := by decide +kernel
theorem dX3_moveLines_72 : decode cX3_moveLines 72 = .ok (.aload_n 0, 1) := by decide +kernel
theorem dX3_moveLines_73 : decode cX3_moveLines 73 = .ok (.getfield 30, 3) := by decide +kernel
theorem dX3_moveLines_76 : decode cX3_moveLines 76 = .ok (.iload_n 2, 1) := by decide +kernel
theorem dX3_moveLines_77 : decode cX3_moveLines 77 = .ok (.iload_n 3, 1) := by decide +kernel
theorem dX3_moveLines_78 : decode cX3_moveLines 78 = .ok (.invokestatic 74, 3) := by decide +kernel
theorem dX3_moveLines_81 : decode cX3_moveLines 81 = .ok (.return_, 1) := by decide +kernel
theorem dX4_init_0 : decode cX4_init 0 = .ok (.aload_n 0, 1) := by decide +kernel
theorem dX4_init_1 : decode cX4_init 1 = .ok (.invokespecial 3, 3) := by decide +kernel
theorem dX4_init_4 : decode cX4_init 4 = .ok (.aload_n 0, 1) := by decide +kernel
theorem dX4_init_5 : decode cX4_init 5 = .ok (.sipush 600, 3) := by decide +kernel
theorem dX4_init_8 : decode cX4_init 8 = .ok (.newarray .int, 2) := by decide +kernel
theorem dX4_init_10 : decode cX4_init 10 = .ok (.putfield 9, 3) := by decide +kernel
theorem dX4_init_13 : decode cX4_init 13 = .ok (.return_, 1) := by decide +kernel
theorem dX4_add_0 : decode cX4_add 0 = .ok (.aload_n 0, 1) := by decide +kernel
theorem dX4_add_1 : decode cX4_add 1 = .ok (.getfield 15, 3) := by decide +kernel
theorem dX4_add_4 : decode cX4_add 4 = .ok (.ifCond .lt 33, 3) := by decide +kernel
theorem dX4_add_7 : decode cX4_add 7 = .ok (.aload_n 0, 1) := by decide +kernel
theorem dX4_add_8 : decode cX4_add 8 = .ok (.getfield 15, 3) := by decide +kernel
theorem dX4_add_11 : decode cX4_add 11 = .ok (.sipush 600, 3) := by decide +kernel
theorem dX4_add_14 : decode cX4_add 14 = .ok (.if_icmp .ge 23, 3) := by decide +kernel
theorem dX4_add_17 : decode cX4_add 17 = .ok (.aload_n 0, 1) := by decide +kernel
theorem dX4_add_18 : decode cX4_add 18 = .ok (.getfield 9, 3) := by decide +kernel
theorem dX4_add_21 : decode cX4_add 21 = .ok (.aload_n 0, 1) := by decide +kernel
theorem dX4_add_22 : decode cX4_add 22 = .ok (.getfield 15, 3) := by decide +kernel
theorem dX4_add_25 : decode cX4_add 25 = .ok (.iload_n 1, 1) := by decide +kernel
theorem dX4_add_26 : decode cX4_add 26 = .ok (.iastore, 1) := by decide +kernel
theorem dX4_add_27 : decode cX4_add 27 = .ok (.aload_n 0, 1) := by decide +kernel
theorem dX4_add_28 : decode cX4_add 28 = .ok (.dup, 1) := by decide +kernel
theorem dX4_add_29 : decode cX4_add 29 = .ok (.getfield 15, 3) := by decide +kernel
theorem dX4_add_32 : decode cX4_add 32 = .ok (.iconst 1, 1) := by decide +kernel
theorem dX4_add_33 : decode cX4_add 33 = .ok (.iadd, 1) := by decide +kernel
theorem dX4_add_34 : decode cX4_add 34 = .ok (.putfield 15, 3) := by decide +kernel
theorem dX4_add_37 : decode cX4_add 37 = .ok (.return_, 1) := by decide +kernel
theorem dX4_addComparison_0 : decode cX4_addComparison 0 = .ok (.aload_n 0, 1) := by decide +kernel
theorem dX4_addComparison_1 : decode cX4_addComparison 1 = .ok (.iload_n 2, 1) := by decide +kernel
theorem dX4_addComparison_2 : decode cX4_addComparison 2 = .ok (.iconst 1, 1) := by decide +kernel
theorem dX4_addComparison_3 : decode cX4_addComparison 3 = .ok (.iadd, 1) := by decide +kernel
theorem dX4_addComparison_4 : decode cX4_addComparison 4 = .ok (.bipush 11, 2) := by decide +kernel
theorem dX4_addComparison_6 : decode cX4_addComparison 6 = .ok (.ishl, 1) := by decide +kernel
theorem dX4_addComparison_7 : decode cX4_addComparison 7 = .ok (.iload_n 1, 1) := by decide +kernel
theorem dX4_addComparison_8 : decode cX4_addComparison 8 = .ok (.ior, 1) := by decide +kernel
theorem dX4_addComparison_9 : decode cX4_addComparison 9 = .ok (.bipush 11, 2) := by decide +kernel
theorem dX4_addComparison_11 : decode cX4_addComparison 11 = .ok (.ishl, 1) := by decide +kernel
theorem dX4_addComparison_12 : decode cX4_addComparison 12 = .ok (.iload_n 3, 1) := by decide +kernel
theorem dX4_addComparison_13 : decode cX4_addComparison 13 = .ok (.ior, 1) := by decide +kernel
theorem dX4_addComparison_14 : decode cX4_addComparison 14 = .ok (.invokevirtual 19, 3) := by decide +kernel
theorem dX4_addComparison_17 : decode cX4_addComparison 17 = .ok (.return_, 1) := by decide +kernel
theorem dX4_copyFrom_0 : decode cX4_copyFrom 0 = .ok (.aload_n 0, 1) := by decide +kernel
theorem dX4_copyFrom_1 : decode cX4_copyFrom 1 = .ok (.aload_n 1, 1) := by decide +kernel
theorem dX4_copyFrom_2 : decode cX4_copyFrom 2 = .ok (.getfield 15, 3) := by decide +kernel
theorem dX4_copyFrom_5 : decode cX4_copyFrom 5 = .ok (.putfield 15, 3) := by decide +kernel
theorem dX4_copyFrom_8 : decode cX4_copyFrom 8 = .ok (.aload_n 0, 1) := by decide +kernel
theorem dX4_copyFrom_9 : decode cX4_copyFrom 9 = .ok (.getfield 15, 3) := by decide +kernel
theorem dX4_copyFrom_12 : decode cX4_copyFrom 12 = .ok (.ifCond .le 30, 3) := by decide +kernel
theorem dX4_copyFrom_15 : decode cX4_copyFrom 15 = .ok (.aload_n 0, 1) := by decide +kernel
theorem dX4_copyFrom_16 : decode cX4_copyFrom 16 = .ok (.getfield 15, 3) := by decide +kernel
theorem dX4_copyFrom_19 : decode cX4_copyFrom 19 = .ok (.sipush 600, 3) := by decide +kernel
theorem dX4_copyFrom_22 : decode cX4_copyFrom 22 = .ok (.if_icmp .gt 20, 3) := by decide +kernel
theorem dX4_copyFrom_25 : decode cX4_copyFrom 25 = .ok (.aload_n 1, 1) := by decide +kernel
theorem dX4_copyFrom_26 : decode cX4_copyFrom 26 = .ok (.getfield 9, 3) := by decide +kernel
theorem dX4_copyFrom_29 : decode cX4_copyFrom 29 = .ok (.iconst 0, 1) := by decide +kernel
theorem dX4_copyFrom_30 : decode cX4_copyFrom 30 = .ok (.aload_n 0, 1) := by decide +kernel
theorem dX4_copyFrom_31 : decode cX4_copyFrom 31 = .ok (.getfield 9, 3) := by decide +kernel
theorem dX4_copyFrom_34 : decode cX4_copyFrom 34 = .ok (.iconst 0, 1) := by decide +kernel
theorem dX4_copyFrom_35 : decode cX4_copyFrom 35 = .ok (.aload_n 0, 1) := by decide +kernel
theorem dX4_copyFrom_36 : decode cX4_copyFrom 36 = .ok (.getfield 15, 3) := by decide +kernel
theorem dX4_copyFrom_39 : decode cX4_copyFrom 39 = .ok (.invokestatic 23, 3) := by decide +kernel
theorem dX4_copyFrom_42 : decode cX4_copyFrom 42 = .ok (.return_, 1) := by decide +kernel
theorem dX4_holds_0 : decode cX4_holds 0 = .ok (.aload_n 0, 1) := by decide +kernel
theorem dX4_holds_1 : decode cX4_holds 1 = .ok (.getfield 15, 3) := by decide +kernel
theorem dX4_holds_4 : decode cX4_holds 4 = .ok (.ifCond .ne 5, 3) := by decide +kernel
theorem dX4_holds_7 : decode cX4_holds 7 = .ok (.iconst 1, 1) := by decide +kernel
theorem dX4_holds_8 : decode cX4_holds 8 = .ok (.ireturn, 1) := by decide +kernel
theorem dX4_holds_9 : decode cX4_holds 9 = .ok (.lconst 0, 1) := by decide +kernel
theorem dX4_holds_10 : decode cX4_holds 10 = .ok (.lstore_n 2, 1) := by decide +kernel
theorem dX4_holds_11 : decode cX4_holds 11 = .ok (.iconst 0, 1) := by decide +kernel
theorem dX4_holds_12 : decode cX4_holds 12 = .ok (.istore 4, 2) := by decide +kernel
theorem dX4_holds_14 : decode cX4_holds 14 = .ok (.iload 4, 2) := by decide +kernel
theorem dX4_holds_16 : decode cX4_holds 16 = .ok (.aload_n 0, 1) := by decide +kernel
theorem dX4_holds_17 : decode cX4_holds 17 = .ok (.getfield 15, 3) := by decide +kernel
theorem dX4_holds_20 : decode cX4_holds 20 = .ok (.if_icmp .ge 99, 3) := by decide +kernel
theorem dX4_holds_23 : decode cX4_holds 23 = .ok (.iload 4, 2) := by decide +kernel
theorem dX4_holds_25 : decode cX4_holds 25 = .ok (.sipush 600, 3) := by decide +kernel
theorem dX4_holds_28 : decode cX4_holds 28 = .ok (.if_icmp .ge 91, 3) := by decide +kernel
theorem dX4_holds_31 : decode cX4_holds 31 = .ok (.aload_n 0, 1) := by decide +kernel
theorem dX4_holds_32 : decode cX4_holds 32 = .ok (.getfield 9, 3) := by decide +kernel
theorem dX4_holds_35 : decode cX4_holds 35 = .ok (.iload 4, 2) := by decide +kernel
theorem dX4_holds_37 : decode cX4_holds 37 = .ok (.iaload, 1) := by decide +kernel
theorem dX4_holds_38 : decode cX4_holds 38 = .ok (.istore 5, 2) := by decide +kernel
theorem dX4_holds_40 : decode cX4_holds 40 = .ok (.iload 5, 2) := by decide +kernel
theorem dX4_holds_42 : decode cX4_holds 42 = .ok (.iconst (-1), 1) := by decide +kernel
theorem dX4_holds_43 : decode cX4_holds 43 = .ok (.if_icmp .ne 10, 3) := by decide +kernel
theorem dX4_holds_46 : decode cX4_holds 46 = .ok (.lload_n 2, 1) := by decide +kernel
theorem dX4_holds_47 : decode cX4_holds 47 = .ok (.lconst 1, 1) := by decide +kernel
theorem dX4_holds_48 : decode cX4_holds 48 = .ok (.lxor, 1) := by decide +kernel
theorem dX4_holds_49 : decode cX4_holds 49 = .ok (.lstore_n 2, 1) := by decide +kernel
theorem dX4_holds_50 : decode cX4_holds 50 = .ok (.goto 63, 3) := by decide +kernel
theorem dX4_holds_53 : decode cX4_holds 53 = .ok (.iload 5, 2) := by decide +kernel
theorem dX4_holds_55 : decode cX4_holds 55 = .ok (.bipush (-2), 2) := by decide +kernel
theorem dX4_holds_57 : decode cX4_holds 57 = .ok (.if_icmp .ne 18, 3) := by decide +kernel
theorem dX4_holds_60 : decode cX4_holds 60 = .ok (.lload_n 2, 1) := by decide +kernel
theorem dX4_holds_61 : decode cX4_holds 61 = .ok (.iconst 1, 1) := by decide +kernel
theorem dX4_holds_62 : decode cX4_holds 62 = .ok (.lushr, 1) := by decide +kernel
theorem dX4_holds_63 : decode cX4_holds 63 = .ok (.lload_n 2, 1) := by decide +kernel
theorem dX4_holds_64 : decode cX4_holds 64 = .ok (.lconst 1, 1) := by decide +kernel
theorem dX4_holds_65 : decode cX4_holds 65 = .ok (.land, 1) := by decide +kernel
theorem dX4_holds_66 : decode cX4_holds 66 = .ok (.ldc2_w 29, 3) := by decide +kernel
theorem dX4_holds_69 : decode cX4_holds 69 = .ok (.lor, 1) := by decide +kernel
theorem dX4_holds_70 : decode cX4_holds 70 = .ok (.land, 1) := by decide +kernel
theorem dX4_holds_71 : decode cX4_holds 71 = .ok (.lstore_n 2, 1) := by decide +kernel
theorem dX4_holds_72 : decode cX4_holds 72 = .ok (.goto 41, 3) := by decide +kernel
theorem dX4_holds_75 : decode cX4_holds 75 = .ok (.iload 5, 2) := by decide +kernel
theorem dX4_holds_77 : decode cX4_holds 77 = .ok (.bipush (-3), 2) := by decide +kernel
theorem dX4_holds_79 : decode cX4_holds 79 = .ok (.if_icmp .ne 14, 3) := by decide +kernel
theorem dX4_holds_82 : decode cX4_holds 82 = .ok (.lload_n 2, 1) := by decide +kernel
theorem dX4_holds_83 : decode cX4_holds 83 = .ok (.iconst 1, 1) := by decide +kernel
theorem dX4_holds_84 : decode cX4_holds 84 = .ok (.lushr, 1) := by decide +kernel
theorem dX4_holds_85 : decode cX4_holds 85 = .ok (.lload_n 2, 1) := by decide +kernel
theorem dX4_holds_86 : decode cX4_holds 86 = .ok (.lconst 1, 1) := by decide +kernel
theorem dX4_holds_87 : decode cX4_holds 87 = .ok (.land, 1) := by decide +kernel
theorem dX4_holds_88 : decode cX4_holds 88 = .ok (.lor, 1) := by decide +kernel
theorem dX4_holds_89 : decode cX4_holds 89 = .ok (.lstore_n 2, 1) := by decide +kernel
theorem dX4_holds_90 : decode cX4_holds 90 = .ok (.goto 23, 3) := by decide +kernel
theorem dX4_holds_93 : decode cX4_holds 93 = .ok (.lload_n 2, 1) := by decide +kernel
theorem dX4_holds_94 : decode cX4_holds 94 = .ok (.iconst 1, 1) := by decide +kernel
theorem dX4_holds_95 : decode cX4_holds 95 = .ok (.lshl, 1) := by decide +kernel
theorem dX4_holds_96 : decode cX4_holds 96 = .ok (.iload 5, 2) := by decide +kernel
theorem dX4_holds_98 : decode cX4_holds 98 = .ok (.aload_n 1, 1) := by decide +kernel
theorem dX4_holds_99 : decode cX4_holds 99 = .ok (.invokestatic 31, 3) := by decide +kernel
theorem dX4_holds_102 : decode cX4_holds 102 = .ok (.ifCond .eq 7, 3) := by decide +kernel
theorem dX4_holds_105 : decode cX4_holds 105 = .ok (.iconst 1, 1) := by decide +kernel
theorem dX4_holds_106 : decode cX4_holds 106 = .ok (.goto 4, 3) := by decide +kernel
theorem dX4_holds_109 : decode cX4_holds 109 = .ok (.iconst 0, 1) := by decide +kernel
theorem dX4_holds_110 : decode cX4_holds 110 = .ok (.i2l, 1) := by decide +kernel
theorem dX4_holds_111 : decode cX4_holds 111 = .ok (.lor, 1) := by decide +kernel
theorem dX4_holds_112 : decode cX4_holds 112 = .ok (.lstore_n 2, 1) := by decide +kernel
theorem dX4_holds_113 : decode cX4_holds 113 = .ok (.iinc 4 1, 3) := by decide +kernel
theorem dX4_holds_116 : decode cX4_holds 116 = .ok (.goto (-102), 3) := by decide +kernel
theorem dX4_holds_119 : decode cX4_holds 119 = .ok (.lload_n 2, 1) := by decide +kernel
theorem dX4_holds_120 : decode cX4_holds 120 = .ok (.lconst 1, 1) := by decide +kernel
theorem dX4_holds_121 : decode cX4_holds 121 = .ok (.land, 1) := by decide +kernel
theorem dX4_holds_122 : decode cX4_holds 122 = .ok (.lconst 1, 1) := by decide +kernel
theorem dX4_holds_123 : decode cX4_holds 123 = .ok (.lcmp, 1) := by decide +kernel
theorem dX4_holds_124 : decode cX4_holds 124 = .ok (.ifCond .ne 7, 3) := by decide +kernel
theorem dX4_holds_127 : decode cX4_holds 127 = .ok (.iconst 1, 1) := by decide +kernel
theorem dX4_holds_128 : decode cX4_holds 128 = .ok (.goto 4, 3) := by decide +kernel
theorem dX4_holds_131 : decode cX4_holds 131 = .ok (.iconst 0, 1) := by decide +kernel
theorem dX4_holds_132 : decode cX4_holds 132 = .ok (.ireturn, 1) := by decide +kernel
theorem dX4_compares_0 : decode cX4_compares 0 = .ok (.iload_n 0, 1) := by decide +kernel
theorem dX4_compares_1 : decode cX4_compares 1 = .ok (.bipush 11, 2) := by decide +kernel
theorem dX4_compares_3 : decode cX4_compares 3 = .ok (.ishr, 1) := by decide +kernel
theorem dX4_compares_4 : decode cX4_compares 4 = .ok (.sipush 2047, 3) := by decide +kernel
theorem dX4_compares_7 : decode cX4_compares 7 = .ok (.iand, 1) := by decide +kernel
theorem dX4_compares_8 : decode cX4_compares 8 = .ok (.aload_n 1, 1) := by decide +kernel
theorem dX4_compares_9 : decode cX4_compares 9 = .ok (.invokestatic 35, 3) := by decide +kernel
theorem dX4_compares_12 : decode cX4_compares 12 = .ok (.istore_n 2, 1) := by decide +kernel
theorem dX4_compares_13 : decode cX4_compares 13 = .ok (.iload_n 0, 1) := by decide +kernel
theorem dX4_compares_14 : decode cX4_compares 14 = .ok (.sipush 2047, 3) := by decide +kernel
theorem dX4_compares_17 : decode cX4_compares 17 = .ok (.iand, 1) := by decide +kernel
theorem dX4_compares_18 : decode cX4_compares 18 = .ok (.aload_n 1, 1) := by decide +kernel
theorem dX4_compares_19 : decode cX4_compares 19 = .ok (.invokestatic 35, 3) := by decide +kernel
theorem dX4_compares_22 : decode cX4_compares 22 = .ok (.istore_n 3, 1) := by decide +kernel
theorem dX4_compares_23 : decode cX4_compares 23 = .ok (.iload_n 0, 1) := by decide +kernel
theorem dX4_compares_24 : decode cX4_compares 24 = .ok (.bipush 22, 2) := by decide +kernel
theorem dX4_compares_26 : decode cX4_compares 26 = .ok (.ishr, 1) := by decide +kernel
theorem dX4_compares_27 : decode cX4_compares 27 = .ok (.iconst 1, 1) := by decide +kernel
theorem dX4_compares_28 : decode cX4_compares 28 = .ok (.isub, 1) := by decide +kernel
theorem dX4_compares_29 : decode cX4_compares 29 = .ok (.istore 4, 2) := by decide +kernel
theorem dX4_compares_31 : decode cX4_compares 31 = .ok (.iload 4, 2) := by decide +kernel
theorem dX4_compares_33 : decode cX4_compares 33 = .ok (.ifCond .ne 14, 3) := by decide +kernel
theorem dX4_compares_36 : decode cX4_compares 36 = .ok (.iload_n 2, 1) := by decide +kernel
theorem dX4_compares_37 : decode cX4_compares 37 = .ok (.iload_n 3, 1) := by decide +kernel
theorem dX4_compares_38 : decode cX4_compares 38 = .ok (.if_icmp .ne 7, 3) := by decide +kernel
theorem dX4_compares_41 : decode cX4_compares 41 = .ok (.iconst 1, 1) := by decide +kernel
theorem dX4_compares_42 : decode cX4_compares 42 = .ok (.goto 4, 3) := by decide +kernel
theorem dX4_compares_45 : decode cX4_compares 45 = .ok (.iconst 0, 1) := by decide +kernel
theorem dX4_compares_46 : decode cX4_compares 46 = .ok (.ireturn, 1) := by decide +kernel
theorem dX4_compares_47 : decode cX4_compares 47 = .ok (.iload 4, 2) := by decide +kernel
theorem dX4_compares_49 : decode cX4_compares 49 = .ok (.ifCond .ge 16, 3) := by decide +kernel
theorem dX4_compares_52 : decode cX4_compares 52 = .ok (.iload_n 2, 1) := by decide +kernel
theorem dX4_compares_53 : decode cX4_compares 53 = .ok (.iload_n 3, 1) := by decide +kernel
theorem dX4_compares_54 : decode cX4_compares 54 = .ok (.if_icmp .ge 7, 3) := by decide +kernel
theorem dX4_compares_57 : decode cX4_compares 57 = .ok (.iconst 1, 1) := by decide +kernel
theorem dX4_compares_58 : decode cX4_compares 58 = .ok (.goto 17, 3) := by decide +kernel
theorem dX4_compares_61 : decode cX4_compares 61 = .ok (.iconst 0, 1) := by decide +kernel
theorem dX4_compares_62 : decode cX4_compares 62 = .ok (.goto 13, 3) := by decide +kernel
theorem dX4_compares_65 : decode cX4_compares 65 = .ok (.iload_n 2, 1) := by decide +kernel
theorem dX4_compares_66 : decode cX4_compares 66 = .ok (.iload_n 3, 1) := by decide +kernel
theorem dX4_compares_67 : decode cX4_compares 67 = .ok (.if_icmp .le 7, 3) := by decide +kernel
theorem dX4_compares_70 : decode cX4_compares 70 = .ok (.iconst 1, 1) := by decide +kernel
theorem dX4_compares_71 : decode cX4_compares 71 = .ok (.goto 4, 3) := by decide +kernel
theorem dX4_compares_74 : decode cX4_compares 74 = .ok (.iconst 0, 1) := by decide +kernel
theorem dX4_compares_75 : decode cX4_compares 75 = .ok (.ireturn, 1) := by decide +kernel
theorem dX4_valueOf_0 : decode cX4_valueOf 0 = .ok (.iload_n 0, 1) := by decide +kernel
theorem dX4_valueOf_1 : decode cX4_valueOf 1 = .ok (.sipush 1000, 3) := by decide +kernel
theorem dX4_valueOf_4 : decode cX4_valueOf 4 = .ok (.isub, 1) := by decide +kernel
theorem dX4_valueOf_5 : decode cX4_valueOf 5 = .ok (.istore_n 2, 1) := by decide +kernel
theorem dX4_valueOf_6 : decode cX4_valueOf 6 = .ok (.iload_n 2, 1) := by decide +kernel
theorem dX4_valueOf_7 : decode cX4_valueOf 7 = .ok (.ifCond .lt 15, 3) := by decide +kernel
theorem dX4_valueOf_10 : decode cX4_valueOf 10 = .ok (.iload_n 2, 1) := by decide +kernel
theorem dX4_valueOf_11 : decode cX4_valueOf 11 = .ok (.aload_n 1, 1) := by decide +kernel
theorem dX4_valueOf_12 : decode cX4_valueOf 12 = .ok (.arraylength, 1) := by decide +kernel
theorem dX4_valueOf_13 : decode cX4_valueOf 13 = .ok (.if_icmp .ge 9, 3) := by decide +kernel
theorem dX4_valueOf_16 : decode cX4_valueOf 16 = .ok (.aload_n 1, 1) := by decide +kernel
theorem dX4_valueOf_17 : decode cX4_valueOf 17 = .ok (.iload_n 2, 1) := by decide +kernel
theorem dX4_valueOf_18 : decode cX4_valueOf 18 = .ok (.iaload, 1) := by decide +kernel
theorem dX4_valueOf_19 : decode cX4_valueOf 19 = .ok (.goto 4, 3) := by decide +kernel
theorem dX4_valueOf_22 : decode cX4_valueOf 22 = .ok (.iload_n 0, 1) := by decide +kernel
theorem dX4_valueOf_23 : decode cX4_valueOf 23 = .ok (.ireturn, 1) := by decide +kernel
theorem dX5_init_0 : decode cX5_init 0 = .ok (.aload_n 0, 1) := by decide +kernel
theorem dX5_init_1 : decode cX5_init 1 = .ok (.invokespecial 3, 3) := by decide +kernel
theorem dX5_init_4 : decode cX5_init 4 = .ok (.aload_n 0, 1) := by decide +kernel
theorem dX5_init_5 : decode cX5_init 5 = .ok (.sipush 600, 3) := by decide +kernel
theorem dX5_init_8 : decode cX5_init 8 = .ok (.newarray .byte, 2) := by decide +kernel
theorem dX5_init_10 : decode cX5_init 10 = .ok (.putfield 9, 3) := by decide +kernel
theorem dX5_init_13 : decode cX5_init 13 = .ok (.return_, 1) := by decide +kernel
theorem dX5_hasRoom_0 : decode cX5_hasRoom 0 = .ok (.aload_n 0, 1) := by decide +kernel
theorem dX5_hasRoom_1 : decode cX5_hasRoom 1 = .ok (.getfield 15, 3) := by decide +kernel
theorem dX5_hasRoom_4 : decode cX5_hasRoom 4 = .ok (.bipush 20, 2) := by decide +kernel
theorem dX5_hasRoom_6 : decode cX5_hasRoom 6 = .ok (.iadd, 1) := by decide +kernel
theorem dX5_hasRoom_7 : decode cX5_hasRoom 7 = .ok (.sipush 600, 3) := by decide +kernel
theorem dX5_hasRoom_10 : decode cX5_hasRoom 10 = .ok (.if_icmp .gt 7, 3) := by decide +kernel
theorem dX5_hasRoom_13 : decode cX5_hasRoom 13 = .ok (.iconst 1, 1) := by decide +kernel
theorem dX5_hasRoom_14 : decode cX5_hasRoom 14 = .ok (.goto 4, 3) := by decide +kernel
theorem dX5_hasRoom_17 : decode cX5_hasRoom 17 = .ok (.iconst 0, 1) := by decide +kernel
theorem dX5_hasRoom_18 : decode cX5_hasRoom 18 = .ok (.ireturn, 1) := by decide +kernel
theorem dX5_put_0 : decode cX5_put 0 = .ok (.aload_n 0, 1) := by decide +kernel
theorem dX5_put_1 : decode cX5_put 1 = .ok (.getfield 15, 3) := by decide +kernel
theorem dX5_put_4 : decode cX5_put 4 = .ok (.ifCond .lt 15, 3) := by decide +kernel
theorem dX5_put_7 : decode cX5_put 7 = .ok (.aload_n 0, 1) := by decide +kernel
theorem dX5_put_8 : decode cX5_put 8 = .ok (.getfield 15, 3) := by decide +kernel
theorem dX5_put_11 : decode cX5_put 11 = .ok (.iconst 4, 1) := by decide +kernel
theorem dX5_put_12 : decode cX5_put 12 = .ok (.iadd, 1) := by decide +kernel
theorem dX5_put_13 : decode cX5_put 13 = .ok (.sipush 600, 3) := by decide +kernel
theorem dX5_put_16 : decode cX5_put 16 = .ok (.if_icmp .le 4, 3) := by decide +kernel
theorem dX5_put_19 : decode cX5_put 19 = .ok (.return_, 1) := by decide +kernel
theorem dX5_put_20 : decode cX5_put 20 = .ok (.aload_n 0, 1) := by decide +kernel
theorem dX5_put_21 : decode cX5_put 21 = .ok (.getfield 9, 3) := by decide +kernel
theorem dX5_put_24 : decode cX5_put 24 = .ok (.aload_n 0, 1) := by decide +kernel
theorem dX5_put_25 : decode cX5_put 25 = .ok (.getfield 15, 3) := by decide +kernel
theorem dX5_put_28 : decode cX5_put 28 = .ok (.iload_n 1, 1) := by decide +kernel
theorem dX5_put_29 : decode cX5_put 29 = .ok (.bipush 24, 2) := by decide +kernel
theorem dX5_put_31 : decode cX5_put 31 = .ok (.iushr, 1) := by decide +kernel
theorem dX5_put_32 : decode cX5_put 32 = .ok (.i2b, 1) := by decide +kernel
theorem dX5_put_33 : decode cX5_put 33 = .ok (.bastore, 1) := by decide +kernel
theorem dX5_put_34 : decode cX5_put 34 = .ok (.aload_n 0, 1) := by decide +kernel
theorem dX5_put_35 : decode cX5_put 35 = .ok (.getfield 9, 3) := by decide +kernel
theorem dX5_put_38 : decode cX5_put 38 = .ok (.aload_n 0, 1) := by decide +kernel
theorem dX5_put_39 : decode cX5_put 39 = .ok (.getfield 15, 3) := by decide +kernel
theorem dX5_put_42 : decode cX5_put 42 = .ok (.iconst 1, 1) := by decide +kernel
theorem dX5_put_43 : decode cX5_put 43 = .ok (.iadd, 1) := by decide +kernel
theorem dX5_put_44 : decode cX5_put 44 = .ok (.iload_n 1, 1) := by decide +kernel
theorem dX5_put_45 : decode cX5_put 45 = .ok (.bipush 16, 2) := by decide +kernel
theorem dX5_put_47 : decode cX5_put 47 = .ok (.iushr, 1) := by decide +kernel
theorem dX5_put_48 : decode cX5_put 48 = .ok (.i2b, 1) := by decide +kernel
theorem dX5_put_49 : decode cX5_put 49 = .ok (.bastore, 1) := by decide +kernel
theorem dX5_put_50 : decode cX5_put 50 = .ok (.aload_n 0, 1) := by decide +kernel
theorem dX5_put_51 : decode cX5_put 51 = .ok (.getfield 9, 3) := by decide +kernel
theorem dX5_put_54 : decode cX5_put 54 = .ok (.aload_n 0, 1) := by decide +kernel
theorem dX5_put_55 : decode cX5_put 55 = .ok (.getfield 15, 3) := by decide +kernel
theorem dX5_put_58 : decode cX5_put 58 = .ok (.iconst 2, 1) := by decide +kernel
theorem dX5_put_59 : decode cX5_put 59 = .ok (.iadd, 1) := by decide +kernel
theorem dX5_put_60 : decode cX5_put 60 = .ok (.iload_n 1, 1) := by decide +kernel
theorem dX5_put_61 : decode cX5_put 61 = .ok (.bipush 8, 2) := by decide +kernel
theorem dX5_put_63 : decode cX5_put 63 = .ok (.iushr, 1) := by decide +kernel
theorem dX5_put_64 : decode cX5_put 64 = .ok (.i2b, 1) := by decide +kernel
theorem dX5_put_65 : decode cX5_put 65 = .ok (.bastore, 1) := by decide +kernel
theorem dX5_put_66 : decode cX5_put 66 = .ok (.aload_n 0, 1) := by decide +kernel
theorem dX5_put_67 : decode cX5_put 67 = .ok (.getfield 9, 3) := by decide +kernel
theorem dX5_put_70 : decode cX5_put 70 = .ok (.aload_n 0, 1) := by decide +kernel
theorem dX5_put_71 : decode cX5_put 71 = .ok (.getfield 15, 3) := by decide +kernel
theorem dX5_put_74 : decode cX5_put 74 = .ok (.iconst 3, 1) := by decide +kernel
theorem dX5_put_75 : decode cX5_put 75 = .ok (.iadd, 1) := by decide +kernel
theorem dX5_put_76 : decode cX5_put 76 = .ok (.iload_n 1, 1) := by decide +kernel
theorem dX5_put_77 : decode cX5_put 77 = .ok (.i2b, 1) := by decide +kernel
theorem dX5_put_78 : decode cX5_put 78 = .ok (.bastore, 1) := by decide +kernel
theorem dX5_put_79 : decode cX5_put 79 = .ok (.aload_n 0, 1) := by decide +kernel
theorem dX5_put_80 : decode cX5_put 80 = .ok (.dup, 1) := by decide +kernel
theorem dX5_put_81 : decode cX5_put 81 = .ok (.getfield 15, 3) := by decide +kernel
theorem dX5_put_84 : decode cX5_put 84 = .ok (.iconst 4, 1) := by decide +kernel
theorem dX5_put_85 : decode cX5_put 85 = .ok (.iadd, 1) := by decide +kernel
theorem dX5_put_86 : decode cX5_put 86 = .ok (.putfield 15, 3) := by decide +kernel
theorem dX5_put_89 : decode cX5_put 89 = .ok (.return_, 1) := by decide +kernel
theorem dX6_init_0 : decode cX6_init 0 = .ok (.aload_n 0, 1) := by decide +kernel
theorem dX6_init_1 : decode cX6_init 1 = .ok (.invokespecial 3, 3) := by decide +kernel
theorem dX6_init_4 : decode cX6_init 4 = .ok (.aload_n 0, 1) := by decide +kernel
theorem dX6_init_5 : decode cX6_init 5 = .ok (.new 9, 3) := by decide +kernel
theorem dX6_init_8 : decode cX6_init 8 = .ok (.dup, 1) := by decide +kernel
theorem dX6_init_9 : decode cX6_init 9 = .ok (.invokespecial 11, 3) := by decide +kernel
theorem dX6_init_12 : decode cX6_init 12 = .ok (.putfield 12, 3) := by decide +kernel
theorem dX6_init_15 : decode cX6_init 15 = .ok (.aload_n 0, 1) := by decide +kernel
theorem dX6_init_16 : decode cX6_init 16 = .ok (.new 18, 3) := by decide +kernel
theorem dX6_init_19 : decode cX6_init 19 = .ok (.dup, 1) := by decide +kernel
theorem dX6_init_20 : decode cX6_init 20 = .ok (.invokespecial 20, 3) := by decide +kernel
theorem dX6_init_23 : decode cX6_init 23 = .ok (.putfield 21, 3) := by decide +kernel
theorem dX6_init_26 : decode cX6_init 26 = .ok (.return_, 1) := by decide +kernel
theorem dX6_read_0 : decode cX6_read 0 = .ok (.aload_n 0, 1) := by decide +kernel
theorem dX6_read_1 : decode cX6_read 1 = .ok (.getfield 12, 3) := by decide +kernel
theorem dX6_read_4 : decode cX6_read 4 = .ok (.iload_n 1, 1) := by decide +kernel
theorem dX6_read_5 : decode cX6_read 5 = .ok (.invokevirtual 25, 3) := by decide +kernel
theorem dX6_read_8 : decode cX6_read 8 = .ok (.aload_n 0, 1) := by decide +kernel
theorem dX6_read_9 : decode cX6_read 9 = .ok (.getfield 21, 3) := by decide +kernel
theorem dX6_read_12 : decode cX6_read 12 = .ok (.invokevirtual 29, 3) := by decide +kernel
theorem dX6_read_15 : decode cX6_read 15 = .ok (.aload_n 0, 1) := by decide +kernel
theorem dX6_read_16 : decode cX6_read 16 = .ok (.iconst 0, 1) := by decide +kernel
theorem dX6_read_17 : decode cX6_read 17 = .ok (.putfield 32, 3) := by decide +kernel
theorem dX6_read_20 : decode cX6_read 20 = .ok (.aload_n 0, 1) := by decide +kernel
theorem dX6_read_21 : decode cX6_read 21 = .ok (.iconst 0, 1) := by decide +kernel
theorem dX6_read_22 : decode cX6_read 22 = .ok (.putfield 36, 3) := by decide +kernel
theorem dX6_read_25 : decode cX6_read 25 = .ok (.iconst 0, 1) := by decide +kernel
theorem dX6_read_26 : decode cX6_read 26 = .ok (.istore_n 2, 1) := by decide +kernel
theorem dX6_read_27 : decode cX6_read 27 = .ok (.iload_n 2, 1) := by decide +kernel
theorem dX6_read_28 : decode cX6_read 28 = .ok (.sipush 600, 3) := by decide +kernel
theorem dX6_read_31 : decode cX6_read 31 = .ok (.if_icmp .ge 34, 3) := by decide +kernel
theorem dX6_read_34 : decode cX6_read 34 = .ok (.aload_n 0, 1) := by decide +kernel
theorem dX6_read_35 : decode cX6_read 35 = .ok (.invokevirtual 39, 3) := by decide +kernel
theorem dX6_read_38 : decode cX6_read 38 = .ok (.ifCond .eq 27, 3) := by decide +kernel
theorem dX6_read_41 : decode cX6_read 41 = .ok (.aload_n 0, 1) := by decide +kernel
theorem dX6_read_42 : decode cX6_read 42 = .ok (.invokevirtual 43, 3) := by decide +kernel
theorem dX6_read_45 : decode cX6_read 45 = .ok (.ifCond .eq 12, 3) := by decide +kernel
theorem dX6_read_48 : decode cX6_read 48 = .ok (.aload_n 0, 1) := by decide +kernel
theorem dX6_read_49 : decode cX6_read 49 = .ok (.bipush 59, 2) := by decide +kernel
theorem dX6_read_51 : decode cX6_read 51 = .ok (.invokevirtual 47, 3) := by decide +kernel
theorem dX6_read_54 : decode cX6_read 54 = .ok (.ifCond .ne 5, 3) := by decide +kernel
theorem dX6_read_57 : decode cX6_read 57 = .ok (.iconst 0, 1) := by decide +kernel
theorem dX6_read_58 : decode cX6_read 58 = .ok (.ireturn, 1) := by decide +kernel
theorem dX6_read_59 : decode cX6_read 59 = .ok (.iinc 2 1, 3) := by decide +kernel
theorem dX6_read_62 : decode cX6_read 62 = .ok (.goto (-35), 3) := by decide +kernel
theorem dX6_read_65 : decode cX6_read 65 = .ok (.iconst 1, 1) := by decide +kernel
theorem dX6_read_66 : decode cX6_read 66 = .ok (.ireturn, 1) := by decide +kernel
theorem dX6_readTold_0 : decode cX6_readTold 0 = .ok (.aload_n 0, 1) := by decide +kernel
theorem dX6_readTold_1 : decode cX6_readTold 1 = .ok (.invokevirtual 39, 3) := by decide +kernel
theorem dX6_readTold_4 : decode cX6_readTold 4 = .ok (.tableswitch 104 1 8 #[48, 53, 58, 63, 68, 73, 78, 83], 48) := by decide +kernel
theorem dX6_readTold_52 : decode cX6_readTold 52 = .ok (.aload_n 0, 1) := by decide +kernel
theorem dX6_readTold_53 : decode cX6_readTold 53 = .ok (.invokevirtual 51, 3) := by decide +kernel
theorem dX6_readTold_56 : decode cX6_readTold 56 = .ok (.ireturn, 1) := by decide +kernel
theorem dX6_readTold_57 : decode cX6_readTold 57 = .ok (.aload_n 0, 1) := by decide +kernel
theorem dX6_readTold_58 : decode cX6_readTold 58 = .ok (.invokevirtual 54, 3) := by decide +kernel
theorem dX6_readTold_61 : decode cX6_readTold 61 = .ok (.ireturn, 1) := by decide +kernel
theorem dX6_readTold_62 : decode cX6_readTold 62 = .ok (.aload_n 0, 1) := by decide +kernel
theorem dX6_readTold_63 : decode cX6_readTold 63 = .ok (.invokevirtual 57, 3) := by decide +kernel
theorem dX6_readTold_66 : decode cX6_readTold 66 = .ok (.ireturn, 1) := by decide +kernel
theorem dX6_readTold_67 : decode cX6_readTold 67 = .ok (.aload_n 0, 1) := by decide +kernel
theorem dX6_readTold_68 : decode cX6_readTold 68 = .ok (.invokevirtual 60, 3) := by decide +kernel
theorem dX6_readTold_71 : decode cX6_readTold 71 = .ok (.ireturn, 1) := by decide +kernel
theorem dX6_readTold_72 : decode cX6_readTold 72 = .ok (.aload_n 0, 1) := by decide +kernel
theorem dX6_readTold_73 : decode cX6_readTold 73 = .ok (.invokevirtual 63, 3) := by decide +kernel
theorem dX6_readTold_76 : decode cX6_readTold 76 = .ok (.ireturn, 1) := by decide +kernel
theorem dX6_readTold_77 : decode cX6_readTold 77 = .ok (.aload_n 0, 1) := by decide +kernel
theorem dX6_readTold_78 : decode cX6_readTold 78 = .ok (.invokevirtual 66, 3) := by decide +kernel
theorem dX6_readTold_81 : decode cX6_readTold 81 = .ok (.ireturn, 1) := by decide +kernel
theorem dX6_readTold_82 : decode cX6_readTold 82 = .ok (.aload_n 0, 1) := by decide +kernel
theorem dX6_readTold_83 : decode cX6_readTold 83 = .ok (.invokevirtual 69, 3) := by decide +kernel
theorem dX6_readTold_86 : decode cX6_readTold 86 = .ok (.ireturn, 1) := by decide +kernel
theorem dX6_readTold_87 : decode cX6_readTold 87 = .ok (.aload_n 0, 1) := by decide +kernel
theorem dX6_readTold_88 : decode cX6_readTold 88 = .ok (.invokevirtual 72, 3) := by decide +kernel
theorem dX6_readTold_91 : decode cX6_readTold 91 = .ok (.ifCond .eq 15, 3) := by decide +kernel
theorem dX6_readTold_94 : decode cX6_readTold 94 = .ok (.aload_n 0, 1) := by decide +kernel
theorem dX6_readTold_95 : decode cX6_readTold 95 = .ok (.iconst 0, 1) := by decide +kernel
theorem dX6_readTold_96 : decode cX6_readTold 96 = .ok (.invokevirtual 75, 3) := by decide +kernel
theorem dX6_readTold_99 : decode cX6_readTold 99 = .ok (.ifCond .eq 7, 3) := by decide +kernel
theorem dX6_readTold_102 : decode cX6_readTold 102 = .ok (.iconst 1, 1) := by decide +kernel
theorem dX6_readTold_103 : decode cX6_readTold 103 = .ok (.goto 4, 3) := by decide +kernel
theorem dX6_readTold_106 : decode cX6_readTold 106 = .ok (.iconst 0, 1) := by decide +kernel
theorem dX6_readTold_107 : decode cX6_readTold 107 = .ok (.ireturn, 1) := by decide +kernel
theorem dX6_readTold_108 : decode cX6_readTold 108 = .ok (.aload_n 0, 1) := by decide +kernel
theorem dX6_readTold_109 : decode cX6_readTold 109 = .ok (.iconst 1, 1) := by decide +kernel
theorem dX6_readTold_110 : decode cX6_readTold 110 = .ok (.aload_n 0, 1) := by decide +kernel
theorem dX6_readTold_111 : decode cX6_readTold 111 = .ok (.invokevirtual 79, 3) := by decide +kernel
theorem dX6_readTold_114 : decode cX6_readTold 114 = .ok (.invokevirtual 82, 3) := by decide +kernel
theorem dX6_readTold_117 : decode cX6_readTold 117 = .ok (.ireturn, 1) := by decide +kernel
theorem dX6_readVoter_0 : decode cX6_readVoter 0 = .ok (.aload_n 0, 1) := by decide +kernel
theorem dX6_readVoter_1 : decode cX6_readVoter 1 = .ok (.getfield 21, 3) := by decide +kernel
theorem dX6_readVoter_4 : decode cX6_readVoter 4 = .ok (.getfield 86, 3) := by decide +kernel
theorem dX6_readVoter_7 : decode cX6_readVoter 7 = .ok (.bipush 16, 2) := by decide +kernel
theorem dX6_readVoter_9 : decode cX6_readVoter 9 = .ok (.if_icmp .lt 13, 3) := by decide +kernel
theorem dX6_readVoter_12 : decode cX6_readVoter 12 = .ok (.aload_n 0, 1) := by decide +kernel
theorem dX6_readVoter_13 : decode cX6_readVoter 13 = .ok (.iconst 4, 1) := by decide +kernel
theorem dX6_readVoter_14 : decode cX6_readVoter 14 = .ok (.aload_n 0, 1) := by decide +kernel
theorem dX6_readVoter_15 : decode cX6_readVoter 15 = .ok (.invokevirtual 79, 3) := by decide +kernel
theorem dX6_readVoter_18 : decode cX6_readVoter 18 = .ok (.invokevirtual 82, 3) := by decide +kernel
theorem dX6_readVoter_21 : decode cX6_readVoter 21 = .ok (.ireturn, 1) := by decide +kernel
theorem dX6_readVoter_22 : decode cX6_readVoter 22 = .ok (.aload_n 0, 1) := by decide +kernel
theorem dX6_readVoter_23 : decode cX6_readVoter 23 = .ok (.invokevirtual 89, 3) := by decide +kernel
theorem dX6_readVoter_26 : decode cX6_readVoter 26 = .ok (.aload_n 0, 1) := by decide +kernel
theorem dX6_readVoter_27 : decode cX6_readVoter 27 = .ok (.invokevirtual 79, 3) := by decide +kernel
theorem dX6_readVoter_30 : decode cX6_readVoter 30 = .ok (.istore_n 1, 1) := by decide +kernel
theorem dX6_readVoter_31 : decode cX6_readVoter 31 = .ok (.aload_n 0, 1) := by decide +kernel
theorem dX6_readVoter_32 : decode cX6_readVoter 32 = .ok (.invokevirtual 92, 3) := by decide +kernel
theorem dX6_readVoter_35 : decode cX6_readVoter 35 = .ok (.istore_n 2, 1) := by decide +kernel
theorem dX6_readVoter_36 : decode cX6_readVoter 36 = .ok (.iload_n 2, 1) := by decide +kernel
theorem dX6_readVoter_37 : decode cX6_readVoter 37 = .ok (.iconst (-1), 1) := by decide +kernel
theorem dX6_readVoter_38 : decode cX6_readVoter 38 = .ok (.if_icmp .ne 5, 3) := by decide +kernel
theorem dX6_readVoter_41 : decode cX6_readVoter 41 = .ok (.iconst 0, 1) := by decide +kernel
theorem dX6_readVoter_42 : decode cX6_readVoter 42 = .ok (.ireturn, 1) := by decide +kernel
theorem dX6_readVoter_43 : decode cX6_readVoter 43 = .ok (.aload_n 0, 1) := by decide +kernel
theorem dX6_readVoter_44 : decode cX6_readVoter 44 = .ok (.iconst 0, 1) := by decide +kernel
theorem dX6_readVoter_45 : decode cX6_readVoter 45 = .ok (.bipush 99, 2) := by decide +kernel
theorem dX6_readVoter_47 : decode cX6_readVoter 47 = .ok (.invokevirtual 95, 3) := by decide +kernel
theorem dX6_readVoter_50 : decode cX6_readVoter 50 = .ok (.istore_n 3, 1) := by decide +kernel
theorem dX6_readVoter_51 : decode cX6_readVoter 51 = .ok (.iload_n 3, 1) := by decide +kernel
theorem dX6_readVoter_52 : decode cX6_readVoter 52 = .ok (.iconst (-1), 1) := by decide +kernel
theorem dX6_readVoter_53 : decode cX6_readVoter 53 = .ok (.if_icmp .ne 5, 3) := by decide +kernel
theorem dX6_readVoter_56 : decode cX6_readVoter 56 = .ok (.iconst 0, 1) := by decide +kernel
theorem dX6_readVoter_57 : decode cX6_readVoter 57 = .ok (.ireturn, 1) := by decide +kernel
theorem dX6_readVoter_58 : decode cX6_readVoter 58 = .ok (.aload_n 0, 1) := by decide +kernel
theorem dX6_readVoter_59 : decode cX6_readVoter 59 = .ok (.getfield 21, 3) := by decide +kernel
theorem dX6_readVoter_62 : decode cX6_readVoter 62 = .ok (.iload_n 2, 1) := by decide +kernel
theorem dX6_readVoter_63 : decode cX6_readVoter 63 = .ok (.iload_n 3, 1) := by decide +kernel
theorem dX6_readVoter_64 : decode cX6_readVoter 64 = .ok (.invokevirtual 99, 3) := by decide +kernel
theorem dX6_readVoter_67 : decode cX6_readVoter 67 = .ok (.iconst (-1), 1) := by decide +kernel
theorem dX6_readVoter_68 : decode cX6_readVoter 68 = .ok (.if_icmp .eq 10, 3) := by decide +kernel
theorem dX6_readVoter_71 : decode cX6_readVoter 71 = .ok (.aload_n 0, 1) := by decide +kernel
theorem dX6_readVoter_72 : decode cX6_readVoter 72 = .ok (.iconst 3, 1) := by decide +kernel
theorem dX6_readVoter_73 : decode cX6_readVoter 73 = .ok (.iload_n 1, 1) := by decide +kernel
theorem dX6_readVoter_74 : decode cX6_readVoter 74 = .ok (.invokevirtual 82, 3) := by decide +kernel
theorem dX6_readVoter_77 : decode cX6_readVoter 77 = .ok (.ireturn, 1) := by decide +kernel
theorem dX6_readVoter_78 : decode cX6_readVoter 78 = .ok (.aload_n 0, 1) := by decide +kernel
theorem dX6_readVoter_79 : decode cX6_readVoter 79 = .ok (.iconst 0, 1) := by decide +kernel
theorem dX6_readVoter_80 : decode cX6_readVoter 80 = .ok (.sipush 999, 3) := by decide +kernel
theorem dX6_readVoter_83 : decode cX6_readVoter 83 = .ok (.invokevirtual 95, 3) := by decide +kernel
theorem dX6_readVoter_86 : decode cX6_readVoter 86 = .ok (.istore 4, 2) := by decide +kernel
theorem dX6_readVoter_88 : decode cX6_readVoter 88 = .ok (.iload 4, 2) := by decide +kernel
theorem dX6_readVoter_90 : decode cX6_readVoter 90 = .ok (.iconst (-1), 1) := by decide +kernel
theorem dX6_readVoter_91 : decode cX6_readVoter 91 = .ok (.if_icmp .ne 5, 3) := by decide +kernel
theorem dX6_readVoter_94 : decode cX6_readVoter 94 = .ok (.iconst 0, 1) := by decide +kernel
theorem dX6_readVoter_95 : decode cX6_readVoter 95 = .ok (.ireturn, 1) := by decide +kernel
theorem dX6_readVoter_96 : decode cX6_readVoter 96 = .ok (.aload_n 0, 1) := by decide +kernel
theorem dX6_readVoter_97 : decode cX6_readVoter 97 = .ok (.getfield 21, 3) := by decide +kernel
theorem dX6_readVoter_100 : decode cX6_readVoter 100 = .ok (.iload_n 2, 1) := by decide +kernel
theorem dX6_readVoter_101 : decode cX6_readVoter 101 = .ok (.iload_n 3, 1) := by decide +kernel
theorem dX6_readVoter_102 : decode cX6_readVoter 102 = .ok (.iload 4, 2) := by decide +kernel
theorem dX6_readVoter_104 : decode cX6_readVoter 104 = .ok (.invokevirtual 102, 3) := by decide +kernel
theorem dX6_readVoter_107 : decode cX6_readVoter 107 = .ok (.iconst 1, 1) := by decide +kernel
theorem dX6_readVoter_108 : decode cX6_readVoter 108 = .ok (.ireturn, 1) := by decide +kernel
theorem dX6_readSheet_0 : decode cX6_readSheet 0 = .ok (.aload_n 0, 1) := by decide +kernel
theorem dX6_readSheet_1 : decode cX6_readSheet 1 = .ok (.getfield 21, 3) := by decide +kernel
theorem dX6_readSheet_4 : decode cX6_readSheet 4 = .ok (.getfield 106, 3) := by decide +kernel
theorem dX6_readSheet_7 : decode cX6_readSheet 7 = .ok (.bipush 8, 2) := by decide +kernel
theorem dX6_readSheet_9 : decode cX6_readSheet 9 = .ok (.if_icmp .lt 13, 3) := by decide +kernel
theorem dX6_readSheet_12 : decode cX6_readSheet 12 = .ok (.aload_n 0, 1) := by decide +kernel
theorem dX6_readSheet_13 : decode cX6_readSheet 13 = .ok (.iconst 4, 1) := by decide +kernel
theorem dX6_readSheet_14 : decode cX6_readSheet 14 = .ok (.aload_n 0, 1) := by decide +kernel
theorem dX6_readSheet_15 : decode cX6_readSheet 15 = .ok (.invokevirtual 79, 3) := by decide +kernel
theorem dX6_readSheet_18 : decode cX6_readSheet 18 = .ok (.invokevirtual 82, 3) := by decide +kernel
theorem dX6_readSheet_21 : decode cX6_readSheet 21 = .ok (.ireturn, 1) := by decide +kernel
theorem dX6_readSheet_22 : decode cX6_readSheet 22 = .ok (.aload_n 0, 1) := by decide +kernel
theorem dX6_readSheet_23 : decode cX6_readSheet 23 = .ok (.invokevirtual 89, 3) := by decide +kernel
theorem dX6_readSheet_26 : decode cX6_readSheet 26 = .ok (.aload_n 0, 1) := by decide +kernel
theorem dX6_readSheet_27 : decode cX6_readSheet 27 = .ok (.getfield 21, 3) := by decide +kernel
theorem dX6_readSheet_30 : decode cX6_readSheet 30 = .ok (.dup, 1) := by decide +kernel
theorem dX6_readSheet_31 : decode cX6_readSheet 31 = .ok (.getfield 106, 3) := by decide +kernel
theorem dX6_readSheet_34 : decode cX6_readSheet 34 = .ok (.iconst 1, 1) := by decide +kernel
theorem dX6_readSheet_35 : decode cX6_readSheet 35 = .ok (.iadd, 1) := by decide +kernel
theorem dX6_readSheet_36 : decode cX6_readSheet 36 = .ok (.putfield 106, 3) := by decide +kernel
theorem dX6_readSheet_39 : decode cX6_readSheet 39 = .ok (.iconst 1, 1) := by decide +kernel
theorem dX6_readSheet_40 : decode cX6_readSheet 40 = .ok (.ireturn, 1) := by decide +kernel
theorem dX6_readSigned_0 : decode cX6_readSigned 0 = .ok (.aload_n 0, 1) := by decide +kernel
theorem dX6_readSigned_1 : decode cX6_readSigned 1 = .ok (.getfield 21, 3) := by decide +kernel
theorem dX6_readSigned_4 : decode cX6_readSigned 4 = .ok (.getfield 106, 3) := by decide +kernel
theorem dX6_readSigned_7 : decode cX6_readSigned 7 = .ok (.ifCond .ne 13, 3) := by decide +kernel
theorem dX6_readSigned_10 : decode cX6_readSigned 10 = .ok (.aload_n 0, 1) := by decide +kernel
theorem dX6_readSigned_11 : decode cX6_readSigned 11 = .ok (.iconst 1, 1) := by decide +kernel
theorem dX6_readSigned_12 : decode cX6_readSigned 12 = .ok (.aload_n 0, 1) := by decide +kernel
theorem dX6_readSigned_13 : decode cX6_readSigned 13 = .ok (.invokevirtual 79, 3) := by decide +kernel
theorem dX6_readSigned_16 : decode cX6_readSigned 16 = .ok (.invokevirtual 82, 3) := by decide +kernel
theorem dX6_readSigned_19 : decode cX6_readSigned 19 = .ok (.ireturn, 1) := by decide +kernel
theorem dX6_readSigned_20 : decode cX6_readSigned 20 = .ok (.aload_n 0, 1) := by decide +kernel
theorem dX6_readSigned_21 : decode cX6_readSigned 21 = .ok (.getfield 21, 3) := by decide +kernel
theorem dX6_readSigned_24 : decode cX6_readSigned 24 = .ok (.getfield 109, 3) := by decide +kernel
theorem dX6_readSigned_27 : decode cX6_readSigned 27 = .ok (.bipush 40, 2) := by decide +kernel
theorem dX6_readSigned_29 : decode cX6_readSigned 29 = .ok (.if_icmp .lt 13, 3) := by decide +kernel
theorem dX6_readSigned_32 : decode cX6_readSigned 32 = .ok (.aload_n 0, 1) := by decide +kernel
theorem dX6_readSigned_33 : decode cX6_readSigned 33 = .ok (.iconst 4, 1) := by decide +kernel
theorem dX6_readSigned_34 : decode cX6_readSigned 34 = .ok (.aload_n 0, 1) := by decide +kernel
theorem dX6_readSigned_35 : decode cX6_readSigned 35 = .ok (.invokevirtual 79, 3) := by decide +kernel
theorem dX6_readSigned_38 : decode cX6_readSigned 38 = .ok (.invokevirtual 82, 3) := by decide +kernel
theorem dX6_readSigned_41 : decode cX6_readSigned 41 = .ok (.ireturn, 1) := by decide +kernel
theorem dX6_readSigned_42 : decode cX6_readSigned 42 = .ok (.aload_n 0, 1) := by decide +kernel
theorem dX6_readSigned_43 : decode cX6_readSigned 43 = .ok (.invokevirtual 89, 3) := by decide +kernel
theorem dX6_readSigned_46 : decode cX6_readSigned 46 = .ok (.aload_n 0, 1) := by decide +kernel
theorem dX6_readSigned_47 : decode cX6_readSigned 47 = .ok (.invokevirtual 92, 3) := by decide +kernel
theorem dX6_readSigned_50 : decode cX6_readSigned 50 = .ok (.istore_n 1, 1) := by decide +kernel
theorem dX6_readSigned_51 : decode cX6_readSigned 51 = .ok (.iload_n 1, 1) := by decide +kernel
theorem dX6_readSigned_52 : decode cX6_readSigned 52 = .ok (.iconst (-1), 1) := by decide +kernel
theorem dX6_readSigned_53 : decode cX6_readSigned 53 = .ok (.if_icmp .ne 5, 3) := by decide +kernel
theorem dX6_readSigned_56 : decode cX6_readSigned 56 = .ok (.iconst 0, 1) := by decide +kernel
theorem dX6_readSigned_57 : decode cX6_readSigned 57 = .ok (.ireturn, 1) := by decide +kernel
theorem dX6_readSigned_58 : decode cX6_readSigned 58 = .ok (.aload_n 0, 1) := by decide +kernel
theorem dX6_readSigned_59 : decode cX6_readSigned 59 = .ok (.iconst 0, 1) := by decide +kernel
theorem dX6_readSigned_60 : decode cX6_readSigned 60 = .ok (.bipush 99, 2) := by decide +kernel
theorem dX6_readSigned_62 : decode cX6_readSigned 62 = .ok (.invokevirtual 95, 3) := by decide +kernel
theorem dX6_readSigned_65 : decode cX6_readSigned 65 = .ok (.istore_n 2, 1) := by decide +kernel
theorem dX6_readSigned_66 : decode cX6_readSigned 66 = .ok (.iload_n 2, 1) := by decide +kernel
theorem dX6_readSigned_67 : decode cX6_readSigned 67 = .ok (.iconst (-1), 1) := by decide +kernel
theorem dX6_readSigned_68 : decode cX6_readSigned 68 = .ok (.if_icmp .ne 5, 3) := by decide +kernel
theorem dX6_readSigned_71 : decode cX6_readSigned 71 = .ok (.iconst 0, 1) := by decide +kernel
theorem dX6_readSigned_72 : decode cX6_readSigned 72 = .ok (.ireturn, 1) := by decide +kernel
theorem dX6_readSigned_73 : decode cX6_readSigned 73 = .ok (.aload_n 0, 1) := by decide +kernel
theorem dX6_readSigned_74 : decode cX6_readSigned 74 = .ok (.iconst 0, 1) := by decide +kernel
theorem dX6_readSigned_75 : decode cX6_readSigned 75 = .ok (.sipush 999, 3) := by decide +kernel
theorem dX6_readSigned_78 : decode cX6_readSigned 78 = .ok (.invokevirtual 95, 3) := by decide +kernel
theorem dX6_readSigned_81 : decode cX6_readSigned 81 = .ok (.istore_n 3, 1) := by decide +kernel
theorem dX6_readSigned_82 : decode cX6_readSigned 82 = .ok (.iload_n 3, 1) := by decide +kernel
theorem dX6_readSigned_83 : decode cX6_readSigned 83 = .ok (.iconst (-1), 1) := by decide +kernel
theorem dX6_readSigned_84 : decode cX6_readSigned 84 = .ok (.if_icmp .ne 5, 3) := by decide +kernel
theorem dX6_readSigned_87 : decode cX6_readSigned 87 = .ok (.iconst 0, 1) := by decide +kernel
theorem dX6_readSigned_88 : decode cX6_readSigned 88 = .ok (.ireturn, 1) := by decide +kernel
theorem dX6_readSigned_89 : decode cX6_readSigned 89 = .ok (.aload_n 0, 1) := by decide +kernel
theorem dX6_readSigned_90 : decode cX6_readSigned 90 = .ok (.getfield 21, 3) := by decide +kernel
theorem dX6_readSigned_93 : decode cX6_readSigned 93 = .ok (.aload_n 0, 1) := by decide +kernel
theorem dX6_readSigned_94 : decode cX6_readSigned 94 = .ok (.getfield 21, 3) := by decide +kernel
theorem dX6_readSigned_97 : decode cX6_readSigned 97 = .ok (.getfield 106, 3) := by decide +kernel
theorem dX6_readSigned_100 : decode cX6_readSigned 100 = .ok (.iconst 1, 1) := by decide +kernel
theorem dX6_readSigned_101 : decode cX6_readSigned 101 = .ok (.isub, 1) := by decide +kernel
theorem dX6_readSigned_102 : decode cX6_readSigned 102 = .ok (.iload_n 1, 1) := by decide +kernel
theorem dX6_readSigned_103 : decode cX6_readSigned 103 = .ok (.iload_n 2, 1) := by decide +kernel
theorem dX6_readSigned_104 : decode cX6_readSigned 104 = .ok (.iload_n 3, 1) := by decide +kernel
theorem dX6_readSigned_105 : decode cX6_readSigned 105 = .ok (.invokevirtual 112, 3) := by decide +kernel
theorem dX6_readSigned_108 : decode cX6_readSigned 108 = .ok (.iconst 1, 1) := by decide +kernel
theorem dX6_readSigned_109 : decode cX6_readSigned 109 = .ok (.ireturn, 1) := by decide +kernel
theorem dX6_readNeed_0 : decode cX6_readNeed 0 = .ok (.aload_n 0, 1) := by decide +kernel
theorem dX6_readNeed_1 : decode cX6_readNeed 1 = .ok (.invokevirtual 72, 3) := by decide +kernel
theorem dX6_readNeed_4 : decode cX6_readNeed 4 = .ok (.ifCond .ne 5, 3) := by decide +kernel
theorem dX6_readNeed_7 : decode cX6_readNeed 7 = .ok (.iconst 0, 1) := by decide +kernel
theorem dX6_readNeed_8 : decode cX6_readNeed 8 = .ok (.ireturn, 1) := by decide +kernel
theorem dX6_readNeed_9 : decode cX6_readNeed 9 = .ok (.aload_n 0, 1) := by decide +kernel
theorem dX6_readNeed_10 : decode cX6_readNeed 10 = .ok (.getfield 21, 3) := by decide +kernel
theorem dX6_readNeed_13 : decode cX6_readNeed 13 = .ok (.aload_n 0, 1) := by decide +kernel
theorem dX6_readNeed_14 : decode cX6_readNeed 14 = .ok (.iconst 0, 1) := by decide +kernel
theorem dX6_readNeed_15 : decode cX6_readNeed 15 = .ok (.bipush 40, 2) := by decide +kernel
theorem dX6_readNeed_17 : decode cX6_readNeed 17 = .ok (.invokevirtual 95, 3) := by decide +kernel
theorem dX6_readNeed_20 : decode cX6_readNeed 20 = .ok (.putfield 116, 3) := by decide +kernel
theorem dX6_readNeed_23 : decode cX6_readNeed 23 = .ok (.aload_n 0, 1) := by decide +kernel
theorem dX6_readNeed_24 : decode cX6_readNeed 24 = .ok (.getfield 21, 3) := by decide +kernel
theorem dX6_readNeed_27 : decode cX6_readNeed 27 = .ok (.getfield 116, 3) := by decide +kernel
theorem dX6_readNeed_30 : decode cX6_readNeed 30 = .ok (.iconst (-1), 1) := by decide +kernel
theorem dX6_readNeed_31 : decode cX6_readNeed 31 = .ok (.if_icmp .eq 7, 3) := by decide +kernel
theorem dX6_readNeed_34 : decode cX6_readNeed 34 = .ok (.iconst 1, 1) := by decide +kernel
theorem dX6_readNeed_35 : decode cX6_readNeed 35 = .ok (.goto 4, 3) := by decide +kernel
theorem dX6_readNeed_38 : decode cX6_readNeed 38 = .ok (.iconst 0, 1) := by decide +kernel
theorem dX6_readNeed_39 : decode cX6_readNeed 39 = .ok (.ireturn, 1) := by decide +kernel
theorem dX6_readSpan_0 : decode cX6_readSpan 0 = .ok (.aload_n 0, 1) := by decide +kernel
theorem dX6_readSpan_1 : decode cX6_readSpan 1 = .ok (.invokevirtual 72, 3) := by decide +kernel
theorem dX6_readSpan_4 : decode cX6_readSpan 4 = .ok (.ifCond .ne 5, 3) := by decide +kernel
theorem dX6_readSpan_7 : decode cX6_readSpan 7 = .ok (.iconst 0, 1) := by decide +kernel
theorem dX6_readSpan_8 : decode cX6_readSpan 8 = .ok (.ireturn, 1) := by decide +kernel
theorem dX6_readSpan_9 : decode cX6_readSpan 9 = .ok (.aload_n 0, 1) := by decide +kernel
theorem dX6_readSpan_10 : decode cX6_readSpan 10 = .ok (.getfield 21, 3) := by decide +kernel
theorem dX6_readSpan_13 : decode cX6_readSpan 13 = .ok (.aload_n 0, 1) := by decide +kernel
theorem dX6_readSpan_14 : decode cX6_readSpan 14 = .ok (.iconst 0, 1) := by decide +kernel
theorem dX6_readSpan_15 : decode cX6_readSpan 15 = .ok (.sipush 999, 3) := by decide +kernel
theorem dX6_readSpan_18 : decode cX6_readSpan 18 = .ok (.invokevirtual 95, 3) := by decide +kernel
theorem dX6_readSpan_21 : decode cX6_readSpan 21 = .ok (.putfield 119, 3) := by decide +kernel
theorem dX6_readSpan_24 : decode cX6_readSpan 24 = .ok (.aload_n 0, 1) := by decide +kernel
theorem dX6_readSpan_25 : decode cX6_readSpan 25 = .ok (.getfield 21, 3) := by decide +kernel
theorem dX6_readSpan_28 : decode cX6_readSpan 28 = .ok (.getfield 119, 3) := by decide +kernel
theorem dX6_readSpan_31 : decode cX6_readSpan 31 = .ok (.iconst (-1), 1) := by decide +kernel
theorem dX6_readSpan_32 : decode cX6_readSpan 32 = .ok (.if_icmp .ne 5, 3) := by decide +kernel
theorem dX6_readSpan_35 : decode cX6_readSpan 35 = .ok (.iconst 0, 1) := by decide +kernel
theorem dX6_readSpan_36 : decode cX6_readSpan 36 = .ok (.ireturn, 1) := by decide +kernel
theorem dX6_readSpan_37 : decode cX6_readSpan 37 = .ok (.aload_n 0, 1) := by decide +kernel
theorem dX6_readSpan_38 : decode cX6_readSpan 38 = .ok (.getfield 21, 3) := by decide +kernel
theorem dX6_readSpan_41 : decode cX6_readSpan 41 = .ok (.aload_n 0, 1) := by decide +kernel
theorem dX6_readSpan_42 : decode cX6_readSpan 42 = .ok (.aload_n 0, 1) := by decide +kernel
theorem dX6_readSpan_43 : decode cX6_readSpan 43 = .ok (.getfield 21, 3) := by decide +kernel
theorem dX6_readSpan_46 : decode cX6_readSpan 46 = .ok (.getfield 119, 3) := by decide +kernel
theorem dX6_readSpan_49 : decode cX6_readSpan 49 = .ok (.sipush 999, 3) := by decide +kernel
theorem dX6_readSpan_52 : decode cX6_readSpan 52 = .ok (.invokevirtual 95, 3) := by decide +kernel
theorem dX6_readSpan_55 : decode cX6_readSpan 55 = .ok (.putfield 122, 3) := by decide +kernel
theorem dX6_readSpan_58 : decode cX6_readSpan 58 = .ok (.aload_n 0, 1) := by decide +kernel
theorem dX6_readSpan_59 : decode cX6_readSpan 59 = .ok (.getfield 21, 3) := by decide +kernel
theorem dX6_readSpan_62 : decode cX6_readSpan 62 = .ok (.getfield 122, 3) := by decide +kernel
theorem dX6_readSpan_65 : decode cX6_readSpan 65 = .ok (.iconst (-1), 1) := by decide +kernel
theorem dX6_readSpan_66 : decode cX6_readSpan 66 = .ok (.if_icmp .eq 7, 3) := by decide +kernel
theorem dX6_readSpan_69 : decode cX6_readSpan 69 = .ok (.iconst 1, 1) := by decide +kernel
theorem dX6_readSpan_70 : decode cX6_readSpan 70 = .ok (.goto 4, 3) := by decide +kernel
theorem dX6_readSpan_73 : decode cX6_readSpan 73 = .ok (.iconst 0, 1) := by decide +kernel
theorem dX6_readSpan_74 : decode cX6_readSpan 74 = .ok (.ireturn, 1) := by decide +kernel
theorem dX6_readSpoilt_0 : decode cX6_readSpoilt 0 = .ok (.aload_n 0, 1) := by decide +kernel
theorem dX6_readSpoilt_1 : decode cX6_readSpoilt 1 = .ok (.invokevirtual 72, 3) := by decide +kernel
theorem dX6_readSpoilt_4 : decode cX6_readSpoilt 4 = .ok (.ifCond .ne 5, 3) := by decide +kernel
theorem dX6_readSpoilt_7 : decode cX6_readSpoilt 7 = .ok (.iconst 0, 1) := by decide +kernel
theorem dX6_readSpoilt_8 : decode cX6_readSpoilt 8 = .ok (.ireturn, 1) := by decide +kernel
theorem dX6_readSpoilt_9 : decode cX6_readSpoilt 9 = .ok (.aload_n 0, 1) := by decide +kernel
theorem dX6_readSpoilt_10 : decode cX6_readSpoilt 10 = .ok (.getfield 21, 3) := by decide +kernel
theorem dX6_readSpoilt_13 : decode cX6_readSpoilt 13 = .ok (.aload_n 0, 1) := by decide +kernel
theorem dX6_readSpoilt_14 : decode cX6_readSpoilt 14 = .ok (.iconst 0, 1) := by decide +kernel
theorem dX6_readSpoilt_15 : decode cX6_readSpoilt 15 = .ok (.bipush 100, 2) := by decide +kernel
theorem dX6_readSpoilt_17 : decode cX6_readSpoilt 17 = .ok (.invokevirtual 95, 3) := by decide +kernel
theorem dX6_readSpoilt_20 : decode cX6_readSpoilt 20 = .ok (.putfield 125, 3) := by decide +kernel
theorem dX6_readSpoilt_23 : decode cX6_readSpoilt 23 = .ok (.aload_n 0, 1) := by decide +kernel
theorem dX6_readSpoilt_24 : decode cX6_readSpoilt 24 = .ok (.getfield 21, 3) := by decide +kernel
theorem dX6_readSpoilt_27 : decode cX6_readSpoilt 27 = .ok (.getfield 125, 3) := by decide +kernel
theorem dX6_readSpoilt_30 : decode cX6_readSpoilt 30 = .ok (.iconst (-1), 1) := by decide +kernel
theorem dX6_readSpoilt_31 : decode cX6_readSpoilt 31 = .ok (.if_icmp .eq 7, 3) := by decide +kernel
theorem dX6_readSpoilt_34 : decode cX6_readSpoilt 34 = .ok (.iconst 1, 1) := by decide +kernel
theorem dX6_readSpoilt_35 : decode cX6_readSpoilt 35 = .ok (.goto 4, 3) := by decide +kernel
theorem dX6_readSpoilt_38 : decode cX6_readSpoilt 38 = .ok (.iconst 0, 1) := by decide +kernel
theorem dX6_readSpoilt_39 : decode cX6_readSpoilt 39 = .ok (.ireturn, 1) := by decide +kernel
theorem dX6_readAlpha_0 : decode cX6_readAlpha 0 = .ok (.aload_n 0, 1) := by decide +kernel
theorem dX6_readAlpha_1 : decode cX6_readAlpha 1 = .ok (.invokevirtual 72, 3) := by decide +kernel
theorem dX6_readAlpha_4 : decode cX6_readAlpha 4 = .ok (.ifCond .ne 5, 3) := by decide +kernel
theorem dX6_readAlpha_7 : decode cX6_readAlpha 7 = .ok (.iconst 0, 1) := by decide +kernel
theorem dX6_readAlpha_8 : decode cX6_readAlpha 8 = .ok (.ireturn, 1) := by decide +kernel
theorem dX6_readAlpha_9 : decode cX6_readAlpha 9 = .ok (.aload_n 0, 1) := by decide +kernel
theorem dX6_readAlpha_10 : decode cX6_readAlpha 10 = .ok (.getfield 21, 3) := by decide +kernel
theorem dX6_readAlpha_13 : decode cX6_readAlpha 13 = .ok (.aload_n 0, 1) := by decide +kernel
theorem dX6_readAlpha_14 : decode cX6_readAlpha 14 = .ok (.iconst 1, 1) := by decide +kernel
theorem dX6_readAlpha_15 : decode cX6_readAlpha 15 = .ok (.sipush 499, 3) := by decide +kernel
theorem dX6_readAlpha_18 : decode cX6_readAlpha 18 = .ok (.invokevirtual 95, 3) := by decide +kernel
theorem dX6_readAlpha_21 : decode cX6_readAlpha 21 = .ok (.putfield 128, 3) := by decide +kernel
theorem dX6_readAlpha_24 : decode cX6_readAlpha 24 = .ok (.aload_n 0, 1) := by decide +kernel
theorem dX6_readAlpha_25 : decode cX6_readAlpha 25 = .ok (.getfield 21, 3) := by decide +kernel
theorem dX6_readAlpha_28 : decode cX6_readAlpha 28 = .ok (.getfield 128, 3) := by decide +kernel
theorem dX6_readAlpha_31 : decode cX6_readAlpha 31 = .ok (.iconst (-1), 1) := by decide +kernel
theorem dX6_readAlpha_32 : decode cX6_readAlpha 32 = .ok (.if_icmp .eq 7, 3) := by decide +kernel
theorem dX6_readAlpha_35 : decode cX6_readAlpha 35 = .ok (.iconst 1, 1) := by decide +kernel
theorem dX6_readAlpha_36 : decode cX6_readAlpha 36 = .ok (.goto 4, 3) := by decide +kernel
theorem dX6_readAlpha_39 : decode cX6_readAlpha 39 = .ok (.iconst 0, 1) := by decide +kernel
theorem dX6_readAlpha_40 : decode cX6_readAlpha 40 = .ok (.ireturn, 1) := by decide +kernel
theorem dX6_readChoice_0 : decode cX6_readChoice 0 = .ok (.aload_n 0, 1) := by decide +kernel
theorem dX6_readChoice_1 : decode cX6_readChoice 1 = .ok (.iload_n 1, 1) := by decide +kernel
theorem dX6_readChoice_2 : decode cX6_readChoice 2 = .ok (.invokevirtual 131, 3) := by decide +kernel
theorem dX6_readChoice_5 : decode cX6_readChoice 5 = .ok (.ifCond .ne 5, 3) := by decide +kernel
theorem dX6_readChoice_8 : decode cX6_readChoice 8 = .ok (.iconst 0, 1) := by decide +kernel
theorem dX6_readChoice_9 : decode cX6_readChoice 9 = .ok (.ireturn, 1) := by decide +kernel
theorem dX6_readChoice_10 : decode cX6_readChoice 10 = .ok (.iconst 0, 1) := by decide +kernel
theorem dX6_readChoice_11 : decode cX6_readChoice 11 = .ok (.istore_n 2, 1) := by decide +kernel
theorem dX6_readChoice_12 : decode cX6_readChoice 12 = .ok (.iload_n 2, 1) := by decide +kernel
theorem dX6_readChoice_13 : decode cX6_readChoice 13 = .ok (.sipush 600, 3) := by decide +kernel
theorem dX6_readChoice_16 : decode cX6_readChoice 16 = .ok (.if_icmp .ge 44, 3) := by decide +kernel
theorem dX6_readChoice_19 : decode cX6_readChoice 19 = .ok (.aload_n 0, 1) := by decide +kernel
theorem dX6_readChoice_20 : decode cX6_readChoice 20 = .ok (.invokevirtual 39, 3) := by decide +kernel
theorem dX6_readChoice_23 : decode cX6_readChoice 23 = .ok (.bipush 9, 2) := by decide +kernel
theorem dX6_readChoice_25 : decode cX6_readChoice 25 = .ok (.if_icmp .ne 35, 3) := by decide +kernel
theorem dX6_readChoice_28 : decode cX6_readChoice 28 = .ok (.aload_n 0, 1) := by decide +kernel
theorem dX6_readChoice_29 : decode cX6_readChoice 29 = .ok (.invokevirtual 89, 3) := by decide +kernel
theorem dX6_readChoice_32 : decode cX6_readChoice 32 = .ok (.aload_n 0, 1) := by decide +kernel
theorem dX6_readChoice_33 : decode cX6_readChoice 33 = .ok (.iload_n 1, 1) := by decide +kernel
theorem dX6_readChoice_34 : decode cX6_readChoice 34 = .ok (.invokevirtual 131, 3) := by decide +kernel
theorem dX6_readChoice_37 : decode cX6_readChoice 37 = .ok (.ifCond .ne 5, 3) := by decide +kernel
theorem dX6_readChoice_40 : decode cX6_readChoice 40 = .ok (.iconst 0, 1) := by decide +kernel
theorem dX6_readChoice_41 : decode cX6_readChoice 41 = .ok (.ireturn, 1) := by decide +kernel
theorem dX6_readChoice_42 : decode cX6_readChoice 42 = .ok (.aload_n 0, 1) := by decide +kernel
theorem dX6_readChoice_43 : decode cX6_readChoice 43 = .ok (.getfield 21, 3) := by decide +kernel
theorem dX6_readChoice_46 : decode cX6_readChoice 46 = .ok (.getfield 134, 3) := by decide +kernel
theorem dX6_readChoice_49 : decode cX6_readChoice 49 = .ok (.bipush (-3), 2) := by decide +kernel
theorem dX6_readChoice_51 : decode cX6_readChoice 51 = .ok (.invokevirtual 140, 3) := by decide +kernel
theorem dX6_readChoice_54 : decode cX6_readChoice 54 = .ok (.iinc 2 1, 3) := by decide +kernel
theorem dX6_readChoice_57 : decode cX6_readChoice 57 = .ok (.goto (-45), 3) := by decide +kernel
theorem dX6_readChoice_60 : decode cX6_readChoice 60 = .ok (.iconst 1, 1) := by decide +kernel
theorem dX6_readChoice_61 : decode cX6_readChoice 61 = .ok (.ireturn, 1) := by decide +kernel
theorem dX6_readChain_0 : decode cX6_readChain 0 = .ok (.aload_n 0, 1) := by decide +kernel
theorem dX6_readChain_1 : decode cX6_readChain 1 = .ok (.iload_n 1, 1) := by decide +kernel
theorem dX6_readChain_2 : decode cX6_readChain 2 = .ok (.invokevirtual 143, 3) := by decide +kernel
theorem dX6_readChain_5 : decode cX6_readChain 5 = .ok (.ifCond .ne 5, 3) := by decide +kernel
theorem dX6_readChain_8 : decode cX6_readChain 8 = .ok (.iconst 0, 1) := by decide +kernel
theorem dX6_readChain_9 : decode cX6_readChain 9 = .ok (.ireturn, 1) := by decide +kernel
theorem dX6_readChain_10 : decode cX6_readChain 10 = .ok (.iconst 0, 1) := by decide +kernel
theorem dX6_readChain_11 : decode cX6_readChain 11 = .ok (.istore_n 2, 1) := by decide +kernel
theorem dX6_readChain_12 : decode cX6_readChain 12 = .ok (.iload_n 2, 1) := by decide +kernel
theorem dX6_readChain_13 : decode cX6_readChain 13 = .ok (.sipush 600, 3) := by decide +kernel
theorem dX6_readChain_16 : decode cX6_readChain 16 = .ok (.if_icmp .ge 44, 3) := by decide +kernel
theorem dX6_readChain_19 : decode cX6_readChain 19 = .ok (.aload_n 0, 1) := by decide +kernel
theorem dX6_readChain_20 : decode cX6_readChain 20 = .ok (.invokevirtual 39, 3) := by decide +kernel
theorem dX6_readChain_23 : decode cX6_readChain 23 = .ok (.bipush 10, 2) := by decide +kernel
theorem dX6_readChain_25 : decode cX6_readChain 25 = .ok (.if_icmp .ne 35, 3) := by decide +kernel
theorem dX6_readChain_28 : decode cX6_readChain 28 = .ok (.aload_n 0, 1) := by decide +kernel
theorem dX6_readChain_29 : decode cX6_readChain 29 = .ok (.invokevirtual 89, 3) := by decide +kernel
theorem dX6_readChain_32 : decode cX6_readChain 32 = .ok (.aload_n 0, 1) := by decide +kernel
theorem dX6_readChain_33 : decode cX6_readChain 33 = .ok (.iload_n 1, 1) := by decide +kernel
theorem dX6_readChain_34 : decode cX6_readChain 34 = .ok (.invokevirtual 143, 3) := by decide +kernel
theorem dX6_readChain_37 : decode cX6_readChain 37 = .ok (.ifCond .ne 5, 3) := by decide +kernel
theorem dX6_readChain_40 : decode cX6_readChain 40 = .ok (.iconst 0, 1) := by decide +kernel
theorem dX6_readChain_41 : decode cX6_readChain 41 = .ok (.ireturn, 1) := by decide +kernel
theorem dX6_readChain_42 : decode cX6_readChain 42 = .ok (.aload_n 0, 1) := by decide +kernel
theorem dX6_readChain_43 : decode cX6_readChain 43 = .ok (.getfield 21, 3) := by decide +kernel
theorem dX6_readChain_46 : decode cX6_readChain 46 = .ok (.getfield 134, 3) := by decide +kernel
theorem dX6_readChain_49 : decode cX6_readChain 49 = .ok (.bipush (-2), 2) := by decide +kernel
theorem dX6_readChain_51 : decode cX6_readChain 51 = .ok (.invokevirtual 140, 3) := by decide +kernel
theorem dX6_readChain_54 : decode cX6_readChain 54 = .ok (.iinc 2 1, 3) := by decide +kernel
theorem dX6_readChain_57 : decode cX6_readChain 57 = .ok (.goto (-45), 3) := by decide +kernel
theorem dX6_readChain_60 : decode cX6_readChain 60 = .ok (.iconst 1, 1) := by decide +kernel
theorem dX6_readChain_61 : decode cX6_readChain 61 = .ok (.ireturn, 1) := by decide +kernel
theorem dX6_readPart_0 : decode cX6_readPart 0 = .ok (.aload_n 0, 1) := by decide +kernel
theorem dX6_readPart_1 : decode cX6_readPart 1 = .ok (.invokevirtual 39, 3) := by decide +kernel
theorem dX6_readPart_4 : decode cX6_readPart 4 = .ok (.bipush 11, 2) := by decide +kernel
theorem dX6_readPart_6 : decode cX6_readPart 6 = .ok (.if_icmp .ne 7, 3) := by decide +kernel
theorem dX6_readPart_9 : decode cX6_readPart 9 = .ok (.iconst 1, 1) := by decide +kernel
theorem dX6_readPart_10 : decode cX6_readPart 10 = .ok (.goto 4, 3) := by decide +kernel
theorem dX6_readPart_13 : decode cX6_readPart 13 = .ok (.iconst 0, 1) := by decide +kernel
theorem dX6_readPart_14 : decode cX6_readPart 14 = .ok (.istore_n 2, 1) := by decide +kernel
theorem dX6_readPart_15 : decode cX6_readPart 15 = .ok (.iload_n 2, 1) := by decide +kernel
theorem dX6_readPart_16 : decode cX6_readPart 16 = .ok (.ifCond .ne 17, 3) := by decide +kernel
theorem dX6_readPart_19 : decode cX6_readPart 19 = .ok (.aload_n 0, 1) := by decide +kernel
theorem dX6_readPart_20 : decode cX6_readPart 20 = .ok (.invokevirtual 39, 3) := by decide +kernel
theorem dX6_readPart_23 : decode cX6_readPart 23 = .ok (.bipush 40, 2) := by decide +kernel
theorem dX6_readPart_25 : decode cX6_readPart 25 = .ok (.if_icmp .eq 8, 3) := by decide +kernel
theorem dX6_readPart_28 : decode cX6_readPart 28 = .ok (.aload_n 0, 1) := by decide +kernel
theorem dX6_readPart_29 : decode cX6_readPart 29 = .ok (.invokevirtual 146, 3) := by decide +kernel
theorem dX6_readPart_32 : decode cX6_readPart 32 = .ok (.ireturn, 1) := by decide +kernel
theorem dX6_readPart_33 : decode cX6_readPart 33 = .ok (.iload_n 1, 1) := by decide +kernel
theorem dX6_readPart_34 : decode cX6_readPart 34 = .ok (.iconst 4, 1) := by decide +kernel
theorem dX6_readPart_35 : decode cX6_readPart 35 = .ok (.if_icmp .lt 13, 3) := by decide +kernel
theorem dX6_readPart_38 : decode cX6_readPart 38 = .ok (.aload_n 0, 1) := by decide +kernel
theorem dX6_readPart_39 : decode cX6_readPart 39 = .ok (.iconst 5, 1) := by decide +kernel
theorem dX6_readPart_40 : decode cX6_readPart 40 = .ok (.aload_n 0, 1) := by decide +kernel
theorem dX6_readPart_41 : decode cX6_readPart 41 = .ok (.invokevirtual 79, 3) := by decide +kernel
theorem dX6_readPart_44 : decode cX6_readPart 44 = .ok (.invokevirtual 82, 3) := by decide +kernel
theorem dX6_readPart_47 : decode cX6_readPart 47 = .ok (.ireturn, 1) := by decide +kernel
theorem dX6_readPart_48 : decode cX6_readPart 48 = .ok (.aload_n 0, 1) := by decide +kernel
theorem dX6_readPart_49 : decode cX6_readPart 49 = .ok (.invokevirtual 89, 3) := by decide +kernel
theorem dX6_readPart_52 : decode cX6_readPart 52 = .ok (.iload_n 2, 1) := by decide +kernel
theorem dX6_readPart_53 : decode cX6_readPart 53 = .ok (.ifCond .ne 28, 3) := by decide +kernel
theorem dX6_readPart_56 : decode cX6_readPart 56 = .ok (.aload_n 0, 1) := by decide +kernel
theorem dX6_readPart_57 : decode cX6_readPart 57 = .ok (.iload_n 1, 1) := by decide +kernel
theorem dX6_readPart_58 : decode cX6_readPart 58 = .ok (.iconst 1, 1) := by decide +kernel
theorem dX6_readPart_59 : decode cX6_readPart 59 = .ok (.iadd, 1) := by decide +kernel
theorem dX6_readPart_60 : decode cX6_readPart 60 = .ok (.invokevirtual 75, 3) := by decide +kernel
theorem dX6_readPart_63 : decode cX6_readPart 63 = .ok (.ifCond .eq 16, 3) := by decide +kernel
theorem dX6_readPart_66 : decode cX6_readPart 66 = .ok (.aload_n 0, 1) := by decide +kernel
theorem dX6_readPart_67 : decode cX6_readPart 67 = .ok (.bipush 41, 2) := by decide +kernel
theorem dX6_readPart_69 : decode cX6_readPart 69 = .ok (.invokevirtual 47, 3) := by decide +kernel
theorem dX6_readPart_72 : decode cX6_readPart 72 = .ok (.ifCond .eq 7, 3) := by decide +kernel
theorem dX6_readPart_75 : decode cX6_readPart 75 = .ok (.iconst 1, 1) := by decide +kernel
theorem dX6_readPart_76 : decode cX6_readPart 76 = .ok (.goto 4, 3) := by decide +kernel
theorem dX6_readPart_79 : decode cX6_readPart 79 = .ok (.iconst 0, 1) := by decide +kernel
theorem dX6_readPart_80 : decode cX6_readPart 80 = .ok (.ireturn, 1) := by decide +kernel
theorem dX6_readPart_81 : decode cX6_readPart 81 = .ok (.aload_n 0, 1) := by decide +kernel
theorem dX6_readPart_82 : decode cX6_readPart 82 = .ok (.iload_n 1, 1) := by decide +kernel
theorem dX6_readPart_83 : decode cX6_readPart 83 = .ok (.iconst 1, 1) := by decide +kernel
theorem dX6_readPart_84 : decode cX6_readPart 84 = .ok (.iadd, 1) := by decide +kernel
theorem dX6_readPart_85 : decode cX6_readPart 85 = .ok (.invokevirtual 143, 3) := by decide +kernel
theorem dX6_readPart_88 : decode cX6_readPart 88 = .ok (.ifCond .ne 5, 3) := by decide +kernel
theorem dX6_readPart_91 : decode cX6_readPart 91 = .ok (.iconst 0, 1) := by decide +kernel
theorem dX6_readPart_92 : decode cX6_readPart 92 = .ok (.ireturn, 1) := by decide +kernel
theorem dX6_readPart_93 : decode cX6_readPart 93 = .ok (.aload_n 0, 1) := by decide +kernel
theorem dX6_readPart_94 : decode cX6_readPart 94 = .ok (.getfield 21, 3) := by decide +kernel
theorem dX6_readPart_97 : decode cX6_readPart 97 = .ok (.getfield 134, 3) := by decide +kernel
theorem dX6_readPart_100 : decode cX6_readPart 100 = .ok (.iconst (-1), 1) := by decide +kernel
theorem dX6_readPart_101 : decode cX6_readPart 101 = .ok (.invokevirtual 140, 3) := by decide +kernel
theorem dX6_readPart_104 : decode cX6_readPart 104 = .ok (.iconst 1, 1) := by decide +kernel
theorem dX6_readPart_105 : decode cX6_readPart 105 = .ok (.ireturn, 1) := by decide +kernel
theorem dX6_readComparison_0 : decode cX6_readComparison 0 = .ok (.aload_n 0, 1) := by decide +kernel
theorem dX6_readComparison_1 : decode cX6_readComparison 1 = .ok (.invokevirtual 149, 3) := by decide +kernel
theorem dX6_readComparison_4 : decode cX6_readComparison 4 = .ok (.istore_n 1, 1) := by decide +kernel
theorem dX6_readComparison_5 : decode cX6_readComparison 5 = .ok (.iload_n 1, 1) := by decide +kernel
theorem dX6_readComparison_6 : decode cX6_readComparison 6 = .ok (.iconst (-1), 1) := by decide +kernel
theorem dX6_readComparison_7 : decode cX6_readComparison 7 = .ok (.if_icmp .ne 5, 3) := by decide +kernel
theorem dX6_readComparison_10 : decode cX6_readComparison 10 = .ok (.iconst 0, 1) := by decide +kernel
theorem dX6_readComparison_11 : decode cX6_readComparison 11 = .ok (.ireturn, 1) := by decide +kernel
theorem dX6_readComparison_12 : decode cX6_readComparison 12 = .ok (.aload_n 0, 1) := by decide +kernel
theorem dX6_readComparison_13 : decode cX6_readComparison 13 = .ok (.invokevirtual 39, 3) := by decide +kernel
theorem dX6_readComparison_16 : decode cX6_readComparison 16 = .ok (.istore_n 2, 1) := by decide +kernel
theorem dX6_readComparison_17 : decode cX6_readComparison 17 = .ok (.iload_n 2, 1) := by decide +kernel
theorem dX6_readComparison_18 : decode cX6_readComparison 18 = .ok (.bipush 60, 2) := by decide +kernel
theorem dX6_readComparison_20 : decode cX6_readComparison 20 = .ok (.if_icmp .eq 25, 3) := by decide +kernel
theorem dX6_readComparison_23 : decode cX6_readComparison 23 = .ok (.iload_n 2, 1) := by decide +kernel
theorem dX6_readComparison_24 : decode cX6_readComparison 24 = .ok (.bipush 61, 2) := by decide +kernel
theorem dX6_readComparison_26 : decode cX6_readComparison 26 = .ok (.if_icmp .eq 19, 3) := by decide +kernel
theorem dX6_readComparison_29 : decode cX6_readComparison 29 = .ok (.iload_n 2, 1) := by decide +kernel
theorem dX6_readComparison_30 : decode cX6_readComparison 30 = .ok (.bipush 62, 2) := by decide +kernel
theorem dX6_readComparison_32 : decode cX6_readComparison 32 = .ok (.if_icmp .eq 13, 3) := by decide +kernel
theorem dX6_readComparison_35 : decode cX6_readComparison 35 = .ok (.aload_n 0, 1) := by decide +kernel
theorem dX6_readComparison_36 : decode cX6_readComparison 36 = .ok (.iconst 1, 1) := by decide +kernel
theorem dX6_readComparison_37 : decode cX6_readComparison 37 = .ok (.aload_n 0, 1) := by decide +kernel
theorem dX6_readComparison_38 : decode cX6_readComparison 38 = .ok (.invokevirtual 79, 3) := by decide +kernel
theorem dX6_readComparison_41 : decode cX6_readComparison 41 = .ok (.invokevirtual 82, 3) := by decide +kernel
theorem dX6_readComparison_44 : decode cX6_readComparison 44 = .ok (.ireturn, 1) := by decide +kernel
theorem dX6_readComparison_45 : decode cX6_readComparison 45 = .ok (.aload_n 0, 1) := by decide +kernel
theorem dX6_readComparison_46 : decode cX6_readComparison 46 = .ok (.invokevirtual 89, 3) := by decide +kernel
theorem dX6_readComparison_49 : decode cX6_readComparison 49 = .ok (.aload_n 0, 1) := by decide +kernel
theorem dX6_readComparison_50 : decode cX6_readComparison 50 = .ok (.invokevirtual 149, 3) := by decide +kernel
theorem dX6_readComparison_53 : decode cX6_readComparison 53 = .ok (.istore_n 3, 1) := by decide +kernel
theorem dX6_readComparison_54 : decode cX6_readComparison 54 = .ok (.iload_n 3, 1) := by decide +kernel
theorem dX6_readComparison_55 : decode cX6_readComparison 55 = .ok (.iconst (-1), 1) := by decide +kernel
theorem dX6_readComparison_56 : decode cX6_readComparison 56 = .ok (.if_icmp .ne 5, 3) := by decide +kernel
theorem dX6_readComparison_59 : decode cX6_readComparison 59 = .ok (.iconst 0, 1) := by decide +kernel
theorem dX6_readComparison_60 : decode cX6_readComparison 60 = .ok (.ireturn, 1) := by decide +kernel
theorem dX6_readComparison_61 : decode cX6_readComparison 61 = .ok (.aload_n 0, 1) := by decide +kernel
theorem dX6_readComparison_62 : decode cX6_readComparison 62 = .ok (.getfield 21, 3) := by decide +kernel
theorem dX6_readComparison_65 : decode cX6_readComparison 65 = .ok (.getfield 134, 3) := by decide +kernel
theorem dX6_readComparison_68 : decode cX6_readComparison 68 = .ok (.iload_n 1, 1) := by decide +kernel
theorem dX6_readComparison_69 : decode cX6_readComparison 69 = .ok (.iload_n 2, 1) := by decide +kernel
theorem dX6_readComparison_70 : decode cX6_readComparison 70 = .ok (.bipush 61, 2) := by decide +kernel
theorem dX6_readComparison_72 : decode cX6_readComparison 72 = .ok (.isub, 1) := by decide +kernel
theorem dX6_readComparison_73 : decode cX6_readComparison 73 = .ok (.iload_n 3, 1) := by decide +kernel
theorem dX6_readComparison_74 : decode cX6_readComparison 74 = .ok (.invokevirtual 152, 3) := by decide +kernel
theorem dX6_readComparison_77 : decode cX6_readComparison 77 = .ok (.iconst 1, 1) := by decide +kernel
theorem dX6_readComparison_78 : decode cX6_readComparison 78 = .ok (.ireturn, 1) := by decide +kernel
theorem dX6_takeOperand_0 : decode cX6_takeOperand 0 = .ok (.aload_n 0, 1) := by decide +kernel
theorem dX6_takeOperand_1 : decode cX6_takeOperand 1 = .ok (.invokevirtual 39, 3) := by decide +kernel
theorem dX6_takeOperand_4 : decode cX6_takeOperand 4 = .ok (.bipush 18, 2) := by decide +kernel
theorem dX6_takeOperand_6 : decode cX6_takeOperand 6 = .ok (.if_icmp .ne 12, 3) := by decide +kernel
theorem dX6_takeOperand_9 : decode cX6_takeOperand 9 = .ok (.aload_n 0, 1) := by decide +kernel
theorem dX6_takeOperand_10 : decode cX6_takeOperand 10 = .ok (.iconst 0, 1) := by decide +kernel
theorem dX6_takeOperand_11 : decode cX6_takeOperand 11 = .ok (.sipush 999, 3) := by decide +kernel
theorem dX6_takeOperand_14 : decode cX6_takeOperand 14 = .ok (.invokevirtual 95, 3) := by decide +kernel
theorem dX6_takeOperand_17 : decode cX6_takeOperand 17 = .ok (.ireturn, 1) := by decide +kernel
theorem dX6_takeOperand_18 : decode cX6_takeOperand 18 = .ok (.aload_n 0, 1) := by decide +kernel
theorem dX6_takeOperand_19 : decode cX6_takeOperand 19 = .ok (.invokevirtual 39, 3) := by decide +kernel
theorem dX6_takeOperand_22 : decode cX6_takeOperand 22 = .ok (.invokestatic 155, 3) := by decide +kernel
theorem dX6_takeOperand_25 : decode cX6_takeOperand 25 = .ok (.istore_n 1, 1) := by decide +kernel
theorem dX6_takeOperand_26 : decode cX6_takeOperand 26 = .ok (.iload_n 1, 1) := by decide +kernel
theorem dX6_takeOperand_27 : decode cX6_takeOperand 27 = .ok (.iconst (-1), 1) := by decide +kernel
theorem dX6_takeOperand_28 : decode cX6_takeOperand 28 = .ok (.if_icmp .ne 15, 3) := by decide +kernel
theorem dX6_takeOperand_31 : decode cX6_takeOperand 31 = .ok (.aload_n 0, 1) := by decide +kernel
theorem dX6_takeOperand_32 : decode cX6_takeOperand 32 = .ok (.iconst 1, 1) := by decide +kernel
theorem dX6_takeOperand_33 : decode cX6_takeOperand 33 = .ok (.aload_n 0, 1) := by decide +kernel
theorem dX6_takeOperand_34 : decode cX6_takeOperand 34 = .ok (.invokevirtual 79, 3) := by decide +kernel
theorem dX6_takeOperand_37 : decode cX6_takeOperand 37 = .ok (.invokevirtual 82, 3) := by decide +kernel
theorem dX6_takeOperand_40 : decode cX6_takeOperand 40 = .ok (.pop, 1) := by decide +kernel
theorem dX6_takeOperand_41 : decode cX6_takeOperand 41 = .ok (.iconst (-1), 1) := by decide +kernel
theorem dX6_takeOperand_42 : decode cX6_takeOperand 42 = .ok (.ireturn, 1) := by decide +kernel
theorem dX6_takeOperand_43 : decode cX6_takeOperand 43 = .ok (.aload_n 0, 1) := by decide +kernel
theorem dX6_takeOperand_44 : decode cX6_takeOperand 44 = .ok (.invokevirtual 89, 3) := by decide +kernel
theorem dX6_takeOperand_47 : decode cX6_takeOperand 47 = .ok (.sipush 1000, 3) := by decide +kernel
theorem dX6_takeOperand_50 : decode cX6_takeOperand 50 = .ok (.iload_n 1, 1) := by decide +kernel
theorem dX6_takeOperand_51 : decode cX6_takeOperand 51 = .ok (.iadd, 1) := by decide +kernel
theorem dX6_takeOperand_52 : decode cX6_takeOperand 52 = .ok (.ireturn, 1) := by decide +kernel
theorem dX6_factOf_0 : decode cX6_factOf 0 = .ok (.iload_n 0, 1) := by decide +kernel
theorem dX6_factOf_1 : decode cX6_factOf 1 = .ok (.tableswitch 87 2 16 #[81, 87, 87, 87, 87, 87, 87, 87, 87, 87, 75, 77, 79, 83, 85], 75) := by decide +kernel
theorem dX6_factOf_76 : decode cX6_factOf 76 = .ok (.iconst 0, 1) := by decide +kernel
theorem dX6_factOf_77 : decode cX6_factOf 77 = .ok (.ireturn, 1) := by decide +kernel
theorem dX6_factOf_78 : decode cX6_factOf 78 = .ok (.iconst 1, 1) := by decide +kernel
theorem dX6_factOf_79 : decode cX6_factOf 79 = .ok (.ireturn, 1) := by decide +kernel
theorem dX6_factOf_80 : decode cX6_factOf 80 = .ok (.iconst 2, 1) := by decide +kernel
theorem dX6_factOf_81 : decode cX6_factOf 81 = .ok (.ireturn, 1) := by decide +kernel
theorem dX6_factOf_82 : decode cX6_factOf 82 = .ok (.iconst 3, 1) := by decide +kernel
theorem dX6_factOf_83 : decode cX6_factOf 83 = .ok (.ireturn, 1) := by decide +kernel
theorem dX6_factOf_84 : decode cX6_factOf 84 = .ok (.iconst 4, 1) := by decide +kernel
theorem dX6_factOf_85 : decode cX6_factOf 85 = .ok (.ireturn, 1) := by decide +kernel
theorem dX6_factOf_86 : decode cX6_factOf 86 = .ok (.iconst 5, 1) := by decide +kernel
theorem dX6_factOf_87 : decode cX6_factOf 87 = .ok (.ireturn, 1) := by decide +kernel
theorem dX6_factOf_88 : decode cX6_factOf 88 = .ok (.iconst (-1), 1) := by decide +kernel
theorem dX6_factOf_89 : decode cX6_factOf 89 = .ok (.ireturn, 1) := by decide +kernel
theorem dX6_takeOnce_0 : decode cX6_takeOnce 0 = .ok (.iconst 1, 1) := by decide +kernel
theorem dX6_takeOnce_1 : decode cX6_takeOnce 1 = .ok (.aload_n 0, 1) := by decide +kernel
theorem dX6_takeOnce_2 : decode cX6_takeOnce 2 = .ok (.invokevirtual 39, 3) := by decide +kernel
theorem dX6_takeOnce_5 : decode cX6_takeOnce 5 = .ok (.ishl, 1) := by decide +kernel
theorem dX6_takeOnce_6 : decode cX6_takeOnce 6 = .ok (.istore_n 1, 1) := by decide +kernel
theorem dX6_takeOnce_7 : decode cX6_takeOnce 7 = .ok (.aload_n 0, 1) := by decide +kernel
theorem dX6_takeOnce_8 : decode cX6_takeOnce 8 = .ok (.getfield 36, 3) := by decide +kernel
theorem dX6_takeOnce_11 : decode cX6_takeOnce 11 = .ok (.iload_n 1, 1) := by decide +kernel
theorem dX6_takeOnce_12 : decode cX6_takeOnce 12 = .ok (.iand, 1) := by decide +kernel
theorem dX6_takeOnce_13 : decode cX6_takeOnce 13 = .ok (.ifCond .eq 13, 3) := by decide +kernel
theorem dX6_takeOnce_16 : decode cX6_takeOnce 16 = .ok (.aload_n 0, 1) := by decide +kernel
theorem dX6_takeOnce_17 : decode cX6_takeOnce 17 = .ok (.iconst 1, 1) := by decide +kernel
theorem dX6_takeOnce_18 : decode cX6_takeOnce 18 = .ok (.aload_n 0, 1) := by decide +kernel
theorem dX6_takeOnce_19 : decode cX6_takeOnce 19 = .ok (.invokevirtual 79, 3) := by decide +kernel
theorem dX6_takeOnce_22 : decode cX6_takeOnce 22 = .ok (.invokevirtual 82, 3) := by decide +kernel
theorem dX6_takeOnce_25 : decode cX6_takeOnce 25 = .ok (.ireturn, 1) := by decide +kernel
theorem dX6_takeOnce_26 : decode cX6_takeOnce 26 = .ok (.aload_n 0, 1) := by decide +kernel
theorem dX6_takeOnce_27 : decode cX6_takeOnce 27 = .ok (.dup, 1) := by decide +kernel
theorem dX6_takeOnce_28 : decode cX6_takeOnce 28 = .ok (.getfield 36, 3) := by decide +kernel
theorem dX6_takeOnce_31 : decode cX6_takeOnce 31 = .ok (.iload_n 1, 1) := by decide +kernel
theorem dX6_takeOnce_32 : decode cX6_takeOnce 32 = .ok (.ior, 1) := by decide +kernel
theorem dX6_takeOnce_33 : decode cX6_takeOnce 33 = .ok (.putfield 36, 3) := by decide +kernel
theorem dX6_takeOnce_36 : decode cX6_takeOnce 36 = .ok (.aload_n 0, 1) := by decide +kernel
theorem dX6_takeOnce_37 : decode cX6_takeOnce 37 = .ok (.invokevirtual 89, 3) := by decide +kernel
theorem dX6_takeOnce_40 : decode cX6_takeOnce 40 = .ok (.iconst 1, 1) := by decide +kernel
theorem dX6_takeOnce_41 : decode cX6_takeOnce 41 = .ok (.ireturn, 1) := by decide +kernel
theorem dX6_takeSign_0 : decode cX6_takeSign 0 = .ok (.aload_n 0, 1) := by decide +kernel
theorem dX6_takeSign_1 : decode cX6_takeSign 1 = .ok (.invokevirtual 39, 3) := by decide +kernel
theorem dX6_takeSign_4 : decode cX6_takeSign 4 = .ok (.iload_n 1, 1) := by decide +kernel
theorem dX6_takeSign_5 : decode cX6_takeSign 5 = .ok (.if_icmp .eq 13, 3) := by decide +kernel
theorem dX6_takeSign_8 : decode cX6_takeSign 8 = .ok (.aload_n 0, 1) := by decide +kernel
theorem dX6_takeSign_9 : decode cX6_takeSign 9 = .ok (.iconst 1, 1) := by decide +kernel
theorem dX6_takeSign_10 : decode cX6_takeSign 10 = .ok (.aload_n 0, 1) := by decide +kernel
theorem dX6_takeSign_11 : decode cX6_takeSign 11 = .ok (.invokevirtual 79, 3) := by decide +kernel
theorem dX6_takeSign_14 : decode cX6_takeSign 14 = .ok (.invokevirtual 82, 3) := by decide +kernel
theorem dX6_takeSign_17 : decode cX6_takeSign 17 = .ok (.ireturn, 1) := by decide +kernel
theorem dX6_takeSign_18 : decode cX6_takeSign 18 = .ok (.aload_n 0, 1) := by decide +kernel
theorem dX6_takeSign_19 : decode cX6_takeSign 19 = .ok (.invokevirtual 89, 3) := by decide +kernel
theorem dX6_takeSign_22 : decode cX6_takeSign 22 = .ok (.iconst 1, 1) := by decide +kernel
theorem dX6_takeSign_23 : decode cX6_takeSign 23 = .ok (.ireturn, 1) := by decide +kernel
theorem dX6_takeNumber_0 : decode cX6_takeNumber 0 = .ok (.aload_n 0, 1) := by decide +kernel
theorem dX6_takeNumber_1 : decode cX6_takeNumber 1 = .ok (.invokevirtual 39, 3) := by decide +kernel
theorem dX6_takeNumber_4 : decode cX6_takeNumber 4 = .ok (.bipush 18, 2) := by decide +kernel
theorem dX6_takeNumber_6 : decode cX6_takeNumber 6 = .ok (.if_icmp .eq 15, 3) := by decide +kernel
theorem dX6_takeNumber_9 : decode cX6_takeNumber 9 = .ok (.aload_n 0, 1) := by decide +kernel
theorem dX6_takeNumber_10 : decode cX6_takeNumber 10 = .ok (.iconst 1, 1) := by decide +kernel
theorem dX6_takeNumber_11 : decode cX6_takeNumber 11 = .ok (.aload_n 0, 1) := by decide +kernel
theorem dX6_takeNumber_12 : decode cX6_takeNumber 12 = .ok (.invokevirtual 79, 3) := by decide +kernel
theorem dX6_takeNumber_15 : decode cX6_takeNumber 15 = .ok (.invokevirtual 82, 3) := by decide +kernel
theorem dX6_takeNumber_18 : decode cX6_takeNumber 18 = .ok (.pop, 1) := by decide +kernel
theorem dX6_takeNumber_19 : decode cX6_takeNumber 19 = .ok (.iconst (-1), 1) := by decide +kernel
theorem dX6_takeNumber_20 : decode cX6_takeNumber 20 = .ok (.ireturn, 1) := by decide +kernel
theorem dX6_takeNumber_21 : decode cX6_takeNumber 21 = .ok (.aload_n 0, 1) := by decide +kernel
theorem dX6_takeNumber_22 : decode cX6_takeNumber 22 = .ok (.getfield 12, 3) := by decide +kernel
theorem dX6_takeNumber_25 : decode cX6_takeNumber 25 = .ok (.getfield 159, 3) := by decide +kernel
theorem dX6_takeNumber_28 : decode cX6_takeNumber 28 = .ok (.aload_n 0, 1) := by decide +kernel
theorem dX6_takeNumber_29 : decode cX6_takeNumber 29 = .ok (.getfield 32, 3) := by decide +kernel
theorem dX6_takeNumber_32 : decode cX6_takeNumber 32 = .ok (.iaload, 1) := by decide +kernel
theorem dX6_takeNumber_33 : decode cX6_takeNumber 33 = .ok (.istore_n 3, 1) := by decide +kernel
theorem dX6_takeNumber_34 : decode cX6_takeNumber 34 = .ok (.iload_n 3, 1) := by decide +kernel
theorem dX6_takeNumber_35 : decode cX6_takeNumber 35 = .ok (.iload_n 1, 1) := by decide +kernel
theorem dX6_takeNumber_36 : decode cX6_takeNumber 36 = .ok (.if_icmp .lt 8, 3) := by decide +kernel
theorem dX6_takeNumber_39 : decode cX6_takeNumber 39 = .ok (.iload_n 3, 1) := by decide +kernel
theorem dX6_takeNumber_40 : decode cX6_takeNumber 40 = .ok (.iload_n 2, 1) := by decide +kernel
theorem dX6_takeNumber_41 : decode cX6_takeNumber 41 = .ok (.if_icmp .le 15, 3) := by decide +kernel
theorem dX6_takeNumber_44 : decode cX6_takeNumber 44 = .ok (.aload_n 0, 1) := by decide +kernel
theorem dX6_takeNumber_45 : decode cX6_takeNumber 45 = .ok (.iconst 2, 1) := by decide +kernel
theorem dX6_takeNumber_46 : decode cX6_takeNumber 46 = .ok (.aload_n 0, 1) := by decide +kernel
theorem dX6_takeNumber_47 : decode cX6_takeNumber 47 = .ok (.invokevirtual 79, 3) := by decide +kernel
theorem dX6_takeNumber_50 : decode cX6_takeNumber 50 = .ok (.invokevirtual 82, 3) := by decide +kernel
theorem dX6_takeNumber_53 : decode cX6_takeNumber 53 = .ok (.pop, 1) := by decide +kernel
theorem dX6_takeNumber_54 : decode cX6_takeNumber 54 = .ok (.iconst (-1), 1) := by decide +kernel
theorem dX6_takeNumber_55 : decode cX6_takeNumber 55 = .ok (.ireturn, 1) := by decide +kernel
theorem dX6_takeNumber_56 : decode cX6_takeNumber 56 = .ok (.aload_n 0, 1) := by decide +kernel
theorem dX6_takeNumber_57 : decode cX6_takeNumber 57 = .ok (.invokevirtual 89, 3) := by decide +kernel
theorem dX6_takeNumber_60 : decode cX6_takeNumber 60 = .ok (.iload_n 3, 1) := by decide +kernel
theorem dX6_takeNumber_61 : decode cX6_takeNumber 61 = .ok (.ireturn, 1) := by decide +kernel
theorem dX6_takeName_0 : decode cX6_takeName 0 = .ok (.aload_n 0, 1) := by decide +kernel
theorem dX6_takeName_1 : decode cX6_takeName 1 = .ok (.invokevirtual 39, 3) := by decide +kernel
theorem dX6_takeName_4 : decode cX6_takeName 4 = .ok (.iconst 1, 1) := by decide +kernel
theorem dX6_takeName_5 : decode cX6_takeName 5 = .ok (.if_icmp .lt 16, 3) := by decide +kernel
theorem dX6_takeName_8 : decode cX6_takeName 8 = .ok (.aload_n 0, 1) := by decide +kernel
theorem dX6_takeName_9 : decode cX6_takeName 9 = .ok (.invokevirtual 39, 3) := by decide +kernel
theorem dX6_takeName_12 : decode cX6_takeName 12 = .ok (.bipush 17, 2) := by decide +kernel
theorem dX6_takeName_14 : decode cX6_takeName 14 = .ok (.if_icmp .gt 7, 3) := by decide +kernel
theorem dX6_takeName_17 : decode cX6_takeName 17 = .ok (.iconst 1, 1) := by decide +kernel
theorem dX6_takeName_18 : decode cX6_takeName 18 = .ok (.goto 4, 3) := by decide +kernel
theorem dX6_takeName_21 : decode cX6_takeName 21 = .ok (.iconst 0, 1) := by decide +kernel
theorem dX6_takeName_22 : decode cX6_takeName 22 = .ok (.istore_n 1, 1) := by decide +kernel
theorem dX6_takeName_23 : decode cX6_takeName 23 = .ok (.iload_n 1, 1) := by decide +kernel
theorem dX6_takeName_24 : decode cX6_takeName 24 = .ok (.ifCond .eq 19, 3) := by decide +kernel
theorem dX6_takeName_27 : decode cX6_takeName 27 = .ok (.aload_n 0, 1) := by decide +kernel
theorem dX6_takeName_28 : decode cX6_takeName 28 = .ok (.getfield 12, 3) := by decide +kernel
theorem dX6_takeName_31 : decode cX6_takeName 31 = .ok (.getfield 159, 3) := by decide +kernel
theorem dX6_takeName_34 : decode cX6_takeName 34 = .ok (.aload_n 0, 1) := by decide +kernel
theorem dX6_takeName_35 : decode cX6_takeName 35 = .ok (.getfield 32, 3) := by decide +kernel
theorem dX6_takeName_38 : decode cX6_takeName 38 = .ok (.iaload, 1) := by decide +kernel
theorem dX6_takeName_39 : decode cX6_takeName 39 = .ok (.iconst (-1), 1) := by decide +kernel
theorem dX6_takeName_40 : decode cX6_takeName 40 = .ok (.if_icmp .ne 15, 3) := by decide +kernel
theorem dX6_takeName_43 : decode cX6_takeName 43 = .ok (.aload_n 0, 1) := by decide +kernel
theorem dX6_takeName_44 : decode cX6_takeName 44 = .ok (.iconst 1, 1) := by decide +kernel
theorem dX6_takeName_45 : decode cX6_takeName 45 = .ok (.aload_n 0, 1) := by decide +kernel
theorem dX6_takeName_46 : decode cX6_takeName 46 = .ok (.invokevirtual 79, 3) := by decide +kernel
theorem dX6_takeName_49 : decode cX6_takeName 49 = .ok (.invokevirtual 82, 3) := by decide +kernel
theorem dX6_takeName_52 : decode cX6_takeName 52 = .ok (.pop, 1) := by decide +kernel
theorem dX6_takeName_53 : decode cX6_takeName 53 = .ok (.iconst (-1), 1) := by decide +kernel
theorem dX6_takeName_54 : decode cX6_takeName 54 = .ok (.ireturn, 1) := by decide +kernel
theorem dX6_takeName_55 : decode cX6_takeName 55 = .ok (.aload_n 0, 1) := by decide +kernel
theorem dX6_takeName_56 : decode cX6_takeName 56 = .ok (.getfield 12, 3) := by decide +kernel
theorem dX6_takeName_59 : decode cX6_takeName 59 = .ok (.getfield 159, 3) := by decide +kernel
theorem dX6_takeName_62 : decode cX6_takeName 62 = .ok (.aload_n 0, 1) := by decide +kernel
theorem dX6_takeName_63 : decode cX6_takeName 63 = .ok (.getfield 32, 3) := by decide +kernel
theorem dX6_takeName_66 : decode cX6_takeName 66 = .ok (.iaload, 1) := by decide +kernel
theorem dX6_takeName_67 : decode cX6_takeName 67 = .ok (.istore_n 2, 1) := by decide +kernel
theorem dX6_takeName_68 : decode cX6_takeName 68 = .ok (.aload_n 0, 1) := by decide +kernel
theorem dX6_takeName_69 : decode cX6_takeName 69 = .ok (.invokevirtual 89, 3) := by decide +kernel
theorem dX6_takeName_72 : decode cX6_takeName 72 = .ok (.iload_n 2, 1) := by decide +kernel
theorem dX6_takeName_73 : decode cX6_takeName 73 = .ok (.ireturn, 1) := by decide +kernel
theorem dX6_refuse_0 : decode cX6_refuse 0 = .ok (.aload_n 0, 1) := by decide +kernel
theorem dX6_refuse_1 : decode cX6_refuse 1 = .ok (.iload_n 1, 1) := by decide +kernel
theorem dX6_refuse_2 : decode cX6_refuse 2 = .ok (.putfield 163, 3) := by decide +kernel
theorem dX6_refuse_5 : decode cX6_refuse 5 = .ok (.aload_n 0, 1) := by decide +kernel
theorem dX6_refuse_6 : decode cX6_refuse 6 = .ok (.iload_n 2, 1) := by decide +kernel
theorem dX6_refuse_7 : decode cX6_refuse 7 = .ok (.putfield 166, 3) := by decide +kernel
theorem dX6_refuse_10 : decode cX6_refuse 10 = .ok (.iconst 0, 1) := by decide +kernel
theorem dX6_refuse_11 : decode cX6_refuse 11 = .ok (.ireturn, 1) := by decide +kernel
theorem dX6_kind_0 : decode cX6_kind 0 = .ok (.aload_n 0, 1) := by decide +kernel
theorem dX6_kind_1 : decode cX6_kind 1 = .ok (.getfield 12, 3) := by decide +kernel
theorem dX6_kind_4 : decode cX6_kind 4 = .ok (.getfield 169, 3) := by decide +kernel
theorem dX6_kind_7 : decode cX6_kind 7 = .ok (.aload_n 0, 1) := by decide +kernel
theorem dX6_kind_8 : decode cX6_kind 8 = .ok (.getfield 32, 3) := by decide +kernel
theorem dX6_kind_11 : decode cX6_kind 11 = .ok (.iaload, 1) := by decide +kernel
theorem dX6_kind_12 : decode cX6_kind 12 = .ok (.ireturn, 1) := by decide +kernel
theorem dX6_place_0 : decode cX6_place 0 = .ok (.aload_n 0, 1) := by decide +kernel
theorem dX6_place_1 : decode cX6_place 1 = .ok (.getfield 12, 3) := by decide +kernel
theorem dX6_place_4 : decode cX6_place 4 = .ok (.getfield 172, 3) := by decide +kernel
theorem dX6_place_7 : decode cX6_place 7 = .ok (.aload_n 0, 1) := by decide +kernel
theorem dX6_place_8 : decode cX6_place 8 = .ok (.getfield 32, 3) := by decide +kernel
theorem dX6_place_11 : decode cX6_place 11 = .ok (.iaload, 1) := by decide +kernel
theorem dX6_place_12 : decode cX6_place 12 = .ok (.ireturn, 1) := by decide +kernel
theorem dX6_advance_0 : decode cX6_advance 0 = .ok (.aload_n 0, 1) := by decide +kernel
theorem dX6_advance_1 : decode cX6_advance 1 = .ok (.getfield 32, 3) := by decide +kernel
theorem dX6_advance_4 : decode cX6_advance 4 = .ok (.sipush 600, 3) := by decide +kernel
theorem dX6_advance_7 : decode cX6_advance 7 = .ok (.if_icmp .ge 13, 3) := by decide +kernel
theorem dX6_advance_10 : decode cX6_advance 10 = .ok (.aload_n 0, 1) := by decide +kernel
theorem dX6_advance_11 : decode cX6_advance 11 = .ok (.dup, 1) := by decide +kernel
theorem dX6_advance_12 : decode cX6_advance 12 = .ok (.getfield 32, 3) := by decide +kernel
theorem dX6_advance_15 : decode cX6_advance 15 = .ok (.iconst 1, 1) := by decide +kernel
theorem dX6_advance_16 : decode cX6_advance 16 = .ok (.iadd, 1) := by decide +kernel
theorem dX6_advance_17 : decode cX6_advance 17 = .ok (.putfield 32, 3) := by decide +kernel
theorem dX6_advance_20 : decode cX6_advance 20 = .ok (.return_, 1) := by decide +kernel
theorem dX7_init_0 : decode cX7_init 0 = .ok (.aload_n 0, 1) := by decide +kernel
theorem dX7_init_1 : decode cX7_init 1 = .ok (.invokespecial 3, 3) := by decide +kernel
theorem dX7_init_4 : decode cX7_init 4 = .ok (.aload_n 0, 1) := by decide +kernel
theorem dX7_init_5 : decode cX7_init 5 = .ok (.sipush 601, 3) := by decide +kernel
theorem dX7_init_8 : decode cX7_init 8 = .ok (.newarray .int, 2) := by decide +kernel
theorem dX7_init_10 : decode cX7_init 10 = .ok (.putfield 9, 3) := by decide +kernel
theorem dX7_init_13 : decode cX7_init 13 = .ok (.aload_n 0, 1) := by decide +kernel
theorem dX7_init_14 : decode cX7_init 14 = .ok (.sipush 601, 3) := by decide +kernel
theorem dX7_init_17 : decode cX7_init 17 = .ok (.newarray .int, 2) := by decide +kernel
theorem dX7_init_19 : decode cX7_init 19 = .ok (.putfield 15, 3) := by decide +kernel
theorem dX7_init_22 : decode cX7_init 22 = .ok (.aload_n 0, 1) := by decide +kernel
theorem dX7_init_23 : decode cX7_init 23 = .ok (.sipush 601, 3) := by decide +kernel
theorem dX7_init_26 : decode cX7_init 26 = .ok (.newarray .int, 2) := by decide +kernel
theorem dX7_init_28 : decode cX7_init 28 = .ok (.putfield 18, 3) := by decide +kernel
theorem dX7_init_31 : decode cX7_init 31 = .ok (.aload_n 0, 1) := by decide +kernel
theorem dX7_init_32 : decode cX7_init 32 = .ok (.new 21, 3) := by decide +kernel
theorem dX7_init_35 : decode cX7_init 35 = .ok (.dup, 1) := by decide +kernel
theorem dX7_init_36 : decode cX7_init 36 = .ok (.invokespecial 23, 3) := by decide +kernel
theorem dX7_init_39 : decode cX7_init 39 = .ok (.putfield 24, 3) := by decide +kernel
theorem dX7_init_42 : decode cX7_init 42 = .ok (.return_, 1) := by decide +kernel
theorem dX7_scan_0 : decode cX7_scan 0 = .ok (.aload_n 0, 1) := by decide +kernel
theorem dX7_scan_1 : decode cX7_scan 1 = .ok (.iconst 0, 1) := by decide +kernel
theorem dX7_scan_2 : decode cX7_scan 2 = .ok (.iload_n 1, 1) := by decide +kernel
theorem dX7_scan_3 : decode cX7_scan 3 = .ok (.sipush 600, 3) := by decide +kernel
theorem dX7_scan_6 : decode cX7_scan 6 = .ok (.invokestatic 28, 3) := by decide +kernel
theorem dX7_scan_9 : decode cX7_scan 9 = .ok (.invokestatic 34, 3) := by decide +kernel
theorem dX7_scan_12 : decode cX7_scan 12 = .ok (.putfield 37, 3) := by decide +kernel
theorem dX7_scan_15 : decode cX7_scan 15 = .ok (.aload_n 0, 1) := by decide +kernel
theorem dX7_scan_16 : decode cX7_scan 16 = .ok (.iconst 0, 1) := by decide +kernel
theorem dX7_scan_17 : decode cX7_scan 17 = .ok (.putfield 41, 3) := by decide +kernel
theorem dX7_scan_20 : decode cX7_scan 20 = .ok (.iconst 0, 1) := by decide +kernel
theorem dX7_scan_21 : decode cX7_scan 21 = .ok (.istore_n 2, 1) := by decide +kernel
theorem dX7_scan_22 : decode cX7_scan 22 = .ok (.iload_n 2, 1) := by decide +kernel
theorem dX7_scan_23 : decode cX7_scan 23 = .ok (.aload_n 0, 1) := by decide +kernel
theorem dX7_scan_24 : decode cX7_scan 24 = .ok (.getfield 37, 3) := by decide +kernel
theorem dX7_scan_27 : decode cX7_scan 27 = .ok (.if_icmp .ge 114, 3) := by decide +kernel
theorem dX7_scan_30 : decode cX7_scan 30 = .ok (.aload_n 0, 1) := by decide +kernel
theorem dX7_scan_31 : decode cX7_scan 31 = .ok (.iload_n 2, 1) := by decide +kernel
theorem dX7_scan_32 : decode cX7_scan 32 = .ok (.invokevirtual 44, 3) := by decide +kernel
theorem dX7_scan_35 : decode cX7_scan 35 = .ok (.ifCond .eq 31, 3) := by decide +kernel
theorem dX7_scan_38 : decode cX7_scan 38 = .ok (.aload_n 0, 1) := by decide +kernel
theorem dX7_scan_39 : decode cX7_scan 39 = .ok (.iload_n 2, 1) := by decide +kernel
theorem dX7_scan_40 : decode cX7_scan 40 = .ok (.iconst 1, 1) := by decide +kernel
theorem dX7_scan_41 : decode cX7_scan 41 = .ok (.isub, 1) := by decide +kernel
theorem dX7_scan_42 : decode cX7_scan 42 = .ok (.invokevirtual 44, 3) := by decide +kernel
theorem dX7_scan_45 : decode cX7_scan 45 = .ok (.ifCond .ne 90, 3) := by decide +kernel
theorem dX7_scan_48 : decode cX7_scan 48 = .ok (.aload_n 0, 1) := by decide +kernel
theorem dX7_scan_49 : decode cX7_scan 49 = .ok (.aload_n 0, 1) := by decide +kernel
theorem dX7_scan_50 : decode cX7_scan 50 = .ok (.iload_n 2, 1) := by decide +kernel
theorem dX7_scan_51 : decode cX7_scan 51 = .ok (.invokevirtual 48, 3) := by decide +kernel
theorem dX7_scan_54 : decode cX7_scan 54 = .ok (.iload_n 2, 1) := by decide +kernel
theorem dX7_scan_55 : decode cX7_scan 55 = .ok (.aload_n 0, 1) := by decide +kernel
theorem dX7_scan_56 : decode cX7_scan 56 = .ok (.iload_n 2, 1) := by decide +kernel
theorem dX7_scan_57 : decode cX7_scan 57 = .ok (.invokevirtual 52, 3) := by decide +kernel
theorem dX7_scan_60 : decode cX7_scan 60 = .ok (.invokevirtual 55, 3) := by decide +kernel
theorem dX7_scan_63 : decode cX7_scan 63 = .ok (.goto 72, 3) := by decide +kernel
theorem dX7_scan_66 : decode cX7_scan 66 = .ok (.aload_n 0, 1) := by decide +kernel
theorem dX7_scan_67 : decode cX7_scan 67 = .ok (.iload_n 2, 1) := by decide +kernel
theorem dX7_scan_68 : decode cX7_scan 68 = .ok (.invokevirtual 59, 3) := by decide +kernel
theorem dX7_scan_71 : decode cX7_scan 71 = .ok (.ifCond .eq 28, 3) := by decide +kernel
theorem dX7_scan_74 : decode cX7_scan 74 = .ok (.aload_n 0, 1) := by decide +kernel
theorem dX7_scan_75 : decode cX7_scan 75 = .ok (.iload_n 2, 1) := by decide +kernel
theorem dX7_scan_76 : decode cX7_scan 76 = .ok (.iconst 1, 1) := by decide +kernel
theorem dX7_scan_77 : decode cX7_scan 77 = .ok (.isub, 1) := by decide +kernel
theorem dX7_scan_78 : decode cX7_scan 78 = .ok (.invokevirtual 59, 3) := by decide +kernel
theorem dX7_scan_81 : decode cX7_scan 81 = .ok (.ifCond .ne 54, 3) := by decide +kernel
theorem dX7_scan_84 : decode cX7_scan 84 = .ok (.aload_n 0, 1) := by decide +kernel
theorem dX7_scan_85 : decode cX7_scan 85 = .ok (.bipush 18, 2) := by decide +kernel
theorem dX7_scan_87 : decode cX7_scan 87 = .ok (.iload_n 2, 1) := by decide +kernel
theorem dX7_scan_88 : decode cX7_scan 88 = .ok (.aload_n 0, 1) := by decide +kernel
theorem dX7_scan_89 : decode cX7_scan 89 = .ok (.iload_n 2, 1) := by decide +kernel
theorem dX7_scan_90 : decode cX7_scan 90 = .ok (.invokevirtual 62, 3) := by decide +kernel
theorem dX7_scan_93 : decode cX7_scan 93 = .ok (.invokevirtual 55, 3) := by decide +kernel
theorem dX7_scan_96 : decode cX7_scan 96 = .ok (.goto 39, 3) := by decide +kernel
theorem dX7_scan_99 : decode cX7_scan 99 = .ok (.aload_n 0, 1) := by decide +kernel
theorem dX7_scan_100 : decode cX7_scan 100 = .ok (.iload_n 2, 1) := by decide +kernel
theorem dX7_scan_101 : decode cX7_scan 101 = .ok (.invokevirtual 65, 3) := by decide +kernel
theorem dX7_scan_104 : decode cX7_scan 104 = .ok (.bipush 32, 2) := by decide +kernel
theorem dX7_scan_106 : decode cX7_scan 106 = .ok (.if_icmp .eq 29, 3) := by decide +kernel
theorem dX7_scan_109 : decode cX7_scan 109 = .ok (.aload_n 0, 1) := by decide +kernel
theorem dX7_scan_110 : decode cX7_scan 110 = .ok (.aload_n 0, 1) := by decide +kernel
theorem dX7_scan_111 : decode cX7_scan 111 = .ok (.iload_n 2, 1) := by decide +kernel
theorem dX7_scan_112 : decode cX7_scan 112 = .ok (.invokevirtual 65, 3) := by decide +kernel
theorem dX7_scan_115 : decode cX7_scan 115 = .ok (.bipush 32, 2) := by decide +kernel
theorem dX7_scan_117 : decode cX7_scan 117 = .ok (.if_icmp .le 11, 3) := by decide +kernel
theorem dX7_scan_120 : decode cX7_scan 120 = .ok (.aload_n 0, 1) := by decide +kernel
theorem dX7_scan_121 : decode cX7_scan 121 = .ok (.iload_n 2, 1) := by decide +kernel
theorem dX7_scan_122 : decode cX7_scan 122 = .ok (.invokevirtual 65, 3) := by decide +kernel
theorem dX7_scan_125 : decode cX7_scan 125 = .ok (.goto 5, 3) := by decide +kernel
theorem dX7_scan_128 : decode cX7_scan 128 = .ok (.bipush 19, 2) := by decide +kernel
theorem dX7_scan_130 : decode cX7_scan 130 = .ok (.iload_n 2, 1) := by decide +kernel
theorem dX7_scan_131 : decode cX7_scan 131 = .ok (.iconst (-1), 1) := by decide +kernel
theorem dX7_scan_132 : decode cX7_scan 132 = .ok (.invokevirtual 55, 3) := by decide +kernel
theorem dX7_scan_135 : decode cX7_scan 135 = .ok (.iinc 2 1, 3) := by decide +kernel
theorem dX7_scan_138 : decode cX7_scan 138 = .ok (.goto (-116), 3) := by decide +kernel
theorem dX7_scan_141 : decode cX7_scan 141 = .ok (.aload_n 0, 1) := by decide +kernel
theorem dX7_scan_142 : decode cX7_scan 142 = .ok (.iconst 0, 1) := by decide +kernel
theorem dX7_scan_143 : decode cX7_scan 143 = .ok (.aload_n 0, 1) := by decide +kernel
theorem dX7_scan_144 : decode cX7_scan 144 = .ok (.getfield 37, 3) := by decide +kernel
theorem dX7_scan_147 : decode cX7_scan 147 = .ok (.iconst (-1), 1) := by decide +kernel
theorem dX7_scan_148 : decode cX7_scan 148 = .ok (.invokevirtual 55, 3) := by decide +kernel
theorem dX7_scan_151 : decode cX7_scan 151 = .ok (.return_, 1) := by decide +kernel
theorem dX7_add_0 : decode cX7_add 0 = .ok (.aload_n 0, 1) := by decide +kernel
theorem dX7_add_1 : decode cX7_add 1 = .ok (.getfield 41, 3) := by decide +kernel
theorem dX7_add_4 : decode cX7_add 4 = .ok (.ifCond .lt 13, 3) := by decide +kernel
theorem dX7_add_7 : decode cX7_add 7 = .ok (.aload_n 0, 1) := by decide +kernel
theorem dX7_add_8 : decode cX7_add 8 = .ok (.getfield 41, 3) := by decide +kernel
theorem dX7_add_11 : decode cX7_add 11 = .ok (.sipush 600, 3) := by decide +kernel
theorem dX7_add_14 : decode cX7_add 14 = .ok (.if_icmp .le 4, 3) := by decide +kernel
theorem dX7_add_17 : decode cX7_add 17 = .ok (.return_, 1) := by decide +kernel
theorem dX7_add_18 : decode cX7_add 18 = .ok (.aload_n 0, 1) := by decide +kernel
theorem dX7_add_19 : decode cX7_add 19 = .ok (.getfield 9, 3) := by decide +kernel
theorem dX7_add_22 : decode cX7_add 22 = .ok (.aload_n 0, 1) := by decide +kernel
theorem dX7_add_23 : decode cX7_add 23 = .ok (.getfield 41, 3) := by decide +kernel
theorem dX7_add_26 : decode cX7_add 26 = .ok (.iload_n 1, 1) := by decide +kernel
theorem dX7_add_27 : decode cX7_add 27 = .ok (.iastore, 1) := by decide +kernel
theorem dX7_add_28 : decode cX7_add 28 = .ok (.aload_n 0, 1) := by decide +kernel
theorem dX7_add_29 : decode cX7_add 29 = .ok (.getfield 15, 3) := by decide +kernel
theorem dX7_add_32 : decode cX7_add 32 = .ok (.aload_n 0, 1) := by decide +kernel
theorem dX7_add_33 : decode cX7_add 33 = .ok (.getfield 41, 3) := by decide +kernel
theorem dX7_add_36 : decode cX7_add 36 = .ok (.iload_n 2, 1) := by decide +kernel
theorem dX7_add_37 : decode cX7_add 37 = .ok (.iastore, 1) := by decide +kernel
theorem dX7_add_38 : decode cX7_add 38 = .ok (.aload_n 0, 1) := by decide +kernel
theorem dX7_add_39 : decode cX7_add 39 = .ok (.getfield 18, 3) := by decide +kernel
theorem dX7_add_42 : decode cX7_add 42 = .ok (.aload_n 0, 1) := by decide +kernel
theorem dX7_add_43 : decode cX7_add 43 = .ok (.getfield 41, 3) := by decide +kernel
theorem dX7_add_46 : decode cX7_add 46 = .ok (.iload_n 3, 1) := by decide +kernel
theorem dX7_add_47 : decode cX7_add 47 = .ok (.iastore, 1) := by decide +kernel
theorem dX7_add_48 : decode cX7_add 48 = .ok (.aload_n 0, 1) := by decide +kernel
theorem dX7_add_49 : decode cX7_add 49 = .ok (.dup, 1) := by decide +kernel
theorem dX7_add_50 : decode cX7_add 50 = .ok (.getfield 41, 3) := by decide +kernel
theorem dX7_add_53 : decode cX7_add 53 = .ok (.iconst 1, 1) := by decide +kernel
theorem dX7_add_54 : decode cX7_add 54 = .ok (.iadd, 1) := by decide +kernel
theorem dX7_add_55 : decode cX7_add 55 = .ok (.putfield 41, 3) := by decide +kernel
theorem dX7_add_58 : decode cX7_add 58 = .ok (.return_, 1) := by decide +kernel
theorem dX7_kindOfWord_0 : decode cX7_kindOfWord 0 = .ok (.iconst 1, 1) := by decide +kernel
theorem dX7_kindOfWord_1 : decode cX7_kindOfWord 1 = .ok (.istore_n 2, 1) := by decide +kernel
theorem dX7_kindOfWord_2 : decode cX7_kindOfWord 2 = .ok (.iconst 0, 1) := by decide +kernel
theorem dX7_kindOfWord_3 : decode cX7_kindOfWord 3 = .ok (.istore_n 3, 1) := by decide +kernel
theorem dX7_kindOfWord_4 : decode cX7_kindOfWord 4 = .ok (.iconst 0, 1) := by decide +kernel
theorem dX7_kindOfWord_5 : decode cX7_kindOfWord 5 = .ok (.istore 4, 2) := by decide +kernel
theorem dX7_kindOfWord_7 : decode cX7_kindOfWord 7 = .ok (.iload 4, 2) := by decide +kernel
theorem dX7_kindOfWord_9 : decode cX7_kindOfWord 9 = .ok (.ldc 68, 2) := by decide +kernel
theorem dX7_kindOfWord_11 : decode cX7_kindOfWord 11 = .ok (.invokevirtual 70, 3) := by decide +kernel
theorem dX7_kindOfWord_14 : decode cX7_kindOfWord 14 = .ok (.if_icmp .ge 75, 3) := by decide +kernel
theorem dX7_kindOfWord_17 : decode cX7_kindOfWord 17 = .ok (.ldc 68, 2) := by decide +kernel
theorem dX7_kindOfWord_19 : decode cX7_kindOfWord 19 = .ok (.iload 4, 2) := by decide +kernel
theorem dX7_kindOfWord_21 : decode cX7_kindOfWord 21 = .ok (.invokevirtual 75, 3) := by decide +kernel
theorem dX7_kindOfWord_24 : decode cX7_kindOfWord 24 = .ok (.istore 5, 2) := by decide +kernel
theorem dX7_kindOfWord_26 : decode cX7_kindOfWord 26 = .ok (.iload 5, 2) := by decide +kernel
theorem dX7_kindOfWord_28 : decode cX7_kindOfWord 28 = .ok (.bipush 32, 2) := by decide +kernel
theorem dX7_kindOfWord_30 : decode cX7_kindOfWord 30 = .ok (.if_icmp .eq 31, 3) := by decide +kernel
theorem dX7_kindOfWord_33 : decode cX7_kindOfWord 33 = .ok (.iload_n 3, 1) := by decide +kernel
theorem dX7_kindOfWord_34 : decode cX7_kindOfWord 34 = .ok (.iconst (-1), 1) := by decide +kernel
theorem dX7_kindOfWord_35 : decode cX7_kindOfWord 35 = .ok (.if_icmp .eq 21, 3) := by decide +kernel
theorem dX7_kindOfWord_38 : decode cX7_kindOfWord 38 = .ok (.aload_n 0, 1) := by decide +kernel
theorem dX7_kindOfWord_39 : decode cX7_kindOfWord 39 = .ok (.iload_n 1, 1) := by decide +kernel
theorem dX7_kindOfWord_40 : decode cX7_kindOfWord 40 = .ok (.iload_n 3, 1) := by decide +kernel
theorem dX7_kindOfWord_41 : decode cX7_kindOfWord 41 = .ok (.iadd, 1) := by decide +kernel
theorem dX7_kindOfWord_42 : decode cX7_kindOfWord 42 = .ok (.invokevirtual 65, 3) := by decide +kernel
theorem dX7_kindOfWord_45 : decode cX7_kindOfWord 45 = .ok (.iload 5, 2) := by decide +kernel
theorem dX7_kindOfWord_47 : decode cX7_kindOfWord 47 = .ok (.if_icmp .ne 9, 3) := by decide +kernel
theorem dX7_kindOfWord_50 : decode cX7_kindOfWord 50 = .ok (.iload_n 3, 1) := by decide +kernel
theorem dX7_kindOfWord_51 : decode cX7_kindOfWord 51 = .ok (.iconst 1, 1) := by decide +kernel
theorem dX7_kindOfWord_52 : decode cX7_kindOfWord 52 = .ok (.iadd, 1) := by decide +kernel
theorem dX7_kindOfWord_53 : decode cX7_kindOfWord 53 = .ok (.goto 4, 3) := by decide +kernel
theorem dX7_kindOfWord_56 : decode cX7_kindOfWord 56 = .ok (.iconst (-1), 1) := by decide +kernel
theorem dX7_kindOfWord_57 : decode cX7_kindOfWord 57 = .ok (.istore_n 3, 1) := by decide +kernel
theorem dX7_kindOfWord_58 : decode cX7_kindOfWord 58 = .ok (.goto 25, 3) := by decide +kernel
theorem dX7_kindOfWord_61 : decode cX7_kindOfWord 61 = .ok (.iload_n 3, 1) := by decide +kernel
theorem dX7_kindOfWord_62 : decode cX7_kindOfWord 62 = .ok (.iconst (-1), 1) := by decide +kernel
theorem dX7_kindOfWord_63 : decode cX7_kindOfWord 63 = .ok (.if_icmp .eq 15, 3) := by decide +kernel
theorem dX7_kindOfWord_66 : decode cX7_kindOfWord 66 = .ok (.aload_n 0, 1) := by decide +kernel
theorem dX7_kindOfWord_67 : decode cX7_kindOfWord 67 = .ok (.iload_n 1, 1) := by decide +kernel
theorem dX7_kindOfWord_68 : decode cX7_kindOfWord 68 = .ok (.iload_n 3, 1) := by decide +kernel
theorem dX7_kindOfWord_69 : decode cX7_kindOfWord 69 = .ok (.iadd, 1) := by decide +kernel
theorem dX7_kindOfWord_70 : decode cX7_kindOfWord 70 = .ok (.invokevirtual 44, 3) := by decide +kernel
theorem dX7_kindOfWord_73 : decode cX7_kindOfWord 73 = .ok (.ifCond .ne 5, 3) := by decide +kernel
theorem dX7_kindOfWord_76 : decode cX7_kindOfWord 76 = .ok (.iload_n 2, 1) := by decide +kernel
theorem dX7_kindOfWord_77 : decode cX7_kindOfWord 77 = .ok (.ireturn, 1) := by decide +kernel
theorem dX7_kindOfWord_78 : decode cX7_kindOfWord 78 = .ok (.iinc 2 1, 3) := by decide +kernel
theorem dX7_kindOfWord_81 : decode cX7_kindOfWord 81 = .ok (.iconst 0, 1) := by decide +kernel
theorem dX7_kindOfWord_82 : decode cX7_kindOfWord 82 = .ok (.istore_n 3, 1) := by decide +kernel
theorem dX7_kindOfWord_83 : decode cX7_kindOfWord 83 = .ok (.iinc 4 1, 3) := by decide +kernel
theorem dX7_kindOfWord_86 : decode cX7_kindOfWord 86 = .ok (.goto (-79), 3) := by decide +kernel
theorem dX7_kindOfWord_89 : decode cX7_kindOfWord 89 = .ok (.bipush 17, 2) := by decide +kernel
theorem dX7_kindOfWord_91 : decode cX7_kindOfWord 91 = .ok (.ireturn, 1) := by decide +kernel
theorem dX7_nameAt_0 : decode cX7_nameAt 0 = .ok (.iconst 0, 1) := by decide +kernel
theorem dX7_nameAt_1 : decode cX7_nameAt 1 = .ok (.istore_n 2, 1) := by decide +kernel
theorem dX7_nameAt_2 : decode cX7_nameAt 2 = .ok (.iconst 0, 1) := by decide +kernel
theorem dX7_nameAt_3 : decode cX7_nameAt 3 = .ok (.istore_n 3, 1) := by decide +kernel
theorem dX7_nameAt_4 : decode cX7_nameAt 4 = .ok (.iload_n 3, 1) := by decide +kernel
theorem dX7_nameAt_5 : decode cX7_nameAt 5 = .ok (.iconst 5, 1) := by decide +kernel
theorem dX7_nameAt_6 : decode cX7_nameAt 6 = .ok (.if_icmp .ge 32, 3) := by decide +kernel
theorem dX7_nameAt_9 : decode cX7_nameAt 9 = .ok (.aload_n 0, 1) := by decide +kernel
theorem dX7_nameAt_10 : decode cX7_nameAt 10 = .ok (.iload_n 1, 1) := by decide +kernel
theorem dX7_nameAt_11 : decode cX7_nameAt 11 = .ok (.iload_n 3, 1) := by decide +kernel
theorem dX7_nameAt_12 : decode cX7_nameAt 12 = .ok (.iadd, 1) := by decide +kernel
theorem dX7_nameAt_13 : decode cX7_nameAt 13 = .ok (.invokevirtual 44, 3) := by decide +kernel
theorem dX7_nameAt_16 : decode cX7_nameAt 16 = .ok (.ifCond .eq 22, 3) := by decide +kernel
theorem dX7_nameAt_19 : decode cX7_nameAt 19 = .ok (.iload_n 2, 1) := by decide +kernel
theorem dX7_nameAt_20 : decode cX7_nameAt 20 = .ok (.iload_n 3, 1) := by decide +kernel
theorem dX7_nameAt_21 : decode cX7_nameAt 21 = .ok (.aload_n 0, 1) := by decide +kernel
theorem dX7_nameAt_22 : decode cX7_nameAt 22 = .ok (.iload_n 1, 1) := by decide +kernel
theorem dX7_nameAt_23 : decode cX7_nameAt 23 = .ok (.iload_n 3, 1) := by decide +kernel
theorem dX7_nameAt_24 : decode cX7_nameAt 24 = .ok (.iadd, 1) := by decide +kernel
theorem dX7_nameAt_25 : decode cX7_nameAt 25 = .ok (.invokevirtual 65, 3) := by decide +kernel
theorem dX7_nameAt_28 : decode cX7_nameAt 28 = .ok (.invokestatic 79, 3) := by decide +kernel
theorem dX7_nameAt_31 : decode cX7_nameAt 31 = .ok (.istore_n 2, 1) := by decide +kernel
theorem dX7_nameAt_32 : decode cX7_nameAt 32 = .ok (.iinc 3 1, 3) := by decide +kernel
theorem dX7_nameAt_35 : decode cX7_nameAt 35 = .ok (.goto (-31), 3) := by decide +kernel
theorem dX7_nameAt_38 : decode cX7_nameAt 38 = .ok (.aload_n 0, 1) := by decide +kernel
theorem dX7_nameAt_39 : decode cX7_nameAt 39 = .ok (.iload_n 1, 1) := by decide +kernel
theorem dX7_nameAt_40 : decode cX7_nameAt 40 = .ok (.iload_n 3, 1) := by decide +kernel
theorem dX7_nameAt_41 : decode cX7_nameAt 41 = .ok (.iadd, 1) := by decide +kernel
theorem dX7_nameAt_42 : decode cX7_nameAt 42 = .ok (.invokevirtual 44, 3) := by decide +kernel
theorem dX7_nameAt_45 : decode cX7_nameAt 45 = .ok (.ifCond .eq 7, 3) := by decide +kernel
theorem dX7_nameAt_48 : decode cX7_nameAt 48 = .ok (.iconst (-1), 1) := by decide +kernel
theorem dX7_nameAt_49 : decode cX7_nameAt 49 = .ok (.goto 4, 3) := by decide +kernel
theorem dX7_nameAt_52 : decode cX7_nameAt 52 = .ok (.iload_n 2, 1) := by decide +kernel
theorem dX7_nameAt_53 : decode cX7_nameAt 53 = .ok (.ireturn, 1) := by decide +kernel
theorem dX7_numberAt_0 : decode cX7_numberAt 0 = .ok (.iconst 0, 1) := by decide +kernel
theorem dX7_numberAt_1 : decode cX7_numberAt 1 = .ok (.istore_n 2, 1) := by decide +kernel
theorem dX7_numberAt_2 : decode cX7_numberAt 2 = .ok (.iload_n 1, 1) := by decide +kernel
theorem dX7_numberAt_3 : decode cX7_numberAt 3 = .ok (.istore_n 3, 1) := by decide +kernel
theorem dX7_numberAt_4 : decode cX7_numberAt 4 = .ok (.iload_n 3, 1) := by decide +kernel
theorem dX7_numberAt_5 : decode cX7_numberAt 5 = .ok (.aload_n 0, 1) := by decide +kernel
theorem dX7_numberAt_6 : decode cX7_numberAt 6 = .ok (.getfield 37, 3) := by decide +kernel
theorem dX7_numberAt_9 : decode cX7_numberAt 9 = .ok (.if_icmp .ge 38, 3) := by decide +kernel
theorem dX7_numberAt_12 : decode cX7_numberAt 12 = .ok (.aload_n 0, 1) := by decide +kernel
theorem dX7_numberAt_13 : decode cX7_numberAt 13 = .ok (.iload_n 3, 1) := by decide +kernel
theorem dX7_numberAt_14 : decode cX7_numberAt 14 = .ok (.invokevirtual 59, 3) := by decide +kernel
theorem dX7_numberAt_17 : decode cX7_numberAt 17 = .ok (.ifCond .eq 30, 3) := by decide +kernel
theorem dX7_numberAt_20 : decode cX7_numberAt 20 = .ok (.iload_n 2, 1) := by decide +kernel
theorem dX7_numberAt_21 : decode cX7_numberAt 21 = .ok (.sipush 1000, 3) := by decide +kernel
theorem dX7_numberAt_24 : decode cX7_numberAt 24 = .ok (.if_icmp .ge 23, 3) := by decide +kernel
theorem dX7_numberAt_27 : decode cX7_numberAt 27 = .ok (.iload_n 2, 1) := by decide +kernel
theorem dX7_numberAt_28 : decode cX7_numberAt 28 = .ok (.bipush 10, 2) := by decide +kernel
theorem dX7_numberAt_30 : decode cX7_numberAt 30 = .ok (.imul, 1) := by decide +kernel
theorem dX7_numberAt_31 : decode cX7_numberAt 31 = .ok (.aload_n 0, 1) := by decide +kernel
theorem dX7_numberAt_32 : decode cX7_numberAt 32 = .ok (.iload_n 3, 1) := by decide +kernel
theorem dX7_numberAt_33 : decode cX7_numberAt 33 = .ok (.invokevirtual 65, 3) := by decide +kernel
theorem dX7_numberAt_36 : decode cX7_numberAt 36 = .ok (.iadd, 1) := by decide +kernel
theorem dX7_numberAt_37 : decode cX7_numberAt 37 = .ok (.bipush 48, 2) := by decide +kernel
theorem dX7_numberAt_39 : decode cX7_numberAt 39 = .ok (.isub, 1) := by decide +kernel
theorem dX7_numberAt_40 : decode cX7_numberAt 40 = .ok (.istore_n 2, 1) := by decide +kernel
theorem dX7_numberAt_41 : decode cX7_numberAt 41 = .ok (.iinc 3 1, 3) := by decide +kernel
theorem dX7_numberAt_44 : decode cX7_numberAt 44 = .ok (.goto (-40), 3) := by decide +kernel
theorem dX7_numberAt_47 : decode cX7_numberAt 47 = .ok (.iload_n 2, 1) := by decide +kernel
theorem dX7_numberAt_48 : decode cX7_numberAt 48 = .ok (.ireturn, 1) := by decide +kernel
theorem dX7_isLetter_0 : decode cX7_isLetter 0 = .ok (.aload_n 0, 1) := by decide +kernel
theorem dX7_isLetter_1 : decode cX7_isLetter 1 = .ok (.iload_n 1, 1) := by decide +kernel
theorem dX7_isLetter_2 : decode cX7_isLetter 2 = .ok (.invokevirtual 65, 3) := by decide +kernel
theorem dX7_isLetter_5 : decode cX7_isLetter 5 = .ok (.bipush 97, 2) := by decide +kernel
theorem dX7_isLetter_7 : decode cX7_isLetter 7 = .ok (.if_icmp .lt 17, 3) := by decide +kernel
theorem dX7_isLetter_10 : decode cX7_isLetter 10 = .ok (.aload_n 0, 1) := by decide +kernel
theorem dX7_isLetter_11 : decode cX7_isLetter 11 = .ok (.iload_n 1, 1) := by decide +kernel
theorem dX7_isLetter_12 : decode cX7_isLetter 12 = .ok (.invokevirtual 65, 3) := by decide +kernel
theorem dX7_isLetter_15 : decode cX7_isLetter 15 = .ok (.bipush 122, 2) := by decide +kernel
theorem dX7_isLetter_17 : decode cX7_isLetter 17 = .ok (.if_icmp .gt 7, 3) := by decide +kernel
theorem dX7_isLetter_20 : decode cX7_isLetter 20 = .ok (.iconst 1, 1) := by decide +kernel
theorem dX7_isLetter_21 : decode cX7_isLetter 21 = .ok (.goto 4, 3) := by decide +kernel
theorem dX7_isLetter_24 : decode cX7_isLetter 24 = .ok (.iconst 0, 1) := by decide +kernel
theorem dX7_isLetter_25 : decode cX7_isLetter 25 = .ok (.ireturn, 1) := by decide +kernel
theorem dX7_isDigit_0 : decode cX7_isDigit 0 = .ok (.aload_n 0, 1) := by decide +kernel
theorem dX7_isDigit_1 : decode cX7_isDigit 1 = .ok (.iload_n 1, 1) := by decide +kernel
theorem dX7_isDigit_2 : decode cX7_isDigit 2 = .ok (.invokevirtual 65, 3) := by decide +kernel
theorem dX7_isDigit_5 : decode cX7_isDigit 5 = .ok (.bipush 48, 2) := by decide +kernel
theorem dX7_isDigit_7 : decode cX7_isDigit 7 = .ok (.if_icmp .lt 17, 3) := by decide +kernel
theorem dX7_isDigit_10 : decode cX7_isDigit 10 = .ok (.aload_n 0, 1) := by decide +kernel
theorem dX7_isDigit_11 : decode cX7_isDigit 11 = .ok (.iload_n 1, 1) := by decide +kernel
theorem dX7_isDigit_12 : decode cX7_isDigit 12 = .ok (.invokevirtual 65, 3) := by decide +kernel
theorem dX7_isDigit_15 : decode cX7_isDigit 15 = .ok (.bipush 57, 2) := by decide +kernel
theorem dX7_isDigit_17 : decode cX7_isDigit 17 = .ok (.if_icmp .gt 7, 3) := by decide +kernel
theorem dX7_isDigit_20 : decode cX7_isDigit 20 = .ok (.iconst 1, 1) := by decide +kernel
theorem dX7_isDigit_21 : decode cX7_isDigit 21 = .ok (.goto 4, 3) := by decide +kernel
theorem dX7_isDigit_24 : decode cX7_isDigit 24 = .ok (.iconst 0, 1) := by decide +kernel
theorem dX7_isDigit_25 : decode cX7_isDigit 25 = .ok (.ireturn, 1) := by decide +kernel
theorem dX7_byteAt_0 : decode cX7_byteAt 0 = .ok (.iload_n 1, 1) := by decide +kernel
theorem dX7_byteAt_1 : decode cX7_byteAt 1 = .ok (.ifCond .lt 23, 3) := by decide +kernel
theorem dX7_byteAt_4 : decode cX7_byteAt 4 = .ok (.iload_n 1, 1) := by decide +kernel
theorem dX7_byteAt_5 : decode cX7_byteAt 5 = .ok (.aload_n 0, 1) := by decide +kernel
theorem dX7_byteAt_6 : decode cX7_byteAt 6 = .ok (.getfield 37, 3) := by decide +kernel
theorem dX7_byteAt_9 : decode cX7_byteAt 9 = .ok (.if_icmp .ge 15, 3) := by decide +kernel
theorem dX7_byteAt_12 : decode cX7_byteAt 12 = .ok (.aload_n 0, 1) := by decide +kernel
theorem dX7_byteAt_13 : decode cX7_byteAt 13 = .ok (.getfield 24, 3) := by decide +kernel
theorem dX7_byteAt_16 : decode cX7_byteAt 16 = .ok (.getfield 85, 3) := by decide +kernel
theorem dX7_byteAt_19 : decode cX7_byteAt 19 = .ok (.iload_n 1, 1) := by decide +kernel
theorem dX7_byteAt_20 : decode cX7_byteAt 20 = .ok (.baload, 1) := by decide +kernel
theorem dX7_byteAt_21 : decode cX7_byteAt 21 = .ok (.goto 4, 3) := by decide +kernel
theorem dX7_byteAt_24 : decode cX7_byteAt 24 = .ok (.iconst (-1), 1) := by decide +kernel
theorem dX7_byteAt_25 : decode cX7_byteAt 25 = .ok (.ireturn, 1) := by decide +kernel
theorem dX8_init_0 : decode cX8_init 0 = .ok (.aload_n 0, 1) := by decide +kernel
theorem dX8_init_1 : decode cX8_init 1 = .ok (.invokespecial 1, 3) := by decide +kernel
theorem dX8_init_4 : decode cX8_init 4 = .ok (.aload_n 0, 1) := by decide +kernel
theorem dX8_init_5 : decode cX8_init 5 = .ok (.new 7, 3) := by decide +kernel
theorem dX8_init_8 : decode cX8_init 8 = .ok (.dup, 1) := by decide +kernel
theorem dX8_init_9 : decode cX8_init 9 = .ok (.invokespecial 9, 3) := by decide +kernel
theorem dX8_init_12 : decode cX8_init 12 = .ok (.putfield 10, 3) := by decide +kernel
theorem dX8_init_15 : decode cX8_init 15 = .ok (.aload_n 0, 1) := by decide +kernel
theorem dX8_init_16 : decode cX8_init 16 = .ok (.aload_n 0, 1) := by decide +kernel
theorem dX8_init_17 : decode cX8_init 17 = .ok (.getfield 10, 3) := by decide +kernel
theorem dX8_init_20 : decode cX8_init 20 = .ok (.getfield 16, 3) := by decide +kernel
theorem dX8_init_23 : decode cX8_init 23 = .ok (.getfield 20, 3) := by decide +kernel
theorem dX8_init_26 : decode cX8_init 26 = .ok (.putfield 26, 3) := by decide +kernel
theorem dX8_init_29 : decode cX8_init 29 = .ok (.aload_n 0, 1) := by decide +kernel
theorem dX8_init_30 : decode cX8_init 30 = .ok (.new 27, 3) := by decide +kernel
theorem dX8_init_33 : decode cX8_init 33 = .ok (.dup, 1) := by decide +kernel
theorem dX8_init_34 : decode cX8_init 34 = .ok (.invokespecial 29, 3) := by decide +kernel
theorem dX8_init_37 : decode cX8_init 37 = .ok (.putfield 30, 3) := by decide +kernel
theorem dX8_init_40 : decode cX8_init 40 = .ok (.aload_n 0, 1) := by decide +kernel
theorem dX8_init_41 : decode cX8_init 41 = .ok (.new 34, 3) := by decide +kernel
theorem dX8_init_44 : decode cX8_init 44 = .ok (.dup, 1) := by decide +kernel
theorem dX8_init_45 : decode cX8_init 45 = .ok (.invokespecial 36, 3) := by decide +kernel
theorem dX8_init_48 : decode cX8_init 48 = .ok (.putfield 37, 3) := by decide +kernel
theorem dX8_init_51 : decode cX8_init 51 = .ok (.aload_n 0, 1) := by decide +kernel
theorem dX8_init_52 : decode cX8_init 52 = .ok (.bipush 8, 2) := by decide +kernel
theorem dX8_init_54 : decode cX8_init 54 = .ok (.anewarray 41, 3) := by decide +kernel
theorem dX8_init_57 : decode cX8_init 57 = .ok (.putfield 43, 3) := by decide +kernel
theorem dX8_init_60 : decode cX8_init 60 = .ok (.iconst 0, 1) := by decide +kernel
theorem dX8_init_61 : decode cX8_init 61 = .ok (.istore_n 1, 1) := by decide +kernel
theorem dX8_init_62 : decode cX8_init 62 = .ok (.iload_n 1, 1) := by decide +kernel
theorem dX8_init_63 : decode cX8_init 63 = .ok (.bipush 8, 2) := by decide +kernel
theorem dX8_init_65 : decode cX8_init 65 = .ok (.if_icmp .ge 22, 3) := by decide +kernel
theorem dX8_init_68 : decode cX8_init 68 = .ok (.aload_n 0, 1) := by decide +kernel
theorem dX8_init_69 : decode cX8_init 69 = .ok (.getfield 43, 3) := by decide +kernel
theorem dX8_init_72 : decode cX8_init 72 = .ok (.iload_n 1, 1) := by decide +kernel
theorem dX8_init_73 : decode cX8_init 73 = .ok (.new 41, 3) := by decide +kernel
theorem dX8_init_76 : decode cX8_init 76 = .ok (.dup, 1) := by decide +kernel
theorem dX8_init_77 : decode cX8_init 77 = .ok (.invokespecial 47, 3) := by decide +kernel
theorem dX8_init_80 : decode cX8_init 80 = .ok (.aastore, 1) := by decide +kernel
theorem dX8_init_81 : decode cX8_init 81 = .ok (.iinc 1 1, 3) := by decide +kernel
theorem dX8_init_84 : decode cX8_init 84 = .ok (.goto (-22), 3) := by decide +kernel
theorem dX8_init_87 : decode cX8_init 87 = .ok (.aload_n 0, 1) := by decide +kernel
theorem dX8_init_88 : decode cX8_init 88 = .ok (.new 41, 3) := by decide +kernel
theorem dX8_init_91 : decode cX8_init 91 = .ok (.dup, 1) := by decide +kernel
theorem dX8_init_92 : decode cX8_init 92 = .ok (.invokespecial 47, 3) := by decide +kernel
theorem dX8_init_95 : decode cX8_init 95 = .ok (.putfield 48, 3) := by decide +kernel
theorem dX8_init_98 : decode cX8_init 98 = .ok (.aload_n 0, 1) := by decide +kernel
theorem dX8_init_99 : decode cX8_init 99 = .ok (.iconst (-1), 1) := by decide +kernel
theorem dX8_init_100 : decode cX8_init 100 = .ok (.putfield 52, 3) := by decide +kernel
theorem dX8_init_103 : decode cX8_init 103 = .ok (.return_, 1) := by decide +kernel
theorem dX8_feed_0 : decode cX8_feed 0 = .ok (.aload_n 0, 1) := by decide +kernel
theorem dX8_feed_1 : decode cX8_feed 1 = .ok (.getfield 26, 3) := by decide +kernel
theorem dX8_feed_4 : decode cX8_feed 4 = .ok (.invokevirtual 56, 3) := by decide +kernel
theorem dX8_feed_7 : decode cX8_feed 7 = .ok (.ifCond .ne 5, 3) := by decide +kernel
theorem dX8_feed_10 : decode cX8_feed 10 = .ok (.iconst (-1), 1) := by decide +kernel
theorem dX8_feed_11 : decode cX8_feed 11 = .ok (.ireturn, 1) := by decide +kernel
theorem dX8_feed_12 : decode cX8_feed 12 = .ok (.aload_n 0, 1) := by decide +kernel
theorem dX8_feed_13 : decode cX8_feed 13 = .ok (.getfield 26, 3) := by decide +kernel
theorem dX8_feed_16 : decode cX8_feed 16 = .ok (.iload_n 1, 1) := by decide +kernel
theorem dX8_feed_17 : decode cX8_feed 17 = .ok (.invokevirtual 62, 3) := by decide +kernel
theorem dX8_feed_20 : decode cX8_feed 20 = .ok (.aload_n 0, 1) := by decide +kernel
theorem dX8_feed_21 : decode cX8_feed 21 = .ok (.getfield 26, 3) := by decide +kernel
theorem dX8_feed_24 : decode cX8_feed 24 = .ok (.iload_n 2, 1) := by decide +kernel
theorem dX8_feed_25 : decode cX8_feed 25 = .ok (.invokevirtual 62, 3) := by decide +kernel
theorem dX8_feed_28 : decode cX8_feed 28 = .ok (.aload_n 0, 1) := by decide +kernel
theorem dX8_feed_29 : decode cX8_feed 29 = .ok (.getfield 26, 3) := by decide +kernel
theorem dX8_feed_32 : decode cX8_feed 32 = .ok (.iload_n 3, 1) := by decide +kernel
theorem dX8_feed_33 : decode cX8_feed 33 = .ok (.invokevirtual 62, 3) := by decide +kernel
theorem dX8_feed_36 : decode cX8_feed 36 = .ok (.aload_n 0, 1) := by decide +kernel
theorem dX8_feed_37 : decode cX8_feed 37 = .ok (.getfield 26, 3) := by decide +kernel
theorem dX8_feed_40 : decode cX8_feed 40 = .ok (.iload 4, 2) := by decide +kernel
theorem dX8_feed_42 : decode cX8_feed 42 = .ok (.invokevirtual 62, 3) := by decide +kernel
theorem dX8_feed_45 : decode cX8_feed 45 = .ok (.aload_n 0, 1) := by decide +kernel
theorem dX8_feed_46 : decode cX8_feed 46 = .ok (.getfield 26, 3) := by decide +kernel
theorem dX8_feed_49 : decode cX8_feed 49 = .ok (.iload 5, 2) := by decide +kernel
theorem dX8_feed_51 : decode cX8_feed 51 = .ok (.invokevirtual 62, 3) := by decide +kernel
theorem dX8_feed_54 : decode cX8_feed 54 = .ok (.aload_n 0, 1) := by decide +kernel
theorem dX8_feed_55 : decode cX8_feed 55 = .ok (.getfield 26, 3) := by decide +kernel
theorem dX8_feed_58 : decode cX8_feed 58 = .ok (.getfield 66, 3) := by decide +kernel
theorem dX8_feed_61 : decode cX8_feed 61 = .ok (.ireturn, 1) := by decide +kernel
theorem dX8_text_0 : decode cX8_text 0 = .ok (.aload_n 0, 1) := by decide +kernel
theorem dX8_text_1 : decode cX8_text 1 = .ok (.iload_n 1, 1) := by decide +kernel
theorem dX8_text_2 : decode cX8_text 2 = .ok (.iconst 0, 1) := by decide +kernel
theorem dX8_text_3 : decode cX8_text 3 = .ok (.aload_n 0, 1) := by decide +kernel
theorem dX8_text_4 : decode cX8_text 4 = .ok (.getfield 26, 3) := by decide +kernel
theorem dX8_text_7 : decode cX8_text 7 = .ok (.getfield 66, 3) := by decide +kernel
theorem dX8_text_10 : decode cX8_text 10 = .ok (.invokestatic 69, 3) := by decide +kernel
theorem dX8_text_13 : decode cX8_text 13 = .ok (.invokevirtual 73, 3) := by decide +kernel
theorem dX8_text_16 : decode cX8_text 16 = .ok (.aload_n 0, 1) := by decide +kernel
theorem dX8_text_17 : decode cX8_text 17 = .ok (.getfield 10, 3) := by decide +kernel
theorem dX8_text_20 : decode cX8_text 20 = .ok (.iload_n 1, 1) := by decide +kernel
theorem dX8_text_21 : decode cX8_text 21 = .ok (.invokevirtual 77, 3) := by decide +kernel
theorem dX8_text_24 : decode cX8_text 24 = .ok (.istore_n 2, 1) := by decide +kernel
theorem dX8_text_25 : decode cX8_text 25 = .ok (.aload_n 0, 1) := by decide +kernel
theorem dX8_text_26 : decode cX8_text 26 = .ok (.getfield 26, 3) := by decide +kernel
theorem dX8_text_29 : decode cX8_text 29 = .ok (.iconst 0, 1) := by decide +kernel
theorem dX8_text_30 : decode cX8_text 30 = .ok (.putfield 66, 3) := by decide +kernel
theorem dX8_text_33 : decode cX8_text 33 = .ok (.iload_n 2, 1) := by decide +kernel
theorem dX8_text_34 : decode cX8_text 34 = .ok (.ifCond .ne 25, 3) := by decide +kernel
theorem dX8_text_37 : decode cX8_text 37 = .ok (.aload_n 0, 1) := by decide +kernel
theorem dX8_text_38 : decode cX8_text 38 = .ok (.aload_n 0, 1) := by decide +kernel
theorem dX8_text_39 : decode cX8_text 39 = .ok (.getfield 10, 3) := by decide +kernel
theorem dX8_text_42 : decode cX8_text 42 = .ok (.getfield 81, 3) := by decide +kernel
theorem dX8_text_45 : decode cX8_text 45 = .ok (.putfield 52, 3) := by decide +kernel
theorem dX8_text_48 : decode cX8_text 48 = .ok (.aload_n 0, 1) := by decide +kernel
theorem dX8_text_49 : decode cX8_text 49 = .ok (.getfield 10, 3) := by decide +kernel
theorem dX8_text_52 : decode cX8_text 52 = .ok (.getfield 82, 3) := by decide +kernel
theorem dX8_text_55 : decode cX8_text 55 = .ok (.bipush 10, 2) := by decide +kernel
theorem dX8_text_57 : decode cX8_text 57 = .ok (.isub, 1) := by decide +kernel
theorem dX8_text_58 : decode cX8_text 58 = .ok (.ireturn, 1) := by decide +kernel
theorem dX8_text_59 : decode cX8_text 59 = .ok (.aload_n 0, 1) := by decide +kernel
theorem dX8_text_60 : decode cX8_text 60 = .ok (.iconst (-1), 1) := by decide +kernel
theorem dX8_text_61 : decode cX8_text 61 = .ok (.putfield 52, 3) := by decide +kernel
theorem dX8_text_64 : decode cX8_text 64 = .ok (.aload_n 0, 1) := by decide +kernel
theorem dX8_text_65 : decode cX8_text 65 = .ok (.invokevirtual 85, 3) := by decide +kernel
theorem dX8_text_68 : decode cX8_text 68 = .ok (.aload_n 0, 1) := by decide +kernel
theorem dX8_text_69 : decode cX8_text 69 = .ok (.getfield 48, 3) := by decide +kernel
theorem dX8_text_72 : decode cX8_text 72 = .ok (.aload_n 0, 1) := by decide +kernel
theorem dX8_text_73 : decode cX8_text 73 = .ok (.getfield 10, 3) := by decide +kernel
theorem dX8_text_76 : decode cX8_text 76 = .ok (.getfield 88, 3) := by decide +kernel
theorem dX8_text_79 : decode cX8_text 79 = .ok (.invokevirtual 91, 3) := by decide +kernel
theorem dX8_text_82 : decode cX8_text 82 = .ok (.aload_n 0, 1) := by decide +kernel
theorem dX8_text_83 : decode cX8_text 83 = .ok (.getfield 30, 3) := by decide +kernel
theorem dX8_text_86 : decode cX8_text 86 = .ok (.aload_n 0, 1) := by decide +kernel
theorem dX8_text_87 : decode cX8_text 87 = .ok (.getfield 48, 3) := by decide +kernel
theorem dX8_text_90 : decode cX8_text 90 = .ok (.invokevirtual 95, 3) := by decide +kernel
theorem dX8_text_93 : decode cX8_text 93 = .ok (.aload_n 0, 1) := by decide +kernel
theorem dX8_text_94 : decode cX8_text 94 = .ok (.getfield 48, 3) := by decide +kernel
theorem dX8_text_97 : decode cX8_text 97 = .ok (.getfield 98, 3) := by decide +kernel
theorem dX8_text_100 : decode cX8_text 100 = .ok (.ireturn, 1) := by decide +kernel
theorem dX8_fault_0 : decode cX8_fault 0 = .ok (.aload_n 0, 1) := by decide +kernel
theorem dX8_fault_1 : decode cX8_fault 1 = .ok (.getfield 52, 3) := by decide +kernel
theorem dX8_fault_4 : decode cX8_fault 4 = .ok (.ireturn, 1) := by decide +kernel
theorem dX8_sample_0 : decode cX8_sample 0 = .ok (.aload_n 0, 1) := by decide +kernel
theorem dX8_sample_1 : decode cX8_sample 1 = .ok (.iload_n 1, 1) := by decide +kernel
theorem dX8_sample_2 : decode cX8_sample 2 = .ok (.iconst 0, 1) := by decide +kernel
theorem dX8_sample_3 : decode cX8_sample 3 = .ok (.iconst 1, 1) := by decide +kernel
theorem dX8_sample_4 : decode cX8_sample 4 = .ok (.invokestatic 69, 3) := by decide +kernel
theorem dX8_sample_7 : decode cX8_sample 7 = .ok (.ifCond .eq 22, 3) := by decide +kernel
theorem dX8_sample_10 : decode cX8_sample 10 = .ok (.iload_n 2, 1) := by decide +kernel
theorem dX8_sample_11 : decode cX8_sample 11 = .ok (.iconst 1, 1) := by decide +kernel
theorem dX8_sample_12 : decode cX8_sample 12 = .ok (.aload_n 0, 1) := by decide +kernel
theorem dX8_sample_13 : decode cX8_sample 13 = .ok (.getfield 48, 3) := by decide +kernel
theorem dX8_sample_16 : decode cX8_sample 16 = .ok (.getfield 98, 3) := by decide +kernel
theorem dX8_sample_19 : decode cX8_sample 19 = .ok (.invokestatic 69, 3) := by decide +kernel
theorem dX8_sample_22 : decode cX8_sample 22 = .ok (.ifCond .eq 7, 3) := by decide +kernel
theorem dX8_sample_25 : decode cX8_sample 25 = .ok (.iconst 1, 1) := by decide +kernel
theorem dX8_sample_26 : decode cX8_sample 26 = .ok (.goto 4, 3) := by decide +kernel
theorem dX8_sample_29 : decode cX8_sample 29 = .ok (.iconst 0, 1) := by decide +kernel
theorem dX8_sample_30 : decode cX8_sample 30 = .ok (.invokevirtual 73, 3) := by decide +kernel
theorem dX8_sample_33 : decode cX8_sample 33 = .ok (.aload_n 0, 1) := by decide +kernel
theorem dX8_sample_34 : decode cX8_sample 34 = .ok (.invokevirtual 85, 3) := by decide +kernel
theorem dX8_sample_37 : decode cX8_sample 37 = .ok (.aload_n 0, 1) := by decide +kernel
theorem dX8_sample_38 : decode cX8_sample 38 = .ok (.iload_n 2, 1) := by decide +kernel
theorem dX8_sample_39 : decode cX8_sample 39 = .ok (.iload_n 3, 1) := by decide +kernel
theorem dX8_sample_40 : decode cX8_sample 40 = .ok (.invokevirtual 101, 3) := by decide +kernel
theorem dX8_sample_43 : decode cX8_sample 43 = .ok (.lstore 4, 2) := by decide +kernel
theorem dX8_sample_45 : decode cX8_sample 45 = .ok (.iload_n 1, 1) := by decide +kernel
theorem dX8_sample_46 : decode cX8_sample 46 = .ok (.ifCond .ne 15, 3) := by decide +kernel
theorem dX8_sample_49 : decode cX8_sample 49 = .ok (.aload_n 0, 1) := by decide +kernel
theorem dX8_sample_50 : decode cX8_sample 50 = .ok (.getfield 48, 3) := by decide +kernel
theorem dX8_sample_53 : decode cX8_sample 53 = .ok (.lload 4, 2) := by decide +kernel
theorem dX8_sample_55 : decode cX8_sample 55 = .ok (.putfield 105, 3) := by decide +kernel
theorem dX8_sample_58 : decode cX8_sample 58 = .ok (.goto 12, 3) := by decide +kernel
theorem dX8_sample_61 : decode cX8_sample 61 = .ok (.aload_n 0, 1) := by decide +kernel
theorem dX8_sample_62 : decode cX8_sample 62 = .ok (.getfield 48, 3) := by decide +kernel
theorem dX8_sample_65 : decode cX8_sample 65 = .ok (.lload 4, 2) := by decide +kernel
theorem dX8_sample_67 : decode cX8_sample 67 = .ok (.putfield 109, 3) := by decide +kernel
theorem dX8_sample_70 : decode cX8_sample 70 = .ok (.aload_n 0, 1) := by decide +kernel
theorem dX8_sample_71 : decode cX8_sample 71 = .ok (.getfield 30, 3) := by decide +kernel
theorem dX8_sample_74 : decode cX8_sample 74 = .ok (.lload 4, 2) := by decide +kernel
theorem dX8_sample_76 : decode cX8_sample 76 = .ok (.invokevirtual 112, 3) := by decide +kernel
theorem dX8_sample_79 : decode cX8_sample 79 = .ok (.ireturn, 1) := by decide +kernel
theorem dX8_strike_0 : decode cX8_strike 0 = .ok (.aload_n 0, 1) := by decide +kernel
theorem dX8_strike_1 : decode cX8_strike 1 = .ok (.aload_n 0, 1) := by decide +kernel
theorem dX8_strike_2 : decode cX8_strike 2 = .ok (.iload_n 1, 1) := by decide +kernel
theorem dX8_strike_3 : decode cX8_strike 3 = .ok (.invokevirtual 116, 3) := by decide +kernel
theorem dX8_strike_6 : decode cX8_strike 6 = .ok (.invokevirtual 119, 3) := by decide +kernel
theorem dX8_strike_9 : decode cX8_strike 9 = .ok (.aload_n 0, 1) := by decide +kernel
theorem dX8_strike_10 : decode cX8_strike 10 = .ok (.invokevirtual 85, 3) := by decide +kernel
theorem dX8_strike_13 : decode cX8_strike 13 = .ok (.aload_n 0, 1) := by decide +kernel
theorem dX8_strike_14 : decode cX8_strike 14 = .ok (.getfield 48, 3) := by decide +kernel
theorem dX8_strike_17 : decode cX8_strike 17 = .ok (.iload_n 1, 1) := by decide +kernel
theorem dX8_strike_18 : decode cX8_strike 18 = .ok (.invokevirtual 122, 3) := by decide +kernel
theorem dX8_strike_21 : decode cX8_strike 21 = .ok (.istore_n 3, 1) := by decide +kernel
theorem dX8_strike_22 : decode cX8_strike 22 = .ok (.iload_n 3, 1) := by decide +kernel
theorem dX8_strike_23 : decode cX8_strike 23 = .ok (.iload_n 2, 1) := by decide +kernel
theorem dX8_strike_24 : decode cX8_strike 24 = .ok (.if_icmp .ne 5, 3) := by decide +kernel
theorem dX8_strike_27 : decode cX8_strike 27 = .ok (.iconst 0, 1) := by decide +kernel
theorem dX8_strike_28 : decode cX8_strike 28 = .ok (.ireturn, 1) := by decide +kernel
theorem dX8_strike_29 : decode cX8_strike 29 = .ok (.aload_n 0, 1) := by decide +kernel
theorem dX8_strike_30 : decode cX8_strike 30 = .ok (.getfield 48, 3) := by decide +kernel
theorem dX8_strike_33 : decode cX8_strike 33 = .ok (.dup, 1) := by decide +kernel
theorem dX8_strike_34 : decode cX8_strike 34 = .ok (.getfield 125, 3) := by decide +kernel
theorem dX8_strike_37 : decode cX8_strike 37 = .ok (.iconst 1, 1) := by decide +kernel
theorem dX8_strike_38 : decode cX8_strike 38 = .ok (.iload_n 1, 1) := by decide +kernel
theorem dX8_strike_39 : decode cX8_strike 39 = .ok (.ishl, 1) := by decide +kernel
theorem dX8_strike_40 : decode cX8_strike 40 = .ok (.ixor, 1) := by decide +kernel
theorem dX8_strike_41 : decode cX8_strike 41 = .ok (.putfield 125, 3) := by decide +kernel
theorem dX8_strike_44 : decode cX8_strike 44 = .ok (.aload_n 0, 1) := by decide +kernel
theorem dX8_strike_45 : decode cX8_strike 45 = .ok (.getfield 30, 3) := by decide +kernel
theorem dX8_strike_48 : decode cX8_strike 48 = .ok (.aload_n 0, 1) := by decide +kernel
theorem dX8_strike_49 : decode cX8_strike 49 = .ok (.getfield 48, 3) := by decide +kernel
theorem dX8_strike_52 : decode cX8_strike 52 = .ok (.invokevirtual 95, 3) := by decide +kernel
theorem dX8_strike_55 : decode cX8_strike 55 = .ok (.iconst 1, 1) := by decide +kernel
theorem dX8_strike_56 : decode cX8_strike 56 = .ok (.ireturn, 1) := by decide +kernel
theorem dX8_sign_0 : decode cX8_sign 0 = .ok (.aload_n 0, 1) := by decide +kernel
theorem dX8_sign_1 : decode cX8_sign 1 = .ok (.aload_n 0, 1) := by decide +kernel
theorem dX8_sign_2 : decode cX8_sign 2 = .ok (.iload_n 1, 1) := by decide +kernel
theorem dX8_sign_3 : decode cX8_sign 3 = .ok (.invokevirtual 116, 3) := by decide +kernel
theorem dX8_sign_6 : decode cX8_sign 6 = .ok (.ifCond .eq 15, 3) := by decide +kernel
theorem dX8_sign_9 : decode cX8_sign 9 = .ok (.aload_n 0, 1) := by decide +kernel
theorem dX8_sign_10 : decode cX8_sign 10 = .ok (.iload_n 2, 1) := by decide +kernel
theorem dX8_sign_11 : decode cX8_sign 11 = .ok (.invokevirtual 128, 3) := by decide +kernel
theorem dX8_sign_14 : decode cX8_sign 14 = .ok (.ifCond .eq 7, 3) := by decide +kernel
theorem dX8_sign_17 : decode cX8_sign 17 = .ok (.iconst 1, 1) := by decide +kernel
theorem dX8_sign_18 : decode cX8_sign 18 = .ok (.goto 4, 3) := by decide +kernel
theorem dX8_sign_21 : decode cX8_sign 21 = .ok (.iconst 0, 1) := by decide +kernel
theorem dX8_sign_22 : decode cX8_sign 22 = .ok (.invokevirtual 119, 3) := by decide +kernel
theorem dX8_sign_25 : decode cX8_sign 25 = .ok (.aload_n 0, 1) := by decide +kernel
theorem dX8_sign_26 : decode cX8_sign 26 = .ok (.iload_n 3, 1) := by decide +kernel
theorem dX8_sign_27 : decode cX8_sign 27 = .ok (.iconst 0, 1) := by decide +kernel
theorem dX8_sign_28 : decode cX8_sign 28 = .ok (.sipush 999, 3) := by decide +kernel
theorem dX8_sign_31 : decode cX8_sign 31 = .ok (.invokestatic 69, 3) := by decide +kernel
theorem dX8_sign_34 : decode cX8_sign 34 = .ok (.invokevirtual 73, 3) := by decide +kernel
theorem dX8_sign_37 : decode cX8_sign 37 = .ok (.aload_n 0, 1) := by decide +kernel
theorem dX8_sign_38 : decode cX8_sign 38 = .ok (.aload_n 0, 1) := by decide +kernel
theorem dX8_sign_39 : decode cX8_sign 39 = .ok (.getfield 48, 3) := by decide +kernel
theorem dX8_sign_42 : decode cX8_sign 42 = .ok (.getfield 98, 3) := by decide +kernel
theorem dX8_sign_45 : decode cX8_sign 45 = .ok (.bipush 40, 2) := by decide +kernel
theorem dX8_sign_47 : decode cX8_sign 47 = .ok (.if_icmp .ge 7, 3) := by decide +kernel
theorem dX8_sign_50 : decode cX8_sign 50 = .ok (.iconst 1, 1) := by decide +kernel
theorem dX8_sign_51 : decode cX8_sign 51 = .ok (.goto 4, 3) := by decide +kernel
theorem dX8_sign_54 : decode cX8_sign 54 = .ok (.iconst 0, 1) := by decide +kernel
theorem dX8_sign_55 : decode cX8_sign 55 = .ok (.invokevirtual 131, 3) := by decide +kernel
theorem dX8_sign_58 : decode cX8_sign 58 = .ok (.aload_n 0, 1) := by decide +kernel
theorem dX8_sign_59 : decode cX8_sign 59 = .ok (.invokevirtual 85, 3) := by decide +kernel
theorem dX8_sign_62 : decode cX8_sign 62 = .ok (.aload_n 0, 1) := by decide +kernel
theorem dX8_sign_63 : decode cX8_sign 63 = .ok (.getfield 48, 3) := by decide +kernel
theorem dX8_sign_66 : decode cX8_sign 66 = .ok (.iload_n 1, 1) := by decide +kernel
theorem dX8_sign_67 : decode cX8_sign 67 = .ok (.invokevirtual 134, 3) := by decide +kernel
theorem dX8_sign_70 : decode cX8_sign 70 = .ok (.istore 4, 2) := by decide +kernel
theorem dX8_sign_72 : decode cX8_sign 72 = .ok (.aload_n 0, 1) := by decide +kernel
theorem dX8_sign_73 : decode cX8_sign 73 = .ok (.getfield 48, 3) := by decide +kernel
theorem dX8_sign_76 : decode cX8_sign 76 = .ok (.iload_n 1, 1) := by decide +kernel
theorem dX8_sign_77 : decode cX8_sign 77 = .ok (.aload_n 0, 1) := by decide +kernel
theorem dX8_sign_78 : decode cX8_sign 78 = .ok (.getfield 48, 3) := by decide +kernel
theorem dX8_sign_81 : decode cX8_sign 81 = .ok (.getfield 138, 3) := by decide +kernel
theorem dX8_sign_84 : decode cX8_sign 84 = .ok (.iload_n 2, 1) := by decide +kernel
theorem dX8_sign_85 : decode cX8_sign 85 = .ok (.iaload, 1) := by decide +kernel
theorem dX8_sign_86 : decode cX8_sign 86 = .ok (.aload_n 0, 1) := by decide +kernel
theorem dX8_sign_87 : decode cX8_sign 87 = .ok (.getfield 48, 3) := by decide +kernel
theorem dX8_sign_90 : decode cX8_sign 90 = .ok (.getfield 142, 3) := by decide +kernel
theorem dX8_sign_93 : decode cX8_sign 93 = .ok (.iload_n 2, 1) := by decide +kernel
theorem dX8_sign_94 : decode cX8_sign 94 = .ok (.iaload, 1) := by decide +kernel
theorem dX8_sign_95 : decode cX8_sign 95 = .ok (.iload_n 3, 1) := by decide +kernel
theorem dX8_sign_96 : decode cX8_sign 96 = .ok (.invokevirtual 145, 3) := by decide +kernel
theorem dX8_sign_99 : decode cX8_sign 99 = .ok (.aload_n 0, 1) := by decide +kernel
theorem dX8_sign_100 : decode cX8_sign 100 = .ok (.getfield 48, 3) := by decide +kernel
theorem dX8_sign_103 : decode cX8_sign 103 = .ok (.invokevirtual 149, 3) := by decide +kernel
theorem dX8_sign_106 : decode cX8_sign 106 = .ok (.aload_n 0, 1) := by decide +kernel
theorem dX8_sign_107 : decode cX8_sign 107 = .ok (.getfield 30, 3) := by decide +kernel
theorem dX8_sign_110 : decode cX8_sign 110 = .ok (.aload_n 0, 1) := by decide +kernel
theorem dX8_sign_111 : decode cX8_sign 111 = .ok (.getfield 48, 3) := by decide +kernel
theorem dX8_sign_114 : decode cX8_sign 114 = .ok (.invokevirtual 95, 3) := by decide +kernel
theorem dX8_sign_117 : decode cX8_sign 117 = .ok (.iload 4, 2) := by decide +kernel
theorem dX8_sign_119 : decode cX8_sign 119 = .ok (.ireturn, 1) := by decide +kernel
theorem dX8_erase_0 : decode cX8_erase 0 = .ok (.aload_n 0, 1) := by decide +kernel
theorem dX8_erase_1 : decode cX8_erase 1 = .ok (.aload_n 0, 1) := by decide +kernel
theorem dX8_erase_2 : decode cX8_erase 2 = .ok (.iload_n 1, 1) := by decide +kernel
theorem dX8_erase_3 : decode cX8_erase 3 = .ok (.iload_n 2, 1) := by decide +kernel
theorem dX8_erase_4 : decode cX8_erase 4 = .ok (.invokevirtual 152, 3) := by decide +kernel
theorem dX8_erase_7 : decode cX8_erase 7 = .ok (.invokevirtual 119, 3) := by decide +kernel
theorem dX8_erase_10 : decode cX8_erase 10 = .ok (.aload_n 0, 1) := by decide +kernel
theorem dX8_erase_11 : decode cX8_erase 11 = .ok (.invokevirtual 85, 3) := by decide +kernel
theorem dX8_erase_14 : decode cX8_erase 14 = .ok (.aload_n 0, 1) := by decide +kernel
theorem dX8_erase_15 : decode cX8_erase 15 = .ok (.getfield 48, 3) := by decide +kernel
theorem dX8_erase_18 : decode cX8_erase 18 = .ok (.iload_n 1, 1) := by decide +kernel
theorem dX8_erase_19 : decode cX8_erase 19 = .ok (.invokevirtual 156, 3) := by decide +kernel
theorem dX8_erase_22 : decode cX8_erase 22 = .ok (.iload_n 2, 1) := by decide +kernel
theorem dX8_erase_23 : decode cX8_erase 23 = .ok (.iadd, 1) := by decide +kernel
theorem dX8_erase_24 : decode cX8_erase 24 = .ok (.istore_n 3, 1) := by decide +kernel
theorem dX8_erase_25 : decode cX8_erase 25 = .ok (.aload_n 0, 1) := by decide +kernel
theorem dX8_erase_26 : decode cX8_erase 26 = .ok (.getfield 30, 3) := by decide +kernel
theorem dX8_erase_29 : decode cX8_erase 29 = .ok (.getfield 159, 3) := by decide +kernel
theorem dX8_erase_32 : decode cX8_erase 32 = .ok (.iload_n 3, 1) := by decide +kernel
theorem dX8_erase_33 : decode cX8_erase 33 = .ok (.iaload, 1) := by decide +kernel
theorem dX8_erase_34 : decode cX8_erase 34 = .ok (.istore 4, 2) := by decide +kernel
theorem dX8_erase_36 : decode cX8_erase 36 = .ok (.aload_n 0, 1) := by decide +kernel
theorem dX8_erase_37 : decode cX8_erase 37 = .ok (.getfield 48, 3) := by decide +kernel
theorem dX8_erase_40 : decode cX8_erase 40 = .ok (.iload_n 3, 1) := by decide +kernel
theorem dX8_erase_41 : decode cX8_erase 41 = .ok (.invokevirtual 162, 3) := by decide +kernel
theorem dX8_erase_44 : decode cX8_erase 44 = .ok (.aload_n 0, 1) := by decide +kernel
theorem dX8_erase_45 : decode cX8_erase 45 = .ok (.getfield 48, 3) := by decide +kernel
theorem dX8_erase_48 : decode cX8_erase 48 = .ok (.invokevirtual 149, 3) := by decide +kernel
theorem dX8_erase_51 : decode cX8_erase 51 = .ok (.aload_n 0, 1) := by decide +kernel
theorem dX8_erase_52 : decode cX8_erase 52 = .ok (.getfield 30, 3) := by decide +kernel
theorem dX8_erase_55 : decode cX8_erase 55 = .ok (.aload_n 0, 1) := by decide +kernel
theorem dX8_erase_56 : decode cX8_erase 56 = .ok (.getfield 48, 3) := by decide +kernel
theorem dX8_erase_59 : decode cX8_erase 59 = .ok (.invokevirtual 95, 3) := by decide +kernel
theorem dX8_erase_62 : decode cX8_erase 62 = .ok (.iload 4, 2) := by decide +kernel
theorem dX8_erase_64 : decode cX8_erase 64 = .ok (.ireturn, 1) := by decide +kernel
theorem dX8_undo_0 : decode cX8_undo 0 = .ok (.aload_n 0, 1) := by decide +kernel
theorem dX8_undo_1 : decode cX8_undo 1 = .ok (.getfield 165, 3) := by decide +kernel
theorem dX8_undo_4 : decode cX8_undo 4 = .ok (.ifCond .gt 5, 3) := by decide +kernel
theorem dX8_undo_7 : decode cX8_undo 7 = .ok (.iconst (-1), 1) := by decide +kernel
theorem dX8_undo_8 : decode cX8_undo 8 = .ok (.ireturn, 1) := by decide +kernel
theorem dX8_undo_9 : decode cX8_undo 9 = .ok (.aload_n 0, 1) := by decide +kernel
theorem dX8_undo_10 : decode cX8_undo 10 = .ok (.dup, 1) := by decide +kernel
theorem dX8_undo_11 : decode cX8_undo 11 = .ok (.getfield 165, 3) := by decide +kernel
theorem dX8_undo_14 : decode cX8_undo 14 = .ok (.iconst 1, 1) := by decide +kernel
theorem dX8_undo_15 : decode cX8_undo 15 = .ok (.isub, 1) := by decide +kernel
theorem dX8_undo_16 : decode cX8_undo 16 = .ok (.putfield 165, 3) := by decide +kernel
theorem dX8_undo_19 : decode cX8_undo 19 = .ok (.aload_n 0, 1) := by decide +kernel
theorem dX8_undo_20 : decode cX8_undo 20 = .ok (.getfield 48, 3) := by decide +kernel
theorem dX8_undo_23 : decode cX8_undo 23 = .ok (.astore_n 1, 1) := by decide +kernel
theorem dX8_undo_24 : decode cX8_undo 24 = .ok (.aload_n 0, 1) := by decide +kernel
theorem dX8_undo_25 : decode cX8_undo 25 = .ok (.aload_n 0, 1) := by decide +kernel
theorem dX8_undo_26 : decode cX8_undo 26 = .ok (.getfield 43, 3) := by decide +kernel
theorem dX8_undo_29 : decode cX8_undo 29 = .ok (.aload_n 0, 1) := by decide +kernel
theorem dX8_undo_30 : decode cX8_undo 30 = .ok (.getfield 165, 3) := by decide +kernel
theorem dX8_undo_33 : decode cX8_undo 33 = .ok (.aaload, 1) := by decide +kernel
theorem dX8_undo_34 : decode cX8_undo 34 = .ok (.putfield 48, 3) := by decide +kernel
theorem dX8_undo_37 : decode cX8_undo 37 = .ok (.aload_n 0, 1) := by decide +kernel
theorem dX8_undo_38 : decode cX8_undo 38 = .ok (.getfield 43, 3) := by decide +kernel
theorem dX8_undo_41 : decode cX8_undo 41 = .ok (.aload_n 0, 1) := by decide +kernel
theorem dX8_undo_42 : decode cX8_undo 42 = .ok (.getfield 165, 3) := by decide +kernel
theorem dX8_undo_45 : decode cX8_undo 45 = .ok (.aload_n 1, 1) := by decide +kernel
theorem dX8_undo_46 : decode cX8_undo 46 = .ok (.aastore, 1) := by decide +kernel
theorem dX8_undo_47 : decode cX8_undo 47 = .ok (.aload_n 0, 1) := by decide +kernel
theorem dX8_undo_48 : decode cX8_undo 48 = .ok (.getfield 30, 3) := by decide +kernel
theorem dX8_undo_51 : decode cX8_undo 51 = .ok (.aload_n 0, 1) := by decide +kernel
theorem dX8_undo_52 : decode cX8_undo 52 = .ok (.getfield 48, 3) := by decide +kernel
theorem dX8_undo_55 : decode cX8_undo 55 = .ok (.invokevirtual 95, 3) := by decide +kernel
theorem dX8_undo_58 : decode cX8_undo 58 = .ok (.aload_n 0, 1) := by decide +kernel
theorem dX8_undo_59 : decode cX8_undo 59 = .ok (.getfield 165, 3) := by decide +kernel
theorem dX8_undo_62 : decode cX8_undo 62 = .ok (.ireturn, 1) := by decide +kernel
theorem dX8_told_0 : decode cX8_told 0 = .ok (.aload_n 0, 1) := by decide +kernel
theorem dX8_told_1 : decode cX8_told 1 = .ok (.iload_n 1, 1) := by decide +kernel
theorem dX8_told_2 : decode cX8_told 2 = .ok (.iconst 0, 1) := by decide +kernel
theorem dX8_told_3 : decode cX8_told 3 = .ok (.bipush 10, 2) := by decide +kernel
theorem dX8_told_5 : decode cX8_told 5 = .ok (.invokestatic 69, 3) := by decide +kernel
theorem dX8_told_8 : decode cX8_told 8 = .ok (.invokevirtual 73, 3) := by decide +kernel
theorem dX8_told_11 : decode cX8_told 11 = .ok (.iload_n 1, 1) := by decide +kernel
theorem dX8_told_12 : decode cX8_told 12 = .ok (.tableswitch 136 0 9 #[56, 64, 72, 80, 88, 96, 104, 112, 120, 128], 56) := by decide +kernel
theorem dX8_told_68 : decode cX8_told 68 = .ok (.aload_n 0, 1) := by decide +kernel
theorem dX8_told_69 : decode cX8_told 69 = .ok (.getfield 48, 3) := by decide +kernel
theorem dX8_told_72 : decode cX8_told 72 = .ok (.getfield 168, 3) := by decide +kernel
theorem dX8_told_75 : decode cX8_told 75 = .ok (.ireturn, 1) := by decide +kernel
theorem dX8_told_76 : decode cX8_told 76 = .ok (.aload_n 0, 1) := by decide +kernel
theorem dX8_told_77 : decode cX8_told 77 = .ok (.getfield 48, 3) := by decide +kernel
theorem dX8_told_80 : decode cX8_told 80 = .ok (.getfield 171, 3) := by decide +kernel
theorem dX8_told_83 : decode cX8_told 83 = .ok (.ireturn, 1) := by decide +kernel
theorem dX8_told_84 : decode cX8_told 84 = .ok (.aload_n 0, 1) := by decide +kernel
theorem dX8_told_85 : decode cX8_told 85 = .ok (.getfield 48, 3) := by decide +kernel
theorem dX8_told_88 : decode cX8_told 88 = .ok (.getfield 98, 3) := by decide +kernel
theorem dX8_told_91 : decode cX8_told 91 = .ok (.ireturn, 1) := by decide +kernel
theorem dX8_told_92 : decode cX8_told 92 = .ok (.aload_n 0, 1) := by decide +kernel
theorem dX8_told_93 : decode cX8_told 93 = .ok (.getfield 48, 3) := by decide +kernel
theorem dX8_told_96 : decode cX8_told 96 = .ok (.getfield 174, 3) := by decide +kernel
theorem dX8_told_99 : decode cX8_told 99 = .ok (.ireturn, 1) := by decide +kernel
theorem dX8_told_100 : decode cX8_told 100 = .ok (.aload_n 0, 1) := by decide +kernel
theorem dX8_told_101 : decode cX8_told 101 = .ok (.getfield 48, 3) := by decide +kernel
theorem dX8_told_104 : decode cX8_told 104 = .ok (.getfield 177, 3) := by decide +kernel
theorem dX8_told_107 : decode cX8_told 107 = .ok (.ireturn, 1) := by decide +kernel
theorem dX8_told_108 : decode cX8_told 108 = .ok (.aload_n 0, 1) := by decide +kernel
theorem dX8_told_109 : decode cX8_told 109 = .ok (.getfield 48, 3) := by decide +kernel
theorem dX8_told_112 : decode cX8_told 112 = .ok (.getfield 180, 3) := by decide +kernel
theorem dX8_told_115 : decode cX8_told 115 = .ok (.ireturn, 1) := by decide +kernel
theorem dX8_told_116 : decode cX8_told 116 = .ok (.aload_n 0, 1) := by decide +kernel
theorem dX8_told_117 : decode cX8_told 117 = .ok (.getfield 48, 3) := by decide +kernel
theorem dX8_told_120 : decode cX8_told 120 = .ok (.getfield 183, 3) := by decide +kernel
theorem dX8_told_123 : decode cX8_told 123 = .ok (.ireturn, 1) := by decide +kernel
theorem dX8_told_124 : decode cX8_told 124 = .ok (.aload_n 0, 1) := by decide +kernel
theorem dX8_told_125 : decode cX8_told 125 = .ok (.getfield 48, 3) := by decide +kernel
theorem dX8_told_128 : decode cX8_told 128 = .ok (.getfield 186, 3) := by decide +kernel
theorem dX8_told_131 : decode cX8_told 131 = .ok (.ireturn, 1) := by decide +kernel
theorem dX8_told_132 : decode cX8_told 132 = .ok (.aload_n 0, 1) := by decide +kernel
theorem dX8_told_133 : decode cX8_told 133 = .ok (.getfield 30, 3) := by decide +kernel
theorem dX8_told_136 : decode cX8_told 136 = .ok (.getfield 189, 3) := by decide +kernel
theorem dX8_told_139 : decode cX8_told 139 = .ok (.ireturn, 1) := by decide +kernel
theorem dX8_told_140 : decode cX8_told 140 = .ok (.aload_n 0, 1) := by decide +kernel
theorem dX8_told_141 : decode cX8_told 141 = .ok (.getfield 26, 3) := by decide +kernel
theorem dX8_told_144 : decode cX8_told 144 = .ok (.getfield 66, 3) := by decide +kernel
theorem dX8_told_147 : decode cX8_told 147 = .ok (.ireturn, 1) := by decide +kernel
theorem dX8_told_148 : decode cX8_told 148 = .ok (.aload_n 0, 1) := by decide +kernel
theorem dX8_told_149 : decode cX8_told 149 = .ok (.getfield 165, 3) := by decide +kernel
theorem dX8_told_152 : decode cX8_told 152 = .ok (.ireturn, 1) := by decide +kernel
theorem dX8_voter_0 : decode cX8_voter 0 = .ok (.aload_n 0, 1) := by decide +kernel
theorem dX8_voter_1 : decode cX8_voter 1 = .ok (.aload_n 0, 1) := by decide +kernel
theorem dX8_voter_2 : decode cX8_voter 2 = .ok (.iload_n 1, 1) := by decide +kernel
theorem dX8_voter_3 : decode cX8_voter 3 = .ok (.invokevirtual 128, 3) := by decide +kernel
theorem dX8_voter_6 : decode cX8_voter 6 = .ok (.invokevirtual 119, 3) := by decide +kernel
theorem dX8_voter_9 : decode cX8_voter 9 = .ok (.aload_n 0, 1) := by decide +kernel
theorem dX8_voter_10 : decode cX8_voter 10 = .ok (.iload_n 2, 1) := by decide +kernel
theorem dX8_voter_11 : decode cX8_voter 11 = .ok (.iconst 0, 1) := by decide +kernel
theorem dX8_voter_12 : decode cX8_voter 12 = .ok (.iconst 3, 1) := by decide +kernel
theorem dX8_voter_13 : decode cX8_voter 13 = .ok (.invokestatic 69, 3) := by decide +kernel
theorem dX8_voter_16 : decode cX8_voter 16 = .ok (.invokevirtual 73, 3) := by decide +kernel
theorem dX8_voter_19 : decode cX8_voter 19 = .ok (.iload_n 2, 1) := by decide +kernel
theorem dX8_voter_20 : decode cX8_voter 20 = .ok (.tableswitch 57 0 2 #[28, 38, 48], 28) := by decide +kernel
theorem dX8_voter_48 : decode cX8_voter 48 = .ok (.aload_n 0, 1) := by decide +kernel
theorem dX8_voter_49 : decode cX8_voter 49 = .ok (.getfield 48, 3) := by decide +kernel
theorem dX8_voter_52 : decode cX8_voter 52 = .ok (.getfield 142, 3) := by decide +kernel
theorem dX8_voter_55 : decode cX8_voter 55 = .ok (.iload_n 1, 1) := by decide +kernel
theorem dX8_voter_56 : decode cX8_voter 56 = .ok (.iaload, 1) := by decide +kernel
theorem dX8_voter_57 : decode cX8_voter 57 = .ok (.ireturn, 1) := by decide +kernel
theorem dX8_voter_58 : decode cX8_voter 58 = .ok (.aload_n 0, 1) := by decide +kernel
theorem dX8_voter_59 : decode cX8_voter 59 = .ok (.getfield 48, 3) := by decide +kernel
theorem dX8_voter_62 : decode cX8_voter 62 = .ok (.getfield 192, 3) := by decide +kernel
theorem dX8_voter_65 : decode cX8_voter 65 = .ok (.iload_n 1, 1) := by decide +kernel
theorem dX8_voter_66 : decode cX8_voter 66 = .ok (.iaload, 1) := by decide +kernel
theorem dX8_voter_67 : decode cX8_voter 67 = .ok (.ireturn, 1) := by decide +kernel
theorem dX8_voter_68 : decode cX8_voter 68 = .ok (.aload_n 0, 1) := by decide +kernel
theorem dX8_voter_69 : decode cX8_voter 69 = .ok (.getfield 30, 3) := by decide +kernel
theorem dX8_voter_72 : decode cX8_voter 72 = .ok (.iload_n 1, 1) := by decide +kernel
theorem dX8_voter_73 : decode cX8_voter 73 = .ok (.invokevirtual 195, 3) := by decide +kernel
theorem dX8_voter_76 : decode cX8_voter 76 = .ok (.ireturn, 1) := by decide +kernel
theorem dX8_voter_77 : decode cX8_voter 77 = .ok (.aload_n 0, 1) := by decide +kernel
theorem dX8_voter_78 : decode cX8_voter 78 = .ok (.getfield 30, 3) := by decide +kernel
theorem dX8_voter_81 : decode cX8_voter 81 = .ok (.iload_n 1, 1) := by decide +kernel
theorem dX8_voter_82 : decode cX8_voter 82 = .ok (.invokevirtual 198, 3) := by decide +kernel
theorem dX8_voter_85 : decode cX8_voter 85 = .ok (.ireturn, 1) := by decide +kernel
theorem dX8_letter_0 : decode cX8_letter 0 = .ok (.aload_n 0, 1) := by decide +kernel
theorem dX8_letter_1 : decode cX8_letter 1 = .ok (.aload_n 0, 1) := by decide +kernel
theorem dX8_letter_2 : decode cX8_letter 2 = .ok (.iload_n 1, 1) := by decide +kernel
theorem dX8_letter_3 : decode cX8_letter 3 = .ok (.invokevirtual 128, 3) := by decide +kernel
theorem dX8_letter_6 : decode cX8_letter 6 = .ok (.ifCond .eq 27, 3) := by decide +kernel
theorem dX8_letter_9 : decode cX8_letter 9 = .ok (.iload_n 2, 1) := by decide +kernel
theorem dX8_letter_10 : decode cX8_letter 10 = .ok (.ifCond .lt 23, 3) := by decide +kernel
theorem dX8_letter_13 : decode cX8_letter 13 = .ok (.iload_n 2, 1) := by decide +kernel
theorem dX8_letter_14 : decode cX8_letter 14 = .ok (.aload_n 0, 1) := by decide +kernel
theorem dX8_letter_15 : decode cX8_letter 15 = .ok (.getfield 48, 3) := by decide +kernel
theorem dX8_letter_18 : decode cX8_letter 18 = .ok (.getfield 138, 3) := by decide +kernel
theorem dX8_letter_21 : decode cX8_letter 21 = .ok (.iload_n 1, 1) := by decide +kernel
theorem dX8_letter_22 : decode cX8_letter 22 = .ok (.iaload, 1) := by decide +kernel
theorem dX8_letter_23 : decode cX8_letter 23 = .ok (.invokestatic 201, 3) := by decide +kernel
theorem dX8_letter_26 : decode cX8_letter 26 = .ok (.if_icmp .ge 7, 3) := by decide +kernel
theorem dX8_letter_29 : decode cX8_letter 29 = .ok (.iconst 1, 1) := by decide +kernel
theorem dX8_letter_30 : decode cX8_letter 30 = .ok (.goto 4, 3) := by decide +kernel
theorem dX8_letter_33 : decode cX8_letter 33 = .ok (.iconst 0, 1) := by decide +kernel
theorem dX8_letter_34 : decode cX8_letter 34 = .ok (.invokevirtual 119, 3) := by decide +kernel
theorem dX8_letter_37 : decode cX8_letter 37 = .ok (.aload_n 0, 1) := by decide +kernel
theorem dX8_letter_38 : decode cX8_letter 38 = .ok (.getfield 48, 3) := by decide +kernel
theorem dX8_letter_41 : decode cX8_letter 41 = .ok (.getfield 138, 3) := by decide +kernel
theorem dX8_letter_44 : decode cX8_letter 44 = .ok (.iload_n 1, 1) := by decide +kernel
theorem dX8_letter_45 : decode cX8_letter 45 = .ok (.iaload, 1) := by decide +kernel
theorem dX8_letter_46 : decode cX8_letter 46 = .ok (.iload_n 2, 1) := by decide +kernel
theorem dX8_letter_47 : decode cX8_letter 47 = .ok (.invokestatic 206, 3) := by decide +kernel
theorem dX8_letter_50 : decode cX8_letter 50 = .ok (.ireturn, 1) := by decide +kernel
theorem dX8_sheet_0 : decode cX8_sheet 0 = .ok (.aload_n 0, 1) := by decide +kernel
theorem dX8_sheet_1 : decode cX8_sheet 1 = .ok (.aload_n 0, 1) := by decide +kernel
theorem dX8_sheet_2 : decode cX8_sheet 2 = .ok (.iload_n 1, 1) := by decide +kernel
theorem dX8_sheet_3 : decode cX8_sheet 3 = .ok (.invokevirtual 116, 3) := by decide +kernel
theorem dX8_sheet_6 : decode cX8_sheet 6 = .ok (.invokevirtual 119, 3) := by decide +kernel
theorem dX8_sheet_9 : decode cX8_sheet 9 = .ok (.aload_n 0, 1) := by decide +kernel
theorem dX8_sheet_10 : decode cX8_sheet 10 = .ok (.iload_n 2, 1) := by decide +kernel
theorem dX8_sheet_11 : decode cX8_sheet 11 = .ok (.iconst 0, 1) := by decide +kernel
theorem dX8_sheet_12 : decode cX8_sheet 12 = .ok (.bipush 8, 2) := by decide +kernel
theorem dX8_sheet_14 : decode cX8_sheet 14 = .ok (.invokestatic 69, 3) := by decide +kernel
theorem dX8_sheet_17 : decode cX8_sheet 17 = .ok (.invokevirtual 73, 3) := by decide +kernel
theorem dX8_sheet_20 : decode cX8_sheet 20 = .ok (.aload_n 0, 1) := by decide +kernel
theorem dX8_sheet_21 : decode cX8_sheet 21 = .ok (.getfield 48, 3) := by decide +kernel
theorem dX8_sheet_24 : decode cX8_sheet 24 = .ok (.iload_n 1, 1) := by decide +kernel
theorem dX8_sheet_25 : decode cX8_sheet 25 = .ok (.invokevirtual 156, 3) := by decide +kernel
theorem dX8_sheet_28 : decode cX8_sheet 28 = .ok (.istore_n 3, 1) := by decide +kernel
theorem dX8_sheet_29 : decode cX8_sheet 29 = .ok (.aload_n 0, 1) := by decide +kernel
theorem dX8_sheet_30 : decode cX8_sheet 30 = .ok (.getfield 48, 3) := by decide +kernel
theorem dX8_sheet_33 : decode cX8_sheet 33 = .ok (.iload_n 1, 1) := by decide +kernel
theorem dX8_sheet_34 : decode cX8_sheet 34 = .ok (.iconst 1, 1) := by decide +kernel
theorem dX8_sheet_35 : decode cX8_sheet 35 = .ok (.iadd, 1) := by decide +kernel
theorem dX8_sheet_36 : decode cX8_sheet 36 = .ok (.invokevirtual 156, 3) := by decide +kernel
theorem dX8_sheet_39 : decode cX8_sheet 39 = .ok (.istore 4, 2) := by decide +kernel
theorem dX8_sheet_41 : decode cX8_sheet 41 = .ok (.iload_n 2, 1) := by decide +kernel
theorem dX8_sheet_42 : decode cX8_sheet 42 = .ok (.tableswitch 60 0 2 #[26, 31, 43], 26) := by decide +kernel
theorem dX8_sheet_68 : decode cX8_sheet 68 = .ok (.iload 4, 2) := by decide +kernel
theorem dX8_sheet_70 : decode cX8_sheet 70 = .ok (.iload_n 3, 1) := by decide +kernel
theorem dX8_sheet_71 : decode cX8_sheet 71 = .ok (.isub, 1) := by decide +kernel
theorem dX8_sheet_72 : decode cX8_sheet 72 = .ok (.ireturn, 1) := by decide +kernel
theorem dX8_sheet_73 : decode cX8_sheet 73 = .ok (.aload_n 0, 1) := by decide +kernel
theorem dX8_sheet_74 : decode cX8_sheet 74 = .ok (.getfield 30, 3) := by decide +kernel
theorem dX8_sheet_77 : decode cX8_sheet 77 = .ok (.getfield 189, 3) := by decide +kernel
theorem dX8_sheet_80 : decode cX8_sheet 80 = .ok (.iload_n 1, 1) := by decide +kernel
theorem dX8_sheet_81 : decode cX8_sheet 81 = .ok (.ishr, 1) := by decide +kernel
theorem dX8_sheet_82 : decode cX8_sheet 82 = .ok (.iconst 1, 1) := by decide +kernel
theorem dX8_sheet_83 : decode cX8_sheet 83 = .ok (.iand, 1) := by decide +kernel
theorem dX8_sheet_84 : decode cX8_sheet 84 = .ok (.ireturn, 1) := by decide +kernel
theorem dX8_sheet_85 : decode cX8_sheet 85 = .ok (.aload_n 0, 1) := by decide +kernel
theorem dX8_sheet_86 : decode cX8_sheet 86 = .ok (.getfield 48, 3) := by decide +kernel
theorem dX8_sheet_89 : decode cX8_sheet 89 = .ok (.iload_n 1, 1) := by decide +kernel
theorem dX8_sheet_90 : decode cX8_sheet 90 = .ok (.invokevirtual 122, 3) := by decide +kernel
theorem dX8_sheet_93 : decode cX8_sheet 93 = .ok (.ifCond .eq 7, 3) := by decide +kernel
theorem dX8_sheet_96 : decode cX8_sheet 96 = .ok (.iconst 1, 1) := by decide +kernel
theorem dX8_sheet_97 : decode cX8_sheet 97 = .ok (.goto 4, 3) := by decide +kernel
theorem dX8_sheet_100 : decode cX8_sheet 100 = .ok (.iconst 0, 1) := by decide +kernel
theorem dX8_sheet_101 : decode cX8_sheet 101 = .ok (.ireturn, 1) := by decide +kernel
theorem dX8_sheet_102 : decode cX8_sheet 102 = .ok (.aload_n 0, 1) := by decide +kernel
theorem dX8_sheet_103 : decode cX8_sheet 103 = .ok (.getfield 30, 3) := by decide +kernel
theorem dX8_sheet_106 : decode cX8_sheet 106 = .ok (.iload_n 2, 1) := by decide +kernel
theorem dX8_sheet_107 : decode cX8_sheet 107 = .ok (.iconst 3, 1) := by decide +kernel
theorem dX8_sheet_108 : decode cX8_sheet 108 = .ok (.isub, 1) := by decide +kernel
theorem dX8_sheet_109 : decode cX8_sheet 109 = .ok (.iload_n 3, 1) := by decide +kernel
theorem dX8_sheet_110 : decode cX8_sheet 110 = .ok (.iload 4, 2) := by decide +kernel
theorem dX8_sheet_112 : decode cX8_sheet 112 = .ok (.invokevirtual 210, 3) := by decide +kernel
theorem dX8_sheet_115 : decode cX8_sheet 115 = .ok (.ireturn, 1) := by decide +kernel
theorem dX8_line_0 : decode cX8_line 0 = .ok (.aload_n 0, 1) := by decide +kernel
theorem dX8_line_1 : decode cX8_line 1 = .ok (.aload_n 0, 1) := by decide +kernel
theorem dX8_line_2 : decode cX8_line 2 = .ok (.iload_n 1, 1) := by decide +kernel
theorem dX8_line_3 : decode cX8_line 3 = .ok (.iload_n 2, 1) := by decide +kernel
theorem dX8_line_4 : decode cX8_line 4 = .ok (.invokevirtual 152, 3) := by decide +kernel
theorem dX8_line_7 : decode cX8_line 7 = .ok (.invokevirtual 119, 3) := by decide +kernel
theorem dX8_line_10 : decode cX8_line 10 = .ok (.aload_n 0, 1) := by decide +kernel
theorem dX8_line_11 : decode cX8_line 11 = .ok (.iload_n 3, 1) := by decide +kernel
theorem dX8_line_12 : decode cX8_line 12 = .ok (.iconst 0, 1) := by decide +kernel
theorem dX8_line_13 : decode cX8_line 13 = .ok (.iconst 5, 1) := by decide +kernel
theorem dX8_line_14 : decode cX8_line 14 = .ok (.invokestatic 69, 3) := by decide +kernel
theorem dX8_line_17 : decode cX8_line 17 = .ok (.invokevirtual 73, 3) := by decide +kernel
theorem dX8_line_20 : decode cX8_line 20 = .ok (.aload_n 0, 1) := by decide +kernel
theorem dX8_line_21 : decode cX8_line 21 = .ok (.getfield 48, 3) := by decide +kernel
theorem dX8_line_24 : decode cX8_line 24 = .ok (.iload_n 1, 1) := by decide +kernel
theorem dX8_line_25 : decode cX8_line 25 = .ok (.invokevirtual 156, 3) := by decide +kernel
theorem dX8_line_28 : decode cX8_line 28 = .ok (.iload_n 2, 1) := by decide +kernel
theorem dX8_line_29 : decode cX8_line 29 = .ok (.iadd, 1) := by decide +kernel
theorem dX8_line_30 : decode cX8_line 30 = .ok (.istore 4, 2) := by decide +kernel
theorem dX8_line_32 : decode cX8_line 32 = .ok (.iload_n 3, 1) := by decide +kernel
theorem dX8_line_33 : decode cX8_line 33 = .ok (.tableswitch 93 0 4 #[35, 46, 57, 68, 79], 35) := by decide +kernel
theorem dX8_line_68 : decode cX8_line 68 = .ok (.aload_n 0, 1) := by decide +kernel
theorem dX8_line_69 : decode cX8_line 69 = .ok (.getfield 48, 3) := by decide +kernel
theorem dX8_line_72 : decode cX8_line 72 = .ok (.getfield 214, 3) := by decide +kernel
theorem dX8_line_75 : decode cX8_line 75 = .ok (.iload 4, 2) := by decide +kernel
theorem dX8_line_77 : decode cX8_line 77 = .ok (.iaload, 1) := by decide +kernel
theorem dX8_line_78 : decode cX8_line 78 = .ok (.ireturn, 1) := by decide +kernel
theorem dX8_line_79 : decode cX8_line 79 = .ok (.aload_n 0, 1) := by decide +kernel
theorem dX8_line_80 : decode cX8_line 80 = .ok (.getfield 48, 3) := by decide +kernel
theorem dX8_line_83 : decode cX8_line 83 = .ok (.getfield 217, 3) := by decide +kernel
theorem dX8_line_86 : decode cX8_line 86 = .ok (.iload 4, 2) := by decide +kernel
theorem dX8_line_88 : decode cX8_line 88 = .ok (.iaload, 1) := by decide +kernel
theorem dX8_line_89 : decode cX8_line 89 = .ok (.ireturn, 1) := by decide +kernel
theorem dX8_line_90 : decode cX8_line 90 = .ok (.aload_n 0, 1) := by decide +kernel
theorem dX8_line_91 : decode cX8_line 91 = .ok (.getfield 30, 3) := by decide +kernel
theorem dX8_line_94 : decode cX8_line 94 = .ok (.getfield 220, 3) := by decide +kernel
theorem dX8_line_97 : decode cX8_line 97 = .ok (.iload 4, 2) := by decide +kernel
theorem dX8_line_99 : decode cX8_line 99 = .ok (.iaload, 1) := by decide +kernel
theorem dX8_line_100 : decode cX8_line 100 = .ok (.ireturn, 1) := by decide +kernel
theorem dX8_line_101 : decode cX8_line 101 = .ok (.aload_n 0, 1) := by decide +kernel
theorem dX8_line_102 : decode cX8_line 102 = .ok (.getfield 30, 3) := by decide +kernel
theorem dX8_line_105 : decode cX8_line 105 = .ok (.getfield 159, 3) := by decide +kernel
theorem dX8_line_108 : decode cX8_line 108 = .ok (.iload 4, 2) := by decide +kernel
theorem dX8_line_110 : decode cX8_line 110 = .ok (.iaload, 1) := by decide +kernel
theorem dX8_line_111 : decode cX8_line 111 = .ok (.ireturn, 1) := by decide +kernel
theorem dX8_line_112 : decode cX8_line 112 = .ok (.aload_n 0, 1) := by decide +kernel
theorem dX8_line_113 : decode cX8_line 113 = .ok (.getfield 48, 3) := by decide +kernel
theorem dX8_line_116 : decode cX8_line 116 = .ok (.getfield 105, 3) := by decide +kernel
theorem dX8_line_119 : decode cX8_line 119 = .ok (.iload 4, 2) := by decide +kernel
theorem dX8_line_121 : decode cX8_line 121 = .ok (.lshr, 1) := by decide +kernel
theorem dX8_line_122 : decode cX8_line 122 = .ok (.lconst 1, 1) := by decide +kernel
theorem dX8_line_123 : decode cX8_line 123 = .ok (.land, 1) := by decide +kernel
theorem dX8_line_124 : decode cX8_line 124 = .ok (.l2i, 1) := by decide +kernel
theorem dX8_line_125 : decode cX8_line 125 = .ok (.ireturn, 1) := by decide +kernel
theorem dX8_line_126 : decode cX8_line 126 = .ok (.aload_n 0, 1) := by decide +kernel
theorem dX8_line_127 : decode cX8_line 127 = .ok (.getfield 48, 3) := by decide +kernel
theorem dX8_line_130 : decode cX8_line 130 = .ok (.getfield 109, 3) := by decide +kernel
theorem dX8_line_133 : decode cX8_line 133 = .ok (.iload 4, 2) := by decide +kernel
theorem dX8_line_135 : decode cX8_line 135 = .ok (.lshr, 1) := by decide +kernel
theorem dX8_line_136 : decode cX8_line 136 = .ok (.lconst 1, 1) := by decide +kernel
theorem dX8_line_137 : decode cX8_line 137 = .ok (.land, 1) := by decide +kernel
theorem dX8_line_138 : decode cX8_line 138 = .ok (.l2i, 1) := by decide +kernel
theorem dX8_line_139 : decode cX8_line 139 = .ok (.ireturn, 1) := by decide +kernel
theorem dX8_judged_0 : decode cX8_judged 0 = .ok (.aload_n 0, 1) := by decide +kernel
theorem dX8_judged_1 : decode cX8_judged 1 = .ok (.iload_n 1, 1) := by decide +kernel
theorem dX8_judged_2 : decode cX8_judged 2 = .ok (.iconst 0, 1) := by decide +kernel
theorem dX8_judged_3 : decode cX8_judged 3 = .ok (.iconst 5, 1) := by decide +kernel
theorem dX8_judged_4 : decode cX8_judged 4 = .ok (.invokestatic 69, 3) := by decide +kernel
theorem dX8_judged_7 : decode cX8_judged 7 = .ok (.invokevirtual 73, 3) := by decide +kernel
theorem dX8_judged_10 : decode cX8_judged 10 = .ok (.aload_n 0, 1) := by decide +kernel
theorem dX8_judged_11 : decode cX8_judged 11 = .ok (.getfield 30, 3) := by decide +kernel
theorem dX8_judged_14 : decode cX8_judged 14 = .ok (.iload_n 1, 1) := by decide +kernel
theorem dX8_judged_15 : decode cX8_judged 15 = .ok (.iconst 0, 1) := by decide +kernel
theorem dX8_judged_16 : decode cX8_judged 16 = .ok (.aload_n 0, 1) := by decide +kernel
theorem dX8_judged_17 : decode cX8_judged 17 = .ok (.getfield 48, 3) := by decide +kernel
theorem dX8_judged_20 : decode cX8_judged 20 = .ok (.getfield 98, 3) := by decide +kernel
theorem dX8_judged_23 : decode cX8_judged 23 = .ok (.invokevirtual 210, 3) := by decide +kernel
theorem dX8_judged_26 : decode cX8_judged 26 = .ok (.ireturn, 1) := by decide +kernel
theorem dX8_passes_0 : decode cX8_passes 0 = .ok (.aload_n 0, 1) := by decide +kernel
theorem dX8_passes_1 : decode cX8_passes 1 = .ok (.getfield 30, 3) := by decide +kernel
theorem dX8_passes_4 : decode cX8_passes 4 = .ok (.iconst 0, 1) := by decide +kernel
theorem dX8_passes_5 : decode cX8_passes 5 = .ok (.iconst 0, 1) := by decide +kernel
theorem dX8_passes_6 : decode cX8_passes 6 = .ok (.aload_n 0, 1) := by decide +kernel
theorem dX8_passes_7 : decode cX8_passes 7 = .ok (.getfield 48, 3) := by decide +kernel
theorem dX8_passes_10 : decode cX8_passes 10 = .ok (.getfield 98, 3) := by decide +kernel
theorem dX8_passes_13 : decode cX8_passes 13 = .ok (.invokevirtual 210, 3) := by decide +kernel
theorem dX8_passes_16 : decode cX8_passes 16 = .ok (.aload_n 0, 1) := by decide +kernel
theorem dX8_passes_17 : decode cX8_passes 17 = .ok (.getfield 48, 3) := by decide +kernel
theorem dX8_passes_20 : decode cX8_passes 20 = .ok (.getfield 174, 3) := by decide +kernel
theorem dX8_passes_23 : decode cX8_passes 23 = .ok (.if_icmp .lt 7, 3) := by decide +kernel
theorem dX8_passes_26 : decode cX8_passes 26 = .ok (.iconst 1, 1) := by decide +kernel
theorem dX8_passes_27 : decode cX8_passes 27 = .ok (.goto 4, 3) := by decide +kernel
theorem dX8_passes_30 : decode cX8_passes 30 = .ok (.iconst 0, 1) := by decide +kernel
theorem dX8_passes_31 : decode cX8_passes 31 = .ok (.ireturn, 1) := by decide +kernel
theorem dX8_drawn_0 : decode cX8_drawn 0 = .ok (.aload_n 0, 1) := by decide +kernel
theorem dX8_drawn_1 : decode cX8_drawn 1 = .ok (.iload_n 1, 1) := by decide +kernel
theorem dX8_drawn_2 : decode cX8_drawn 2 = .ok (.iconst 0, 1) := by decide +kernel
theorem dX8_drawn_3 : decode cX8_drawn 3 = .ok (.iconst 1, 1) := by decide +kernel
theorem dX8_drawn_4 : decode cX8_drawn 4 = .ok (.invokestatic 69, 3) := by decide +kernel
theorem dX8_drawn_7 : decode cX8_drawn 7 = .ok (.ifCond .eq 16, 3) := by decide +kernel
theorem dX8_drawn_10 : decode cX8_drawn 10 = .ok (.iload_n 2, 1) := by decide +kernel
theorem dX8_drawn_11 : decode cX8_drawn 11 = .ok (.iconst 0, 1) := by decide +kernel
theorem dX8_drawn_12 : decode cX8_drawn 12 = .ok (.iconst 5, 1) := by decide +kernel
theorem dX8_drawn_13 : decode cX8_drawn 13 = .ok (.invokestatic 69, 3) := by decide +kernel
theorem dX8_drawn_16 : decode cX8_drawn 16 = .ok (.ifCond .eq 7, 3) := by decide +kernel
theorem dX8_drawn_19 : decode cX8_drawn 19 = .ok (.iconst 1, 1) := by decide +kernel
theorem dX8_drawn_20 : decode cX8_drawn 20 = .ok (.goto 4, 3) := by decide +kernel
theorem dX8_drawn_23 : decode cX8_drawn 23 = .ok (.iconst 0, 1) := by decide +kernel
theorem dX8_drawn_24 : decode cX8_drawn 24 = .ok (.invokevirtual 73, 3) := by decide +kernel
theorem dX8_drawn_27 : decode cX8_drawn 27 = .ok (.aload_n 0, 1) := by decide +kernel
theorem dX8_drawn_28 : decode cX8_drawn 28 = .ok (.iload_n 1, 1) := by decide +kernel
theorem dX8_drawn_29 : decode cX8_drawn 29 = .ok (.invokevirtual 223, 3) := by decide +kernel
theorem dX8_drawn_32 : decode cX8_drawn 32 = .ok (.lstore_n 3, 1) := by decide +kernel
theorem dX8_drawn_33 : decode cX8_drawn 33 = .ok (.lload_n 3, 1) := by decide +kernel
theorem dX8_drawn_34 : decode cX8_drawn 34 = .ok (.invokestatic 227, 3) := by decide +kernel
theorem dX8_drawn_37 : decode cX8_drawn 37 = .ok (.istore 5, 2) := by decide +kernel
theorem dX8_drawn_39 : decode cX8_drawn 39 = .ok (.aload_n 0, 1) := by decide +kernel
theorem dX8_drawn_40 : decode cX8_drawn 40 = .ok (.getfield 30, 3) := by decide +kernel
theorem dX8_drawn_43 : decode cX8_drawn 43 = .ok (.lload_n 3, 1) := by decide +kernel
theorem dX8_drawn_44 : decode cX8_drawn 44 = .ok (.invokevirtual 112, 3) := by decide +kernel
theorem dX8_drawn_47 : decode cX8_drawn 47 = .ok (.istore 6, 2) := by decide +kernel
theorem dX8_drawn_49 : decode cX8_drawn 49 = .ok (.iload_n 2, 1) := by decide +kernel
theorem dX8_drawn_50 : decode cX8_drawn 50 = .ok (.ifCond .ne 6, 3) := by decide +kernel
theorem dX8_drawn_53 : decode cX8_drawn 53 = .ok (.iload 5, 2) := by decide +kernel
theorem dX8_drawn_55 : decode cX8_drawn 55 = .ok (.ireturn, 1) := by decide +kernel
theorem dX8_drawn_56 : decode cX8_drawn 56 = .ok (.iload_n 2, 1) := by decide +kernel
theorem dX8_drawn_57 : decode cX8_drawn 57 = .ok (.iconst 1, 1) := by decide +kernel
theorem dX8_drawn_58 : decode cX8_drawn 58 = .ok (.if_icmp .ne 6, 3) := by decide +kernel
theorem dX8_drawn_61 : decode cX8_drawn 61 = .ok (.iload 6, 2) := by decide +kernel
theorem dX8_drawn_63 : decode cX8_drawn 63 = .ok (.ireturn, 1) := by decide +kernel
theorem dX8_drawn_64 : decode cX8_drawn 64 = .ok (.iload_n 2, 1) := by decide +kernel
theorem dX8_drawn_65 : decode cX8_drawn 65 = .ok (.iconst 2, 1) := by decide +kernel
theorem dX8_drawn_66 : decode cX8_drawn 66 = .ok (.if_icmp .ne 12, 3) := by decide +kernel
theorem dX8_drawn_69 : decode cX8_drawn 69 = .ok (.aload_n 0, 1) := by decide +kernel
theorem dX8_drawn_70 : decode cX8_drawn 70 = .ok (.getfield 30, 3) := by decide +kernel
theorem dX8_drawn_73 : decode cX8_drawn 73 = .ok (.lload_n 3, 1) := by decide +kernel
theorem dX8_drawn_74 : decode cX8_drawn 74 = .ok (.invokevirtual 232, 3) := by decide +kernel
theorem dX8_drawn_77 : decode cX8_drawn 77 = .ok (.ireturn, 1) := by decide +kernel
theorem dX8_drawn_78 : decode cX8_drawn 78 = .ok (.iload 5, 2) := by decide +kernel
theorem dX8_drawn_80 : decode cX8_drawn 80 = .ok (.ifCond .ne 5, 3) := by decide +kernel
theorem dX8_drawn_83 : decode cX8_drawn 83 = .ok (.iconst (-1), 1) := by decide +kernel
theorem dX8_drawn_84 : decode cX8_drawn 84 = .ok (.ireturn, 1) := by decide +kernel
theorem dX8_drawn_85 : decode cX8_drawn 85 = .ok (.iload_n 2, 1) := by decide +kernel
theorem dX8_drawn_86 : decode cX8_drawn 86 = .ok (.iconst 3, 1) := by decide +kernel
theorem dX8_drawn_87 : decode cX8_drawn 87 = .ok (.if_icmp .ne 29, 3) := by decide +kernel
theorem dX8_drawn_90 : decode cX8_drawn 90 = .ok (.aload_n 0, 1) := by decide +kernel
theorem dX8_drawn_91 : decode cX8_drawn 91 = .ok (.getfield 37, 3) := by decide +kernel
theorem dX8_drawn_94 : decode cX8_drawn 94 = .ok (.aload_n 0, 1) := by decide +kernel
theorem dX8_drawn_95 : decode cX8_drawn 95 = .ok (.getfield 48, 3) := by decide +kernel
theorem dX8_drawn_98 : decode cX8_drawn 98 = .ok (.getfield 98, 3) := by decide +kernel
theorem dX8_drawn_101 : decode cX8_drawn 101 = .ok (.iload 5, 2) := by decide +kernel
theorem dX8_drawn_103 : decode cX8_drawn 103 = .ok (.iload 6, 2) := by decide +kernel
theorem dX8_drawn_105 : decode cX8_drawn 105 = .ok (.aload_n 0, 1) := by decide +kernel
theorem dX8_drawn_106 : decode cX8_drawn 106 = .ok (.getfield 48, 3) := by decide +kernel
theorem dX8_drawn_109 : decode cX8_drawn 109 = .ok (.getfield 186, 3) := by decide +kernel
theorem dX8_drawn_112 : decode cX8_drawn 112 = .ok (.invokevirtual 235, 3) := by decide +kernel
theorem dX8_drawn_115 : decode cX8_drawn 115 = .ok (.ireturn, 1) := by decide +kernel
theorem dX8_drawn_116 : decode cX8_drawn 116 = .ok (.iload_n 2, 1) := by decide +kernel
theorem dX8_drawn_117 : decode cX8_drawn 117 = .ok (.iconst 4, 1) := by decide +kernel
theorem dX8_drawn_118 : decode cX8_drawn 118 = .ok (.if_icmp .ne 29, 3) := by decide +kernel
theorem dX8_drawn_121 : decode cX8_drawn 121 = .ok (.aload_n 0, 1) := by decide +kernel
theorem dX8_drawn_122 : decode cX8_drawn 122 = .ok (.getfield 37, 3) := by decide +kernel
theorem dX8_drawn_125 : decode cX8_drawn 125 = .ok (.aload_n 0, 1) := by decide +kernel
theorem dX8_drawn_126 : decode cX8_drawn 126 = .ok (.getfield 48, 3) := by decide +kernel
theorem dX8_drawn_129 : decode cX8_drawn 129 = .ok (.getfield 98, 3) := by decide +kernel
theorem dX8_drawn_132 : decode cX8_drawn 132 = .ok (.iload 5, 2) := by decide +kernel
theorem dX8_drawn_134 : decode cX8_drawn 134 = .ok (.iload 6, 2) := by decide +kernel
theorem dX8_drawn_136 : decode cX8_drawn 136 = .ok (.aload_n 0, 1) := by decide +kernel
theorem dX8_drawn_137 : decode cX8_drawn 137 = .ok (.getfield 48, 3) := by decide +kernel
theorem dX8_drawn_140 : decode cX8_drawn 140 = .ok (.getfield 186, 3) := by decide +kernel
theorem dX8_drawn_143 : decode cX8_drawn 143 = .ok (.invokevirtual 239, 3) := by decide +kernel
theorem dX8_drawn_146 : decode cX8_drawn 146 = .ok (.ireturn, 1) := by decide +kernel
theorem dX8_drawn_147 : decode cX8_drawn 147 = .ok (.aload_n 0, 1) := by decide +kernel
theorem dX8_drawn_148 : decode cX8_drawn 148 = .ok (.iload 5, 2) := by decide +kernel
theorem dX8_drawn_150 : decode cX8_drawn 150 = .ok (.iload 6, 2) := by decide +kernel
theorem dX8_drawn_152 : decode cX8_drawn 152 = .ok (.invokevirtual 242, 3) := by decide +kernel
theorem dX8_drawn_155 : decode cX8_drawn 155 = .ok (.ireturn, 1) := by decide +kernel
theorem dX8_estimate_0 : decode cX8_estimate 0 = .ok (.aload_n 0, 1) := by decide +kernel
theorem dX8_estimate_1 : decode cX8_estimate 1 = .ok (.iload_n 1, 1) := by decide +kernel
theorem dX8_estimate_2 : decode cX8_estimate 2 = .ok (.iconst 0, 1) := by decide +kernel
theorem dX8_estimate_3 : decode cX8_estimate 3 = .ok (.iconst 1, 1) := by decide +kernel
theorem dX8_estimate_4 : decode cX8_estimate 4 = .ok (.invokestatic 69, 3) := by decide +kernel
theorem dX8_estimate_7 : decode cX8_estimate 7 = .ok (.ifCond .eq 16, 3) := by decide +kernel
theorem dX8_estimate_10 : decode cX8_estimate 10 = .ok (.iload_n 2, 1) := by decide +kernel
theorem dX8_estimate_11 : decode cX8_estimate 11 = .ok (.iconst 0, 1) := by decide +kernel
theorem dX8_estimate_12 : decode cX8_estimate 12 = .ok (.iconst 1, 1) := by decide +kernel
theorem dX8_estimate_13 : decode cX8_estimate 13 = .ok (.invokestatic 69, 3) := by decide +kernel
theorem dX8_estimate_16 : decode cX8_estimate 16 = .ok (.ifCond .eq 7, 3) := by decide +kernel
theorem dX8_estimate_19 : decode cX8_estimate 19 = .ok (.iconst 1, 1) := by decide +kernel
theorem dX8_estimate_20 : decode cX8_estimate 20 = .ok (.goto 4, 3) := by decide +kernel
theorem dX8_estimate_23 : decode cX8_estimate 23 = .ok (.iconst 0, 1) := by decide +kernel
theorem dX8_estimate_24 : decode cX8_estimate 24 = .ok (.invokevirtual 73, 3) := by decide +kernel
theorem dX8_estimate_27 : decode cX8_estimate 27 = .ok (.aload_n 0, 1) := by decide +kernel
theorem dX8_estimate_28 : decode cX8_estimate 28 = .ok (.iload_n 1, 1) := by decide +kernel
theorem dX8_estimate_29 : decode cX8_estimate 29 = .ok (.invokevirtual 223, 3) := by decide +kernel
theorem dX8_estimate_32 : decode cX8_estimate 32 = .ok (.lstore_n 3, 1) := by decide +kernel
theorem dX8_estimate_33 : decode cX8_estimate 33 = .ok (.lload_n 3, 1) := by decide +kernel
theorem dX8_estimate_34 : decode cX8_estimate 34 = .ok (.invokestatic 227, 3) := by decide +kernel
theorem dX8_estimate_37 : decode cX8_estimate 37 = .ok (.i2l, 1) := by decide +kernel
theorem dX8_estimate_38 : decode cX8_estimate 38 = .ok (.lstore 5, 2) := by decide +kernel
theorem dX8_estimate_40 : decode cX8_estimate 40 = .ok (.aload_n 0, 1) := by decide +kernel
theorem dX8_estimate_41 : decode cX8_estimate 41 = .ok (.lload 5, 2) := by decide +kernel
theorem dX8_estimate_43 : decode cX8_estimate 43 = .ok (.ldc2_w 245, 3) := by decide +kernel
theorem dX8_estimate_46 : decode cX8_estimate 46 = .ok (.lcmp, 1) := by decide +kernel
theorem dX8_estimate_47 : decode cX8_estimate 47 = .ok (.ifCond .lt 7, 3) := by decide +kernel
theorem dX8_estimate_50 : decode cX8_estimate 50 = .ok (.iconst 1, 1) := by decide +kernel
theorem dX8_estimate_51 : decode cX8_estimate 51 = .ok (.goto 4, 3) := by decide +kernel
theorem dX8_estimate_54 : decode cX8_estimate 54 = .ok (.iconst 0, 1) := by decide +kernel
theorem dX8_estimate_55 : decode cX8_estimate 55 = .ok (.invokevirtual 131, 3) := by decide +kernel
theorem dX8_estimate_58 : decode cX8_estimate 58 = .ok (.aload_n 0, 1) := by decide +kernel
theorem dX8_estimate_59 : decode cX8_estimate 59 = .ok (.getfield 48, 3) := by decide +kernel
theorem dX8_estimate_62 : decode cX8_estimate 62 = .ok (.getfield 98, 3) := by decide +kernel
theorem dX8_estimate_65 : decode cX8_estimate 65 = .ok (.i2l, 1) := by decide +kernel
theorem dX8_estimate_66 : decode cX8_estimate 66 = .ok (.lstore 7, 2) := by decide +kernel
theorem dX8_estimate_68 : decode cX8_estimate 68 = .ok (.aload_n 0, 1) := by decide +kernel
theorem dX8_estimate_69 : decode cX8_estimate 69 = .ok (.getfield 30, 3) := by decide +kernel
theorem dX8_estimate_72 : decode cX8_estimate 72 = .ok (.lload_n 3, 1) := by decide +kernel
theorem dX8_estimate_73 : decode cX8_estimate 73 = .ok (.invokevirtual 112, 3) := by decide +kernel
theorem dX8_estimate_76 : decode cX8_estimate 76 = .ok (.i2l, 1) := by decide +kernel
theorem dX8_estimate_77 : decode cX8_estimate 77 = .ok (.lstore 9, 2) := by decide +kernel
theorem dX8_estimate_79 : decode cX8_estimate 79 = .ok (.aload_n 0, 1) := by decide +kernel
theorem dX8_estimate_80 : decode cX8_estimate 80 = .ok (.getfield 30, 3) := by decide +kernel
theorem dX8_estimate_83 : decode cX8_estimate 83 = .ok (.lload_n 3, 1) := by decide +kernel
theorem dX8_estimate_84 : decode cX8_estimate 84 = .ok (.invokevirtual 232, 3) := by decide +kernel
theorem dX8_estimate_87 : decode cX8_estimate 87 = .ok (.i2l, 1) := by decide +kernel
theorem dX8_estimate_88 : decode cX8_estimate 88 = .ok (.lstore 11, 2) := by decide +kernel
theorem dX8_estimate_90 : decode cX8_estimate 90 = .ok (.lload 7, 2) := by decide +kernel
theorem dX8_estimate_92 : decode cX8_estimate 92 = .ok (.lload 9, 2) := by decide +kernel
theorem dX8_estimate_94 : decode cX8_estimate 94 = .ok (.lmul, 1) := by decide +kernel
theorem dX8_estimate_95 : decode cX8_estimate 95 = .ok (.lload 5, 2) := by decide +kernel
theorem dX8_estimate_97 : decode cX8_estimate 97 = .ok (.lconst 1, 1) := by decide +kernel
theorem dX8_estimate_98 : decode cX8_estimate 98 = .ok (.lsub, 1) := by decide +kernel
theorem dX8_estimate_99 : decode cX8_estimate 99 = .ok (.lmul, 1) := by decide +kernel
theorem dX8_estimate_100 : decode cX8_estimate 100 = .ok (.lload 7, 2) := by decide +kernel
theorem dX8_estimate_102 : decode cX8_estimate 102 = .ok (.lload 7, 2) := by decide +kernel
theorem dX8_estimate_104 : decode cX8_estimate 104 = .ok (.lconst 1, 1) := by decide +kernel
theorem dX8_estimate_105 : decode cX8_estimate 105 = .ok (.lsub, 1) := by decide +kernel
theorem dX8_estimate_106 : decode cX8_estimate 106 = .ok (.lmul, 1) := by decide +kernel
theorem dX8_estimate_107 : decode cX8_estimate 107 = .ok (.lload 11, 2) := by decide +kernel
theorem dX8_estimate_109 : decode cX8_estimate 109 = .ok (.lmul, 1) := by decide +kernel
theorem dX8_estimate_110 : decode cX8_estimate 110 = .ok (.lsub, 1) := by decide +kernel
theorem dX8_estimate_111 : decode cX8_estimate 111 = .ok (.lstore 13, 2) := by decide +kernel
theorem dX8_estimate_113 : decode cX8_estimate 113 = .ok (.lload 13, 2) := by decide +kernel
theorem dX8_estimate_115 : decode cX8_estimate 115 = .ok (.lload 5, 2) := by decide +kernel
theorem dX8_estimate_117 : decode cX8_estimate 117 = .ok (.lload 5, 2) := by decide +kernel
theorem dX8_estimate_119 : decode cX8_estimate 119 = .ok (.lconst 1, 1) := by decide +kernel
theorem dX8_estimate_120 : decode cX8_estimate 120 = .ok (.lsub, 1) := by decide +kernel
theorem dX8_estimate_121 : decode cX8_estimate 121 = .ok (.lmul, 1) := by decide +kernel
theorem dX8_estimate_122 : decode cX8_estimate 122 = .ok (.iload_n 2, 1) := by decide +kernel
theorem dX8_estimate_123 : decode cX8_estimate 123 = .ok (.invokestatic 247, 3) := by decide +kernel
theorem dX8_estimate_126 : decode cX8_estimate 126 = .ok (.lreturn, 1) := by decide +kernel
theorem dX8_unlike_0 : decode cX8_unlike 0 = .ok (.aload_n 0, 1) := by decide +kernel
theorem dX8_unlike_1 : decode cX8_unlike 1 = .ok (.iload_n 1, 1) := by decide +kernel
theorem dX8_unlike_2 : decode cX8_unlike 2 = .ok (.iconst 0, 1) := by decide +kernel
theorem dX8_unlike_3 : decode cX8_unlike 3 = .ok (.iconst 1, 1) := by decide +kernel
theorem dX8_unlike_4 : decode cX8_unlike 4 = .ok (.invokestatic 69, 3) := by decide +kernel
theorem dX8_unlike_7 : decode cX8_unlike 7 = .ok (.invokevirtual 73, 3) := by decide +kernel
theorem dX8_unlike_10 : decode cX8_unlike 10 = .ok (.aload_n 0, 1) := by decide +kernel
theorem dX8_unlike_11 : decode cX8_unlike 11 = .ok (.getfield 30, 3) := by decide +kernel
theorem dX8_unlike_14 : decode cX8_unlike 14 = .ok (.aload_n 0, 1) := by decide +kernel
theorem dX8_unlike_15 : decode cX8_unlike 15 = .ok (.getfield 48, 3) := by decide +kernel
theorem dX8_unlike_18 : decode cX8_unlike 18 = .ok (.getfield 105, 3) := by decide +kernel
theorem dX8_unlike_21 : decode cX8_unlike 21 = .ok (.invokevirtual 251, 3) := by decide +kernel
theorem dX8_unlike_24 : decode cX8_unlike 24 = .ok (.istore_n 2, 1) := by decide +kernel
theorem dX8_unlike_25 : decode cX8_unlike 25 = .ok (.aload_n 0, 1) := by decide +kernel
theorem dX8_unlike_26 : decode cX8_unlike 26 = .ok (.getfield 30, 3) := by decide +kernel
theorem dX8_unlike_29 : decode cX8_unlike 29 = .ok (.aload_n 0, 1) := by decide +kernel
theorem dX8_unlike_30 : decode cX8_unlike 30 = .ok (.getfield 48, 3) := by decide +kernel
theorem dX8_unlike_33 : decode cX8_unlike 33 = .ok (.getfield 109, 3) := by decide +kernel
theorem dX8_unlike_36 : decode cX8_unlike 36 = .ok (.invokevirtual 251, 3) := by decide +kernel
theorem dX8_unlike_39 : decode cX8_unlike 39 = .ok (.istore_n 3, 1) := by decide +kernel
theorem dX8_unlike_40 : decode cX8_unlike 40 = .ok (.iload_n 2, 1) := by decide +kernel
theorem dX8_unlike_41 : decode cX8_unlike 41 = .ok (.iload_n 3, 1) := by decide +kernel
theorem dX8_unlike_42 : decode cX8_unlike 42 = .ok (.iand, 1) := by decide +kernel
theorem dX8_unlike_43 : decode cX8_unlike 43 = .ok (.invokestatic 254, 3) := by decide +kernel
theorem dX8_unlike_46 : decode cX8_unlike 46 = .ok (.istore 4, 2) := by decide +kernel
theorem dX8_unlike_48 : decode cX8_unlike 48 = .ok (.iload 4, 2) := by decide +kernel
theorem dX8_unlike_50 : decode cX8_unlike 50 = .ok (.ifCond .ne 5, 3) := by decide +kernel
theorem dX8_unlike_53 : decode cX8_unlike 53 = .ok (.iconst (-1), 1) := by decide +kernel
theorem dX8_unlike_54 : decode cX8_unlike 54 = .ok (.ireturn, 1) := by decide +kernel
theorem dX8_unlike_55 : decode cX8_unlike 55 = .ok (.iload_n 2, 1) := by decide +kernel
theorem dX8_unlike_56 : decode cX8_unlike 56 = .ok (.invokestatic 254, 3) := by decide +kernel
theorem dX8_unlike_59 : decode cX8_unlike 59 = .ok (.iload_n 3, 1) := by decide +kernel
theorem dX8_unlike_60 : decode cX8_unlike 60 = .ok (.invokestatic 254, 3) := by decide +kernel
theorem dX8_unlike_63 : decode cX8_unlike 63 = .ok (.imul, 1) := by decide +kernel
theorem dX8_unlike_64 : decode cX8_unlike 64 = .ok (.i2l, 1) := by decide +kernel
theorem dX8_unlike_65 : decode cX8_unlike 65 = .ok (.iload 4, 2) := by decide +kernel
theorem dX8_unlike_67 : decode cX8_unlike 67 = .ok (.i2l, 1) := by decide +kernel
theorem dX8_unlike_68 : decode cX8_unlike 68 = .ok (.iload_n 1, 1) := by decide +kernel
theorem dX8_unlike_69 : decode cX8_unlike 69 = .ok (.invokestatic 247, 3) := by decide +kernel
theorem dX8_unlike_72 : decode cX8_unlike 72 = .ok (.l2i, 1) := by decide +kernel
theorem dX8_unlike_73 : decode cX8_unlike 73 = .ok (.ireturn, 1) := by decide +kernel
theorem dX8_unseen_0 : decode cX8_unseen 0 = .ok (.aload_n 0, 1) := by decide +kernel
theorem dX8_unseen_1 : decode cX8_unseen 1 = .ok (.iload_n 1, 1) := by decide +kernel
theorem dX8_unseen_2 : decode cX8_unseen 2 = .ok (.iconst 0, 1) := by decide +kernel
theorem dX8_unseen_3 : decode cX8_unseen 3 = .ok (.aload_n 0, 1) := by decide +kernel
theorem dX8_unseen_4 : decode cX8_unseen 4 = .ok (.getfield 48, 3) := by decide +kernel
theorem dX8_unseen_7 : decode cX8_unseen 7 = .ok (.getfield 98, 3) := by decide +kernel
theorem dX8_unseen_10 : decode cX8_unseen 10 = .ok (.invokestatic 69, 3) := by decide +kernel
theorem dX8_unseen_13 : decode cX8_unseen 13 = .ok (.ifCond .eq 16, 3) := by decide +kernel
theorem dX8_unseen_16 : decode cX8_unseen 16 = .ok (.iload_n 2, 1) := by decide +kernel
theorem dX8_unseen_17 : decode cX8_unseen 17 = .ok (.iconst 0, 1) := by decide +kernel
theorem dX8_unseen_18 : decode cX8_unseen 18 = .ok (.iconst 1, 1) := by decide +kernel
theorem dX8_unseen_19 : decode cX8_unseen 19 = .ok (.invokestatic 69, 3) := by decide +kernel
theorem dX8_unseen_22 : decode cX8_unseen 22 = .ok (.ifCond .eq 7, 3) := by decide +kernel
theorem dX8_unseen_25 : decode cX8_unseen 25 = .ok (.iconst 1, 1) := by decide +kernel
theorem dX8_unseen_26 : decode cX8_unseen 26 = .ok (.goto 4, 3) := by decide +kernel
theorem dX8_unseen_29 : decode cX8_unseen 29 = .ok (.iconst 0, 1) := by decide +kernel
theorem dX8_unseen_30 : decode cX8_unseen 30 = .ok (.invokevirtual 73, 3) := by decide +kernel
theorem dX8_unseen_33 : decode cX8_unseen 33 = .ok (.aload_n 0, 1) := by decide +kernel
theorem dX8_unseen_34 : decode cX8_unseen 34 = .ok (.getfield 30, 3) := by decide +kernel
theorem dX8_unseen_37 : decode cX8_unseen 37 = .ok (.ldc2_w 258, 3) := by decide +kernel
theorem dX8_unseen_40 : decode cX8_unseen 40 = .ok (.invokevirtual 260, 3) := by decide +kernel
theorem dX8_unseen_43 : decode cX8_unseen 43 = .ok (.aload_n 0, 1) := by decide +kernel
theorem dX8_unseen_44 : decode cX8_unseen 44 = .ok (.getfield 37, 3) := by decide +kernel
theorem dX8_unseen_47 : decode cX8_unseen 47 = .ok (.aload_n 0, 1) := by decide +kernel
theorem dX8_unseen_48 : decode cX8_unseen 48 = .ok (.getfield 30, 3) := by decide +kernel
theorem dX8_unseen_51 : decode cX8_unseen 51 = .ok (.getfield 264, 3) := by decide +kernel
theorem dX8_unseen_54 : decode cX8_unseen 54 = .ok (.aload_n 0, 1) := by decide +kernel
theorem dX8_unseen_55 : decode cX8_unseen 55 = .ok (.getfield 48, 3) := by decide +kernel
theorem dX8_unseen_58 : decode cX8_unseen 58 = .ok (.getfield 98, 3) := by decide +kernel
theorem dX8_unseen_61 : decode cX8_unseen 61 = .ok (.iload_n 1, 1) := by decide +kernel
theorem dX8_unseen_62 : decode cX8_unseen 62 = .ok (.invokevirtual 267, 3) := by decide +kernel
theorem dX8_unseen_65 : decode cX8_unseen 65 = .ok (.lstore_n 3, 1) := by decide +kernel
theorem dX8_unseen_66 : decode cX8_unseen 66 = .ok (.lload_n 3, 1) := by decide +kernel
theorem dX8_unseen_67 : decode cX8_unseen 67 = .ok (.aload_n 0, 1) := by decide +kernel
theorem dX8_unseen_68 : decode cX8_unseen 68 = .ok (.getfield 37, 3) := by decide +kernel
theorem dX8_unseen_71 : decode cX8_unseen 71 = .ok (.aload_n 0, 1) := by decide +kernel
theorem dX8_unseen_72 : decode cX8_unseen 72 = .ok (.getfield 48, 3) := by decide +kernel
theorem dX8_unseen_75 : decode cX8_unseen 75 = .ok (.getfield 98, 3) := by decide +kernel
theorem dX8_unseen_78 : decode cX8_unseen 78 = .ok (.iload_n 1, 1) := by decide +kernel
theorem dX8_unseen_79 : decode cX8_unseen 79 = .ok (.invokevirtual 271, 3) := by decide +kernel
theorem dX8_unseen_82 : decode cX8_unseen 82 = .ok (.iload_n 2, 1) := by decide +kernel
theorem dX8_unseen_83 : decode cX8_unseen 83 = .ok (.invokestatic 247, 3) := by decide +kernel
theorem dX8_unseen_86 : decode cX8_unseen 86 = .ok (.lreturn, 1) := by decide +kernel
theorem dX8_fewest_0 : decode cX8_fewest 0 = .ok (.iconst 1, 1) := by decide +kernel
theorem dX8_fewest_1 : decode cX8_fewest 1 = .ok (.istore_n 1, 1) := by decide +kernel
theorem dX8_fewest_2 : decode cX8_fewest 2 = .ok (.iload_n 1, 1) := by decide +kernel
theorem dX8_fewest_3 : decode cX8_fewest 3 = .ok (.aload_n 0, 1) := by decide +kernel
theorem dX8_fewest_4 : decode cX8_fewest 4 = .ok (.getfield 48, 3) := by decide +kernel
theorem dX8_fewest_7 : decode cX8_fewest 7 = .ok (.getfield 98, 3) := by decide +kernel
theorem dX8_fewest_10 : decode cX8_fewest 10 = .ok (.if_icmp .gt 21, 3) := by decide +kernel
theorem dX8_fewest_13 : decode cX8_fewest 13 = .ok (.aload_n 0, 1) := by decide +kernel
theorem dX8_fewest_14 : decode cX8_fewest 14 = .ok (.iload_n 1, 1) := by decide +kernel
theorem dX8_fewest_15 : decode cX8_fewest 15 = .ok (.iload_n 1, 1) := by decide +kernel
theorem dX8_fewest_16 : decode cX8_fewest 16 = .ok (.invokevirtual 242, 3) := by decide +kernel
theorem dX8_fewest_19 : decode cX8_fewest 19 = .ok (.iconst 1, 1) := by decide +kernel
theorem dX8_fewest_20 : decode cX8_fewest 20 = .ok (.if_icmp .ne 5, 3) := by decide +kernel
theorem dX8_fewest_23 : decode cX8_fewest 23 = .ok (.iload_n 1, 1) := by decide +kernel
theorem dX8_fewest_24 : decode cX8_fewest 24 = .ok (.ireturn, 1) := by decide +kernel
theorem dX8_fewest_25 : decode cX8_fewest 25 = .ok (.iinc 1 1, 3) := by decide +kernel
theorem dX8_fewest_28 : decode cX8_fewest 28 = .ok (.goto (-26), 3) := by decide +kernel
theorem dX8_fewest_31 : decode cX8_fewest 31 = .ok (.iconst (-1), 1) := by decide +kernel
theorem dX8_fewest_32 : decode cX8_fewest 32 = .ok (.ireturn, 1) := by decide +kernel
theorem dX8_worst_0 : decode cX8_worst 0 = .ok (.aload_n 0, 1) := by decide +kernel
theorem dX8_worst_1 : decode cX8_worst 1 = .ok (.iload_n 1, 1) := by decide +kernel
theorem dX8_worst_2 : decode cX8_worst 2 = .ok (.iconst 1, 1) := by decide +kernel
theorem dX8_worst_3 : decode cX8_worst 3 = .ok (.bipush 8, 2) := by decide +kernel
theorem dX8_worst_5 : decode cX8_worst 5 = .ok (.invokestatic 69, 3) := by decide +kernel
theorem dX8_worst_8 : decode cX8_worst 8 = .ok (.ifCond .eq 16, 3) := by decide +kernel
theorem dX8_worst_11 : decode cX8_worst 11 = .ok (.iload_n 2, 1) := by decide +kernel
theorem dX8_worst_12 : decode cX8_worst 12 = .ok (.iconst 0, 1) := by decide +kernel
theorem dX8_worst_13 : decode cX8_worst 13 = .ok (.iconst 1, 1) := by decide +kernel
theorem dX8_worst_14 : decode cX8_worst 14 = .ok (.invokestatic 69, 3) := by decide +kernel
theorem dX8_worst_17 : decode cX8_worst 17 = .ok (.ifCond .eq 7, 3) := by decide +kernel
theorem dX8_worst_20 : decode cX8_worst 20 = .ok (.iconst 1, 1) := by decide +kernel
theorem dX8_worst_21 : decode cX8_worst 21 = .ok (.goto 4, 3) := by decide +kernel
theorem dX8_worst_24 : decode cX8_worst 24 = .ok (.iconst 0, 1) := by decide +kernel
theorem dX8_worst_25 : decode cX8_worst 25 = .ok (.invokevirtual 73, 3) := by decide +kernel
theorem dX8_worst_28 : decode cX8_worst 28 = .ok (.iconst (-1), 1) := by decide +kernel
theorem dX8_worst_29 : decode cX8_worst 29 = .ok (.istore_n 3, 1) := by decide +kernel
theorem dX8_worst_30 : decode cX8_worst 30 = .ok (.iconst (-1), 1) := by decide +kernel
theorem dX8_worst_31 : decode cX8_worst 31 = .ok (.istore 4, 2) := by decide +kernel
theorem dX8_worst_33 : decode cX8_worst 33 = .ok (.iconst 0, 1) := by decide +kernel
theorem dX8_worst_34 : decode cX8_worst 34 = .ok (.istore 5, 2) := by decide +kernel
theorem dX8_worst_36 : decode cX8_worst 36 = .ok (.iload 5, 2) := by decide +kernel
theorem dX8_worst_38 : decode cX8_worst 38 = .ok (.iconst 1, 1) := by decide +kernel
theorem dX8_worst_39 : decode cX8_worst 39 = .ok (.aload_n 0, 1) := by decide +kernel
theorem dX8_worst_40 : decode cX8_worst 40 = .ok (.getfield 48, 3) := by decide +kernel
theorem dX8_worst_43 : decode cX8_worst 43 = .ok (.getfield 171, 3) := by decide +kernel
theorem dX8_worst_46 : decode cX8_worst 46 = .ok (.ishl, 1) := by decide +kernel
theorem dX8_worst_47 : decode cX8_worst 47 = .ok (.if_icmp .ge 61, 3) := by decide +kernel
theorem dX8_worst_50 : decode cX8_worst 50 = .ok (.iload 5, 2) := by decide +kernel
theorem dX8_worst_52 : decode cX8_worst 52 = .ok (.invokestatic 254, 3) := by decide +kernel
theorem dX8_worst_55 : decode cX8_worst 55 = .ok (.iload_n 1, 1) := by decide +kernel
theorem dX8_worst_56 : decode cX8_worst 56 = .ok (.if_icmp .ne 46, 3) := by decide +kernel
theorem dX8_worst_59 : decode cX8_worst 59 = .ok (.iload 5, 2) := by decide +kernel
theorem dX8_worst_61 : decode cX8_worst 61 = .ok (.aload_n 0, 1) := by decide +kernel
theorem dX8_worst_62 : decode cX8_worst 62 = .ok (.getfield 30, 3) := by decide +kernel
theorem dX8_worst_65 : decode cX8_worst 65 = .ok (.getfield 189, 3) := by decide +kernel
theorem dX8_worst_68 : decode cX8_worst 68 = .ok (.iand, 1) := by decide +kernel
theorem dX8_worst_69 : decode cX8_worst 69 = .ok (.ifCond .ne 33, 3) := by decide +kernel
theorem dX8_worst_72 : decode cX8_worst 72 = .ok (.aload_n 0, 1) := by decide +kernel
theorem dX8_worst_73 : decode cX8_worst 73 = .ok (.getfield 30, 3) := by decide +kernel
theorem dX8_worst_76 : decode cX8_worst 76 = .ok (.iload 5, 2) := by decide +kernel
theorem dX8_worst_78 : decode cX8_worst 78 = .ok (.invokevirtual 274, 3) := by decide +kernel
theorem dX8_worst_81 : decode cX8_worst 81 = .ok (.istore 6, 2) := by decide +kernel
theorem dX8_worst_83 : decode cX8_worst 83 = .ok (.iload_n 3, 1) := by decide +kernel
theorem dX8_worst_84 : decode cX8_worst 84 = .ok (.iconst (-1), 1) := by decide +kernel
theorem dX8_worst_85 : decode cX8_worst 85 = .ok (.if_icmp .eq 10, 3) := by decide +kernel
theorem dX8_worst_88 : decode cX8_worst 88 = .ok (.iload 6, 2) := by decide +kernel
theorem dX8_worst_90 : decode cX8_worst 90 = .ok (.iload 4, 2) := by decide +kernel
theorem dX8_worst_92 : decode cX8_worst 92 = .ok (.if_icmp .ge 10, 3) := by decide +kernel
theorem dX8_worst_95 : decode cX8_worst 95 = .ok (.iload 5, 2) := by decide +kernel
theorem dX8_worst_97 : decode cX8_worst 97 = .ok (.istore_n 3, 1) := by decide +kernel
theorem dX8_worst_98 : decode cX8_worst 98 = .ok (.iload 6, 2) := by decide +kernel
theorem dX8_worst_100 : decode cX8_worst 100 = .ok (.istore 4, 2) := by decide +kernel
theorem dX8_worst_102 : decode cX8_worst 102 = .ok (.iinc 5 1, 3) := by decide +kernel
theorem dX8_worst_105 : decode cX8_worst 105 = .ok (.goto (-69), 3) := by decide +kernel
theorem dX8_worst_108 : decode cX8_worst 108 = .ok (.iload_n 2, 1) := by decide +kernel
theorem dX8_worst_109 : decode cX8_worst 109 = .ok (.ifCond .ne 7, 3) := by decide +kernel
theorem dX8_worst_112 : decode cX8_worst 112 = .ok (.iload_n 3, 1) := by decide +kernel
theorem dX8_worst_113 : decode cX8_worst 113 = .ok (.goto 5, 3) := by decide +kernel
theorem dX8_worst_116 : decode cX8_worst 116 = .ok (.iload 4, 2) := by decide +kernel
theorem dX8_worst_118 : decode cX8_worst 118 = .ok (.ireturn, 1) := by decide +kernel
theorem dX8_cost_0 : decode cX8_cost 0 = .ok (.iload_n 1, 1) := by decide +kernel
theorem dX8_cost_1 : decode cX8_cost 1 = .ok (.i2l, 1) := by decide +kernel
theorem dX8_cost_2 : decode cX8_cost 2 = .ok (.aload_n 0, 1) := by decide +kernel
theorem dX8_cost_3 : decode cX8_cost 3 = .ok (.getfield 48, 3) := by decide +kernel
theorem dX8_cost_6 : decode cX8_cost 6 = .ok (.getfield 98, 3) := by decide +kernel
theorem dX8_cost_9 : decode cX8_cost 9 = .ok (.i2l, 1) := by decide +kernel
theorem dX8_cost_10 : decode cX8_cost 10 = .ok (.lmul, 1) := by decide +kernel
theorem dX8_cost_11 : decode cX8_cost 11 = .ok (.lstore_n 2, 1) := by decide +kernel
theorem dX8_cost_12 : decode cX8_cost 12 = .ok (.aload_n 0, 1) := by decide +kernel
theorem dX8_cost_13 : decode cX8_cost 13 = .ok (.iload_n 1, 1) := by decide +kernel
theorem dX8_cost_14 : decode cX8_cost 14 = .ok (.ifCond .lt 15, 3) := by decide +kernel
theorem dX8_cost_17 : decode cX8_cost 17 = .ok (.lload_n 2, 1) := by decide +kernel
theorem dX8_cost_18 : decode cX8_cost 18 = .ok (.ldc2_w 277, 3) := by decide +kernel
theorem dX8_cost_21 : decode cX8_cost 21 = .ok (.lcmp, 1) := by decide +kernel
theorem dX8_cost_22 : decode cX8_cost 22 = .ok (.ifCond .gt 7, 3) := by decide +kernel
theorem dX8_cost_25 : decode cX8_cost 25 = .ok (.iconst 1, 1) := by decide +kernel
theorem dX8_cost_26 : decode cX8_cost 26 = .ok (.goto 4, 3) := by decide +kernel
theorem dX8_cost_29 : decode cX8_cost 29 = .ok (.iconst 0, 1) := by decide +kernel
theorem dX8_cost_30 : decode cX8_cost 30 = .ok (.invokevirtual 73, 3) := by decide +kernel
theorem dX8_cost_33 : decode cX8_cost 33 = .ok (.lload_n 2, 1) := by decide +kernel
theorem dX8_cost_34 : decode cX8_cost 34 = .ok (.l2i, 1) := by decide +kernel
theorem dX8_cost_35 : decode cX8_cost 35 = .ok (.ireturn, 1) := by decide +kernel
theorem dX8_print_0 : decode cX8_print 0 = .ok (.lconst 0, 1) := by decide +kernel
theorem dX8_print_1 : decode cX8_print 1 = .ok (.lstore_n 1, 1) := by decide +kernel
theorem dX8_print_2 : decode cX8_print 2 = .ok (.iconst 0, 1) := by decide +kernel
theorem dX8_print_3 : decode cX8_print 3 = .ok (.istore_n 3, 1) := by decide +kernel
theorem dX8_print_4 : decode cX8_print 4 = .ok (.iload_n 3, 1) := by decide +kernel
theorem dX8_print_5 : decode cX8_print 5 = .ok (.aload_n 0, 1) := by decide +kernel
theorem dX8_print_6 : decode cX8_print 6 = .ok (.getfield 48, 3) := by decide +kernel
theorem dX8_print_9 : decode cX8_print 9 = .ok (.getfield 98, 3) := by decide +kernel
theorem dX8_print_12 : decode cX8_print 12 = .ok (.if_icmp .ge 43, 3) := by decide +kernel
theorem dX8_print_15 : decode cX8_print 15 = .ok (.ldc2_w 279, 3) := by decide +kernel
theorem dX8_print_18 : decode cX8_print 18 = .ok (.lload_n 1, 1) := by decide +kernel
theorem dX8_print_19 : decode cX8_print 19 = .ok (.lmul, 1) := by decide +kernel
theorem dX8_print_20 : decode cX8_print 20 = .ok (.aload_n 0, 1) := by decide +kernel
theorem dX8_print_21 : decode cX8_print 21 = .ok (.getfield 48, 3) := by decide +kernel
theorem dX8_print_24 : decode cX8_print 24 = .ok (.getfield 214, 3) := by decide +kernel
theorem dX8_print_27 : decode cX8_print 27 = .ok (.iload_n 3, 1) := by decide +kernel
theorem dX8_print_28 : decode cX8_print 28 = .ok (.iaload, 1) := by decide +kernel
theorem dX8_print_29 : decode cX8_print 29 = .ok (.i2l, 1) := by decide +kernel
theorem dX8_print_30 : decode cX8_print 30 = .ok (.ladd, 1) := by decide +kernel
theorem dX8_print_31 : decode cX8_print 31 = .ok (.lstore_n 1, 1) := by decide +kernel
theorem dX8_print_32 : decode cX8_print 32 = .ok (.ldc2_w 279, 3) := by decide +kernel
theorem dX8_print_35 : decode cX8_print 35 = .ok (.lload_n 1, 1) := by decide +kernel
theorem dX8_print_36 : decode cX8_print 36 = .ok (.lmul, 1) := by decide +kernel
theorem dX8_print_37 : decode cX8_print 37 = .ok (.aload_n 0, 1) := by decide +kernel
theorem dX8_print_38 : decode cX8_print 38 = .ok (.getfield 30, 3) := by decide +kernel
theorem dX8_print_41 : decode cX8_print 41 = .ok (.getfield 159, 3) := by decide +kernel
theorem dX8_print_44 : decode cX8_print 44 = .ok (.iload_n 3, 1) := by decide +kernel
theorem dX8_print_45 : decode cX8_print 45 = .ok (.iaload, 1) := by decide +kernel
theorem dX8_print_46 : decode cX8_print 46 = .ok (.i2l, 1) := by decide +kernel
theorem dX8_print_47 : decode cX8_print 47 = .ok (.ladd, 1) := by decide +kernel
theorem dX8_print_48 : decode cX8_print 48 = .ok (.lstore_n 1, 1) := by decide +kernel
theorem dX8_print_49 : decode cX8_print 49 = .ok (.iinc 3 1, 3) := by decide +kernel
theorem dX8_print_52 : decode cX8_print 52 = .ok (.goto (-48), 3) := by decide +kernel
theorem dX8_print_55 : decode cX8_print 55 = .ok (.lload_n 1, 1) := by decide +kernel
theorem dX8_print_56 : decode cX8_print 56 = .ok (.lreturn, 1) := by decide +kernel
theorem dX8_status_0 : decode cX8_status 0 = .ok (.iload_n 1, 1) := by decide +kernel
theorem dX8_status_1 : decode cX8_status 1 = .ok (.tableswitch 42 0 2 #[27, 32, 37], 27) := by decide +kernel
theorem dX8_status_28 : decode cX8_status 28 = .ok (.aload_n 0, 1) := by decide +kernel
theorem dX8_status_29 : decode cX8_status 29 = .ok (.getfield 281, 3) := by decide +kernel
theorem dX8_status_32 : decode cX8_status 32 = .ok (.ireturn, 1) := by decide +kernel
theorem dX8_status_33 : decode cX8_status 33 = .ok (.aload_n 0, 1) := by decide +kernel
theorem dX8_status_34 : decode cX8_status 34 = .ok (.getfield 284, 3) := by decide +kernel
theorem dX8_status_37 : decode cX8_status 37 = .ok (.ireturn, 1) := by decide +kernel
theorem dX8_status_38 : decode cX8_status 38 = .ok (.aload_n 0, 1) := by decide +kernel
theorem dX8_status_39 : decode cX8_status 39 = .ok (.getfield 287, 3) := by decide +kernel
theorem dX8_status_42 : decode cX8_status 42 = .ok (.ireturn, 1) := by decide +kernel
theorem dX8_status_43 : decode cX8_status 43 = .ok (.iconst (-1), 1) := by decide +kernel
theorem dX8_status_44 : decode cX8_status 44 = .ok (.ireturn, 1) := by decide +kernel
theorem dX8_requireFound_0 : decode cX8_requireFound 0 = .ok (.iload_n 1, 1) := by decide +kernel
theorem dX8_requireFound_1 : decode cX8_requireFound 1 = .ok (.ifCond .ne 24, 3) := by decide +kernel
theorem dX8_requireFound_4 : decode cX8_requireFound 4 = .ok (.aload_n 0, 1) := by decide +kernel
theorem dX8_requireFound_5 : decode cX8_requireFound 5 = .ok (.dup, 1) := by decide +kernel
theorem dX8_requireFound_6 : decode cX8_requireFound 6 = .ok (.getfield 281, 3) := by decide +kernel
theorem dX8_requireFound_9 : decode cX8_requireFound 9 = .ok (.iconst 1, 1) := by decide +kernel
theorem dX8_requireFound_10 : decode cX8_requireFound 10 = .ok (.iadd, 1) := by decide +kernel
theorem dX8_requireFound_11 : decode cX8_requireFound 11 = .ok (.putfield 281, 3) := by decide +kernel
theorem dX8_requireFound_14 : decode cX8_requireFound 14 = .ok (.new 290, 3) := by decide +kernel
theorem dX8_requireFound_17 : decode cX8_requireFound 17 = .ok (.dup, 1) := by decide +kernel
theorem dX8_requireFound_18 : decode cX8_requireFound 18 = .ok (.ldc_w 292, 3) := by decide +kernel
theorem dX8_requireFound_21 : decode cX8_requireFound 21 = .ok (.invokespecial 294, 3) := by decide +kernel
theorem dX8_requireFound_24 : decode cX8_requireFound 24 = .ok (.athrow, 1) := by decide +kernel
theorem dX8_requireFound_25 : decode cX8_requireFound 25 = .ok (.return_, 1) := by decide +kernel
theorem dX8_requireArgument_0 : decode cX8_requireArgument 0 = .ok (.iload_n 1, 1) := by decide +kernel
theorem dX8_requireArgument_1 : decode cX8_requireArgument 1 = .ok (.ifCond .ne 24, 3) := by decide +kernel
theorem dX8_requireArgument_4 : decode cX8_requireArgument 4 = .ok (.aload_n 0, 1) := by decide +kernel
theorem dX8_requireArgument_5 : decode cX8_requireArgument 5 = .ok (.dup, 1) := by decide +kernel
theorem dX8_requireArgument_6 : decode cX8_requireArgument 6 = .ok (.getfield 284, 3) := by decide +kernel
theorem dX8_requireArgument_9 : decode cX8_requireArgument 9 = .ok (.iconst 1, 1) := by decide +kernel
theorem dX8_requireArgument_10 : decode cX8_requireArgument 10 = .ok (.iadd, 1) := by decide +kernel
theorem dX8_requireArgument_11 : decode cX8_requireArgument 11 = .ok (.putfield 284, 3) := by decide +kernel
theorem dX8_requireArgument_14 : decode cX8_requireArgument 14 = .ok (.new 297, 3) := by decide +kernel
theorem dX8_requireArgument_17 : decode cX8_requireArgument 17 = .ok (.dup, 1) := by decide +kernel
theorem dX8_requireArgument_18 : decode cX8_requireArgument 18 = .ok (.ldc_w 299, 3) := by decide +kernel
theorem dX8_requireArgument_21 : decode cX8_requireArgument 21 = .ok (.invokespecial 301, 3) := by decide +kernel
theorem dX8_requireArgument_24 : decode cX8_requireArgument 24 = .ok (.athrow, 1) := by decide +kernel
theorem dX8_requireArgument_25 : decode cX8_requireArgument 25 = .ok (.return_, 1) := by decide +kernel
theorem dX8_requireState_0 : decode cX8_requireState 0 = .ok (.iload_n 1, 1) := by decide +kernel
theorem dX8_requireState_1 : decode cX8_requireState 1 = .ok (.ifCond .ne 24, 3) := by decide +kernel
theorem dX8_requireState_4 : decode cX8_requireState 4 = .ok (.aload_n 0, 1) := by decide +kernel
theorem dX8_requireState_5 : decode cX8_requireState 5 = .ok (.dup, 1) := by decide +kernel
theorem dX8_requireState_6 : decode cX8_requireState 6 = .ok (.getfield 287, 3) := by decide +kernel
theorem dX8_requireState_9 : decode cX8_requireState 9 = .ok (.iconst 1, 1) := by decide +kernel
theorem dX8_requireState_10 : decode cX8_requireState 10 = .ok (.iadd, 1) := by decide +kernel
theorem dX8_requireState_11 : decode cX8_requireState 11 = .ok (.putfield 287, 3) := by decide +kernel
theorem dX8_requireState_14 : decode cX8_requireState 14 = .ok (.new 302, 3) := by decide +kernel
theorem dX8_requireState_17 : decode cX8_requireState 17 = .ok (.dup, 1) := by decide +kernel
theorem dX8_requireState_18 : decode cX8_requireState 18 = .ok (.ldc_w 304, 3) := by decide +kernel
theorem dX8_requireState_21 : decode cX8_requireState 21 = .ok (.invokespecial 306, 3) := by decide +kernel
theorem dX8_requireState_24 : decode cX8_requireState 24 = .ok (.athrow, 1) := by decide +kernel
theorem dX8_requireState_25 : decode cX8_requireState 25 = .ok (.return_, 1) := by decide +kernel
theorem dX8_isFrom_0 : decode cX8_isFrom 0 = .ok (.iload_n 0, 1) := by decide +kernel
theorem dX8_isFrom_1 : decode cX8_isFrom 1 = .ok (.iload_n 1, 1) := by decide +kernel
theorem dX8_isFrom_2 : decode cX8_isFrom 2 = .ok (.if_icmp .lt 12, 3) := by decide +kernel
theorem dX8_isFrom_5 : decode cX8_isFrom 5 = .ok (.iload_n 0, 1) := by decide +kernel
theorem dX8_isFrom_6 : decode cX8_isFrom 6 = .ok (.iload_n 2, 1) := by decide +kernel
theorem dX8_isFrom_7 : decode cX8_isFrom 7 = .ok (.if_icmp .gt 7, 3) := by decide +kernel
theorem dX8_isFrom_10 : decode cX8_isFrom 10 = .ok (.iconst 1, 1) := by decide +kernel
theorem dX8_isFrom_11 : decode cX8_isFrom 11 = .ok (.goto 4, 3) := by decide +kernel
theorem dX8_isFrom_14 : decode cX8_isFrom 14 = .ok (.iconst 0, 1) := by decide +kernel
theorem dX8_isFrom_15 : decode cX8_isFrom 15 = .ok (.ireturn, 1) := by decide +kernel
theorem dX8_isVoter_0 : decode cX8_isVoter 0 = .ok (.iload_n 1, 1) := by decide +kernel
theorem dX8_isVoter_1 : decode cX8_isVoter 1 = .ok (.ifCond .lt 18, 3) := by decide +kernel
theorem dX8_isVoter_4 : decode cX8_isVoter 4 = .ok (.iload_n 1, 1) := by decide +kernel
theorem dX8_isVoter_5 : decode cX8_isVoter 5 = .ok (.aload_n 0, 1) := by decide +kernel
theorem dX8_isVoter_6 : decode cX8_isVoter 6 = .ok (.getfield 48, 3) := by decide +kernel
theorem dX8_isVoter_9 : decode cX8_isVoter 9 = .ok (.getfield 168, 3) := by decide +kernel
theorem dX8_isVoter_12 : decode cX8_isVoter 12 = .ok (.if_icmp .ge 7, 3) := by decide +kernel
theorem dX8_isVoter_15 : decode cX8_isVoter 15 = .ok (.iconst 1, 1) := by decide +kernel
theorem dX8_isVoter_16 : decode cX8_isVoter 16 = .ok (.goto 4, 3) := by decide +kernel
theorem dX8_isVoter_19 : decode cX8_isVoter 19 = .ok (.iconst 0, 1) := by decide +kernel
theorem dX8_isVoter_20 : decode cX8_isVoter 20 = .ok (.ireturn, 1) := by decide +kernel
theorem dX8_isSheet_0 : decode cX8_isSheet 0 = .ok (.iload_n 1, 1) := by decide +kernel
theorem dX8_isSheet_1 : decode cX8_isSheet 1 = .ok (.ifCond .lt 18, 3) := by decide +kernel
theorem dX8_isSheet_4 : decode cX8_isSheet 4 = .ok (.iload_n 1, 1) := by decide +kernel
theorem dX8_isSheet_5 : decode cX8_isSheet 5 = .ok (.aload_n 0, 1) := by decide +kernel
theorem dX8_isSheet_6 : decode cX8_isSheet 6 = .ok (.getfield 48, 3) := by decide +kernel
theorem dX8_isSheet_9 : decode cX8_isSheet 9 = .ok (.getfield 171, 3) := by decide +kernel
theorem dX8_isSheet_12 : decode cX8_isSheet 12 = .ok (.if_icmp .ge 7, 3) := by decide +kernel
theorem dX8_isSheet_15 : decode cX8_isSheet 15 = .ok (.iconst 1, 1) := by decide +kernel
theorem dX8_isSheet_16 : decode cX8_isSheet 16 = .ok (.goto 4, 3) := by decide +kernel
theorem dX8_isSheet_19 : decode cX8_isSheet 19 = .ok (.iconst 0, 1) := by decide +kernel
theorem dX8_isSheet_20 : decode cX8_isSheet 20 = .ok (.ireturn, 1) := by decide +kernel
theorem dX8_isLine_0 : decode cX8_isLine 0 = .ok (.aload_n 0, 1) := by decide +kernel
theorem dX8_isLine_1 : decode cX8_isLine 1 = .ok (.iload_n 1, 1) := by decide +kernel
theorem dX8_isLine_2 : decode cX8_isLine 2 = .ok (.invokevirtual 116, 3) := by decide +kernel
theorem dX8_isLine_5 : decode cX8_isLine 5 = .ok (.ifCond .eq 23, 3) := by decide +kernel
theorem dX8_isLine_8 : decode cX8_isLine 8 = .ok (.iload_n 2, 1) := by decide +kernel
theorem dX8_isLine_9 : decode cX8_isLine 9 = .ok (.ifCond .lt 19, 3) := by decide +kernel
theorem dX8_isLine_12 : decode cX8_isLine 12 = .ok (.iload_n 2, 1) := by decide +kernel
theorem dX8_isLine_13 : decode cX8_isLine 13 = .ok (.aload_n 0, 1) := by decide +kernel
theorem dX8_isLine_14 : decode cX8_isLine 14 = .ok (.getfield 48, 3) := by decide +kernel
theorem dX8_isLine_17 : decode cX8_isLine 17 = .ok (.iload_n 1, 1) := by decide +kernel
theorem dX8_isLine_18 : decode cX8_isLine 18 = .ok (.invokevirtual 134, 3) := by decide +kernel
theorem dX8_isLine_21 : decode cX8_isLine 21 = .ok (.if_icmp .ge 7, 3) := by decide +kernel
theorem dX8_isLine_24 : decode cX8_isLine 24 = .ok (.iconst 1, 1) := by decide +kernel
theorem dX8_isLine_25 : decode cX8_isLine 25 = .ok (.goto 4, 3) := by decide +kernel
theorem dX8_isLine_28 : decode cX8_isLine 28 = .ok (.iconst 0, 1) := by decide +kernel
theorem dX8_isLine_29 : decode cX8_isLine 29 = .ok (.ireturn, 1) := by decide +kernel
theorem dX8_sampleOf_0 : decode cX8_sampleOf 0 = .ok (.iload_n 1, 1) := by decide +kernel
theorem dX8_sampleOf_1 : decode cX8_sampleOf 1 = .ok (.ifCond .ne 13, 3) := by decide +kernel
theorem dX8_sampleOf_4 : decode cX8_sampleOf 4 = .ok (.aload_n 0, 1) := by decide +kernel
theorem dX8_sampleOf_5 : decode cX8_sampleOf 5 = .ok (.getfield 48, 3) := by decide +kernel
theorem dX8_sampleOf_8 : decode cX8_sampleOf 8 = .ok (.getfield 105, 3) := by decide +kernel
theorem dX8_sampleOf_11 : decode cX8_sampleOf 11 = .ok (.goto 10, 3) := by decide +kernel
theorem dX8_sampleOf_14 : decode cX8_sampleOf 14 = .ok (.aload_n 0, 1) := by decide +kernel
theorem dX8_sampleOf_15 : decode cX8_sampleOf 15 = .ok (.getfield 48, 3) := by decide +kernel
theorem dX8_sampleOf_18 : decode cX8_sampleOf 18 = .ok (.getfield 109, 3) := by decide +kernel
theorem dX8_sampleOf_21 : decode cX8_sampleOf 21 = .ok (.lreturn, 1) := by decide +kernel
theorem dX8_keepForUndo_0 : decode cX8_keepForUndo 0 = .ok (.aload_n 0, 1) := by decide +kernel
theorem dX8_keepForUndo_1 : decode cX8_keepForUndo 1 = .ok (.getfield 165, 3) := by decide +kernel
theorem dX8_keepForUndo_4 : decode cX8_keepForUndo 4 = .ok (.bipush 8, 2) := by decide +kernel
theorem dX8_keepForUndo_6 : decode cX8_keepForUndo 6 = .ok (.if_icmp .lt 52, 3) := by decide +kernel
theorem dX8_keepForUndo_9 : decode cX8_keepForUndo 9 = .ok (.aload_n 0, 1) := by decide +kernel
theorem dX8_keepForUndo_10 : decode cX8_keepForUndo 10 = .ok (.getfield 43, 3) := by decide +kernel
theorem dX8_keepForUndo_13 : decode cX8_keepForUndo 13 = .ok (.iconst 0, 1) := by decide +kernel
theorem dX8_keepForUndo_14 : decode cX8_keepForUndo 14 = .ok (.aaload, 1) := by decide +kernel
theorem dX8_keepForUndo_15 : decode cX8_keepForUndo 15 = .ok (.astore_n 1, 1) := by decide +kernel
theorem dX8_keepForUndo_16 : decode cX8_keepForUndo 16 = .ok (.iconst 1, 1) := by decide +kernel
theorem dX8_keepForUndo_17 : decode cX8_keepForUndo 17 = .ok (.istore_n 2, 1) := by decide +kernel
theorem dX8_keepForUndo_18 : decode cX8_keepForUndo 18 = .ok (.iload_n 2, 1) := by decide +kernel
theorem dX8_keepForUndo_19 : decode cX8_keepForUndo 19 = .ok (.bipush 8, 2) := by decide +kernel
theorem dX8_keepForUndo_21 : decode cX8_keepForUndo 21 = .ok (.if_icmp .ge 23, 3) := by decide +kernel
theorem dX8_keepForUndo_24 : decode cX8_keepForUndo 24 = .ok (.aload_n 0, 1) := by decide +kernel
theorem dX8_keepForUndo_25 : decode cX8_keepForUndo 25 = .ok (.getfield 43, 3) := by decide +kernel
theorem dX8_keepForUndo_28 : decode cX8_keepForUndo 28 = .ok (.iload_n 2, 1) := by decide +kernel
theorem dX8_keepForUndo_29 : decode cX8_keepForUndo 29 = .ok (.iconst 1, 1) := by decide +kernel
theorem dX8_keepForUndo_30 : decode cX8_keepForUndo 30 = .ok (.isub, 1) := by decide +kernel
theorem dX8_keepForUndo_31 : decode cX8_keepForUndo 31 = .ok (.aload_n 0, 1) := by decide +kernel
theorem dX8_keepForUndo_32 : decode cX8_keepForUndo 32 = .ok (.getfield 43, 3) := by decide +kernel
theorem dX8_keepForUndo_35 : decode cX8_keepForUndo 35 = .ok (.iload_n 2, 1) := by decide +kernel
theorem dX8_keepForUndo_36 : decode cX8_keepForUndo 36 = .ok (.aaload, 1) := by decide +kernel
theorem dX8_keepForUndo_37 : decode cX8_keepForUndo 37 = .ok (.aastore, 1) := by decide +kernel
theorem dX8_keepForUndo_38 : decode cX8_keepForUndo 38 = .ok (.iinc 2 1, 3) := by decide +kernel
theorem dX8_keepForUndo_41 : decode cX8_keepForUndo 41 = .ok (.goto (-23), 3) := by decide +kernel
theorem dX8_keepForUndo_44 : decode cX8_keepForUndo 44 = .ok (.aload_n 0, 1) := by decide +kernel
theorem dX8_keepForUndo_45 : decode cX8_keepForUndo 45 = .ok (.getfield 43, 3) := by decide +kernel
theorem dX8_keepForUndo_48 : decode cX8_keepForUndo 48 = .ok (.bipush 7, 2) := by decide +kernel
theorem dX8_keepForUndo_50 : decode cX8_keepForUndo 50 = .ok (.aload_n 1, 1) := by decide +kernel
theorem dX8_keepForUndo_51 : decode cX8_keepForUndo 51 = .ok (.aastore, 1) := by decide +kernel
theorem dX8_keepForUndo_52 : decode cX8_keepForUndo 52 = .ok (.aload_n 0, 1) := by decide +kernel
theorem dX8_keepForUndo_53 : decode cX8_keepForUndo 53 = .ok (.bipush 7, 2) := by decide +kernel
theorem dX8_keepForUndo_55 : decode cX8_keepForUndo 55 = .ok (.putfield 165, 3) := by decide +kernel
theorem dX8_keepForUndo_58 : decode cX8_keepForUndo 58 = .ok (.aload_n 0, 1) := by decide +kernel
theorem dX8_keepForUndo_59 : decode cX8_keepForUndo 59 = .ok (.getfield 43, 3) := by decide +kernel
theorem dX8_keepForUndo_62 : decode cX8_keepForUndo 62 = .ok (.aload_n 0, 1) := by decide +kernel
theorem dX8_keepForUndo_63 : decode cX8_keepForUndo 63 = .ok (.getfield 165, 3) := by decide +kernel
theorem dX8_keepForUndo_66 : decode cX8_keepForUndo 66 = .ok (.aaload, 1) := by decide +kernel
theorem dX8_keepForUndo_67 : decode cX8_keepForUndo 67 = .ok (.aload_n 0, 1) := by decide +kernel
theorem dX8_keepForUndo_68 : decode cX8_keepForUndo 68 = .ok (.getfield 48, 3) := by decide +kernel
theorem dX8_keepForUndo_71 : decode cX8_keepForUndo 71 = .ok (.invokevirtual 91, 3) := by decide +kernel
theorem dX8_keepForUndo_74 : decode cX8_keepForUndo 74 = .ok (.aload_n 0, 1) := by decide +kernel
theorem dX8_keepForUndo_75 : decode cX8_keepForUndo 75 = .ok (.dup, 1) := by decide +kernel
theorem dX8_keepForUndo_76 : decode cX8_keepForUndo 76 = .ok (.getfield 165, 3) := by decide +kernel
theorem dX8_keepForUndo_79 : decode cX8_keepForUndo 79 = .ok (.iconst 1, 1) := by decide +kernel
theorem dX8_keepForUndo_80 : decode cX8_keepForUndo 80 = .ok (.iadd, 1) := by decide +kernel
theorem dX8_keepForUndo_81 : decode cX8_keepForUndo 81 = .ok (.putfield 165, 3) := by decide +kernel
theorem dX8_keepForUndo_84 : decode cX8_keepForUndo 84 = .ok (.return_, 1) := by decide +kernel
theorem dX8_drawLines_0 : decode cX8_drawLines 0 = .ok (.lconst 0, 1) := by decide +kernel
theorem dX8_drawLines_1 : decode cX8_drawLines 1 = .ok (.lstore_n 3, 1) := by decide +kernel
theorem dX8_drawLines_2 : decode cX8_drawLines 2 = .ok (.iload_n 2, 1) := by decide +kernel
theorem dX8_drawLines_3 : decode cX8_drawLines 3 = .ok (.istore 5, 2) := by decide +kernel
theorem dX8_drawLines_5 : decode cX8_drawLines 5 = .ok (.aload_n 0, 1) := by decide +kernel
theorem dX8_drawLines_6 : decode cX8_drawLines 6 = .ok (.getfield 48, 3) := by decide +kernel
theorem dX8_drawLines_9 : decode cX8_drawLines 9 = .ok (.getfield 98, 3) := by decide +kernel
theorem dX8_drawLines_12 : decode cX8_drawLines 12 = .ok (.istore 6, 2) := by decide +kernel
theorem dX8_drawLines_14 : decode cX8_drawLines 14 = .ok (.iload 6, 2) := by decide +kernel
theorem dX8_drawLines_16 : decode cX8_drawLines 16 = .ok (.ifCond .le 53, 3) := by decide +kernel
theorem dX8_drawLines_19 : decode cX8_drawLines 19 = .ok (.iload 6, 2) := by decide +kernel
theorem dX8_drawLines_21 : decode cX8_drawLines 21 = .ok (.aload_n 0, 1) := by decide +kernel
theorem dX8_drawLines_22 : decode cX8_drawLines 22 = .ok (.getfield 48, 3) := by decide +kernel
theorem dX8_drawLines_25 : decode cX8_drawLines 25 = .ok (.getfield 98, 3) := by decide +kernel
theorem dX8_drawLines_28 : decode cX8_drawLines 28 = .ok (.iload_n 1, 1) := by decide +kernel
theorem dX8_drawLines_29 : decode cX8_drawLines 29 = .ok (.isub, 1) := by decide +kernel
theorem dX8_drawLines_30 : decode cX8_drawLines 30 = .ok (.if_icmp .le 39, 3) := by decide +kernel
theorem dX8_drawLines_33 : decode cX8_drawLines 33 = .ok (.iload 5, 2) := by decide +kernel
theorem dX8_drawLines_35 : decode cX8_drawLines 35 = .ok (.ldc_w 307, 3) := by decide +kernel
theorem dX8_drawLines_38 : decode cX8_drawLines 38 = .ok (.imul, 1) := by decide +kernel
theorem dX8_drawLines_39 : decode cX8_drawLines 39 = .ok (.sipush 12345, 3) := by decide +kernel
theorem dX8_drawLines_42 : decode cX8_drawLines 42 = .ok (.iadd, 1) := by decide +kernel
theorem dX8_drawLines_43 : decode cX8_drawLines 43 = .ok (.istore 5, 2) := by decide +kernel
theorem dX8_drawLines_45 : decode cX8_drawLines 45 = .ok (.lload_n 3, 1) := by decide +kernel
theorem dX8_drawLines_46 : decode cX8_drawLines 46 = .ok (.lconst 1, 1) := by decide +kernel
theorem dX8_drawLines_47 : decode cX8_drawLines 47 = .ok (.aload_n 0, 1) := by decide +kernel
theorem dX8_drawLines_48 : decode cX8_drawLines 48 = .ok (.lload_n 3, 1) := by decide +kernel
theorem dX8_drawLines_49 : decode cX8_drawLines 49 = .ok (.iload 5, 2) := by decide +kernel
theorem dX8_drawLines_51 : decode cX8_drawLines 51 = .ok (.bipush 8, 2) := by decide +kernel
theorem dX8_drawLines_53 : decode cX8_drawLines 53 = .ok (.iushr, 1) := by decide +kernel
theorem dX8_drawLines_54 : decode cX8_drawLines 54 = .ok (.iload 6, 2) := by decide +kernel
theorem dX8_drawLines_56 : decode cX8_drawLines 56 = .ok (.irem, 1) := by decide +kernel
theorem dX8_drawLines_57 : decode cX8_drawLines 57 = .ok (.invokevirtual 308, 3) := by decide +kernel
theorem dX8_drawLines_60 : decode cX8_drawLines 60 = .ok (.lshl, 1) := by decide +kernel
theorem dX8_drawLines_61 : decode cX8_drawLines 61 = .ok (.lor, 1) := by decide +kernel
theorem dX8_drawLines_62 : decode cX8_drawLines 62 = .ok (.lstore_n 3, 1) := by decide +kernel
theorem dX8_drawLines_63 : decode cX8_drawLines 63 = .ok (.iinc 6 (-1), 3) := by decide +kernel
theorem dX8_drawLines_66 : decode cX8_drawLines 66 = .ok (.goto (-52), 3) := by decide +kernel
theorem dX8_drawLines_69 : decode cX8_drawLines 69 = .ok (.lload_n 3, 1) := by decide +kernel
theorem dX8_drawLines_70 : decode cX8_drawLines 70 = .ok (.lreturn, 1) := by decide +kernel
theorem dX8_indexOfUndrawn_0 : decode cX8_indexOfUndrawn 0 = .ok (.iconst 0, 1) := by decide +kernel
theorem dX8_indexOfUndrawn_1 : decode cX8_indexOfUndrawn 1 = .ok (.istore 4, 2) := by decide +kernel
theorem dX8_indexOfUndrawn_3 : decode cX8_indexOfUndrawn 3 = .ok (.iconst 0, 1) := by decide +kernel
theorem dX8_indexOfUndrawn_4 : decode cX8_indexOfUndrawn 4 = .ok (.istore 5, 2) := by decide +kernel
theorem dX8_indexOfUndrawn_6 : decode cX8_indexOfUndrawn 6 = .ok (.iload 5, 2) := by decide +kernel
theorem dX8_indexOfUndrawn_8 : decode cX8_indexOfUndrawn 8 = .ok (.aload_n 0, 1) := by decide +kernel
theorem dX8_indexOfUndrawn_9 : decode cX8_indexOfUndrawn 9 = .ok (.getfield 48, 3) := by decide +kernel
theorem dX8_indexOfUndrawn_12 : decode cX8_indexOfUndrawn 12 = .ok (.getfield 98, 3) := by decide +kernel
theorem dX8_indexOfUndrawn_15 : decode cX8_indexOfUndrawn 15 = .ok (.if_icmp .ge 32, 3) := by decide +kernel
theorem dX8_indexOfUndrawn_18 : decode cX8_indexOfUndrawn 18 = .ok (.lload_n 1, 1) := by decide +kernel
theorem dX8_indexOfUndrawn_19 : decode cX8_indexOfUndrawn 19 = .ok (.iload 5, 2) := by decide +kernel
theorem dX8_indexOfUndrawn_21 : decode cX8_indexOfUndrawn 21 = .ok (.lshr, 1) := by decide +kernel
theorem dX8_indexOfUndrawn_22 : decode cX8_indexOfUndrawn 22 = .ok (.lconst 1, 1) := by decide +kernel
theorem dX8_indexOfUndrawn_23 : decode cX8_indexOfUndrawn 23 = .ok (.land, 1) := by decide +kernel
theorem dX8_indexOfUndrawn_24 : decode cX8_indexOfUndrawn 24 = .ok (.lconst 0, 1) := by decide +kernel
theorem dX8_indexOfUndrawn_25 : decode cX8_indexOfUndrawn 25 = .ok (.lcmp, 1) := by decide +kernel
theorem dX8_indexOfUndrawn_26 : decode cX8_indexOfUndrawn 26 = .ok (.ifCond .ne 15, 3) := by decide +kernel
theorem dX8_indexOfUndrawn_29 : decode cX8_indexOfUndrawn 29 = .ok (.iload 4, 2) := by decide +kernel
theorem dX8_indexOfUndrawn_31 : decode cX8_indexOfUndrawn 31 = .ok (.iload_n 3, 1) := by decide +kernel
theorem dX8_indexOfUndrawn_32 : decode cX8_indexOfUndrawn 32 = .ok (.if_icmp .ne 6, 3) := by decide +kernel
theorem dX8_indexOfUndrawn_35 : decode cX8_indexOfUndrawn 35 = .ok (.iload 5, 2) := by decide +kernel
theorem dX8_indexOfUndrawn_37 : decode cX8_indexOfUndrawn 37 = .ok (.ireturn, 1) := by decide +kernel
theorem dX8_indexOfUndrawn_38 : decode cX8_indexOfUndrawn 38 = .ok (.iinc 4 1, 3) := by decide +kernel
theorem dX8_indexOfUndrawn_41 : decode cX8_indexOfUndrawn 41 = .ok (.iinc 5 1, 3) := by decide +kernel
theorem dX8_indexOfUndrawn_44 : decode cX8_indexOfUndrawn 44 = .ok (.goto (-38), 3) := by decide +kernel
theorem dX8_indexOfUndrawn_47 : decode cX8_indexOfUndrawn 47 = .ok (.iconst 0, 1) := by decide +kernel
theorem dX8_indexOfUndrawn_48 : decode cX8_indexOfUndrawn 48 = .ok (.ireturn, 1) := by decide +kernel
theorem dX8_verdictOf_0 : decode cX8_verdictOf 0 = .ok (.aload_n 0, 1) := by decide +kernel
theorem dX8_verdictOf_1 : decode cX8_verdictOf 1 = .ok (.getfield 37, 3) := by decide +kernel
theorem dX8_verdictOf_4 : decode cX8_verdictOf 4 = .ok (.aload_n 0, 1) := by decide +kernel
theorem dX8_verdictOf_5 : decode cX8_verdictOf 5 = .ok (.getfield 48, 3) := by decide +kernel
theorem dX8_verdictOf_8 : decode cX8_verdictOf 8 = .ok (.getfield 98, 3) := by decide +kernel
theorem dX8_verdictOf_11 : decode cX8_verdictOf 11 = .ok (.iload_n 1, 1) := by decide +kernel
theorem dX8_verdictOf_12 : decode cX8_verdictOf 12 = .ok (.iload_n 2, 1) := by decide +kernel
theorem dX8_verdictOf_13 : decode cX8_verdictOf 13 = .ok (.aload_n 0, 1) := by decide +kernel
theorem dX8_verdictOf_14 : decode cX8_verdictOf 14 = .ok (.getfield 48, 3) := by decide +kernel
theorem dX8_verdictOf_17 : decode cX8_verdictOf 17 = .ok (.getfield 186, 3) := by decide +kernel
theorem dX8_verdictOf_20 : decode cX8_verdictOf 20 = .ok (.invokevirtual 235, 3) := by decide +kernel
theorem dX8_verdictOf_23 : decode cX8_verdictOf 23 = .ok (.aload_n 0, 1) := by decide +kernel
theorem dX8_verdictOf_24 : decode cX8_verdictOf 24 = .ok (.getfield 48, 3) := by decide +kernel
theorem dX8_verdictOf_27 : decode cX8_verdictOf 27 = .ok (.getfield 174, 3) := by decide +kernel
theorem dX8_verdictOf_30 : decode cX8_verdictOf 30 = .ok (.if_icmp .lt 5, 3) := by decide +kernel
theorem dX8_verdictOf_33 : decode cX8_verdictOf 33 = .ok (.iconst 1, 1) := by decide +kernel
theorem dX8_verdictOf_34 : decode cX8_verdictOf 34 = .ok (.ireturn, 1) := by decide +kernel
theorem dX8_verdictOf_35 : decode cX8_verdictOf 35 = .ok (.aload_n 0, 1) := by decide +kernel
theorem dX8_verdictOf_36 : decode cX8_verdictOf 36 = .ok (.getfield 37, 3) := by decide +kernel
theorem dX8_verdictOf_39 : decode cX8_verdictOf 39 = .ok (.aload_n 0, 1) := by decide +kernel
theorem dX8_verdictOf_40 : decode cX8_verdictOf 40 = .ok (.getfield 48, 3) := by decide +kernel
theorem dX8_verdictOf_43 : decode cX8_verdictOf 43 = .ok (.getfield 98, 3) := by decide +kernel
theorem dX8_verdictOf_46 : decode cX8_verdictOf 46 = .ok (.iload_n 1, 1) := by decide +kernel
theorem dX8_verdictOf_47 : decode cX8_verdictOf 47 = .ok (.iload_n 2, 1) := by decide +kernel
theorem dX8_verdictOf_48 : decode cX8_verdictOf 48 = .ok (.aload_n 0, 1) := by decide +kernel
theorem dX8_verdictOf_49 : decode cX8_verdictOf 49 = .ok (.getfield 48, 3) := by decide +kernel
theorem dX8_verdictOf_52 : decode cX8_verdictOf 52 = .ok (.getfield 186, 3) := by decide +kernel
theorem dX8_verdictOf_55 : decode cX8_verdictOf 55 = .ok (.invokevirtual 239, 3) := by decide +kernel
theorem dX8_verdictOf_58 : decode cX8_verdictOf 58 = .ok (.aload_n 0, 1) := by decide +kernel
theorem dX8_verdictOf_59 : decode cX8_verdictOf 59 = .ok (.getfield 48, 3) := by decide +kernel
theorem dX8_verdictOf_62 : decode cX8_verdictOf 62 = .ok (.getfield 174, 3) := by decide +kernel
theorem dX8_verdictOf_65 : decode cX8_verdictOf 65 = .ok (.if_icmp .ge 7, 3) := by decide +kernel
theorem dX8_verdictOf_68 : decode cX8_verdictOf 68 = .ok (.iconst 2, 1) := by decide +kernel
theorem dX8_verdictOf_69 : decode cX8_verdictOf 69 = .ok (.goto 4, 3) := by decide +kernel
theorem dX8_verdictOf_72 : decode cX8_verdictOf 72 = .ok (.iconst 0, 1) := by decide +kernel
theorem dX8_verdictOf_73 : decode cX8_verdictOf 73 = .ok (.ireturn, 1) := by decide +kernel
theorem dX8_inLowestTerms_0 : decode cX8_inLowestTerms 0 = .ok (.lload_n 0, 1) := by decide +kernel
theorem dX8_inLowestTerms_1 : decode cX8_inLowestTerms 1 = .ok (.lload_n 2, 1) := by decide +kernel
theorem dX8_inLowestTerms_2 : decode cX8_inLowestTerms 2 = .ok (.invokestatic 312, 3) := by decide +kernel
theorem dX8_inLowestTerms_5 : decode cX8_inLowestTerms 5 = .ok (.lstore 5, 2) := by decide +kernel
theorem dX8_inLowestTerms_7 : decode cX8_inLowestTerms 7 = .ok (.lload 5, 2) := by decide +kernel
theorem dX8_inLowestTerms_9 : decode cX8_inLowestTerms 9 = .ok (.lconst 0, 1) := by decide +kernel
theorem dX8_inLowestTerms_10 : decode cX8_inLowestTerms 10 = .ok (.lcmp, 1) := by decide +kernel
theorem dX8_inLowestTerms_11 : decode cX8_inLowestTerms 11 = .ok (.ifCond .ne 5, 3) := by decide +kernel
theorem dX8_inLowestTerms_14 : decode cX8_inLowestTerms 14 = .ok (.lconst 0, 1) := by decide +kernel
theorem dX8_inLowestTerms_15 : decode cX8_inLowestTerms 15 = .ok (.lreturn, 1) := by decide +kernel
theorem dX8_inLowestTerms_16 : decode cX8_inLowestTerms 16 = .ok (.iload 4, 2) := by decide +kernel
theorem dX8_inLowestTerms_18 : decode cX8_inLowestTerms 18 = .ok (.ifCond .ne 7, 3) := by decide +kernel
theorem dX8_inLowestTerms_21 : decode cX8_inLowestTerms 21 = .ok (.lload_n 0, 1) := by decide +kernel
theorem dX8_inLowestTerms_22 : decode cX8_inLowestTerms 22 = .ok (.goto 4, 3) := by decide +kernel
theorem dX8_inLowestTerms_25 : decode cX8_inLowestTerms 25 = .ok (.lload_n 2, 1) := by decide +kernel
theorem dX8_inLowestTerms_26 : decode cX8_inLowestTerms 26 = .ok (.lload 5, 2) := by decide +kernel
theorem dX8_inLowestTerms_28 : decode cX8_inLowestTerms 28 = .ok (.ldiv, 1) := by decide +kernel
theorem dX8_inLowestTerms_29 : decode cX8_inLowestTerms 29 = .ok (.lreturn, 1) := by decide +kernel
end
section
set_option maxRecDepth 100000 in
theorem flX5_9 : pd_FL RX5 9 4 0 := ⟨_, _, _, rfl, by decide, pd_tb (i := 145) (by decide +kernel) (by decide +kernel)⟩
set_option maxRecDepth 100000 in
theorem flX7_85 : pd_FL RX7 85 4 0 := ⟨_, _, _, rfl, by decide, pd_tb (i := 146) (by decide +kernel) (by decide +kernel)⟩
set_option maxRecDepth 100000 in
theorem flX5_15 : pd_FL RX5 15 4 1 := ⟨_, _, _, rfl, by decide, pd_tb (i := 147) (by decide +kernel) (by decide +kernel)⟩
set_option maxRecDepth 100000 in
theorem flX8_66 : pd_FL RX8 66 4 1 := ⟨_, _, _, rfl, by decide, pd_tb (i := 148) (by decide +kernel) (by decide +kernel)⟩
set_option maxRecDepth 100000 in
theorem flX7_9 : pd_FL RX7 9 6 0 := ⟨_, _, _, rfl, by decide, pd_tb (i := 156) (by decide +kernel) (by decide +kernel)⟩
set_option maxRecDepth 100000 in
theorem flX6_169 : pd_FL RX6 169 6 0 := ⟨_, _, _, rfl, by decide, pd_tb (i := 157) (by decide +kernel) (by decide +kernel)⟩
set_option maxRecDepth 100000 in
theorem flX7_15 : pd_FL RX7 15 6 1 := ⟨_, _, _, rfl, by decide, pd_tb (i := 158) (by decide +kernel) (by decide +kernel)⟩
set_option maxRecDepth 100000 in
theorem flX6_172 : pd_FL RX6 172 6 1 := ⟨_, _, _, rfl, by decide, pd_tb (i := 159) (by decide +kernel) (by decide +kernel)⟩
set_option maxRecDepth 100000 in
theorem flX7_18 : pd_FL RX7 18 6 2 := ⟨_, _, _, rfl, by decide, pd_tb (i := 160) (by decide +kernel) (by decide +kernel)⟩
set_option maxRecDepth 100000 in
theorem flX6_159 : pd_FL RX6 159 6 2 := ⟨_, _, _, rfl, by decide, pd_tb (i := 161) (by decide +kernel) (by decide +kernel)⟩
set_option maxRecDepth 100000 in
theorem flX8_20 : pd_FL RX8 20 6 3 := ⟨_, _, _, rfl, by decide, pd_tb (i := 162) (by decide +kernel) (by decide +kernel)⟩
set_option maxRecDepth 100000 in
theorem flX7_24 : pd_FL RX7 24 6 3 := ⟨_, _, _, rfl, by decide, pd_tb (i := 163) (by decide +kernel) (by decide +kernel)⟩
set_option maxRecDepth 100000 in
theorem flX7_37 : pd_FL RX7 37 6 4 := ⟨_, _, _, rfl, by decide, pd_tb (i := 164) (by decide +kernel) (by decide +kernel)⟩
set_option maxRecDepth 100000 in
theorem flX7_41 : pd_FL RX7 41 6 5 := ⟨_, _, _, rfl, by decide, pd_tb (i := 165) (by decide +kernel) (by decide +kernel)⟩
set_option maxRecDepth 100000 in
theorem flX4_9 : pd_FL RX4 9 3 0 := ⟨_, _, _, rfl, by decide, pd_tb (i := 191) (by decide +kernel) (by decide +kernel)⟩
set_option maxRecDepth 100000 in
theorem flX4_15 : pd_FL RX4 15 3 1 := ⟨_, _, _, rfl, by decide, pd_tb (i := 192) (by decide +kernel) (by decide +kernel)⟩
set_option maxRecDepth 100000 in
theorem flX3_68 : pd_FL RX3 68 3 1 := ⟨_, _, _, rfl, by decide, pd_tb (i := 193) (by decide +kernel) (by decide +kernel)⟩
set_option maxRecDepth 100000 in
theorem flX3_53 : pd_FL RX3 53 2 0 := ⟨_, _, _, rfl, by decide, pd_tb (i := 199) (by decide +kernel) (by decide +kernel)⟩
set_option maxRecDepth 100000 in
theorem flX6_86 : pd_FL RX6 86 2 0 := ⟨_, _, _, rfl, by decide, pd_tb (i := 200) (by decide +kernel) (by decide +kernel)⟩
set_option maxRecDepth 100000 in
theorem flX8_168 : pd_FL RX8 168 2 0 := ⟨_, _, _, rfl, by decide, pd_tb (i := 201) (by decide +kernel) (by decide +kernel)⟩
set_option maxRecDepth 100000 in
theorem flX3_9 : pd_FL RX3 9 2 1 := ⟨_, _, _, rfl, by decide, pd_tb (i := 202) (by decide +kernel) (by decide +kernel)⟩
set_option maxRecDepth 100000 in
theorem flX8_138 : pd_FL RX8 138 2 1 := ⟨_, _, _, rfl, by decide, pd_tb (i := 203) (by decide +kernel) (by decide +kernel)⟩
set_option maxRecDepth 100000 in
theorem flX3_15 : pd_FL RX3 15 2 2 := ⟨_, _, _, rfl, by decide, pd_tb (i := 204) (by decide +kernel) (by decide +kernel)⟩
set_option maxRecDepth 100000 in
theorem flX8_142 : pd_FL RX8 142 2 2 := ⟨_, _, _, rfl, by decide, pd_tb (i := 205) (by decide +kernel) (by decide +kernel)⟩
set_option maxRecDepth 100000 in
theorem flX3_18 : pd_FL RX3 18 2 3 := ⟨_, _, _, rfl, by decide, pd_tb (i := 206) (by decide +kernel) (by decide +kernel)⟩
set_option maxRecDepth 100000 in
theorem flX1_90 : pd_FL RX1 90 2 3 := ⟨_, _, _, rfl, by decide, pd_tb (i := 207) (by decide +kernel) (by decide +kernel)⟩
set_option maxRecDepth 100000 in
theorem flX8_192 : pd_FL RX8 192 2 3 := ⟨_, _, _, rfl, by decide, pd_tb (i := 208) (by decide +kernel) (by decide +kernel)⟩
set_option maxRecDepth 100000 in
theorem flX3_56 : pd_FL RX3 56 2 4 := ⟨_, _, _, rfl, by decide, pd_tb (i := 209) (by decide +kernel) (by decide +kernel)⟩
set_option maxRecDepth 100000 in
theorem flX6_106 : pd_FL RX6 106 2 4 := ⟨_, _, _, rfl, by decide, pd_tb (i := 210) (by decide +kernel) (by decide +kernel)⟩
set_option maxRecDepth 100000 in
theorem flX1_113 : pd_FL RX1 113 2 4 := ⟨_, _, _, rfl, by decide, pd_tb (i := 211) (by decide +kernel) (by decide +kernel)⟩
set_option maxRecDepth 100000 in
theorem flX8_171 : pd_FL RX8 171 2 4 := ⟨_, _, _, rfl, by decide, pd_tb (i := 212) (by decide +kernel) (by decide +kernel)⟩
set_option maxRecDepth 100000 in
theorem flX3_59 : pd_FL RX3 59 2 5 := ⟨_, _, _, rfl, by decide, pd_tb (i := 213) (by decide +kernel) (by decide +kernel)⟩
set_option maxRecDepth 100000 in
theorem flX1_107 : pd_FL RX1 107 2 5 := ⟨_, _, _, rfl, by decide, pd_tb (i := 214) (by decide +kernel) (by decide +kernel)⟩
set_option maxRecDepth 100000 in
theorem flX8_125 : pd_FL RX8 125 2 5 := ⟨_, _, _, rfl, by decide, pd_tb (i := 215) (by decide +kernel) (by decide +kernel)⟩
set_option maxRecDepth 100000 in
theorem flX1_32 : pd_FL RX1 32 2 6 := ⟨_, _, _, rfl, by decide, pd_tb (i := 216) (by decide +kernel) (by decide +kernel)⟩
set_option maxRecDepth 100000 in
theorem flX3_62 : pd_FL RX3 62 2 6 := ⟨_, _, _, rfl, by decide, pd_tb (i := 217) (by decide +kernel) (by decide +kernel)⟩
set_option maxRecDepth 100000 in
theorem flX8_98 : pd_FL RX8 98 2 6 := ⟨_, _, _, rfl, by decide, pd_tb (i := 218) (by decide +kernel) (by decide +kernel)⟩
set_option maxRecDepth 100000 in
theorem flX6_109 : pd_FL RX6 109 2 6 := ⟨_, _, _, rfl, by decide, pd_tb (i := 219) (by decide +kernel) (by decide +kernel)⟩
set_option maxRecDepth 100000 in
theorem flX3_21 : pd_FL RX3 21 2 7 := ⟨_, _, _, rfl, by decide, pd_tb (i := 220) (by decide +kernel) (by decide +kernel)⟩
set_option maxRecDepth 100000 in
theorem flX1_61 : pd_FL RX1 61 2 7 := ⟨_, _, _, rfl, by decide, pd_tb (i := 221) (by decide +kernel) (by decide +kernel)⟩
set_option maxRecDepth 100000 in
theorem flX3_24 : pd_FL RX3 24 2 8 := ⟨_, _, _, rfl, by decide, pd_tb (i := 222) (by decide +kernel) (by decide +kernel)⟩
set_option maxRecDepth 100000 in
theorem flX1_64 : pd_FL RX1 64 2 8 := ⟨_, _, _, rfl, by decide, pd_tb (i := 223) (by decide +kernel) (by decide +kernel)⟩
set_option maxRecDepth 100000 in
theorem flX8_214 : pd_FL RX8 214 2 8 := ⟨_, _, _, rfl, by decide, pd_tb (i := 224) (by decide +kernel) (by decide +kernel)⟩
set_option maxRecDepth 100000 in
theorem flX3_27 : pd_FL RX3 27 2 9 := ⟨_, _, _, rfl, by decide, pd_tb (i := 225) (by decide +kernel) (by decide +kernel)⟩
set_option maxRecDepth 100000 in
theorem flX1_87 : pd_FL RX1 87 2 9 := ⟨_, _, _, rfl, by decide, pd_tb (i := 226) (by decide +kernel) (by decide +kernel)⟩
set_option maxRecDepth 100000 in
theorem flX8_217 : pd_FL RX8 217 2 9 := ⟨_, _, _, rfl, by decide, pd_tb (i := 227) (by decide +kernel) (by decide +kernel)⟩
set_option maxRecDepth 100000 in
theorem flX3_30 : pd_FL RX3 30 2 10 := ⟨_, _, _, rfl, by decide, pd_tb (i := 228) (by decide +kernel) (by decide +kernel)⟩
set_option maxRecDepth 100000 in
theorem flX1_70 : pd_FL RX1 70 2 10 := ⟨_, _, _, rfl, by decide, pd_tb (i := 229) (by decide +kernel) (by decide +kernel)⟩
set_option maxRecDepth 100000 in
theorem flX3_33 : pd_FL RX3 33 2 11 := ⟨_, _, _, rfl, by decide, pd_tb (i := 230) (by decide +kernel) (by decide +kernel)⟩
set_option maxRecDepth 100000 in
theorem flX6_116 : pd_FL RX6 116 2 11 := ⟨_, _, _, rfl, by decide, pd_tb (i := 231) (by decide +kernel) (by decide +kernel)⟩
set_option maxRecDepth 100000 in
theorem flX8_174 : pd_FL RX8 174 2 11 := ⟨_, _, _, rfl, by decide, pd_tb (i := 232) (by decide +kernel) (by decide +kernel)⟩
set_option maxRecDepth 100000 in
theorem flX3_65 : pd_FL RX3 65 2 12 := ⟨_, _, _, rfl, by decide, pd_tb (i := 233) (by decide +kernel) (by decide +kernel)⟩
set_option maxRecDepth 100000 in
theorem flX1_93 : pd_FL RX1 93 2 12 := ⟨_, _, _, rfl, by decide, pd_tb (i := 234) (by decide +kernel) (by decide +kernel)⟩
set_option maxRecDepth 100000 in
theorem flX6_119 : pd_FL RX6 119 2 12 := ⟨_, _, _, rfl, by decide, pd_tb (i := 235) (by decide +kernel) (by decide +kernel)⟩
set_option maxRecDepth 100000 in
theorem flX8_177 : pd_FL RX8 177 2 12 := ⟨_, _, _, rfl, by decide, pd_tb (i := 236) (by decide +kernel) (by decide +kernel)⟩
set_option maxRecDepth 100000 in
theorem flX3_37 : pd_FL RX3 37 2 13 := ⟨_, _, _, rfl, by decide, pd_tb (i := 237) (by decide +kernel) (by decide +kernel)⟩
set_option maxRecDepth 100000 in
theorem flX1_96 : pd_FL RX1 96 2 13 := ⟨_, _, _, rfl, by decide, pd_tb (i := 238) (by decide +kernel) (by decide +kernel)⟩
set_option maxRecDepth 100000 in
theorem flX6_122 : pd_FL RX6 122 2 13 := ⟨_, _, _, rfl, by decide, pd_tb (i := 239) (by decide +kernel) (by decide +kernel)⟩
set_option maxRecDepth 100000 in
theorem flX8_180 : pd_FL RX8 180 2 13 := ⟨_, _, _, rfl, by decide, pd_tb (i := 240) (by decide +kernel) (by decide +kernel)⟩
set_option maxRecDepth 100000 in
theorem flX3_40 : pd_FL RX3 40 2 14 := ⟨_, _, _, rfl, by decide, pd_tb (i := 241) (by decide +kernel) (by decide +kernel)⟩
set_option maxRecDepth 100000 in
theorem flX1_116 : pd_FL RX1 116 2 14 := ⟨_, _, _, rfl, by decide, pd_tb (i := 242) (by decide +kernel) (by decide +kernel)⟩
set_option maxRecDepth 100000 in
theorem flX6_125 : pd_FL RX6 125 2 14 := ⟨_, _, _, rfl, by decide, pd_tb (i := 243) (by decide +kernel) (by decide +kernel)⟩
set_option maxRecDepth 100000 in
theorem flX8_183 : pd_FL RX8 183 2 14 := ⟨_, _, _, rfl, by decide, pd_tb (i := 244) (by decide +kernel) (by decide +kernel)⟩
set_option maxRecDepth 100000 in
theorem flX3_43 : pd_FL RX3 43 2 15 := ⟨_, _, _, rfl, by decide, pd_tb (i := 245) (by decide +kernel) (by decide +kernel)⟩
set_option maxRecDepth 100000 in
theorem flX6_128 : pd_FL RX6 128 2 15 := ⟨_, _, _, rfl, by decide, pd_tb (i := 246) (by decide +kernel) (by decide +kernel)⟩
set_option maxRecDepth 100000 in
theorem flX8_186 : pd_FL RX8 186 2 15 := ⟨_, _, _, rfl, by decide, pd_tb (i := 247) (by decide +kernel) (by decide +kernel)⟩
set_option maxRecDepth 100000 in
theorem flX3_49 : pd_FL RX3 49 2 16 := ⟨_, _, _, rfl, by decide, pd_tb (i := 248) (by decide +kernel) (by decide +kernel)⟩
set_option maxRecDepth 100000 in
theorem flX1_99 : pd_FL RX1 99 2 16 := ⟨_, _, _, rfl, by decide, pd_tb (i := 249) (by decide +kernel) (by decide +kernel)⟩
set_option maxRecDepth 100000 in
theorem flX6_134 : pd_FL RX6 134 2 16 := ⟨_, _, _, rfl, by decide, pd_tb (i := 250) (by decide +kernel) (by decide +kernel)⟩
set_option maxRecDepth 100000 in
theorem flX3_84 : pd_FL RX3 84 2 17 := ⟨_, _, _, rfl, by decide, pd_tb (i := 251) (by decide +kernel) (by decide +kernel)⟩
set_option maxRecDepth 100000 in
theorem flX8_105 : pd_FL RX8 105 2 17 := ⟨_, _, _, rfl, by decide, pd_tb (i := 252) (by decide +kernel) (by decide +kernel)⟩
set_option maxRecDepth 100000 in
theorem flX3_88 : pd_FL RX3 88 2 18 := ⟨_, _, _, rfl, by decide, pd_tb (i := 253) (by decide +kernel) (by decide +kernel)⟩
set_option maxRecDepth 100000 in
theorem flX8_109 : pd_FL RX8 109 2 18 := ⟨_, _, _, rfl, by decide, pd_tb (i := 254) (by decide +kernel) (by decide +kernel)⟩
set_option maxRecDepth 100000 in
theorem flX6_12 : pd_FL RX6 12 5 0 := ⟨_, _, _, rfl, by decide, pd_tb (i := 294) (by decide +kernel) (by decide +kernel)⟩
set_option maxRecDepth 100000 in
theorem flX8_16 : pd_FL RX8 16 5 0 := ⟨_, _, _, rfl, by decide, pd_tb (i := 295) (by decide +kernel) (by decide +kernel)⟩
set_option maxRecDepth 100000 in
theorem flX6_21 : pd_FL RX6 21 5 1 := ⟨_, _, _, rfl, by decide, pd_tb (i := 296) (by decide +kernel) (by decide +kernel)⟩
set_option maxRecDepth 100000 in
theorem flX8_88 : pd_FL RX8 88 5 1 := ⟨_, _, _, rfl, by decide, pd_tb (i := 297) (by decide +kernel) (by decide +kernel)⟩
set_option maxRecDepth 100000 in
theorem flX8_82 : pd_FL RX8 82 5 2 := ⟨_, _, _, rfl, by decide, pd_tb (i := 298) (by decide +kernel) (by decide +kernel)⟩
set_option maxRecDepth 100000 in
theorem flX6_163 : pd_FL RX6 163 5 2 := ⟨_, _, _, rfl, by decide, pd_tb (i := 299) (by decide +kernel) (by decide +kernel)⟩
set_option maxRecDepth 100000 in
theorem flX8_81 : pd_FL RX8 81 5 3 := ⟨_, _, _, rfl, by decide, pd_tb (i := 300) (by decide +kernel) (by decide +kernel)⟩
set_option maxRecDepth 100000 in
theorem flX6_166 : pd_FL RX6 166 5 3 := ⟨_, _, _, rfl, by decide, pd_tb (i := 301) (by decide +kernel) (by decide +kernel)⟩
set_option maxRecDepth 100000 in
theorem flX6_32 : pd_FL RX6 32 5 4 := ⟨_, _, _, rfl, by decide, pd_tb (i := 302) (by decide +kernel) (by decide +kernel)⟩
set_option maxRecDepth 100000 in
theorem flX6_36 : pd_FL RX6 36 5 5 := ⟨_, _, _, rfl, by decide, pd_tb (i := 303) (by decide +kernel) (by decide +kernel)⟩
set_option maxRecDepth 100000 in
theorem flX1_9 : pd_FL RX1 9 1 0 := ⟨_, _, _, rfl, by decide, pd_tb (i := 323) (by decide +kernel) (by decide +kernel)⟩
set_option maxRecDepth 100000 in
theorem flX8_220 : pd_FL RX8 220 1 0 := ⟨_, _, _, rfl, by decide, pd_tb (i := 324) (by decide +kernel) (by decide +kernel)⟩
set_option maxRecDepth 100000 in
theorem flX1_15 : pd_FL RX1 15 1 1 := ⟨_, _, _, rfl, by decide, pd_tb (i := 325) (by decide +kernel) (by decide +kernel)⟩
set_option maxRecDepth 100000 in
theorem flX8_159 : pd_FL RX8 159 1 1 := ⟨_, _, _, rfl, by decide, pd_tb (i := 326) (by decide +kernel) (by decide +kernel)⟩
set_option maxRecDepth 100000 in
theorem flX1_18 : pd_FL RX1 18 1 2 := ⟨_, _, _, rfl, by decide, pd_tb (i := 327) (by decide +kernel) (by decide +kernel)⟩
set_option maxRecDepth 100000 in
theorem flX8_264 : pd_FL RX8 264 1 2 := ⟨_, _, _, rfl, by decide, pd_tb (i := 328) (by decide +kernel) (by decide +kernel)⟩
set_option maxRecDepth 100000 in
theorem flX1_110 : pd_FL RX1 110 1 3 := ⟨_, _, _, rfl, by decide, pd_tb (i := 329) (by decide +kernel) (by decide +kernel)⟩
set_option maxRecDepth 100000 in
theorem flX8_189 : pd_FL RX8 189 1 3 := ⟨_, _, _, rfl, by decide, pd_tb (i := 330) (by decide +kernel) (by decide +kernel)⟩
set_option maxRecDepth 100000 in
theorem flX1_21 : pd_FL RX1 21 1 4 := ⟨_, _, _, rfl, by decide, pd_tb (i := 331) (by decide +kernel) (by decide +kernel)⟩
set_option maxRecDepth 100000 in
theorem flX1_26 : pd_FL RX1 26 1 5 := ⟨_, _, _, rfl, by decide, pd_tb (i := 332) (by decide +kernel) (by decide +kernel)⟩
set_option maxRecDepth 100000 in
theorem flX1_29 : pd_FL RX1 29 1 6 := ⟨_, _, _, rfl, by decide, pd_tb (i := 333) (by decide +kernel) (by decide +kernel)⟩
set_option maxRecDepth 100000 in
theorem flX1_47 : pd_FL RX1 47 1 7 := ⟨_, _, _, rfl, by decide, pd_tb (i := 334) (by decide +kernel) (by decide +kernel)⟩
set_option maxRecDepth 100000 in
theorem flX0_11 : pd_FL RX0 11 0 0 := ⟨_, _, _, rfl, by decide, pd_tb (i := 358) (by decide +kernel) (by decide +kernel)⟩
set_option maxRecDepth 100000 in
theorem flX0_15 : pd_FL RX0 15 0 1 := ⟨_, _, _, rfl, by decide, pd_tb (i := 359) (by decide +kernel) (by decide +kernel)⟩
set_option maxRecDepth 100000 in
theorem flX8_10 : pd_FL RX8 10 7 0 := ⟨_, _, _, rfl, by decide, pd_tb (i := 369) (by decide +kernel) (by decide +kernel)⟩
set_option maxRecDepth 100000 in
theorem flX8_26 : pd_FL RX8 26 7 1 := ⟨_, _, _, rfl, by decide, pd_tb (i := 370) (by decide +kernel) (by decide +kernel)⟩
set_option maxRecDepth 100000 in
theorem flX8_30 : pd_FL RX8 30 7 2 := ⟨_, _, _, rfl, by decide, pd_tb (i := 371) (by decide +kernel) (by decide +kernel)⟩
set_option maxRecDepth 100000 in
theorem flX8_37 : pd_FL RX8 37 7 3 := ⟨_, _, _, rfl, by decide, pd_tb (i := 372) (by decide +kernel) (by decide +kernel)⟩
set_option maxRecDepth 100000 in
theorem flX8_43 : pd_FL RX8 43 7 4 := ⟨_, _, _, rfl, by decide, pd_tb (i := 373) (by decide +kernel) (by decide +kernel)⟩
set_option maxRecDepth 100000 in
theorem flX8_165 : pd_FL RX8 165 7 5 := ⟨_, _, _, rfl, by decide, pd_tb (i := 374) (by decide +kernel) (by decide +kernel)⟩
set_option maxRecDepth 100000 in
theorem flX8_48 : pd_FL RX8 48 7 6 := ⟨_, _, _, rfl, by decide, pd_tb (i := 375) (by decide +kernel) (by decide +kernel)⟩
set_option maxRecDepth 100000 in
theorem flX8_52 : pd_FL RX8 52 7 7 := ⟨_, _, _, rfl, by decide, pd_tb (i := 376) (by decide +kernel) (by decide +kernel)⟩
set_option maxRecDepth 100000 in
theorem flX8_281 : pd_FL RX8 281 7 8 := ⟨_, _, _, rfl, by decide, pd_tb (i := 377) (by decide +kernel) (by decide +kernel)⟩
set_option maxRecDepth 100000 in
theorem flX8_284 : pd_FL RX8 284 7 9 := ⟨_, _, _, rfl, by decide, pd_tb (i := 378) (by decide +kernel) (by decide +kernel)⟩
set_option maxRecDepth 100000 in
theorem flX8_287 : pd_FL RX8 287 7 10 := ⟨_, _, _, rfl, by decide, pd_tb (i := 379) (by decide +kernel) (by decide +kernel)⟩
set_option maxRecDepth 100000 in
theorem flX9_48 : pd_FL RX9 48 8 0 := ⟨_, _, _, rfl, by decide, pd_tb (i := 1105) (by decide +kernel) (by decide +kernel)⟩
set_option maxRecDepth 100000 in
theorem flX9_9 : pd_FL RX9 9 8 1 := ⟨_, _, _, rfl, by decide, pd_tb (i := 1106) (by decide +kernel) (by decide +kernel)⟩
set_option maxRecDepth 100000 in
theorem flX9_51 : pd_FL RX9 51 8 2 := ⟨_, _, _, rfl, by decide, pd_tb (i := 1107) (by decide +kernel) (by decide +kernel)⟩
set_option maxRecDepth 100000 in
theorem flX9_54 : pd_FL RX9 54 8 3 := ⟨_, _, _, rfl, by decide, pd_tb (i := 1108) (by decide +kernel) (by decide +kernel)⟩
set_option maxRecDepth 100000 in
theorem flX9_57 : pd_FL RX9 57 8 4 := ⟨_, _, _, rfl, by decide, pd_tb (i := 1109) (by decide +kernel) (by decide +kernel)⟩
set_option maxRecDepth 100000 in
theorem flX9_13 : pd_FL RX9 13 8 5 := ⟨_, _, _, rfl, by decide, pd_tb (i := 1110) (by decide +kernel) (by decide +kernel)⟩
set_option maxRecDepth 100000 in
theorem flX9_64 : pd_FL RX9 64 8 6 := ⟨_, _, _, rfl, by decide, pd_tb (i := 1111) (by decide +kernel) (by decide +kernel)⟩
set_option maxRecDepth 100000 in
theorem flX9_67 : pd_FL RX9 67 8 7 := ⟨_, _, _, rfl, by decide, pd_tb (i := 1112) (by decide +kernel) (by decide +kernel)⟩
set_option maxRecDepth 100000 in
theorem flX9_17 : pd_FL RX9 17 8 8 := ⟨_, _, _, rfl, by decide, pd_tb (i := 1113) (by decide +kernel) (by decide +kernel)⟩
set_option maxRecDepth 100000 in
theorem flX9_20 : pd_FL RX9 20 8 9 := ⟨_, _, _, rfl, by decide, pd_tb (i := 1114) (by decide +kernel) (by decide +kernel)⟩
set_option maxRecDepth 100000 in
theorem flX9_23 : pd_FL RX9 23 8 10 := ⟨_, _, _, rfl, by decide, pd_tb (i := 1115) (by decide +kernel) (by decide +kernel)⟩
set_option maxRecDepth 100000 in
theorem flX9_28 : pd_FL RX9 28 8 11 := ⟨_, _, _, rfl, by decide, pd_tb (i := 1116) (by decide +kernel) (by decide +kernel)⟩
set_option maxRecDepth 100000 in
theorem flX9_235 : pd_FL RX9 235 8 12 := ⟨_, _, _, rfl, by decide, pd_tb (i := 1117) (by decide +kernel) (by decide +kernel)⟩
set_option maxRecDepth 100000 in
theorem flX9_127 : pd_FL RX9 127 8 13 := ⟨_, _, _, rfl, by decide, pd_tb (i := 1118) (by decide +kernel) (by decide +kernel)⟩
set_option maxRecDepth 100000 in
theorem flX9_158 : pd_FL RX9 158 8 14 := ⟨_, _, _, rfl, by decide, pd_tb (i := 1119) (by decide +kernel) (by decide +kernel)⟩
set_option maxRecDepth 100000 in
theorem flX9_177 : pd_FL RX9 177 8 15 := ⟨_, _, _, rfl, by decide, pd_tb (i := 1120) (by decide +kernel) (by decide +kernel)⟩
set_option maxRecDepth 100000 in
theorem flX9_31 : pd_FL RX9 31 8 16 := ⟨_, _, _, rfl, by decide, pd_tb (i := 1121) (by decide +kernel) (by decide +kernel)⟩
set_option maxRecDepth 100000 in
theorem flX9_34 : pd_FL RX9 34 8 17 := ⟨_, _, _, rfl, by decide, pd_tb (i := 1122) (by decide +kernel) (by decide +kernel)⟩
set_option maxRecDepth 100000 in
theorem flX9_37 : pd_FL RX9 37 8 18 := ⟨_, _, _, rfl, by decide, pd_tb (i := 1123) (by decide +kernel) (by decide +kernel)⟩
set_option maxRecDepth 100000 in
theorem flX9_228 : pd_FL RX9 228 8 19 := ⟨_, _, _, rfl, by decide, pd_tb (i := 1124) (by decide +kernel) (by decide +kernel)⟩
set_option maxRecDepth 100000 in
theorem flX9_40 : pd_FL RX9 40 8 20 := ⟨_, _, _, rfl, by decide, pd_tb (i := 1125) (by decide +kernel) (by decide +kernel)⟩
set_option maxRecDepth 100000 in
theorem hd_X8_init : pd_hd mi_X8_init ∈ pd_TB := pd_tb (i := 123) (by rfl) (by decide +kernel)
set_option maxRecDepth 100000 in
theorem in_X8_init : Cond.initialized mi_X8_init.1.cls ∈ pd_TB := pd_tb (i := 94) (by decide +kernel) (by decide +kernel)
theorem cb_X8_init : pd_CB mi_X8_init 0 := ⟨hd_X8_init, in_X8_init, by decide +kernel, by decide +kernel, by decide, rfl⟩
set_option maxRecDepth 100000 in
theorem im_X8_init : Cond.instanceMethod mi_X8_init.1 ∈ pd_TB := pd_tb (i := 122) (by decide +kernel) (by decide +kernel)
set_option maxRecDepth 100000 in
theorem mlL_71 : Cond.methodLink RL 71 mi_X8_init.1 ∈ pd_TB := pd_tb (i := 121) (by decide +kernel) (by decide +kernel)
set_option maxRecDepth 100000 in
theorem hd_X0_init : pd_hd mi_X0_init ∈ pd_TB := pd_tb (i := 356) (by rfl) (by decide +kernel)
set_option maxRecDepth 100000 in
theorem in_X0_init : Cond.initialized mi_X0_init.1.cls ∈ pd_TB := pd_tb (i := 101) (by decide +kernel) (by decide +kernel)
theorem cb_X0_init : pd_CB mi_X0_init 0 := ⟨hd_X0_init, in_X0_init, by decide +kernel, by decide +kernel, by decide, rfl⟩
set_option maxRecDepth 100000 in
theorem im_X0_init : Cond.instanceMethod mi_X0_init.1 ∈ pd_TB := pd_tb (i := 355) (by decide +kernel) (by decide +kernel)
set_option maxRecDepth 100000 in
theorem mlX8_36 : Cond.methodLink RX8 36 mi_X0_init.1 ∈ pd_TB := pd_tb (i := 354) (by decide +kernel) (by decide +kernel)
set_option maxRecDepth 100000 in
theorem hd_X8_feed : pd_hd mi_X8_feed ∈ pd_TB := pd_tb (i := 406) (by rfl) (by decide +kernel)
set_option maxRecDepth 100000 in
theorem in_X8_feed : Cond.initialized mi_X8_feed.1.cls ∈ pd_TB := pd_tb (i := 94) (by decide +kernel) (by decide +kernel)
theorem cb_X8_feed : pd_CB mi_X8_feed 5 := ⟨hd_X8_feed, in_X8_feed, by decide +kernel, by decide +kernel, by decide, rfl⟩
set_option maxRecDepth 100000 in
theorem im_X8_feed : Cond.instanceMethod mi_X8_feed.1 ∈ pd_TB := pd_tb (i := 404) (by decide +kernel) (by decide +kernel)
set_option maxRecDepth 100000 in
theorem se_X8_feed : Cond.selects mi_X8_feed.1.cls mi_X8_feed.1 mi_X8_feed.1 ∈ pd_TB := pd_tb (i := 405) (by decide +kernel) (by decide +kernel)
set_option maxRecDepth 100000 in
theorem mlL_75 : Cond.methodLink RL 75 mi_X8_feed.1 ∈ pd_TB := pd_tb (i := 403) (by decide +kernel) (by decide +kernel)
theorem cvL_75 : pd_CV RL 75 mi_X8_feed 5 7 := ⟨cb_X8_feed, mlL_75, im_X8_feed, se_X8_feed, _, rfl, rfl, by decide⟩
set_option maxRecDepth 100000 in
theorem hd_X5_hasRoom : pd_hd mi_X5_hasRoom ∈ pd_TB := pd_tb (i := 410) (by rfl) (by decide +kernel)
set_option maxRecDepth 100000 in
theorem in_X5_hasRoom : Cond.initialized mi_X5_hasRoom.1.cls ∈ pd_TB := pd_tb (i := 97) (by decide +kernel) (by decide +kernel)
theorem cb_X5_hasRoom : pd_CB mi_X5_hasRoom 0 := ⟨hd_X5_hasRoom, in_X5_hasRoom, by decide +kernel, by decide +kernel, by decide, rfl⟩
set_option maxRecDepth 100000 in
theorem im_X5_hasRoom : Cond.instanceMethod mi_X5_hasRoom.1 ∈ pd_TB := pd_tb (i := 408) (by decide +kernel) (by decide +kernel)
set_option maxRecDepth 100000 in
theorem se_X5_hasRoom : Cond.selects mi_X5_hasRoom.1.cls mi_X5_hasRoom.1 mi_X5_hasRoom.1 ∈ pd_TB := pd_tb (i := 409) (by decide +kernel) (by decide +kernel)
set_option maxRecDepth 100000 in
theorem mlX8_56 : Cond.methodLink RX8 56 mi_X5_hasRoom.1 ∈ pd_TB := pd_tb (i := 407) (by decide +kernel) (by decide +kernel)
theorem cvX8_56 : pd_CV RX8 56 mi_X5_hasRoom 0 4 := ⟨cb_X5_hasRoom, mlX8_56, im_X5_hasRoom, se_X5_hasRoom, _, rfl, rfl, by decide⟩
set_option maxRecDepth 100000 in
theorem hd_X5_put : pd_hd mi_X5_put ∈ pd_TB := pd_tb (i := 414) (by rfl) (by decide +kernel)
set_option maxRecDepth 100000 in
theorem in_X5_put : Cond.initialized mi_X5_put.1.cls ∈ pd_TB := pd_tb (i := 97) (by decide +kernel) (by decide +kernel)
theorem cb_X5_put : pd_CB mi_X5_put 1 := ⟨hd_X5_put, in_X5_put, by decide +kernel, by decide +kernel, by decide, rfl⟩
set_option maxRecDepth 100000 in
theorem im_X5_put : Cond.instanceMethod mi_X5_put.1 ∈ pd_TB := pd_tb (i := 412) (by decide +kernel) (by decide +kernel)
set_option maxRecDepth 100000 in
theorem se_X5_put : Cond.selects mi_X5_put.1.cls mi_X5_put.1 mi_X5_put.1 ∈ pd_TB := pd_tb (i := 413) (by decide +kernel) (by decide +kernel)
set_option maxRecDepth 100000 in
theorem mlX8_62 : Cond.methodLink RX8 62 mi_X5_put.1 ∈ pd_TB := pd_tb (i := 411) (by decide +kernel) (by decide +kernel)
theorem cvX8_62 : pd_CV RX8 62 mi_X5_put 1 4 := ⟨cb_X5_put, mlX8_62, im_X5_put, se_X5_put, _, rfl, rfl, by decide⟩
set_option maxRecDepth 100000 in
theorem hd_X8_fault : pd_hd mi_X8_fault ∈ pd_TB := pd_tb (i := 418) (by rfl) (by decide +kernel)
set_option maxRecDepth 100000 in
theorem in_X8_fault : Cond.initialized mi_X8_fault.1.cls ∈ pd_TB := pd_tb (i := 94) (by decide +kernel) (by decide +kernel)
theorem cb_X8_fault : pd_CB mi_X8_fault 0 := ⟨hd_X8_fault, in_X8_fault, by decide +kernel, by decide +kernel, by decide, rfl⟩
set_option maxRecDepth 100000 in
theorem im_X8_fault : Cond.instanceMethod mi_X8_fault.1 ∈ pd_TB := pd_tb (i := 416) (by decide +kernel) (by decide +kernel)
set_option maxRecDepth 100000 in
theorem se_X8_fault : Cond.selects mi_X8_fault.1.cls mi_X8_fault.1 mi_X8_fault.1 ∈ pd_TB := pd_tb (i := 417) (by decide +kernel) (by decide +kernel)
set_option maxRecDepth 100000 in
theorem mlL_90 : Cond.methodLink RL 90 mi_X8_fault.1 ∈ pd_TB := pd_tb (i := 415) (by decide +kernel) (by decide +kernel)
theorem cvL_90 : pd_CV RL 90 mi_X8_fault 0 7 := ⟨cb_X8_fault, mlL_90, im_X8_fault, se_X8_fault, _, rfl, rfl, by decide⟩
set_option maxRecDepth 100000 in
theorem hd_X8_undo : pd_hd mi_X8_undo ∈ pd_TB := pd_tb (i := 422) (by rfl) (by decide +kernel)
set_option maxRecDepth 100000 in
theorem in_X8_undo : Cond.initialized mi_X8_undo.1.cls ∈ pd_TB := pd_tb (i := 94) (by decide +kernel) (by decide +kernel)
theorem cb_X8_undo : pd_CB mi_X8_undo 0 := ⟨hd_X8_undo, in_X8_undo, by decide +kernel, by decide +kernel, by decide, rfl⟩
set_option maxRecDepth 100000 in
theorem im_X8_undo : Cond.instanceMethod mi_X8_undo.1 ∈ pd_TB := pd_tb (i := 420) (by decide +kernel) (by decide +kernel)
set_option maxRecDepth 100000 in
theorem se_X8_undo : Cond.selects mi_X8_undo.1.cls mi_X8_undo.1 mi_X8_undo.1 ∈ pd_TB := pd_tb (i := 421) (by decide +kernel) (by decide +kernel)
set_option maxRecDepth 100000 in
theorem mlL_109 : Cond.methodLink RL 109 mi_X8_undo.1 ∈ pd_TB := pd_tb (i := 419) (by decide +kernel) (by decide +kernel)
theorem cvL_109 : pd_CV RL 109 mi_X8_undo 0 7 := ⟨cb_X8_undo, mlL_109, im_X8_undo, se_X8_undo, _, rfl, rfl, by decide⟩
set_option maxRecDepth 100000 in
theorem hd_X1_judge : pd_hd mi_X1_judge ∈ pd_TB := pd_tb (i := 426) (by rfl) (by decide +kernel)
set_option maxRecDepth 100000 in
theorem in_X1_judge : Cond.initialized mi_X1_judge.1.cls ∈ pd_TB := pd_tb (i := 100) (by decide +kernel) (by decide +kernel)
theorem cb_X1_judge : pd_CB mi_X1_judge 1 := ⟨hd_X1_judge, in_X1_judge, by decide +kernel, by decide +kernel, by decide, rfl⟩
set_option maxRecDepth 100000 in
theorem im_X1_judge : Cond.instanceMethod mi_X1_judge.1 ∈ pd_TB := pd_tb (i := 424) (by decide +kernel) (by decide +kernel)
set_option maxRecDepth 100000 in
theorem se_X1_judge : Cond.selects mi_X1_judge.1.cls mi_X1_judge.1 mi_X1_judge.1 ∈ pd_TB := pd_tb (i := 425) (by decide +kernel) (by decide +kernel)
set_option maxRecDepth 100000 in
theorem mlX8_95 : Cond.methodLink RX8 95 mi_X1_judge.1 ∈ pd_TB := pd_tb (i := 423) (by decide +kernel) (by decide +kernel)
theorem cvX8_95 : pd_CV RX8 95 mi_X1_judge 1 1 := ⟨cb_X1_judge, mlX8_95, im_X1_judge, se_X1_judge, _, rfl, rfl, by decide⟩
set_option maxRecDepth 100000 in
theorem hd_J9_min_7cf53 : pd_hd mi_J9_min_7cf53 ∈ pd_TB := pd_tb (i := 429) (by rfl) (by decide +kernel)
set_option maxRecDepth 100000 in
theorem in_J9_min_7cf53 : Cond.initialized mi_J9_min_7cf53.1.cls ∈ pd_TB := pd_tb (i := 107) (by decide +kernel) (by decide +kernel)
theorem cb_J9_min_7cf53 : pd_CB mi_J9_min_7cf53 2 := ⟨hd_J9_min_7cf53, in_J9_min_7cf53, by decide +kernel, by decide +kernel, by decide, rfl⟩
set_option maxRecDepth 100000 in
theorem st_J9_min_7cf53 : Cond.static mi_J9_min_7cf53.1 ∈ pd_TB := pd_tb (i := 428) (by decide +kernel) (by decide +kernel)
set_option maxRecDepth 100000 in
theorem mlX1_38 : Cond.methodLink RX1 38 mi_J9_min_7cf53.1 ∈ pd_TB := pd_tb (i := 427) (by decide +kernel) (by decide +kernel)
theorem csX1_38 : pd_CS RX1 38 mi_J9_min_7cf53 2 := ⟨cb_J9_min_7cf53, mlX1_38, st_J9_min_7cf53⟩
set_option maxRecDepth 100000 in
theorem hd_J9_max_7cf53 : pd_hd mi_J9_max_7cf53 ∈ pd_TB := pd_tb (i := 432) (by rfl) (by decide +kernel)
set_option maxRecDepth 100000 in
theorem in_J9_max_7cf53 : Cond.initialized mi_J9_max_7cf53.1.cls ∈ pd_TB := pd_tb (i := 107) (by decide +kernel) (by decide +kernel)
theorem cb_J9_max_7cf53 : pd_CB mi_J9_max_7cf53 2 := ⟨hd_J9_max_7cf53, in_J9_max_7cf53, by decide +kernel, by decide +kernel, by decide, rfl⟩
set_option maxRecDepth 100000 in
theorem st_J9_max_7cf53 : Cond.static mi_J9_max_7cf53.1 ∈ pd_TB := pd_tb (i := 431) (by decide +kernel) (by decide +kernel)
set_option maxRecDepth 100000 in
theorem mlX1_44 : Cond.methodLink RX1 44 mi_J9_max_7cf53.1 ∈ pd_TB := pd_tb (i := 430) (by decide +kernel) (by decide +kernel)
theorem csX1_44 : pd_CS RX1 44 mi_J9_max_7cf53 2 := ⟨cb_J9_max_7cf53, mlX1_44, st_J9_max_7cf53⟩
set_option maxRecDepth 100000 in
theorem hd_X1_findVoters : pd_hd mi_X1_findVoters ∈ pd_TB := pd_tb (i := 436) (by rfl) (by decide +kernel)
set_option maxRecDepth 100000 in
theorem in_X1_findVoters : Cond.initialized mi_X1_findVoters.1.cls ∈ pd_TB := pd_tb (i := 100) (by decide +kernel) (by decide +kernel)
theorem cb_X1_findVoters : pd_CB mi_X1_findVoters 1 := ⟨hd_X1_findVoters, in_X1_findVoters, by decide +kernel, by decide +kernel, by decide, rfl⟩
set_option maxRecDepth 100000 in
theorem im_X1_findVoters : Cond.instanceMethod mi_X1_findVoters.1 ∈ pd_TB := pd_tb (i := 435) (by decide +kernel) (by decide +kernel)
set_option maxRecDepth 100000 in
theorem se_X1_findVoters : Cond.selects mi_X1_findVoters.1.cls mi_X1_findVoters.1 mi_X1_findVoters.1 ∈ pd_TB := pd_tb (i := 0) (by decide +kernel) (by decide +kernel)
set_option maxRecDepth 100000 in
theorem mlX1_48 : Cond.methodLink RX1 48 mi_X1_findVoters.1 ∈ pd_TB := pd_tb (i := 433) (by decide +kernel) (by decide +kernel)
theorem cvX1_48 : pd_CV RX1 48 mi_X1_findVoters 1 1 := ⟨cb_X1_findVoters, mlX1_48, im_X1_findVoters, se_X1_findVoters, _, rfl, rfl, by decide⟩
set_option maxRecDepth 100000 in
theorem hd_X3_voterWith : pd_hd mi_X3_voterWith ∈ pd_TB := pd_tb (i := 440) (by rfl) (by decide +kernel)
set_option maxRecDepth 100000 in
theorem in_X3_voterWith : Cond.initialized mi_X3_voterWith.1.cls ∈ pd_TB := pd_tb (i := 98) (by decide +kernel) (by decide +kernel)
theorem cb_X3_voterWith : pd_CB mi_X3_voterWith 2 := ⟨hd_X3_voterWith, in_X3_voterWith, by decide +kernel, by decide +kernel, by decide, rfl⟩
set_option maxRecDepth 100000 in
theorem im_X3_voterWith : Cond.instanceMethod mi_X3_voterWith.1 ∈ pd_TB := pd_tb (i := 438) (by decide +kernel) (by decide +kernel)
set_option maxRecDepth 100000 in
theorem se_X3_voterWith : Cond.selects mi_X3_voterWith.1.cls mi_X3_voterWith.1 mi_X3_voterWith.1 ∈ pd_TB := pd_tb (i := 439) (by decide +kernel) (by decide +kernel)
set_option maxRecDepth 100000 in
theorem mlX1_67 : Cond.methodLink RX1 67 mi_X3_voterWith.1 ∈ pd_TB := pd_tb (i := 437) (by decide +kernel) (by decide +kernel)
theorem cvX1_67 : pd_CV RX1 67 mi_X3_voterWith 2 2 := ⟨cb_X3_voterWith, mlX1_67, im_X3_voterWith, se_X3_voterWith, _, rfl, rfl, by decide⟩
set_option maxRecDepth 100000 in
theorem hd_X1_findWrongs : pd_hd mi_X1_findWrongs ∈ pd_TB := pd_tb (i := 444) (by rfl) (by decide +kernel)
set_option maxRecDepth 100000 in
theorem in_X1_findWrongs : Cond.initialized mi_X1_findWrongs.1.cls ∈ pd_TB := pd_tb (i := 100) (by decide +kernel) (by decide +kernel)
theorem cb_X1_findWrongs : pd_CB mi_X1_findWrongs 1 := ⟨hd_X1_findWrongs, in_X1_findWrongs, by decide +kernel, by decide +kernel, by decide, rfl⟩
set_option maxRecDepth 100000 in
theorem im_X1_findWrongs : Cond.instanceMethod mi_X1_findWrongs.1 ∈ pd_TB := pd_tb (i := 443) (by decide +kernel) (by decide +kernel)
set_option maxRecDepth 100000 in
theorem se_X1_findWrongs : Cond.selects mi_X1_findWrongs.1.cls mi_X1_findWrongs.1 mi_X1_findWrongs.1 ∈ pd_TB := pd_tb (i := 1) (by decide +kernel) (by decide +kernel)
set_option maxRecDepth 100000 in
theorem mlX1_52 : Cond.methodLink RX1 52 mi_X1_findWrongs.1 ∈ pd_TB := pd_tb (i := 441) (by decide +kernel) (by decide +kernel)
theorem cvX1_52 : pd_CV RX1 52 mi_X1_findWrongs 1 1 := ⟨cb_X1_findWrongs, mlX1_52, im_X1_findWrongs, se_X1_findWrongs, _, rfl, rfl, by decide⟩
set_option maxRecDepth 100000 in
theorem hd_J7_fill_53178 : pd_hd mi_J7_fill_53178 ∈ pd_TB := pd_tb (i := 447) (by rfl) (by decide +kernel)
set_option maxRecDepth 100000 in
theorem in_J7_fill_53178 : Cond.initialized mi_J7_fill_53178.1.cls ∈ pd_TB := pd_tb (i := 114) (by decide +kernel) (by decide +kernel)
theorem cb_J7_fill_53178 : pd_CB mi_J7_fill_53178 2 := ⟨hd_J7_fill_53178, in_J7_fill_53178, by decide +kernel, by decide +kernel, by decide, rfl⟩
set_option maxRecDepth 100000 in
theorem st_J7_fill_53178 : Cond.static mi_J7_fill_53178.1 ∈ pd_TB := pd_tb (i := 446) (by decide +kernel) (by decide +kernel)
set_option maxRecDepth 100000 in
theorem mlX1_73 : Cond.methodLink RX1 73 mi_J7_fill_53178.1 ∈ pd_TB := pd_tb (i := 445) (by decide +kernel) (by decide +kernel)
theorem csX1_73 : pd_CS RX1 73 mi_J7_fill_53178 2 := ⟨cb_J7_fill_53178, mlX1_73, st_J7_fill_53178⟩
set_option maxRecDepth 100000 in
theorem hd_X1_wrongOf : pd_hd mi_X1_wrongOf ∈ pd_TB := pd_tb (i := 451) (by rfl) (by decide +kernel)
set_option maxRecDepth 100000 in
theorem in_X1_wrongOf : Cond.initialized mi_X1_wrongOf.1.cls ∈ pd_TB := pd_tb (i := 100) (by decide +kernel) (by decide +kernel)
theorem cb_X1_wrongOf : pd_CB mi_X1_wrongOf 3 := ⟨hd_X1_wrongOf, in_X1_wrongOf, by decide +kernel, by decide +kernel, by decide, rfl⟩
set_option maxRecDepth 100000 in
theorem im_X1_wrongOf : Cond.instanceMethod mi_X1_wrongOf.1 ∈ pd_TB := pd_tb (i := 450) (by decide +kernel) (by decide +kernel)
set_option maxRecDepth 100000 in
theorem se_X1_wrongOf : Cond.selects mi_X1_wrongOf.1.cls mi_X1_wrongOf.1 mi_X1_wrongOf.1 ∈ pd_TB := pd_tb (i := 2) (by decide +kernel) (by decide +kernel)
set_option maxRecDepth 100000 in
theorem mlX1_79 : Cond.methodLink RX1 79 mi_X1_wrongOf.1 ∈ pd_TB := pd_tb (i := 448) (by decide +kernel) (by decide +kernel)
theorem cvX1_79 : pd_CV RX1 79 mi_X1_wrongOf 3 1 := ⟨cb_X1_wrongOf, mlX1_79, im_X1_wrongOf, se_X1_wrongOf, _, rfl, rfl, by decide⟩
set_option maxRecDepth 100000 in
theorem hd_X1_hasVoter : pd_hd mi_X1_hasVoter ∈ pd_TB := pd_tb (i := 455) (by rfl) (by decide +kernel)
set_option maxRecDepth 100000 in
theorem in_X1_hasVoter : Cond.initialized mi_X1_hasVoter.1.cls ∈ pd_TB := pd_tb (i := 100) (by decide +kernel) (by decide +kernel)
theorem cb_X1_hasVoter : pd_CB mi_X1_hasVoter 1 := ⟨hd_X1_hasVoter, in_X1_hasVoter, by decide +kernel, by decide +kernel, by decide, rfl⟩
set_option maxRecDepth 100000 in
theorem im_X1_hasVoter : Cond.instanceMethod mi_X1_hasVoter.1 ∈ pd_TB := pd_tb (i := 454) (by decide +kernel) (by decide +kernel)
set_option maxRecDepth 100000 in
theorem se_X1_hasVoter : Cond.selects mi_X1_hasVoter.1.cls mi_X1_hasVoter.1 mi_X1_hasVoter.1 ∈ pd_TB := pd_tb (i := 3) (by decide +kernel) (by decide +kernel)
set_option maxRecDepth 100000 in
theorem mlX1_83 : Cond.methodLink RX1 83 mi_X1_hasVoter.1 ∈ pd_TB := pd_tb (i := 452) (by decide +kernel) (by decide +kernel)
theorem cvX1_83 : pd_CV RX1 83 mi_X1_hasVoter 1 1 := ⟨cb_X1_hasVoter, mlX1_83, im_X1_hasVoter, se_X1_hasVoter, _, rfl, rfl, by decide⟩
set_option maxRecDepth 100000 in
theorem hd_X4_holds : pd_hd mi_X4_holds ∈ pd_TB := pd_tb (i := 459) (by rfl) (by decide +kernel)
set_option maxRecDepth 100000 in
theorem in_X4_holds : Cond.initialized mi_X4_holds.1.cls ∈ pd_TB := pd_tb (i := 99) (by decide +kernel) (by decide +kernel)
theorem cb_X4_holds : pd_CB mi_X4_holds 1 := ⟨hd_X4_holds, in_X4_holds, by decide +kernel, by decide +kernel, by decide, rfl⟩
set_option maxRecDepth 100000 in
theorem im_X4_holds : Cond.instanceMethod mi_X4_holds.1 ∈ pd_TB := pd_tb (i := 457) (by decide +kernel) (by decide +kernel)
set_option maxRecDepth 100000 in
theorem se_X4_holds : Cond.selects mi_X4_holds.1.cls mi_X4_holds.1 mi_X4_holds.1 ∈ pd_TB := pd_tb (i := 458) (by decide +kernel) (by decide +kernel)
set_option maxRecDepth 100000 in
theorem mlX1_103 : Cond.methodLink RX1 103 mi_X4_holds.1 ∈ pd_TB := pd_tb (i := 456) (by decide +kernel) (by decide +kernel)
theorem cvX1_103 : pd_CV RX1 103 mi_X4_holds 1 3 := ⟨cb_X4_holds, mlX1_103, im_X4_holds, se_X4_holds, _, rfl, rfl, by decide⟩
set_option maxRecDepth 100000 in
theorem hd_X4_compares : pd_hd mi_X4_compares ∈ pd_TB := pd_tb (i := 463) (by rfl) (by decide +kernel)
set_option maxRecDepth 100000 in
theorem in_X4_compares : Cond.initialized mi_X4_compares.1.cls ∈ pd_TB := pd_tb (i := 99) (by decide +kernel) (by decide +kernel)
theorem cb_X4_compares : pd_CB mi_X4_compares 2 := ⟨hd_X4_compares, in_X4_compares, by decide +kernel, by decide +kernel, by decide, rfl⟩
set_option maxRecDepth 100000 in
theorem st_X4_compares : Cond.static mi_X4_compares.1 ∈ pd_TB := pd_tb (i := 462) (by decide +kernel) (by decide +kernel)
set_option maxRecDepth 100000 in
theorem mlX4_31 : Cond.methodLink RX4 31 mi_X4_compares.1 ∈ pd_TB := pd_tb (i := 461) (by decide +kernel) (by decide +kernel)
theorem csX4_31 : pd_CS RX4 31 mi_X4_compares 2 := ⟨cb_X4_compares, mlX4_31, st_X4_compares⟩
set_option maxRecDepth 100000 in
theorem hd_X4_valueOf : pd_hd mi_X4_valueOf ∈ pd_TB := pd_tb (i := 466) (by rfl) (by decide +kernel)
set_option maxRecDepth 100000 in
theorem in_X4_valueOf : Cond.initialized mi_X4_valueOf.1.cls ∈ pd_TB := pd_tb (i := 99) (by decide +kernel) (by decide +kernel)
theorem cb_X4_valueOf : pd_CB mi_X4_valueOf 2 := ⟨hd_X4_valueOf, in_X4_valueOf, by decide +kernel, by decide +kernel, by decide, rfl⟩
set_option maxRecDepth 100000 in
theorem st_X4_valueOf : Cond.static mi_X4_valueOf.1 ∈ pd_TB := pd_tb (i := 465) (by decide +kernel) (by decide +kernel)
set_option maxRecDepth 100000 in
theorem mlX4_35 : Cond.methodLink RX4 35 mi_X4_valueOf.1 ∈ pd_TB := pd_tb (i := 464) (by decide +kernel) (by decide +kernel)
theorem csX4_35 : pd_CS RX4 35 mi_X4_valueOf 2 := ⟨cb_X4_valueOf, mlX4_35, st_X4_valueOf⟩
set_option maxRecDepth 100000 in
theorem hd_X1_strikeSheets : pd_hd mi_X1_strikeSheets ∈ pd_TB := pd_tb (i := 470) (by rfl) (by decide +kernel)
set_option maxRecDepth 100000 in
theorem in_X1_strikeSheets : Cond.initialized mi_X1_strikeSheets.1.cls ∈ pd_TB := pd_tb (i := 100) (by decide +kernel) (by decide +kernel)
theorem cb_X1_strikeSheets : pd_CB mi_X1_strikeSheets 1 := ⟨hd_X1_strikeSheets, in_X1_strikeSheets, by decide +kernel, by decide +kernel, by decide, rfl⟩
set_option maxRecDepth 100000 in
theorem im_X1_strikeSheets : Cond.instanceMethod mi_X1_strikeSheets.1 ∈ pd_TB := pd_tb (i := 469) (by decide +kernel) (by decide +kernel)
set_option maxRecDepth 100000 in
theorem se_X1_strikeSheets : Cond.selects mi_X1_strikeSheets.1.cls mi_X1_strikeSheets.1 mi_X1_strikeSheets.1 ∈ pd_TB := pd_tb (i := 4) (by decide +kernel) (by decide +kernel)
set_option maxRecDepth 100000 in
theorem mlX1_55 : Cond.methodLink RX1 55 mi_X1_strikeSheets.1 ∈ pd_TB := pd_tb (i := 467) (by decide +kernel) (by decide +kernel)
theorem cvX1_55 : pd_CV RX1 55 mi_X1_strikeSheets 1 1 := ⟨cb_X1_strikeSheets, mlX1_55, im_X1_strikeSheets, se_X1_strikeSheets, _, rfl, rfl, by decide⟩
set_option maxRecDepth 100000 in
theorem hd_X1_findDoubles : pd_hd mi_X1_findDoubles ∈ pd_TB := pd_tb (i := 474) (by rfl) (by decide +kernel)
set_option maxRecDepth 100000 in
theorem in_X1_findDoubles : Cond.initialized mi_X1_findDoubles.1.cls ∈ pd_TB := pd_tb (i := 100) (by decide +kernel) (by decide +kernel)
theorem cb_X1_findDoubles : pd_CB mi_X1_findDoubles 0 := ⟨hd_X1_findDoubles, in_X1_findDoubles, by decide +kernel, by decide +kernel, by decide, rfl⟩
set_option maxRecDepth 100000 in
theorem im_X1_findDoubles : Cond.instanceMethod mi_X1_findDoubles.1 ∈ pd_TB := pd_tb (i := 473) (by decide +kernel) (by decide +kernel)
set_option maxRecDepth 100000 in
theorem se_X1_findDoubles : Cond.selects mi_X1_findDoubles.1.cls mi_X1_findDoubles.1 mi_X1_findDoubles.1 ∈ pd_TB := pd_tb (i := 5) (by decide +kernel) (by decide +kernel)
set_option maxRecDepth 100000 in
theorem mlX1_58 : Cond.methodLink RX1 58 mi_X1_findDoubles.1 ∈ pd_TB := pd_tb (i := 471) (by decide +kernel) (by decide +kernel)
theorem cvX1_58 : pd_CV RX1 58 mi_X1_findDoubles 0 1 := ⟨cb_X1_findDoubles, mlX1_58, im_X1_findDoubles, se_X1_findDoubles, _, rfl, rfl, by decide⟩
set_option maxRecDepth 100000 in
theorem hd_X8_passes : pd_hd mi_X8_passes ∈ pd_TB := pd_tb (i := 478) (by rfl) (by decide +kernel)
set_option maxRecDepth 100000 in
theorem in_X8_passes : Cond.initialized mi_X8_passes.1.cls ∈ pd_TB := pd_tb (i := 94) (by decide +kernel) (by decide +kernel)
theorem cb_X8_passes : pd_CB mi_X8_passes 0 := ⟨hd_X8_passes, in_X8_passes, by decide +kernel, by decide +kernel, by decide, rfl⟩
set_option maxRecDepth 100000 in
theorem im_X8_passes : Cond.instanceMethod mi_X8_passes.1 ∈ pd_TB := pd_tb (i := 476) (by decide +kernel) (by decide +kernel)
set_option maxRecDepth 100000 in
theorem se_X8_passes : Cond.selects mi_X8_passes.1.cls mi_X8_passes.1 mi_X8_passes.1 ∈ pd_TB := pd_tb (i := 477) (by decide +kernel) (by decide +kernel)
set_option maxRecDepth 100000 in
theorem mlL_131 : Cond.methodLink RL 131 mi_X8_passes.1 ∈ pd_TB := pd_tb (i := 475) (by decide +kernel) (by decide +kernel)
theorem cvL_131 : pd_CV RL 131 mi_X8_passes 0 7 := ⟨cb_X8_passes, mlL_131, im_X8_passes, se_X8_passes, _, rfl, rfl, by decide⟩
set_option maxRecDepth 100000 in
theorem hd_X1_countJudged : pd_hd mi_X1_countJudged ∈ pd_TB := pd_tb (i := 482) (by rfl) (by decide +kernel)
set_option maxRecDepth 100000 in
theorem in_X1_countJudged : Cond.initialized mi_X1_countJudged.1.cls ∈ pd_TB := pd_tb (i := 100) (by decide +kernel) (by decide +kernel)
theorem cb_X1_countJudged : pd_CB mi_X1_countJudged 3 := ⟨hd_X1_countJudged, in_X1_countJudged, by decide +kernel, by decide +kernel, by decide, rfl⟩
set_option maxRecDepth 100000 in
theorem im_X1_countJudged : Cond.instanceMethod mi_X1_countJudged.1 ∈ pd_TB := pd_tb (i := 480) (by decide +kernel) (by decide +kernel)
set_option maxRecDepth 100000 in
theorem se_X1_countJudged : Cond.selects mi_X1_countJudged.1.cls mi_X1_countJudged.1 mi_X1_countJudged.1 ∈ pd_TB := pd_tb (i := 481) (by decide +kernel) (by decide +kernel)
set_option maxRecDepth 100000 in
theorem mlX8_210 : Cond.methodLink RX8 210 mi_X1_countJudged.1 ∈ pd_TB := pd_tb (i := 479) (by decide +kernel) (by decide +kernel)
theorem cvX8_210 : pd_CV RX8 210 mi_X1_countJudged 3 1 := ⟨cb_X1_countJudged, mlX8_210, im_X1_countJudged, se_X1_countJudged, _, rfl, rfl, by decide⟩
set_option maxRecDepth 100000 in
theorem hd_X8_fewest : pd_hd mi_X8_fewest ∈ pd_TB := pd_tb (i := 486) (by rfl) (by decide +kernel)
set_option maxRecDepth 100000 in
theorem in_X8_fewest : Cond.initialized mi_X8_fewest.1.cls ∈ pd_TB := pd_tb (i := 94) (by decide +kernel) (by decide +kernel)
theorem cb_X8_fewest : pd_CB mi_X8_fewest 0 := ⟨hd_X8_fewest, in_X8_fewest, by decide +kernel, by decide +kernel, by decide, rfl⟩
set_option maxRecDepth 100000 in
theorem im_X8_fewest : Cond.instanceMethod mi_X8_fewest.1 ∈ pd_TB := pd_tb (i := 484) (by decide +kernel) (by decide +kernel)
set_option maxRecDepth 100000 in
theorem se_X8_fewest : Cond.selects mi_X8_fewest.1.cls mi_X8_fewest.1 mi_X8_fewest.1 ∈ pd_TB := pd_tb (i := 485) (by decide +kernel) (by decide +kernel)
set_option maxRecDepth 100000 in
theorem mlL_147 : Cond.methodLink RL 147 mi_X8_fewest.1 ∈ pd_TB := pd_tb (i := 483) (by decide +kernel) (by decide +kernel)
theorem cvL_147 : pd_CV RL 147 mi_X8_fewest 0 7 := ⟨cb_X8_fewest, mlL_147, im_X8_fewest, se_X8_fewest, _, rfl, rfl, by decide⟩
set_option maxRecDepth 100000 in
theorem hd_X8_verdictOf : pd_hd mi_X8_verdictOf ∈ pd_TB := pd_tb (i := 490) (by rfl) (by decide +kernel)
set_option maxRecDepth 100000 in
theorem in_X8_verdictOf : Cond.initialized mi_X8_verdictOf.1.cls ∈ pd_TB := pd_tb (i := 94) (by decide +kernel) (by decide +kernel)
theorem cb_X8_verdictOf : pd_CB mi_X8_verdictOf 2 := ⟨hd_X8_verdictOf, in_X8_verdictOf, by decide +kernel, by decide +kernel, by decide, rfl⟩
set_option maxRecDepth 100000 in
theorem im_X8_verdictOf : Cond.instanceMethod mi_X8_verdictOf.1 ∈ pd_TB := pd_tb (i := 489) (by decide +kernel) (by decide +kernel)
set_option maxRecDepth 100000 in
theorem se_X8_verdictOf : Cond.selects mi_X8_verdictOf.1.cls mi_X8_verdictOf.1 mi_X8_verdictOf.1 ∈ pd_TB := pd_tb (i := 6) (by decide +kernel) (by decide +kernel)
set_option maxRecDepth 100000 in
theorem mlX8_242 : Cond.methodLink RX8 242 mi_X8_verdictOf.1 ∈ pd_TB := pd_tb (i := 487) (by decide +kernel) (by decide +kernel)
theorem cvX8_242 : pd_CV RX8 242 mi_X8_verdictOf 2 7 := ⟨cb_X8_verdictOf, mlX8_242, im_X8_verdictOf, se_X8_verdictOf, _, rfl, rfl, by decide⟩
set_option maxRecDepth 100000 in
theorem hd_X0_lowBound : pd_hd mi_X0_lowBound ∈ pd_TB := pd_tb (i := 494) (by rfl) (by decide +kernel)
set_option maxRecDepth 100000 in
theorem in_X0_lowBound : Cond.initialized mi_X0_lowBound.1.cls ∈ pd_TB := pd_tb (i := 101) (by decide +kernel) (by decide +kernel)
theorem cb_X0_lowBound : pd_CB mi_X0_lowBound 4 := ⟨hd_X0_lowBound, in_X0_lowBound, by decide +kernel, by decide +kernel, by decide, rfl⟩
set_option maxRecDepth 100000 in
theorem im_X0_lowBound : Cond.instanceMethod mi_X0_lowBound.1 ∈ pd_TB := pd_tb (i := 492) (by decide +kernel) (by decide +kernel)
set_option maxRecDepth 100000 in
theorem se_X0_lowBound : Cond.selects mi_X0_lowBound.1.cls mi_X0_lowBound.1 mi_X0_lowBound.1 ∈ pd_TB := pd_tb (i := 493) (by decide +kernel) (by decide +kernel)
set_option maxRecDepth 100000 in
theorem mlX8_235 : Cond.methodLink RX8 235 mi_X0_lowBound.1 ∈ pd_TB := pd_tb (i := 491) (by decide +kernel) (by decide +kernel)
theorem cvX8_235 : pd_CV RX8 235 mi_X0_lowBound 4 0 := ⟨cb_X0_lowBound, mlX8_235, im_X0_lowBound, se_X0_lowBound, _, rfl, rfl, by decide⟩
set_option maxRecDepth 100000 in
theorem hd_X0_choose : pd_hd mi_X0_choose ∈ pd_TB := pd_tb (i := 498) (by rfl) (by decide +kernel)
set_option maxRecDepth 100000 in
theorem in_X0_choose : Cond.initialized mi_X0_choose.1.cls ∈ pd_TB := pd_tb (i := 101) (by decide +kernel) (by decide +kernel)
theorem cb_X0_choose : pd_CB mi_X0_choose 2 := ⟨hd_X0_choose, in_X0_choose, by decide +kernel, by decide +kernel, by decide, rfl⟩
set_option maxRecDepth 100000 in
theorem im_X0_choose : Cond.instanceMethod mi_X0_choose.1 ∈ pd_TB := pd_tb (i := 496) (by decide +kernel) (by decide +kernel)
set_option maxRecDepth 100000 in
theorem se_X0_choose : Cond.selects mi_X0_choose.1.cls mi_X0_choose.1 mi_X0_choose.1 ∈ pd_TB := pd_tb (i := 497) (by decide +kernel) (by decide +kernel)
set_option maxRecDepth 100000 in
theorem mlX0_18 : Cond.methodLink RX0 18 mi_X0_choose.1 ∈ pd_TB := pd_tb (i := 495) (by decide +kernel) (by decide +kernel)
theorem cvX0_18 : pd_CV RX0 18 mi_X0_choose 2 0 := ⟨cb_X0_choose, mlX0_18, im_X0_choose, se_X0_choose, _, rfl, rfl, by decide⟩
set_option maxRecDepth 100000 in
theorem hd_X0_waysWithMarked : pd_hd mi_X0_waysWithMarked ∈ pd_TB := pd_tb (i := 503) (by rfl) (by decide +kernel)
set_option maxRecDepth 100000 in
theorem in_X0_waysWithMarked : Cond.initialized mi_X0_waysWithMarked.1.cls ∈ pd_TB := pd_tb (i := 101) (by decide +kernel) (by decide +kernel)
theorem cb_X0_waysWithMarked : pd_CB mi_X0_waysWithMarked 5 := ⟨hd_X0_waysWithMarked, in_X0_waysWithMarked, by decide +kernel, by decide +kernel, by decide, rfl⟩
set_option maxRecDepth 100000 in
theorem im_X0_waysWithMarked : Cond.instanceMethod mi_X0_waysWithMarked.1 ∈ pd_TB := pd_tb (i := 502) (by decide +kernel) (by decide +kernel)
set_option maxRecDepth 100000 in
theorem se_X0_waysWithMarked : Cond.selects mi_X0_waysWithMarked.1.cls mi_X0_waysWithMarked.1 mi_X0_waysWithMarked.1 ∈ pd_TB := pd_tb (i := 7) (by decide +kernel) (by decide +kernel)
set_option maxRecDepth 100000 in
theorem mlX0_24 : Cond.methodLink RX0 24 mi_X0_waysWithMarked.1 ∈ pd_TB := pd_tb (i := 500) (by decide +kernel) (by decide +kernel)
theorem cvX0_24 : pd_CV RX0 24 mi_X0_waysWithMarked 5 0 := ⟨cb_X0_waysWithMarked, mlX0_24, im_X0_waysWithMarked, se_X0_waysWithMarked, _, rfl, rfl, by decide⟩
set_option maxRecDepth 100000 in
theorem hd_X0_highBound : pd_hd mi_X0_highBound ∈ pd_TB := pd_tb (i := 507) (by rfl) (by decide +kernel)
set_option maxRecDepth 100000 in
theorem in_X0_highBound : Cond.initialized mi_X0_highBound.1.cls ∈ pd_TB := pd_tb (i := 101) (by decide +kernel) (by decide +kernel)
theorem cb_X0_highBound : pd_CB mi_X0_highBound 4 := ⟨hd_X0_highBound, in_X0_highBound, by decide +kernel, by decide +kernel, by decide, rfl⟩
set_option maxRecDepth 100000 in
theorem im_X0_highBound : Cond.instanceMethod mi_X0_highBound.1 ∈ pd_TB := pd_tb (i := 505) (by decide +kernel) (by decide +kernel)
set_option maxRecDepth 100000 in
theorem se_X0_highBound : Cond.selects mi_X0_highBound.1.cls mi_X0_highBound.1 mi_X0_highBound.1 ∈ pd_TB := pd_tb (i := 506) (by decide +kernel) (by decide +kernel)
set_option maxRecDepth 100000 in
theorem mlX8_239 : Cond.methodLink RX8 239 mi_X0_highBound.1 ∈ pd_TB := pd_tb (i := 504) (by decide +kernel) (by decide +kernel)
theorem cvX8_239 : pd_CV RX8 239 mi_X0_highBound 4 0 := ⟨cb_X0_highBound, mlX8_239, im_X0_highBound, se_X0_highBound, _, rfl, rfl, by decide⟩
set_option maxRecDepth 100000 in
theorem hd_X8_print : pd_hd mi_X8_print ∈ pd_TB := pd_tb (i := 511) (by rfl) (by decide +kernel)
set_option maxRecDepth 100000 in
theorem in_X8_print : Cond.initialized mi_X8_print.1.cls ∈ pd_TB := pd_tb (i := 94) (by decide +kernel) (by decide +kernel)
theorem cb_X8_print : pd_CB mi_X8_print 0 := ⟨hd_X8_print, in_X8_print, by decide +kernel, by decide +kernel, by decide, rfl⟩
set_option maxRecDepth 100000 in
theorem im_X8_print : Cond.instanceMethod mi_X8_print.1 ∈ pd_TB := pd_tb (i := 509) (by decide +kernel) (by decide +kernel)
set_option maxRecDepth 100000 in
theorem se_X8_print : Cond.selects mi_X8_print.1.cls mi_X8_print.1 mi_X8_print.1 ∈ pd_TB := pd_tb (i := 510) (by decide +kernel) (by decide +kernel)
set_option maxRecDepth 100000 in
theorem mlL_157 : Cond.methodLink RL 157 mi_X8_print.1 ∈ pd_TB := pd_tb (i := 508) (by decide +kernel) (by decide +kernel)
theorem cvL_157 : pd_CV RL 157 mi_X8_print 0 7 := ⟨cb_X8_print, mlL_157, im_X8_print, se_X8_print, _, rfl, rfl, by decide⟩
set_option maxRecDepth 100000 in
theorem hd_X8_status : pd_hd mi_X8_status ∈ pd_TB := pd_tb (i := 516) (by rfl) (by decide +kernel)
set_option maxRecDepth 100000 in
theorem in_X8_status : Cond.initialized mi_X8_status.1.cls ∈ pd_TB := pd_tb (i := 94) (by decide +kernel) (by decide +kernel)
theorem cb_X8_status : pd_CB mi_X8_status 1 := ⟨hd_X8_status, in_X8_status, by decide +kernel, by decide +kernel, by decide, rfl⟩
set_option maxRecDepth 100000 in
theorem im_X8_status : Cond.instanceMethod mi_X8_status.1 ∈ pd_TB := pd_tb (i := 514) (by decide +kernel) (by decide +kernel)
set_option maxRecDepth 100000 in
theorem se_X8_status : Cond.selects mi_X8_status.1.cls mi_X8_status.1 mi_X8_status.1 ∈ pd_TB := pd_tb (i := 515) (by decide +kernel) (by decide +kernel)
set_option maxRecDepth 100000 in
theorem mlL_162 : Cond.methodLink RL 162 mi_X8_status.1 ∈ pd_TB := pd_tb (i := 513) (by decide +kernel) (by decide +kernel)
theorem cvL_162 : pd_CV RL 162 mi_X8_status 1 7 := ⟨cb_X8_status, mlL_162, im_X8_status, se_X8_status, _, rfl, rfl, by decide⟩
set_option maxRecDepth 100000 in
theorem hd_L_text : pd_hd mi_L_text ∈ pd_TB := pd_tb (i := 519) (by rfl) (by decide +kernel)
set_option maxRecDepth 100000 in
theorem in_L_text : Cond.initialized mi_L_text.1.cls ∈ pd_TB := pd_tb (i := 93) (by decide +kernel) (by decide +kernel)
set_option maxRecDepth 100000 in
theorem st_L_text : Cond.static mi_L_text.1 ∈ pd_TB := pd_tb (i := 518) (by decide +kernel) (by decide +kernel)
set_option maxRecDepth 100000 in
theorem mlL_80 : Cond.methodLink RL 80 mi_L_text.1 ∈ pd_TB := pd_tb (i := 517) (by decide +kernel) (by decide +kernel)
set_option maxRecDepth 100000 in
theorem hd_X8_text : pd_hd mi_X8_text ∈ pd_TB := pd_tb (i := 524) (by rfl) (by decide +kernel)
set_option maxRecDepth 100000 in
theorem in_X8_text : Cond.initialized mi_X8_text.1.cls ∈ pd_TB := pd_tb (i := 94) (by decide +kernel) (by decide +kernel)
theorem cb_X8_text : pd_CB mi_X8_text 1 := ⟨hd_X8_text, in_X8_text, by decide +kernel, by decide +kernel, by decide, rfl⟩
set_option maxRecDepth 100000 in
theorem im_X8_text : Cond.instanceMethod mi_X8_text.1 ∈ pd_TB := pd_tb (i := 522) (by decide +kernel) (by decide +kernel)
set_option maxRecDepth 100000 in
theorem se_X8_text : Cond.selects mi_X8_text.1.cls mi_X8_text.1 mi_X8_text.1 ∈ pd_TB := pd_tb (i := 523) (by decide +kernel) (by decide +kernel)
set_option maxRecDepth 100000 in
theorem mlL_7 : Cond.methodLink RL 7 mi_X8_text.1 ∈ pd_TB := pd_tb (i := 521) (by decide +kernel) (by decide +kernel)
theorem cvL_7 : pd_CV RL 7 mi_X8_text 1 7 := ⟨cb_X8_text, mlL_7, im_X8_text, se_X8_text, _, rfl, rfl, by decide⟩
set_option maxRecDepth 100000 in
theorem hd_X8_isFrom : pd_hd mi_X8_isFrom ∈ pd_TB := pd_tb (i := 527) (by rfl) (by decide +kernel)
set_option maxRecDepth 100000 in
theorem in_X8_isFrom : Cond.initialized mi_X8_isFrom.1.cls ∈ pd_TB := pd_tb (i := 94) (by decide +kernel) (by decide +kernel)
theorem cb_X8_isFrom : pd_CB mi_X8_isFrom 3 := ⟨hd_X8_isFrom, in_X8_isFrom, by decide +kernel, by decide +kernel, by decide, rfl⟩
set_option maxRecDepth 100000 in
theorem st_X8_isFrom : Cond.static mi_X8_isFrom.1 ∈ pd_TB := pd_tb (i := 526) (by decide +kernel) (by decide +kernel)
set_option maxRecDepth 100000 in
theorem mlX8_69 : Cond.methodLink RX8 69 mi_X8_isFrom.1 ∈ pd_TB := pd_tb (i := 525) (by decide +kernel) (by decide +kernel)
theorem csX8_69 : pd_CS RX8 69 mi_X8_isFrom 3 := ⟨cb_X8_isFrom, mlX8_69, st_X8_isFrom⟩
set_option maxRecDepth 100000 in
theorem hd_X8_requireArgument : pd_hd mi_X8_requireArgument ∈ pd_TB := pd_tb (i := 531) (by rfl) (by decide +kernel)
set_option maxRecDepth 100000 in
theorem in_X8_requireArgument : Cond.initialized mi_X8_requireArgument.1.cls ∈ pd_TB := pd_tb (i := 94) (by decide +kernel) (by decide +kernel)
theorem cb_X8_requireArgument : pd_CB mi_X8_requireArgument 1 := ⟨hd_X8_requireArgument, in_X8_requireArgument, by decide +kernel, by decide +kernel, by decide, rfl⟩
set_option maxRecDepth 100000 in
theorem im_X8_requireArgument : Cond.instanceMethod mi_X8_requireArgument.1 ∈ pd_TB := pd_tb (i := 530) (by decide +kernel) (by decide +kernel)
set_option maxRecDepth 100000 in
theorem se_X8_requireArgument : Cond.selects mi_X8_requireArgument.1.cls mi_X8_requireArgument.1 mi_X8_requireArgument.1 ∈ pd_TB := pd_tb (i := 8) (by decide +kernel) (by decide +kernel)
set_option maxRecDepth 100000 in
theorem mlX8_73 : Cond.methodLink RX8 73 mi_X8_requireArgument.1 ∈ pd_TB := pd_tb (i := 528) (by decide +kernel) (by decide +kernel)
theorem cvX8_73 : pd_CV RX8 73 mi_X8_requireArgument 1 7 := ⟨cb_X8_requireArgument, mlX8_73, im_X8_requireArgument, se_X8_requireArgument, _, rfl, rfl, by decide⟩
set_option maxRecDepth 100000 in
theorem hd_X6_read : pd_hd mi_X6_read ∈ pd_TB := pd_tb (i := 602) (by rfl) (by decide +kernel)
set_option maxRecDepth 100000 in
theorem in_X6_read : Cond.initialized mi_X6_read.1.cls ∈ pd_TB := pd_tb (i := 95) (by decide +kernel) (by decide +kernel)
theorem cb_X6_read : pd_CB mi_X6_read 1 := ⟨hd_X6_read, in_X6_read, by decide +kernel, by decide +kernel, by decide, rfl⟩
set_option maxRecDepth 100000 in
theorem im_X6_read : Cond.instanceMethod mi_X6_read.1 ∈ pd_TB := pd_tb (i := 600) (by decide +kernel) (by decide +kernel)
set_option maxRecDepth 100000 in
theorem se_X6_read : Cond.selects mi_X6_read.1.cls mi_X6_read.1 mi_X6_read.1 ∈ pd_TB := pd_tb (i := 601) (by decide +kernel) (by decide +kernel)
set_option maxRecDepth 100000 in
theorem mlX8_77 : Cond.methodLink RX8 77 mi_X6_read.1 ∈ pd_TB := pd_tb (i := 599) (by decide +kernel) (by decide +kernel)
theorem cvX8_77 : pd_CV RX8 77 mi_X6_read 1 5 := ⟨cb_X6_read, mlX8_77, im_X6_read, se_X6_read, _, rfl, rfl, by decide⟩
set_option maxRecDepth 100000 in
theorem hd_X7_scan : pd_hd mi_X7_scan ∈ pd_TB := pd_tb (i := 606) (by rfl) (by decide +kernel)
set_option maxRecDepth 100000 in
theorem in_X7_scan : Cond.initialized mi_X7_scan.1.cls ∈ pd_TB := pd_tb (i := 96) (by decide +kernel) (by decide +kernel)
theorem cb_X7_scan : pd_CB mi_X7_scan 1 := ⟨hd_X7_scan, in_X7_scan, by decide +kernel, by decide +kernel, by decide, rfl⟩
set_option maxRecDepth 100000 in
theorem im_X7_scan : Cond.instanceMethod mi_X7_scan.1 ∈ pd_TB := pd_tb (i := 604) (by decide +kernel) (by decide +kernel)
set_option maxRecDepth 100000 in
theorem se_X7_scan : Cond.selects mi_X7_scan.1.cls mi_X7_scan.1 mi_X7_scan.1 ∈ pd_TB := pd_tb (i := 605) (by decide +kernel) (by decide +kernel)
set_option maxRecDepth 100000 in
theorem mlX6_25 : Cond.methodLink RX6 25 mi_X7_scan.1 ∈ pd_TB := pd_tb (i := 603) (by decide +kernel) (by decide +kernel)
theorem cvX6_25 : pd_CV RX6 25 mi_X7_scan 1 6 := ⟨cb_X7_scan, mlX6_25, im_X7_scan, se_X7_scan, _, rfl, rfl, by decide⟩
set_option maxRecDepth 100000 in
theorem mlX7_28 : Cond.methodLink RX7 28 mi_J9_min_7cf53.1 ∈ pd_TB := pd_tb (i := 607) (by decide +kernel) (by decide +kernel)
theorem csX7_28 : pd_CS RX7 28 mi_J9_min_7cf53 2 := ⟨cb_J9_min_7cf53, mlX7_28, st_J9_min_7cf53⟩
set_option maxRecDepth 100000 in
theorem mlX7_34 : Cond.methodLink RX7 34 mi_J9_max_7cf53.1 ∈ pd_TB := pd_tb (i := 608) (by decide +kernel) (by decide +kernel)
theorem csX7_34 : pd_CS RX7 34 mi_J9_max_7cf53 2 := ⟨cb_J9_max_7cf53, mlX7_34, st_J9_max_7cf53⟩
set_option maxRecDepth 100000 in
theorem hd_X7_isLetter : pd_hd mi_X7_isLetter ∈ pd_TB := pd_tb (i := 612) (by rfl) (by decide +kernel)
set_option maxRecDepth 100000 in
theorem in_X7_isLetter : Cond.initialized mi_X7_isLetter.1.cls ∈ pd_TB := pd_tb (i := 96) (by decide +kernel) (by decide +kernel)
theorem cb_X7_isLetter : pd_CB mi_X7_isLetter 1 := ⟨hd_X7_isLetter, in_X7_isLetter, by decide +kernel, by decide +kernel, by decide, rfl⟩
set_option maxRecDepth 100000 in
theorem im_X7_isLetter : Cond.instanceMethod mi_X7_isLetter.1 ∈ pd_TB := pd_tb (i := 611) (by decide +kernel) (by decide +kernel)
set_option maxRecDepth 100000 in
theorem se_X7_isLetter : Cond.selects mi_X7_isLetter.1.cls mi_X7_isLetter.1 mi_X7_isLetter.1 ∈ pd_TB := pd_tb (i := 10) (by decide +kernel) (by decide +kernel)
set_option maxRecDepth 100000 in
theorem mlX7_44 : Cond.methodLink RX7 44 mi_X7_isLetter.1 ∈ pd_TB := pd_tb (i := 609) (by decide +kernel) (by decide +kernel)
theorem cvX7_44 : pd_CV RX7 44 mi_X7_isLetter 1 6 := ⟨cb_X7_isLetter, mlX7_44, im_X7_isLetter, se_X7_isLetter, _, rfl, rfl, by decide⟩
set_option maxRecDepth 100000 in
theorem hd_X7_byteAt : pd_hd mi_X7_byteAt ∈ pd_TB := pd_tb (i := 616) (by rfl) (by decide +kernel)
set_option maxRecDepth 100000 in
theorem in_X7_byteAt : Cond.initialized mi_X7_byteAt.1.cls ∈ pd_TB := pd_tb (i := 96) (by decide +kernel) (by decide +kernel)
theorem cb_X7_byteAt : pd_CB mi_X7_byteAt 1 := ⟨hd_X7_byteAt, in_X7_byteAt, by decide +kernel, by decide +kernel, by decide, rfl⟩
set_option maxRecDepth 100000 in
theorem im_X7_byteAt : Cond.instanceMethod mi_X7_byteAt.1 ∈ pd_TB := pd_tb (i := 615) (by decide +kernel) (by decide +kernel)
set_option maxRecDepth 100000 in
theorem se_X7_byteAt : Cond.selects mi_X7_byteAt.1.cls mi_X7_byteAt.1 mi_X7_byteAt.1 ∈ pd_TB := pd_tb (i := 11) (by decide +kernel) (by decide +kernel)
set_option maxRecDepth 100000 in
theorem mlX7_65 : Cond.methodLink RX7 65 mi_X7_byteAt.1 ∈ pd_TB := pd_tb (i := 613) (by decide +kernel) (by decide +kernel)
theorem cvX7_65 : pd_CV RX7 65 mi_X7_byteAt 1 6 := ⟨cb_X7_byteAt, mlX7_65, im_X7_byteAt, se_X7_byteAt, _, rfl, rfl, by decide⟩
set_option maxRecDepth 100000 in
theorem hd_X7_kindOfWord : pd_hd mi_X7_kindOfWord ∈ pd_TB := pd_tb (i := 620) (by rfl) (by decide +kernel)
set_option maxRecDepth 100000 in
theorem in_X7_kindOfWord : Cond.initialized mi_X7_kindOfWord.1.cls ∈ pd_TB := pd_tb (i := 96) (by decide +kernel) (by decide +kernel)
theorem cb_X7_kindOfWord : pd_CB mi_X7_kindOfWord 1 := ⟨hd_X7_kindOfWord, in_X7_kindOfWord, by decide +kernel, by decide +kernel, by decide, rfl⟩
set_option maxRecDepth 100000 in
theorem im_X7_kindOfWord : Cond.instanceMethod mi_X7_kindOfWord.1 ∈ pd_TB := pd_tb (i := 619) (by decide +kernel) (by decide +kernel)
set_option maxRecDepth 100000 in
theorem se_X7_kindOfWord : Cond.selects mi_X7_kindOfWord.1.cls mi_X7_kindOfWord.1 mi_X7_kindOfWord.1 ∈ pd_TB := pd_tb (i := 12) (by decide +kernel) (by decide +kernel)
set_option maxRecDepth 100000 in
theorem mlX7_48 : Cond.methodLink RX7 48 mi_X7_kindOfWord.1 ∈ pd_TB := pd_tb (i := 617) (by decide +kernel) (by decide +kernel)
theorem cvX7_48 : pd_CV RX7 48 mi_X7_kindOfWord 1 6 := ⟨cb_X7_kindOfWord, mlX7_48, im_X7_kindOfWord, se_X7_kindOfWord, _, rfl, rfl, by decide⟩
set_option maxRecDepth 100000 in
theorem hd_J0_length_8abf5 : pd_hd mi_J0_length_8abf5 ∈ pd_TB := pd_tb (i := 625) (by rfl) (by decide +kernel)
set_option maxRecDepth 100000 in
theorem in_J0_length_8abf5 : Cond.initialized mi_J0_length_8abf5.1.cls ∈ pd_TB := pd_tb (i := 108) (by decide +kernel) (by decide +kernel)
theorem cb_J0_length_8abf5 : pd_CB mi_J0_length_8abf5 0 := ⟨hd_J0_length_8abf5, in_J0_length_8abf5, by decide +kernel, by decide +kernel, by decide, rfl⟩
set_option maxRecDepth 100000 in
theorem im_J0_length_8abf5 : Cond.instanceMethod mi_J0_length_8abf5.1 ∈ pd_TB := pd_tb (i := 623) (by decide +kernel) (by decide +kernel)
set_option maxRecDepth 100000 in
theorem se_J0_length_8abf5 : Cond.selects mi_J0_length_8abf5.1.cls mi_J0_length_8abf5.1 mi_J0_length_8abf5.1 ∈ pd_TB := pd_tb (i := 624) (by decide +kernel) (by decide +kernel)
set_option maxRecDepth 100000 in
theorem mlX7_70 : Cond.methodLink RX7 70 mi_J0_length_8abf5.1 ∈ pd_TB := pd_tb (i := 622) (by decide +kernel) (by decide +kernel)
set_option maxRecDepth 100000 in
theorem hd_J0_coder_7d493 : pd_hd mi_J0_coder_7d493 ∈ pd_TB := pd_tb (i := 629) (by rfl) (by decide +kernel)
set_option maxRecDepth 100000 in
theorem in_J0_coder_7d493 : Cond.initialized mi_J0_coder_7d493.1.cls ∈ pd_TB := pd_tb (i := 108) (by decide +kernel) (by decide +kernel)
theorem cb_J0_coder_7d493 : pd_CB mi_J0_coder_7d493 0 := ⟨hd_J0_coder_7d493, in_J0_coder_7d493, by decide +kernel, by decide +kernel, by decide, rfl⟩
set_option maxRecDepth 100000 in
theorem im_J0_coder_7d493 : Cond.instanceMethod mi_J0_coder_7d493.1 ∈ pd_TB := pd_tb (i := 627) (by decide +kernel) (by decide +kernel)
set_option maxRecDepth 100000 in
theorem se_J0_coder_7d493 : Cond.selects mi_J0_coder_7d493.1.cls mi_J0_coder_7d493.1 mi_J0_coder_7d493.1 ∈ pd_TB := pd_tb (i := 628) (by decide +kernel) (by decide +kernel)
set_option maxRecDepth 100000 in
theorem mlJ0_335 : Cond.methodLink RJ0 335 mi_J0_coder_7d493.1 ∈ pd_TB := pd_tb (i := 626) (by decide +kernel) (by decide +kernel)
set_option maxRecDepth 100000 in
theorem hd_J0_charAt_5068e : pd_hd mi_J0_charAt_5068e ∈ pd_TB := pd_tb (i := 635) (by rfl) (by decide +kernel)
set_option maxRecDepth 100000 in
theorem in_J0_charAt_5068e : Cond.initialized mi_J0_charAt_5068e.1.cls ∈ pd_TB := pd_tb (i := 108) (by decide +kernel) (by decide +kernel)
theorem cb_J0_charAt_5068e : pd_CB mi_J0_charAt_5068e 1 := ⟨hd_J0_charAt_5068e, in_J0_charAt_5068e, by decide +kernel, by decide +kernel, by decide, rfl⟩
set_option maxRecDepth 100000 in
theorem im_J0_charAt_5068e : Cond.instanceMethod mi_J0_charAt_5068e.1 ∈ pd_TB := pd_tb (i := 633) (by decide +kernel) (by decide +kernel)
set_option maxRecDepth 100000 in
theorem se_J0_charAt_5068e : Cond.selects mi_J0_charAt_5068e.1.cls mi_J0_charAt_5068e.1 mi_J0_charAt_5068e.1 ∈ pd_TB := pd_tb (i := 634) (by decide +kernel) (by decide +kernel)
set_option maxRecDepth 100000 in
theorem mlX7_75 : Cond.methodLink RX7 75 mi_J0_charAt_5068e.1 ∈ pd_TB := pd_tb (i := 632) (by decide +kernel) (by decide +kernel)
set_option maxRecDepth 100000 in
theorem hd_J0_isLatin1_aae02 : pd_hd mi_J0_isLatin1_aae02 ∈ pd_TB := pd_tb (i := 639) (by rfl) (by decide +kernel)
set_option maxRecDepth 100000 in
theorem in_J0_isLatin1_aae02 : Cond.initialized mi_J0_isLatin1_aae02.1.cls ∈ pd_TB := pd_tb (i := 108) (by decide +kernel) (by decide +kernel)
theorem cb_J0_isLatin1_aae02 : pd_CB mi_J0_isLatin1_aae02 0 := ⟨hd_J0_isLatin1_aae02, in_J0_isLatin1_aae02, by decide +kernel, by decide +kernel, by decide, rfl⟩
set_option maxRecDepth 100000 in
theorem im_J0_isLatin1_aae02 : Cond.instanceMethod mi_J0_isLatin1_aae02.1 ∈ pd_TB := pd_tb (i := 637) (by decide +kernel) (by decide +kernel)
set_option maxRecDepth 100000 in
theorem se_J0_isLatin1_aae02 : Cond.selects mi_J0_isLatin1_aae02.1.cls mi_J0_isLatin1_aae02.1 mi_J0_isLatin1_aae02.1 ∈ pd_TB := pd_tb (i := 638) (by decide +kernel) (by decide +kernel)
set_option maxRecDepth 100000 in
theorem mlJ0_492 : Cond.methodLink RJ0 492 mi_J0_isLatin1_aae02.1 ∈ pd_TB := pd_tb (i := 636) (by decide +kernel) (by decide +kernel)
set_option maxRecDepth 100000 in
theorem hd_J1_charAt_3b067 : pd_hd mi_J1_charAt_3b067 ∈ pd_TB := pd_tb (i := 642) (by rfl) (by decide +kernel)
set_option maxRecDepth 100000 in
theorem in_J1_charAt_3b067 : Cond.initialized mi_J1_charAt_3b067.1.cls ∈ pd_TB := pd_tb (i := 109) (by decide +kernel) (by decide +kernel)
theorem cb_J1_charAt_3b067 : pd_CB mi_J1_charAt_3b067 2 := ⟨hd_J1_charAt_3b067, in_J1_charAt_3b067, by decide +kernel, by decide +kernel, by decide, rfl⟩
set_option maxRecDepth 100000 in
theorem st_J1_charAt_3b067 : Cond.static mi_J1_charAt_3b067.1 ∈ pd_TB := pd_tb (i := 641) (by decide +kernel) (by decide +kernel)
set_option maxRecDepth 100000 in
theorem mlJ0_495 : Cond.methodLink RJ0 495 mi_J1_charAt_3b067.1 ∈ pd_TB := pd_tb (i := 640) (by decide +kernel) (by decide +kernel)
theorem csJ0_495 : pd_CS RJ0 495 mi_J1_charAt_3b067 2 := ⟨cb_J1_charAt_3b067, mlJ0_495, st_J1_charAt_3b067⟩
set_option maxRecDepth 100000 in
theorem hd_J0_checkIndex_df160 : pd_hd mi_J0_checkIndex_df160 ∈ pd_TB := pd_tb (i := 645) (by rfl) (by decide +kernel)
set_option maxRecDepth 100000 in
theorem in_J0_checkIndex_df160 : Cond.initialized mi_J0_checkIndex_df160.1.cls ∈ pd_TB := pd_tb (i := 108) (by decide +kernel) (by decide +kernel)
theorem cb_J0_checkIndex_df160 : pd_CB mi_J0_checkIndex_df160 2 := ⟨hd_J0_checkIndex_df160, in_J0_checkIndex_df160, by decide +kernel, by decide +kernel, by decide, rfl⟩
set_option maxRecDepth 100000 in
theorem st_J0_checkIndex_df160 : Cond.static mi_J0_checkIndex_df160.1 ∈ pd_TB := pd_tb (i := 644) (by decide +kernel) (by decide +kernel)
set_option maxRecDepth 100000 in
theorem mlJ1_9 : Cond.methodLink RJ1 9 mi_J0_checkIndex_df160.1 ∈ pd_TB := pd_tb (i := 643) (by decide +kernel) (by decide +kernel)
theorem csJ1_9 : pd_CS RJ1 9 mi_J0_checkIndex_df160 2 := ⟨cb_J0_checkIndex_df160, mlJ1_9, st_J0_checkIndex_df160⟩
set_option maxRecDepth 100000 in
theorem hd_J3_checkIndex_8e157 : pd_hd mi_J3_checkIndex_8e157 ∈ pd_TB := pd_tb (i := 650) (by rfl) (by decide +kernel)
set_option maxRecDepth 100000 in
theorem in_J3_checkIndex_8e157 : Cond.initialized mi_J3_checkIndex_8e157.1.cls ∈ pd_TB := pd_tb (i := 110) (by decide +kernel) (by decide +kernel)
theorem cb_J3_checkIndex_8e157 : pd_CB mi_J3_checkIndex_8e157 3 := ⟨hd_J3_checkIndex_8e157, in_J3_checkIndex_8e157, by decide +kernel, by decide +kernel, by decide, rfl⟩
set_option maxRecDepth 100000 in
theorem st_J3_checkIndex_8e157 : Cond.static mi_J3_checkIndex_8e157.1 ∈ pd_TB := pd_tb (i := 649) (by decide +kernel) (by decide +kernel)
set_option maxRecDepth 100000 in
theorem mlJ0_1059 : Cond.methodLink RJ0 1059 mi_J3_checkIndex_8e157.1 ∈ pd_TB := pd_tb (i := 648) (by decide +kernel) (by decide +kernel)
theorem csJ0_1059 : pd_CS RJ0 1059 mi_J3_checkIndex_8e157 3 := ⟨cb_J3_checkIndex_8e157, mlJ0_1059, st_J3_checkIndex_8e157⟩
set_option maxRecDepth 100000 in
theorem hd_J2_charAt_3b067 : pd_hd mi_J2_charAt_3b067 ∈ pd_TB := pd_tb (i := 653) (by rfl) (by decide +kernel)
set_option maxRecDepth 100000 in
theorem in_J2_charAt_3b067 : Cond.initialized mi_J2_charAt_3b067.1.cls ∈ pd_TB := pd_tb (i := 111) (by decide +kernel) (by decide +kernel)
theorem cb_J2_charAt_3b067 : pd_CB mi_J2_charAt_3b067 2 := ⟨hd_J2_charAt_3b067, in_J2_charAt_3b067, by decide +kernel, by decide +kernel, by decide, rfl⟩
set_option maxRecDepth 100000 in
theorem st_J2_charAt_3b067 : Cond.static mi_J2_charAt_3b067.1 ∈ pd_TB := pd_tb (i := 652) (by decide +kernel) (by decide +kernel)
set_option maxRecDepth 100000 in
theorem mlJ0_498 : Cond.methodLink RJ0 498 mi_J2_charAt_3b067.1 ∈ pd_TB := pd_tb (i := 651) (by decide +kernel) (by decide +kernel)
theorem csJ0_498 : pd_CS RJ0 498 mi_J2_charAt_3b067 2 := ⟨cb_J2_charAt_3b067, mlJ0_498, st_J2_charAt_3b067⟩
set_option maxRecDepth 100000 in
theorem hd_J2_checkIndex_2214a : pd_hd mi_J2_checkIndex_2214a ∈ pd_TB := pd_tb (i := 656) (by rfl) (by decide +kernel)
set_option maxRecDepth 100000 in
theorem in_J2_checkIndex_2214a : Cond.initialized mi_J2_checkIndex_2214a.1.cls ∈ pd_TB := pd_tb (i := 111) (by decide +kernel) (by decide +kernel)
theorem cb_J2_checkIndex_2214a : pd_CB mi_J2_checkIndex_2214a 2 := ⟨hd_J2_checkIndex_2214a, in_J2_checkIndex_2214a, by decide +kernel, by decide +kernel, by decide, rfl⟩
set_option maxRecDepth 100000 in
theorem st_J2_checkIndex_2214a : Cond.static mi_J2_checkIndex_2214a.1 ∈ pd_TB := pd_tb (i := 655) (by decide +kernel) (by decide +kernel)
set_option maxRecDepth 100000 in
theorem mlJ2_67 : Cond.methodLink RJ2 67 mi_J2_checkIndex_2214a.1 ∈ pd_TB := pd_tb (i := 654) (by decide +kernel) (by decide +kernel)
theorem csJ2_67 : pd_CS RJ2 67 mi_J2_checkIndex_2214a 2 := ⟨cb_J2_checkIndex_2214a, mlJ2_67, st_J2_checkIndex_2214a⟩
set_option maxRecDepth 100000 in
theorem hd_J2_length_9d52b : pd_hd mi_J2_length_9d52b ∈ pd_TB := pd_tb (i := 659) (by rfl) (by decide +kernel)
set_option maxRecDepth 100000 in
theorem in_J2_length_9d52b : Cond.initialized mi_J2_length_9d52b.1.cls ∈ pd_TB := pd_tb (i := 111) (by decide +kernel) (by decide +kernel)
theorem cb_J2_length_9d52b : pd_CB mi_J2_length_9d52b 1 := ⟨hd_J2_length_9d52b, in_J2_length_9d52b, by decide +kernel, by decide +kernel, by decide, rfl⟩
set_option maxRecDepth 100000 in
theorem st_J2_length_9d52b : Cond.static mi_J2_length_9d52b.1 ∈ pd_TB := pd_tb (i := 658) (by decide +kernel) (by decide +kernel)
set_option maxRecDepth 100000 in
theorem mlJ2_48 : Cond.methodLink RJ2 48 mi_J2_length_9d52b.1 ∈ pd_TB := pd_tb (i := 657) (by decide +kernel) (by decide +kernel)
theorem csJ2_48 : pd_CS RJ2 48 mi_J2_length_9d52b 1 := ⟨cb_J2_length_9d52b, mlJ2_48, st_J2_length_9d52b⟩
set_option maxRecDepth 100000 in
theorem mlJ2_414 : Cond.methodLink RJ2 414 mi_J0_checkIndex_df160.1 ∈ pd_TB := pd_tb (i := 660) (by decide +kernel) (by decide +kernel)
theorem csJ2_414 : pd_CS RJ2 414 mi_J0_checkIndex_df160 2 := ⟨cb_J0_checkIndex_df160, mlJ2_414, st_J0_checkIndex_df160⟩
set_option maxRecDepth 100000 in
theorem hd_J2_getChar_3b067 : pd_hd mi_J2_getChar_3b067 ∈ pd_TB := pd_tb (i := 663) (by rfl) (by decide +kernel)
set_option maxRecDepth 100000 in
theorem in_J2_getChar_3b067 : Cond.initialized mi_J2_getChar_3b067.1.cls ∈ pd_TB := pd_tb (i := 111) (by decide +kernel) (by decide +kernel)
theorem cb_J2_getChar_3b067 : pd_CB mi_J2_getChar_3b067 2 := ⟨hd_J2_getChar_3b067, in_J2_getChar_3b067, by decide +kernel, by decide +kernel, by decide, rfl⟩
set_option maxRecDepth 100000 in
theorem st_J2_getChar_3b067 : Cond.static mi_J2_getChar_3b067.1 ∈ pd_TB := pd_tb (i := 662) (by decide +kernel) (by decide +kernel)
set_option maxRecDepth 100000 in
theorem mlJ2_71 : Cond.methodLink RJ2 71 mi_J2_getChar_3b067.1 ∈ pd_TB := pd_tb (i := 661) (by decide +kernel) (by decide +kernel)
theorem csJ2_71 : pd_CS RJ2 71 mi_J2_getChar_3b067 2 := ⟨cb_J2_getChar_3b067, mlJ2_71, st_J2_getChar_3b067⟩
set_option maxRecDepth 100000 in
theorem hd_X7_nameAt : pd_hd mi_X7_nameAt ∈ pd_TB := pd_tb (i := 673) (by rfl) (by decide +kernel)
set_option maxRecDepth 100000 in
theorem in_X7_nameAt : Cond.initialized mi_X7_nameAt.1.cls ∈ pd_TB := pd_tb (i := 96) (by decide +kernel) (by decide +kernel)
theorem cb_X7_nameAt : pd_CB mi_X7_nameAt 1 := ⟨hd_X7_nameAt, in_X7_nameAt, by decide +kernel, by decide +kernel, by decide, rfl⟩
set_option maxRecDepth 100000 in
theorem im_X7_nameAt : Cond.instanceMethod mi_X7_nameAt.1 ∈ pd_TB := pd_tb (i := 672) (by decide +kernel) (by decide +kernel)
set_option maxRecDepth 100000 in
theorem se_X7_nameAt : Cond.selects mi_X7_nameAt.1.cls mi_X7_nameAt.1 mi_X7_nameAt.1 ∈ pd_TB := pd_tb (i := 13) (by decide +kernel) (by decide +kernel)
set_option maxRecDepth 100000 in
theorem mlX7_52 : Cond.methodLink RX7 52 mi_X7_nameAt.1 ∈ pd_TB := pd_tb (i := 670) (by decide +kernel) (by decide +kernel)
theorem cvX7_52 : pd_CV RX7 52 mi_X7_nameAt 1 6 := ⟨cb_X7_nameAt, mlX7_52, im_X7_nameAt, se_X7_nameAt, _, rfl, rfl, by decide⟩
set_option maxRecDepth 100000 in
theorem hd_X2_withLetter : pd_hd mi_X2_withLetter ∈ pd_TB := pd_tb (i := 676) (by rfl) (by decide +kernel)
set_option maxRecDepth 100000 in
theorem in_X2_withLetter : Cond.initialized mi_X2_withLetter.1.cls ∈ pd_TB := pd_tb (i := 112) (by decide +kernel) (by decide +kernel)
theorem cb_X2_withLetter : pd_CB mi_X2_withLetter 3 := ⟨hd_X2_withLetter, in_X2_withLetter, by decide +kernel, by decide +kernel, by decide, rfl⟩
set_option maxRecDepth 100000 in
theorem st_X2_withLetter : Cond.static mi_X2_withLetter.1 ∈ pd_TB := pd_tb (i := 675) (by decide +kernel) (by decide +kernel)
set_option maxRecDepth 100000 in
theorem mlX7_79 : Cond.methodLink RX7 79 mi_X2_withLetter.1 ∈ pd_TB := pd_tb (i := 674) (by decide +kernel) (by decide +kernel)
theorem csX7_79 : pd_CS RX7 79 mi_X2_withLetter 3 := ⟨cb_X2_withLetter, mlX7_79, st_X2_withLetter⟩
set_option maxRecDepth 100000 in
theorem hd_X7_add : pd_hd mi_X7_add ∈ pd_TB := pd_tb (i := 680) (by rfl) (by decide +kernel)
set_option maxRecDepth 100000 in
theorem in_X7_add : Cond.initialized mi_X7_add.1.cls ∈ pd_TB := pd_tb (i := 96) (by decide +kernel) (by decide +kernel)
theorem cb_X7_add : pd_CB mi_X7_add 3 := ⟨hd_X7_add, in_X7_add, by decide +kernel, by decide +kernel, by decide, rfl⟩
set_option maxRecDepth 100000 in
theorem im_X7_add : Cond.instanceMethod mi_X7_add.1 ∈ pd_TB := pd_tb (i := 679) (by decide +kernel) (by decide +kernel)
set_option maxRecDepth 100000 in
theorem se_X7_add : Cond.selects mi_X7_add.1.cls mi_X7_add.1 mi_X7_add.1 ∈ pd_TB := pd_tb (i := 14) (by decide +kernel) (by decide +kernel)
set_option maxRecDepth 100000 in
theorem mlX7_55 : Cond.methodLink RX7 55 mi_X7_add.1 ∈ pd_TB := pd_tb (i := 677) (by decide +kernel) (by decide +kernel)
theorem cvX7_55 : pd_CV RX7 55 mi_X7_add 3 6 := ⟨cb_X7_add, mlX7_55, im_X7_add, se_X7_add, _, rfl, rfl, by decide⟩
set_option maxRecDepth 100000 in
theorem hd_X7_isDigit : pd_hd mi_X7_isDigit ∈ pd_TB := pd_tb (i := 684) (by rfl) (by decide +kernel)
set_option maxRecDepth 100000 in
theorem in_X7_isDigit : Cond.initialized mi_X7_isDigit.1.cls ∈ pd_TB := pd_tb (i := 96) (by decide +kernel) (by decide +kernel)
theorem cb_X7_isDigit : pd_CB mi_X7_isDigit 1 := ⟨hd_X7_isDigit, in_X7_isDigit, by decide +kernel, by decide +kernel, by decide, rfl⟩
set_option maxRecDepth 100000 in
theorem im_X7_isDigit : Cond.instanceMethod mi_X7_isDigit.1 ∈ pd_TB := pd_tb (i := 683) (by decide +kernel) (by decide +kernel)
set_option maxRecDepth 100000 in
theorem se_X7_isDigit : Cond.selects mi_X7_isDigit.1.cls mi_X7_isDigit.1 mi_X7_isDigit.1 ∈ pd_TB := pd_tb (i := 15) (by decide +kernel) (by decide +kernel)
set_option maxRecDepth 100000 in
theorem mlX7_59 : Cond.methodLink RX7 59 mi_X7_isDigit.1 ∈ pd_TB := pd_tb (i := 681) (by decide +kernel) (by decide +kernel)
theorem cvX7_59 : pd_CV RX7 59 mi_X7_isDigit 1 6 := ⟨cb_X7_isDigit, mlX7_59, im_X7_isDigit, se_X7_isDigit, _, rfl, rfl, by decide⟩
set_option maxRecDepth 100000 in
theorem hd_X7_numberAt : pd_hd mi_X7_numberAt ∈ pd_TB := pd_tb (i := 688) (by rfl) (by decide +kernel)
set_option maxRecDepth 100000 in
theorem in_X7_numberAt : Cond.initialized mi_X7_numberAt.1.cls ∈ pd_TB := pd_tb (i := 96) (by decide +kernel) (by decide +kernel)
theorem cb_X7_numberAt : pd_CB mi_X7_numberAt 1 := ⟨hd_X7_numberAt, in_X7_numberAt, by decide +kernel, by decide +kernel, by decide, rfl⟩
set_option maxRecDepth 100000 in
theorem im_X7_numberAt : Cond.instanceMethod mi_X7_numberAt.1 ∈ pd_TB := pd_tb (i := 687) (by decide +kernel) (by decide +kernel)
set_option maxRecDepth 100000 in
theorem se_X7_numberAt : Cond.selects mi_X7_numberAt.1.cls mi_X7_numberAt.1 mi_X7_numberAt.1 ∈ pd_TB := pd_tb (i := 16) (by decide +kernel) (by decide +kernel)
set_option maxRecDepth 100000 in
theorem mlX7_62 : Cond.methodLink RX7 62 mi_X7_numberAt.1 ∈ pd_TB := pd_tb (i := 685) (by decide +kernel) (by decide +kernel)
theorem cvX7_62 : pd_CV RX7 62 mi_X7_numberAt 1 6 := ⟨cb_X7_numberAt, mlX7_62, im_X7_numberAt, se_X7_numberAt, _, rfl, rfl, by decide⟩
set_option maxRecDepth 100000 in
theorem hd_X3_clear : pd_hd mi_X3_clear ∈ pd_TB := pd_tb (i := 692) (by rfl) (by decide +kernel)
set_option maxRecDepth 100000 in
theorem in_X3_clear : Cond.initialized mi_X3_clear.1.cls ∈ pd_TB := pd_tb (i := 98) (by decide +kernel) (by decide +kernel)
theorem cb_X3_clear : pd_CB mi_X3_clear 0 := ⟨hd_X3_clear, in_X3_clear, by decide +kernel, by decide +kernel, by decide, rfl⟩
set_option maxRecDepth 100000 in
theorem im_X3_clear : Cond.instanceMethod mi_X3_clear.1 ∈ pd_TB := pd_tb (i := 690) (by decide +kernel) (by decide +kernel)
set_option maxRecDepth 100000 in
theorem se_X3_clear : Cond.selects mi_X3_clear.1.cls mi_X3_clear.1 mi_X3_clear.1 ∈ pd_TB := pd_tb (i := 691) (by decide +kernel) (by decide +kernel)
set_option maxRecDepth 100000 in
theorem mlX6_29 : Cond.methodLink RX6 29 mi_X3_clear.1 ∈ pd_TB := pd_tb (i := 689) (by decide +kernel) (by decide +kernel)
theorem cvX6_29 : pd_CV RX6 29 mi_X3_clear 0 2 := ⟨cb_X3_clear, mlX6_29, im_X3_clear, se_X3_clear, _, rfl, rfl, by decide⟩
set_option maxRecDepth 100000 in
theorem hd_X3_emptySamples : pd_hd mi_X3_emptySamples ∈ pd_TB := pd_tb (i := 696) (by rfl) (by decide +kernel)
set_option maxRecDepth 100000 in
theorem in_X3_emptySamples : Cond.initialized mi_X3_emptySamples.1.cls ∈ pd_TB := pd_tb (i := 98) (by decide +kernel) (by decide +kernel)
theorem cb_X3_emptySamples : pd_CB mi_X3_emptySamples 0 := ⟨hd_X3_emptySamples, in_X3_emptySamples, by decide +kernel, by decide +kernel, by decide, rfl⟩
set_option maxRecDepth 100000 in
theorem im_X3_emptySamples : Cond.instanceMethod mi_X3_emptySamples.1 ∈ pd_TB := pd_tb (i := 694) (by decide +kernel) (by decide +kernel)
set_option maxRecDepth 100000 in
theorem se_X3_emptySamples : Cond.selects mi_X3_emptySamples.1.cls mi_X3_emptySamples.1 mi_X3_emptySamples.1 ∈ pd_TB := pd_tb (i := 695) (by decide +kernel) (by decide +kernel)
set_option maxRecDepth 100000 in
theorem mlX3_71 : Cond.methodLink RX3 71 mi_X3_emptySamples.1 ∈ pd_TB := pd_tb (i := 693) (by decide +kernel) (by decide +kernel)
theorem cvX3_71 : pd_CV RX3 71 mi_X3_emptySamples 0 2 := ⟨cb_X3_emptySamples, mlX3_71, im_X3_emptySamples, se_X3_emptySamples, _, rfl, rfl, by decide⟩
set_option maxRecDepth 100000 in
theorem hd_X6_kind : pd_hd mi_X6_kind ∈ pd_TB := pd_tb (i := 700) (by rfl) (by decide +kernel)
set_option maxRecDepth 100000 in
theorem in_X6_kind : Cond.initialized mi_X6_kind.1.cls ∈ pd_TB := pd_tb (i := 95) (by decide +kernel) (by decide +kernel)
theorem cb_X6_kind : pd_CB mi_X6_kind 0 := ⟨hd_X6_kind, in_X6_kind, by decide +kernel, by decide +kernel, by decide, rfl⟩
set_option maxRecDepth 100000 in
theorem im_X6_kind : Cond.instanceMethod mi_X6_kind.1 ∈ pd_TB := pd_tb (i := 699) (by decide +kernel) (by decide +kernel)
set_option maxRecDepth 100000 in
theorem se_X6_kind : Cond.selects mi_X6_kind.1.cls mi_X6_kind.1 mi_X6_kind.1 ∈ pd_TB := pd_tb (i := 17) (by decide +kernel) (by decide +kernel)
set_option maxRecDepth 100000 in
theorem mlX6_39 : Cond.methodLink RX6 39 mi_X6_kind.1 ∈ pd_TB := pd_tb (i := 697) (by decide +kernel) (by decide +kernel)
theorem cvX6_39 : pd_CV RX6 39 mi_X6_kind 0 5 := ⟨cb_X6_kind, mlX6_39, im_X6_kind, se_X6_kind, _, rfl, rfl, by decide⟩
set_option maxRecDepth 100000 in
theorem hd_X6_readTold : pd_hd mi_X6_readTold ∈ pd_TB := pd_tb (i := 704) (by rfl) (by decide +kernel)
set_option maxRecDepth 100000 in
theorem in_X6_readTold : Cond.initialized mi_X6_readTold.1.cls ∈ pd_TB := pd_tb (i := 95) (by decide +kernel) (by decide +kernel)
theorem cb_X6_readTold : pd_CB mi_X6_readTold 0 := ⟨hd_X6_readTold, in_X6_readTold, by decide +kernel, by decide +kernel, by decide, rfl⟩
set_option maxRecDepth 100000 in
theorem im_X6_readTold : Cond.instanceMethod mi_X6_readTold.1 ∈ pd_TB := pd_tb (i := 703) (by decide +kernel) (by decide +kernel)
set_option maxRecDepth 100000 in
theorem se_X6_readTold : Cond.selects mi_X6_readTold.1.cls mi_X6_readTold.1 mi_X6_readTold.1 ∈ pd_TB := pd_tb (i := 18) (by decide +kernel) (by decide +kernel)
set_option maxRecDepth 100000 in
theorem mlX6_43 : Cond.methodLink RX6 43 mi_X6_readTold.1 ∈ pd_TB := pd_tb (i := 701) (by decide +kernel) (by decide +kernel)
theorem cvX6_43 : pd_CV RX6 43 mi_X6_readTold 0 5 := ⟨cb_X6_readTold, mlX6_43, im_X6_readTold, se_X6_readTold, _, rfl, rfl, by decide⟩
set_option maxRecDepth 100000 in
theorem hd_X6_readVoter : pd_hd mi_X6_readVoter ∈ pd_TB := pd_tb (i := 708) (by rfl) (by decide +kernel)
set_option maxRecDepth 100000 in
theorem in_X6_readVoter : Cond.initialized mi_X6_readVoter.1.cls ∈ pd_TB := pd_tb (i := 95) (by decide +kernel) (by decide +kernel)
theorem cb_X6_readVoter : pd_CB mi_X6_readVoter 0 := ⟨hd_X6_readVoter, in_X6_readVoter, by decide +kernel, by decide +kernel, by decide, rfl⟩
set_option maxRecDepth 100000 in
theorem im_X6_readVoter : Cond.instanceMethod mi_X6_readVoter.1 ∈ pd_TB := pd_tb (i := 707) (by decide +kernel) (by decide +kernel)
set_option maxRecDepth 100000 in
theorem se_X6_readVoter : Cond.selects mi_X6_readVoter.1.cls mi_X6_readVoter.1 mi_X6_readVoter.1 ∈ pd_TB := pd_tb (i := 19) (by decide +kernel) (by decide +kernel)
set_option maxRecDepth 100000 in
theorem mlX6_51 : Cond.methodLink RX6 51 mi_X6_readVoter.1 ∈ pd_TB := pd_tb (i := 705) (by decide +kernel) (by decide +kernel)
theorem cvX6_51 : pd_CV RX6 51 mi_X6_readVoter 0 5 := ⟨cb_X6_readVoter, mlX6_51, im_X6_readVoter, se_X6_readVoter, _, rfl, rfl, by decide⟩
set_option maxRecDepth 100000 in
theorem hd_X6_place : pd_hd mi_X6_place ∈ pd_TB := pd_tb (i := 712) (by rfl) (by decide +kernel)
set_option maxRecDepth 100000 in
theorem in_X6_place : Cond.initialized mi_X6_place.1.cls ∈ pd_TB := pd_tb (i := 95) (by decide +kernel) (by decide +kernel)
theorem cb_X6_place : pd_CB mi_X6_place 0 := ⟨hd_X6_place, in_X6_place, by decide +kernel, by decide +kernel, by decide, rfl⟩
set_option maxRecDepth 100000 in
theorem im_X6_place : Cond.instanceMethod mi_X6_place.1 ∈ pd_TB := pd_tb (i := 711) (by decide +kernel) (by decide +kernel)
set_option maxRecDepth 100000 in
theorem se_X6_place : Cond.selects mi_X6_place.1.cls mi_X6_place.1 mi_X6_place.1 ∈ pd_TB := pd_tb (i := 20) (by decide +kernel) (by decide +kernel)
set_option maxRecDepth 100000 in
theorem mlX6_79 : Cond.methodLink RX6 79 mi_X6_place.1 ∈ pd_TB := pd_tb (i := 709) (by decide +kernel) (by decide +kernel)
theorem cvX6_79 : pd_CV RX6 79 mi_X6_place 0 5 := ⟨cb_X6_place, mlX6_79, im_X6_place, se_X6_place, _, rfl, rfl, by decide⟩
set_option maxRecDepth 100000 in
theorem hd_X6_refuse : pd_hd mi_X6_refuse ∈ pd_TB := pd_tb (i := 716) (by rfl) (by decide +kernel)
set_option maxRecDepth 100000 in
theorem in_X6_refuse : Cond.initialized mi_X6_refuse.1.cls ∈ pd_TB := pd_tb (i := 95) (by decide +kernel) (by decide +kernel)
theorem cb_X6_refuse : pd_CB mi_X6_refuse 2 := ⟨hd_X6_refuse, in_X6_refuse, by decide +kernel, by decide +kernel, by decide, rfl⟩
set_option maxRecDepth 100000 in
theorem im_X6_refuse : Cond.instanceMethod mi_X6_refuse.1 ∈ pd_TB := pd_tb (i := 715) (by decide +kernel) (by decide +kernel)
set_option maxRecDepth 100000 in
theorem se_X6_refuse : Cond.selects mi_X6_refuse.1.cls mi_X6_refuse.1 mi_X6_refuse.1 ∈ pd_TB := pd_tb (i := 21) (by decide +kernel) (by decide +kernel)
set_option maxRecDepth 100000 in
theorem mlX6_82 : Cond.methodLink RX6 82 mi_X6_refuse.1 ∈ pd_TB := pd_tb (i := 713) (by decide +kernel) (by decide +kernel)
theorem cvX6_82 : pd_CV RX6 82 mi_X6_refuse 2 5 := ⟨cb_X6_refuse, mlX6_82, im_X6_refuse, se_X6_refuse, _, rfl, rfl, by decide⟩
set_option maxRecDepth 100000 in
theorem hd_X6_advance : pd_hd mi_X6_advance ∈ pd_TB := pd_tb (i := 720) (by rfl) (by decide +kernel)
set_option maxRecDepth 100000 in
theorem in_X6_advance : Cond.initialized mi_X6_advance.1.cls ∈ pd_TB := pd_tb (i := 95) (by decide +kernel) (by decide +kernel)
theorem cb_X6_advance : pd_CB mi_X6_advance 0 := ⟨hd_X6_advance, in_X6_advance, by decide +kernel, by decide +kernel, by decide, rfl⟩
set_option maxRecDepth 100000 in
theorem im_X6_advance : Cond.instanceMethod mi_X6_advance.1 ∈ pd_TB := pd_tb (i := 719) (by decide +kernel) (by decide +kernel)
set_option maxRecDepth 100000 in
theorem se_X6_advance : Cond.selects mi_X6_advance.1.cls mi_X6_advance.1 mi_X6_advance.1 ∈ pd_TB := pd_tb (i := 22) (by decide +kernel) (by decide +kernel)
set_option maxRecDepth 100000 in
theorem mlX6_89 : Cond.methodLink RX6 89 mi_X6_advance.1 ∈ pd_TB := pd_tb (i := 717) (by decide +kernel) (by decide +kernel)
theorem cvX6_89 : pd_CV RX6 89 mi_X6_advance 0 5 := ⟨cb_X6_advance, mlX6_89, im_X6_advance, se_X6_advance, _, rfl, rfl, by decide⟩
set_option maxRecDepth 100000 in
theorem hd_X6_takeName : pd_hd mi_X6_takeName ∈ pd_TB := pd_tb (i := 724) (by rfl) (by decide +kernel)
set_option maxRecDepth 100000 in
theorem in_X6_takeName : Cond.initialized mi_X6_takeName.1.cls ∈ pd_TB := pd_tb (i := 95) (by decide +kernel) (by decide +kernel)
theorem cb_X6_takeName : pd_CB mi_X6_takeName 0 := ⟨hd_X6_takeName, in_X6_takeName, by decide +kernel, by decide +kernel, by decide, rfl⟩
set_option maxRecDepth 100000 in
theorem im_X6_takeName : Cond.instanceMethod mi_X6_takeName.1 ∈ pd_TB := pd_tb (i := 723) (by decide +kernel) (by decide +kernel)
set_option maxRecDepth 100000 in
theorem se_X6_takeName : Cond.selects mi_X6_takeName.1.cls mi_X6_takeName.1 mi_X6_takeName.1 ∈ pd_TB := pd_tb (i := 23) (by decide +kernel) (by decide +kernel)
set_option maxRecDepth 100000 in
theorem mlX6_92 : Cond.methodLink RX6 92 mi_X6_takeName.1 ∈ pd_TB := pd_tb (i := 721) (by decide +kernel) (by decide +kernel)
theorem cvX6_92 : pd_CV RX6 92 mi_X6_takeName 0 5 := ⟨cb_X6_takeName, mlX6_92, im_X6_takeName, se_X6_takeName, _, rfl, rfl, by decide⟩
set_option maxRecDepth 100000 in
theorem hd_X6_takeNumber : pd_hd mi_X6_takeNumber ∈ pd_TB := pd_tb (i := 728) (by rfl) (by decide +kernel)
set_option maxRecDepth 100000 in
theorem in_X6_takeNumber : Cond.initialized mi_X6_takeNumber.1.cls ∈ pd_TB := pd_tb (i := 95) (by decide +kernel) (by decide +kernel)
theorem cb_X6_takeNumber : pd_CB mi_X6_takeNumber 2 := ⟨hd_X6_takeNumber, in_X6_takeNumber, by decide +kernel, by decide +kernel, by decide, rfl⟩
set_option maxRecDepth 100000 in
theorem im_X6_takeNumber : Cond.instanceMethod mi_X6_takeNumber.1 ∈ pd_TB := pd_tb (i := 727) (by decide +kernel) (by decide +kernel)
set_option maxRecDepth 100000 in
theorem se_X6_takeNumber : Cond.selects mi_X6_takeNumber.1.cls mi_X6_takeNumber.1 mi_X6_takeNumber.1 ∈ pd_TB := pd_tb (i := 24) (by decide +kernel) (by decide +kernel)
set_option maxRecDepth 100000 in
theorem mlX6_95 : Cond.methodLink RX6 95 mi_X6_takeNumber.1 ∈ pd_TB := pd_tb (i := 725) (by decide +kernel) (by decide +kernel)
theorem cvX6_95 : pd_CV RX6 95 mi_X6_takeNumber 2 5 := ⟨cb_X6_takeNumber, mlX6_95, im_X6_takeNumber, se_X6_takeNumber, _, rfl, rfl, by decide⟩
set_option maxRecDepth 100000 in
theorem mlX6_99 : Cond.methodLink RX6 99 mi_X3_voterWith.1 ∈ pd_TB := pd_tb (i := 729) (by decide +kernel) (by decide +kernel)
theorem cvX6_99 : pd_CV RX6 99 mi_X3_voterWith 2 2 := ⟨cb_X3_voterWith, mlX6_99, im_X3_voterWith, se_X3_voterWith, _, rfl, rfl, by decide⟩
set_option maxRecDepth 100000 in
theorem hd_X3_addVoter : pd_hd mi_X3_addVoter ∈ pd_TB := pd_tb (i := 733) (by rfl) (by decide +kernel)
set_option maxRecDepth 100000 in
theorem in_X3_addVoter : Cond.initialized mi_X3_addVoter.1.cls ∈ pd_TB := pd_tb (i := 98) (by decide +kernel) (by decide +kernel)
theorem cb_X3_addVoter : pd_CB mi_X3_addVoter 3 := ⟨hd_X3_addVoter, in_X3_addVoter, by decide +kernel, by decide +kernel, by decide, rfl⟩
set_option maxRecDepth 100000 in
theorem im_X3_addVoter : Cond.instanceMethod mi_X3_addVoter.1 ∈ pd_TB := pd_tb (i := 731) (by decide +kernel) (by decide +kernel)
set_option maxRecDepth 100000 in
theorem se_X3_addVoter : Cond.selects mi_X3_addVoter.1.cls mi_X3_addVoter.1 mi_X3_addVoter.1 ∈ pd_TB := pd_tb (i := 732) (by decide +kernel) (by decide +kernel)
set_option maxRecDepth 100000 in
theorem mlX6_102 : Cond.methodLink RX6 102 mi_X3_addVoter.1 ∈ pd_TB := pd_tb (i := 730) (by decide +kernel) (by decide +kernel)
theorem cvX6_102 : pd_CV RX6 102 mi_X3_addVoter 3 2 := ⟨cb_X3_addVoter, mlX6_102, im_X3_addVoter, se_X3_addVoter, _, rfl, rfl, by decide⟩
set_option maxRecDepth 100000 in
theorem hd_X6_readSheet : pd_hd mi_X6_readSheet ∈ pd_TB := pd_tb (i := 737) (by rfl) (by decide +kernel)
set_option maxRecDepth 100000 in
theorem in_X6_readSheet : Cond.initialized mi_X6_readSheet.1.cls ∈ pd_TB := pd_tb (i := 95) (by decide +kernel) (by decide +kernel)
theorem cb_X6_readSheet : pd_CB mi_X6_readSheet 0 := ⟨hd_X6_readSheet, in_X6_readSheet, by decide +kernel, by decide +kernel, by decide, rfl⟩
set_option maxRecDepth 100000 in
theorem im_X6_readSheet : Cond.instanceMethod mi_X6_readSheet.1 ∈ pd_TB := pd_tb (i := 736) (by decide +kernel) (by decide +kernel)
set_option maxRecDepth 100000 in
theorem se_X6_readSheet : Cond.selects mi_X6_readSheet.1.cls mi_X6_readSheet.1 mi_X6_readSheet.1 ∈ pd_TB := pd_tb (i := 25) (by decide +kernel) (by decide +kernel)
set_option maxRecDepth 100000 in
theorem mlX6_54 : Cond.methodLink RX6 54 mi_X6_readSheet.1 ∈ pd_TB := pd_tb (i := 734) (by decide +kernel) (by decide +kernel)
theorem cvX6_54 : pd_CV RX6 54 mi_X6_readSheet 0 5 := ⟨cb_X6_readSheet, mlX6_54, im_X6_readSheet, se_X6_readSheet, _, rfl, rfl, by decide⟩
set_option maxRecDepth 100000 in
theorem hd_X6_readSigned : pd_hd mi_X6_readSigned ∈ pd_TB := pd_tb (i := 741) (by rfl) (by decide +kernel)
set_option maxRecDepth 100000 in
theorem in_X6_readSigned : Cond.initialized mi_X6_readSigned.1.cls ∈ pd_TB := pd_tb (i := 95) (by decide +kernel) (by decide +kernel)
theorem cb_X6_readSigned : pd_CB mi_X6_readSigned 0 := ⟨hd_X6_readSigned, in_X6_readSigned, by decide +kernel, by decide +kernel, by decide, rfl⟩
set_option maxRecDepth 100000 in
theorem im_X6_readSigned : Cond.instanceMethod mi_X6_readSigned.1 ∈ pd_TB := pd_tb (i := 740) (by decide +kernel) (by decide +kernel)
set_option maxRecDepth 100000 in
theorem se_X6_readSigned : Cond.selects mi_X6_readSigned.1.cls mi_X6_readSigned.1 mi_X6_readSigned.1 ∈ pd_TB := pd_tb (i := 26) (by decide +kernel) (by decide +kernel)
set_option maxRecDepth 100000 in
theorem mlX6_57 : Cond.methodLink RX6 57 mi_X6_readSigned.1 ∈ pd_TB := pd_tb (i := 738) (by decide +kernel) (by decide +kernel)
theorem cvX6_57 : pd_CV RX6 57 mi_X6_readSigned 0 5 := ⟨cb_X6_readSigned, mlX6_57, im_X6_readSigned, se_X6_readSigned, _, rfl, rfl, by decide⟩
set_option maxRecDepth 100000 in
theorem hd_X3_addLine : pd_hd mi_X3_addLine ∈ pd_TB := pd_tb (i := 745) (by rfl) (by decide +kernel)
set_option maxRecDepth 100000 in
theorem in_X3_addLine : Cond.initialized mi_X3_addLine.1.cls ∈ pd_TB := pd_tb (i := 98) (by decide +kernel) (by decide +kernel)
theorem cb_X3_addLine : pd_CB mi_X3_addLine 4 := ⟨hd_X3_addLine, in_X3_addLine, by decide +kernel, by decide +kernel, by decide, rfl⟩
set_option maxRecDepth 100000 in
theorem im_X3_addLine : Cond.instanceMethod mi_X3_addLine.1 ∈ pd_TB := pd_tb (i := 743) (by decide +kernel) (by decide +kernel)
set_option maxRecDepth 100000 in
theorem se_X3_addLine : Cond.selects mi_X3_addLine.1.cls mi_X3_addLine.1 mi_X3_addLine.1 ∈ pd_TB := pd_tb (i := 744) (by decide +kernel) (by decide +kernel)
set_option maxRecDepth 100000 in
theorem mlX6_112 : Cond.methodLink RX6 112 mi_X3_addLine.1 ∈ pd_TB := pd_tb (i := 742) (by decide +kernel) (by decide +kernel)
theorem cvX6_112 : pd_CV RX6 112 mi_X3_addLine 4 2 := ⟨cb_X3_addLine, mlX6_112, im_X3_addLine, se_X3_addLine, _, rfl, rfl, by decide⟩
set_option maxRecDepth 100000 in
theorem hd_X3_firstOf : pd_hd mi_X3_firstOf ∈ pd_TB := pd_tb (i := 749) (by rfl) (by decide +kernel)
set_option maxRecDepth 100000 in
theorem in_X3_firstOf : Cond.initialized mi_X3_firstOf.1.cls ∈ pd_TB := pd_tb (i := 98) (by decide +kernel) (by decide +kernel)
theorem cb_X3_firstOf : pd_CB mi_X3_firstOf 1 := ⟨hd_X3_firstOf, in_X3_firstOf, by decide +kernel, by decide +kernel, by decide, rfl⟩
set_option maxRecDepth 100000 in
theorem im_X3_firstOf : Cond.instanceMethod mi_X3_firstOf.1 ∈ pd_TB := pd_tb (i := 747) (by decide +kernel) (by decide +kernel)
set_option maxRecDepth 100000 in
theorem se_X3_firstOf : Cond.selects mi_X3_firstOf.1.cls mi_X3_firstOf.1 mi_X3_firstOf.1 ∈ pd_TB := pd_tb (i := 748) (by decide +kernel) (by decide +kernel)
set_option maxRecDepth 100000 in
theorem mlX3_91 : Cond.methodLink RX3 91 mi_X3_firstOf.1 ∈ pd_TB := pd_tb (i := 746) (by decide +kernel) (by decide +kernel)
theorem cvX3_91 : pd_CV RX3 91 mi_X3_firstOf 1 2 := ⟨cb_X3_firstOf, mlX3_91, im_X3_firstOf, se_X3_firstOf, _, rfl, rfl, by decide⟩
set_option maxRecDepth 100000 in
theorem hd_X3_moveLines : pd_hd mi_X3_moveLines ∈ pd_TB := pd_tb (i := 753) (by rfl) (by decide +kernel)
set_option maxRecDepth 100000 in
theorem in_X3_moveLines : Cond.initialized mi_X3_moveLines.1.cls ∈ pd_TB := pd_tb (i := 98) (by decide +kernel) (by decide +kernel)
theorem cb_X3_moveLines : pd_CB mi_X3_moveLines 3 := ⟨hd_X3_moveLines, in_X3_moveLines, by decide +kernel, by decide +kernel, by decide, rfl⟩
set_option maxRecDepth 100000 in
theorem im_X3_moveLines : Cond.instanceMethod mi_X3_moveLines.1 ∈ pd_TB := pd_tb (i := 752) (by decide +kernel) (by decide +kernel)
set_option maxRecDepth 100000 in
theorem se_X3_moveLines : Cond.selects mi_X3_moveLines.1.cls mi_X3_moveLines.1 mi_X3_moveLines.1 ∈ pd_TB := pd_tb (i := 27) (by decide +kernel) (by decide +kernel)
set_option maxRecDepth 100000 in
theorem mlX3_95 : Cond.methodLink RX3 95 mi_X3_moveLines.1 ∈ pd_TB := pd_tb (i := 750) (by decide +kernel) (by decide +kernel)
theorem cvX3_95 : pd_CV RX3 95 mi_X3_moveLines 3 2 := ⟨cb_X3_moveLines, mlX3_95, im_X3_moveLines, se_X3_moveLines, _, rfl, rfl, by decide⟩
set_option maxRecDepth 100000 in
theorem mlX3_99 : Cond.methodLink RX3 99 mi_J9_max_7cf53.1 ∈ pd_TB := pd_tb (i := 754) (by decide +kernel) (by decide +kernel)
theorem csX3_99 : pd_CS RX3 99 mi_J9_max_7cf53 2 := ⟨cb_J9_max_7cf53, mlX3_99, st_J9_max_7cf53⟩
set_option maxRecDepth 100000 in
theorem hd_X6_readNeed : pd_hd mi_X6_readNeed ∈ pd_TB := pd_tb (i := 761) (by rfl) (by decide +kernel)
set_option maxRecDepth 100000 in
theorem in_X6_readNeed : Cond.initialized mi_X6_readNeed.1.cls ∈ pd_TB := pd_tb (i := 95) (by decide +kernel) (by decide +kernel)
theorem cb_X6_readNeed : pd_CB mi_X6_readNeed 0 := ⟨hd_X6_readNeed, in_X6_readNeed, by decide +kernel, by decide +kernel, by decide, rfl⟩
set_option maxRecDepth 100000 in
theorem im_X6_readNeed : Cond.instanceMethod mi_X6_readNeed.1 ∈ pd_TB := pd_tb (i := 760) (by decide +kernel) (by decide +kernel)
set_option maxRecDepth 100000 in
theorem se_X6_readNeed : Cond.selects mi_X6_readNeed.1.cls mi_X6_readNeed.1 mi_X6_readNeed.1 ∈ pd_TB := pd_tb (i := 28) (by decide +kernel) (by decide +kernel)
set_option maxRecDepth 100000 in
theorem mlX6_60 : Cond.methodLink RX6 60 mi_X6_readNeed.1 ∈ pd_TB := pd_tb (i := 758) (by decide +kernel) (by decide +kernel)
theorem cvX6_60 : pd_CV RX6 60 mi_X6_readNeed 0 5 := ⟨cb_X6_readNeed, mlX6_60, im_X6_readNeed, se_X6_readNeed, _, rfl, rfl, by decide⟩
set_option maxRecDepth 100000 in
theorem hd_X6_takeOnce : pd_hd mi_X6_takeOnce ∈ pd_TB := pd_tb (i := 765) (by rfl) (by decide +kernel)
set_option maxRecDepth 100000 in
theorem in_X6_takeOnce : Cond.initialized mi_X6_takeOnce.1.cls ∈ pd_TB := pd_tb (i := 95) (by decide +kernel) (by decide +kernel)
theorem cb_X6_takeOnce : pd_CB mi_X6_takeOnce 0 := ⟨hd_X6_takeOnce, in_X6_takeOnce, by decide +kernel, by decide +kernel, by decide, rfl⟩
set_option maxRecDepth 100000 in
theorem im_X6_takeOnce : Cond.instanceMethod mi_X6_takeOnce.1 ∈ pd_TB := pd_tb (i := 764) (by decide +kernel) (by decide +kernel)
set_option maxRecDepth 100000 in
theorem se_X6_takeOnce : Cond.selects mi_X6_takeOnce.1.cls mi_X6_takeOnce.1 mi_X6_takeOnce.1 ∈ pd_TB := pd_tb (i := 29) (by decide +kernel) (by decide +kernel)
set_option maxRecDepth 100000 in
theorem mlX6_72 : Cond.methodLink RX6 72 mi_X6_takeOnce.1 ∈ pd_TB := pd_tb (i := 762) (by decide +kernel) (by decide +kernel)
theorem cvX6_72 : pd_CV RX6 72 mi_X6_takeOnce 0 5 := ⟨cb_X6_takeOnce, mlX6_72, im_X6_takeOnce, se_X6_takeOnce, _, rfl, rfl, by decide⟩
set_option maxRecDepth 100000 in
theorem hd_X6_readSpan : pd_hd mi_X6_readSpan ∈ pd_TB := pd_tb (i := 769) (by rfl) (by decide +kernel)
set_option maxRecDepth 100000 in
theorem in_X6_readSpan : Cond.initialized mi_X6_readSpan.1.cls ∈ pd_TB := pd_tb (i := 95) (by decide +kernel) (by decide +kernel)
theorem cb_X6_readSpan : pd_CB mi_X6_readSpan 0 := ⟨hd_X6_readSpan, in_X6_readSpan, by decide +kernel, by decide +kernel, by decide, rfl⟩
set_option maxRecDepth 100000 in
theorem im_X6_readSpan : Cond.instanceMethod mi_X6_readSpan.1 ∈ pd_TB := pd_tb (i := 768) (by decide +kernel) (by decide +kernel)
set_option maxRecDepth 100000 in
theorem se_X6_readSpan : Cond.selects mi_X6_readSpan.1.cls mi_X6_readSpan.1 mi_X6_readSpan.1 ∈ pd_TB := pd_tb (i := 30) (by decide +kernel) (by decide +kernel)
set_option maxRecDepth 100000 in
theorem mlX6_63 : Cond.methodLink RX6 63 mi_X6_readSpan.1 ∈ pd_TB := pd_tb (i := 766) (by decide +kernel) (by decide +kernel)
theorem cvX6_63 : pd_CV RX6 63 mi_X6_readSpan 0 5 := ⟨cb_X6_readSpan, mlX6_63, im_X6_readSpan, se_X6_readSpan, _, rfl, rfl, by decide⟩
set_option maxRecDepth 100000 in
theorem hd_X6_readSpoilt : pd_hd mi_X6_readSpoilt ∈ pd_TB := pd_tb (i := 773) (by rfl) (by decide +kernel)
set_option maxRecDepth 100000 in
theorem in_X6_readSpoilt : Cond.initialized mi_X6_readSpoilt.1.cls ∈ pd_TB := pd_tb (i := 95) (by decide +kernel) (by decide +kernel)
theorem cb_X6_readSpoilt : pd_CB mi_X6_readSpoilt 0 := ⟨hd_X6_readSpoilt, in_X6_readSpoilt, by decide +kernel, by decide +kernel, by decide, rfl⟩
set_option maxRecDepth 100000 in
theorem im_X6_readSpoilt : Cond.instanceMethod mi_X6_readSpoilt.1 ∈ pd_TB := pd_tb (i := 772) (by decide +kernel) (by decide +kernel)
set_option maxRecDepth 100000 in
theorem se_X6_readSpoilt : Cond.selects mi_X6_readSpoilt.1.cls mi_X6_readSpoilt.1 mi_X6_readSpoilt.1 ∈ pd_TB := pd_tb (i := 31) (by decide +kernel) (by decide +kernel)
set_option maxRecDepth 100000 in
theorem mlX6_66 : Cond.methodLink RX6 66 mi_X6_readSpoilt.1 ∈ pd_TB := pd_tb (i := 770) (by decide +kernel) (by decide +kernel)
theorem cvX6_66 : pd_CV RX6 66 mi_X6_readSpoilt 0 5 := ⟨cb_X6_readSpoilt, mlX6_66, im_X6_readSpoilt, se_X6_readSpoilt, _, rfl, rfl, by decide⟩
set_option maxRecDepth 100000 in
theorem hd_X6_readAlpha : pd_hd mi_X6_readAlpha ∈ pd_TB := pd_tb (i := 777) (by rfl) (by decide +kernel)
set_option maxRecDepth 100000 in
theorem in_X6_readAlpha : Cond.initialized mi_X6_readAlpha.1.cls ∈ pd_TB := pd_tb (i := 95) (by decide +kernel) (by decide +kernel)
theorem cb_X6_readAlpha : pd_CB mi_X6_readAlpha 0 := ⟨hd_X6_readAlpha, in_X6_readAlpha, by decide +kernel, by decide +kernel, by decide, rfl⟩
set_option maxRecDepth 100000 in
theorem im_X6_readAlpha : Cond.instanceMethod mi_X6_readAlpha.1 ∈ pd_TB := pd_tb (i := 776) (by decide +kernel) (by decide +kernel)
set_option maxRecDepth 100000 in
theorem se_X6_readAlpha : Cond.selects mi_X6_readAlpha.1.cls mi_X6_readAlpha.1 mi_X6_readAlpha.1 ∈ pd_TB := pd_tb (i := 32) (by decide +kernel) (by decide +kernel)
set_option maxRecDepth 100000 in
theorem mlX6_69 : Cond.methodLink RX6 69 mi_X6_readAlpha.1 ∈ pd_TB := pd_tb (i := 774) (by decide +kernel) (by decide +kernel)
theorem cvX6_69 : pd_CV RX6 69 mi_X6_readAlpha 0 5 := ⟨cb_X6_readAlpha, mlX6_69, im_X6_readAlpha, se_X6_readAlpha, _, rfl, rfl, by decide⟩
set_option maxRecDepth 100000 in
theorem hd_X6_readChoice : pd_hd mi_X6_readChoice ∈ pd_TB := pd_tb (i := 781) (by rfl) (by decide +kernel)
set_option maxRecDepth 100000 in
theorem in_X6_readChoice : Cond.initialized mi_X6_readChoice.1.cls ∈ pd_TB := pd_tb (i := 95) (by decide +kernel) (by decide +kernel)
theorem cb_X6_readChoice : pd_CB mi_X6_readChoice 1 := ⟨hd_X6_readChoice, in_X6_readChoice, by decide +kernel, by decide +kernel, by decide, rfl⟩
set_option maxRecDepth 100000 in
theorem im_X6_readChoice : Cond.instanceMethod mi_X6_readChoice.1 ∈ pd_TB := pd_tb (i := 780) (by decide +kernel) (by decide +kernel)
set_option maxRecDepth 100000 in
theorem se_X6_readChoice : Cond.selects mi_X6_readChoice.1.cls mi_X6_readChoice.1 mi_X6_readChoice.1 ∈ pd_TB := pd_tb (i := 33) (by decide +kernel) (by decide +kernel)
set_option maxRecDepth 100000 in
theorem mlX6_75 : Cond.methodLink RX6 75 mi_X6_readChoice.1 ∈ pd_TB := pd_tb (i := 778) (by decide +kernel) (by decide +kernel)
theorem cvX6_75 : pd_CV RX6 75 mi_X6_readChoice 1 5 := ⟨cb_X6_readChoice, mlX6_75, im_X6_readChoice, se_X6_readChoice, _, rfl, rfl, by decide⟩
set_option maxRecDepth 100000 in
theorem hd_X6_readChain : pd_hd mi_X6_readChain ∈ pd_TB := pd_tb (i := 785) (by rfl) (by decide +kernel)
set_option maxRecDepth 100000 in
theorem in_X6_readChain : Cond.initialized mi_X6_readChain.1.cls ∈ pd_TB := pd_tb (i := 95) (by decide +kernel) (by decide +kernel)
theorem cb_X6_readChain : pd_CB mi_X6_readChain 1 := ⟨hd_X6_readChain, in_X6_readChain, by decide +kernel, by decide +kernel, by decide, rfl⟩
set_option maxRecDepth 100000 in
theorem im_X6_readChain : Cond.instanceMethod mi_X6_readChain.1 ∈ pd_TB := pd_tb (i := 784) (by decide +kernel) (by decide +kernel)
set_option maxRecDepth 100000 in
theorem se_X6_readChain : Cond.selects mi_X6_readChain.1.cls mi_X6_readChain.1 mi_X6_readChain.1 ∈ pd_TB := pd_tb (i := 34) (by decide +kernel) (by decide +kernel)
set_option maxRecDepth 100000 in
theorem mlX6_131 : Cond.methodLink RX6 131 mi_X6_readChain.1 ∈ pd_TB := pd_tb (i := 782) (by decide +kernel) (by decide +kernel)
theorem cvX6_131 : pd_CV RX6 131 mi_X6_readChain 1 5 := ⟨cb_X6_readChain, mlX6_131, im_X6_readChain, se_X6_readChain, _, rfl, rfl, by decide⟩
set_option maxRecDepth 100000 in
theorem hd_X6_readPart : pd_hd mi_X6_readPart ∈ pd_TB := pd_tb (i := 789) (by rfl) (by decide +kernel)
set_option maxRecDepth 100000 in
theorem in_X6_readPart : Cond.initialized mi_X6_readPart.1.cls ∈ pd_TB := pd_tb (i := 95) (by decide +kernel) (by decide +kernel)
theorem cb_X6_readPart : pd_CB mi_X6_readPart 1 := ⟨hd_X6_readPart, in_X6_readPart, by decide +kernel, by decide +kernel, by decide, rfl⟩
set_option maxRecDepth 100000 in
theorem im_X6_readPart : Cond.instanceMethod mi_X6_readPart.1 ∈ pd_TB := pd_tb (i := 788) (by decide +kernel) (by decide +kernel)
set_option maxRecDepth 100000 in
theorem se_X6_readPart : Cond.selects mi_X6_readPart.1.cls mi_X6_readPart.1 mi_X6_readPart.1 ∈ pd_TB := pd_tb (i := 35) (by decide +kernel) (by decide +kernel)
set_option maxRecDepth 100000 in
theorem mlX6_143 : Cond.methodLink RX6 143 mi_X6_readPart.1 ∈ pd_TB := pd_tb (i := 786) (by decide +kernel) (by decide +kernel)
theorem cvX6_143 : pd_CV RX6 143 mi_X6_readPart 1 5 := ⟨cb_X6_readPart, mlX6_143, im_X6_readPart, se_X6_readPart, _, rfl, rfl, by decide⟩
set_option maxRecDepth 100000 in
theorem hd_X6_readComparison : pd_hd mi_X6_readComparison ∈ pd_TB := pd_tb (i := 793) (by rfl) (by decide +kernel)
set_option maxRecDepth 100000 in
theorem in_X6_readComparison : Cond.initialized mi_X6_readComparison.1.cls ∈ pd_TB := pd_tb (i := 95) (by decide +kernel) (by decide +kernel)
theorem cb_X6_readComparison : pd_CB mi_X6_readComparison 0 := ⟨hd_X6_readComparison, in_X6_readComparison, by decide +kernel, by decide +kernel, by decide, rfl⟩
set_option maxRecDepth 100000 in
theorem im_X6_readComparison : Cond.instanceMethod mi_X6_readComparison.1 ∈ pd_TB := pd_tb (i := 792) (by decide +kernel) (by decide +kernel)
set_option maxRecDepth 100000 in
theorem se_X6_readComparison : Cond.selects mi_X6_readComparison.1.cls mi_X6_readComparison.1 mi_X6_readComparison.1 ∈ pd_TB := pd_tb (i := 36) (by decide +kernel) (by decide +kernel)
set_option maxRecDepth 100000 in
theorem mlX6_146 : Cond.methodLink RX6 146 mi_X6_readComparison.1 ∈ pd_TB := pd_tb (i := 790) (by decide +kernel) (by decide +kernel)
theorem cvX6_146 : pd_CV RX6 146 mi_X6_readComparison 0 5 := ⟨cb_X6_readComparison, mlX6_146, im_X6_readComparison, se_X6_readComparison, _, rfl, rfl, by decide⟩
set_option maxRecDepth 100000 in
theorem hd_X6_takeOperand : pd_hd mi_X6_takeOperand ∈ pd_TB := pd_tb (i := 797) (by rfl) (by decide +kernel)
set_option maxRecDepth 100000 in
theorem in_X6_takeOperand : Cond.initialized mi_X6_takeOperand.1.cls ∈ pd_TB := pd_tb (i := 95) (by decide +kernel) (by decide +kernel)
theorem cb_X6_takeOperand : pd_CB mi_X6_takeOperand 0 := ⟨hd_X6_takeOperand, in_X6_takeOperand, by decide +kernel, by decide +kernel, by decide, rfl⟩
set_option maxRecDepth 100000 in
theorem im_X6_takeOperand : Cond.instanceMethod mi_X6_takeOperand.1 ∈ pd_TB := pd_tb (i := 796) (by decide +kernel) (by decide +kernel)
set_option maxRecDepth 100000 in
theorem se_X6_takeOperand : Cond.selects mi_X6_takeOperand.1.cls mi_X6_takeOperand.1 mi_X6_takeOperand.1 ∈ pd_TB := pd_tb (i := 37) (by decide +kernel) (by decide +kernel)
set_option maxRecDepth 100000 in
theorem mlX6_149 : Cond.methodLink RX6 149 mi_X6_takeOperand.1 ∈ pd_TB := pd_tb (i := 794) (by decide +kernel) (by decide +kernel)
theorem cvX6_149 : pd_CV RX6 149 mi_X6_takeOperand 0 5 := ⟨cb_X6_takeOperand, mlX6_149, im_X6_takeOperand, se_X6_takeOperand, _, rfl, rfl, by decide⟩
set_option maxRecDepth 100000 in
theorem hd_X6_factOf : pd_hd mi_X6_factOf ∈ pd_TB := pd_tb (i := 800) (by rfl) (by decide +kernel)
set_option maxRecDepth 100000 in
theorem in_X6_factOf : Cond.initialized mi_X6_factOf.1.cls ∈ pd_TB := pd_tb (i := 95) (by decide +kernel) (by decide +kernel)
theorem cb_X6_factOf : pd_CB mi_X6_factOf 1 := ⟨hd_X6_factOf, in_X6_factOf, by decide +kernel, by decide +kernel, by decide, rfl⟩
set_option maxRecDepth 100000 in
theorem st_X6_factOf : Cond.static mi_X6_factOf.1 ∈ pd_TB := pd_tb (i := 799) (by decide +kernel) (by decide +kernel)
set_option maxRecDepth 100000 in
theorem mlX6_155 : Cond.methodLink RX6 155 mi_X6_factOf.1 ∈ pd_TB := pd_tb (i := 798) (by decide +kernel) (by decide +kernel)
theorem csX6_155 : pd_CS RX6 155 mi_X6_factOf 1 := ⟨cb_X6_factOf, mlX6_155, st_X6_factOf⟩
set_option maxRecDepth 100000 in
theorem hd_X4_addComparison : pd_hd mi_X4_addComparison ∈ pd_TB := pd_tb (i := 804) (by rfl) (by decide +kernel)
set_option maxRecDepth 100000 in
theorem in_X4_addComparison : Cond.initialized mi_X4_addComparison.1.cls ∈ pd_TB := pd_tb (i := 99) (by decide +kernel) (by decide +kernel)
theorem cb_X4_addComparison : pd_CB mi_X4_addComparison 3 := ⟨hd_X4_addComparison, in_X4_addComparison, by decide +kernel, by decide +kernel, by decide, rfl⟩
set_option maxRecDepth 100000 in
theorem im_X4_addComparison : Cond.instanceMethod mi_X4_addComparison.1 ∈ pd_TB := pd_tb (i := 802) (by decide +kernel) (by decide +kernel)
set_option maxRecDepth 100000 in
theorem se_X4_addComparison : Cond.selects mi_X4_addComparison.1.cls mi_X4_addComparison.1 mi_X4_addComparison.1 ∈ pd_TB := pd_tb (i := 803) (by decide +kernel) (by decide +kernel)
set_option maxRecDepth 100000 in
theorem mlX6_152 : Cond.methodLink RX6 152 mi_X4_addComparison.1 ∈ pd_TB := pd_tb (i := 801) (by decide +kernel) (by decide +kernel)
theorem cvX6_152 : pd_CV RX6 152 mi_X4_addComparison 3 3 := ⟨cb_X4_addComparison, mlX6_152, im_X4_addComparison, se_X4_addComparison, _, rfl, rfl, by decide⟩
set_option maxRecDepth 100000 in
theorem hd_X4_add : pd_hd mi_X4_add ∈ pd_TB := pd_tb (i := 808) (by rfl) (by decide +kernel)
set_option maxRecDepth 100000 in
theorem in_X4_add : Cond.initialized mi_X4_add.1.cls ∈ pd_TB := pd_tb (i := 99) (by decide +kernel) (by decide +kernel)
theorem cb_X4_add : pd_CB mi_X4_add 1 := ⟨hd_X4_add, in_X4_add, by decide +kernel, by decide +kernel, by decide, rfl⟩
set_option maxRecDepth 100000 in
theorem im_X4_add : Cond.instanceMethod mi_X4_add.1 ∈ pd_TB := pd_tb (i := 806) (by decide +kernel) (by decide +kernel)
set_option maxRecDepth 100000 in
theorem se_X4_add : Cond.selects mi_X4_add.1.cls mi_X4_add.1 mi_X4_add.1 ∈ pd_TB := pd_tb (i := 807) (by decide +kernel) (by decide +kernel)
set_option maxRecDepth 100000 in
theorem mlX4_19 : Cond.methodLink RX4 19 mi_X4_add.1 ∈ pd_TB := pd_tb (i := 805) (by decide +kernel) (by decide +kernel)
theorem cvX4_19 : pd_CV RX4 19 mi_X4_add 1 3 := ⟨cb_X4_add, mlX4_19, im_X4_add, se_X4_add, _, rfl, rfl, by decide⟩
set_option maxRecDepth 100000 in
theorem hd_X6_takeSign : pd_hd mi_X6_takeSign ∈ pd_TB := pd_tb (i := 812) (by rfl) (by decide +kernel)
set_option maxRecDepth 100000 in
theorem in_X6_takeSign : Cond.initialized mi_X6_takeSign.1.cls ∈ pd_TB := pd_tb (i := 95) (by decide +kernel) (by decide +kernel)
theorem cb_X6_takeSign : pd_CB mi_X6_takeSign 1 := ⟨hd_X6_takeSign, in_X6_takeSign, by decide +kernel, by decide +kernel, by decide, rfl⟩
set_option maxRecDepth 100000 in
theorem im_X6_takeSign : Cond.instanceMethod mi_X6_takeSign.1 ∈ pd_TB := pd_tb (i := 811) (by decide +kernel) (by decide +kernel)
set_option maxRecDepth 100000 in
theorem se_X6_takeSign : Cond.selects mi_X6_takeSign.1.cls mi_X6_takeSign.1 mi_X6_takeSign.1 ∈ pd_TB := pd_tb (i := 38) (by decide +kernel) (by decide +kernel)
set_option maxRecDepth 100000 in
theorem mlX6_47 : Cond.methodLink RX6 47 mi_X6_takeSign.1 ∈ pd_TB := pd_tb (i := 809) (by decide +kernel) (by decide +kernel)
theorem cvX6_47 : pd_CV RX6 47 mi_X6_takeSign 1 5 := ⟨cb_X6_takeSign, mlX6_47, im_X6_takeSign, se_X6_takeSign, _, rfl, rfl, by decide⟩
set_option maxRecDepth 100000 in
theorem mlX6_140 : Cond.methodLink RX6 140 mi_X4_add.1 ∈ pd_TB := pd_tb (i := 813) (by decide +kernel) (by decide +kernel)
theorem cvX6_140 : pd_CV RX6 140 mi_X4_add 1 3 := ⟨cb_X4_add, mlX6_140, im_X4_add, se_X4_add, _, rfl, rfl, by decide⟩
set_option maxRecDepth 100000 in
theorem hd_X8_keepForUndo : pd_hd mi_X8_keepForUndo ∈ pd_TB := pd_tb (i := 817) (by rfl) (by decide +kernel)
set_option maxRecDepth 100000 in
theorem in_X8_keepForUndo : Cond.initialized mi_X8_keepForUndo.1.cls ∈ pd_TB := pd_tb (i := 94) (by decide +kernel) (by decide +kernel)
theorem cb_X8_keepForUndo : pd_CB mi_X8_keepForUndo 0 := ⟨hd_X8_keepForUndo, in_X8_keepForUndo, by decide +kernel, by decide +kernel, by decide, rfl⟩
set_option maxRecDepth 100000 in
theorem im_X8_keepForUndo : Cond.instanceMethod mi_X8_keepForUndo.1 ∈ pd_TB := pd_tb (i := 816) (by decide +kernel) (by decide +kernel)
set_option maxRecDepth 100000 in
theorem se_X8_keepForUndo : Cond.selects mi_X8_keepForUndo.1.cls mi_X8_keepForUndo.1 mi_X8_keepForUndo.1 ∈ pd_TB := pd_tb (i := 39) (by decide +kernel) (by decide +kernel)
set_option maxRecDepth 100000 in
theorem mlX8_85 : Cond.methodLink RX8 85 mi_X8_keepForUndo.1 ∈ pd_TB := pd_tb (i := 814) (by decide +kernel) (by decide +kernel)
theorem cvX8_85 : pd_CV RX8 85 mi_X8_keepForUndo 0 7 := ⟨cb_X8_keepForUndo, mlX8_85, im_X8_keepForUndo, se_X8_keepForUndo, _, rfl, rfl, by decide⟩
set_option maxRecDepth 100000 in
theorem hd_X3_copyFrom : pd_hd mi_X3_copyFrom ∈ pd_TB := pd_tb (i := 821) (by rfl) (by decide +kernel)
set_option maxRecDepth 100000 in
theorem in_X3_copyFrom : Cond.initialized mi_X3_copyFrom.1.cls ∈ pd_TB := pd_tb (i := 98) (by decide +kernel) (by decide +kernel)
theorem cb_X3_copyFrom : pd_CB mi_X3_copyFrom 1 := ⟨hd_X3_copyFrom, in_X3_copyFrom, by decide +kernel, by decide +kernel, by decide, rfl⟩
set_option maxRecDepth 100000 in
theorem im_X3_copyFrom : Cond.instanceMethod mi_X3_copyFrom.1 ∈ pd_TB := pd_tb (i := 819) (by decide +kernel) (by decide +kernel)
set_option maxRecDepth 100000 in
theorem se_X3_copyFrom : Cond.selects mi_X3_copyFrom.1.cls mi_X3_copyFrom.1 mi_X3_copyFrom.1 ∈ pd_TB := pd_tb (i := 820) (by decide +kernel) (by decide +kernel)
set_option maxRecDepth 100000 in
theorem mlX8_91 : Cond.methodLink RX8 91 mi_X3_copyFrom.1 ∈ pd_TB := pd_tb (i := 818) (by decide +kernel) (by decide +kernel)
theorem cvX8_91 : pd_CV RX8 91 mi_X3_copyFrom 1 2 := ⟨cb_X3_copyFrom, mlX8_91, im_X3_copyFrom, se_X3_copyFrom, _, rfl, rfl, by decide⟩
set_option maxRecDepth 100000 in
theorem hd_X4_copyFrom : pd_hd mi_X4_copyFrom ∈ pd_TB := pd_tb (i := 825) (by rfl) (by decide +kernel)
set_option maxRecDepth 100000 in
theorem in_X4_copyFrom : Cond.initialized mi_X4_copyFrom.1.cls ∈ pd_TB := pd_tb (i := 99) (by decide +kernel) (by decide +kernel)
theorem cb_X4_copyFrom : pd_CB mi_X4_copyFrom 1 := ⟨hd_X4_copyFrom, in_X4_copyFrom, by decide +kernel, by decide +kernel, by decide, rfl⟩
set_option maxRecDepth 100000 in
theorem im_X4_copyFrom : Cond.instanceMethod mi_X4_copyFrom.1 ∈ pd_TB := pd_tb (i := 823) (by decide +kernel) (by decide +kernel)
set_option maxRecDepth 100000 in
theorem se_X4_copyFrom : Cond.selects mi_X4_copyFrom.1.cls mi_X4_copyFrom.1 mi_X4_copyFrom.1 ∈ pd_TB := pd_tb (i := 824) (by decide +kernel) (by decide +kernel)
set_option maxRecDepth 100000 in
theorem mlX3_80 : Cond.methodLink RX3 80 mi_X4_copyFrom.1 ∈ pd_TB := pd_tb (i := 822) (by decide +kernel) (by decide +kernel)
theorem cvX3_80 : pd_CV RX3 80 mi_X4_copyFrom 1 3 := ⟨cb_X4_copyFrom, mlX3_80, im_X4_copyFrom, se_X4_copyFrom, _, rfl, rfl, by decide⟩
set_option maxRecDepth 100000 in
theorem hd_L_sample : pd_hd mi_L_sample ∈ pd_TB := pd_tb (i := 829) (by rfl) (by decide +kernel)
set_option maxRecDepth 100000 in
theorem in_L_sample : Cond.initialized mi_L_sample.1.cls ∈ pd_TB := pd_tb (i := 93) (by decide +kernel) (by decide +kernel)
set_option maxRecDepth 100000 in
theorem st_L_sample : Cond.static mi_L_sample.1 ∈ pd_TB := pd_tb (i := 828) (by decide +kernel) (by decide +kernel)
set_option maxRecDepth 100000 in
theorem mlL_94 : Cond.methodLink RL 94 mi_L_sample.1 ∈ pd_TB := pd_tb (i := 827) (by decide +kernel) (by decide +kernel)
set_option maxRecDepth 100000 in
theorem hd_X8_sample : pd_hd mi_X8_sample ∈ pd_TB := pd_tb (i := 833) (by rfl) (by decide +kernel)
set_option maxRecDepth 100000 in
theorem in_X8_sample : Cond.initialized mi_X8_sample.1.cls ∈ pd_TB := pd_tb (i := 94) (by decide +kernel) (by decide +kernel)
theorem cb_X8_sample : pd_CB mi_X8_sample 3 := ⟨hd_X8_sample, in_X8_sample, by decide +kernel, by decide +kernel, by decide, rfl⟩
set_option maxRecDepth 100000 in
theorem im_X8_sample : Cond.instanceMethod mi_X8_sample.1 ∈ pd_TB := pd_tb (i := 831) (by decide +kernel) (by decide +kernel)
set_option maxRecDepth 100000 in
theorem se_X8_sample : Cond.selects mi_X8_sample.1.cls mi_X8_sample.1 mi_X8_sample.1 ∈ pd_TB := pd_tb (i := 832) (by decide +kernel) (by decide +kernel)
set_option maxRecDepth 100000 in
theorem mlL_15 : Cond.methodLink RL 15 mi_X8_sample.1 ∈ pd_TB := pd_tb (i := 830) (by decide +kernel) (by decide +kernel)
theorem cvL_15 : pd_CV RL 15 mi_X8_sample 3 7 := ⟨cb_X8_sample, mlL_15, im_X8_sample, se_X8_sample, _, rfl, rfl, by decide⟩
set_option maxRecDepth 100000 in
theorem hd_X8_drawLines : pd_hd mi_X8_drawLines ∈ pd_TB := pd_tb (i := 837) (by rfl) (by decide +kernel)
set_option maxRecDepth 100000 in
theorem in_X8_drawLines : Cond.initialized mi_X8_drawLines.1.cls ∈ pd_TB := pd_tb (i := 94) (by decide +kernel) (by decide +kernel)
theorem cb_X8_drawLines : pd_CB mi_X8_drawLines 2 := ⟨hd_X8_drawLines, in_X8_drawLines, by decide +kernel, by decide +kernel, by decide, rfl⟩
set_option maxRecDepth 100000 in
theorem im_X8_drawLines : Cond.instanceMethod mi_X8_drawLines.1 ∈ pd_TB := pd_tb (i := 836) (by decide +kernel) (by decide +kernel)
set_option maxRecDepth 100000 in
theorem se_X8_drawLines : Cond.selects mi_X8_drawLines.1.cls mi_X8_drawLines.1 mi_X8_drawLines.1 ∈ pd_TB := pd_tb (i := 40) (by decide +kernel) (by decide +kernel)
set_option maxRecDepth 100000 in
theorem mlX8_101 : Cond.methodLink RX8 101 mi_X8_drawLines.1 ∈ pd_TB := pd_tb (i := 834) (by decide +kernel) (by decide +kernel)
theorem cvX8_101 : pd_CV RX8 101 mi_X8_drawLines 2 7 := ⟨cb_X8_drawLines, mlX8_101, im_X8_drawLines, se_X8_drawLines, _, rfl, rfl, by decide⟩
set_option maxRecDepth 100000 in
theorem hd_X8_indexOfUndrawn : pd_hd mi_X8_indexOfUndrawn ∈ pd_TB := pd_tb (i := 842) (by rfl) (by decide +kernel)
set_option maxRecDepth 100000 in
theorem in_X8_indexOfUndrawn : Cond.initialized mi_X8_indexOfUndrawn.1.cls ∈ pd_TB := pd_tb (i := 94) (by decide +kernel) (by decide +kernel)
theorem cb_X8_indexOfUndrawn : pd_CB mi_X8_indexOfUndrawn 2 := ⟨hd_X8_indexOfUndrawn, in_X8_indexOfUndrawn, by decide +kernel, by decide +kernel, by decide, rfl⟩
set_option maxRecDepth 100000 in
theorem im_X8_indexOfUndrawn : Cond.instanceMethod mi_X8_indexOfUndrawn.1 ∈ pd_TB := pd_tb (i := 841) (by decide +kernel) (by decide +kernel)
set_option maxRecDepth 100000 in
theorem se_X8_indexOfUndrawn : Cond.selects mi_X8_indexOfUndrawn.1.cls mi_X8_indexOfUndrawn.1 mi_X8_indexOfUndrawn.1 ∈ pd_TB := pd_tb (i := 41) (by decide +kernel) (by decide +kernel)
set_option maxRecDepth 100000 in
theorem mlX8_308 : Cond.methodLink RX8 308 mi_X8_indexOfUndrawn.1 ∈ pd_TB := pd_tb (i := 839) (by decide +kernel) (by decide +kernel)
theorem cvX8_308 : pd_CV RX8 308 mi_X8_indexOfUndrawn 2 7 := ⟨cb_X8_indexOfUndrawn, mlX8_308, im_X8_indexOfUndrawn, se_X8_indexOfUndrawn, _, rfl, rfl, by decide⟩
set_option maxRecDepth 100000 in
theorem hd_X1_goodIn : pd_hd mi_X1_goodIn ∈ pd_TB := pd_tb (i := 846) (by rfl) (by decide +kernel)
set_option maxRecDepth 100000 in
theorem in_X1_goodIn : Cond.initialized mi_X1_goodIn.1.cls ∈ pd_TB := pd_tb (i := 100) (by decide +kernel) (by decide +kernel)
theorem cb_X1_goodIn : pd_CB mi_X1_goodIn 1 := ⟨hd_X1_goodIn, in_X1_goodIn, by decide +kernel, by decide +kernel, by decide, rfl⟩
set_option maxRecDepth 100000 in
theorem im_X1_goodIn : Cond.instanceMethod mi_X1_goodIn.1 ∈ pd_TB := pd_tb (i := 844) (by decide +kernel) (by decide +kernel)
set_option maxRecDepth 100000 in
theorem se_X1_goodIn : Cond.selects mi_X1_goodIn.1.cls mi_X1_goodIn.1 mi_X1_goodIn.1 ∈ pd_TB := pd_tb (i := 845) (by decide +kernel) (by decide +kernel)
set_option maxRecDepth 100000 in
theorem mlX8_112 : Cond.methodLink RX8 112 mi_X1_goodIn.1 ∈ pd_TB := pd_tb (i := 843) (by decide +kernel) (by decide +kernel)
theorem cvX8_112 : pd_CV RX8 112 mi_X1_goodIn 1 1 := ⟨cb_X1_goodIn, mlX8_112, im_X1_goodIn, se_X1_goodIn, _, rfl, rfl, by decide⟩
set_option maxRecDepth 100000 in
theorem hd_X1_isGoodIn : pd_hd mi_X1_isGoodIn ∈ pd_TB := pd_tb (i := 850) (by rfl) (by decide +kernel)
set_option maxRecDepth 100000 in
theorem in_X1_isGoodIn : Cond.initialized mi_X1_isGoodIn.1.cls ∈ pd_TB := pd_tb (i := 100) (by decide +kernel) (by decide +kernel)
theorem cb_X1_isGoodIn : pd_CB mi_X1_isGoodIn 2 := ⟨hd_X1_isGoodIn, in_X1_isGoodIn, by decide +kernel, by decide +kernel, by decide, rfl⟩
set_option maxRecDepth 100000 in
theorem im_X1_isGoodIn : Cond.instanceMethod mi_X1_isGoodIn.1 ∈ pd_TB := pd_tb (i := 849) (by decide +kernel) (by decide +kernel)
set_option maxRecDepth 100000 in
theorem se_X1_isGoodIn : Cond.selects mi_X1_isGoodIn.1.cls mi_X1_isGoodIn.1 mi_X1_isGoodIn.1 ∈ pd_TB := pd_tb (i := 42) (by decide +kernel) (by decide +kernel)
set_option maxRecDepth 100000 in
theorem mlX1_122 : Cond.methodLink RX1 122 mi_X1_isGoodIn.1 ∈ pd_TB := pd_tb (i := 847) (by decide +kernel) (by decide +kernel)
theorem cvX1_122 : pd_CV RX1 122 mi_X1_isGoodIn 2 1 := ⟨cb_X1_isGoodIn, mlX1_122, im_X1_isGoodIn, se_X1_isGoodIn, _, rfl, rfl, by decide⟩
set_option maxRecDepth 100000 in
theorem hd_X1_isGood : pd_hd mi_X1_isGood ∈ pd_TB := pd_tb (i := 854) (by rfl) (by decide +kernel)
set_option maxRecDepth 100000 in
theorem in_X1_isGood : Cond.initialized mi_X1_isGood.1.cls ∈ pd_TB := pd_tb (i := 100) (by decide +kernel) (by decide +kernel)
theorem cb_X1_isGood : pd_CB mi_X1_isGood 1 := ⟨hd_X1_isGood, in_X1_isGood, by decide +kernel, by decide +kernel, by decide, rfl⟩
set_option maxRecDepth 100000 in
theorem im_X1_isGood : Cond.instanceMethod mi_X1_isGood.1 ∈ pd_TB := pd_tb (i := 853) (by decide +kernel) (by decide +kernel)
set_option maxRecDepth 100000 in
theorem se_X1_isGood : Cond.selects mi_X1_isGood.1.cls mi_X1_isGood.1 mi_X1_isGood.1 ∈ pd_TB := pd_tb (i := 43) (by decide +kernel) (by decide +kernel)
set_option maxRecDepth 100000 in
theorem mlX1_119 : Cond.methodLink RX1 119 mi_X1_isGood.1 ∈ pd_TB := pd_tb (i := 851) (by decide +kernel) (by decide +kernel)
theorem cvX1_119 : pd_CV RX1 119 mi_X1_isGood 1 1 := ⟨cb_X1_isGood, mlX1_119, im_X1_isGood, se_X1_isGood, _, rfl, rfl, by decide⟩
set_option maxRecDepth 100000 in
theorem hd_L_strike : pd_hd mi_L_strike ∈ pd_TB := pd_tb (i := 857) (by rfl) (by decide +kernel)
set_option maxRecDepth 100000 in
theorem in_L_strike : Cond.initialized mi_L_strike.1.cls ∈ pd_TB := pd_tb (i := 93) (by decide +kernel) (by decide +kernel)
set_option maxRecDepth 100000 in
theorem st_L_strike : Cond.static mi_L_strike.1 ∈ pd_TB := pd_tb (i := 856) (by decide +kernel) (by decide +kernel)
set_option maxRecDepth 100000 in
theorem mlL_98 : Cond.methodLink RL 98 mi_L_strike.1 ∈ pd_TB := pd_tb (i := 855) (by decide +kernel) (by decide +kernel)
set_option maxRecDepth 100000 in
theorem hd_X8_strike : pd_hd mi_X8_strike ∈ pd_TB := pd_tb (i := 862) (by rfl) (by decide +kernel)
set_option maxRecDepth 100000 in
theorem in_X8_strike : Cond.initialized mi_X8_strike.1.cls ∈ pd_TB := pd_tb (i := 94) (by decide +kernel) (by decide +kernel)
theorem cb_X8_strike : pd_CB mi_X8_strike 2 := ⟨hd_X8_strike, in_X8_strike, by decide +kernel, by decide +kernel, by decide, rfl⟩
set_option maxRecDepth 100000 in
theorem im_X8_strike : Cond.instanceMethod mi_X8_strike.1 ∈ pd_TB := pd_tb (i := 860) (by decide +kernel) (by decide +kernel)
set_option maxRecDepth 100000 in
theorem se_X8_strike : Cond.selects mi_X8_strike.1.cls mi_X8_strike.1 mi_X8_strike.1 ∈ pd_TB := pd_tb (i := 861) (by decide +kernel) (by decide +kernel)
set_option maxRecDepth 100000 in
theorem mlL_19 : Cond.methodLink RL 19 mi_X8_strike.1 ∈ pd_TB := pd_tb (i := 859) (by decide +kernel) (by decide +kernel)
theorem cvL_19 : pd_CV RL 19 mi_X8_strike 2 7 := ⟨cb_X8_strike, mlL_19, im_X8_strike, se_X8_strike, _, rfl, rfl, by decide⟩
set_option maxRecDepth 100000 in
theorem hd_X8_isSheet : pd_hd mi_X8_isSheet ∈ pd_TB := pd_tb (i := 866) (by rfl) (by decide +kernel)
set_option maxRecDepth 100000 in
theorem in_X8_isSheet : Cond.initialized mi_X8_isSheet.1.cls ∈ pd_TB := pd_tb (i := 94) (by decide +kernel) (by decide +kernel)
theorem cb_X8_isSheet : pd_CB mi_X8_isSheet 1 := ⟨hd_X8_isSheet, in_X8_isSheet, by decide +kernel, by decide +kernel, by decide, rfl⟩
set_option maxRecDepth 100000 in
theorem im_X8_isSheet : Cond.instanceMethod mi_X8_isSheet.1 ∈ pd_TB := pd_tb (i := 865) (by decide +kernel) (by decide +kernel)
set_option maxRecDepth 100000 in
theorem se_X8_isSheet : Cond.selects mi_X8_isSheet.1.cls mi_X8_isSheet.1 mi_X8_isSheet.1 ∈ pd_TB := pd_tb (i := 44) (by decide +kernel) (by decide +kernel)
set_option maxRecDepth 100000 in
theorem mlX8_116 : Cond.methodLink RX8 116 mi_X8_isSheet.1 ∈ pd_TB := pd_tb (i := 863) (by decide +kernel) (by decide +kernel)
theorem cvX8_116 : pd_CV RX8 116 mi_X8_isSheet 1 7 := ⟨cb_X8_isSheet, mlX8_116, im_X8_isSheet, se_X8_isSheet, _, rfl, rfl, by decide⟩
set_option maxRecDepth 100000 in
theorem hd_X8_requireFound : pd_hd mi_X8_requireFound ∈ pd_TB := pd_tb (i := 870) (by rfl) (by decide +kernel)
set_option maxRecDepth 100000 in
theorem in_X8_requireFound : Cond.initialized mi_X8_requireFound.1.cls ∈ pd_TB := pd_tb (i := 94) (by decide +kernel) (by decide +kernel)
theorem cb_X8_requireFound : pd_CB mi_X8_requireFound 1 := ⟨hd_X8_requireFound, in_X8_requireFound, by decide +kernel, by decide +kernel, by decide, rfl⟩
set_option maxRecDepth 100000 in
theorem im_X8_requireFound : Cond.instanceMethod mi_X8_requireFound.1 ∈ pd_TB := pd_tb (i := 869) (by decide +kernel) (by decide +kernel)
set_option maxRecDepth 100000 in
theorem se_X8_requireFound : Cond.selects mi_X8_requireFound.1.cls mi_X8_requireFound.1 mi_X8_requireFound.1 ∈ pd_TB := pd_tb (i := 45) (by decide +kernel) (by decide +kernel)
set_option maxRecDepth 100000 in
theorem mlX8_119 : Cond.methodLink RX8 119 mi_X8_requireFound.1 ∈ pd_TB := pd_tb (i := 867) (by decide +kernel) (by decide +kernel)
theorem cvX8_119 : pd_CV RX8 119 mi_X8_requireFound 1 7 := ⟨cb_X8_requireFound, mlX8_119, im_X8_requireFound, se_X8_requireFound, _, rfl, rfl, by decide⟩
set_option maxRecDepth 100000 in
theorem hd_X3_isByHand : pd_hd mi_X3_isByHand ∈ pd_TB := pd_tb (i := 890) (by rfl) (by decide +kernel)
set_option maxRecDepth 100000 in
theorem in_X3_isByHand : Cond.initialized mi_X3_isByHand.1.cls ∈ pd_TB := pd_tb (i := 98) (by decide +kernel) (by decide +kernel)
theorem cb_X3_isByHand : pd_CB mi_X3_isByHand 1 := ⟨hd_X3_isByHand, in_X3_isByHand, by decide +kernel, by decide +kernel, by decide, rfl⟩
set_option maxRecDepth 100000 in
theorem im_X3_isByHand : Cond.instanceMethod mi_X3_isByHand.1 ∈ pd_TB := pd_tb (i := 888) (by decide +kernel) (by decide +kernel)
set_option maxRecDepth 100000 in
theorem se_X3_isByHand : Cond.selects mi_X3_isByHand.1.cls mi_X3_isByHand.1 mi_X3_isByHand.1 ∈ pd_TB := pd_tb (i := 889) (by decide +kernel) (by decide +kernel)
set_option maxRecDepth 100000 in
theorem mlX8_122 : Cond.methodLink RX8 122 mi_X3_isByHand.1 ∈ pd_TB := pd_tb (i := 887) (by decide +kernel) (by decide +kernel)
theorem cvX8_122 : pd_CV RX8 122 mi_X3_isByHand 1 2 := ⟨cb_X3_isByHand, mlX8_122, im_X3_isByHand, se_X3_isByHand, _, rfl, rfl, by decide⟩
set_option maxRecDepth 100000 in
theorem hd_L_sign : pd_hd mi_L_sign ∈ pd_TB := pd_tb (i := 893) (by rfl) (by decide +kernel)
set_option maxRecDepth 100000 in
theorem in_L_sign : Cond.initialized mi_L_sign.1.cls ∈ pd_TB := pd_tb (i := 93) (by decide +kernel) (by decide +kernel)
set_option maxRecDepth 100000 in
theorem st_L_sign : Cond.static mi_L_sign.1 ∈ pd_TB := pd_tb (i := 892) (by decide +kernel) (by decide +kernel)
set_option maxRecDepth 100000 in
theorem mlL_102 : Cond.methodLink RL 102 mi_L_sign.1 ∈ pd_TB := pd_tb (i := 891) (by decide +kernel) (by decide +kernel)
set_option maxRecDepth 100000 in
theorem hd_X8_sign : pd_hd mi_X8_sign ∈ pd_TB := pd_tb (i := 898) (by rfl) (by decide +kernel)
set_option maxRecDepth 100000 in
theorem in_X8_sign : Cond.initialized mi_X8_sign.1.cls ∈ pd_TB := pd_tb (i := 94) (by decide +kernel) (by decide +kernel)
theorem cb_X8_sign : pd_CB mi_X8_sign 3 := ⟨hd_X8_sign, in_X8_sign, by decide +kernel, by decide +kernel, by decide, rfl⟩
set_option maxRecDepth 100000 in
theorem im_X8_sign : Cond.instanceMethod mi_X8_sign.1 ∈ pd_TB := pd_tb (i := 896) (by decide +kernel) (by decide +kernel)
set_option maxRecDepth 100000 in
theorem se_X8_sign : Cond.selects mi_X8_sign.1.cls mi_X8_sign.1 mi_X8_sign.1 ∈ pd_TB := pd_tb (i := 897) (by decide +kernel) (by decide +kernel)
set_option maxRecDepth 100000 in
theorem mlL_25 : Cond.methodLink RL 25 mi_X8_sign.1 ∈ pd_TB := pd_tb (i := 895) (by decide +kernel) (by decide +kernel)
theorem cvL_25 : pd_CV RL 25 mi_X8_sign 3 7 := ⟨cb_X8_sign, mlL_25, im_X8_sign, se_X8_sign, _, rfl, rfl, by decide⟩
set_option maxRecDepth 100000 in
theorem hd_X8_isVoter : pd_hd mi_X8_isVoter ∈ pd_TB := pd_tb (i := 902) (by rfl) (by decide +kernel)
set_option maxRecDepth 100000 in
theorem in_X8_isVoter : Cond.initialized mi_X8_isVoter.1.cls ∈ pd_TB := pd_tb (i := 94) (by decide +kernel) (by decide +kernel)
theorem cb_X8_isVoter : pd_CB mi_X8_isVoter 1 := ⟨hd_X8_isVoter, in_X8_isVoter, by decide +kernel, by decide +kernel, by decide, rfl⟩
set_option maxRecDepth 100000 in
theorem im_X8_isVoter : Cond.instanceMethod mi_X8_isVoter.1 ∈ pd_TB := pd_tb (i := 901) (by decide +kernel) (by decide +kernel)
set_option maxRecDepth 100000 in
theorem se_X8_isVoter : Cond.selects mi_X8_isVoter.1.cls mi_X8_isVoter.1 mi_X8_isVoter.1 ∈ pd_TB := pd_tb (i := 46) (by decide +kernel) (by decide +kernel)
set_option maxRecDepth 100000 in
theorem mlX8_128 : Cond.methodLink RX8 128 mi_X8_isVoter.1 ∈ pd_TB := pd_tb (i := 899) (by decide +kernel) (by decide +kernel)
theorem cvX8_128 : pd_CV RX8 128 mi_X8_isVoter 1 7 := ⟨cb_X8_isVoter, mlX8_128, im_X8_isVoter, se_X8_isVoter, _, rfl, rfl, by decide⟩
set_option maxRecDepth 100000 in
theorem hd_X8_requireState : pd_hd mi_X8_requireState ∈ pd_TB := pd_tb (i := 906) (by rfl) (by decide +kernel)
set_option maxRecDepth 100000 in
theorem in_X8_requireState : Cond.initialized mi_X8_requireState.1.cls ∈ pd_TB := pd_tb (i := 94) (by decide +kernel) (by decide +kernel)
theorem cb_X8_requireState : pd_CB mi_X8_requireState 1 := ⟨hd_X8_requireState, in_X8_requireState, by decide +kernel, by decide +kernel, by decide, rfl⟩
set_option maxRecDepth 100000 in
theorem im_X8_requireState : Cond.instanceMethod mi_X8_requireState.1 ∈ pd_TB := pd_tb (i := 905) (by decide +kernel) (by decide +kernel)
set_option maxRecDepth 100000 in
theorem se_X8_requireState : Cond.selects mi_X8_requireState.1.cls mi_X8_requireState.1 mi_X8_requireState.1 ∈ pd_TB := pd_tb (i := 47) (by decide +kernel) (by decide +kernel)
set_option maxRecDepth 100000 in
theorem mlX8_131 : Cond.methodLink RX8 131 mi_X8_requireState.1 ∈ pd_TB := pd_tb (i := 903) (by decide +kernel) (by decide +kernel)
theorem cvX8_131 : pd_CV RX8 131 mi_X8_requireState 1 7 := ⟨cb_X8_requireState, mlX8_131, im_X8_requireState, se_X8_requireState, _, rfl, rfl, by decide⟩
set_option maxRecDepth 100000 in
theorem hd_X3_linesOn : pd_hd mi_X3_linesOn ∈ pd_TB := pd_tb (i := 926) (by rfl) (by decide +kernel)
set_option maxRecDepth 100000 in
theorem in_X3_linesOn : Cond.initialized mi_X3_linesOn.1.cls ∈ pd_TB := pd_tb (i := 98) (by decide +kernel) (by decide +kernel)
theorem cb_X3_linesOn : pd_CB mi_X3_linesOn 1 := ⟨hd_X3_linesOn, in_X3_linesOn, by decide +kernel, by decide +kernel, by decide, rfl⟩
set_option maxRecDepth 100000 in
theorem im_X3_linesOn : Cond.instanceMethod mi_X3_linesOn.1 ∈ pd_TB := pd_tb (i := 924) (by decide +kernel) (by decide +kernel)
set_option maxRecDepth 100000 in
theorem se_X3_linesOn : Cond.selects mi_X3_linesOn.1.cls mi_X3_linesOn.1 mi_X3_linesOn.1 ∈ pd_TB := pd_tb (i := 925) (by decide +kernel) (by decide +kernel)
set_option maxRecDepth 100000 in
theorem mlX8_134 : Cond.methodLink RX8 134 mi_X3_linesOn.1 ∈ pd_TB := pd_tb (i := 923) (by decide +kernel) (by decide +kernel)
theorem cvX8_134 : pd_CV RX8 134 mi_X3_linesOn 1 2 := ⟨cb_X3_linesOn, mlX8_134, im_X3_linesOn, se_X3_linesOn, _, rfl, rfl, by decide⟩
set_option maxRecDepth 100000 in
theorem mlX8_145 : Cond.methodLink RX8 145 mi_X3_addLine.1 ∈ pd_TB := pd_tb (i := 927) (by decide +kernel) (by decide +kernel)
theorem cvX8_145 : pd_CV RX8 145 mi_X3_addLine 4 2 := ⟨cb_X3_addLine, mlX8_145, im_X3_addLine, se_X3_addLine, _, rfl, rfl, by decide⟩
set_option maxRecDepth 100000 in
theorem mlX8_149 : Cond.methodLink RX8 149 mi_X3_emptySamples.1 ∈ pd_TB := pd_tb (i := 928) (by decide +kernel) (by decide +kernel)
theorem cvX8_149 : pd_CV RX8 149 mi_X3_emptySamples 0 2 := ⟨cb_X3_emptySamples, mlX8_149, im_X3_emptySamples, se_X3_emptySamples, _, rfl, rfl, by decide⟩
set_option maxRecDepth 100000 in
theorem hd_L_erase : pd_hd mi_L_erase ∈ pd_TB := pd_tb (i := 931) (by rfl) (by decide +kernel)
set_option maxRecDepth 100000 in
theorem in_L_erase : Cond.initialized mi_L_erase.1.cls ∈ pd_TB := pd_tb (i := 93) (by decide +kernel) (by decide +kernel)
set_option maxRecDepth 100000 in
theorem st_L_erase : Cond.static mi_L_erase.1 ∈ pd_TB := pd_tb (i := 930) (by decide +kernel) (by decide +kernel)
set_option maxRecDepth 100000 in
theorem mlL_105 : Cond.methodLink RL 105 mi_L_erase.1 ∈ pd_TB := pd_tb (i := 929) (by decide +kernel) (by decide +kernel)
set_option maxRecDepth 100000 in
theorem hd_X8_erase : pd_hd mi_X8_erase ∈ pd_TB := pd_tb (i := 935) (by rfl) (by decide +kernel)
set_option maxRecDepth 100000 in
theorem in_X8_erase : Cond.initialized mi_X8_erase.1.cls ∈ pd_TB := pd_tb (i := 94) (by decide +kernel) (by decide +kernel)
theorem cb_X8_erase : pd_CB mi_X8_erase 2 := ⟨hd_X8_erase, in_X8_erase, by decide +kernel, by decide +kernel, by decide, rfl⟩
set_option maxRecDepth 100000 in
theorem im_X8_erase : Cond.instanceMethod mi_X8_erase.1 ∈ pd_TB := pd_tb (i := 933) (by decide +kernel) (by decide +kernel)
set_option maxRecDepth 100000 in
theorem se_X8_erase : Cond.selects mi_X8_erase.1.cls mi_X8_erase.1 mi_X8_erase.1 ∈ pd_TB := pd_tb (i := 934) (by decide +kernel) (by decide +kernel)
set_option maxRecDepth 100000 in
theorem mlL_30 : Cond.methodLink RL 30 mi_X8_erase.1 ∈ pd_TB := pd_tb (i := 932) (by decide +kernel) (by decide +kernel)
theorem cvL_30 : pd_CV RL 30 mi_X8_erase 2 7 := ⟨cb_X8_erase, mlL_30, im_X8_erase, se_X8_erase, _, rfl, rfl, by decide⟩
set_option maxRecDepth 100000 in
theorem hd_X8_isLine : pd_hd mi_X8_isLine ∈ pd_TB := pd_tb (i := 939) (by rfl) (by decide +kernel)
set_option maxRecDepth 100000 in
theorem in_X8_isLine : Cond.initialized mi_X8_isLine.1.cls ∈ pd_TB := pd_tb (i := 94) (by decide +kernel) (by decide +kernel)
theorem cb_X8_isLine : pd_CB mi_X8_isLine 2 := ⟨hd_X8_isLine, in_X8_isLine, by decide +kernel, by decide +kernel, by decide, rfl⟩
set_option maxRecDepth 100000 in
theorem im_X8_isLine : Cond.instanceMethod mi_X8_isLine.1 ∈ pd_TB := pd_tb (i := 938) (by decide +kernel) (by decide +kernel)
set_option maxRecDepth 100000 in
theorem se_X8_isLine : Cond.selects mi_X8_isLine.1.cls mi_X8_isLine.1 mi_X8_isLine.1 ∈ pd_TB := pd_tb (i := 48) (by decide +kernel) (by decide +kernel)
set_option maxRecDepth 100000 in
theorem mlX8_152 : Cond.methodLink RX8 152 mi_X8_isLine.1 ∈ pd_TB := pd_tb (i := 936) (by decide +kernel) (by decide +kernel)
theorem cvX8_152 : pd_CV RX8 152 mi_X8_isLine 2 7 := ⟨cb_X8_isLine, mlX8_152, im_X8_isLine, se_X8_isLine, _, rfl, rfl, by decide⟩
set_option maxRecDepth 100000 in
theorem mlX8_156 : Cond.methodLink RX8 156 mi_X3_firstOf.1 ∈ pd_TB := pd_tb (i := 940) (by decide +kernel) (by decide +kernel)
theorem cvX8_156 : pd_CV RX8 156 mi_X3_firstOf 1 2 := ⟨cb_X3_firstOf, mlX8_156, im_X3_firstOf, se_X3_firstOf, _, rfl, rfl, by decide⟩
set_option maxRecDepth 100000 in
theorem hd_X3_removeLine : pd_hd mi_X3_removeLine ∈ pd_TB := pd_tb (i := 944) (by rfl) (by decide +kernel)
set_option maxRecDepth 100000 in
theorem in_X3_removeLine : Cond.initialized mi_X3_removeLine.1.cls ∈ pd_TB := pd_tb (i := 98) (by decide +kernel) (by decide +kernel)
theorem cb_X3_removeLine : pd_CB mi_X3_removeLine 1 := ⟨hd_X3_removeLine, in_X3_removeLine, by decide +kernel, by decide +kernel, by decide, rfl⟩
set_option maxRecDepth 100000 in
theorem im_X3_removeLine : Cond.instanceMethod mi_X3_removeLine.1 ∈ pd_TB := pd_tb (i := 942) (by decide +kernel) (by decide +kernel)
set_option maxRecDepth 100000 in
theorem se_X3_removeLine : Cond.selects mi_X3_removeLine.1.cls mi_X3_removeLine.1 mi_X3_removeLine.1 ∈ pd_TB := pd_tb (i := 943) (by decide +kernel) (by decide +kernel)
set_option maxRecDepth 100000 in
theorem mlX8_162 : Cond.methodLink RX8 162 mi_X3_removeLine.1 ∈ pd_TB := pd_tb (i := 941) (by decide +kernel) (by decide +kernel)
theorem cvX8_162 : pd_CV RX8 162 mi_X3_removeLine 1 2 := ⟨cb_X3_removeLine, mlX8_162, im_X3_removeLine, se_X3_removeLine, _, rfl, rfl, by decide⟩
set_option maxRecDepth 100000 in
theorem hd_L_told : pd_hd mi_L_told ∈ pd_TB := pd_tb (i := 947) (by rfl) (by decide +kernel)
set_option maxRecDepth 100000 in
theorem in_L_told : Cond.initialized mi_L_told.1.cls ∈ pd_TB := pd_tb (i := 93) (by decide +kernel) (by decide +kernel)
set_option maxRecDepth 100000 in
theorem st_L_told : Cond.static mi_L_told.1 ∈ pd_TB := pd_tb (i := 946) (by decide +kernel) (by decide +kernel)
set_option maxRecDepth 100000 in
theorem mlL_113 : Cond.methodLink RL 113 mi_L_told.1 ∈ pd_TB := pd_tb (i := 945) (by decide +kernel) (by decide +kernel)
set_option maxRecDepth 100000 in
theorem hd_X8_told : pd_hd mi_X8_told ∈ pd_TB := pd_tb (i := 951) (by rfl) (by decide +kernel)
set_option maxRecDepth 100000 in
theorem in_X8_told : Cond.initialized mi_X8_told.1.cls ∈ pd_TB := pd_tb (i := 94) (by decide +kernel) (by decide +kernel)
theorem cb_X8_told : pd_CB mi_X8_told 1 := ⟨hd_X8_told, in_X8_told, by decide +kernel, by decide +kernel, by decide, rfl⟩
set_option maxRecDepth 100000 in
theorem im_X8_told : Cond.instanceMethod mi_X8_told.1 ∈ pd_TB := pd_tb (i := 949) (by decide +kernel) (by decide +kernel)
set_option maxRecDepth 100000 in
theorem se_X8_told : Cond.selects mi_X8_told.1.cls mi_X8_told.1 mi_X8_told.1 ∈ pd_TB := pd_tb (i := 950) (by decide +kernel) (by decide +kernel)
set_option maxRecDepth 100000 in
theorem mlL_34 : Cond.methodLink RL 34 mi_X8_told.1 ∈ pd_TB := pd_tb (i := 948) (by decide +kernel) (by decide +kernel)
theorem cvL_34 : pd_CV RL 34 mi_X8_told 1 7 := ⟨cb_X8_told, mlL_34, im_X8_told, se_X8_told, _, rfl, rfl, by decide⟩
set_option maxRecDepth 100000 in
theorem hd_L_voter : pd_hd mi_L_voter ∈ pd_TB := pd_tb (i := 954) (by rfl) (by decide +kernel)
set_option maxRecDepth 100000 in
theorem in_L_voter : Cond.initialized mi_L_voter.1.cls ∈ pd_TB := pd_tb (i := 93) (by decide +kernel) (by decide +kernel)
set_option maxRecDepth 100000 in
theorem st_L_voter : Cond.static mi_L_voter.1 ∈ pd_TB := pd_tb (i := 953) (by decide +kernel) (by decide +kernel)
set_option maxRecDepth 100000 in
theorem mlL_116 : Cond.methodLink RL 116 mi_L_voter.1 ∈ pd_TB := pd_tb (i := 952) (by decide +kernel) (by decide +kernel)
set_option maxRecDepth 100000 in
theorem hd_X8_voter : pd_hd mi_X8_voter ∈ pd_TB := pd_tb (i := 958) (by rfl) (by decide +kernel)
set_option maxRecDepth 100000 in
theorem in_X8_voter : Cond.initialized mi_X8_voter.1.cls ∈ pd_TB := pd_tb (i := 94) (by decide +kernel) (by decide +kernel)
theorem cb_X8_voter : pd_CB mi_X8_voter 2 := ⟨hd_X8_voter, in_X8_voter, by decide +kernel, by decide +kernel, by decide, rfl⟩
set_option maxRecDepth 100000 in
theorem im_X8_voter : Cond.instanceMethod mi_X8_voter.1 ∈ pd_TB := pd_tb (i := 956) (by decide +kernel) (by decide +kernel)
set_option maxRecDepth 100000 in
theorem se_X8_voter : Cond.selects mi_X8_voter.1.cls mi_X8_voter.1 mi_X8_voter.1 ∈ pd_TB := pd_tb (i := 957) (by decide +kernel) (by decide +kernel)
set_option maxRecDepth 100000 in
theorem mlL_37 : Cond.methodLink RL 37 mi_X8_voter.1 ∈ pd_TB := pd_tb (i := 955) (by decide +kernel) (by decide +kernel)
theorem cvL_37 : pd_CV RL 37 mi_X8_voter 2 7 := ⟨cb_X8_voter, mlL_37, im_X8_voter, se_X8_voter, _, rfl, rfl, by decide⟩
set_option maxRecDepth 100000 in
theorem hd_X1_linesOf : pd_hd mi_X1_linesOf ∈ pd_TB := pd_tb (i := 962) (by rfl) (by decide +kernel)
set_option maxRecDepth 100000 in
theorem in_X1_linesOf : Cond.initialized mi_X1_linesOf.1.cls ∈ pd_TB := pd_tb (i := 100) (by decide +kernel) (by decide +kernel)
theorem cb_X1_linesOf : pd_CB mi_X1_linesOf 1 := ⟨hd_X1_linesOf, in_X1_linesOf, by decide +kernel, by decide +kernel, by decide, rfl⟩
set_option maxRecDepth 100000 in
theorem im_X1_linesOf : Cond.instanceMethod mi_X1_linesOf.1 ∈ pd_TB := pd_tb (i := 960) (by decide +kernel) (by decide +kernel)
set_option maxRecDepth 100000 in
theorem se_X1_linesOf : Cond.selects mi_X1_linesOf.1.cls mi_X1_linesOf.1 mi_X1_linesOf.1 ∈ pd_TB := pd_tb (i := 961) (by decide +kernel) (by decide +kernel)
set_option maxRecDepth 100000 in
theorem mlX8_195 : Cond.methodLink RX8 195 mi_X1_linesOf.1 ∈ pd_TB := pd_tb (i := 959) (by decide +kernel) (by decide +kernel)
theorem cvX8_195 : pd_CV RX8 195 mi_X1_linesOf 1 1 := ⟨cb_X1_linesOf, mlX8_195, im_X1_linesOf, se_X1_linesOf, _, rfl, rfl, by decide⟩
set_option maxRecDepth 100000 in
theorem hd_X1_trueLinesOf : pd_hd mi_X1_trueLinesOf ∈ pd_TB := pd_tb (i := 966) (by rfl) (by decide +kernel)
set_option maxRecDepth 100000 in
theorem in_X1_trueLinesOf : Cond.initialized mi_X1_trueLinesOf.1.cls ∈ pd_TB := pd_tb (i := 100) (by decide +kernel) (by decide +kernel)
theorem cb_X1_trueLinesOf : pd_CB mi_X1_trueLinesOf 1 := ⟨hd_X1_trueLinesOf, in_X1_trueLinesOf, by decide +kernel, by decide +kernel, by decide, rfl⟩
set_option maxRecDepth 100000 in
theorem im_X1_trueLinesOf : Cond.instanceMethod mi_X1_trueLinesOf.1 ∈ pd_TB := pd_tb (i := 964) (by decide +kernel) (by decide +kernel)
set_option maxRecDepth 100000 in
theorem se_X1_trueLinesOf : Cond.selects mi_X1_trueLinesOf.1.cls mi_X1_trueLinesOf.1 mi_X1_trueLinesOf.1 ∈ pd_TB := pd_tb (i := 965) (by decide +kernel) (by decide +kernel)
set_option maxRecDepth 100000 in
theorem mlX8_198 : Cond.methodLink RX8 198 mi_X1_trueLinesOf.1 ∈ pd_TB := pd_tb (i := 963) (by decide +kernel) (by decide +kernel)
theorem cvX8_198 : pd_CV RX8 198 mi_X1_trueLinesOf 1 1 := ⟨cb_X1_trueLinesOf, mlX8_198, im_X1_trueLinesOf, se_X1_trueLinesOf, _, rfl, rfl, by decide⟩
set_option maxRecDepth 100000 in
theorem hd_L_letter : pd_hd mi_L_letter ∈ pd_TB := pd_tb (i := 969) (by rfl) (by decide +kernel)
set_option maxRecDepth 100000 in
theorem in_L_letter : Cond.initialized mi_L_letter.1.cls ∈ pd_TB := pd_tb (i := 93) (by decide +kernel) (by decide +kernel)
set_option maxRecDepth 100000 in
theorem st_L_letter : Cond.static mi_L_letter.1 ∈ pd_TB := pd_tb (i := 968) (by decide +kernel) (by decide +kernel)
set_option maxRecDepth 100000 in
theorem mlL_119 : Cond.methodLink RL 119 mi_L_letter.1 ∈ pd_TB := pd_tb (i := 967) (by decide +kernel) (by decide +kernel)
set_option maxRecDepth 100000 in
theorem hd_X8_letter : pd_hd mi_X8_letter ∈ pd_TB := pd_tb (i := 973) (by rfl) (by decide +kernel)
set_option maxRecDepth 100000 in
theorem in_X8_letter : Cond.initialized mi_X8_letter.1.cls ∈ pd_TB := pd_tb (i := 94) (by decide +kernel) (by decide +kernel)
theorem cb_X8_letter : pd_CB mi_X8_letter 2 := ⟨hd_X8_letter, in_X8_letter, by decide +kernel, by decide +kernel, by decide, rfl⟩
set_option maxRecDepth 100000 in
theorem im_X8_letter : Cond.instanceMethod mi_X8_letter.1 ∈ pd_TB := pd_tb (i := 971) (by decide +kernel) (by decide +kernel)
set_option maxRecDepth 100000 in
theorem se_X8_letter : Cond.selects mi_X8_letter.1.cls mi_X8_letter.1 mi_X8_letter.1 ∈ pd_TB := pd_tb (i := 972) (by decide +kernel) (by decide +kernel)
set_option maxRecDepth 100000 in
theorem mlL_40 : Cond.methodLink RL 40 mi_X8_letter.1 ∈ pd_TB := pd_tb (i := 970) (by decide +kernel) (by decide +kernel)
theorem cvL_40 : pd_CV RL 40 mi_X8_letter 2 7 := ⟨cb_X8_letter, mlL_40, im_X8_letter, se_X8_letter, _, rfl, rfl, by decide⟩
set_option maxRecDepth 100000 in
theorem hd_X2_length : pd_hd mi_X2_length ∈ pd_TB := pd_tb (i := 976) (by rfl) (by decide +kernel)
set_option maxRecDepth 100000 in
theorem in_X2_length : Cond.initialized mi_X2_length.1.cls ∈ pd_TB := pd_tb (i := 112) (by decide +kernel) (by decide +kernel)
theorem cb_X2_length : pd_CB mi_X2_length 1 := ⟨hd_X2_length, in_X2_length, by decide +kernel, by decide +kernel, by decide, rfl⟩
set_option maxRecDepth 100000 in
theorem st_X2_length : Cond.static mi_X2_length.1 ∈ pd_TB := pd_tb (i := 975) (by decide +kernel) (by decide +kernel)
set_option maxRecDepth 100000 in
theorem mlX8_201 : Cond.methodLink RX8 201 mi_X2_length.1 ∈ pd_TB := pd_tb (i := 974) (by decide +kernel) (by decide +kernel)
theorem csX8_201 : pd_CS RX8 201 mi_X2_length 1 := ⟨cb_X2_length, mlX8_201, st_X2_length⟩
set_option maxRecDepth 100000 in
theorem hd_X2_letterAt : pd_hd mi_X2_letterAt ∈ pd_TB := pd_tb (i := 979) (by rfl) (by decide +kernel)
set_option maxRecDepth 100000 in
theorem in_X2_letterAt : Cond.initialized mi_X2_letterAt.1.cls ∈ pd_TB := pd_tb (i := 112) (by decide +kernel) (by decide +kernel)
theorem cb_X2_letterAt : pd_CB mi_X2_letterAt 2 := ⟨hd_X2_letterAt, in_X2_letterAt, by decide +kernel, by decide +kernel, by decide, rfl⟩
set_option maxRecDepth 100000 in
theorem st_X2_letterAt : Cond.static mi_X2_letterAt.1 ∈ pd_TB := pd_tb (i := 978) (by decide +kernel) (by decide +kernel)
set_option maxRecDepth 100000 in
theorem mlX8_206 : Cond.methodLink RX8 206 mi_X2_letterAt.1 ∈ pd_TB := pd_tb (i := 977) (by decide +kernel) (by decide +kernel)
theorem csX8_206 : pd_CS RX8 206 mi_X2_letterAt 2 := ⟨cb_X2_letterAt, mlX8_206, st_X2_letterAt⟩
set_option maxRecDepth 100000 in
theorem hd_L_sheet : pd_hd mi_L_sheet ∈ pd_TB := pd_tb (i := 982) (by rfl) (by decide +kernel)
set_option maxRecDepth 100000 in
theorem in_L_sheet : Cond.initialized mi_L_sheet.1.cls ∈ pd_TB := pd_tb (i := 93) (by decide +kernel) (by decide +kernel)
set_option maxRecDepth 100000 in
theorem st_L_sheet : Cond.static mi_L_sheet.1 ∈ pd_TB := pd_tb (i := 981) (by decide +kernel) (by decide +kernel)
set_option maxRecDepth 100000 in
theorem mlL_122 : Cond.methodLink RL 122 mi_L_sheet.1 ∈ pd_TB := pd_tb (i := 980) (by decide +kernel) (by decide +kernel)
set_option maxRecDepth 100000 in
theorem hd_X8_sheet : pd_hd mi_X8_sheet ∈ pd_TB := pd_tb (i := 986) (by rfl) (by decide +kernel)
set_option maxRecDepth 100000 in
theorem in_X8_sheet : Cond.initialized mi_X8_sheet.1.cls ∈ pd_TB := pd_tb (i := 94) (by decide +kernel) (by decide +kernel)
theorem cb_X8_sheet : pd_CB mi_X8_sheet 2 := ⟨hd_X8_sheet, in_X8_sheet, by decide +kernel, by decide +kernel, by decide, rfl⟩
set_option maxRecDepth 100000 in
theorem im_X8_sheet : Cond.instanceMethod mi_X8_sheet.1 ∈ pd_TB := pd_tb (i := 984) (by decide +kernel) (by decide +kernel)
set_option maxRecDepth 100000 in
theorem se_X8_sheet : Cond.selects mi_X8_sheet.1.cls mi_X8_sheet.1 mi_X8_sheet.1 ∈ pd_TB := pd_tb (i := 985) (by decide +kernel) (by decide +kernel)
set_option maxRecDepth 100000 in
theorem mlL_43 : Cond.methodLink RL 43 mi_X8_sheet.1 ∈ pd_TB := pd_tb (i := 983) (by decide +kernel) (by decide +kernel)
theorem cvL_43 : pd_CV RL 43 mi_X8_sheet 2 7 := ⟨cb_X8_sheet, mlL_43, im_X8_sheet, se_X8_sheet, _, rfl, rfl, by decide⟩
set_option maxRecDepth 100000 in
theorem hd_L_line : pd_hd mi_L_line ∈ pd_TB := pd_tb (i := 989) (by rfl) (by decide +kernel)
set_option maxRecDepth 100000 in
theorem in_L_line : Cond.initialized mi_L_line.1.cls ∈ pd_TB := pd_tb (i := 93) (by decide +kernel) (by decide +kernel)
set_option maxRecDepth 100000 in
theorem st_L_line : Cond.static mi_L_line.1 ∈ pd_TB := pd_tb (i := 988) (by decide +kernel) (by decide +kernel)
set_option maxRecDepth 100000 in
theorem mlL_125 : Cond.methodLink RL 125 mi_L_line.1 ∈ pd_TB := pd_tb (i := 987) (by decide +kernel) (by decide +kernel)
set_option maxRecDepth 100000 in
theorem hd_X8_line : pd_hd mi_X8_line ∈ pd_TB := pd_tb (i := 993) (by rfl) (by decide +kernel)
set_option maxRecDepth 100000 in
theorem in_X8_line : Cond.initialized mi_X8_line.1.cls ∈ pd_TB := pd_tb (i := 94) (by decide +kernel) (by decide +kernel)
theorem cb_X8_line : pd_CB mi_X8_line 3 := ⟨hd_X8_line, in_X8_line, by decide +kernel, by decide +kernel, by decide, rfl⟩
set_option maxRecDepth 100000 in
theorem im_X8_line : Cond.instanceMethod mi_X8_line.1 ∈ pd_TB := pd_tb (i := 991) (by decide +kernel) (by decide +kernel)
set_option maxRecDepth 100000 in
theorem se_X8_line : Cond.selects mi_X8_line.1.cls mi_X8_line.1 mi_X8_line.1 ∈ pd_TB := pd_tb (i := 992) (by decide +kernel) (by decide +kernel)
set_option maxRecDepth 100000 in
theorem mlL_46 : Cond.methodLink RL 46 mi_X8_line.1 ∈ pd_TB := pd_tb (i := 990) (by decide +kernel) (by decide +kernel)
theorem cvL_46 : pd_CV RL 46 mi_X8_line 3 7 := ⟨cb_X8_line, mlL_46, im_X8_line, se_X8_line, _, rfl, rfl, by decide⟩
set_option maxRecDepth 100000 in
theorem hd_L_judged : pd_hd mi_L_judged ∈ pd_TB := pd_tb (i := 996) (by rfl) (by decide +kernel)
set_option maxRecDepth 100000 in
theorem in_L_judged : Cond.initialized mi_L_judged.1.cls ∈ pd_TB := pd_tb (i := 93) (by decide +kernel) (by decide +kernel)
set_option maxRecDepth 100000 in
theorem st_L_judged : Cond.static mi_L_judged.1 ∈ pd_TB := pd_tb (i := 995) (by decide +kernel) (by decide +kernel)
set_option maxRecDepth 100000 in
theorem mlL_128 : Cond.methodLink RL 128 mi_L_judged.1 ∈ pd_TB := pd_tb (i := 994) (by decide +kernel) (by decide +kernel)
set_option maxRecDepth 100000 in
theorem hd_X8_judged : pd_hd mi_X8_judged ∈ pd_TB := pd_tb (i := 1000) (by rfl) (by decide +kernel)
set_option maxRecDepth 100000 in
theorem in_X8_judged : Cond.initialized mi_X8_judged.1.cls ∈ pd_TB := pd_tb (i := 94) (by decide +kernel) (by decide +kernel)
theorem cb_X8_judged : pd_CB mi_X8_judged 1 := ⟨hd_X8_judged, in_X8_judged, by decide +kernel, by decide +kernel, by decide, rfl⟩
set_option maxRecDepth 100000 in
theorem im_X8_judged : Cond.instanceMethod mi_X8_judged.1 ∈ pd_TB := pd_tb (i := 998) (by decide +kernel) (by decide +kernel)
set_option maxRecDepth 100000 in
theorem se_X8_judged : Cond.selects mi_X8_judged.1.cls mi_X8_judged.1 mi_X8_judged.1 ∈ pd_TB := pd_tb (i := 999) (by decide +kernel) (by decide +kernel)
set_option maxRecDepth 100000 in
theorem mlL_49 : Cond.methodLink RL 49 mi_X8_judged.1 ∈ pd_TB := pd_tb (i := 997) (by decide +kernel) (by decide +kernel)
theorem cvL_49 : pd_CV RL 49 mi_X8_judged 1 7 := ⟨cb_X8_judged, mlL_49, im_X8_judged, se_X8_judged, _, rfl, rfl, by decide⟩
set_option maxRecDepth 100000 in
theorem hd_L_drawn : pd_hd mi_L_drawn ∈ pd_TB := pd_tb (i := 1003) (by rfl) (by decide +kernel)
set_option maxRecDepth 100000 in
theorem in_L_drawn : Cond.initialized mi_L_drawn.1.cls ∈ pd_TB := pd_tb (i := 93) (by decide +kernel) (by decide +kernel)
set_option maxRecDepth 100000 in
theorem st_L_drawn : Cond.static mi_L_drawn.1 ∈ pd_TB := pd_tb (i := 1002) (by decide +kernel) (by decide +kernel)
set_option maxRecDepth 100000 in
theorem mlL_135 : Cond.methodLink RL 135 mi_L_drawn.1 ∈ pd_TB := pd_tb (i := 1001) (by decide +kernel) (by decide +kernel)
set_option maxRecDepth 100000 in
theorem hd_X8_drawn : pd_hd mi_X8_drawn ∈ pd_TB := pd_tb (i := 1007) (by rfl) (by decide +kernel)
set_option maxRecDepth 100000 in
theorem in_X8_drawn : Cond.initialized mi_X8_drawn.1.cls ∈ pd_TB := pd_tb (i := 94) (by decide +kernel) (by decide +kernel)
theorem cb_X8_drawn : pd_CB mi_X8_drawn 2 := ⟨hd_X8_drawn, in_X8_drawn, by decide +kernel, by decide +kernel, by decide, rfl⟩
set_option maxRecDepth 100000 in
theorem im_X8_drawn : Cond.instanceMethod mi_X8_drawn.1 ∈ pd_TB := pd_tb (i := 1005) (by decide +kernel) (by decide +kernel)
set_option maxRecDepth 100000 in
theorem se_X8_drawn : Cond.selects mi_X8_drawn.1.cls mi_X8_drawn.1 mi_X8_drawn.1 ∈ pd_TB := pd_tb (i := 1006) (by decide +kernel) (by decide +kernel)
set_option maxRecDepth 100000 in
theorem mlL_52 : Cond.methodLink RL 52 mi_X8_drawn.1 ∈ pd_TB := pd_tb (i := 1004) (by decide +kernel) (by decide +kernel)
theorem cvL_52 : pd_CV RL 52 mi_X8_drawn 2 7 := ⟨cb_X8_drawn, mlL_52, im_X8_drawn, se_X8_drawn, _, rfl, rfl, by decide⟩
set_option maxRecDepth 100000 in
theorem hd_X8_sampleOf : pd_hd mi_X8_sampleOf ∈ pd_TB := pd_tb (i := 1011) (by rfl) (by decide +kernel)
set_option maxRecDepth 100000 in
theorem in_X8_sampleOf : Cond.initialized mi_X8_sampleOf.1.cls ∈ pd_TB := pd_tb (i := 94) (by decide +kernel) (by decide +kernel)
theorem cb_X8_sampleOf : pd_CB mi_X8_sampleOf 1 := ⟨hd_X8_sampleOf, in_X8_sampleOf, by decide +kernel, by decide +kernel, by decide, rfl⟩
set_option maxRecDepth 100000 in
theorem im_X8_sampleOf : Cond.instanceMethod mi_X8_sampleOf.1 ∈ pd_TB := pd_tb (i := 1010) (by decide +kernel) (by decide +kernel)
set_option maxRecDepth 100000 in
theorem se_X8_sampleOf : Cond.selects mi_X8_sampleOf.1.cls mi_X8_sampleOf.1 mi_X8_sampleOf.1 ∈ pd_TB := pd_tb (i := 49) (by decide +kernel) (by decide +kernel)
set_option maxRecDepth 100000 in
theorem mlX8_223 : Cond.methodLink RX8 223 mi_X8_sampleOf.1 ∈ pd_TB := pd_tb (i := 1008) (by decide +kernel) (by decide +kernel)
theorem cvX8_223 : pd_CV RX8 223 mi_X8_sampleOf 1 7 := ⟨cb_X8_sampleOf, mlX8_223, im_X8_sampleOf, se_X8_sampleOf, _, rfl, rfl, by decide⟩
set_option maxRecDepth 100000 in
theorem hd_J13_bitCount_95d88 : pd_hd mi_J13_bitCount_95d88 ∈ pd_TB := pd_tb (i := 1014) (by rfl) (by decide +kernel)
set_option maxRecDepth 100000 in
theorem in_J13_bitCount_95d88 : Cond.initialized mi_J13_bitCount_95d88.1.cls ∈ pd_TB := pd_tb (i := 117) (by decide +kernel) (by decide +kernel)
theorem cb_J13_bitCount_95d88 : pd_CB mi_J13_bitCount_95d88 1 := ⟨hd_J13_bitCount_95d88, in_J13_bitCount_95d88, by decide +kernel, by decide +kernel, by decide, rfl⟩
set_option maxRecDepth 100000 in
theorem st_J13_bitCount_95d88 : Cond.static mi_J13_bitCount_95d88.1 ∈ pd_TB := pd_tb (i := 1013) (by decide +kernel) (by decide +kernel)
set_option maxRecDepth 100000 in
theorem mlX8_227 : Cond.methodLink RX8 227 mi_J13_bitCount_95d88.1 ∈ pd_TB := pd_tb (i := 1012) (by decide +kernel) (by decide +kernel)
theorem csX8_227 : pd_CS RX8 227 mi_J13_bitCount_95d88 1 := ⟨cb_J13_bitCount_95d88, mlX8_227, st_J13_bitCount_95d88⟩
set_option maxRecDepth 100000 in
theorem hd_X1_pairsIn : pd_hd mi_X1_pairsIn ∈ pd_TB := pd_tb (i := 1021) (by rfl) (by decide +kernel)
set_option maxRecDepth 100000 in
theorem in_X1_pairsIn : Cond.initialized mi_X1_pairsIn.1.cls ∈ pd_TB := pd_tb (i := 100) (by decide +kernel) (by decide +kernel)
theorem cb_X1_pairsIn : pd_CB mi_X1_pairsIn 1 := ⟨hd_X1_pairsIn, in_X1_pairsIn, by decide +kernel, by decide +kernel, by decide, rfl⟩
set_option maxRecDepth 100000 in
theorem im_X1_pairsIn : Cond.instanceMethod mi_X1_pairsIn.1 ∈ pd_TB := pd_tb (i := 1019) (by decide +kernel) (by decide +kernel)
set_option maxRecDepth 100000 in
theorem se_X1_pairsIn : Cond.selects mi_X1_pairsIn.1.cls mi_X1_pairsIn.1 mi_X1_pairsIn.1 ∈ pd_TB := pd_tb (i := 1020) (by decide +kernel) (by decide +kernel)
set_option maxRecDepth 100000 in
theorem mlX8_232 : Cond.methodLink RX8 232 mi_X1_pairsIn.1 ∈ pd_TB := pd_tb (i := 1018) (by decide +kernel) (by decide +kernel)
theorem cvX8_232 : pd_CV RX8 232 mi_X1_pairsIn 1 1 := ⟨cb_X1_pairsIn, mlX8_232, im_X1_pairsIn, se_X1_pairsIn, _, rfl, rfl, by decide⟩
set_option maxRecDepth 100000 in
theorem hd_X1_tallyGood : pd_hd mi_X1_tallyGood ∈ pd_TB := pd_tb (i := 1025) (by rfl) (by decide +kernel)
set_option maxRecDepth 100000 in
theorem in_X1_tallyGood : Cond.initialized mi_X1_tallyGood.1.cls ∈ pd_TB := pd_tb (i := 100) (by decide +kernel) (by decide +kernel)
theorem cb_X1_tallyGood : pd_CB mi_X1_tallyGood 1 := ⟨hd_X1_tallyGood, in_X1_tallyGood, by decide +kernel, by decide +kernel, by decide, rfl⟩
set_option maxRecDepth 100000 in
theorem im_X1_tallyGood : Cond.instanceMethod mi_X1_tallyGood.1 ∈ pd_TB := pd_tb (i := 1023) (by decide +kernel) (by decide +kernel)
set_option maxRecDepth 100000 in
theorem se_X1_tallyGood : Cond.selects mi_X1_tallyGood.1.cls mi_X1_tallyGood.1 mi_X1_tallyGood.1 ∈ pd_TB := pd_tb (i := 1024) (by decide +kernel) (by decide +kernel)
set_option maxRecDepth 100000 in
theorem mlX1_126 : Cond.methodLink RX1 126 mi_X1_tallyGood.1 ∈ pd_TB := pd_tb (i := 1022) (by decide +kernel) (by decide +kernel)
theorem cvX1_126 : pd_CV RX1 126 mi_X1_tallyGood 1 1 := ⟨cb_X1_tallyGood, mlX1_126, im_X1_tallyGood, se_X1_tallyGood, _, rfl, rfl, by decide⟩
set_option maxRecDepth 100000 in
theorem hd_L_estimate : pd_hd mi_L_estimate ∈ pd_TB := pd_tb (i := 1028) (by rfl) (by decide +kernel)
set_option maxRecDepth 100000 in
theorem in_L_estimate : Cond.initialized mi_L_estimate.1.cls ∈ pd_TB := pd_tb (i := 93) (by decide +kernel) (by decide +kernel)
set_option maxRecDepth 100000 in
theorem st_L_estimate : Cond.static mi_L_estimate.1 ∈ pd_TB := pd_tb (i := 1027) (by decide +kernel) (by decide +kernel)
set_option maxRecDepth 100000 in
theorem mlL_138 : Cond.methodLink RL 138 mi_L_estimate.1 ∈ pd_TB := pd_tb (i := 1026) (by decide +kernel) (by decide +kernel)
set_option maxRecDepth 100000 in
theorem hd_X8_estimate : pd_hd mi_X8_estimate ∈ pd_TB := pd_tb (i := 1032) (by rfl) (by decide +kernel)
set_option maxRecDepth 100000 in
theorem in_X8_estimate : Cond.initialized mi_X8_estimate.1.cls ∈ pd_TB := pd_tb (i := 94) (by decide +kernel) (by decide +kernel)
theorem cb_X8_estimate : pd_CB mi_X8_estimate 2 := ⟨hd_X8_estimate, in_X8_estimate, by decide +kernel, by decide +kernel, by decide, rfl⟩
set_option maxRecDepth 100000 in
theorem im_X8_estimate : Cond.instanceMethod mi_X8_estimate.1 ∈ pd_TB := pd_tb (i := 1030) (by decide +kernel) (by decide +kernel)
set_option maxRecDepth 100000 in
theorem se_X8_estimate : Cond.selects mi_X8_estimate.1.cls mi_X8_estimate.1 mi_X8_estimate.1 ∈ pd_TB := pd_tb (i := 1031) (by decide +kernel) (by decide +kernel)
set_option maxRecDepth 100000 in
theorem mlL_55 : Cond.methodLink RL 55 mi_X8_estimate.1 ∈ pd_TB := pd_tb (i := 1029) (by decide +kernel) (by decide +kernel)
theorem cvL_55 : pd_CV RL 55 mi_X8_estimate 2 7 := ⟨cb_X8_estimate, mlL_55, im_X8_estimate, se_X8_estimate, _, rfl, rfl, by decide⟩
set_option maxRecDepth 100000 in
theorem hd_X8_inLowestTerms : pd_hd mi_X8_inLowestTerms ∈ pd_TB := pd_tb (i := 1036) (by rfl) (by decide +kernel)
set_option maxRecDepth 100000 in
theorem in_X8_inLowestTerms : Cond.initialized mi_X8_inLowestTerms.1.cls ∈ pd_TB := pd_tb (i := 94) (by decide +kernel) (by decide +kernel)
theorem cb_X8_inLowestTerms : pd_CB mi_X8_inLowestTerms 3 := ⟨hd_X8_inLowestTerms, in_X8_inLowestTerms, by decide +kernel, by decide +kernel, by decide, rfl⟩
set_option maxRecDepth 100000 in
theorem st_X8_inLowestTerms : Cond.static mi_X8_inLowestTerms.1 ∈ pd_TB := pd_tb (i := 1035) (by decide +kernel) (by decide +kernel)
set_option maxRecDepth 100000 in
theorem mlX8_247 : Cond.methodLink RX8 247 mi_X8_inLowestTerms.1 ∈ pd_TB := pd_tb (i := 1034) (by decide +kernel) (by decide +kernel)
theorem csX8_247 : pd_CS RX8 247 mi_X8_inLowestTerms 3 := ⟨cb_X8_inLowestTerms, mlX8_247, st_X8_inLowestTerms⟩
set_option maxRecDepth 100000 in
theorem hd_X0_commonDivisor : pd_hd mi_X0_commonDivisor ∈ pd_TB := pd_tb (i := 1039) (by rfl) (by decide +kernel)
set_option maxRecDepth 100000 in
theorem in_X0_commonDivisor : Cond.initialized mi_X0_commonDivisor.1.cls ∈ pd_TB := pd_tb (i := 101) (by decide +kernel) (by decide +kernel)
theorem cb_X0_commonDivisor : pd_CB mi_X0_commonDivisor 2 := ⟨hd_X0_commonDivisor, in_X0_commonDivisor, by decide +kernel, by decide +kernel, by decide, rfl⟩
set_option maxRecDepth 100000 in
theorem st_X0_commonDivisor : Cond.static mi_X0_commonDivisor.1 ∈ pd_TB := pd_tb (i := 1038) (by decide +kernel) (by decide +kernel)
set_option maxRecDepth 100000 in
theorem mlX8_312 : Cond.methodLink RX8 312 mi_X0_commonDivisor.1 ∈ pd_TB := pd_tb (i := 1037) (by decide +kernel) (by decide +kernel)
theorem csX8_312 : pd_CS RX8 312 mi_X0_commonDivisor 2 := ⟨cb_X0_commonDivisor, mlX8_312, st_X0_commonDivisor⟩
set_option maxRecDepth 100000 in
theorem hd_J9_abs_067f4 : pd_hd mi_J9_abs_067f4 ∈ pd_TB := pd_tb (i := 1042) (by rfl) (by decide +kernel)
set_option maxRecDepth 100000 in
theorem in_J9_abs_067f4 : Cond.initialized mi_J9_abs_067f4.1.cls ∈ pd_TB := pd_tb (i := 107) (by decide +kernel) (by decide +kernel)
theorem cb_J9_abs_067f4 : pd_CB mi_J9_abs_067f4 1 := ⟨hd_J9_abs_067f4, in_J9_abs_067f4, by decide +kernel, by decide +kernel, by decide, rfl⟩
set_option maxRecDepth 100000 in
theorem st_J9_abs_067f4 : Cond.static mi_J9_abs_067f4.1 ∈ pd_TB := pd_tb (i := 1041) (by decide +kernel) (by decide +kernel)
set_option maxRecDepth 100000 in
theorem mlX0_28 : Cond.methodLink RX0 28 mi_J9_abs_067f4.1 ∈ pd_TB := pd_tb (i := 1040) (by decide +kernel) (by decide +kernel)
theorem csX0_28 : pd_CS RX0 28 mi_J9_abs_067f4 1 := ⟨cb_J9_abs_067f4, mlX0_28, st_J9_abs_067f4⟩
set_option maxRecDepth 100000 in
theorem hd_L_unlike : pd_hd mi_L_unlike ∈ pd_TB := pd_tb (i := 1045) (by rfl) (by decide +kernel)
set_option maxRecDepth 100000 in
theorem in_L_unlike : Cond.initialized mi_L_unlike.1.cls ∈ pd_TB := pd_tb (i := 93) (by decide +kernel) (by decide +kernel)
set_option maxRecDepth 100000 in
theorem st_L_unlike : Cond.static mi_L_unlike.1 ∈ pd_TB := pd_tb (i := 1044) (by decide +kernel) (by decide +kernel)
set_option maxRecDepth 100000 in
theorem mlL_141 : Cond.methodLink RL 141 mi_L_unlike.1 ∈ pd_TB := pd_tb (i := 1043) (by decide +kernel) (by decide +kernel)
set_option maxRecDepth 100000 in
theorem hd_X8_unlike : pd_hd mi_X8_unlike ∈ pd_TB := pd_tb (i := 1049) (by rfl) (by decide +kernel)
set_option maxRecDepth 100000 in
theorem in_X8_unlike : Cond.initialized mi_X8_unlike.1.cls ∈ pd_TB := pd_tb (i := 94) (by decide +kernel) (by decide +kernel)
theorem cb_X8_unlike : pd_CB mi_X8_unlike 1 := ⟨hd_X8_unlike, in_X8_unlike, by decide +kernel, by decide +kernel, by decide, rfl⟩
set_option maxRecDepth 100000 in
theorem im_X8_unlike : Cond.instanceMethod mi_X8_unlike.1 ∈ pd_TB := pd_tb (i := 1047) (by decide +kernel) (by decide +kernel)
set_option maxRecDepth 100000 in
theorem se_X8_unlike : Cond.selects mi_X8_unlike.1.cls mi_X8_unlike.1 mi_X8_unlike.1 ∈ pd_TB := pd_tb (i := 1048) (by decide +kernel) (by decide +kernel)
set_option maxRecDepth 100000 in
theorem mlL_59 : Cond.methodLink RL 59 mi_X8_unlike.1 ∈ pd_TB := pd_tb (i := 1046) (by decide +kernel) (by decide +kernel)
theorem cvL_59 : pd_CV RL 59 mi_X8_unlike 1 7 := ⟨cb_X8_unlike, mlL_59, im_X8_unlike, se_X8_unlike, _, rfl, rfl, by decide⟩
set_option maxRecDepth 100000 in
theorem hd_X1_votersIn : pd_hd mi_X1_votersIn ∈ pd_TB := pd_tb (i := 1053) (by rfl) (by decide +kernel)
set_option maxRecDepth 100000 in
theorem in_X1_votersIn : Cond.initialized mi_X1_votersIn.1.cls ∈ pd_TB := pd_tb (i := 100) (by decide +kernel) (by decide +kernel)
theorem cb_X1_votersIn : pd_CB mi_X1_votersIn 1 := ⟨hd_X1_votersIn, in_X1_votersIn, by decide +kernel, by decide +kernel, by decide, rfl⟩
set_option maxRecDepth 100000 in
theorem im_X1_votersIn : Cond.instanceMethod mi_X1_votersIn.1 ∈ pd_TB := pd_tb (i := 1051) (by decide +kernel) (by decide +kernel)
set_option maxRecDepth 100000 in
theorem se_X1_votersIn : Cond.selects mi_X1_votersIn.1.cls mi_X1_votersIn.1 mi_X1_votersIn.1 ∈ pd_TB := pd_tb (i := 1052) (by decide +kernel) (by decide +kernel)
set_option maxRecDepth 100000 in
theorem mlX8_251 : Cond.methodLink RX8 251 mi_X1_votersIn.1 ∈ pd_TB := pd_tb (i := 1050) (by decide +kernel) (by decide +kernel)
theorem cvX8_251 : pd_CV RX8 251 mi_X1_votersIn 1 1 := ⟨cb_X1_votersIn, mlX8_251, im_X1_votersIn, se_X1_votersIn, _, rfl, rfl, by decide⟩
set_option maxRecDepth 100000 in
theorem hd_J6_bitCount_0f7a4 : pd_hd mi_J6_bitCount_0f7a4 ∈ pd_TB := pd_tb (i := 1056) (by rfl) (by decide +kernel)
set_option maxRecDepth 100000 in
theorem in_J6_bitCount_0f7a4 : Cond.initialized mi_J6_bitCount_0f7a4.1.cls ∈ pd_TB := pd_tb (i := 118) (by decide +kernel) (by decide +kernel)
theorem cb_J6_bitCount_0f7a4 : pd_CB mi_J6_bitCount_0f7a4 1 := ⟨hd_J6_bitCount_0f7a4, in_J6_bitCount_0f7a4, by decide +kernel, by decide +kernel, by decide, rfl⟩
set_option maxRecDepth 100000 in
theorem st_J6_bitCount_0f7a4 : Cond.static mi_J6_bitCount_0f7a4.1 ∈ pd_TB := pd_tb (i := 1055) (by decide +kernel) (by decide +kernel)
set_option maxRecDepth 100000 in
theorem mlX8_254 : Cond.methodLink RX8 254 mi_J6_bitCount_0f7a4.1 ∈ pd_TB := pd_tb (i := 1054) (by decide +kernel) (by decide +kernel)
theorem csX8_254 : pd_CS RX8 254 mi_J6_bitCount_0f7a4 1 := ⟨cb_J6_bitCount_0f7a4, mlX8_254, st_J6_bitCount_0f7a4⟩
set_option maxRecDepth 100000 in
theorem hd_L_unseen : pd_hd mi_L_unseen ∈ pd_TB := pd_tb (i := 1062) (by rfl) (by decide +kernel)
set_option maxRecDepth 100000 in
theorem in_L_unseen : Cond.initialized mi_L_unseen.1.cls ∈ pd_TB := pd_tb (i := 93) (by decide +kernel) (by decide +kernel)
set_option maxRecDepth 100000 in
theorem st_L_unseen : Cond.static mi_L_unseen.1 ∈ pd_TB := pd_tb (i := 1061) (by decide +kernel) (by decide +kernel)
set_option maxRecDepth 100000 in
theorem mlL_144 : Cond.methodLink RL 144 mi_L_unseen.1 ∈ pd_TB := pd_tb (i := 1060) (by decide +kernel) (by decide +kernel)
set_option maxRecDepth 100000 in
theorem hd_X8_unseen : pd_hd mi_X8_unseen ∈ pd_TB := pd_tb (i := 1066) (by rfl) (by decide +kernel)
set_option maxRecDepth 100000 in
theorem in_X8_unseen : Cond.initialized mi_X8_unseen.1.cls ∈ pd_TB := pd_tb (i := 94) (by decide +kernel) (by decide +kernel)
theorem cb_X8_unseen : pd_CB mi_X8_unseen 2 := ⟨hd_X8_unseen, in_X8_unseen, by decide +kernel, by decide +kernel, by decide, rfl⟩
set_option maxRecDepth 100000 in
theorem im_X8_unseen : Cond.instanceMethod mi_X8_unseen.1 ∈ pd_TB := pd_tb (i := 1064) (by decide +kernel) (by decide +kernel)
set_option maxRecDepth 100000 in
theorem se_X8_unseen : Cond.selects mi_X8_unseen.1.cls mi_X8_unseen.1 mi_X8_unseen.1 ∈ pd_TB := pd_tb (i := 1065) (by decide +kernel) (by decide +kernel)
set_option maxRecDepth 100000 in
theorem mlL_62 : Cond.methodLink RL 62 mi_X8_unseen.1 ∈ pd_TB := pd_tb (i := 1063) (by decide +kernel) (by decide +kernel)
theorem cvL_62 : pd_CV RL 62 mi_X8_unseen 2 7 := ⟨cb_X8_unseen, mlL_62, im_X8_unseen, se_X8_unseen, _, rfl, rfl, by decide⟩
set_option maxRecDepth 100000 in
theorem mlX8_260 : Cond.methodLink RX8 260 mi_X1_tallyGood.1 ∈ pd_TB := pd_tb (i := 1068) (by decide +kernel) (by decide +kernel)
theorem cvX8_260 : pd_CV RX8 260 mi_X1_tallyGood 1 1 := ⟨cb_X1_tallyGood, mlX8_260, im_X1_tallyGood, se_X1_tallyGood, _, rfl, rfl, by decide⟩
set_option maxRecDepth 100000 in
theorem hd_X0_waysWithoutPair : pd_hd mi_X0_waysWithoutPair ∈ pd_TB := pd_tb (i := 1072) (by rfl) (by decide +kernel)
set_option maxRecDepth 100000 in
theorem in_X0_waysWithoutPair : Cond.initialized mi_X0_waysWithoutPair.1.cls ∈ pd_TB := pd_tb (i := 101) (by decide +kernel) (by decide +kernel)
theorem cb_X0_waysWithoutPair : pd_CB mi_X0_waysWithoutPair 3 := ⟨hd_X0_waysWithoutPair, in_X0_waysWithoutPair, by decide +kernel, by decide +kernel, by decide, rfl⟩
set_option maxRecDepth 100000 in
theorem im_X0_waysWithoutPair : Cond.instanceMethod mi_X0_waysWithoutPair.1 ∈ pd_TB := pd_tb (i := 1070) (by decide +kernel) (by decide +kernel)
set_option maxRecDepth 100000 in
theorem se_X0_waysWithoutPair : Cond.selects mi_X0_waysWithoutPair.1.cls mi_X0_waysWithoutPair.1 mi_X0_waysWithoutPair.1 ∈ pd_TB := pd_tb (i := 1071) (by decide +kernel) (by decide +kernel)
set_option maxRecDepth 100000 in
theorem mlX8_267 : Cond.methodLink RX8 267 mi_X0_waysWithoutPair.1 ∈ pd_TB := pd_tb (i := 1069) (by decide +kernel) (by decide +kernel)
theorem cvX8_267 : pd_CV RX8 267 mi_X0_waysWithoutPair 3 0 := ⟨cb_X0_waysWithoutPair, mlX8_267, im_X0_waysWithoutPair, se_X0_waysWithoutPair, _, rfl, rfl, by decide⟩
set_option maxRecDepth 100000 in
theorem mlX8_271 : Cond.methodLink RX8 271 mi_X0_choose.1 ∈ pd_TB := pd_tb (i := 1073) (by decide +kernel) (by decide +kernel)
theorem cvX8_271 : pd_CV RX8 271 mi_X0_choose 2 0 := ⟨cb_X0_choose, mlX8_271, im_X0_choose, se_X0_choose, _, rfl, rfl, by decide⟩
set_option maxRecDepth 100000 in
theorem hd_L_worst : pd_hd mi_L_worst ∈ pd_TB := pd_tb (i := 1076) (by rfl) (by decide +kernel)
set_option maxRecDepth 100000 in
theorem in_L_worst : Cond.initialized mi_L_worst.1.cls ∈ pd_TB := pd_tb (i := 93) (by decide +kernel) (by decide +kernel)
set_option maxRecDepth 100000 in
theorem st_L_worst : Cond.static mi_L_worst.1 ∈ pd_TB := pd_tb (i := 1075) (by decide +kernel) (by decide +kernel)
set_option maxRecDepth 100000 in
theorem mlL_151 : Cond.methodLink RL 151 mi_L_worst.1 ∈ pd_TB := pd_tb (i := 1074) (by decide +kernel) (by decide +kernel)
set_option maxRecDepth 100000 in
theorem hd_X8_worst : pd_hd mi_X8_worst ∈ pd_TB := pd_tb (i := 1080) (by rfl) (by decide +kernel)
set_option maxRecDepth 100000 in
theorem in_X8_worst : Cond.initialized mi_X8_worst.1.cls ∈ pd_TB := pd_tb (i := 94) (by decide +kernel) (by decide +kernel)
theorem cb_X8_worst : pd_CB mi_X8_worst 2 := ⟨hd_X8_worst, in_X8_worst, by decide +kernel, by decide +kernel, by decide, rfl⟩
set_option maxRecDepth 100000 in
theorem im_X8_worst : Cond.instanceMethod mi_X8_worst.1 ∈ pd_TB := pd_tb (i := 1078) (by decide +kernel) (by decide +kernel)
set_option maxRecDepth 100000 in
theorem se_X8_worst : Cond.selects mi_X8_worst.1.cls mi_X8_worst.1 mi_X8_worst.1 ∈ pd_TB := pd_tb (i := 1079) (by decide +kernel) (by decide +kernel)
set_option maxRecDepth 100000 in
theorem mlL_65 : Cond.methodLink RL 65 mi_X8_worst.1 ∈ pd_TB := pd_tb (i := 1077) (by decide +kernel) (by decide +kernel)
theorem cvL_65 : pd_CV RL 65 mi_X8_worst 2 7 := ⟨cb_X8_worst, mlL_65, im_X8_worst, se_X8_worst, _, rfl, rfl, by decide⟩
set_option maxRecDepth 100000 in
theorem hd_X1_trueWithout : pd_hd mi_X1_trueWithout ∈ pd_TB := pd_tb (i := 1084) (by rfl) (by decide +kernel)
set_option maxRecDepth 100000 in
theorem in_X1_trueWithout : Cond.initialized mi_X1_trueWithout.1.cls ∈ pd_TB := pd_tb (i := 100) (by decide +kernel) (by decide +kernel)
theorem cb_X1_trueWithout : pd_CB mi_X1_trueWithout 1 := ⟨hd_X1_trueWithout, in_X1_trueWithout, by decide +kernel, by decide +kernel, by decide, rfl⟩
set_option maxRecDepth 100000 in
theorem im_X1_trueWithout : Cond.instanceMethod mi_X1_trueWithout.1 ∈ pd_TB := pd_tb (i := 1082) (by decide +kernel) (by decide +kernel)
set_option maxRecDepth 100000 in
theorem se_X1_trueWithout : Cond.selects mi_X1_trueWithout.1.cls mi_X1_trueWithout.1 mi_X1_trueWithout.1 ∈ pd_TB := pd_tb (i := 1083) (by decide +kernel) (by decide +kernel)
set_option maxRecDepth 100000 in
theorem mlX8_274 : Cond.methodLink RX8 274 mi_X1_trueWithout.1 ∈ pd_TB := pd_tb (i := 1081) (by decide +kernel) (by decide +kernel)
theorem cvX8_274 : pd_CV RX8 274 mi_X1_trueWithout 1 1 := ⟨cb_X1_trueWithout, mlX8_274, im_X1_trueWithout, se_X1_trueWithout, _, rfl, rfl, by decide⟩
set_option maxRecDepth 100000 in
theorem mlX1_130 : Cond.methodLink RX1 130 mi_J6_bitCount_0f7a4.1 ∈ pd_TB := pd_tb (i := 1085) (by decide +kernel) (by decide +kernel)
theorem csX1_130 : pd_CS RX1 130 mi_J6_bitCount_0f7a4 1 := ⟨cb_J6_bitCount_0f7a4, mlX1_130, st_J6_bitCount_0f7a4⟩
set_option maxRecDepth 100000 in
theorem hd_L_cost : pd_hd mi_L_cost ∈ pd_TB := pd_tb (i := 1088) (by rfl) (by decide +kernel)
set_option maxRecDepth 100000 in
theorem in_L_cost : Cond.initialized mi_L_cost.1.cls ∈ pd_TB := pd_tb (i := 93) (by decide +kernel) (by decide +kernel)
set_option maxRecDepth 100000 in
theorem st_L_cost : Cond.static mi_L_cost.1 ∈ pd_TB := pd_tb (i := 1087) (by decide +kernel) (by decide +kernel)
set_option maxRecDepth 100000 in
theorem mlL_154 : Cond.methodLink RL 154 mi_L_cost.1 ∈ pd_TB := pd_tb (i := 1086) (by decide +kernel) (by decide +kernel)
set_option maxRecDepth 100000 in
theorem hd_X8_cost : pd_hd mi_X8_cost ∈ pd_TB := pd_tb (i := 1092) (by rfl) (by decide +kernel)
set_option maxRecDepth 100000 in
theorem in_X8_cost : Cond.initialized mi_X8_cost.1.cls ∈ pd_TB := pd_tb (i := 94) (by decide +kernel) (by decide +kernel)
theorem cb_X8_cost : pd_CB mi_X8_cost 1 := ⟨hd_X8_cost, in_X8_cost, by decide +kernel, by decide +kernel, by decide, rfl⟩
set_option maxRecDepth 100000 in
theorem im_X8_cost : Cond.instanceMethod mi_X8_cost.1 ∈ pd_TB := pd_tb (i := 1090) (by decide +kernel) (by decide +kernel)
set_option maxRecDepth 100000 in
theorem se_X8_cost : Cond.selects mi_X8_cost.1.cls mi_X8_cost.1 mi_X8_cost.1 ∈ pd_TB := pd_tb (i := 1091) (by decide +kernel) (by decide +kernel)
set_option maxRecDepth 100000 in
theorem mlL_68 : Cond.methodLink RL 68 mi_X8_cost.1 ∈ pd_TB := pd_tb (i := 1089) (by decide +kernel) (by decide +kernel)
theorem cvL_68 : pd_CV RL 68 mi_X8_cost 1 7 := ⟨cb_X8_cost, mlL_68, im_X8_cost, se_X8_cost, _, rfl, rfl, by decide⟩
set_option maxRecDepth 100000 in
theorem hd_X9_init : pd_hd mi_X9_init ∈ pd_TB := pd_tb (i := 1098) (by rfl) (by decide +kernel)
set_option maxRecDepth 100000 in
theorem in_X9_init : Cond.initialized mi_X9_init.1.cls ∈ pd_TB := pd_tb (i := 102) (by decide +kernel) (by decide +kernel)
theorem cb_X9_init : pd_CB mi_X9_init 0 := ⟨hd_X9_init, in_X9_init, by decide +kernel, by decide +kernel, by decide, rfl⟩
set_option maxRecDepth 100000 in
theorem im_X9_init : Cond.instanceMethod mi_X9_init.1 ∈ pd_TB := pd_tb (i := 1097) (by decide +kernel) (by decide +kernel)
set_option maxRecDepth 100000 in
theorem mlL_74 : Cond.methodLink RL 74 mi_X9_init.1 ∈ pd_TB := pd_tb (i := 1096) (by decide +kernel) (by decide +kernel)
set_option maxRecDepth 100000 in
theorem hd_X9_begins : pd_hd mi_X9_begins ∈ pd_TB := pd_tb (i := 1104) (by rfl) (by decide +kernel)
set_option maxRecDepth 100000 in
theorem in_X9_begins : Cond.initialized mi_X9_begins.1.cls ∈ pd_TB := pd_tb (i := 102) (by decide +kernel) (by decide +kernel)
theorem cb_X9_begins : pd_CB mi_X9_begins 1 := ⟨hd_X9_begins, in_X9_begins, by decide +kernel, by decide +kernel, by decide, rfl⟩
set_option maxRecDepth 100000 in
theorem st_X9_begins : Cond.static mi_X9_begins.1 ∈ pd_TB := pd_tb (i := 1103) (by decide +kernel) (by decide +kernel)
set_option maxRecDepth 100000 in
theorem mlX9_44 : Cond.methodLink RX9 44 mi_X9_begins.1 ∈ pd_TB := pd_tb (i := 1102) (by decide +kernel) (by decide +kernel)
theorem csX9_44 : pd_CS RX9 44 mi_X9_begins 1 := ⟨cb_X9_begins, mlX9_44, st_X9_begins⟩
set_option maxRecDepth 100000 in
theorem hd_X9_thrown : pd_hd mi_X9_thrown ∈ pd_TB := pd_tb (i := 1172) (by rfl) (by decide +kernel)
set_option maxRecDepth 100000 in
theorem in_X9_thrown : Cond.initialized mi_X9_thrown.1.cls ∈ pd_TB := pd_tb (i := 102) (by decide +kernel) (by decide +kernel)
theorem cb_X9_thrown : pd_CB mi_X9_thrown 0 := ⟨hd_X9_thrown, in_X9_thrown, by decide +kernel, by decide +kernel, by decide, rfl⟩
set_option maxRecDepth 100000 in
theorem im_X9_thrown : Cond.instanceMethod mi_X9_thrown.1 ∈ pd_TB := pd_tb (i := 1170) (by decide +kernel) (by decide +kernel)
set_option maxRecDepth 100000 in
theorem se_X9_thrown : Cond.selects mi_X9_thrown.1.cls mi_X9_thrown.1 mi_X9_thrown.1 ∈ pd_TB := pd_tb (i := 1171) (by decide +kernel) (by decide +kernel)
set_option maxRecDepth 100000 in
theorem mlL_86 : Cond.methodLink RL 86 mi_X9_thrown.1 ∈ pd_TB := pd_tb (i := 1169) (by decide +kernel) (by decide +kernel)
theorem cvL_86 : pd_CV RL 86 mi_X9_thrown 0 8 := ⟨cb_X9_thrown, mlL_86, im_X9_thrown, se_X9_thrown, _, rfl, rfl, by decide⟩
set_option maxRecDepth 100000 in
theorem hd_X9_feed : pd_hd mi_X9_feed ∈ pd_TB := pd_tb (i := 1176) (by rfl) (by decide +kernel)
set_option maxRecDepth 100000 in
theorem in_X9_feed : Cond.initialized mi_X9_feed.1.cls ∈ pd_TB := pd_tb (i := 102) (by decide +kernel) (by decide +kernel)
theorem cb_X9_feed : pd_CB mi_X9_feed 5 := ⟨hd_X9_feed, in_X9_feed, by decide +kernel, by decide +kernel, by decide, rfl⟩
set_option maxRecDepth 100000 in
theorem im_X9_feed : Cond.instanceMethod mi_X9_feed.1 ∈ pd_TB := pd_tb (i := 1174) (by decide +kernel) (by decide +kernel)
set_option maxRecDepth 100000 in
theorem se_X9_feed : Cond.selects mi_X9_feed.1.cls mi_X9_feed.1 mi_X9_feed.1 ∈ pd_TB := pd_tb (i := 1175) (by decide +kernel) (by decide +kernel)
set_option maxRecDepth 100000 in
theorem mlL_79 : Cond.methodLink RL 79 mi_X9_feed.1 ∈ pd_TB := pd_tb (i := 1173) (by decide +kernel) (by decide +kernel)
theorem cvL_79 : pd_CV RL 79 mi_X9_feed 5 8 := ⟨cb_X9_feed, mlL_79, im_X9_feed, se_X9_feed, _, rfl, rfl, by decide⟩
set_option maxRecDepth 100000 in
theorem hd_X9_text : pd_hd mi_X9_text ∈ pd_TB := pd_tb (i := 1180) (by rfl) (by decide +kernel)
set_option maxRecDepth 100000 in
theorem in_X9_text : Cond.initialized mi_X9_text.1.cls ∈ pd_TB := pd_tb (i := 102) (by decide +kernel) (by decide +kernel)
theorem cb_X9_text : pd_CB mi_X9_text 1 := ⟨hd_X9_text, in_X9_text, by decide +kernel, by decide +kernel, by decide, rfl⟩
set_option maxRecDepth 100000 in
theorem im_X9_text : Cond.instanceMethod mi_X9_text.1 ∈ pd_TB := pd_tb (i := 1178) (by decide +kernel) (by decide +kernel)
set_option maxRecDepth 100000 in
theorem se_X9_text : Cond.selects mi_X9_text.1.cls mi_X9_text.1 mi_X9_text.1 ∈ pd_TB := pd_tb (i := 1179) (by decide +kernel) (by decide +kernel)
set_option maxRecDepth 100000 in
theorem mlL_85 : Cond.methodLink RL 85 mi_X9_text.1 ∈ pd_TB := pd_tb (i := 1177) (by decide +kernel) (by decide +kernel)
theorem cvL_85 : pd_CV RL 85 mi_X9_text 1 8 := ⟨cb_X9_text, mlL_85, im_X9_text, se_X9_text, _, rfl, rfl, by decide⟩
set_option maxRecDepth 100000 in
theorem hd_X9_in : pd_hd mi_X9_in ∈ pd_TB := pd_tb (i := 1183) (by rfl) (by decide +kernel)
set_option maxRecDepth 100000 in
theorem in_X9_in : Cond.initialized mi_X9_in.1.cls ∈ pd_TB := pd_tb (i := 102) (by decide +kernel) (by decide +kernel)
theorem cb_X9_in : pd_CB mi_X9_in 3 := ⟨hd_X9_in, in_X9_in, by decide +kernel, by decide +kernel, by decide, rfl⟩
set_option maxRecDepth 100000 in
theorem st_X9_in : Cond.static mi_X9_in.1 ∈ pd_TB := pd_tb (i := 1182) (by decide +kernel) (by decide +kernel)
set_option maxRecDepth 100000 in
theorem mlX9_107 : Cond.methodLink RX9 107 mi_X9_in.1 ∈ pd_TB := pd_tb (i := 1181) (by decide +kernel) (by decide +kernel)
theorem csX9_107 : pd_CS RX9 107 mi_X9_in 3 := ⟨cb_X9_in, mlX9_107, st_X9_in⟩
set_option maxRecDepth 100000 in
theorem hd_X9_bad : pd_hd mi_X9_bad ∈ pd_TB := pd_tb (i := 1187) (by rfl) (by decide +kernel)
set_option maxRecDepth 100000 in
theorem in_X9_bad : Cond.initialized mi_X9_bad.1.cls ∈ pd_TB := pd_tb (i := 102) (by decide +kernel) (by decide +kernel)
theorem cb_X9_bad : pd_CB mi_X9_bad 3 := ⟨hd_X9_bad, in_X9_bad, by decide +kernel, by decide +kernel, by decide, rfl⟩
set_option maxRecDepth 100000 in
theorem im_X9_bad : Cond.instanceMethod mi_X9_bad.1 ∈ pd_TB := pd_tb (i := 1186) (by decide +kernel) (by decide +kernel)
set_option maxRecDepth 100000 in
theorem se_X9_bad : Cond.selects mi_X9_bad.1.cls mi_X9_bad.1 mi_X9_bad.1 ∈ pd_TB := pd_tb (i := 50) (by decide +kernel) (by decide +kernel)
set_option maxRecDepth 100000 in
theorem mlX9_204 : Cond.methodLink RX9 204 mi_X9_bad.1 ∈ pd_TB := pd_tb (i := 1184) (by decide +kernel) (by decide +kernel)
theorem cvX9_204 : pd_CV RX9 204 mi_X9_bad 3 8 := ⟨cb_X9_bad, mlX9_204, im_X9_bad, se_X9_bad, _, rfl, rfl, by decide⟩
set_option maxRecDepth 100000 in
theorem hd_X9_fine : pd_hd mi_X9_fine ∈ pd_TB := pd_tb (i := 1191) (by rfl) (by decide +kernel)
set_option maxRecDepth 100000 in
theorem in_X9_fine : Cond.initialized mi_X9_fine.1.cls ∈ pd_TB := pd_tb (i := 102) (by decide +kernel) (by decide +kernel)
theorem cb_X9_fine : pd_CB mi_X9_fine 0 := ⟨hd_X9_fine, in_X9_fine, by decide +kernel, by decide +kernel, by decide, rfl⟩
set_option maxRecDepth 100000 in
theorem im_X9_fine : Cond.instanceMethod mi_X9_fine.1 ∈ pd_TB := pd_tb (i := 1190) (by decide +kernel) (by decide +kernel)
set_option maxRecDepth 100000 in
theorem se_X9_fine : Cond.selects mi_X9_fine.1.cls mi_X9_fine.1 mi_X9_fine.1 ∈ pd_TB := pd_tb (i := 51) (by decide +kernel) (by decide +kernel)
set_option maxRecDepth 100000 in
theorem mlX9_87 : Cond.methodLink RX9 87 mi_X9_fine.1 ∈ pd_TB := pd_tb (i := 1188) (by decide +kernel) (by decide +kernel)
theorem cvX9_87 : pd_CV RX9 87 mi_X9_fine 0 8 := ⟨cb_X9_fine, mlX9_87, im_X9_fine, se_X9_fine, _, rfl, rfl, by decide⟩
set_option maxRecDepth 100000 in
theorem hd_X9_here : pd_hd mi_X9_here ∈ pd_TB := pd_tb (i := 1195) (by rfl) (by decide +kernel)
set_option maxRecDepth 100000 in
theorem in_X9_here : Cond.initialized mi_X9_here.1.cls ∈ pd_TB := pd_tb (i := 102) (by decide +kernel) (by decide +kernel)
theorem cb_X9_here : pd_CB mi_X9_here 0 := ⟨hd_X9_here, in_X9_here, by decide +kernel, by decide +kernel, by decide, rfl⟩
set_option maxRecDepth 100000 in
theorem im_X9_here : Cond.instanceMethod mi_X9_here.1 ∈ pd_TB := pd_tb (i := 1194) (by decide +kernel) (by decide +kernel)
set_option maxRecDepth 100000 in
theorem se_X9_here : Cond.selects mi_X9_here.1.cls mi_X9_here.1 mi_X9_here.1 ∈ pd_TB := pd_tb (i := 52) (by decide +kernel) (by decide +kernel)
set_option maxRecDepth 100000 in
theorem mlX9_70 : Cond.methodLink RX9 70 mi_X9_here.1 ∈ pd_TB := pd_tb (i := 1192) (by decide +kernel) (by decide +kernel)
theorem cvX9_70 : pd_CV RX9 70 mi_X9_here 0 8 := ⟨cb_X9_here, mlX9_70, im_X9_here, se_X9_here, _, rfl, rfl, by decide⟩
set_option maxRecDepth 100000 in
theorem hd_X9_byteAt : pd_hd mi_X9_byteAt ∈ pd_TB := pd_tb (i := 1199) (by rfl) (by decide +kernel)
set_option maxRecDepth 100000 in
theorem in_X9_byteAt : Cond.initialized mi_X9_byteAt.1.cls ∈ pd_TB := pd_tb (i := 102) (by decide +kernel) (by decide +kernel)
theorem cb_X9_byteAt : pd_CB mi_X9_byteAt 1 := ⟨hd_X9_byteAt, in_X9_byteAt, by decide +kernel, by decide +kernel, by decide, rfl⟩
set_option maxRecDepth 100000 in
theorem im_X9_byteAt : Cond.instanceMethod mi_X9_byteAt.1 ∈ pd_TB := pd_tb (i := 1198) (by decide +kernel) (by decide +kernel)
set_option maxRecDepth 100000 in
theorem se_X9_byteAt : Cond.selects mi_X9_byteAt.1.cls mi_X9_byteAt.1 mi_X9_byteAt.1 ∈ pd_TB := pd_tb (i := 53) (by decide +kernel) (by decide +kernel)
set_option maxRecDepth 100000 in
theorem mlX9_60 : Cond.methodLink RX9 60 mi_X9_byteAt.1 ∈ pd_TB := pd_tb (i := 1196) (by decide +kernel) (by decide +kernel)
theorem cvX9_60 : pd_CV RX9 60 mi_X9_byteAt 1 8 := ⟨cb_X9_byteAt, mlX9_60, im_X9_byteAt, se_X9_byteAt, _, rfl, rfl, by decide⟩
set_option maxRecDepth 100000 in
theorem hd_X9_readsLine : pd_hd mi_X9_readsLine ∈ pd_TB := pd_tb (i := 1203) (by rfl) (by decide +kernel)
set_option maxRecDepth 100000 in
theorem in_X9_readsLine : Cond.initialized mi_X9_readsLine.1.cls ∈ pd_TB := pd_tb (i := 102) (by decide +kernel) (by decide +kernel)
theorem cb_X9_readsLine : pd_CB mi_X9_readsLine 0 := ⟨hd_X9_readsLine, in_X9_readsLine, by decide +kernel, by decide +kernel, by decide, rfl⟩
set_option maxRecDepth 100000 in
theorem im_X9_readsLine : Cond.instanceMethod mi_X9_readsLine.1 ∈ pd_TB := pd_tb (i := 1202) (by decide +kernel) (by decide +kernel)
set_option maxRecDepth 100000 in
theorem se_X9_readsLine : Cond.selects mi_X9_readsLine.1.cls mi_X9_readsLine.1 mi_X9_readsLine.1 ∈ pd_TB := pd_tb (i := 54) (by decide +kernel) (by decide +kernel)
set_option maxRecDepth 100000 in
theorem mlX9_208 : Cond.methodLink RX9 208 mi_X9_readsLine.1 ∈ pd_TB := pd_tb (i := 1200) (by decide +kernel) (by decide +kernel)
theorem cvX9_208 : pd_CV RX9 208 mi_X9_readsLine 0 8 := ⟨cb_X9_readsLine, mlX9_208, im_X9_readsLine, se_X9_readsLine, _, rfl, rfl, by decide⟩
set_option maxRecDepth 100000 in
theorem hd_X9_takes : pd_hd mi_X9_takes ∈ pd_TB := pd_tb (i := 1208) (by rfl) (by decide +kernel)
set_option maxRecDepth 100000 in
theorem in_X9_takes : Cond.initialized mi_X9_takes.1.cls ∈ pd_TB := pd_tb (i := 102) (by decide +kernel) (by decide +kernel)
theorem cb_X9_takes : pd_CB mi_X9_takes 1 := ⟨hd_X9_takes, in_X9_takes, by decide +kernel, by decide +kernel, by decide, rfl⟩
set_option maxRecDepth 100000 in
theorem im_X9_takes : Cond.instanceMethod mi_X9_takes.1 ∈ pd_TB := pd_tb (i := 1207) (by decide +kernel) (by decide +kernel)
set_option maxRecDepth 100000 in
theorem se_X9_takes : Cond.selects mi_X9_takes.1.cls mi_X9_takes.1 mi_X9_takes.1 ∈ pd_TB := pd_tb (i := 55) (by decide +kernel) (by decide +kernel)
set_option maxRecDepth 100000 in
theorem mlX9_150 : Cond.methodLink RX9 150 mi_X9_takes.1 ∈ pd_TB := pd_tb (i := 1205) (by decide +kernel) (by decide +kernel)
theorem cvX9_150 : pd_CV RX9 150 mi_X9_takes 1 8 := ⟨cb_X9_takes, mlX9_150, im_X9_takes, se_X9_takes, _, rfl, rfl, by decide⟩
set_option maxRecDepth 100000 in
theorem hd_X9_isWord : pd_hd mi_X9_isWord ∈ pd_TB := pd_tb (i := 1212) (by rfl) (by decide +kernel)
set_option maxRecDepth 100000 in
theorem in_X9_isWord : Cond.initialized mi_X9_isWord.1.cls ∈ pd_TB := pd_tb (i := 102) (by decide +kernel) (by decide +kernel)
theorem cb_X9_isWord : pd_CB mi_X9_isWord 1 := ⟨hd_X9_isWord, in_X9_isWord, by decide +kernel, by decide +kernel, by decide, rfl⟩
set_option maxRecDepth 100000 in
theorem im_X9_isWord : Cond.instanceMethod mi_X9_isWord.1 ∈ pd_TB := pd_tb (i := 1211) (by decide +kernel) (by decide +kernel)
set_option maxRecDepth 100000 in
theorem se_X9_isWord : Cond.selects mi_X9_isWord.1.cls mi_X9_isWord.1 mi_X9_isWord.1 ∈ pd_TB := pd_tb (i := 56) (by decide +kernel) (by decide +kernel)
set_option maxRecDepth 100000 in
theorem mlX9_91 : Cond.methodLink RX9 91 mi_X9_isWord.1 ∈ pd_TB := pd_tb (i := 1209) (by decide +kernel) (by decide +kernel)
theorem cvX9_91 : pd_CV RX9 91 mi_X9_isWord 1 8 := ⟨cb_X9_isWord, mlX9_91, im_X9_isWord, se_X9_isWord, _, rfl, rfl, by decide⟩
set_option maxRecDepth 100000 in
theorem mlX9_74 : Cond.methodLink RX9 74 mi_J0_length_8abf5.1 ∈ pd_TB := pd_tb (i := 1213) (by decide +kernel) (by decide +kernel)
set_option maxRecDepth 100000 in
theorem mlX9_79 : Cond.methodLink RX9 79 mi_J0_charAt_5068e.1 ∈ pd_TB := pd_tb (i := 1214) (by decide +kernel) (by decide +kernel)
set_option maxRecDepth 100000 in
theorem hd_X9_isSmall : pd_hd mi_X9_isSmall ∈ pd_TB := pd_tb (i := 1217) (by rfl) (by decide +kernel)
set_option maxRecDepth 100000 in
theorem in_X9_isSmall : Cond.initialized mi_X9_isSmall.1.cls ∈ pd_TB := pd_tb (i := 102) (by decide +kernel) (by decide +kernel)
theorem cb_X9_isSmall : pd_CB mi_X9_isSmall 1 := ⟨hd_X9_isSmall, in_X9_isSmall, by decide +kernel, by decide +kernel, by decide, rfl⟩
set_option maxRecDepth 100000 in
theorem st_X9_isSmall : Cond.static mi_X9_isSmall.1 ∈ pd_TB := pd_tb (i := 1216) (by decide +kernel) (by decide +kernel)
set_option maxRecDepth 100000 in
theorem mlX9_83 : Cond.methodLink RX9 83 mi_X9_isSmall.1 ∈ pd_TB := pd_tb (i := 1215) (by decide +kernel) (by decide +kernel)
theorem csX9_83 : pd_CS RX9 83 mi_X9_isSmall 1 := ⟨cb_X9_isSmall, mlX9_83, st_X9_isSmall⟩
set_option maxRecDepth 100000 in
theorem hd_X9_readsVoter : pd_hd mi_X9_readsVoter ∈ pd_TB := pd_tb (i := 1221) (by rfl) (by decide +kernel)
set_option maxRecDepth 100000 in
theorem in_X9_readsVoter : Cond.initialized mi_X9_readsVoter.1.cls ∈ pd_TB := pd_tb (i := 102) (by decide +kernel) (by decide +kernel)
theorem cb_X9_readsVoter : pd_CB mi_X9_readsVoter 1 := ⟨hd_X9_readsVoter, in_X9_readsVoter, by decide +kernel, by decide +kernel, by decide, rfl⟩
set_option maxRecDepth 100000 in
theorem im_X9_readsVoter : Cond.instanceMethod mi_X9_readsVoter.1 ∈ pd_TB := pd_tb (i := 1220) (by decide +kernel) (by decide +kernel)
set_option maxRecDepth 100000 in
theorem se_X9_readsVoter : Cond.selects mi_X9_readsVoter.1.cls mi_X9_readsVoter.1 mi_X9_readsVoter.1 ∈ pd_TB := pd_tb (i := 57) (by decide +kernel) (by decide +kernel)
set_option maxRecDepth 100000 in
theorem mlX9_182 : Cond.methodLink RX9 182 mi_X9_readsVoter.1 ∈ pd_TB := pd_tb (i := 1218) (by decide +kernel) (by decide +kernel)
theorem cvX9_182 : pd_CV RX9 182 mi_X9_readsVoter 1 8 := ⟨cb_X9_readsVoter, mlX9_182, im_X9_readsVoter, se_X9_readsVoter, _, rfl, rfl, by decide⟩
set_option maxRecDepth 100000 in
theorem hd_X9_wrong : pd_hd mi_X9_wrong ∈ pd_TB := pd_tb (i := 1225) (by rfl) (by decide +kernel)
set_option maxRecDepth 100000 in
theorem in_X9_wrong : Cond.initialized mi_X9_wrong.1.cls ∈ pd_TB := pd_tb (i := 102) (by decide +kernel) (by decide +kernel)
theorem cb_X9_wrong : pd_CB mi_X9_wrong 2 := ⟨hd_X9_wrong, in_X9_wrong, by decide +kernel, by decide +kernel, by decide, rfl⟩
set_option maxRecDepth 100000 in
theorem im_X9_wrong : Cond.instanceMethod mi_X9_wrong.1 ∈ pd_TB := pd_tb (i := 1224) (by decide +kernel) (by decide +kernel)
set_option maxRecDepth 100000 in
theorem se_X9_wrong : Cond.selects mi_X9_wrong.1.cls mi_X9_wrong.1 mi_X9_wrong.1 ∈ pd_TB := pd_tb (i := 58) (by decide +kernel) (by decide +kernel)
set_option maxRecDepth 100000 in
theorem mlX9_95 : Cond.methodLink RX9 95 mi_X9_wrong.1 ∈ pd_TB := pd_tb (i := 1222) (by decide +kernel) (by decide +kernel)
theorem cvX9_95 : pd_CV RX9 95 mi_X9_wrong 2 8 := ⟨cb_X9_wrong, mlX9_95, im_X9_wrong, se_X9_wrong, _, rfl, rfl, by decide⟩
set_option maxRecDepth 100000 in
theorem hd_X9_name : pd_hd mi_X9_name ∈ pd_TB := pd_tb (i := 1229) (by rfl) (by decide +kernel)
set_option maxRecDepth 100000 in
theorem in_X9_name : Cond.initialized mi_X9_name.1.cls ∈ pd_TB := pd_tb (i := 102) (by decide +kernel) (by decide +kernel)
theorem cb_X9_name : pd_CB mi_X9_name 0 := ⟨hd_X9_name, in_X9_name, by decide +kernel, by decide +kernel, by decide, rfl⟩
set_option maxRecDepth 100000 in
theorem im_X9_name : Cond.instanceMethod mi_X9_name.1 ∈ pd_TB := pd_tb (i := 1228) (by decide +kernel) (by decide +kernel)
set_option maxRecDepth 100000 in
theorem se_X9_name : Cond.selects mi_X9_name.1.cls mi_X9_name.1 mi_X9_name.1 ∈ pd_TB := pd_tb (i := 59) (by decide +kernel) (by decide +kernel)
set_option maxRecDepth 100000 in
theorem mlX9_114 : Cond.methodLink RX9 114 mi_X9_name.1 ∈ pd_TB := pd_tb (i := 1226) (by decide +kernel) (by decide +kernel)
theorem cvX9_114 : pd_CV RX9 114 mi_X9_name 0 8 := ⟨cb_X9_name, mlX9_114, im_X9_name, se_X9_name, _, rfl, rfl, by decide⟩
set_option maxRecDepth 100000 in
theorem hd_X9_number : pd_hd mi_X9_number ∈ pd_TB := pd_tb (i := 1233) (by rfl) (by decide +kernel)
set_option maxRecDepth 100000 in
theorem in_X9_number : Cond.initialized mi_X9_number.1.cls ∈ pd_TB := pd_tb (i := 102) (by decide +kernel) (by decide +kernel)
theorem cb_X9_number : pd_CB mi_X9_number 2 := ⟨hd_X9_number, in_X9_number, by decide +kernel, by decide +kernel, by decide, rfl⟩
set_option maxRecDepth 100000 in
theorem im_X9_number : Cond.instanceMethod mi_X9_number.1 ∈ pd_TB := pd_tb (i := 1232) (by decide +kernel) (by decide +kernel)
set_option maxRecDepth 100000 in
theorem se_X9_number : Cond.selects mi_X9_number.1.cls mi_X9_number.1 mi_X9_number.1 ∈ pd_TB := pd_tb (i := 60) (by decide +kernel) (by decide +kernel)
set_option maxRecDepth 100000 in
theorem mlX9_117 : Cond.methodLink RX9 117 mi_X9_number.1 ∈ pd_TB := pd_tb (i := 1230) (by decide +kernel) (by decide +kernel)
theorem cvX9_117 : pd_CV RX9 117 mi_X9_number 2 8 := ⟨cb_X9_number, mlX9_117, im_X9_number, se_X9_number, _, rfl, rfl, by decide⟩
set_option maxRecDepth 100000 in
theorem hd_X9_isDigit : pd_hd mi_X9_isDigit ∈ pd_TB := pd_tb (i := 1236) (by rfl) (by decide +kernel)
set_option maxRecDepth 100000 in
theorem in_X9_isDigit : Cond.initialized mi_X9_isDigit.1.cls ∈ pd_TB := pd_tb (i := 102) (by decide +kernel) (by decide +kernel)
theorem cb_X9_isDigit : pd_CB mi_X9_isDigit 1 := ⟨hd_X9_isDigit, in_X9_isDigit, by decide +kernel, by decide +kernel, by decide, rfl⟩
set_option maxRecDepth 100000 in
theorem st_X9_isDigit : Cond.static mi_X9_isDigit.1 ∈ pd_TB := pd_tb (i := 1235) (by decide +kernel) (by decide +kernel)
set_option maxRecDepth 100000 in
theorem mlX9_99 : Cond.methodLink RX9 99 mi_X9_isDigit.1 ∈ pd_TB := pd_tb (i := 1234) (by decide +kernel) (by decide +kernel)
theorem csX9_99 : pd_CS RX9 99 mi_X9_isDigit 1 := ⟨cb_X9_isDigit, mlX9_99, st_X9_isDigit⟩
set_option maxRecDepth 100000 in
theorem hd_X9_less : pd_hd mi_X9_less ∈ pd_TB := pd_tb (i := 1240) (by rfl) (by decide +kernel)
set_option maxRecDepth 100000 in
theorem in_X9_less : Cond.initialized mi_X9_less.1.cls ∈ pd_TB := pd_tb (i := 102) (by decide +kernel) (by decide +kernel)
theorem cb_X9_less : pd_CB mi_X9_less 2 := ⟨hd_X9_less, in_X9_less, by decide +kernel, by decide +kernel, by decide, rfl⟩
set_option maxRecDepth 100000 in
theorem st_X9_less : Cond.static mi_X9_less.1 ∈ pd_TB := pd_tb (i := 1239) (by decide +kernel) (by decide +kernel)
set_option maxRecDepth 100000 in
theorem mlX9_103 : Cond.methodLink RX9 103 mi_X9_less.1 ∈ pd_TB := pd_tb (i := 1238) (by decide +kernel) (by decide +kernel)
theorem csX9_103 : pd_CS RX9 103 mi_X9_less 2 := ⟨cb_X9_less, mlX9_103, st_X9_less⟩
set_option maxRecDepth 100000 in
theorem hd_X9_voterOf : pd_hd mi_X9_voterOf ∈ pd_TB := pd_tb (i := 1243) (by rfl) (by decide +kernel)
set_option maxRecDepth 100000 in
theorem in_X9_voterOf : Cond.initialized mi_X9_voterOf.1.cls ∈ pd_TB := pd_tb (i := 102) (by decide +kernel) (by decide +kernel)
theorem cb_X9_voterOf : pd_CB mi_X9_voterOf 3 := ⟨hd_X9_voterOf, in_X9_voterOf, by decide +kernel, by decide +kernel, by decide, rfl⟩
set_option maxRecDepth 100000 in
theorem st_X9_voterOf : Cond.static mi_X9_voterOf.1 ∈ pd_TB := pd_tb (i := 1242) (by decide +kernel) (by decide +kernel)
set_option maxRecDepth 100000 in
theorem mlX9_120 : Cond.methodLink RX9 120 mi_X9_voterOf.1 ∈ pd_TB := pd_tb (i := 1241) (by decide +kernel) (by decide +kernel)
theorem csX9_120 : pd_CS RX9 120 mi_X9_voterOf 3 := ⟨cb_X9_voterOf, mlX9_120, st_X9_voterOf⟩
set_option maxRecDepth 100000 in
theorem hd_X9_voterAt : pd_hd mi_X9_voterAt ∈ pd_TB := pd_tb (i := 1246) (by rfl) (by decide +kernel)
set_option maxRecDepth 100000 in
theorem in_X9_voterAt : Cond.initialized mi_X9_voterAt.1.cls ∈ pd_TB := pd_tb (i := 102) (by decide +kernel) (by decide +kernel)
theorem cb_X9_voterAt : pd_CB mi_X9_voterAt 2 := ⟨hd_X9_voterAt, in_X9_voterAt, by decide +kernel, by decide +kernel, by decide, rfl⟩
set_option maxRecDepth 100000 in
theorem st_X9_voterAt : Cond.static mi_X9_voterAt.1 ∈ pd_TB := pd_tb (i := 1245) (by decide +kernel) (by decide +kernel)
set_option maxRecDepth 100000 in
theorem mlX9_111 : Cond.methodLink RX9 111 mi_X9_voterAt.1 ∈ pd_TB := pd_tb (i := 1244) (by decide +kernel) (by decide +kernel)
theorem csX9_111 : pd_CS RX9 111 mi_X9_voterAt 2 := ⟨cb_X9_voterAt, mlX9_111, st_X9_voterAt⟩
set_option maxRecDepth 100000 in
theorem hd_X9_readsSign : pd_hd mi_X9_readsSign ∈ pd_TB := pd_tb (i := 1252) (by rfl) (by decide +kernel)
set_option maxRecDepth 100000 in
theorem in_X9_readsSign : Cond.initialized mi_X9_readsSign.1.cls ∈ pd_TB := pd_tb (i := 102) (by decide +kernel) (by decide +kernel)
theorem cb_X9_readsSign : pd_CB mi_X9_readsSign 1 := ⟨hd_X9_readsSign, in_X9_readsSign, by decide +kernel, by decide +kernel, by decide, rfl⟩
set_option maxRecDepth 100000 in
theorem im_X9_readsSign : Cond.instanceMethod mi_X9_readsSign.1 ∈ pd_TB := pd_tb (i := 1251) (by decide +kernel) (by decide +kernel)
set_option maxRecDepth 100000 in
theorem se_X9_readsSign : Cond.selects mi_X9_readsSign.1.cls mi_X9_readsSign.1 mi_X9_readsSign.1 ∈ pd_TB := pd_tb (i := 61) (by decide +kernel) (by decide +kernel)
set_option maxRecDepth 100000 in
theorem mlX9_187 : Cond.methodLink RX9 187 mi_X9_readsSign.1 ∈ pd_TB := pd_tb (i := 1249) (by decide +kernel) (by decide +kernel)
theorem cvX9_187 : pd_CV RX9 187 mi_X9_readsSign 1 8 := ⟨cb_X9_readsSign, mlX9_187, im_X9_readsSign, se_X9_readsSign, _, rfl, rfl, by decide⟩
set_option maxRecDepth 100000 in
theorem hd_X9_lineAt : pd_hd mi_X9_lineAt ∈ pd_TB := pd_tb (i := 1255) (by rfl) (by decide +kernel)
set_option maxRecDepth 100000 in
theorem in_X9_lineAt : Cond.initialized mi_X9_lineAt.1.cls ∈ pd_TB := pd_tb (i := 102) (by decide +kernel) (by decide +kernel)
theorem cb_X9_lineAt : pd_CB mi_X9_lineAt 2 := ⟨hd_X9_lineAt, in_X9_lineAt, by decide +kernel, by decide +kernel, by decide, rfl⟩
set_option maxRecDepth 100000 in
theorem st_X9_lineAt : Cond.static mi_X9_lineAt.1 ∈ pd_TB := pd_tb (i := 1254) (by decide +kernel) (by decide +kernel)
set_option maxRecDepth 100000 in
theorem mlX9_124 : Cond.methodLink RX9 124 mi_X9_lineAt.1 ∈ pd_TB := pd_tb (i := 1253) (by decide +kernel) (by decide +kernel)
theorem csX9_124 : pd_CS RX9 124 mi_X9_lineAt 2 := ⟨cb_X9_lineAt, mlX9_124, st_X9_lineAt⟩
set_option maxRecDepth 100000 in
theorem hd_X9_takesOnce : pd_hd mi_X9_takesOnce ∈ pd_TB := pd_tb (i := 1260) (by rfl) (by decide +kernel)
set_option maxRecDepth 100000 in
theorem in_X9_takesOnce : Cond.initialized mi_X9_takesOnce.1.cls ∈ pd_TB := pd_tb (i := 102) (by decide +kernel) (by decide +kernel)
theorem cb_X9_takesOnce : pd_CB mi_X9_takesOnce 2 := ⟨hd_X9_takesOnce, in_X9_takesOnce, by decide +kernel, by decide +kernel, by decide, rfl⟩
set_option maxRecDepth 100000 in
theorem im_X9_takesOnce : Cond.instanceMethod mi_X9_takesOnce.1 ∈ pd_TB := pd_tb (i := 1259) (by decide +kernel) (by decide +kernel)
set_option maxRecDepth 100000 in
theorem se_X9_takesOnce : Cond.selects mi_X9_takesOnce.1.cls mi_X9_takesOnce.1 mi_X9_takesOnce.1 ∈ pd_TB := pd_tb (i := 62) (by decide +kernel) (by decide +kernel)
set_option maxRecDepth 100000 in
theorem mlX9_192 : Cond.methodLink RX9 192 mi_X9_takesOnce.1 ∈ pd_TB := pd_tb (i := 1257) (by decide +kernel) (by decide +kernel)
theorem cvX9_192 : pd_CV RX9 192 mi_X9_takesOnce 2 8 := ⟨cb_X9_takesOnce, mlX9_192, im_X9_takesOnce, se_X9_takesOnce, _, rfl, rfl, by decide⟩
set_option maxRecDepth 100000 in
theorem hd_X9_any : pd_hd mi_X9_any ∈ pd_TB := pd_tb (i := 1268) (by rfl) (by decide +kernel)
set_option maxRecDepth 100000 in
theorem in_X9_any : Cond.initialized mi_X9_any.1.cls ∈ pd_TB := pd_tb (i := 102) (by decide +kernel) (by decide +kernel)
theorem cb_X9_any : pd_CB mi_X9_any 0 := ⟨hd_X9_any, in_X9_any, by decide +kernel, by decide +kernel, by decide, rfl⟩
set_option maxRecDepth 100000 in
theorem im_X9_any : Cond.instanceMethod mi_X9_any.1 ∈ pd_TB := pd_tb (i := 1267) (by decide +kernel) (by decide +kernel)
set_option maxRecDepth 100000 in
theorem se_X9_any : Cond.selects mi_X9_any.1.cls mi_X9_any.1 mi_X9_any.1 ∈ pd_TB := pd_tb (i := 63) (by decide +kernel) (by decide +kernel)
set_option maxRecDepth 100000 in
theorem mlX9_164 : Cond.methodLink RX9 164 mi_X9_any.1 ∈ pd_TB := pd_tb (i := 1265) (by decide +kernel) (by decide +kernel)
theorem cvX9_164 : pd_CV RX9 164 mi_X9_any 0 8 := ⟨cb_X9_any, mlX9_164, im_X9_any, se_X9_any, _, rfl, rfl, by decide⟩
set_option maxRecDepth 100000 in
theorem hd_X9_all : pd_hd mi_X9_all ∈ pd_TB := pd_tb (i := 1272) (by rfl) (by decide +kernel)
set_option maxRecDepth 100000 in
theorem in_X9_all : Cond.initialized mi_X9_all.1.cls ∈ pd_TB := pd_tb (i := 102) (by decide +kernel) (by decide +kernel)
theorem cb_X9_all : pd_CB mi_X9_all 0 := ⟨hd_X9_all, in_X9_all, by decide +kernel, by decide +kernel, by decide, rfl⟩
set_option maxRecDepth 100000 in
theorem im_X9_all : Cond.instanceMethod mi_X9_all.1 ∈ pd_TB := pd_tb (i := 1271) (by decide +kernel) (by decide +kernel)
set_option maxRecDepth 100000 in
theorem se_X9_all : Cond.selects mi_X9_all.1.cls mi_X9_all.1 mi_X9_all.1 ∈ pd_TB := pd_tb (i := 64) (by decide +kernel) (by decide +kernel)
set_option maxRecDepth 100000 in
theorem mlX9_172 : Cond.methodLink RX9 172 mi_X9_all.1 ∈ pd_TB := pd_tb (i := 1269) (by decide +kernel) (by decide +kernel)
theorem cvX9_172 : pd_CV RX9 172 mi_X9_all 0 8 := ⟨cb_X9_all, mlX9_172, im_X9_all, se_X9_all, _, rfl, rfl, by decide⟩
set_option maxRecDepth 100000 in
theorem hd_X9_part : pd_hd mi_X9_part ∈ pd_TB := pd_tb (i := 1276) (by rfl) (by decide +kernel)
set_option maxRecDepth 100000 in
theorem in_X9_part : Cond.initialized mi_X9_part.1.cls ∈ pd_TB := pd_tb (i := 102) (by decide +kernel) (by decide +kernel)
theorem cb_X9_part : pd_CB mi_X9_part 0 := ⟨hd_X9_part, in_X9_part, by decide +kernel, by decide +kernel, by decide, rfl⟩
set_option maxRecDepth 100000 in
theorem im_X9_part : Cond.instanceMethod mi_X9_part.1 ∈ pd_TB := pd_tb (i := 1275) (by decide +kernel) (by decide +kernel)
set_option maxRecDepth 100000 in
theorem se_X9_part : Cond.selects mi_X9_part.1.cls mi_X9_part.1 mi_X9_part.1 ∈ pd_TB := pd_tb (i := 65) (by decide +kernel) (by decide +kernel)
set_option maxRecDepth 100000 in
theorem mlX9_161 : Cond.methodLink RX9 161 mi_X9_part.1 ∈ pd_TB := pd_tb (i := 1273) (by decide +kernel) (by decide +kernel)
theorem cvX9_161 : pd_CV RX9 161 mi_X9_part 0 8 := ⟨cb_X9_part, mlX9_161, im_X9_part, se_X9_part, _, rfl, rfl, by decide⟩
set_option maxRecDepth 100000 in
theorem hd_X9_side : pd_hd mi_X9_side ∈ pd_TB := pd_tb (i := 1281) (by rfl) (by decide +kernel)
set_option maxRecDepth 100000 in
theorem in_X9_side : Cond.initialized mi_X9_side.1.cls ∈ pd_TB := pd_tb (i := 102) (by decide +kernel) (by decide +kernel)
theorem cb_X9_side : pd_CB mi_X9_side 0 := ⟨hd_X9_side, in_X9_side, by decide +kernel, by decide +kernel, by decide, rfl⟩
set_option maxRecDepth 100000 in
theorem im_X9_side : Cond.instanceMethod mi_X9_side.1 ∈ pd_TB := pd_tb (i := 1280) (by decide +kernel) (by decide +kernel)
set_option maxRecDepth 100000 in
theorem se_X9_side : Cond.selects mi_X9_side.1.cls mi_X9_side.1 mi_X9_side.1 ∈ pd_TB := pd_tb (i := 66) (by decide +kernel) (by decide +kernel)
set_option maxRecDepth 100000 in
theorem mlX9_155 : Cond.methodLink RX9 155 mi_X9_side.1 ∈ pd_TB := pd_tb (i := 1278) (by decide +kernel) (by decide +kernel)
theorem cvX9_155 : pd_CV RX9 155 mi_X9_side 0 8 := ⟨cb_X9_side, mlX9_155, im_X9_side, se_X9_side, _, rfl, rfl, by decide⟩
set_option maxRecDepth 100000 in
theorem hd_X9_tells : pd_hd mi_X9_tells ∈ pd_TB := pd_tb (i := 1285) (by rfl) (by decide +kernel)
set_option maxRecDepth 100000 in
theorem in_X9_tells : Cond.initialized mi_X9_tells.1.cls ∈ pd_TB := pd_tb (i := 102) (by decide +kernel) (by decide +kernel)
theorem cb_X9_tells : pd_CB mi_X9_tells 1 := ⟨hd_X9_tells, in_X9_tells, by decide +kernel, by decide +kernel, by decide, rfl⟩
set_option maxRecDepth 100000 in
theorem im_X9_tells : Cond.instanceMethod mi_X9_tells.1 ∈ pd_TB := pd_tb (i := 1284) (by decide +kernel) (by decide +kernel)
set_option maxRecDepth 100000 in
theorem se_X9_tells : Cond.selects mi_X9_tells.1.cls mi_X9_tells.1 mi_X9_tells.1 ∈ pd_TB := pd_tb (i := 67) (by decide +kernel) (by decide +kernel)
set_option maxRecDepth 100000 in
theorem mlX9_142 : Cond.methodLink RX9 142 mi_X9_tells.1 ∈ pd_TB := pd_tb (i := 1282) (by decide +kernel) (by decide +kernel)
theorem cvX9_142 : pd_CV RX9 142 mi_X9_tells 1 8 := ⟨cb_X9_tells, mlX9_142, im_X9_tells, se_X9_tells, _, rfl, rfl, by decide⟩
set_option maxRecDepth 100000 in
theorem hd_X9_factOf : pd_hd mi_X9_factOf ∈ pd_TB := pd_tb (i := 1288) (by rfl) (by decide +kernel)
set_option maxRecDepth 100000 in
theorem in_X9_factOf : Cond.initialized mi_X9_factOf.1.cls ∈ pd_TB := pd_tb (i := 102) (by decide +kernel) (by decide +kernel)
theorem cb_X9_factOf : pd_CB mi_X9_factOf 1 := ⟨hd_X9_factOf, in_X9_factOf, by decide +kernel, by decide +kernel, by decide, rfl⟩
set_option maxRecDepth 100000 in
theorem st_X9_factOf : Cond.static mi_X9_factOf.1 ∈ pd_TB := pd_tb (i := 1287) (by decide +kernel) (by decide +kernel)
set_option maxRecDepth 100000 in
theorem mlX9_146 : Cond.methodLink RX9 146 mi_X9_factOf.1 ∈ pd_TB := pd_tb (i := 1286) (by decide +kernel) (by decide +kernel)
theorem csX9_146 : pd_CS RX9 146 mi_X9_factOf 1 := ⟨cb_X9_factOf, mlX9_146, st_X9_factOf⟩
set_option maxRecDepth 100000 in
theorem hd_X9_must : pd_hd mi_X9_must ∈ pd_TB := pd_tb (i := 1297) (by rfl) (by decide +kernel)
set_option maxRecDepth 100000 in
theorem in_X9_must : Cond.initialized mi_X9_must.1.cls ∈ pd_TB := pd_tb (i := 102) (by decide +kernel) (by decide +kernel)
theorem cb_X9_must : pd_CB mi_X9_must 1 := ⟨hd_X9_must, in_X9_must, by decide +kernel, by decide +kernel, by decide, rfl⟩
set_option maxRecDepth 100000 in
theorem im_X9_must : Cond.instanceMethod mi_X9_must.1 ∈ pd_TB := pd_tb (i := 1296) (by decide +kernel) (by decide +kernel)
set_option maxRecDepth 100000 in
theorem se_X9_must : Cond.selects mi_X9_must.1.cls mi_X9_must.1 mi_X9_must.1 ∈ pd_TB := pd_tb (i := 68) (by decide +kernel) (by decide +kernel)
set_option maxRecDepth 100000 in
theorem mlX9_167 : Cond.methodLink RX9 167 mi_X9_must.1 ∈ pd_TB := pd_tb (i := 1294) (by decide +kernel) (by decide +kernel)
theorem cvX9_167 : pd_CV RX9 167 mi_X9_must 1 8 := ⟨cb_X9_must, mlX9_167, im_X9_must, se_X9_must, _, rfl, rfl, by decide⟩
set_option maxRecDepth 100000 in
theorem hd_X9_remembers : pd_hd mi_X9_remembers ∈ pd_TB := pd_tb (i := 1303) (by rfl) (by decide +kernel)
set_option maxRecDepth 100000 in
theorem in_X9_remembers : Cond.initialized mi_X9_remembers.1.cls ∈ pd_TB := pd_tb (i := 102) (by decide +kernel) (by decide +kernel)
theorem cb_X9_remembers : pd_CB mi_X9_remembers 0 := ⟨hd_X9_remembers, in_X9_remembers, by decide +kernel, by decide +kernel, by decide, rfl⟩
set_option maxRecDepth 100000 in
theorem im_X9_remembers : Cond.instanceMethod mi_X9_remembers.1 ∈ pd_TB := pd_tb (i := 1302) (by decide +kernel) (by decide +kernel)
set_option maxRecDepth 100000 in
theorem se_X9_remembers : Cond.selects mi_X9_remembers.1.cls mi_X9_remembers.1 mi_X9_remembers.1 ∈ pd_TB := pd_tb (i := 69) (by decide +kernel) (by decide +kernel)
set_option maxRecDepth 100000 in
theorem mlX9_211 : Cond.methodLink RX9 211 mi_X9_remembers.1 ∈ pd_TB := pd_tb (i := 1300) (by decide +kernel) (by decide +kernel)
theorem cvX9_211 : pd_CV RX9 211 mi_X9_remembers 0 8 := ⟨cb_X9_remembers, mlX9_211, im_X9_remembers, se_X9_remembers, _, rfl, rfl, by decide⟩
set_option maxRecDepth 100000 in
theorem hd_X9_copies : pd_hd mi_X9_copies ∈ pd_TB := pd_tb (i := 1306) (by rfl) (by decide +kernel)
set_option maxRecDepth 100000 in
theorem in_X9_copies : Cond.initialized mi_X9_copies.1.cls ∈ pd_TB := pd_tb (i := 102) (by decide +kernel) (by decide +kernel)
theorem cb_X9_copies : pd_CB mi_X9_copies 2 := ⟨hd_X9_copies, in_X9_copies, by decide +kernel, by decide +kernel, by decide, rfl⟩
set_option maxRecDepth 100000 in
theorem st_X9_copies : Cond.static mi_X9_copies.1 ∈ pd_TB := pd_tb (i := 1305) (by decide +kernel) (by decide +kernel)
set_option maxRecDepth 100000 in
theorem mlX9_214 : Cond.methodLink RX9 214 mi_X9_copies.1 ∈ pd_TB := pd_tb (i := 1304) (by decide +kernel) (by decide +kernel)
theorem csX9_214 : pd_CS RX9 214 mi_X9_copies 2 := ⟨cb_X9_copies, mlX9_214, st_X9_copies⟩
set_option maxRecDepth 100000 in
theorem hd_X9_lines : pd_hd mi_X9_lines ∈ pd_TB := pd_tb (i := 1310) (by rfl) (by decide +kernel)
set_option maxRecDepth 100000 in
theorem in_X9_lines : Cond.initialized mi_X9_lines.1.cls ∈ pd_TB := pd_tb (i := 102) (by decide +kernel) (by decide +kernel)
theorem cb_X9_lines : pd_CB mi_X9_lines 0 := ⟨hd_X9_lines, in_X9_lines, by decide +kernel, by decide +kernel, by decide, rfl⟩
set_option maxRecDepth 100000 in
theorem im_X9_lines : Cond.instanceMethod mi_X9_lines.1 ∈ pd_TB := pd_tb (i := 1309) (by decide +kernel) (by decide +kernel)
set_option maxRecDepth 100000 in
theorem se_X9_lines : Cond.selects mi_X9_lines.1.cls mi_X9_lines.1 mi_X9_lines.1 ∈ pd_TB := pd_tb (i := 70) (by decide +kernel) (by decide +kernel)
set_option maxRecDepth 100000 in
theorem mlX9_218 : Cond.methodLink RX9 218 mi_X9_lines.1 ∈ pd_TB := pd_tb (i := 1307) (by decide +kernel) (by decide +kernel)
theorem cvX9_218 : pd_CV RX9 218 mi_X9_lines 0 8 := ⟨cb_X9_lines, mlX9_218, im_X9_lines, se_X9_lines, _, rfl, rfl, by decide⟩
set_option maxRecDepth 100000 in
theorem hd_X9_fault : pd_hd mi_X9_fault ∈ pd_TB := pd_tb (i := 1314) (by rfl) (by decide +kernel)
set_option maxRecDepth 100000 in
theorem in_X9_fault : Cond.initialized mi_X9_fault.1.cls ∈ pd_TB := pd_tb (i := 102) (by decide +kernel) (by decide +kernel)
theorem cb_X9_fault : pd_CB mi_X9_fault 0 := ⟨hd_X9_fault, in_X9_fault, by decide +kernel, by decide +kernel, by decide, rfl⟩
set_option maxRecDepth 100000 in
theorem im_X9_fault : Cond.instanceMethod mi_X9_fault.1 ∈ pd_TB := pd_tb (i := 1312) (by decide +kernel) (by decide +kernel)
set_option maxRecDepth 100000 in
theorem se_X9_fault : Cond.selects mi_X9_fault.1.cls mi_X9_fault.1 mi_X9_fault.1 ∈ pd_TB := pd_tb (i := 1313) (by decide +kernel) (by decide +kernel)
set_option maxRecDepth 100000 in
theorem mlL_93 : Cond.methodLink RL 93 mi_X9_fault.1 ∈ pd_TB := pd_tb (i := 1311) (by decide +kernel) (by decide +kernel)
theorem cvL_93 : pd_CV RL 93 mi_X9_fault 0 8 := ⟨cb_X9_fault, mlL_93, im_X9_fault, se_X9_fault, _, rfl, rfl, by decide⟩
set_option maxRecDepth 100000 in
theorem hd_X9_undo : pd_hd mi_X9_undo ∈ pd_TB := pd_tb (i := 1318) (by rfl) (by decide +kernel)
set_option maxRecDepth 100000 in
theorem in_X9_undo : Cond.initialized mi_X9_undo.1.cls ∈ pd_TB := pd_tb (i := 102) (by decide +kernel) (by decide +kernel)
theorem cb_X9_undo : pd_CB mi_X9_undo 0 := ⟨hd_X9_undo, in_X9_undo, by decide +kernel, by decide +kernel, by decide, rfl⟩
set_option maxRecDepth 100000 in
theorem im_X9_undo : Cond.instanceMethod mi_X9_undo.1 ∈ pd_TB := pd_tb (i := 1316) (by decide +kernel) (by decide +kernel)
set_option maxRecDepth 100000 in
theorem se_X9_undo : Cond.selects mi_X9_undo.1.cls mi_X9_undo.1 mi_X9_undo.1 ∈ pd_TB := pd_tb (i := 1317) (by decide +kernel) (by decide +kernel)
set_option maxRecDepth 100000 in
theorem mlL_112 : Cond.methodLink RL 112 mi_X9_undo.1 ∈ pd_TB := pd_tb (i := 1315) (by decide +kernel) (by decide +kernel)
theorem cvL_112 : pd_CV RL 112 mi_X9_undo 0 8 := ⟨cb_X9_undo, mlL_112, im_X9_undo, se_X9_undo, _, rfl, rfl, by decide⟩
set_option maxRecDepth 100000 in
theorem hd_X9_sample : pd_hd mi_X9_sample ∈ pd_TB := pd_tb (i := 1322) (by rfl) (by decide +kernel)
set_option maxRecDepth 100000 in
theorem in_X9_sample : Cond.initialized mi_X9_sample.1.cls ∈ pd_TB := pd_tb (i := 102) (by decide +kernel) (by decide +kernel)
theorem cb_X9_sample : pd_CB mi_X9_sample 3 := ⟨hd_X9_sample, in_X9_sample, by decide +kernel, by decide +kernel, by decide, rfl⟩
set_option maxRecDepth 100000 in
theorem im_X9_sample : Cond.instanceMethod mi_X9_sample.1 ∈ pd_TB := pd_tb (i := 1320) (by decide +kernel) (by decide +kernel)
set_option maxRecDepth 100000 in
theorem se_X9_sample : Cond.selects mi_X9_sample.1.cls mi_X9_sample.1 mi_X9_sample.1 ∈ pd_TB := pd_tb (i := 1321) (by decide +kernel) (by decide +kernel)
set_option maxRecDepth 100000 in
theorem mlL_97 : Cond.methodLink RL 97 mi_X9_sample.1 ∈ pd_TB := pd_tb (i := 1319) (by decide +kernel) (by decide +kernel)
theorem cvL_97 : pd_CV RL 97 mi_X9_sample 3 8 := ⟨cb_X9_sample, mlL_97, im_X9_sample, se_X9_sample, _, rfl, rfl, by decide⟩
set_option maxRecDepth 100000 in
theorem hd_X9_isSample : pd_hd mi_X9_isSample ∈ pd_TB := pd_tb (i := 1325) (by rfl) (by decide +kernel)
set_option maxRecDepth 100000 in
theorem in_X9_isSample : Cond.initialized mi_X9_isSample.1.cls ∈ pd_TB := pd_tb (i := 102) (by decide +kernel) (by decide +kernel)
theorem cb_X9_isSample : pd_CB mi_X9_isSample 1 := ⟨hd_X9_isSample, in_X9_isSample, by decide +kernel, by decide +kernel, by decide, rfl⟩
set_option maxRecDepth 100000 in
theorem st_X9_isSample : Cond.static mi_X9_isSample.1 ∈ pd_TB := pd_tb (i := 1324) (by decide +kernel) (by decide +kernel)
set_option maxRecDepth 100000 in
theorem mlX9_251 : Cond.methodLink RX9 251 mi_X9_isSample.1 ∈ pd_TB := pd_tb (i := 1323) (by decide +kernel) (by decide +kernel)
theorem csX9_251 : pd_CS RX9 251 mi_X9_isSample 1 := ⟨cb_X9_isSample, mlX9_251, st_X9_isSample⟩
set_option maxRecDepth 100000 in
theorem hd_X9_isIn : pd_hd mi_X9_isIn ∈ pd_TB := pd_tb (i := 1330) (by rfl) (by decide +kernel)
set_option maxRecDepth 100000 in
theorem in_X9_isIn : Cond.initialized mi_X9_isIn.1.cls ∈ pd_TB := pd_tb (i := 102) (by decide +kernel) (by decide +kernel)
theorem cb_X9_isIn : pd_CB mi_X9_isIn 2 := ⟨hd_X9_isIn, in_X9_isIn, by decide +kernel, by decide +kernel, by decide, rfl⟩
set_option maxRecDepth 100000 in
theorem im_X9_isIn : Cond.instanceMethod mi_X9_isIn.1 ∈ pd_TB := pd_tb (i := 1329) (by decide +kernel) (by decide +kernel)
set_option maxRecDepth 100000 in
theorem se_X9_isIn : Cond.selects mi_X9_isIn.1.cls mi_X9_isIn.1 mi_X9_isIn.1 ∈ pd_TB := pd_tb (i := 71) (by decide +kernel) (by decide +kernel)
set_option maxRecDepth 100000 in
theorem mlX9_244 : Cond.methodLink RX9 244 mi_X9_isIn.1 ∈ pd_TB := pd_tb (i := 1327) (by decide +kernel) (by decide +kernel)
theorem cvX9_244 : pd_CV RX9 244 mi_X9_isIn 2 8 := ⟨cb_X9_isIn, mlX9_244, im_X9_isIn, se_X9_isIn, _, rfl, rfl, by decide⟩
set_option maxRecDepth 100000 in
theorem hd_X9_judges : pd_hd mi_X9_judges ∈ pd_TB := pd_tb (i := 1334) (by rfl) (by decide +kernel)
set_option maxRecDepth 100000 in
theorem in_X9_judges : Cond.initialized mi_X9_judges.1.cls ∈ pd_TB := pd_tb (i := 102) (by decide +kernel) (by decide +kernel)
theorem cb_X9_judges : pd_CB mi_X9_judges 2 := ⟨hd_X9_judges, in_X9_judges, by decide +kernel, by decide +kernel, by decide, rfl⟩
set_option maxRecDepth 100000 in
theorem im_X9_judges : Cond.instanceMethod mi_X9_judges.1 ∈ pd_TB := pd_tb (i := 1333) (by decide +kernel) (by decide +kernel)
set_option maxRecDepth 100000 in
theorem se_X9_judges : Cond.selects mi_X9_judges.1.cls mi_X9_judges.1 mi_X9_judges.1 ∈ pd_TB := pd_tb (i := 72) (by decide +kernel) (by decide +kernel)
set_option maxRecDepth 100000 in
theorem mlX9_255 : Cond.methodLink RX9 255 mi_X9_judges.1 ∈ pd_TB := pd_tb (i := 1331) (by decide +kernel) (by decide +kernel)
theorem cvX9_255 : pd_CV RX9 255 mi_X9_judges 2 8 := ⟨cb_X9_judges, mlX9_255, im_X9_judges, se_X9_judges, _, rfl, rfl, by decide⟩
set_option maxRecDepth 100000 in
theorem hd_X9_isGood : pd_hd mi_X9_isGood ∈ pd_TB := pd_tb (i := 1338) (by rfl) (by decide +kernel)
set_option maxRecDepth 100000 in
theorem in_X9_isGood : Cond.initialized mi_X9_isGood.1.cls ∈ pd_TB := pd_tb (i := 102) (by decide +kernel) (by decide +kernel)
theorem cb_X9_isGood : pd_CB mi_X9_isGood 2 := ⟨hd_X9_isGood, in_X9_isGood, by decide +kernel, by decide +kernel, by decide, rfl⟩
set_option maxRecDepth 100000 in
theorem im_X9_isGood : Cond.instanceMethod mi_X9_isGood.1 ∈ pd_TB := pd_tb (i := 1337) (by decide +kernel) (by decide +kernel)
set_option maxRecDepth 100000 in
theorem se_X9_isGood : Cond.selects mi_X9_isGood.1.cls mi_X9_isGood.1 mi_X9_isGood.1 ∈ pd_TB := pd_tb (i := 73) (by decide +kernel) (by decide +kernel)
set_option maxRecDepth 100000 in
theorem mlX9_231 : Cond.methodLink RX9 231 mi_X9_isGood.1 ∈ pd_TB := pd_tb (i := 1335) (by decide +kernel) (by decide +kernel)
theorem cvX9_231 : pd_CV RX9 231 mi_X9_isGood 2 8 := ⟨cb_X9_isGood, mlX9_231, im_X9_isGood, se_X9_isGood, _, rfl, rfl, by decide⟩
set_option maxRecDepth 100000 in
theorem hd_X9_fact : pd_hd mi_X9_fact ∈ pd_TB := pd_tb (i := 1342) (by rfl) (by decide +kernel)
set_option maxRecDepth 100000 in
theorem in_X9_fact : Cond.initialized mi_X9_fact.1.cls ∈ pd_TB := pd_tb (i := 102) (by decide +kernel) (by decide +kernel)
theorem cb_X9_fact : pd_CB mi_X9_fact 3 := ⟨hd_X9_fact, in_X9_fact, by decide +kernel, by decide +kernel, by decide, rfl⟩
set_option maxRecDepth 100000 in
theorem im_X9_fact : Cond.instanceMethod mi_X9_fact.1 ∈ pd_TB := pd_tb (i := 1341) (by decide +kernel) (by decide +kernel)
set_option maxRecDepth 100000 in
theorem se_X9_fact : Cond.selects mi_X9_fact.1.cls mi_X9_fact.1 mi_X9_fact.1 ∈ pd_TB := pd_tb (i := 74) (by decide +kernel) (by decide +kernel)
set_option maxRecDepth 100000 in
theorem mlX9_225 : Cond.methodLink RX9 225 mi_X9_fact.1 ∈ pd_TB := pd_tb (i := 1339) (by decide +kernel) (by decide +kernel)
theorem cvX9_225 : pd_CV RX9 225 mi_X9_fact 3 8 := ⟨cb_X9_fact, mlX9_225, im_X9_fact, se_X9_fact, _, rfl, rfl, by decide⟩
set_option maxRecDepth 100000 in
theorem hd_X9_numberOf : pd_hd mi_X9_numberOf ∈ pd_TB := pd_tb (i := 1345) (by rfl) (by decide +kernel)
set_option maxRecDepth 100000 in
theorem in_X9_numberOf : Cond.initialized mi_X9_numberOf.1.cls ∈ pd_TB := pd_tb (i := 102) (by decide +kernel) (by decide +kernel)
theorem cb_X9_numberOf : pd_CB mi_X9_numberOf 2 := ⟨hd_X9_numberOf, in_X9_numberOf, by decide +kernel, by decide +kernel, by decide, rfl⟩
set_option maxRecDepth 100000 in
theorem st_X9_numberOf : Cond.static mi_X9_numberOf.1 ∈ pd_TB := pd_tb (i := 1344) (by decide +kernel) (by decide +kernel)
set_option maxRecDepth 100000 in
theorem mlX9_221 : Cond.methodLink RX9 221 mi_X9_numberOf.1 ∈ pd_TB := pd_tb (i := 1343) (by decide +kernel) (by decide +kernel)
theorem csX9_221 : pd_CS RX9 221 mi_X9_numberOf 2 := ⟨cb_X9_numberOf, mlX9_221, st_X9_numberOf⟩
set_option maxRecDepth 100000 in
theorem hd_X9_goodIn : pd_hd mi_X9_goodIn ∈ pd_TB := pd_tb (i := 1349) (by rfl) (by decide +kernel)
set_option maxRecDepth 100000 in
theorem in_X9_goodIn : Cond.initialized mi_X9_goodIn.1.cls ∈ pd_TB := pd_tb (i := 102) (by decide +kernel) (by decide +kernel)
theorem cb_X9_goodIn : pd_CB mi_X9_goodIn 1 := ⟨hd_X9_goodIn, in_X9_goodIn, by decide +kernel, by decide +kernel, by decide, rfl⟩
set_option maxRecDepth 100000 in
theorem im_X9_goodIn : Cond.instanceMethod mi_X9_goodIn.1 ∈ pd_TB := pd_tb (i := 1348) (by decide +kernel) (by decide +kernel)
set_option maxRecDepth 100000 in
theorem se_X9_goodIn : Cond.selects mi_X9_goodIn.1.cls mi_X9_goodIn.1 mi_X9_goodIn.1 ∈ pd_TB := pd_tb (i := 75) (by decide +kernel) (by decide +kernel)
set_option maxRecDepth 100000 in
theorem mlX9_259 : Cond.methodLink RX9 259 mi_X9_goodIn.1 ∈ pd_TB := pd_tb (i := 1346) (by decide +kernel) (by decide +kernel)
theorem cvX9_259 : pd_CV RX9 259 mi_X9_goodIn 1 8 := ⟨cb_X9_goodIn, mlX9_259, im_X9_goodIn, se_X9_goodIn, _, rfl, rfl, by decide⟩
set_option maxRecDepth 100000 in
theorem hd_X9_isClean : pd_hd mi_X9_isClean ∈ pd_TB := pd_tb (i := 1353) (by rfl) (by decide +kernel)
set_option maxRecDepth 100000 in
theorem in_X9_isClean : Cond.initialized mi_X9_isClean.1.cls ∈ pd_TB := pd_tb (i := 102) (by decide +kernel) (by decide +kernel)
theorem cb_X9_isClean : pd_CB mi_X9_isClean 1 := ⟨hd_X9_isClean, in_X9_isClean, by decide +kernel, by decide +kernel, by decide, rfl⟩
set_option maxRecDepth 100000 in
theorem im_X9_isClean : Cond.instanceMethod mi_X9_isClean.1 ∈ pd_TB := pd_tb (i := 1352) (by decide +kernel) (by decide +kernel)
set_option maxRecDepth 100000 in
theorem se_X9_isClean : Cond.selects mi_X9_isClean.1.cls mi_X9_isClean.1 mi_X9_isClean.1 ∈ pd_TB := pd_tb (i := 76) (by decide +kernel) (by decide +kernel)
set_option maxRecDepth 100000 in
theorem mlX9_248 : Cond.methodLink RX9 248 mi_X9_isClean.1 ∈ pd_TB := pd_tb (i := 1350) (by decide +kernel) (by decide +kernel)
theorem cvX9_248 : pd_CV RX9 248 mi_X9_isClean 1 8 := ⟨cb_X9_isClean, mlX9_248, im_X9_isClean, se_X9_isClean, _, rfl, rfl, by decide⟩
set_option maxRecDepth 100000 in
theorem hd_X9_strike : pd_hd mi_X9_strike ∈ pd_TB := pd_tb (i := 1357) (by rfl) (by decide +kernel)
set_option maxRecDepth 100000 in
theorem in_X9_strike : Cond.initialized mi_X9_strike.1.cls ∈ pd_TB := pd_tb (i := 102) (by decide +kernel) (by decide +kernel)
theorem cb_X9_strike : pd_CB mi_X9_strike 2 := ⟨hd_X9_strike, in_X9_strike, by decide +kernel, by decide +kernel, by decide, rfl⟩
set_option maxRecDepth 100000 in
theorem im_X9_strike : Cond.instanceMethod mi_X9_strike.1 ∈ pd_TB := pd_tb (i := 1355) (by decide +kernel) (by decide +kernel)
set_option maxRecDepth 100000 in
theorem se_X9_strike : Cond.selects mi_X9_strike.1.cls mi_X9_strike.1 mi_X9_strike.1 ∈ pd_TB := pd_tb (i := 1356) (by decide +kernel) (by decide +kernel)
set_option maxRecDepth 100000 in
theorem mlL_101 : Cond.methodLink RL 101 mi_X9_strike.1 ∈ pd_TB := pd_tb (i := 1354) (by decide +kernel) (by decide +kernel)
theorem cvL_101 : pd_CV RL 101 mi_X9_strike 2 8 := ⟨cb_X9_strike, mlL_101, im_X9_strike, se_X9_strike, _, rfl, rfl, by decide⟩
set_option maxRecDepth 100000 in
theorem hd_X9_isSheet : pd_hd mi_X9_isSheet ∈ pd_TB := pd_tb (i := 1361) (by rfl) (by decide +kernel)
set_option maxRecDepth 100000 in
theorem in_X9_isSheet : Cond.initialized mi_X9_isSheet.1.cls ∈ pd_TB := pd_tb (i := 102) (by decide +kernel) (by decide +kernel)
theorem cb_X9_isSheet : pd_CB mi_X9_isSheet 1 := ⟨hd_X9_isSheet, in_X9_isSheet, by decide +kernel, by decide +kernel, by decide, rfl⟩
set_option maxRecDepth 100000 in
theorem im_X9_isSheet : Cond.instanceMethod mi_X9_isSheet.1 ∈ pd_TB := pd_tb (i := 1360) (by decide +kernel) (by decide +kernel)
set_option maxRecDepth 100000 in
theorem se_X9_isSheet : Cond.selects mi_X9_isSheet.1.cls mi_X9_isSheet.1 mi_X9_isSheet.1 ∈ pd_TB := pd_tb (i := 77) (by decide +kernel) (by decide +kernel)
set_option maxRecDepth 100000 in
theorem mlX9_238 : Cond.methodLink RX9 238 mi_X9_isSheet.1 ∈ pd_TB := pd_tb (i := 1358) (by decide +kernel) (by decide +kernel)
theorem cvX9_238 : pd_CV RX9 238 mi_X9_isSheet 1 8 := ⟨cb_X9_isSheet, mlX9_238, im_X9_isSheet, se_X9_isSheet, _, rfl, rfl, by decide⟩
set_option maxRecDepth 100000 in
theorem hd_X9_sign : pd_hd mi_X9_sign ∈ pd_TB := pd_tb (i := 1365) (by rfl) (by decide +kernel)
set_option maxRecDepth 100000 in
theorem in_X9_sign : Cond.initialized mi_X9_sign.1.cls ∈ pd_TB := pd_tb (i := 102) (by decide +kernel) (by decide +kernel)
theorem cb_X9_sign : pd_CB mi_X9_sign 3 := ⟨hd_X9_sign, in_X9_sign, by decide +kernel, by decide +kernel, by decide, rfl⟩
set_option maxRecDepth 100000 in
theorem im_X9_sign : Cond.instanceMethod mi_X9_sign.1 ∈ pd_TB := pd_tb (i := 1363) (by decide +kernel) (by decide +kernel)
set_option maxRecDepth 100000 in
theorem se_X9_sign : Cond.selects mi_X9_sign.1.cls mi_X9_sign.1 mi_X9_sign.1 ∈ pd_TB := pd_tb (i := 1364) (by decide +kernel) (by decide +kernel)
set_option maxRecDepth 100000 in
theorem mlL_104 : Cond.methodLink RL 104 mi_X9_sign.1 ∈ pd_TB := pd_tb (i := 1362) (by decide +kernel) (by decide +kernel)
theorem cvL_104 : pd_CV RL 104 mi_X9_sign 3 8 := ⟨cb_X9_sign, mlL_104, im_X9_sign, se_X9_sign, _, rfl, rfl, by decide⟩
set_option maxRecDepth 100000 in
theorem hd_X9_isVoter : pd_hd mi_X9_isVoter ∈ pd_TB := pd_tb (i := 1369) (by rfl) (by decide +kernel)
set_option maxRecDepth 100000 in
theorem in_X9_isVoter : Cond.initialized mi_X9_isVoter.1.cls ∈ pd_TB := pd_tb (i := 102) (by decide +kernel) (by decide +kernel)
theorem cb_X9_isVoter : pd_CB mi_X9_isVoter 1 := ⟨hd_X9_isVoter, in_X9_isVoter, by decide +kernel, by decide +kernel, by decide, rfl⟩
set_option maxRecDepth 100000 in
theorem im_X9_isVoter : Cond.instanceMethod mi_X9_isVoter.1 ∈ pd_TB := pd_tb (i := 1368) (by decide +kernel) (by decide +kernel)
set_option maxRecDepth 100000 in
theorem se_X9_isVoter : Cond.selects mi_X9_isVoter.1.cls mi_X9_isVoter.1 mi_X9_isVoter.1 ∈ pd_TB := pd_tb (i := 78) (by decide +kernel) (by decide +kernel)
set_option maxRecDepth 100000 in
theorem mlX9_262 : Cond.methodLink RX9 262 mi_X9_isVoter.1 ∈ pd_TB := pd_tb (i := 1366) (by decide +kernel) (by decide +kernel)
theorem cvX9_262 : pd_CV RX9 262 mi_X9_isVoter 1 8 := ⟨cb_X9_isVoter, mlX9_262, im_X9_isVoter, se_X9_isVoter, _, rfl, rfl, by decide⟩
set_option maxRecDepth 100000 in
theorem hd_X9_linesOf : pd_hd mi_X9_linesOf ∈ pd_TB := pd_tb (i := 1374) (by rfl) (by decide +kernel)
set_option maxRecDepth 100000 in
theorem in_X9_linesOf : Cond.initialized mi_X9_linesOf.1.cls ∈ pd_TB := pd_tb (i := 102) (by decide +kernel) (by decide +kernel)
theorem cb_X9_linesOf : pd_CB mi_X9_linesOf 1 := ⟨hd_X9_linesOf, in_X9_linesOf, by decide +kernel, by decide +kernel, by decide, rfl⟩
set_option maxRecDepth 100000 in
theorem im_X9_linesOf : Cond.instanceMethod mi_X9_linesOf.1 ∈ pd_TB := pd_tb (i := 1373) (by decide +kernel) (by decide +kernel)
set_option maxRecDepth 100000 in
theorem se_X9_linesOf : Cond.selects mi_X9_linesOf.1.cls mi_X9_linesOf.1 mi_X9_linesOf.1 ∈ pd_TB := pd_tb (i := 79) (by decide +kernel) (by decide +kernel)
set_option maxRecDepth 100000 in
theorem mlX9_241 : Cond.methodLink RX9 241 mi_X9_linesOf.1 ∈ pd_TB := pd_tb (i := 1371) (by decide +kernel) (by decide +kernel)
theorem cvX9_241 : pd_CV RX9 241 mi_X9_linesOf 1 8 := ⟨cb_X9_linesOf, mlX9_241, im_X9_linesOf, se_X9_linesOf, _, rfl, rfl, by decide⟩
set_option maxRecDepth 100000 in
theorem hd_X9_spotOf : pd_hd mi_X9_spotOf ∈ pd_TB := pd_tb (i := 1378) (by rfl) (by decide +kernel)
set_option maxRecDepth 100000 in
theorem in_X9_spotOf : Cond.initialized mi_X9_spotOf.1.cls ∈ pd_TB := pd_tb (i := 102) (by decide +kernel) (by decide +kernel)
theorem cb_X9_spotOf : pd_CB mi_X9_spotOf 2 := ⟨hd_X9_spotOf, in_X9_spotOf, by decide +kernel, by decide +kernel, by decide, rfl⟩
set_option maxRecDepth 100000 in
theorem im_X9_spotOf : Cond.instanceMethod mi_X9_spotOf.1 ∈ pd_TB := pd_tb (i := 1377) (by decide +kernel) (by decide +kernel)
set_option maxRecDepth 100000 in
theorem se_X9_spotOf : Cond.selects mi_X9_spotOf.1.cls mi_X9_spotOf.1 mi_X9_spotOf.1 ∈ pd_TB := pd_tb (i := 80) (by decide +kernel) (by decide +kernel)
set_option maxRecDepth 100000 in
theorem mlX9_267 : Cond.methodLink RX9 267 mi_X9_spotOf.1 ∈ pd_TB := pd_tb (i := 1375) (by decide +kernel) (by decide +kernel)
theorem cvX9_267 : pd_CV RX9 267 mi_X9_spotOf 2 8 := ⟨cb_X9_spotOf, mlX9_267, im_X9_spotOf, se_X9_spotOf, _, rfl, rfl, by decide⟩
set_option maxRecDepth 100000 in
theorem hd_X9_moves : pd_hd mi_X9_moves ∈ pd_TB := pd_tb (i := 1382) (by rfl) (by decide +kernel)
set_option maxRecDepth 100000 in
theorem in_X9_moves : Cond.initialized mi_X9_moves.1.cls ∈ pd_TB := pd_tb (i := 102) (by decide +kernel) (by decide +kernel)
theorem cb_X9_moves : pd_CB mi_X9_moves 2 := ⟨hd_X9_moves, in_X9_moves, by decide +kernel, by decide +kernel, by decide, rfl⟩
set_option maxRecDepth 100000 in
theorem im_X9_moves : Cond.instanceMethod mi_X9_moves.1 ∈ pd_TB := pd_tb (i := 1381) (by decide +kernel) (by decide +kernel)
set_option maxRecDepth 100000 in
theorem se_X9_moves : Cond.selects mi_X9_moves.1.cls mi_X9_moves.1 mi_X9_moves.1 ∈ pd_TB := pd_tb (i := 81) (by decide +kernel) (by decide +kernel)
set_option maxRecDepth 100000 in
theorem mlX9_270 : Cond.methodLink RX9 270 mi_X9_moves.1 ∈ pd_TB := pd_tb (i := 1379) (by decide +kernel) (by decide +kernel)
theorem cvX9_270 : pd_CV RX9 270 mi_X9_moves 2 8 := ⟨cb_X9_moves, mlX9_270, im_X9_moves, se_X9_moves, _, rfl, rfl, by decide⟩
set_option maxRecDepth 100000 in
theorem hd_X9_emptiesSamples : pd_hd mi_X9_emptiesSamples ∈ pd_TB := pd_tb (i := 1386) (by rfl) (by decide +kernel)
set_option maxRecDepth 100000 in
theorem in_X9_emptiesSamples : Cond.initialized mi_X9_emptiesSamples.1.cls ∈ pd_TB := pd_tb (i := 102) (by decide +kernel) (by decide +kernel)
theorem cb_X9_emptiesSamples : pd_CB mi_X9_emptiesSamples 0 := ⟨hd_X9_emptiesSamples, in_X9_emptiesSamples, by decide +kernel, by decide +kernel, by decide, rfl⟩
set_option maxRecDepth 100000 in
theorem im_X9_emptiesSamples : Cond.instanceMethod mi_X9_emptiesSamples.1 ∈ pd_TB := pd_tb (i := 1385) (by decide +kernel) (by decide +kernel)
set_option maxRecDepth 100000 in
theorem se_X9_emptiesSamples : Cond.selects mi_X9_emptiesSamples.1.cls mi_X9_emptiesSamples.1 mi_X9_emptiesSamples.1 ∈ pd_TB := pd_tb (i := 82) (by decide +kernel) (by decide +kernel)
set_option maxRecDepth 100000 in
theorem mlX9_273 : Cond.methodLink RX9 273 mi_X9_emptiesSamples.1 ∈ pd_TB := pd_tb (i := 1383) (by decide +kernel) (by decide +kernel)
theorem cvX9_273 : pd_CV RX9 273 mi_X9_emptiesSamples 0 8 := ⟨cb_X9_emptiesSamples, mlX9_273, im_X9_emptiesSamples, se_X9_emptiesSamples, _, rfl, rfl, by decide⟩
set_option maxRecDepth 100000 in
theorem hd_X9_erase : pd_hd mi_X9_erase ∈ pd_TB := pd_tb (i := 1390) (by rfl) (by decide +kernel)
set_option maxRecDepth 100000 in
theorem in_X9_erase : Cond.initialized mi_X9_erase.1.cls ∈ pd_TB := pd_tb (i := 102) (by decide +kernel) (by decide +kernel)
theorem cb_X9_erase : pd_CB mi_X9_erase 2 := ⟨hd_X9_erase, in_X9_erase, by decide +kernel, by decide +kernel, by decide, rfl⟩
set_option maxRecDepth 100000 in
theorem im_X9_erase : Cond.instanceMethod mi_X9_erase.1 ∈ pd_TB := pd_tb (i := 1388) (by decide +kernel) (by decide +kernel)
set_option maxRecDepth 100000 in
theorem se_X9_erase : Cond.selects mi_X9_erase.1.cls mi_X9_erase.1 mi_X9_erase.1 ∈ pd_TB := pd_tb (i := 1389) (by decide +kernel) (by decide +kernel)
set_option maxRecDepth 100000 in
theorem mlL_108 : Cond.methodLink RL 108 mi_X9_erase.1 ∈ pd_TB := pd_tb (i := 1387) (by decide +kernel) (by decide +kernel)
theorem cvL_108 : pd_CV RL 108 mi_X9_erase 2 8 := ⟨cb_X9_erase, mlL_108, im_X9_erase, se_X9_erase, _, rfl, rfl, by decide⟩
set_option maxRecDepth 100000 in
theorem hd_X9_isLine : pd_hd mi_X9_isLine ∈ pd_TB := pd_tb (i := 1394) (by rfl) (by decide +kernel)
set_option maxRecDepth 100000 in
theorem in_X9_isLine : Cond.initialized mi_X9_isLine.1.cls ∈ pd_TB := pd_tb (i := 102) (by decide +kernel) (by decide +kernel)
theorem cb_X9_isLine : pd_CB mi_X9_isLine 2 := ⟨hd_X9_isLine, in_X9_isLine, by decide +kernel, by decide +kernel, by decide, rfl⟩
set_option maxRecDepth 100000 in
theorem im_X9_isLine : Cond.instanceMethod mi_X9_isLine.1 ∈ pd_TB := pd_tb (i := 1393) (by decide +kernel) (by decide +kernel)
set_option maxRecDepth 100000 in
theorem se_X9_isLine : Cond.selects mi_X9_isLine.1.cls mi_X9_isLine.1 mi_X9_isLine.1 ∈ pd_TB := pd_tb (i := 83) (by decide +kernel) (by decide +kernel)
set_option maxRecDepth 100000 in
theorem mlX9_276 : Cond.methodLink RX9 276 mi_X9_isLine.1 ∈ pd_TB := pd_tb (i := 1391) (by decide +kernel) (by decide +kernel)
theorem cvX9_276 : pd_CV RX9 276 mi_X9_isLine 2 8 := ⟨cb_X9_isLine, mlX9_276, im_X9_isLine, se_X9_isLine, _, rfl, rfl, by decide⟩
set_option maxRecDepth 100000 in
theorem hd_X9_told : pd_hd mi_X9_told ∈ pd_TB := pd_tb (i := 1398) (by rfl) (by decide +kernel)
set_option maxRecDepth 100000 in
theorem in_X9_told : Cond.initialized mi_X9_told.1.cls ∈ pd_TB := pd_tb (i := 102) (by decide +kernel) (by decide +kernel)
theorem cb_X9_told : pd_CB mi_X9_told 1 := ⟨hd_X9_told, in_X9_told, by decide +kernel, by decide +kernel, by decide, rfl⟩
set_option maxRecDepth 100000 in
theorem im_X9_told : Cond.instanceMethod mi_X9_told.1 ∈ pd_TB := pd_tb (i := 1396) (by decide +kernel) (by decide +kernel)
set_option maxRecDepth 100000 in
theorem se_X9_told : Cond.selects mi_X9_told.1.cls mi_X9_told.1 mi_X9_told.1 ∈ pd_TB := pd_tb (i := 1397) (by decide +kernel) (by decide +kernel)
set_option maxRecDepth 100000 in
theorem mlL_115 : Cond.methodLink RL 115 mi_X9_told.1 ∈ pd_TB := pd_tb (i := 1395) (by decide +kernel) (by decide +kernel)
theorem cvL_115 : pd_CV RL 115 mi_X9_told 1 8 := ⟨cb_X9_told, mlL_115, im_X9_told, se_X9_told, _, rfl, rfl, by decide⟩
set_option maxRecDepth 100000 in
theorem hd_X9_voter : pd_hd mi_X9_voter ∈ pd_TB := pd_tb (i := 1403) (by rfl) (by decide +kernel)
set_option maxRecDepth 100000 in
theorem in_X9_voter : Cond.initialized mi_X9_voter.1.cls ∈ pd_TB := pd_tb (i := 102) (by decide +kernel) (by decide +kernel)
theorem cb_X9_voter : pd_CB mi_X9_voter 2 := ⟨hd_X9_voter, in_X9_voter, by decide +kernel, by decide +kernel, by decide, rfl⟩
set_option maxRecDepth 100000 in
theorem im_X9_voter : Cond.instanceMethod mi_X9_voter.1 ∈ pd_TB := pd_tb (i := 1401) (by decide +kernel) (by decide +kernel)
set_option maxRecDepth 100000 in
theorem se_X9_voter : Cond.selects mi_X9_voter.1.cls mi_X9_voter.1 mi_X9_voter.1 ∈ pd_TB := pd_tb (i := 1402) (by decide +kernel) (by decide +kernel)
set_option maxRecDepth 100000 in
theorem mlL_118 : Cond.methodLink RL 118 mi_X9_voter.1 ∈ pd_TB := pd_tb (i := 1400) (by decide +kernel) (by decide +kernel)
theorem cvL_118 : pd_CV RL 118 mi_X9_voter 2 8 := ⟨cb_X9_voter, mlL_118, im_X9_voter, se_X9_voter, _, rfl, rfl, by decide⟩
set_option maxRecDepth 100000 in
theorem hd_X9_letter : pd_hd mi_X9_letter ∈ pd_TB := pd_tb (i := 1408) (by rfl) (by decide +kernel)
set_option maxRecDepth 100000 in
theorem in_X9_letter : Cond.initialized mi_X9_letter.1.cls ∈ pd_TB := pd_tb (i := 102) (by decide +kernel) (by decide +kernel)
theorem cb_X9_letter : pd_CB mi_X9_letter 2 := ⟨hd_X9_letter, in_X9_letter, by decide +kernel, by decide +kernel, by decide, rfl⟩
set_option maxRecDepth 100000 in
theorem im_X9_letter : Cond.instanceMethod mi_X9_letter.1 ∈ pd_TB := pd_tb (i := 1406) (by decide +kernel) (by decide +kernel)
set_option maxRecDepth 100000 in
theorem se_X9_letter : Cond.selects mi_X9_letter.1.cls mi_X9_letter.1 mi_X9_letter.1 ∈ pd_TB := pd_tb (i := 1407) (by decide +kernel) (by decide +kernel)
set_option maxRecDepth 100000 in
theorem mlL_121 : Cond.methodLink RL 121 mi_X9_letter.1 ∈ pd_TB := pd_tb (i := 1405) (by decide +kernel) (by decide +kernel)
theorem cvL_121 : pd_CV RL 121 mi_X9_letter 2 8 := ⟨cb_X9_letter, mlL_121, im_X9_letter, se_X9_letter, _, rfl, rfl, by decide⟩
set_option maxRecDepth 100000 in
theorem hd_X9_sheet : pd_hd mi_X9_sheet ∈ pd_TB := pd_tb (i := 1412) (by rfl) (by decide +kernel)
set_option maxRecDepth 100000 in
theorem in_X9_sheet : Cond.initialized mi_X9_sheet.1.cls ∈ pd_TB := pd_tb (i := 102) (by decide +kernel) (by decide +kernel)
theorem cb_X9_sheet : pd_CB mi_X9_sheet 2 := ⟨hd_X9_sheet, in_X9_sheet, by decide +kernel, by decide +kernel, by decide, rfl⟩
set_option maxRecDepth 100000 in
theorem im_X9_sheet : Cond.instanceMethod mi_X9_sheet.1 ∈ pd_TB := pd_tb (i := 1410) (by decide +kernel) (by decide +kernel)
set_option maxRecDepth 100000 in
theorem se_X9_sheet : Cond.selects mi_X9_sheet.1.cls mi_X9_sheet.1 mi_X9_sheet.1 ∈ pd_TB := pd_tb (i := 1411) (by decide +kernel) (by decide +kernel)
set_option maxRecDepth 100000 in
theorem mlL_124 : Cond.methodLink RL 124 mi_X9_sheet.1 ∈ pd_TB := pd_tb (i := 1409) (by decide +kernel) (by decide +kernel)
theorem cvL_124 : pd_CV RL 124 mi_X9_sheet 2 8 := ⟨cb_X9_sheet, mlL_124, im_X9_sheet, se_X9_sheet, _, rfl, rfl, by decide⟩
set_option maxRecDepth 100000 in
theorem hd_X9_line : pd_hd mi_X9_line ∈ pd_TB := pd_tb (i := 1417) (by rfl) (by decide +kernel)
set_option maxRecDepth 100000 in
theorem in_X9_line : Cond.initialized mi_X9_line.1.cls ∈ pd_TB := pd_tb (i := 102) (by decide +kernel) (by decide +kernel)
theorem cb_X9_line : pd_CB mi_X9_line 3 := ⟨hd_X9_line, in_X9_line, by decide +kernel, by decide +kernel, by decide, rfl⟩
set_option maxRecDepth 100000 in
theorem im_X9_line : Cond.instanceMethod mi_X9_line.1 ∈ pd_TB := pd_tb (i := 1415) (by decide +kernel) (by decide +kernel)
set_option maxRecDepth 100000 in
theorem se_X9_line : Cond.selects mi_X9_line.1.cls mi_X9_line.1 mi_X9_line.1 ∈ pd_TB := pd_tb (i := 1416) (by decide +kernel) (by decide +kernel)
set_option maxRecDepth 100000 in
theorem mlL_127 : Cond.methodLink RL 127 mi_X9_line.1 ∈ pd_TB := pd_tb (i := 1414) (by decide +kernel) (by decide +kernel)
theorem cvL_127 : pd_CV RL 127 mi_X9_line 3 8 := ⟨cb_X9_line, mlL_127, im_X9_line, se_X9_line, _, rfl, rfl, by decide⟩
set_option maxRecDepth 100000 in
theorem hd_X9_judged : pd_hd mi_X9_judged ∈ pd_TB := pd_tb (i := 1422) (by rfl) (by decide +kernel)
set_option maxRecDepth 100000 in
theorem in_X9_judged : Cond.initialized mi_X9_judged.1.cls ∈ pd_TB := pd_tb (i := 102) (by decide +kernel) (by decide +kernel)
theorem cb_X9_judged : pd_CB mi_X9_judged 1 := ⟨hd_X9_judged, in_X9_judged, by decide +kernel, by decide +kernel, by decide, rfl⟩
set_option maxRecDepth 100000 in
theorem im_X9_judged : Cond.instanceMethod mi_X9_judged.1 ∈ pd_TB := pd_tb (i := 1420) (by decide +kernel) (by decide +kernel)
set_option maxRecDepth 100000 in
theorem se_X9_judged : Cond.selects mi_X9_judged.1.cls mi_X9_judged.1 mi_X9_judged.1 ∈ pd_TB := pd_tb (i := 1421) (by decide +kernel) (by decide +kernel)
set_option maxRecDepth 100000 in
theorem mlL_130 : Cond.methodLink RL 130 mi_X9_judged.1 ∈ pd_TB := pd_tb (i := 1419) (by decide +kernel) (by decide +kernel)
theorem cvL_130 : pd_CV RL 130 mi_X9_judged 1 8 := ⟨cb_X9_judged, mlL_130, im_X9_judged, se_X9_judged, _, rfl, rfl, by decide⟩
set_option maxRecDepth 100000 in
theorem hd_X9_count : pd_hd mi_X9_count ∈ pd_TB := pd_tb (i := 1426) (by rfl) (by decide +kernel)
set_option maxRecDepth 100000 in
theorem in_X9_count : Cond.initialized mi_X9_count.1.cls ∈ pd_TB := pd_tb (i := 102) (by decide +kernel) (by decide +kernel)
theorem cb_X9_count : pd_CB mi_X9_count 1 := ⟨hd_X9_count, in_X9_count, by decide +kernel, by decide +kernel, by decide, rfl⟩
set_option maxRecDepth 100000 in
theorem im_X9_count : Cond.instanceMethod mi_X9_count.1 ∈ pd_TB := pd_tb (i := 1425) (by decide +kernel) (by decide +kernel)
set_option maxRecDepth 100000 in
theorem se_X9_count : Cond.selects mi_X9_count.1.cls mi_X9_count.1 mi_X9_count.1 ∈ pd_TB := pd_tb (i := 84) (by decide +kernel) (by decide +kernel)
set_option maxRecDepth 100000 in
theorem mlX9_287 : Cond.methodLink RX9 287 mi_X9_count.1 ∈ pd_TB := pd_tb (i := 1423) (by decide +kernel) (by decide +kernel)
theorem cvX9_287 : pd_CV RX9 287 mi_X9_count 1 8 := ⟨cb_X9_count, mlX9_287, im_X9_count, se_X9_count, _, rfl, rfl, by decide⟩
set_option maxRecDepth 100000 in
theorem hd_X9_passes : pd_hd mi_X9_passes ∈ pd_TB := pd_tb (i := 1430) (by rfl) (by decide +kernel)
set_option maxRecDepth 100000 in
theorem in_X9_passes : Cond.initialized mi_X9_passes.1.cls ∈ pd_TB := pd_tb (i := 102) (by decide +kernel) (by decide +kernel)
theorem cb_X9_passes : pd_CB mi_X9_passes 0 := ⟨hd_X9_passes, in_X9_passes, by decide +kernel, by decide +kernel, by decide, rfl⟩
set_option maxRecDepth 100000 in
theorem im_X9_passes : Cond.instanceMethod mi_X9_passes.1 ∈ pd_TB := pd_tb (i := 1428) (by decide +kernel) (by decide +kernel)
set_option maxRecDepth 100000 in
theorem se_X9_passes : Cond.selects mi_X9_passes.1.cls mi_X9_passes.1 mi_X9_passes.1 ∈ pd_TB := pd_tb (i := 1429) (by decide +kernel) (by decide +kernel)
set_option maxRecDepth 100000 in
theorem mlL_134 : Cond.methodLink RL 134 mi_X9_passes.1 ∈ pd_TB := pd_tb (i := 1427) (by decide +kernel) (by decide +kernel)
theorem cvL_134 : pd_CV RL 134 mi_X9_passes 0 8 := ⟨cb_X9_passes, mlL_134, im_X9_passes, se_X9_passes, _, rfl, rfl, by decide⟩
set_option maxRecDepth 100000 in
theorem hd_X9_drawn : pd_hd mi_X9_drawn ∈ pd_TB := pd_tb (i := 1434) (by rfl) (by decide +kernel)
set_option maxRecDepth 100000 in
theorem in_X9_drawn : Cond.initialized mi_X9_drawn.1.cls ∈ pd_TB := pd_tb (i := 102) (by decide +kernel) (by decide +kernel)
theorem cb_X9_drawn : pd_CB mi_X9_drawn 2 := ⟨hd_X9_drawn, in_X9_drawn, by decide +kernel, by decide +kernel, by decide, rfl⟩
set_option maxRecDepth 100000 in
theorem im_X9_drawn : Cond.instanceMethod mi_X9_drawn.1 ∈ pd_TB := pd_tb (i := 1432) (by decide +kernel) (by decide +kernel)
set_option maxRecDepth 100000 in
theorem se_X9_drawn : Cond.selects mi_X9_drawn.1.cls mi_X9_drawn.1 mi_X9_drawn.1 ∈ pd_TB := pd_tb (i := 1433) (by decide +kernel) (by decide +kernel)
set_option maxRecDepth 100000 in
theorem mlL_137 : Cond.methodLink RL 137 mi_X9_drawn.1 ∈ pd_TB := pd_tb (i := 1431) (by decide +kernel) (by decide +kernel)
theorem cvL_137 : pd_CV RL 137 mi_X9_drawn 2 8 := ⟨cb_X9_drawn, mlL_137, im_X9_drawn, se_X9_drawn, _, rfl, rfl, by decide⟩
set_option maxRecDepth 100000 in
theorem hd_X9_sizeOf : pd_hd mi_X9_sizeOf ∈ pd_TB := pd_tb (i := 1438) (by rfl) (by decide +kernel)
set_option maxRecDepth 100000 in
theorem in_X9_sizeOf : Cond.initialized mi_X9_sizeOf.1.cls ∈ pd_TB := pd_tb (i := 102) (by decide +kernel) (by decide +kernel)
theorem cb_X9_sizeOf : pd_CB mi_X9_sizeOf 1 := ⟨hd_X9_sizeOf, in_X9_sizeOf, by decide +kernel, by decide +kernel, by decide, rfl⟩
set_option maxRecDepth 100000 in
theorem im_X9_sizeOf : Cond.instanceMethod mi_X9_sizeOf.1 ∈ pd_TB := pd_tb (i := 1437) (by decide +kernel) (by decide +kernel)
set_option maxRecDepth 100000 in
theorem se_X9_sizeOf : Cond.selects mi_X9_sizeOf.1.cls mi_X9_sizeOf.1 mi_X9_sizeOf.1 ∈ pd_TB := pd_tb (i := 85) (by decide +kernel) (by decide +kernel)
set_option maxRecDepth 100000 in
theorem mlX9_304 : Cond.methodLink RX9 304 mi_X9_sizeOf.1 ∈ pd_TB := pd_tb (i := 1435) (by decide +kernel) (by decide +kernel)
theorem cvX9_304 : pd_CV RX9 304 mi_X9_sizeOf 1 8 := ⟨cb_X9_sizeOf, mlX9_304, im_X9_sizeOf, se_X9_sizeOf, _, rfl, rfl, by decide⟩
set_option maxRecDepth 100000 in
theorem hd_X9_pairsIn : pd_hd mi_X9_pairsIn ∈ pd_TB := pd_tb (i := 1442) (by rfl) (by decide +kernel)
set_option maxRecDepth 100000 in
theorem in_X9_pairsIn : Cond.initialized mi_X9_pairsIn.1.cls ∈ pd_TB := pd_tb (i := 102) (by decide +kernel) (by decide +kernel)
theorem cb_X9_pairsIn : pd_CB mi_X9_pairsIn 1 := ⟨hd_X9_pairsIn, in_X9_pairsIn, by decide +kernel, by decide +kernel, by decide, rfl⟩
set_option maxRecDepth 100000 in
theorem im_X9_pairsIn : Cond.instanceMethod mi_X9_pairsIn.1 ∈ pd_TB := pd_tb (i := 1441) (by decide +kernel) (by decide +kernel)
set_option maxRecDepth 100000 in
theorem se_X9_pairsIn : Cond.selects mi_X9_pairsIn.1.cls mi_X9_pairsIn.1 mi_X9_pairsIn.1 ∈ pd_TB := pd_tb (i := 86) (by decide +kernel) (by decide +kernel)
set_option maxRecDepth 100000 in
theorem mlX9_307 : Cond.methodLink RX9 307 mi_X9_pairsIn.1 ∈ pd_TB := pd_tb (i := 1439) (by decide +kernel) (by decide +kernel)
theorem cvX9_307 : pd_CV RX9 307 mi_X9_pairsIn 1 8 := ⟨cb_X9_pairsIn, mlX9_307, im_X9_pairsIn, se_X9_pairsIn, _, rfl, rfl, by decide⟩
set_option maxRecDepth 100000 in
theorem hd_X9_lowOf : pd_hd mi_X9_lowOf ∈ pd_TB := pd_tb (i := 1446) (by rfl) (by decide +kernel)
set_option maxRecDepth 100000 in
theorem in_X9_lowOf : Cond.initialized mi_X9_lowOf.1.cls ∈ pd_TB := pd_tb (i := 102) (by decide +kernel) (by decide +kernel)
theorem cb_X9_lowOf : pd_CB mi_X9_lowOf 2 := ⟨hd_X9_lowOf, in_X9_lowOf, by decide +kernel, by decide +kernel, by decide, rfl⟩
set_option maxRecDepth 100000 in
theorem im_X9_lowOf : Cond.instanceMethod mi_X9_lowOf.1 ∈ pd_TB := pd_tb (i := 1445) (by decide +kernel) (by decide +kernel)
set_option maxRecDepth 100000 in
theorem se_X9_lowOf : Cond.selects mi_X9_lowOf.1.cls mi_X9_lowOf.1 mi_X9_lowOf.1 ∈ pd_TB := pd_tb (i := 87) (by decide +kernel) (by decide +kernel)
set_option maxRecDepth 100000 in
theorem mlX9_310 : Cond.methodLink RX9 310 mi_X9_lowOf.1 ∈ pd_TB := pd_tb (i := 1443) (by decide +kernel) (by decide +kernel)
theorem cvX9_310 : pd_CV RX9 310 mi_X9_lowOf 2 8 := ⟨cb_X9_lowOf, mlX9_310, im_X9_lowOf, se_X9_lowOf, _, rfl, rfl, by decide⟩
set_option maxRecDepth 100000 in
theorem hd_X9_waysBy : pd_hd mi_X9_waysBy ∈ pd_TB := pd_tb (i := 1450) (by rfl) (by decide +kernel)
set_option maxRecDepth 100000 in
theorem in_X9_waysBy : Cond.initialized mi_X9_waysBy.1.cls ∈ pd_TB := pd_tb (i := 102) (by decide +kernel) (by decide +kernel)
theorem cb_X9_waysBy : pd_CB mi_X9_waysBy 4 := ⟨hd_X9_waysBy, in_X9_waysBy, by decide +kernel, by decide +kernel, by decide, rfl⟩
set_option maxRecDepth 100000 in
theorem im_X9_waysBy : Cond.instanceMethod mi_X9_waysBy.1 ∈ pd_TB := pd_tb (i := 1449) (by decide +kernel) (by decide +kernel)
set_option maxRecDepth 100000 in
theorem se_X9_waysBy : Cond.selects mi_X9_waysBy.1.cls mi_X9_waysBy.1 mi_X9_waysBy.1 ∈ pd_TB := pd_tb (i := 88) (by decide +kernel) (by decide +kernel)
set_option maxRecDepth 100000 in
theorem mlX9_296 : Cond.methodLink RX9 296 mi_X9_waysBy.1 ∈ pd_TB := pd_tb (i := 1447) (by decide +kernel) (by decide +kernel)
theorem cvX9_296 : pd_CV RX9 296 mi_X9_waysBy 4 8 := ⟨cb_X9_waysBy, mlX9_296, im_X9_waysBy, se_X9_waysBy, _, rfl, rfl, by decide⟩
set_option maxRecDepth 100000 in
theorem hd_X9_ways : pd_hd mi_X9_ways ∈ pd_TB := pd_tb (i := 1453) (by rfl) (by decide +kernel)
set_option maxRecDepth 100000 in
theorem in_X9_ways : Cond.initialized mi_X9_ways.1.cls ∈ pd_TB := pd_tb (i := 102) (by decide +kernel) (by decide +kernel)
theorem cb_X9_ways : pd_CB mi_X9_ways 2 := ⟨hd_X9_ways, in_X9_ways, by decide +kernel, by decide +kernel, by decide, rfl⟩
set_option maxRecDepth 100000 in
theorem st_X9_ways : Cond.static mi_X9_ways.1 ∈ pd_TB := pd_tb (i := 1452) (by decide +kernel) (by decide +kernel)
set_option maxRecDepth 100000 in
theorem mlX9_290 : Cond.methodLink RX9 290 mi_X9_ways.1 ∈ pd_TB := pd_tb (i := 1451) (by decide +kernel) (by decide +kernel)
theorem csX9_290 : pd_CS RX9 290 mi_X9_ways 2 := ⟨cb_X9_ways, mlX9_290, st_X9_ways⟩
set_option maxRecDepth 100000 in
theorem hd_X9_isMuch : pd_hd mi_X9_isMuch ∈ pd_TB := pd_tb (i := 1457) (by rfl) (by decide +kernel)
set_option maxRecDepth 100000 in
theorem in_X9_isMuch : Cond.initialized mi_X9_isMuch.1.cls ∈ pd_TB := pd_tb (i := 102) (by decide +kernel) (by decide +kernel)
theorem cb_X9_isMuch : pd_CB mi_X9_isMuch 2 := ⟨hd_X9_isMuch, in_X9_isMuch, by decide +kernel, by decide +kernel, by decide, rfl⟩
set_option maxRecDepth 100000 in
theorem im_X9_isMuch : Cond.instanceMethod mi_X9_isMuch.1 ∈ pd_TB := pd_tb (i := 1456) (by decide +kernel) (by decide +kernel)
set_option maxRecDepth 100000 in
theorem se_X9_isMuch : Cond.selects mi_X9_isMuch.1.cls mi_X9_isMuch.1 mi_X9_isMuch.1 ∈ pd_TB := pd_tb (i := 89) (by decide +kernel) (by decide +kernel)
set_option maxRecDepth 100000 in
theorem mlX9_300 : Cond.methodLink RX9 300 mi_X9_isMuch.1 ∈ pd_TB := pd_tb (i := 1454) (by decide +kernel) (by decide +kernel)
theorem cvX9_300 : pd_CV RX9 300 mi_X9_isMuch 2 8 := ⟨cb_X9_isMuch, mlX9_300, im_X9_isMuch, se_X9_isMuch, _, rfl, rfl, by decide⟩
set_option maxRecDepth 100000 in
theorem hd_X9_highOf : pd_hd mi_X9_highOf ∈ pd_TB := pd_tb (i := 1462) (by rfl) (by decide +kernel)
set_option maxRecDepth 100000 in
theorem in_X9_highOf : Cond.initialized mi_X9_highOf.1.cls ∈ pd_TB := pd_tb (i := 102) (by decide +kernel) (by decide +kernel)
theorem cb_X9_highOf : pd_CB mi_X9_highOf 2 := ⟨hd_X9_highOf, in_X9_highOf, by decide +kernel, by decide +kernel, by decide, rfl⟩
set_option maxRecDepth 100000 in
theorem im_X9_highOf : Cond.instanceMethod mi_X9_highOf.1 ∈ pd_TB := pd_tb (i := 1461) (by decide +kernel) (by decide +kernel)
set_option maxRecDepth 100000 in
theorem se_X9_highOf : Cond.selects mi_X9_highOf.1.cls mi_X9_highOf.1 mi_X9_highOf.1 ∈ pd_TB := pd_tb (i := 90) (by decide +kernel) (by decide +kernel)
set_option maxRecDepth 100000 in
theorem mlX9_313 : Cond.methodLink RX9 313 mi_X9_highOf.1 ∈ pd_TB := pd_tb (i := 1459) (by decide +kernel) (by decide +kernel)
theorem cvX9_313 : pd_CV RX9 313 mi_X9_highOf 2 8 := ⟨cb_X9_highOf, mlX9_313, im_X9_highOf, se_X9_highOf, _, rfl, rfl, by decide⟩
set_option maxRecDepth 100000 in
theorem hd_X9_estimate : pd_hd mi_X9_estimate ∈ pd_TB := pd_tb (i := 1466) (by rfl) (by decide +kernel)
set_option maxRecDepth 100000 in
theorem in_X9_estimate : Cond.initialized mi_X9_estimate.1.cls ∈ pd_TB := pd_tb (i := 102) (by decide +kernel) (by decide +kernel)
theorem cb_X9_estimate : pd_CB mi_X9_estimate 2 := ⟨hd_X9_estimate, in_X9_estimate, by decide +kernel, by decide +kernel, by decide, rfl⟩
set_option maxRecDepth 100000 in
theorem im_X9_estimate : Cond.instanceMethod mi_X9_estimate.1 ∈ pd_TB := pd_tb (i := 1464) (by decide +kernel) (by decide +kernel)
set_option maxRecDepth 100000 in
theorem se_X9_estimate : Cond.selects mi_X9_estimate.1.cls mi_X9_estimate.1 mi_X9_estimate.1 ∈ pd_TB := pd_tb (i := 1465) (by decide +kernel) (by decide +kernel)
set_option maxRecDepth 100000 in
theorem mlL_140 : Cond.methodLink RL 140 mi_X9_estimate.1 ∈ pd_TB := pd_tb (i := 1463) (by decide +kernel) (by decide +kernel)
theorem cvL_140 : pd_CV RL 140 mi_X9_estimate 2 8 := ⟨cb_X9_estimate, mlL_140, im_X9_estimate, se_X9_estimate, _, rfl, rfl, by decide⟩
set_option maxRecDepth 100000 in
theorem hd_X9_terms : pd_hd mi_X9_terms ∈ pd_TB := pd_tb (i := 1469) (by rfl) (by decide +kernel)
set_option maxRecDepth 100000 in
theorem in_X9_terms : Cond.initialized mi_X9_terms.1.cls ∈ pd_TB := pd_tb (i := 102) (by decide +kernel) (by decide +kernel)
theorem cb_X9_terms : pd_CB mi_X9_terms 3 := ⟨hd_X9_terms, in_X9_terms, by decide +kernel, by decide +kernel, by decide, rfl⟩
set_option maxRecDepth 100000 in
theorem st_X9_terms : Cond.static mi_X9_terms.1 ∈ pd_TB := pd_tb (i := 1468) (by decide +kernel) (by decide +kernel)
set_option maxRecDepth 100000 in
theorem mlX9_316 : Cond.methodLink RX9 316 mi_X9_terms.1 ∈ pd_TB := pd_tb (i := 1467) (by decide +kernel) (by decide +kernel)
theorem csX9_316 : pd_CS RX9 316 mi_X9_terms 3 := ⟨cb_X9_terms, mlX9_316, st_X9_terms⟩
set_option maxRecDepth 100000 in
theorem hd_X9_unlike : pd_hd mi_X9_unlike ∈ pd_TB := pd_tb (i := 1473) (by rfl) (by decide +kernel)
set_option maxRecDepth 100000 in
theorem in_X9_unlike : Cond.initialized mi_X9_unlike.1.cls ∈ pd_TB := pd_tb (i := 102) (by decide +kernel) (by decide +kernel)
theorem cb_X9_unlike : pd_CB mi_X9_unlike 1 := ⟨hd_X9_unlike, in_X9_unlike, by decide +kernel, by decide +kernel, by decide, rfl⟩
set_option maxRecDepth 100000 in
theorem im_X9_unlike : Cond.instanceMethod mi_X9_unlike.1 ∈ pd_TB := pd_tb (i := 1471) (by decide +kernel) (by decide +kernel)
set_option maxRecDepth 100000 in
theorem se_X9_unlike : Cond.selects mi_X9_unlike.1.cls mi_X9_unlike.1 mi_X9_unlike.1 ∈ pd_TB := pd_tb (i := 1472) (by decide +kernel) (by decide +kernel)
set_option maxRecDepth 100000 in
theorem mlL_143 : Cond.methodLink RL 143 mi_X9_unlike.1 ∈ pd_TB := pd_tb (i := 1470) (by decide +kernel) (by decide +kernel)
theorem cvL_143 : pd_CV RL 143 mi_X9_unlike 1 8 := ⟨cb_X9_unlike, mlL_143, im_X9_unlike, se_X9_unlike, _, rfl, rfl, by decide⟩
set_option maxRecDepth 100000 in
theorem hd_X9_votersIn : pd_hd mi_X9_votersIn ∈ pd_TB := pd_tb (i := 1477) (by rfl) (by decide +kernel)
set_option maxRecDepth 100000 in
theorem in_X9_votersIn : Cond.initialized mi_X9_votersIn.1.cls ∈ pd_TB := pd_tb (i := 102) (by decide +kernel) (by decide +kernel)
theorem cb_X9_votersIn : pd_CB mi_X9_votersIn 1 := ⟨hd_X9_votersIn, in_X9_votersIn, by decide +kernel, by decide +kernel, by decide, rfl⟩
set_option maxRecDepth 100000 in
theorem im_X9_votersIn : Cond.instanceMethod mi_X9_votersIn.1 ∈ pd_TB := pd_tb (i := 1476) (by decide +kernel) (by decide +kernel)
set_option maxRecDepth 100000 in
theorem se_X9_votersIn : Cond.selects mi_X9_votersIn.1.cls mi_X9_votersIn.1 mi_X9_votersIn.1 ∈ pd_TB := pd_tb (i := 91) (by decide +kernel) (by decide +kernel)
set_option maxRecDepth 100000 in
theorem mlX9_320 : Cond.methodLink RX9 320 mi_X9_votersIn.1 ∈ pd_TB := pd_tb (i := 1474) (by decide +kernel) (by decide +kernel)
theorem cvX9_320 : pd_CV RX9 320 mi_X9_votersIn 1 8 := ⟨cb_X9_votersIn, mlX9_320, im_X9_votersIn, se_X9_votersIn, _, rfl, rfl, by decide⟩
set_option maxRecDepth 100000 in
theorem hd_X9_ones : pd_hd mi_X9_ones ∈ pd_TB := pd_tb (i := 1480) (by rfl) (by decide +kernel)
set_option maxRecDepth 100000 in
theorem in_X9_ones : Cond.initialized mi_X9_ones.1.cls ∈ pd_TB := pd_tb (i := 102) (by decide +kernel) (by decide +kernel)
theorem cb_X9_ones : pd_CB mi_X9_ones 1 := ⟨hd_X9_ones, in_X9_ones, by decide +kernel, by decide +kernel, by decide, rfl⟩
set_option maxRecDepth 100000 in
theorem st_X9_ones : Cond.static mi_X9_ones.1 ∈ pd_TB := pd_tb (i := 1479) (by decide +kernel) (by decide +kernel)
set_option maxRecDepth 100000 in
theorem mlX9_323 : Cond.methodLink RX9 323 mi_X9_ones.1 ∈ pd_TB := pd_tb (i := 1478) (by decide +kernel) (by decide +kernel)
theorem csX9_323 : pd_CS RX9 323 mi_X9_ones 1 := ⟨cb_X9_ones, mlX9_323, st_X9_ones⟩
set_option maxRecDepth 100000 in
theorem hd_X9_unseen : pd_hd mi_X9_unseen ∈ pd_TB := pd_tb (i := 1484) (by rfl) (by decide +kernel)
set_option maxRecDepth 100000 in
theorem in_X9_unseen : Cond.initialized mi_X9_unseen.1.cls ∈ pd_TB := pd_tb (i := 102) (by decide +kernel) (by decide +kernel)
theorem cb_X9_unseen : pd_CB mi_X9_unseen 2 := ⟨hd_X9_unseen, in_X9_unseen, by decide +kernel, by decide +kernel, by decide, rfl⟩
set_option maxRecDepth 100000 in
theorem im_X9_unseen : Cond.instanceMethod mi_X9_unseen.1 ∈ pd_TB := pd_tb (i := 1482) (by decide +kernel) (by decide +kernel)
set_option maxRecDepth 100000 in
theorem se_X9_unseen : Cond.selects mi_X9_unseen.1.cls mi_X9_unseen.1 mi_X9_unseen.1 ∈ pd_TB := pd_tb (i := 1483) (by decide +kernel) (by decide +kernel)
set_option maxRecDepth 100000 in
theorem mlL_146 : Cond.methodLink RL 146 mi_X9_unseen.1 ∈ pd_TB := pd_tb (i := 1481) (by decide +kernel) (by decide +kernel)
theorem cvL_146 : pd_CV RL 146 mi_X9_unseen 2 8 := ⟨cb_X9_unseen, mlL_146, im_X9_unseen, se_X9_unseen, _, rfl, rfl, by decide⟩
set_option maxRecDepth 100000 in
theorem hd_X9_adds : pd_hd mi_X9_adds ∈ pd_TB := pd_tb (i := 1488) (by rfl) (by decide +kernel)
set_option maxRecDepth 100000 in
theorem in_X9_adds : Cond.initialized mi_X9_adds.1.cls ∈ pd_TB := pd_tb (i := 102) (by decide +kernel) (by decide +kernel)
theorem cb_X9_adds : pd_CB mi_X9_adds 2 := ⟨hd_X9_adds, in_X9_adds, by decide +kernel, by decide +kernel, by decide, rfl⟩
set_option maxRecDepth 100000 in
theorem im_X9_adds : Cond.instanceMethod mi_X9_adds.1 ∈ pd_TB := pd_tb (i := 1487) (by decide +kernel) (by decide +kernel)
set_option maxRecDepth 100000 in
theorem se_X9_adds : Cond.selects mi_X9_adds.1.cls mi_X9_adds.1 mi_X9_adds.1 ∈ pd_TB := pd_tb (i := 92) (by decide +kernel) (by decide +kernel)
set_option maxRecDepth 100000 in
theorem mlX9_326 : Cond.methodLink RX9 326 mi_X9_adds.1 ∈ pd_TB := pd_tb (i := 1485) (by decide +kernel) (by decide +kernel)
theorem cvX9_326 : pd_CV RX9 326 mi_X9_adds 2 8 := ⟨cb_X9_adds, mlX9_326, im_X9_adds, se_X9_adds, _, rfl, rfl, by decide⟩
set_option maxRecDepth 100000 in
theorem hd_X9_fewest : pd_hd mi_X9_fewest ∈ pd_TB := pd_tb (i := 1492) (by rfl) (by decide +kernel)
set_option maxRecDepth 100000 in
theorem in_X9_fewest : Cond.initialized mi_X9_fewest.1.cls ∈ pd_TB := pd_tb (i := 102) (by decide +kernel) (by decide +kernel)
theorem cb_X9_fewest : pd_CB mi_X9_fewest 0 := ⟨hd_X9_fewest, in_X9_fewest, by decide +kernel, by decide +kernel, by decide, rfl⟩
set_option maxRecDepth 100000 in
theorem im_X9_fewest : Cond.instanceMethod mi_X9_fewest.1 ∈ pd_TB := pd_tb (i := 1490) (by decide +kernel) (by decide +kernel)
set_option maxRecDepth 100000 in
theorem se_X9_fewest : Cond.selects mi_X9_fewest.1.cls mi_X9_fewest.1 mi_X9_fewest.1 ∈ pd_TB := pd_tb (i := 1491) (by decide +kernel) (by decide +kernel)
set_option maxRecDepth 100000 in
theorem mlL_150 : Cond.methodLink RL 150 mi_X9_fewest.1 ∈ pd_TB := pd_tb (i := 1489) (by decide +kernel) (by decide +kernel)
theorem cvL_150 : pd_CV RL 150 mi_X9_fewest 0 8 := ⟨cb_X9_fewest, mlL_150, im_X9_fewest, se_X9_fewest, _, rfl, rfl, by decide⟩
set_option maxRecDepth 100000 in
theorem hd_X9_worst : pd_hd mi_X9_worst ∈ pd_TB := pd_tb (i := 1496) (by rfl) (by decide +kernel)
set_option maxRecDepth 100000 in
theorem in_X9_worst : Cond.initialized mi_X9_worst.1.cls ∈ pd_TB := pd_tb (i := 102) (by decide +kernel) (by decide +kernel)
theorem cb_X9_worst : pd_CB mi_X9_worst 2 := ⟨hd_X9_worst, in_X9_worst, by decide +kernel, by decide +kernel, by decide, rfl⟩
set_option maxRecDepth 100000 in
theorem im_X9_worst : Cond.instanceMethod mi_X9_worst.1 ∈ pd_TB := pd_tb (i := 1494) (by decide +kernel) (by decide +kernel)
set_option maxRecDepth 100000 in
theorem se_X9_worst : Cond.selects mi_X9_worst.1.cls mi_X9_worst.1 mi_X9_worst.1 ∈ pd_TB := pd_tb (i := 1495) (by decide +kernel) (by decide +kernel)
set_option maxRecDepth 100000 in
theorem mlL_153 : Cond.methodLink RL 153 mi_X9_worst.1 ∈ pd_TB := pd_tb (i := 1493) (by decide +kernel) (by decide +kernel)
theorem cvL_153 : pd_CV RL 153 mi_X9_worst 2 8 := ⟨cb_X9_worst, mlL_153, im_X9_worst, se_X9_worst, _, rfl, rfl, by decide⟩
set_option maxRecDepth 100000 in
theorem hd_X9_cost : pd_hd mi_X9_cost ∈ pd_TB := pd_tb (i := 1500) (by rfl) (by decide +kernel)
set_option maxRecDepth 100000 in
theorem in_X9_cost : Cond.initialized mi_X9_cost.1.cls ∈ pd_TB := pd_tb (i := 102) (by decide +kernel) (by decide +kernel)
theorem cb_X9_cost : pd_CB mi_X9_cost 1 := ⟨hd_X9_cost, in_X9_cost, by decide +kernel, by decide +kernel, by decide, rfl⟩
set_option maxRecDepth 100000 in
theorem im_X9_cost : Cond.instanceMethod mi_X9_cost.1 ∈ pd_TB := pd_tb (i := 1498) (by decide +kernel) (by decide +kernel)
set_option maxRecDepth 100000 in
theorem se_X9_cost : Cond.selects mi_X9_cost.1.cls mi_X9_cost.1 mi_X9_cost.1 ∈ pd_TB := pd_tb (i := 1499) (by decide +kernel) (by decide +kernel)
set_option maxRecDepth 100000 in
theorem mlL_156 : Cond.methodLink RL 156 mi_X9_cost.1 ∈ pd_TB := pd_tb (i := 1497) (by decide +kernel) (by decide +kernel)
theorem cvL_156 : pd_CV RL 156 mi_X9_cost 1 8 := ⟨cb_X9_cost, mlL_156, im_X9_cost, se_X9_cost, _, rfl, rfl, by decide⟩
set_option maxRecDepth 100000 in
theorem hd_X9_print : pd_hd mi_X9_print ∈ pd_TB := pd_tb (i := 1505) (by rfl) (by decide +kernel)
set_option maxRecDepth 100000 in
theorem in_X9_print : Cond.initialized mi_X9_print.1.cls ∈ pd_TB := pd_tb (i := 102) (by decide +kernel) (by decide +kernel)
theorem cb_X9_print : pd_CB mi_X9_print 0 := ⟨hd_X9_print, in_X9_print, by decide +kernel, by decide +kernel, by decide, rfl⟩
set_option maxRecDepth 100000 in
theorem im_X9_print : Cond.instanceMethod mi_X9_print.1 ∈ pd_TB := pd_tb (i := 1503) (by decide +kernel) (by decide +kernel)
set_option maxRecDepth 100000 in
theorem se_X9_print : Cond.selects mi_X9_print.1.cls mi_X9_print.1 mi_X9_print.1 ∈ pd_TB := pd_tb (i := 1504) (by decide +kernel) (by decide +kernel)
set_option maxRecDepth 100000 in
theorem mlL_161 : Cond.methodLink RL 161 mi_X9_print.1 ∈ pd_TB := pd_tb (i := 1502) (by decide +kernel) (by decide +kernel)
theorem cvL_161 : pd_CV RL 161 mi_X9_print 0 8 := ⟨cb_X9_print, mlL_161, im_X9_print, se_X9_print, _, rfl, rfl, by decide⟩
set_option maxRecDepth 100000 in
theorem hd_X9_status : pd_hd mi_X9_status ∈ pd_TB := pd_tb (i := 1510) (by rfl) (by decide +kernel)
set_option maxRecDepth 100000 in
theorem in_X9_status : Cond.initialized mi_X9_status.1.cls ∈ pd_TB := pd_tb (i := 102) (by decide +kernel) (by decide +kernel)
theorem cb_X9_status : pd_CB mi_X9_status 1 := ⟨hd_X9_status, in_X9_status, by decide +kernel, by decide +kernel, by decide, rfl⟩
set_option maxRecDepth 100000 in
theorem im_X9_status : Cond.instanceMethod mi_X9_status.1 ∈ pd_TB := pd_tb (i := 1508) (by decide +kernel) (by decide +kernel)
set_option maxRecDepth 100000 in
theorem se_X9_status : Cond.selects mi_X9_status.1.cls mi_X9_status.1 mi_X9_status.1 ∈ pd_TB := pd_tb (i := 1509) (by decide +kernel) (by decide +kernel)
set_option maxRecDepth 100000 in
theorem mlL_165 : Cond.methodLink RL 165 mi_X9_status.1 ∈ pd_TB := pd_tb (i := 1507) (by decide +kernel) (by decide +kernel)
theorem cvL_165 : pd_CV RL 165 mi_X9_status 1 8 := ⟨cb_X9_status, mlL_165, im_X9_status, se_X9_status, _, rfl, rfl, by decide⟩
set_option maxRecDepth 100000 in
theorem hd_X6_init : pd_hd mi_X6_init ∈ pd_TB := pd_tb (i := 131) (by rfl) (by decide +kernel)
set_option maxRecDepth 100000 in
theorem in_X6_init : Cond.initialized mi_X6_init.1.cls ∈ pd_TB := pd_tb (i := 95) (by decide +kernel) (by decide +kernel)
theorem cb_X6_init : pd_CB mi_X6_init 0 := ⟨hd_X6_init, in_X6_init, by decide +kernel, by decide +kernel, by decide, rfl⟩
set_option maxRecDepth 100000 in
theorem im_X6_init : Cond.instanceMethod mi_X6_init.1 ∈ pd_TB := pd_tb (i := 130) (by decide +kernel) (by decide +kernel)
set_option maxRecDepth 100000 in
theorem mnX8_9 : Cond.methodLinkNest RX8 9 mi_X6_init.1 "PetitionDesk" ∈ lw_tbl := List.mem_of_getElem? (i := 129) (by decide +kernel)
set_option maxRecDepth 100000 in
theorem hd_X7_init : pd_hd mi_X7_init ∈ pd_TB := pd_tb (i := 137) (by rfl) (by decide +kernel)
set_option maxRecDepth 100000 in
theorem in_X7_init : Cond.initialized mi_X7_init.1.cls ∈ pd_TB := pd_tb (i := 96) (by decide +kernel) (by decide +kernel)
theorem cb_X7_init : pd_CB mi_X7_init 0 := ⟨hd_X7_init, in_X7_init, by decide +kernel, by decide +kernel, by decide, rfl⟩
set_option maxRecDepth 100000 in
theorem im_X7_init : Cond.instanceMethod mi_X7_init.1 ∈ pd_TB := pd_tb (i := 136) (by decide +kernel) (by decide +kernel)
set_option maxRecDepth 100000 in
theorem mnX6_11 : Cond.methodLinkNest RX6 11 mi_X7_init.1 "PetitionDesk" ∈ lw_tbl := List.mem_of_getElem? (i := 135) (by decide +kernel)
set_option maxRecDepth 100000 in
theorem hd_X5_init : pd_hd mi_X5_init ∈ pd_TB := pd_tb (i := 143) (by rfl) (by decide +kernel)
set_option maxRecDepth 100000 in
theorem in_X5_init : Cond.initialized mi_X5_init.1.cls ∈ pd_TB := pd_tb (i := 97) (by decide +kernel) (by decide +kernel)
theorem cb_X5_init : pd_CB mi_X5_init 0 := ⟨hd_X5_init, in_X5_init, by decide +kernel, by decide +kernel, by decide, rfl⟩
set_option maxRecDepth 100000 in
theorem im_X5_init : Cond.instanceMethod mi_X5_init.1 ∈ pd_TB := pd_tb (i := 142) (by decide +kernel) (by decide +kernel)
set_option maxRecDepth 100000 in
theorem mnX7_23 : Cond.methodLinkNest RX7 23 mi_X5_init.1 "PetitionDesk" ∈ lw_tbl := List.mem_of_getElem? (i := 141) (by decide +kernel)
set_option maxRecDepth 100000 in
theorem hd_X3_init : pd_hd mi_X3_init ∈ pd_TB := pd_tb (i := 183) (by rfl) (by decide +kernel)
set_option maxRecDepth 100000 in
theorem in_X3_init : Cond.initialized mi_X3_init.1.cls ∈ pd_TB := pd_tb (i := 98) (by decide +kernel) (by decide +kernel)
theorem cb_X3_init : pd_CB mi_X3_init 0 := ⟨hd_X3_init, in_X3_init, by decide +kernel, by decide +kernel, by decide, rfl⟩
set_option maxRecDepth 100000 in
theorem im_X3_init : Cond.instanceMethod mi_X3_init.1 ∈ pd_TB := pd_tb (i := 182) (by decide +kernel) (by decide +kernel)
set_option maxRecDepth 100000 in
theorem mnX6_20 : Cond.methodLinkNest RX6 20 mi_X3_init.1 "PetitionDesk" ∈ lw_tbl := List.mem_of_getElem? (i := 181) (by decide +kernel)
set_option maxRecDepth 100000 in
theorem hd_X4_init : pd_hd mi_X4_init ∈ pd_TB := pd_tb (i := 189) (by rfl) (by decide +kernel)
set_option maxRecDepth 100000 in
theorem in_X4_init : Cond.initialized mi_X4_init.1.cls ∈ pd_TB := pd_tb (i := 99) (by decide +kernel) (by decide +kernel)
theorem cb_X4_init : pd_CB mi_X4_init 0 := ⟨hd_X4_init, in_X4_init, by decide +kernel, by decide +kernel, by decide, rfl⟩
set_option maxRecDepth 100000 in
theorem im_X4_init : Cond.instanceMethod mi_X4_init.1 ∈ pd_TB := pd_tb (i := 188) (by decide +kernel) (by decide +kernel)
set_option maxRecDepth 100000 in
theorem mnX3_48 : Cond.methodLinkNest RX3 48 mi_X4_init.1 "PetitionDesk" ∈ lw_tbl := List.mem_of_getElem? (i := 187) (by decide +kernel)
set_option maxRecDepth 100000 in
theorem hd_X1_init : pd_hd mi_X1_init ∈ pd_TB := pd_tb (i := 321) (by rfl) (by decide +kernel)
set_option maxRecDepth 100000 in
theorem in_X1_init : Cond.initialized mi_X1_init.1.cls ∈ pd_TB := pd_tb (i := 100) (by decide +kernel) (by decide +kernel)
theorem cb_X1_init : pd_CB mi_X1_init 0 := ⟨hd_X1_init, in_X1_init, by decide +kernel, by decide +kernel, by decide, rfl⟩
set_option maxRecDepth 100000 in
theorem im_X1_init : Cond.instanceMethod mi_X1_init.1 ∈ pd_TB := pd_tb (i := 320) (by decide +kernel) (by decide +kernel)
set_option maxRecDepth 100000 in
theorem mnX8_29 : Cond.methodLinkNest RX8 29 mi_X1_init.1 "PetitionDesk" ∈ lw_tbl := List.mem_of_getElem? (i := 319) (by decide +kernel)
set_option maxRecDepth 100000 in
theorem mnX8_47 : Cond.methodLinkNest RX8 47 mi_X3_init.1 "PetitionDesk" ∈ lw_tbl := List.mem_of_getElem? (i := 368) (by decide +kernel)
set_option maxRecDepth 100000 in
theorem coX4_29 : Cond.constantLong RX4 29 (-2) ∈ pd_TB := pd_tb (i := 460) (by decide +kernel) (by decide +kernel)
set_option maxRecDepth 100000 in
theorem coX0_22 : Cond.constantLong RX0 22 (1000) ∈ pd_TB := pd_tb (i := 499) (by decide +kernel) (by decide +kernel)
set_option maxRecDepth 100000 in
theorem coX8_279 : Cond.constantLong RX8 279 (31) ∈ pd_TB := pd_tb (i := 512) (by decide +kernel) (by decide +kernel)
set_option maxRecDepth 100000 in
theorem coX8_307 : Cond.constant RX8 307 (1103515245) ∈ pd_TB := pd_tb (i := 838) (by decide +kernel) (by decide +kernel)
set_option maxRecDepth 100000 in
theorem coJ13_314 : Cond.constantLong RJ13 314 (6148914691236517205) ∈ pd_TB := pd_tb (i := 1015) (by decide +kernel) (by decide +kernel)
set_option maxRecDepth 100000 in
theorem coJ13_316 : Cond.constantLong RJ13 316 (3689348814741910323) ∈ pd_TB := pd_tb (i := 1016) (by decide +kernel) (by decide +kernel)
set_option maxRecDepth 100000 in
theorem coJ13_318 : Cond.constantLong RJ13 318 (1085102592571150095) ∈ pd_TB := pd_tb (i := 1017) (by decide +kernel) (by decide +kernel)
set_option maxRecDepth 100000 in
theorem coX8_245 : Cond.constantLong RX8 245 (2) ∈ pd_TB := pd_tb (i := 1033) (by decide +kernel) (by decide +kernel)
set_option maxRecDepth 100000 in
theorem coJ6_265 : Cond.constant RJ6 265 (1431655765) ∈ pd_TB := pd_tb (i := 1057) (by decide +kernel) (by decide +kernel)
set_option maxRecDepth 100000 in
theorem coJ6_266 : Cond.constant RJ6 266 (858993459) ∈ pd_TB := pd_tb (i := 1058) (by decide +kernel) (by decide +kernel)
set_option maxRecDepth 100000 in
theorem coJ6_267 : Cond.constant RJ6 267 (252645135) ∈ pd_TB := pd_tb (i := 1059) (by decide +kernel) (by decide +kernel)
set_option maxRecDepth 100000 in
theorem coX8_258 : Cond.constantLong RX8 258 (-1) ∈ pd_TB := pd_tb (i := 1067) (by decide +kernel) (by decide +kernel)
set_option maxRecDepth 100000 in
theorem coX8_277 : Cond.constantLong RX8 277 (2147483647) ∈ pd_TB := pd_tb (i := 1093) (by decide +kernel) (by decide +kernel)
set_option maxRecDepth 100000 in
theorem coX9_102 : Cond.constant RX9 102 (100000) ∈ pd_TB := pd_tb (i := 1237) (by decide +kernel) (by decide +kernel)
set_option maxRecDepth 100000 in
theorem coX9_254 : Cond.constant RX9 254 (1103515245) ∈ pd_TB := pd_tb (i := 1326) (by decide +kernel) (by decide +kernel)
set_option maxRecDepth 100000 in
theorem coX9_265 : Cond.constantLong RX9 265 (999) ∈ pd_TB := pd_tb (i := 1370) (by decide +kernel) (by decide +kernel)
set_option maxRecDepth 100000 in
theorem coX9_279 : Cond.constantLong RX9 279 (10) ∈ pd_TB := pd_tb (i := 1399) (by decide +kernel) (by decide +kernel)
set_option maxRecDepth 100000 in
theorem coX9_281 : Cond.constantLong RX9 281 (3) ∈ pd_TB := pd_tb (i := 1404) (by decide +kernel) (by decide +kernel)
set_option maxRecDepth 100000 in
theorem coX9_283 : Cond.constantLong RX9 283 (8) ∈ pd_TB := pd_tb (i := 1413) (by decide +kernel) (by decide +kernel)
set_option maxRecDepth 100000 in
theorem coX9_285 : Cond.constantLong RX9 285 (5) ∈ pd_TB := pd_tb (i := 1418) (by decide +kernel) (by decide +kernel)
set_option maxRecDepth 100000 in
theorem coX9_294 : Cond.constantLong RX9 294 (1000) ∈ pd_TB := pd_tb (i := 1458) (by decide +kernel) (by decide +kernel)
set_option maxRecDepth 100000 in
theorem coX9_331 : Cond.constantLong RX9 331 (2147483647) ∈ pd_TB := pd_tb (i := 1501) (by decide +kernel) (by decide +kernel)
set_option maxRecDepth 100000 in
theorem coX9_333 : Cond.constantLong RX9 333 (31) ∈ pd_TB := pd_tb (i := 1506) (by decide +kernel) (by decide +kernel)
set_option maxRecDepth 100000 in
theorem coX9_335 : Cond.constantLong RX9 335 (2) ∈ pd_TB := pd_tb (i := 1511) (by decide +kernel) (by decide +kernel)
set_option maxRecDepth 100000 in
theorem klL_8 : Cond.classLink RL 8 "PetitionDesk" ∈ pd_TB := pd_tb (i := 119) (by decide +kernel) (by decide +kernel)
set_option maxRecDepth 100000 in
theorem klX8_7 : Cond.classLink RX8 7 "PetitionDesk$TextReader" ∈ pd_TB := pd_tb (i := 127) (by decide +kernel) (by decide +kernel)
set_option maxRecDepth 100000 in
theorem klX6_9 : Cond.classLink RX6 9 "PetitionDesk$Tokens" ∈ pd_TB := pd_tb (i := 133) (by decide +kernel) (by decide +kernel)
set_option maxRecDepth 100000 in
theorem klX7_21 : Cond.classLink RX7 21 "PetitionDesk$Tape" ∈ pd_TB := pd_tb (i := 139) (by decide +kernel) (by decide +kernel)
set_option maxRecDepth 100000 in
theorem klX6_18 : Cond.classLink RX6 18 "PetitionDesk$Petition" ∈ pd_TB := pd_tb (i := 179) (by decide +kernel) (by decide +kernel)
set_option maxRecDepth 100000 in
theorem klX3_46 : Cond.classLink RX3 46 "PetitionDesk$Rule" ∈ pd_TB := pd_tb (i := 185) (by decide +kernel) (by decide +kernel)
set_option maxRecDepth 100000 in
theorem klX8_27 : Cond.classLink RX8 27 "PetitionDesk$Judgement" ∈ pd_TB := pd_tb (i := 317) (by decide +kernel) (by decide +kernel)
set_option maxRecDepth 100000 in
theorem klX8_34 : Cond.classLink RX8 34 "PetitionDesk$Chances" ∈ pd_TB := pd_tb (i := 352) (by decide +kernel) (by decide +kernel)
set_option maxRecDepth 100000 in
theorem klX8_41 : Cond.classLink RX8 41 "PetitionDesk$Petition" ∈ pd_TB := pd_tb (i := 366) (by decide +kernel) (by decide +kernel)
set_option maxRecDepth 100000 in
theorem klL_13 : Cond.classLink RL 13 "java/lang/IllegalArgumentException" ∈ pd_TB := pd_tb (i := 520) (by decide +kernel) (by decide +kernel)
set_option maxRecDepth 100000 in
theorem klX8_297 : Cond.classLink RX8 297 "java/lang/IllegalArgumentException" ∈ pd_TB := pd_tb (i := 532) (by decide +kernel) (by decide +kernel)
set_option maxRecDepth 100000 in
theorem klL_23 : Cond.classLink RL 23 "java/util/NoSuchElementException" ∈ pd_TB := pd_tb (i := 858) (by decide +kernel) (by decide +kernel)
set_option maxRecDepth 100000 in
theorem klX8_290 : Cond.classLink RX8 290 "java/util/NoSuchElementException" ∈ pd_TB := pd_tb (i := 871) (by decide +kernel) (by decide +kernel)
set_option maxRecDepth 100000 in
theorem klL_28 : Cond.classLink RL 28 "java/lang/IllegalStateException" ∈ pd_TB := pd_tb (i := 894) (by decide +kernel) (by decide +kernel)
set_option maxRecDepth 100000 in
theorem klX8_302 : Cond.classLink RX8 302 "java/lang/IllegalStateException" ∈ pd_TB := pd_tb (i := 907) (by decide +kernel) (by decide +kernel)
set_option maxRecDepth 100000 in
theorem klL_72 : Cond.classLink RL 72 "PetitionDeskModel" ∈ pd_TB := pd_tb (i := 1094) (by decide +kernel) (by decide +kernel)
set_option maxRecDepth 100000 in
theorem klX9_26 : Cond.classLink RX9 26 "[[I" ∈ pd_TB := pd_tb (i := 1100) (by decide +kernel) (by decide +kernel)
set_option maxRecDepth 100000 in
theorem niX8 : Cond.instantiable RX8 11 ∈ pd_TB := pd_tb (i := 120) (by decide +kernel) (by decide +kernel)
set_option maxRecDepth 100000 in
theorem niX6 : Cond.instantiable RX6 6 ∈ pd_TB := pd_tb (i := 128) (by decide +kernel) (by decide +kernel)
set_option maxRecDepth 100000 in
theorem niX7 : Cond.instantiable RX7 6 ∈ pd_TB := pd_tb (i := 134) (by decide +kernel) (by decide +kernel)
set_option maxRecDepth 100000 in
theorem niX5 : Cond.instantiable RX5 2 ∈ pd_TB := pd_tb (i := 140) (by decide +kernel) (by decide +kernel)
set_option maxRecDepth 100000 in
theorem niX3 : Cond.instantiable RX3 19 ∈ pd_TB := pd_tb (i := 180) (by decide +kernel) (by decide +kernel)
set_option maxRecDepth 100000 in
theorem niX4 : Cond.instantiable RX4 2 ∈ pd_TB := pd_tb (i := 186) (by decide +kernel) (by decide +kernel)
set_option maxRecDepth 100000 in
theorem niX1 : Cond.instantiable RX1 8 ∈ pd_TB := pd_tb (i := 318) (by decide +kernel) (by decide +kernel)
set_option maxRecDepth 100000 in
theorem niX0 : Cond.instantiable RX0 2 ∈ pd_TB := pd_tb (i := 353) (by decide +kernel) (by decide +kernel)
set_option maxRecDepth 100000 in
theorem niX9 : Cond.instantiable RX9 21 ∈ pd_TB := pd_tb (i := 1095) (by decide +kernel) (by decide +kernel)
end
