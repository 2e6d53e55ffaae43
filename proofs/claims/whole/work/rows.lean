section
-- ===== PART A: goes FIRST, ahead of the names: the tables' words, and 'selects' of the private methods out of them =====
/-- a private method of a class that the tables say can be made, by its rows of tables_1 -/
def lw_okq (q : MethodName × Nat) : Prop := (q.1.cls ≠ "java/lang/invoke/MethodHandle" ∧ q.1.cls ≠ "java/lang/invoke/VarHandle") ∧ Cond.instantiable q.1.cls q.2 ∈ tables_1 ∧ Cond.privateMethod q.1 ∈ tables_1 ∧ Cond.instanceMethod q.1 ∈ tables_1
theorem lw_p0 : lw_okq (⟨"StrictSentences$Text", "begin", "(LStrictSentences$Sentence;I)Z"⟩, 7) := ⟨⟨by decide +kernel, by decide +kernel⟩, List.mem_of_getElem? (i := 78) (by decide +kernel), List.mem_of_getElem? (i := 185) (by decide +kernel), List.mem_of_getElem? (i := 186) (by decide +kernel)⟩
theorem lw_p1 : lw_okq (⟨"StrictSentences$Text", "open", "(I)Z"⟩, 7) := ⟨⟨by decide +kernel, by decide +kernel⟩, List.mem_of_getElem? (i := 78) (by decide +kernel), List.mem_of_getElem? (i := 189) (by decide +kernel), List.mem_of_getElem? (i := 190) (by decide +kernel)⟩
theorem lw_p2 : lw_okq (⟨"StrictSentences$Sentence", "isAt", "(IIII)Z"⟩, 8) := ⟨⟨by decide +kernel, by decide +kernel⟩, List.mem_of_getElem? (i := 30) (by decide +kernel), List.mem_of_getElem? (i := 197) (by decide +kernel), List.mem_of_getElem? (i := 198) (by decide +kernel)⟩
theorem lw_p3 : lw_okq (⟨"StrictSentences$Sentence", "canStand", "(III)Z"⟩, 8) := ⟨⟨by decide +kernel, by decide +kernel⟩, List.mem_of_getElem? (i := 30) (by decide +kernel), List.mem_of_getElem? (i := 201) (by decide +kernel), List.mem_of_getElem? (i := 202) (by decide +kernel)⟩
theorem lw_p4 : lw_okq (⟨"StrictSentences$Sentence", "rowsOf", "(III)I"⟩, 8) := ⟨⟨by decide +kernel, by decide +kernel⟩, List.mem_of_getElem? (i := 30) (by decide +kernel), List.mem_of_getElem? (i := 207) (by decide +kernel), List.mem_of_getElem? (i := 208) (by decide +kernel)⟩
theorem lw_p5 : lw_okq (⟨"StrictSentences$Text", "finish", "(LStrictSentences$Sentence;I)V"⟩, 7) := ⟨⟨by decide +kernel, by decide +kernel⟩, List.mem_of_getElem? (i := 78) (by decide +kernel), List.mem_of_getElem? (i := 212) (by decide +kernel), List.mem_of_getElem? (i := 213) (by decide +kernel)⟩
theorem lw_p6 : lw_okq (⟨"StrictSentences$Text", "goOn", "(LStrictSentences$Sentence;I)Z"⟩, 7) := ⟨⟨by decide +kernel, by decide +kernel⟩, List.mem_of_getElem? (i := 78) (by decide +kernel), List.mem_of_getElem? (i := 303) (by decide +kernel), List.mem_of_getElem? (i := 304) (by decide +kernel)⟩
theorem lw_p7 : lw_okq (⟨"StrictSentences", "putDraft", "(I)I"⟩, 7) := ⟨⟨by decide +kernel, by decide +kernel⟩, List.mem_of_getElem? (i := 15) (by decide +kernel), List.mem_of_getElem? (i := 308) (by decide +kernel), List.mem_of_getElem? (i := 309) (by decide +kernel)⟩
theorem lw_p8 : lw_okq (⟨"StrictSentences", "isEmpty", "(I)Z"⟩, 7) := ⟨⟨by decide +kernel, by decide +kernel⟩, List.mem_of_getElem? (i := 15) (by decide +kernel), List.mem_of_getElem? (i := 325) (by decide +kernel), List.mem_of_getElem? (i := 326) (by decide +kernel)⟩
theorem lw_p9 : lw_okq (⟨"StrictSentences$Sentence", "addPart", "(LStrictSentences$Sentence;II)I"⟩, 8) := ⟨⟨by decide +kernel, by decide +kernel⟩, List.mem_of_getElem? (i := 30) (by decide +kernel), List.mem_of_getElem? (i := 352) (by decide +kernel), List.mem_of_getElem? (i := 353) (by decide +kernel)⟩
theorem lw_p10 : lw_okq (⟨"StrictSentences", "isPlain", "(LStrictSentences$Sentence;)Z"⟩, 7) := ⟨⟨by decide +kernel, by decide +kernel⟩, List.mem_of_getElem? (i := 15) (by decide +kernel), List.mem_of_getElem? (i := 404) (by decide +kernel), List.mem_of_getElem? (i := 405) (by decide +kernel)⟩
theorem lw_p11 : lw_okq (⟨"StrictSentences$Frame", "decide", "(I)V"⟩, 6) := ⟨⟨by decide +kernel, by decide +kernel⟩, List.mem_of_getElem? (i := 109) (by decide +kernel), List.mem_of_getElem? (i := 421) (by decide +kernel), List.mem_of_getElem? (i := 422) (by decide +kernel)⟩
theorem lw_p12 : lw_okq (⟨"StrictSentences$Frame", "waysOf", "(II)I"⟩, 6) := ⟨⟨by decide +kernel, by decide +kernel⟩, List.mem_of_getElem? (i := 109) (by decide +kernel), List.mem_of_getElem? (i := 425) (by decide +kernel), List.mem_of_getElem? (i := 426) (by decide +kernel)⟩
theorem lw_p13 : lw_okq (⟨"StrictSentences$Frame", "sift", "()V"⟩, 6) := ⟨⟨by decide +kernel, by decide +kernel⟩, List.mem_of_getElem? (i := 109) (by decide +kernel), List.mem_of_getElem? (i := 435) (by decide +kernel), List.mem_of_getElem? (i := 436) (by decide +kernel)⟩
theorem lw_p14 : lw_okq (⟨"StrictSentences$Frame", "implications", "()I"⟩, 6) := ⟨⟨by decide +kernel, by decide +kernel⟩, List.mem_of_getElem? (i := 109) (by decide +kernel), List.mem_of_getElem? (i := 439) (by decide +kernel), List.mem_of_getElem? (i := 440) (by decide +kernel)⟩
theorem lw_p15 : lw_okq (⟨"StrictSentences$Frame", "consider", "(II)V"⟩, 6) := ⟨⟨by decide +kernel, by decide +kernel⟩, List.mem_of_getElem? (i := 109) (by decide +kernel), List.mem_of_getElem? (i := 443) (by decide +kernel), List.mem_of_getElem? (i := 444) (by decide +kernel)⟩
def lw_privs_1 : List (MethodName × Nat) := [(⟨"StrictSentences$Text", "begin", "(LStrictSentences$Sentence;I)Z"⟩, 7), (⟨"StrictSentences$Text", "open", "(I)Z"⟩, 7), (⟨"StrictSentences$Sentence", "isAt", "(IIII)Z"⟩, 8), (⟨"StrictSentences$Sentence", "canStand", "(III)Z"⟩, 8), (⟨"StrictSentences$Sentence", "rowsOf", "(III)I"⟩, 8), (⟨"StrictSentences$Text", "finish", "(LStrictSentences$Sentence;I)V"⟩, 7), (⟨"StrictSentences$Text", "goOn", "(LStrictSentences$Sentence;I)Z"⟩, 7), (⟨"StrictSentences", "putDraft", "(I)I"⟩, 7), (⟨"StrictSentences", "isEmpty", "(I)Z"⟩, 7), (⟨"StrictSentences$Sentence", "addPart", "(LStrictSentences$Sentence;II)I"⟩, 8), (⟨"StrictSentences", "isPlain", "(LStrictSentences$Sentence;)Z"⟩, 7), (⟨"StrictSentences$Frame", "decide", "(I)V"⟩, 6), (⟨"StrictSentences$Frame", "waysOf", "(II)I"⟩, 6), (⟨"StrictSentences$Frame", "sift", "()V"⟩, 6), (⟨"StrictSentences$Frame", "implications", "()I"⟩, 6), (⟨"StrictSentences$Frame", "consider", "(II)V"⟩, 6)]
theorem lw_r1 : ∀ q ∈ lw_privs_1, lw_okq q := List.forall_mem_cons.mpr ⟨lw_p0, List.forall_mem_cons.mpr ⟨lw_p1, List.forall_mem_cons.mpr ⟨lw_p2, List.forall_mem_cons.mpr ⟨lw_p3, List.forall_mem_cons.mpr ⟨lw_p4, List.forall_mem_cons.mpr ⟨lw_p5, List.forall_mem_cons.mpr ⟨lw_p6, List.forall_mem_cons.mpr ⟨lw_p7, List.forall_mem_cons.mpr ⟨lw_p8, List.forall_mem_cons.mpr ⟨lw_p9, List.forall_mem_cons.mpr ⟨lw_p10, List.forall_mem_cons.mpr ⟨lw_p11, List.forall_mem_cons.mpr ⟨lw_p12, List.forall_mem_cons.mpr ⟨lw_p13, List.forall_mem_cons.mpr ⟨lw_p14, List.forall_mem_cons.mpr ⟨lw_p15, fun _ h => absurd h List.not_mem_nil⟩⟩⟩⟩⟩⟩⟩⟩⟩⟩⟩⟩⟩⟩⟩⟩
theorem lw_p16 : lw_okq (⟨"StrictSentences$Frame", "deniedBy", "(II)I"⟩, 6) := ⟨⟨by decide +kernel, by decide +kernel⟩, List.mem_of_getElem? (i := 109) (by decide +kernel), List.mem_of_getElem? (i := 447) (by decide +kernel), List.mem_of_getElem? (i := 448) (by decide +kernel)⟩
theorem lw_p17 : lw_okq (⟨"StrictSentences$Frame", "isAboveAny", "(I)Z"⟩, 6) := ⟨⟨by decide +kernel, by decide +kernel⟩, List.mem_of_getElem? (i := 109) (by decide +kernel), List.mem_of_getElem? (i := 497) (by decide +kernel), List.mem_of_getElem? (i := 498) (by decide +kernel)⟩
theorem lw_p18 : lw_okq (⟨"StrictSentences", "countHeld", "()I"⟩, 7) := ⟨⟨by decide +kernel, by decide +kernel⟩, List.mem_of_getElem? (i := 15) (by decide +kernel), List.mem_of_getElem? (i := 539) (by decide +kernel), List.mem_of_getElem? (i := 540) (by decide +kernel)⟩
theorem lw_p19 : lw_okq (⟨"StrictSentences", "countPlain", "()I"⟩, 7) := ⟨⟨by decide +kernel, by decide +kernel⟩, List.mem_of_getElem? (i := 15) (by decide +kernel), List.mem_of_getElem? (i := 543) (by decide +kernel), List.mem_of_getElem? (i := 544) (by decide +kernel)⟩
theorem lw_p20 : lw_okq (⟨"StrictSentences", "countTrueByRows", "()I"⟩, 7) := ⟨⟨by decide +kernel, by decide +kernel⟩, List.mem_of_getElem? (i := 15) (by decide +kernel), List.mem_of_getElem? (i := 547) (by decide +kernel), List.mem_of_getElem? (i := 548) (by decide +kernel)⟩
theorem lw_p21 : lw_okq (⟨"StrictSentences$Shelf", "standsBefore", "(I)Z"⟩, 1) := ⟨⟨by decide +kernel, by decide +kernel⟩, List.mem_of_getElem? (i := 23) (by decide +kernel), List.mem_of_getElem? (i := 555) (by decide +kernel), List.mem_of_getElem? (i := 556) (by decide +kernel)⟩
theorem lw_p22 : lw_okq (⟨"StrictSentencesModel", "readText", "()I"⟩, 25) := ⟨⟨by decide +kernel, by decide +kernel⟩, List.mem_of_getElem? (i := 560) (by decide +kernel), List.mem_of_getElem? (i := 661) (by decide +kernel), List.mem_of_getElem? (i := 662) (by decide +kernel)⟩
theorem lw_p23 : lw_okq (⟨"StrictSentencesModel", "push", "(I)V"⟩, 25) := ⟨⟨by decide +kernel, by decide +kernel⟩, List.mem_of_getElem? (i := 560) (by decide +kernel), List.mem_of_getElem? (i := 665) (by decide +kernel), List.mem_of_getElem? (i := 666) (by decide +kernel)⟩
theorem lw_p24 : lw_okq (⟨"StrictSentencesModel", "reads", "(I)Z"⟩, 25) := ⟨⟨by decide +kernel, by decide +kernel⟩, List.mem_of_getElem? (i := 560) (by decide +kernel), List.mem_of_getElem? (i := 669) (by decide +kernel), List.mem_of_getElem? (i := 670) (by decide +kernel)⟩
theorem lw_p25 : lw_okq (⟨"StrictSentencesModel", "begins", "(I)Z"⟩, 25) := ⟨⟨by decide +kernel, by decide +kernel⟩, List.mem_of_getElem? (i := 560) (by decide +kernel), List.mem_of_getElem? (i := 673) (by decide +kernel), List.mem_of_getElem? (i := 674) (by decide +kernel)⟩
theorem lw_p26 : lw_okq (⟨"StrictSentencesModel", "partOf", "(III)I"⟩, 25) := ⟨⟨by decide +kernel, by decide +kernel⟩, List.mem_of_getElem? (i := 560) (by decide +kernel), List.mem_of_getElem? (i := 677) (by decide +kernel), List.mem_of_getElem? (i := 678) (by decide +kernel)⟩
theorem lw_p27 : lw_okq (⟨"StrictSentencesModel", "complete", "(I)V"⟩, 25) := ⟨⟨by decide +kernel, by decide +kernel⟩, List.mem_of_getElem? (i := 560) (by decide +kernel), List.mem_of_getElem? (i := 681) (by decide +kernel), List.mem_of_getElem? (i := 682) (by decide +kernel)⟩
theorem lw_p28 : lw_okq (⟨"StrictSentencesModel", "keep", "(I)I"⟩, 25) := ⟨⟨by decide +kernel, by decide +kernel⟩, List.mem_of_getElem? (i := 560) (by decide +kernel), List.mem_of_getElem? (i := 685) (by decide +kernel), List.mem_of_getElem? (i := 686) (by decide +kernel)⟩
theorem lw_p29 : lw_okq (⟨"StrictSentencesModel", "isEmpty", "(I)Z"⟩, 25) := ⟨⟨by decide +kernel, by decide +kernel⟩, List.mem_of_getElem? (i := 560) (by decide +kernel), List.mem_of_getElem? (i := 697) (by decide +kernel), List.mem_of_getElem? (i := 698) (by decide +kernel)⟩
theorem lw_p30 : lw_okq (⟨"StrictSentencesModel", "put", "(III)V"⟩, 25) := ⟨⟨by decide +kernel, by decide +kernel⟩, List.mem_of_getElem? (i := 560) (by decide +kernel), List.mem_of_getElem? (i := 701) (by decide +kernel), List.mem_of_getElem? (i := 702) (by decide +kernel)⟩
theorem lw_p31 : lw_okq (⟨"StrictSentencesModel", "look", "(I)V"⟩, 25) := ⟨⟨by decide +kernel, by decide +kernel⟩, List.mem_of_getElem? (i := 560) (by decide +kernel), List.mem_of_getElem? (i := 705) (by decide +kernel), List.mem_of_getElem? (i := 706) (by decide +kernel)⟩
def lw_privs_2 : List (MethodName × Nat) := [(⟨"StrictSentences$Frame", "deniedBy", "(II)I"⟩, 6), (⟨"StrictSentences$Frame", "isAboveAny", "(I)Z"⟩, 6), (⟨"StrictSentences", "countHeld", "()I"⟩, 7), (⟨"StrictSentences", "countPlain", "()I"⟩, 7), (⟨"StrictSentences", "countTrueByRows", "()I"⟩, 7), (⟨"StrictSentences$Shelf", "standsBefore", "(I)Z"⟩, 1), (⟨"StrictSentencesModel", "readText", "()I"⟩, 25), (⟨"StrictSentencesModel", "push", "(I)V"⟩, 25), (⟨"StrictSentencesModel", "reads", "(I)Z"⟩, 25), (⟨"StrictSentencesModel", "begins", "(I)Z"⟩, 25), (⟨"StrictSentencesModel", "partOf", "(III)I"⟩, 25), (⟨"StrictSentencesModel", "complete", "(I)V"⟩, 25), (⟨"StrictSentencesModel", "keep", "(I)I"⟩, 25), (⟨"StrictSentencesModel", "isEmpty", "(I)Z"⟩, 25), (⟨"StrictSentencesModel", "put", "(III)V"⟩, 25), (⟨"StrictSentencesModel", "look", "(I)V"⟩, 25)]
theorem lw_r2 : ∀ q ∈ lw_privs_2, lw_okq q := List.forall_mem_cons.mpr ⟨lw_p16, List.forall_mem_cons.mpr ⟨lw_p17, List.forall_mem_cons.mpr ⟨lw_p18, List.forall_mem_cons.mpr ⟨lw_p19, List.forall_mem_cons.mpr ⟨lw_p20, List.forall_mem_cons.mpr ⟨lw_p21, List.forall_mem_cons.mpr ⟨lw_p22, List.forall_mem_cons.mpr ⟨lw_p23, List.forall_mem_cons.mpr ⟨lw_p24, List.forall_mem_cons.mpr ⟨lw_p25, List.forall_mem_cons.mpr ⟨lw_p26, List.forall_mem_cons.mpr ⟨lw_p27, List.forall_mem_cons.mpr ⟨lw_p28, List.forall_mem_cons.mpr ⟨lw_p29, List.forall_mem_cons.mpr ⟨lw_p30, List.forall_mem_cons.mpr ⟨lw_p31, fun _ h => absurd h List.not_mem_nil⟩⟩⟩⟩⟩⟩⟩⟩⟩⟩⟩⟩⟩⟩⟩⟩
theorem lw_p32 : lw_okq (⟨"StrictSentencesModel", "cut", "(II)V"⟩, 25) := ⟨⟨by decide +kernel, by decide +kernel⟩, List.mem_of_getElem? (i := 560) (by decide +kernel), List.mem_of_getElem? (i := 713) (by decide +kernel), List.mem_of_getElem? (i := 714) (by decide +kernel)⟩
theorem lw_p33 : lw_okq (⟨"StrictSentencesModel", "signAt", "(I)I"⟩, 25) := ⟨⟨by decide +kernel, by decide +kernel⟩, List.mem_of_getElem? (i := 560) (by decide +kernel), List.mem_of_getElem? (i := 721) (by decide +kernel), List.mem_of_getElem? (i := 722) (by decide +kernel)⟩
theorem lw_p34 : lw_okq (⟨"StrictSentencesModel", "isPlain", "(I)Z"⟩, 25) := ⟨⟨by decide +kernel, by decide +kernel⟩, List.mem_of_getElem? (i := 560) (by decide +kernel), List.mem_of_getElem? (i := 737) (by decide +kernel), List.mem_of_getElem? (i := 738) (by decide +kernel)⟩
theorem lw_p35 : lw_okq (⟨"StrictSentencesModel", "isInAll", "(II)Z"⟩, 25) := ⟨⟨by decide +kernel, by decide +kernel⟩, List.mem_of_getElem? (i := 560) (by decide +kernel), List.mem_of_getElem? (i := 741) (by decide +kernel), List.mem_of_getElem? (i := 742) (by decide +kernel)⟩
theorem lw_p36 : lw_okq (⟨"StrictSentencesModel", "layWorlds", "()V"⟩, 25) := ⟨⟨by decide +kernel, by decide +kernel⟩, List.mem_of_getElem? (i := 560) (by decide +kernel), List.mem_of_getElem? (i := 745) (by decide +kernel), List.mem_of_getElem? (i := 746) (by decide +kernel)⟩
theorem lw_p37 : lw_okq (⟨"StrictSentencesModel", "isClosed", "(I)Z"⟩, 25) := ⟨⟨by decide +kernel, by decide +kernel⟩, List.mem_of_getElem? (i := 560) (by decide +kernel), List.mem_of_getElem? (i := 749) (by decide +kernel), List.mem_of_getElem? (i := 750) (by decide +kernel)⟩
theorem lw_p38 : lw_okq (⟨"StrictSentencesModel", "isNeeded", "(I)Z"⟩, 25) := ⟨⟨by decide +kernel, by decide +kernel⟩, List.mem_of_getElem? (i := 560) (by decide +kernel), List.mem_of_getElem? (i := 756) (by decide +kernel), List.mem_of_getElem? (i := 757) (by decide +kernel)⟩
theorem lw_p39 : lw_okq (⟨"StrictSentencesModel", "isTrueByRows", "(I)Z"⟩, 25) := ⟨⟨by decide +kernel, by decide +kernel⟩, List.mem_of_getElem? (i := 560) (by decide +kernel), List.mem_of_getElem? (i := 764) (by decide +kernel), List.mem_of_getElem? (i := 765) (by decide +kernel)⟩
theorem lw_p40 : lw_okq (⟨"StrictSentencesModel", "isTrue", "(I)Z"⟩, 25) := ⟨⟨by decide +kernel, by decide +kernel⟩, List.mem_of_getElem? (i := 560) (by decide +kernel), List.mem_of_getElem? (i := 768) (by decide +kernel), List.mem_of_getElem? (i := 769) (by decide +kernel)⟩
theorem lw_p41 : lw_okq (⟨"StrictSentencesModel", "layHeights", "()V"⟩, 25) := ⟨⟨by decide +kernel, by decide +kernel⟩, List.mem_of_getElem? (i := 560) (by decide +kernel), List.mem_of_getElem? (i := 784) (by decide +kernel), List.mem_of_getElem? (i := 785) (by decide +kernel)⟩
theorem lw_p42 : lw_okq (⟨"StrictSentencesModel", "isAbove", "(II)Z"⟩, 25) := ⟨⟨by decide +kernel, by decide +kernel⟩, List.mem_of_getElem? (i := 560) (by decide +kernel), List.mem_of_getElem? (i := 788) (by decide +kernel), List.mem_of_getElem? (i := 789) (by decide +kernel)⟩
theorem lw_p43 : lw_okq (⟨"StrictSentencesModel", "aboveOf", "(I)I"⟩, 25) := ⟨⟨by decide +kernel, by decide +kernel⟩, List.mem_of_getElem? (i := 560) (by decide +kernel), List.mem_of_getElem? (i := 792) (by decide +kernel), List.mem_of_getElem? (i := 793) (by decide +kernel)⟩
theorem lw_p44 : lw_okq (⟨"StrictSentencesModel", "belowOf", "(I)I"⟩, 25) := ⟨⟨by decide +kernel, by decide +kernel⟩, List.mem_of_getElem? (i := 560) (by decide +kernel), List.mem_of_getElem? (i := 796) (by decide +kernel), List.mem_of_getElem? (i := 797) (by decide +kernel)⟩
theorem lw_p45 : lw_okq (⟨"StrictSentencesModel", "copy", "(II)V"⟩, 25) := ⟨⟨by decide +kernel, by decide +kernel⟩, List.mem_of_getElem? (i := 560) (by decide +kernel), List.mem_of_getElem? (i := 808) (by decide +kernel), List.mem_of_getElem? (i := 809) (by decide +kernel)⟩
theorem lw_p46 : lw_okq (⟨"StrictSentencesModel", "counts", "(II)Z"⟩, 25) := ⟨⟨by decide +kernel, by decide +kernel⟩, List.mem_of_getElem? (i := 560) (by decide +kernel), List.mem_of_getElem? (i := 820) (by decide +kernel), List.mem_of_getElem? (i := 821) (by decide +kernel)⟩
theorem lw_p47 : lw_okq (⟨"StrictSentencesModel", "isFirst", "(I)Z"⟩, 25) := ⟨⟨by decide +kernel, by decide +kernel⟩, List.mem_of_getElem? (i := 560) (by decide +kernel), List.mem_of_getElem? (i := 824) (by decide +kernel), List.mem_of_getElem? (i := 825) (by decide +kernel)⟩
def lw_privs_3 : List (MethodName × Nat) := [(⟨"StrictSentencesModel", "cut", "(II)V"⟩, 25), (⟨"StrictSentencesModel", "signAt", "(I)I"⟩, 25), (⟨"StrictSentencesModel", "isPlain", "(I)Z"⟩, 25), (⟨"StrictSentencesModel", "isInAll", "(II)Z"⟩, 25), (⟨"StrictSentencesModel", "layWorlds", "()V"⟩, 25), (⟨"StrictSentencesModel", "isClosed", "(I)Z"⟩, 25), (⟨"StrictSentencesModel", "isNeeded", "(I)Z"⟩, 25), (⟨"StrictSentencesModel", "isTrueByRows", "(I)Z"⟩, 25), (⟨"StrictSentencesModel", "isTrue", "(I)Z"⟩, 25), (⟨"StrictSentencesModel", "layHeights", "()V"⟩, 25), (⟨"StrictSentencesModel", "isAbove", "(II)Z"⟩, 25), (⟨"StrictSentencesModel", "aboveOf", "(I)I"⟩, 25), (⟨"StrictSentencesModel", "belowOf", "(I)I"⟩, 25), (⟨"StrictSentencesModel", "copy", "(II)V"⟩, 25), (⟨"StrictSentencesModel", "counts", "(II)Z"⟩, 25), (⟨"StrictSentencesModel", "isFirst", "(I)Z"⟩, 25)]
theorem lw_r3 : ∀ q ∈ lw_privs_3, lw_okq q := List.forall_mem_cons.mpr ⟨lw_p32, List.forall_mem_cons.mpr ⟨lw_p33, List.forall_mem_cons.mpr ⟨lw_p34, List.forall_mem_cons.mpr ⟨lw_p35, List.forall_mem_cons.mpr ⟨lw_p36, List.forall_mem_cons.mpr ⟨lw_p37, List.forall_mem_cons.mpr ⟨lw_p38, List.forall_mem_cons.mpr ⟨lw_p39, List.forall_mem_cons.mpr ⟨lw_p40, List.forall_mem_cons.mpr ⟨lw_p41, List.forall_mem_cons.mpr ⟨lw_p42, List.forall_mem_cons.mpr ⟨lw_p43, List.forall_mem_cons.mpr ⟨lw_p44, List.forall_mem_cons.mpr ⟨lw_p45, List.forall_mem_cons.mpr ⟨lw_p46, List.forall_mem_cons.mpr ⟨lw_p47, fun _ h => absurd h List.not_mem_nil⟩⟩⟩⟩⟩⟩⟩⟩⟩⟩⟩⟩⟩⟩⟩⟩
theorem lw_p48 : lw_okq (⟨"StrictSentencesModel", "areSame", "(II)Z"⟩, 25) := ⟨⟨by decide +kernel, by decide +kernel⟩, List.mem_of_getElem? (i := 560) (by decide +kernel), List.mem_of_getElem? (i := 828) (by decide +kernel), List.mem_of_getElem? (i := 829) (by decide +kernel)⟩
def lw_privs_4 : List (MethodName × Nat) := [(⟨"StrictSentencesModel", "areSame", "(II)Z"⟩, 25)]
theorem lw_r4 : ∀ q ∈ lw_privs_4, lw_okq q := List.forall_mem_cons.mpr ⟨lw_p48, fun _ h => absurd h List.not_mem_nil⟩
def lw_privs : List (MethodName × Nat) := lw_privs_1 ++ (lw_privs_2 ++ (lw_privs_3 ++ (lw_privs_4)))
def lw_tbl : List Cond := k2_sels lw_privs ++ tables_1
theorem lw_privs_ok : ∀ q ∈ lw_privs, lw_okq q := by
  show ∀ q ∈ lw_privs_1 ++ (lw_privs_2 ++ (lw_privs_3 ++ (lw_privs_4))), lw_okq q
  exact List.forall_mem_append.mpr ⟨lw_r1, List.forall_mem_append.mpr ⟨lw_r2, List.forall_mem_append.mpr ⟨lw_r3, lw_r4⟩⟩⟩
def BG : List Cond := lw_tbl.filter goodWord
theorem bg_good : BG.all goodWord = true := List.all_eq_true.mpr (fun _ h => (List.mem_filter.mp h).2)
theorem bg_of {w : Cond} (i : Nat) (h : lw_tbl[i]? = some w) (g : goodWord w = true) : w ∈ BG := List.mem_filter.mpr ⟨List.mem_of_getElem? h, g⟩
end
section
def RX0 : String := "StrictSentences$Frame"
def TX0 : u_T := fun k => match k with
  | 0 => ("StrictSentences$Frame", "sentence", "LStrictSentences$Sentence;", true)
  | 1 => ("StrictSentences$Frame", "sets", "[I", true)
  | 2 => ("StrictSentences$Frame", "denied", "[I", true)
  | 3 => ("StrictSentences$Frame", "heights", "[I", true)
  | 4 => ("StrictSentences$Frame", "first", "I", false)
  | _ => ("StrictSentences$Frame", "end", "I", false)
def tyX0 : Nat → FieldType := fun k => match k with
  | 0 => .object "StrictSentences$Sentence"
  | 1 => .array .int
  | 2 => .array .int
  | 3 => .array .int
  | 4 => .int
  | _ => .int
abbrev wsX00 : List Cond := u_ws RX0 TX0 6
theorem nmX0 : ∀ a, a < 6 → ∀ b, b < 6 → a ≠ b → (TX0 a).2.1 ≠ (TX0 b).2.1 := by decide +kernel
theorem tyX0_ok : ∀ k, k < 6 → parseFieldDescriptor (TX0 k).2.2.1 = some (tyX0 k) := by decide +kernel
abbrev cX0_init : ByteArray := prog_2_method_1_code
def yX0_init : MethodName := ⟨RX0, "<init>", "()V"⟩
abbrev cX0_turnTo : ByteArray := prog_2_method_2_code
def yX0_turnTo : MethodName := ⟨RX0, "turnTo", "(LStrictSentences$Sentence;)V"⟩
abbrev cX0_decide : ByteArray := prog_2_method_3_code
def yX0_decide : MethodName := ⟨RX0, "decide", "(I)V"⟩
abbrev cX0_waysOf : ByteArray := prog_2_method_4_code
def yX0_waysOf : MethodName := ⟨RX0, "waysOf", "(II)I"⟩
abbrev cX0_sift : ByteArray := prog_2_method_5_code
def yX0_sift : MethodName := ⟨RX0, "sift", "()V"⟩
abbrev cX0_implications : ByteArray := prog_2_method_6_code
def yX0_implications : MethodName := ⟨RX0, "implications", "()I"⟩
abbrev cX0_consider : ByteArray := prog_2_method_7_code
def yX0_consider : MethodName := ⟨RX0, "consider", "(II)V"⟩
abbrev cX0_deniedBy : ByteArray := prog_2_method_8_code
def yX0_deniedBy : MethodName := ⟨RX0, "deniedBy", "(II)I"⟩
abbrev cX0_forces : ByteArray := prog_2_method_9_code
def yX0_forces : MethodName := ⟨RX0, "forces", "(II)Z"⟩
abbrev cX0_size : ByteArray := prog_2_method_10_code
def yX0_size : MethodName := ⟨RX0, "size", "()I"⟩
abbrev cX0_setAt : ByteArray := prog_2_method_11_code
def yX0_setAt : MethodName := ⟨RX0, "setAt", "(I)I"⟩
abbrev cX0_heightAt : ByteArray := prog_2_method_12_code
def yX0_heightAt : MethodName := ⟨RX0, "heightAt", "(I)I"⟩
abbrev cX0_above : ByteArray := prog_2_method_13_code
def yX0_above : MethodName := ⟨RX0, "above", "(I)I"⟩
abbrev cX0_refuting : ByteArray := prog_2_method_14_code
def yX0_refuting : MethodName := ⟨RX0, "refuting", "()I"⟩
abbrev cX0_leastRefuting : ByteArray := prog_2_method_15_code
def yX0_leastRefuting : MethodName := ⟨RX0, "leastRefuting", "()I"⟩
abbrev cX0_highest : ByteArray := prog_2_method_16_code
def yX0_highest : MethodName := ⟨RX0, "highest", "()I"⟩
abbrev cX0_greatestHeight : ByteArray := prog_2_method_17_code
def yX0_greatestHeight : MethodName := ⟨RX0, "greatestHeight", "()I"⟩
abbrev cX0_lowest : ByteArray := prog_2_method_18_code
def yX0_lowest : MethodName := ⟨RX0, "lowest", "()I"⟩
abbrev cX0_isAboveAny : ByteArray := prog_2_method_19_code
def yX0_isAboveAny : MethodName := ⟨RX0, "isAboveAny", "(I)Z"⟩
def RX1 : String := "StrictSentences$Sentence"
def TX1 : u_T := fun k => match k with
  | 0 => ("StrictSentences$Sentence", "size", "I", false)
  | 1 => ("StrictSentences$Sentence", "large", "Z", false)
  | 2 => ("StrictSentences$Sentence", "kind", "[I", true)
  | 3 => ("StrictSentences$Sentence", "left", "[I", true)
  | 4 => ("StrictSentences$Sentence", "right", "[I", true)
  | 5 => ("StrictSentences$Sentence", "length", "[I", true)
  | 6 => ("StrictSentences$Sentence", "trueRows", "[I", true)
  | _ => ("StrictSentences$Sentence", "placeOf", "[I", true)
def tyX1 : Nat → FieldType := fun k => match k with
  | 0 => .int
  | 1 => .boolean
  | 2 => .array .int
  | 3 => .array .int
  | 4 => .array .int
  | 5 => .array .int
  | 6 => .array .int
  | _ => .array .int
abbrev wsX10 : List Cond := u_ws RX1 TX1 8
theorem nmX1 : ∀ a, a < 8 → ∀ b, b < 8 → a ≠ b → (TX1 a).2.1 ≠ (TX1 b).2.1 := by decide +kernel
theorem tyX1_ok : ∀ k, k < 8 → parseFieldDescriptor (TX1 k).2.2.1 = some (tyX1 k) := by decide +kernel
abbrev cX1_init : ByteArray := prog_3_method_1_code
def yX1_init : MethodName := ⟨RX1, "<init>", "()V"⟩
abbrev cX1_clear : ByteArray := prog_3_method_2_code
def yX1_clear : MethodName := ⟨RX1, "clear", "()V"⟩
abbrev cX1_copyFrom : ByteArray := prog_3_method_3_code
def yX1_copyFrom : MethodName := ⟨RX1, "copyFrom", "(LStrictSentences$Sentence;)V"⟩
abbrev cX1_sameAs : ByteArray := prog_3_method_4_code
def yX1_sameAs : MethodName := ⟨RX1, "sameAs", "(LStrictSentences$Sentence;)Z"⟩
abbrev cX1_hasPart : ByteArray := prog_3_method_5_code
def yX1_hasPart : MethodName := ⟨RX1, "hasPart", "(I)Z"⟩
abbrev cX1_root : ByteArray := prog_3_method_6_code
def yX1_root : MethodName := ⟨RX1, "root", "()I"⟩
abbrev cX1_add : ByteArray := prog_3_method_7_code
def yX1_add : MethodName := ⟨RX1, "add", "(III)I"⟩
abbrev cX1_canStand : ByteArray := prog_3_method_8_code
def yX1_canStand : MethodName := ⟨RX1, "canStand", "(III)Z"⟩
abbrev cX1_isAt : ByteArray := prog_3_method_9_code
def yX1_isAt : MethodName := ⟨RX1, "isAt", "(IIII)Z"⟩
abbrev cX1_rowsOf : ByteArray := prog_3_method_10_code
def yX1_rowsOf : MethodName := ⟨RX1, "rowsOf", "(III)I"⟩
abbrev cX1_becomePair : ByteArray := prog_3_method_11_code
def yX1_becomePair : MethodName := ⟨RX1, "becomePair", "(ILStrictSentences$Sentence;LStrictSentences$Sentence;)V"⟩
abbrev cX1_becomePart : ByteArray := prog_3_method_12_code
def yX1_becomePart : MethodName := ⟨RX1, "becomePart", "(LStrictSentences$Sentence;I)V"⟩
abbrev cX1_addPart : ByteArray := prog_3_method_13_code
def yX1_addPart : MethodName := ⟨RX1, "addPart", "(LStrictSentences$Sentence;II)I"⟩
abbrev cX1_isTrueByRows : ByteArray := prog_3_method_14_code
def yX1_isTrueByRows : MethodName := ⟨RX1, "isTrueByRows", "()Z"⟩
abbrev cX1_signs : ByteArray := prog_3_method_15_code
def yX1_signs : MethodName := ⟨RX1, "signs", "()I"⟩
abbrev cX1_signAt : ByteArray := prog_3_method_16_code
def yX1_signAt : MethodName := ⟨RX1, "signAt", "(I)I"⟩
def RX2 : String := "StrictSentences$Shelf"
def TX2 : u_T := fun k => match k with
  | _ => ("StrictSentences$Shelf", "held", "[LStrictSentences$Sentence;", true)
def tyX2 : Nat → FieldType := fun k => match k with
  | _ => .array (.object "StrictSentences$Sentence")
abbrev wsX20 : List Cond := u_ws RX2 TX2 1
theorem nmX2 : ∀ a, a < 1 → ∀ b, b < 1 → a ≠ b → (TX2 a).2.1 ≠ (TX2 b).2.1 := by decide +kernel
theorem tyX2_ok : ∀ k, k < 1 → parseFieldDescriptor (TX2 k).2.2.1 = some (tyX2 k) := by decide +kernel
abbrev cX2_init : ByteArray := prog_4_method_1_code
def yX2_init : MethodName := ⟨RX2, "<init>", "()V"⟩
abbrev cX2_copyFrom : ByteArray := prog_4_method_2_code
def yX2_copyFrom : MethodName := ⟨RX2, "copyFrom", "(LStrictSentences$Shelf;)V"⟩
abbrev cX2_countUnlike : ByteArray := prog_4_method_3_code
def yX2_countUnlike : MethodName := ⟨RX2, "countUnlike", "()I"⟩
abbrev cX2_standsBefore : ByteArray := prog_4_method_4_code
def yX2_standsBefore : MethodName := ⟨RX2, "standsBefore", "(I)Z"⟩
def RX3 : String := "StrictSentences$Text"
def TX3 : u_T := fun k => match k with
  | 0 => ("StrictSentences$Text", "length", "I", false)
  | 1 => ("StrictSentences$Text", "signs", "[I", true)
  | 2 => ("StrictSentences$Text", "opened", "[I", true)
  | 3 => ("StrictSentences$Text", "lefts", "[I", true)
  | 4 => ("StrictSentences$Text", "depth", "I", false)
  | 5 => ("StrictSentences$Text", "wanting", "Z", false)
  | _ => ("StrictSentences$Text", "last", "I", false)
def tyX3 : Nat → FieldType := fun k => match k with
  | 0 => .int
  | 1 => .array .int
  | 2 => .array .int
  | 3 => .array .int
  | 4 => .int
  | 5 => .boolean
  | _ => .int
abbrev wsX30 : List Cond := u_ws RX3 TX3 7
theorem nmX3 : ∀ a, a < 7 → ∀ b, b < 7 → a ≠ b → (TX3 a).2.1 ≠ (TX3 b).2.1 := by decide +kernel
theorem tyX3_ok : ∀ k, k < 7 → parseFieldDescriptor (TX3 k).2.2.1 = some (tyX3 k) := by decide +kernel
abbrev cX3_init : ByteArray := prog_5_method_1_code
def yX3_init : MethodName := ⟨RX3, "<init>", "()V"⟩
abbrev cX3_add : ByteArray := prog_5_method_2_code
def yX3_add : MethodName := ⟨RX3, "add", "(I)V"⟩
abbrev cX3_parseInto : ByteArray := prog_5_method_3_code
def yX3_parseInto : MethodName := ⟨RX3, "parseInto", "(LStrictSentences$Sentence;)I"⟩
abbrev cX3_begin : ByteArray := prog_5_method_4_code
def yX3_begin : MethodName := ⟨RX3, "begin", "(LStrictSentences$Sentence;I)Z"⟩
abbrev cX3_open : ByteArray := prog_5_method_5_code
def yX3_open : MethodName := ⟨RX3, "open", "(I)Z"⟩
abbrev cX3_goOn : ByteArray := prog_5_method_6_code
def yX3_goOn : MethodName := ⟨RX3, "goOn", "(LStrictSentences$Sentence;I)Z"⟩
abbrev cX3_finish : ByteArray := prog_5_method_7_code
def yX3_finish : MethodName := ⟨RX3, "finish", "(LStrictSentences$Sentence;I)V"⟩
def RX4 : String := "StrictSentences"
def TX4 : u_T := fun k => match k with
  | 0 => ("StrictSentences", "shelf", "LStrictSentences$Shelf;", true)
  | 1 => ("StrictSentences", "images", "[LStrictSentences$Shelf;", true)
  | 2 => ("StrictSentences", "keptImages", "I", false)
  | 3 => ("StrictSentences", "text", "LStrictSentences$Text;", true)
  | 4 => ("StrictSentences", "faultPlace", "I", false)
  | 5 => ("StrictSentences", "draft", "LStrictSentences$Sentence;", true)
  | _ => ("StrictSentences", "frame", "LStrictSentences$Frame;", true)
def tyX4 : Nat → FieldType := fun k => match k with
  | 0 => .object "StrictSentences$Shelf"
  | 1 => .array (.object "StrictSentences$Shelf")
  | 2 => .int
  | 3 => .object "StrictSentences$Text"
  | 4 => .int
  | 5 => .object "StrictSentences$Sentence"
  | _ => .object "StrictSentences$Frame"
abbrev wsX40 : List Cond := u_ws RX4 TX4 7
theorem nmX4 : ∀ a, a < 7 → ∀ b, b < 7 → a ≠ b → (TX4 a).2.1 ≠ (TX4 b).2.1 := by decide +kernel
theorem tyX4_ok : ∀ k, k < 7 → parseFieldDescriptor (TX4 k).2.2.1 = some (tyX4 k) := by decide +kernel
abbrev cX4_init : ByteArray := prog_1_method_1_code
def yX4_init : MethodName := ⟨RX4, "<init>", "()V"⟩
abbrev cX4_say : ByteArray := prog_1_method_2_code
def yX4_say : MethodName := ⟨RX4, "say", "(I)I"⟩
abbrev cX4_wipe : ByteArray := prog_1_method_3_code
def yX4_wipe : MethodName := ⟨RX4, "wipe", "()I"⟩
abbrev cX4_read : ByteArray := prog_1_method_4_code
def yX4_read : MethodName := ⟨RX4, "read", "(I)I"⟩
abbrev cX4_fault : ByteArray := prog_1_method_5_code
def yX4_fault : MethodName := ⟨RX4, "fault", "()I"⟩
abbrev cX4_make : ByteArray := prog_1_method_6_code
def yX4_make : MethodName := ⟨RX4, "make", "(IIII)I"⟩
abbrev cX4_part : ByteArray := prog_1_method_7_code
def yX4_part : MethodName := ⟨RX4, "part", "(III)I"⟩
abbrev cX4_sign : ByteArray := prog_1_method_8_code
def yX4_sign : MethodName := ⟨RX4, "sign", "(II)I"⟩
abbrev cX4_told : ByteArray := prog_1_method_9_code
def yX4_told : MethodName := ⟨RX4, "told", "(III)I"⟩
abbrev cX4_drop : ByteArray := prog_1_method_10_code
def yX4_drop : MethodName := ⟨RX4, "drop", "(I)I"⟩
abbrev cX4_plain : ByteArray := prog_1_method_11_code
def yX4_plain : MethodName := ⟨RX4, "plain", "(I)I"⟩
abbrev cX4_rows : ByteArray := prog_1_method_12_code
def yX4_rows : MethodName := ⟨RX4, "rows", "(I)I"⟩
abbrev cX4_follows : ByteArray := prog_1_method_13_code
def yX4_follows : MethodName := ⟨RX4, "follows", "(II)I"⟩
abbrev cX4_from : ByteArray := prog_1_method_14_code
def yX4_from : MethodName := ⟨RX4, "from", "(III)I"⟩
abbrev cX4_worlds : ByteArray := prog_1_method_15_code
def yX4_worlds : MethodName := ⟨RX4, "worlds", "(II)I"⟩
abbrev cX4_world : ByteArray := prog_1_method_16_code
def yX4_world : MethodName := ⟨RX4, "world", "(III)I"⟩
abbrev cX4_image : ByteArray := prog_1_method_17_code
def yX4_image : MethodName := ⟨RX4, "image", "(I)I"⟩
abbrev cX4_restore : ByteArray := prog_1_method_18_code
def yX4_restore : MethodName := ⟨RX4, "restore", "(I)I"⟩
abbrev cX4_count : ByteArray := prog_1_method_19_code
def yX4_count : MethodName := ⟨RX4, "count", "(I)I"⟩
abbrev cX4_countHeld : ByteArray := prog_1_method_20_code
def yX4_countHeld : MethodName := ⟨RX4, "countHeld", "()I"⟩
abbrev cX4_countPlain : ByteArray := prog_1_method_21_code
def yX4_countPlain : MethodName := ⟨RX4, "countPlain", "()I"⟩
abbrev cX4_countTrueByRows : ByteArray := prog_1_method_22_code
def yX4_countTrueByRows : MethodName := ⟨RX4, "countTrueByRows", "()I"⟩
abbrev cX4_isPlain : ByteArray := prog_1_method_23_code
def yX4_isPlain : MethodName := ⟨RX4, "isPlain", "(LStrictSentences$Sentence;)Z"⟩
abbrev cX4_putDraft : ByteArray := prog_1_method_24_code
def yX4_putDraft : MethodName := ⟨RX4, "putDraft", "(I)I"⟩
abbrev cX4_isEmpty : ByteArray := prog_1_method_25_code
def yX4_isEmpty : MethodName := ⟨RX4, "isEmpty", "(I)Z"⟩
abbrev cX4_isSlot : ByteArray := prog_1_method_26_code
def yX4_isSlot : MethodName := ⟨RX4, "isSlot", "(I)Z"⟩
abbrev cX4_isImage : ByteArray := prog_1_method_27_code
def yX4_isImage : MethodName := ⟨RX4, "isImage", "(I)Z"⟩
abbrev cX4_has : ByteArray := prog_1_method_28_code
def yX4_has : MethodName := ⟨RX4, "has", "(II)Z"⟩
def RX5 : String := "StrictSentencesModel"
def TX5 : u_T := fun k => match k with
  | 0 => ("StrictSentencesModel", "sizes", "[I", true)
  | 1 => ("StrictSentencesModel", "kinds", "[I", true)
  | 2 => ("StrictSentencesModel", "ones", "[I", true)
  | 3 => ("StrictSentencesModel", "others", "[I", true)
  | 4 => ("StrictSentencesModel", "text", "[I", true)
  | 5 => ("StrictSentencesModel", "signs", "I", false)
  | 6 => ("StrictSentencesModel", "fault", "I", false)
  | 7 => ("StrictSentencesModel", "size", "I", false)
  | 8 => ("StrictSentencesModel", "kind", "[I", true)
  | 9 => ("StrictSentencesModel", "one", "[I", true)
  | 10 => ("StrictSentencesModel", "other", "[I", true)
  | 11 => ("StrictSentencesModel", "open", "[I", true)
  | 12 => ("StrictSentencesModel", "first", "[I", true)
  | 13 => ("StrictSentencesModel", "sort", "[I", true)
  | 14 => ("StrictSentencesModel", "high", "I", false)
  | 15 => ("StrictSentencesModel", "next", "I", false)
  | 16 => ("StrictSentencesModel", "last", "I", false)
  | 17 => ("StrictSentencesModel", "number", "[I", true)
  | 18 => ("StrictSentencesModel", "still", "[I", true)
  | 19 => ("StrictSentencesModel", "lengths", "[I", true)
  | 20 => ("StrictSentencesModel", "worlds", "[I", true)
  | 21 => ("StrictSentencesModel", "isGone", "[Z", true)
  | 22 => ("StrictSentencesModel", "many", "I", false)
  | 23 => ("StrictSentencesModel", "heights", "[I", true)
  | _ => ("StrictSentencesModel", "isKept", "[Z", true)
def tyX5 : Nat → FieldType := fun k => match k with
  | 0 => .array .int
  | 1 => .array .int
  | 2 => .array .int
  | 3 => .array .int
  | 4 => .array .int
  | 5 => .int
  | 6 => .int
  | 7 => .int
  | 8 => .array .int
  | 9 => .array .int
  | 10 => .array .int
  | 11 => .array .int
  | 12 => .array .int
  | 13 => .array .int
  | 14 => .int
  | 15 => .int
  | 16 => .int
  | 17 => .array .int
  | 18 => .array .int
  | 19 => .array .int
  | 20 => .array .int
  | 21 => .array .boolean
  | 22 => .int
  | 23 => .array .int
  | _ => .array .boolean
abbrev wsX50 : List Cond := u_ws RX5 TX5 25
theorem nmX5 : ∀ a, a < 25 → ∀ b, b < 25 → a ≠ b → (TX5 a).2.1 ≠ (TX5 b).2.1 := by decide +kernel
theorem tyX5_ok : ∀ k, k < 25 → parseFieldDescriptor (TX5 k).2.2.1 = some (tyX5 k) := by decide +kernel
abbrev cX5_init : ByteArray := prog_7_method_1_code
def yX5_init : MethodName := ⟨RX5, "<init>", "()V"⟩
abbrev cX5_in : ByteArray := prog_7_method_2_code
def yX5_in : MethodName := ⟨RX5, "in", "(III)Z"⟩
abbrev cX5_isSlot : ByteArray := prog_7_method_3_code
def yX5_isSlot : MethodName := ⟨RX5, "isSlot", "(I)Z"⟩
abbrev cX5_has : ByteArray := prog_7_method_4_code
def yX5_has : MethodName := ⟨RX5, "has", "(II)Z"⟩
abbrev cX5_partOf : ByteArray := prog_7_method_5_code
def yX5_partOf : MethodName := ⟨RX5, "partOf", "(III)I"⟩
abbrev cX5_look : ByteArray := prog_7_method_6_code
def yX5_look : MethodName := ⟨RX5, "look", "(I)V"⟩
abbrev cX5_keep : ByteArray := prog_7_method_7_code
def yX5_keep : MethodName := ⟨RX5, "keep", "(I)I"⟩
abbrev cX5_complete : ByteArray := prog_7_method_8_code
def yX5_complete : MethodName := ⟨RX5, "complete", "(I)V"⟩
abbrev cX5_push : ByteArray := prog_7_method_9_code
def yX5_push : MethodName := ⟨RX5, "push", "(I)V"⟩
abbrev cX5_begins : ByteArray := prog_7_method_10_code
def yX5_begins : MethodName := ⟨RX5, "begins", "(I)Z"⟩
abbrev cX5_reads : ByteArray := prog_7_method_11_code
def yX5_reads : MethodName := ⟨RX5, "reads", "(I)Z"⟩
abbrev cX5_readText : ByteArray := prog_7_method_12_code
def yX5_readText : MethodName := ⟨RX5, "readText", "()I"⟩
abbrev cX5_say : ByteArray := prog_7_method_13_code
def yX5_say : MethodName := ⟨RX5, "say", "(I)I"⟩
abbrev cX5_wipe : ByteArray := prog_7_method_14_code
def yX5_wipe : MethodName := ⟨RX5, "wipe", "()I"⟩
abbrev cX5_read : ByteArray := prog_7_method_15_code
def yX5_read : MethodName := ⟨RX5, "read", "(I)I"⟩
abbrev cX5_fault : ByteArray := prog_7_method_16_code
def yX5_fault : MethodName := ⟨RX5, "fault", "()I"⟩
abbrev cX5_put : ByteArray := prog_7_method_17_code
def yX5_put : MethodName := ⟨RX5, "put", "(III)V"⟩
abbrev cX5_isEmpty : ByteArray := prog_7_method_18_code
def yX5_isEmpty : MethodName := ⟨RX5, "isEmpty", "(I)Z"⟩
abbrev cX5_make : ByteArray := prog_7_method_19_code
def yX5_make : MethodName := ⟨RX5, "make", "(IIII)I"⟩
abbrev cX5_cut : ByteArray := prog_7_method_20_code
def yX5_cut : MethodName := ⟨RX5, "cut", "(II)V"⟩
abbrev cX5_part : ByteArray := prog_7_method_21_code
def yX5_part : MethodName := ⟨RX5, "part", "(III)I"⟩
abbrev cX5_signAt : ByteArray := prog_7_method_22_code
def yX5_signAt : MethodName := ⟨RX5, "signAt", "(I)I"⟩
abbrev cX5_sign : ByteArray := prog_7_method_23_code
def yX5_sign : MethodName := ⟨RX5, "sign", "(II)I"⟩
abbrev cX5_told : ByteArray := prog_7_method_24_code
def yX5_told : MethodName := ⟨RX5, "told", "(III)I"⟩
abbrev cX5_drop : ByteArray := prog_7_method_25_code
def yX5_drop : MethodName := ⟨RX5, "drop", "(I)I"⟩
abbrev cX5_isClosed : ByteArray := prog_7_method_26_code
def yX5_isClosed : MethodName := ⟨RX5, "isClosed", "(I)Z"⟩
abbrev cX5_isNeeded : ByteArray := prog_7_method_27_code
def yX5_isNeeded : MethodName := ⟨RX5, "isNeeded", "(I)Z"⟩
abbrev cX5_layWorlds : ByteArray := prog_7_method_28_code
def yX5_layWorlds : MethodName := ⟨RX5, "layWorlds", "()V"⟩
abbrev cX5_isInAll : ByteArray := prog_7_method_29_code
def yX5_isInAll : MethodName := ⟨RX5, "isInAll", "(II)Z"⟩
abbrev cX5_isPlain : ByteArray := prog_7_method_30_code
def yX5_isPlain : MethodName := ⟨RX5, "isPlain", "(I)Z"⟩
abbrev cX5_plain : ByteArray := prog_7_method_31_code
def yX5_plain : MethodName := ⟨RX5, "plain", "(I)I"⟩
abbrev cX5_isTrue : ByteArray := prog_7_method_32_code
def yX5_isTrue : MethodName := ⟨RX5, "isTrue", "(I)Z"⟩
abbrev cX5_isTrueByRows : ByteArray := prog_7_method_33_code
def yX5_isTrueByRows : MethodName := ⟨RX5, "isTrueByRows", "(I)Z"⟩
abbrev cX5_rows : ByteArray := prog_7_method_34_code
def yX5_rows : MethodName := ⟨RX5, "rows", "(I)I"⟩
abbrev cX5_follows : ByteArray := prog_7_method_35_code
def yX5_follows : MethodName := ⟨RX5, "follows", "(II)I"⟩
abbrev cX5_from : ByteArray := prog_7_method_36_code
def yX5_from : MethodName := ⟨RX5, "from", "(III)I"⟩
abbrev cX5_isAbove : ByteArray := prog_7_method_37_code
def yX5_isAbove : MethodName := ⟨RX5, "isAbove", "(II)Z"⟩
abbrev cX5_layHeights : ByteArray := prog_7_method_38_code
def yX5_layHeights : MethodName := ⟨RX5, "layHeights", "()V"⟩
abbrev cX5_aboveOf : ByteArray := prog_7_method_39_code
def yX5_aboveOf : MethodName := ⟨RX5, "aboveOf", "(I)I"⟩
abbrev cX5_belowOf : ByteArray := prog_7_method_40_code
def yX5_belowOf : MethodName := ⟨RX5, "belowOf", "(I)I"⟩
abbrev cX5_worlds : ByteArray := prog_7_method_41_code
def yX5_worlds : MethodName := ⟨RX5, "worlds", "(II)I"⟩
abbrev cX5_world : ByteArray := prog_7_method_42_code
def yX5_world : MethodName := ⟨RX5, "world", "(III)I"⟩
abbrev cX5_copy : ByteArray := prog_7_method_43_code
def yX5_copy : MethodName := ⟨RX5, "copy", "(II)V"⟩
abbrev cX5_image : ByteArray := prog_7_method_44_code
def yX5_image : MethodName := ⟨RX5, "image", "(I)I"⟩
abbrev cX5_restore : ByteArray := prog_7_method_45_code
def yX5_restore : MethodName := ⟨RX5, "restore", "(I)I"⟩
abbrev cX5_areSame : ByteArray := prog_7_method_46_code
def yX5_areSame : MethodName := ⟨RX5, "areSame", "(II)Z"⟩
abbrev cX5_isFirst : ByteArray := prog_7_method_47_code
def yX5_isFirst : MethodName := ⟨RX5, "isFirst", "(I)Z"⟩
abbrev cX5_counts : ByteArray := prog_7_method_48_code
def yX5_counts : MethodName := ⟨RX5, "counts", "(II)Z"⟩
abbrev cX5_count : ByteArray := prog_7_method_49_code
def yX5_count : MethodName := ⟨RX5, "count", "(I)I"⟩
def RJ11 : String := "java/lang/Character"
def TJ11 : u_T := fun k => match k with
  | _ => ("", "", "", false)
def tyJ11 : Nat → FieldType := fun k => match k with
  | _ => .int
abbrev wsJ110 : List Cond := u_ws RJ11 TJ11 0
theorem nmJ11 : ∀ a, a < 0 → ∀ b, b < 0 → a ≠ b → (TJ11 a).2.1 ≠ (TJ11 b).2.1 := by decide +kernel
theorem tyJ11_ok : ∀ k, k < 0 → parseFieldDescriptor (TJ11 k).2.2.1 = some (tyJ11 k) := by decide +kernel
abbrev cJ11_isValidCodePoint_9a6ad : ByteArray := prog_8_method_11_code
def yJ11_isValidCodePoint_9a6ad : MethodName := ⟨RJ11, "isValidCodePoint", "(I)Z"⟩
abbrev cJ11_highSurrogate_5068e : ByteArray := prog_8_method_28_code
def yJ11_highSurrogate_5068e : MethodName := ⟨RJ11, "highSurrogate", "(I)C"⟩
abbrev cJ11_lowSurrogate_5068e : ByteArray := prog_8_method_29_code
def yJ11_lowSurrogate_5068e : MethodName := ⟨RJ11, "lowSurrogate", "(I)C"⟩
def RJ9 : String := "java/lang/Math"
def TJ9 : u_T := fun k => match k with
  | _ => ("", "", "", false)
def tyJ9 : Nat → FieldType := fun k => match k with
  | _ => .int
abbrev wsJ90 : List Cond := u_ws RJ9 TJ9 0
theorem nmJ9 : ∀ a, a < 0 → ∀ b, b < 0 → a ≠ b → (TJ9 a).2.1 ≠ (TJ9 b).2.1 := by decide +kernel
theorem tyJ9_ok : ∀ k, k < 0 → parseFieldDescriptor (TJ9 k).2.2.1 = some (tyJ9 k) := by decide +kernel
abbrev cJ9_max_7cf53 : ByteArray := prog_9_method_65_code
def yJ9_max_7cf53 : MethodName := ⟨RJ9, "max", "(II)I"⟩
abbrev cJ9_min_7cf53 : ByteArray := prog_9_method_69_code
def yJ9_min_7cf53 : MethodName := ⟨RJ9, "min", "(II)I"⟩
def RJ0 : String := "java/lang/String"
def TJ0 : u_T := fun k => match k with
  | _ => ("", "", "", false)
def tyJ0 : Nat → FieldType := fun k => match k with
  | _ => .int
abbrev wsJ00 : List Cond := u_ws RJ0 TJ0 0
theorem nmJ0 : ∀ a, a < 0 → ∀ b, b < 0 → a ≠ b → (TJ0 a).2.1 ≠ (TJ0 b).2.1 := by decide +kernel
theorem tyJ0_ok : ∀ k, k < 0 → parseFieldDescriptor (TJ0 k).2.2.1 = some (tyJ0 k) := by decide +kernel
abbrev cJ0_length_8abf5 : ByteArray := prog_10_method_54_code
def yJ0_length_8abf5 : MethodName := ⟨RJ0, "length", "()I"⟩
abbrev cJ0_charAt_5068e : ByteArray := prog_10_method_56_code
def yJ0_charAt_5068e : MethodName := ⟨RJ0, "charAt", "(I)C"⟩
abbrev cJ0_indexOf_0f7a4 : ByteArray := prog_10_method_79_code
def yJ0_indexOf_0f7a4 : MethodName := ⟨RJ0, "indexOf", "(I)I"⟩
abbrev cJ0_indexOf_7cf53 : ByteArray := prog_10_method_80_code
def yJ0_indexOf_7cf53 : MethodName := ⟨RJ0, "indexOf", "(II)I"⟩
abbrev cJ0_coder_7d493 : ByteArray := prog_10_method_152_code
def yJ0_coder_7d493 : MethodName := ⟨RJ0, "coder", "()B"⟩
abbrev cJ0_isLatin1_aae02 : ByteArray := prog_10_method_154_code
def yJ0_isLatin1_aae02 : MethodName := ⟨RJ0, "isLatin1", "()Z"⟩
abbrev cJ0_checkIndex_df160 : ByteArray := prog_10_method_155_code
def yJ0_checkIndex_df160 : MethodName := ⟨RJ0, "checkIndex", "(II)V"⟩
abbrev cJ0_checkBoundsBeginEnd_23922 : ByteArray := prog_10_method_158_code
def yJ0_checkBoundsBeginEnd_23922 : MethodName := ⟨RJ0, "checkBoundsBeginEnd", "(III)V"⟩
def RJ1 : String := "java/lang/StringLatin1"
def TJ1 : u_T := fun k => match k with
  | _ => ("", "", "", false)
def tyJ1 : Nat → FieldType := fun k => match k with
  | _ => .int
abbrev wsJ10 : List Cond := u_ws RJ1 TJ1 0
theorem nmJ1 : ∀ a, a < 0 → ∀ b, b < 0 → a ≠ b → (TJ1 a).2.1 ≠ (TJ1 b).2.1 := by decide +kernel
theorem tyJ1_ok : ∀ k, k < 0 → parseFieldDescriptor (TJ1 k).2.2.1 = some (tyJ1 k) := by decide +kernel
abbrev cJ1_charAt_3b067 : ByteArray := prog_11_method_2_code
def yJ1_charAt_3b067 : MethodName := ⟨RJ1, "charAt", "([BI)C"⟩
abbrev cJ1_canEncode_9a6ad : ByteArray := prog_11_method_4_code
def yJ1_canEncode_9a6ad : MethodName := ⟨RJ1, "canEncode", "(I)Z"⟩
abbrev cJ1_indexOf_4cfef : ByteArray := prog_11_method_22_code
def yJ1_indexOf_4cfef : MethodName := ⟨RJ1, "indexOf", "([BIII)I"⟩
abbrev cJ1_indexOfChar_4cfef : ByteArray := prog_11_method_23_code
def yJ1_indexOfChar_4cfef : MethodName := ⟨RJ1, "indexOfChar", "([BIII)I"⟩
def RJ2 : String := "java/lang/StringUTF16"
def TJ2 : u_T := fun k => match k with
  | _ => ("", "", "", false)
def tyJ2 : Nat → FieldType := fun k => match k with
  | _ => .int
abbrev wsJ20 : List Cond := u_ws RJ2 TJ2 0
theorem nmJ2 : ∀ a, a < 0 → ∀ b, b < 0 → a ≠ b → (TJ2 a).2.1 ≠ (TJ2 b).2.1 := by decide +kernel
theorem tyJ2_ok : ∀ k, k < 0 → parseFieldDescriptor (TJ2 k).2.2.1 = some (tyJ2 k) := by decide +kernel
abbrev cJ2_getChar_3b067 : ByteArray := prog_12_method_5_code
def yJ2_getChar_3b067 : MethodName := ⟨RJ2, "getChar", "([BI)C"⟩
abbrev cJ2_length_9d52b : ByteArray := prog_12_method_6_code
def yJ2_length_9d52b : MethodName := ⟨RJ2, "length", "([B)I"⟩
abbrev cJ2_indexOf_4cfef : ByteArray := prog_12_method_40_code
def yJ2_indexOf_4cfef : MethodName := ⟨RJ2, "indexOf", "([BIII)I"⟩
abbrev cJ2_indexOfChar_4cfef : ByteArray := prog_12_method_47_code
def yJ2_indexOfChar_4cfef : MethodName := ⟨RJ2, "indexOfChar", "([BIII)I"⟩
abbrev cJ2_indexOfCharUnsafe_4cfef : ByteArray := prog_12_method_48_code
def yJ2_indexOfCharUnsafe_4cfef : MethodName := ⟨RJ2, "indexOfCharUnsafe", "([BIII)I"⟩
abbrev cJ2_indexOfSupplementary_4cfef : ByteArray := prog_12_method_49_code
def yJ2_indexOfSupplementary_4cfef : MethodName := ⟨RJ2, "indexOfSupplementary", "([BIII)I"⟩
abbrev cJ2_charAt_3b067 : ByteArray := prog_12_method_83_code
def yJ2_charAt_3b067 : MethodName := ⟨RJ2, "charAt", "([BI)C"⟩
abbrev cJ2_checkIndex_2214a : ByteArray := prog_12_method_91_code
def yJ2_checkIndex_2214a : MethodName := ⟨RJ2, "checkIndex", "(I[B)V"⟩
abbrev cJ2_checkBoundsBeginEnd_d044e : ByteArray := prog_12_method_93_code
def yJ2_checkBoundsBeginEnd_d044e : MethodName := ⟨RJ2, "checkBoundsBeginEnd", "(II[B)V"⟩
def RJ10 : String := "java/lang/System"
def TJ10 : u_T := fun k => match k with
  | _ => ("", "", "", false)
def tyJ10 : Nat → FieldType := fun k => match k with
  | _ => .int
abbrev wsJ100 : List Cond := u_ws RJ10 TJ10 0
theorem nmJ10 : ∀ a, a < 0 → ∀ b, b < 0 → a ≠ b → (TJ10 a).2.1 ≠ (TJ10 b).2.1 := by decide +kernel
theorem tyJ10_ok : ∀ k, k < 0 → parseFieldDescriptor (TJ10 k).2.2.1 = some (tyJ10 k) := by decide +kernel
def RJ3 : String := "jdk/internal/util/Preconditions"
def TJ3 : u_T := fun k => match k with
  | _ => ("", "", "", false)
def tyJ3 : Nat → FieldType := fun k => match k with
  | _ => .int
abbrev wsJ30 : List Cond := u_ws RJ3 TJ3 0
theorem nmJ3 : ∀ a, a < 0 → ∀ b, b < 0 → a ≠ b → (TJ3 a).2.1 ≠ (TJ3 b).2.1 := by decide +kernel
theorem tyJ3_ok : ∀ k, k < 0 → parseFieldDescriptor (TJ3 k).2.2.1 = some (tyJ3 k) := by decide +kernel
abbrev cJ3_checkIndex_8e157 : ByteArray := prog_14_method_11_code
def yJ3_checkIndex_8e157 : MethodName := ⟨RJ3, "checkIndex", "(IILjava/util/function/BiFunction;)I"⟩
abbrev cJ3_checkFromToIndex_8c36e : ByteArray := prog_14_method_12_code
def yJ3_checkFromToIndex_8c36e : MethodName := ⟨RJ3, "checkFromToIndex", "(IIILjava/util/function/BiFunction;)I"⟩
def RL : String := "StrictSentencesLaw"
abbrev cL_law : ByteArray := code
def yL_law : MethodName := ⟨RL, "law", "([I)Z"⟩
abbrev vwCl : List vw_C := [(RX0, TX0, 6), (RX1, TX1, 8), (RX2, TX2, 1), (RX3, TX3, 7), (RX4, TX4, 7), (RX5, TX5, 25)]
end
section
theorem dJ11_isValidCodePoint_9a6ad_0 : decode cJ11_isValidCodePoint_9a6ad 0 = .ok (.iload_n 0, 1) := by decide +kernel
theorem dJ11_isValidCodePoint_9a6ad_1 : decode cJ11_isValidCodePoint_9a6ad 1 = .ok (.bipush 16, 2) := by decide +kernel
theorem dJ11_isValidCodePoint_9a6ad_3 : decode cJ11_isValidCodePoint_9a6ad 3 = .ok (.iushr, 1) := by decide +kernel
theorem dJ11_isValidCodePoint_9a6ad_4 : decode cJ11_isValidCodePoint_9a6ad 4 = .ok (.istore_n 1, 1) := by decide +kernel
theorem dJ11_isValidCodePoint_9a6ad_5 : decode cJ11_isValidCodePoint_9a6ad 5 = .ok (.iload_n 1, 1) := by decide +kernel
theorem dJ11_isValidCodePoint_9a6ad_6 : decode cJ11_isValidCodePoint_9a6ad 6 = .ok (.bipush 17, 2) := by decide +kernel
theorem dJ11_isValidCodePoint_9a6ad_8 : decode cJ11_isValidCodePoint_9a6ad 8 = .ok (.if_icmp .ge 7, 3) := by decide +kernel
theorem dJ11_isValidCodePoint_9a6ad_11 : decode cJ11_isValidCodePoint_9a6ad 11 = .ok (.iconst 1, 1) := by decide +kernel
theorem dJ11_isValidCodePoint_9a6ad_12 : decode cJ11_isValidCodePoint_9a6ad 12 = .ok (.goto 4, 3) := by decide +kernel
theorem dJ11_isValidCodePoint_9a6ad_15 : decode cJ11_isValidCodePoint_9a6ad 15 = .ok (.iconst 0, 1) := by decide +kernel
theorem dJ11_isValidCodePoint_9a6ad_16 : decode cJ11_isValidCodePoint_9a6ad 16 = .ok (.ireturn, 1) := by decide +kernel
theorem dJ11_highSurrogate_5068e_0 : decode cJ11_highSurrogate_5068e 0 = .ok (.iload_n 0, 1) := by decide +kernel
theorem dJ11_highSurrogate_5068e_1 : decode cJ11_highSurrogate_5068e 1 = .ok (.bipush 10, 2) := by decide +kernel
theorem dJ11_highSurrogate_5068e_3 : decode cJ11_highSurrogate_5068e 3 = .ok (.iushr, 1) := by decide +kernel
theorem dJ11_highSurrogate_5068e_4 : decode cJ11_highSurrogate_5068e 4 = .ok (.ldc 110, 2) := by decide +kernel
theorem dJ11_highSurrogate_5068e_6 : decode cJ11_highSurrogate_5068e 6 = .ok (.iadd, 1) := by decide +kernel
theorem dJ11_highSurrogate_5068e_7 : decode cJ11_highSurrogate_5068e 7 = .ok (.i2c, 1) := by decide +kernel
theorem dJ11_highSurrogate_5068e_8 : decode cJ11_highSurrogate_5068e 8 = .ok (.ireturn, 1) := by decide +kernel
theorem dJ11_lowSurrogate_5068e_0 : decode cJ11_lowSurrogate_5068e 0 = .ok (.iload_n 0, 1) := by decide +kernel
theorem dJ11_lowSurrogate_5068e_1 : decode cJ11_lowSurrogate_5068e 1 = .ok (.sipush 1023, 3) := by decide +kernel
theorem dJ11_lowSurrogate_5068e_4 : decode cJ11_lowSurrogate_5068e 4 = .ok (.iand, 1) := by decide +kernel
theorem dJ11_lowSurrogate_5068e_5 : decode cJ11_lowSurrogate_5068e 5 = .ok (.ldc 76, 2) := by decide +kernel
theorem dJ11_lowSurrogate_5068e_7 : decode cJ11_lowSurrogate_5068e 7 = .ok (.iadd, 1) := by decide +kernel
theorem dJ11_lowSurrogate_5068e_8 : decode cJ11_lowSurrogate_5068e 8 = .ok (.i2c, 1) := by decide +kernel
theorem dJ11_lowSurrogate_5068e_9 : decode cJ11_lowSurrogate_5068e 9 = .ok (.ireturn, 1) := by decide +kernel
theorem dJ9_max_7cf53_0 : decode cJ9_max_7cf53 0 = .ok (.iload_n 0, 1) := by decide +kernel
theorem dJ9_max_7cf53_1 : decode cJ9_max_7cf53 1 = .ok (.iload_n 1, 1) := by decide +kernel
theorem dJ9_max_7cf53_2 : decode cJ9_max_7cf53 2 = .ok (.if_icmp .lt 7, 3) := by decide +kernel
theorem dJ9_max_7cf53_5 : decode cJ9_max_7cf53 5 = .ok (.iload_n 0, 1) := by decide +kernel
theorem dJ9_max_7cf53_6 : decode cJ9_max_7cf53 6 = .ok (.goto 4, 3) := by decide +kernel
theorem dJ9_max_7cf53_9 : decode cJ9_max_7cf53 9 = .ok (.iload_n 1, 1) := by decide +kernel
theorem dJ9_max_7cf53_10 : decode cJ9_max_7cf53 10 = .ok (.ireturn, 1) := by decide +kernel
theorem dJ9_min_7cf53_0 : decode cJ9_min_7cf53 0 = .ok (.iload_n 0, 1) := by decide +kernel
theorem dJ9_min_7cf53_1 : decode cJ9_min_7cf53 1 = .ok (.iload_n 1, 1) := by decide +kernel
theorem dJ9_min_7cf53_2 : decode cJ9_min_7cf53 2 = .ok (.if_icmp .gt 7, 3) := by decide +kernel
theorem dJ9_min_7cf53_5 : decode cJ9_min_7cf53 5 = .ok (.iload_n 0, 1) := by decide +kernel
theorem dJ9_min_7cf53_6 : decode cJ9_min_7cf53 6 = .ok (.goto 4, 3) := by decide +kernel
theorem dJ9_min_7cf53_9 : decode cJ9_min_7cf53 9 = .ok (.iload_n 1, 1) := by decide +kernel
theorem dJ9_min_7cf53_10 : decode cJ9_min_7cf53 10 = .ok (.ireturn, 1) := by decide +kernel
theorem dJ0_length_8abf5_0 : decode cJ0_length_8abf5 0 = .ok (.aload_n 0, 1) := by decide +kernel
theorem dJ0_length_8abf5_1 : decode cJ0_length_8abf5 1 = .ok (.getfield 9, 3) := by decide +kernel
theorem dJ0_length_8abf5_4 : decode cJ0_length_8abf5 4 = .ok (.arraylength, 1) := by decide +kernel
theorem dJ0_length_8abf5_5 : decode cJ0_length_8abf5 5 = .ok (.aload_n 0, 1) := by decide +kernel
theorem dJ0_length_8abf5_6 : decode cJ0_length_8abf5 6 = .ok (.invokevirtual 335, 3) := by decide +kernel
theorem dJ0_length_8abf5_9 : decode cJ0_length_8abf5 9 = .ok (.ishr, 1) := by decide +kernel
theorem dJ0_length_8abf5_10 : decode cJ0_length_8abf5 10 = .ok (.ireturn, 1) := by decide +kernel
theorem dJ0_charAt_5068e_0 : decode cJ0_charAt_5068e 0 = .ok (.aload_n 0, 1) := by decide +kernel
theorem dJ0_charAt_5068e_1 : decode cJ0_charAt_5068e 1 = .ok (.invokevirtual 492, 3) := by decide +kernel
theorem dJ0_charAt_5068e_4 : decode cJ0_charAt_5068e 4 = .ok (.ifCond .eq 12, 3) := by decide +kernel
theorem dJ0_charAt_5068e_7 : decode cJ0_charAt_5068e 7 = .ok (.aload_n 0, 1) := by decide +kernel
theorem dJ0_charAt_5068e_8 : decode cJ0_charAt_5068e 8 = .ok (.getfield 9, 3) := by decide +kernel
theorem dJ0_charAt_5068e_11 : decode cJ0_charAt_5068e 11 = .ok (.iload_n 1, 1) := by decide +kernel
theorem dJ0_charAt_5068e_12 : decode cJ0_charAt_5068e 12 = .ok (.invokestatic 495, 3) := by decide +kernel
theorem dJ0_charAt_5068e_15 : decode cJ0_charAt_5068e 15 = .ok (.ireturn, 1) := by decide +kernel
theorem dJ0_charAt_5068e_16 : decode cJ0_charAt_5068e 16 = .ok (.aload_n 0, 1) := by decide +kernel
theorem dJ0_charAt_5068e_17 : decode cJ0_charAt_5068e 17 = .ok (.getfield 9, 3) := by decide +kernel
theorem dJ0_charAt_5068e_20 : decode cJ0_charAt_5068e 20 = .ok (.iload_n 1, 1) := by decide +kernel
theorem dJ0_charAt_5068e_21 : decode cJ0_charAt_5068e 21 = .ok (.invokestatic 498, 3) := by decide +kernel
theorem dJ0_charAt_5068e_24 : decode cJ0_charAt_5068e 24 = .ok (.ireturn, 1) := by decide +kernel
theorem dJ0_indexOf_0f7a4_0 : decode cJ0_indexOf_0f7a4 0 = .ok (.aload_n 0, 1) := by decide +kernel
theorem dJ0_indexOf_0f7a4_1 : decode cJ0_indexOf_0f7a4 1 = .ok (.iload_n 1, 1) := by decide +kernel
theorem dJ0_indexOf_0f7a4_2 : decode cJ0_indexOf_0f7a4 2 = .ok (.iconst 0, 1) := by decide +kernel
theorem dJ0_indexOf_0f7a4_3 : decode cJ0_indexOf_0f7a4 3 = .ok (.invokevirtual 633, 3) := by decide +kernel
theorem dJ0_indexOf_0f7a4_6 : decode cJ0_indexOf_0f7a4 6 = .ok (.ireturn, 1) := by decide +kernel
theorem dJ0_indexOf_7cf53_0 : decode cJ0_indexOf_7cf53 0 = .ok (.aload_n 0, 1) := by decide +kernel
theorem dJ0_indexOf_7cf53_1 : decode cJ0_indexOf_7cf53 1 = .ok (.invokevirtual 492, 3) := by decide +kernel
theorem dJ0_indexOf_7cf53_4 : decode cJ0_indexOf_7cf53 4 = .ok (.ifCond .eq 19, 3) := by decide +kernel
theorem dJ0_indexOf_7cf53_7 : decode cJ0_indexOf_7cf53 7 = .ok (.aload_n 0, 1) := by decide +kernel
theorem dJ0_indexOf_7cf53_8 : decode cJ0_indexOf_7cf53 8 = .ok (.getfield 9, 3) := by decide +kernel
theorem dJ0_indexOf_7cf53_11 : decode cJ0_indexOf_7cf53 11 = .ok (.iload_n 1, 1) := by decide +kernel
theorem dJ0_indexOf_7cf53_12 : decode cJ0_indexOf_7cf53 12 = .ok (.iload_n 2, 1) := by decide +kernel
theorem dJ0_indexOf_7cf53_13 : decode cJ0_indexOf_7cf53 13 = .ok (.aload_n 0, 1) := by decide +kernel
theorem dJ0_indexOf_7cf53_14 : decode cJ0_indexOf_7cf53 14 = .ok (.invokevirtual 505, 3) := by decide +kernel
theorem dJ0_indexOf_7cf53_17 : decode cJ0_indexOf_7cf53 17 = .ok (.invokestatic 637, 3) := by decide +kernel
theorem dJ0_indexOf_7cf53_20 : decode cJ0_indexOf_7cf53 20 = .ok (.goto 16, 3) := by decide +kernel
theorem dJ0_indexOf_7cf53_23 : decode cJ0_indexOf_7cf53 23 = .ok (.aload_n 0, 1) := by decide +kernel
theorem dJ0_indexOf_7cf53_24 : decode cJ0_indexOf_7cf53 24 = .ok (.getfield 9, 3) := by decide +kernel
theorem dJ0_indexOf_7cf53_27 : decode cJ0_indexOf_7cf53 27 = .ok (.iload_n 1, 1) := by decide +kernel
theorem dJ0_indexOf_7cf53_28 : decode cJ0_indexOf_7cf53 28 = .ok (.iload_n 2, 1) := by decide +kernel
theorem dJ0_indexOf_7cf53_29 : decode cJ0_indexOf_7cf53 29 = .ok (.aload_n 0, 1) := by decide +kernel
theorem dJ0_indexOf_7cf53_30 : decode cJ0_indexOf_7cf53 30 = .ok (.invokevirtual 505, 3) := by decide +kernel
theorem dJ0_indexOf_7cf53_33 : decode cJ0_indexOf_7cf53 33 = .ok (.invokestatic 640, 3) := by decide +kernel
theorem dJ0_indexOf_7cf53_36 : decode cJ0_indexOf_7cf53 36 = .ok (.ireturn, 1) := by decide +kernel
theorem dJ0_coder_7d493_0 : decode cJ0_coder_7d493 0 = .ok (.getstatic 38, 3) := by decide +kernel
theorem dJ0_coder_7d493_3 : decode cJ0_coder_7d493 3 = .ok (.ifCond .eq 10, 3) := by decide +kernel
theorem dJ0_coder_7d493_6 : decode cJ0_coder_7d493 6 = .ok (.aload_n 0, 1) := by decide +kernel
theorem dJ0_coder_7d493_7 : decode cJ0_coder_7d493 7 = .ok (.getfield 15, 3) := by decide +kernel
theorem dJ0_coder_7d493_10 : decode cJ0_coder_7d493 10 = .ok (.goto 4, 3) := by decide +kernel
theorem dJ0_coder_7d493_13 : decode cJ0_coder_7d493 13 = .ok (.iconst 1, 1) := by decide +kernel
theorem dJ0_coder_7d493_14 : decode cJ0_coder_7d493 14 = .ok (.ireturn, 1) := by decide +kernel
theorem dJ0_isLatin1_aae02_0 : decode cJ0_isLatin1_aae02 0 = .ok (.getstatic 38, 3) := by decide +kernel
theorem dJ0_isLatin1_aae02_3 : decode cJ0_isLatin1_aae02 3 = .ok (.ifCond .eq 14, 3) := by decide +kernel
theorem dJ0_isLatin1_aae02_6 : decode cJ0_isLatin1_aae02 6 = .ok (.aload_n 0, 1) := by decide +kernel
theorem dJ0_isLatin1_aae02_7 : decode cJ0_isLatin1_aae02 7 = .ok (.getfield 15, 3) := by decide +kernel
theorem dJ0_isLatin1_aae02_10 : decode cJ0_isLatin1_aae02 10 = .ok (.ifCond .ne 7, 3) := by decide +kernel
theorem dJ0_isLatin1_aae02_13 : decode cJ0_isLatin1_aae02 13 = .ok (.iconst 1, 1) := by decide +kernel
theorem dJ0_isLatin1_aae02_14 : decode cJ0_isLatin1_aae02 14 = .ok (.goto 4, 3) := by decide +kernel
theorem dJ0_isLatin1_aae02_17 : decode cJ0_isLatin1_aae02 17 = .ok (.iconst 0, 1) := by decide +kernel
theorem dJ0_isLatin1_aae02_18 : decode cJ0_isLatin1_aae02 18 = .ok (.ireturn, 1) := by decide +kernel
theorem dJ0_checkIndex_df160_0 : decode cJ0_checkIndex_df160 0 = .ok (.iload_n 0, 1) := by decide +kernel
theorem dJ0_checkIndex_df160_1 : decode cJ0_checkIndex_df160 1 = .ok (.iload_n 1, 1) := by decide +kernel
theorem dJ0_checkIndex_df160_2 : decode cJ0_checkIndex_df160 2 = .ok (.getstatic 1053, 3) := by decide +kernel
theorem dJ0_checkIndex_df160_5 : decode cJ0_checkIndex_df160 5 = .ok (.invokestatic 1059, 3) := by decide +kernel
theorem dJ0_checkIndex_df160_8 : decode cJ0_checkIndex_df160 8 = .ok (.pop, 1) := by decide +kernel
theorem dJ0_checkIndex_df160_9 : decode cJ0_checkIndex_df160 9 = .ok (.return_, 1) := by decide +kernel
theorem dJ0_checkBoundsBeginEnd_23922_0 : decode cJ0_checkBoundsBeginEnd_23922 0 = .ok (.iload_n 0, 1) := by decide +kernel
theorem dJ0_checkBoundsBeginEnd_23922_1 : decode cJ0_checkBoundsBeginEnd_23922 1 = .ok (.iload_n 1, 1) := by decide +kernel
theorem dJ0_checkBoundsBeginEnd_23922_2 : decode cJ0_checkBoundsBeginEnd_23922 2 = .ok (.iload_n 2, 1) := by decide +kernel
theorem dJ0_checkBoundsBeginEnd_23922_3 : decode cJ0_checkBoundsBeginEnd_23922 3 = .ok (.getstatic 1053, 3) := by decide +kernel
theorem dJ0_checkBoundsBeginEnd_23922_6 : decode cJ0_checkBoundsBeginEnd_23922 6 = .ok (.invokestatic 1062, 3) := by decide +kernel
theorem dJ0_checkBoundsBeginEnd_23922_9 : decode cJ0_checkBoundsBeginEnd_23922 9 = .ok (.pop, 1) := by decide +kernel
theorem dJ0_checkBoundsBeginEnd_23922_10 : decode cJ0_checkBoundsBeginEnd_23922 10 = .ok (.return_, 1) := by decide +kernel
theorem dJ1_charAt_3b067_0 : decode cJ1_charAt_3b067 0 = .ok (.iload_n 1, 1) := by decide +kernel
theorem dJ1_charAt_3b067_1 : decode cJ1_charAt_3b067 1 = .ok (.aload_n 0, 1) := by decide +kernel
theorem dJ1_charAt_3b067_2 : decode cJ1_charAt_3b067 2 = .ok (.arraylength, 1) := by decide +kernel
theorem dJ1_charAt_3b067_3 : decode cJ1_charAt_3b067 3 = .ok (.invokestatic 9, 3) := by decide +kernel
theorem dJ1_charAt_3b067_6 : decode cJ1_charAt_3b067 6 = .ok (.aload_n 0, 1) := by decide +kernel
theorem dJ1_charAt_3b067_7 : decode cJ1_charAt_3b067 7 = .ok (.iload_n 1, 1) := by decide +kernel
theorem dJ1_charAt_3b067_8 : decode cJ1_charAt_3b067 8 = .ok (.baload, 1) := by decide +kernel
theorem dJ1_charAt_3b067_9 : decode cJ1_charAt_3b067 9 = .ok (.sipush 255, 3) := by decide +kernel
theorem dJ1_charAt_3b067_12 : decode cJ1_charAt_3b067 12 = .ok (.iand, 1) := by decide +kernel
theorem dJ1_charAt_3b067_13 : decode cJ1_charAt_3b067 13 = .ok (.i2c, 1) := by decide +kernel
theorem dJ1_charAt_3b067_14 : decode cJ1_charAt_3b067 14 = .ok (.ireturn, 1) := by decide +kernel
theorem dJ1_canEncode_9a6ad_0 : decode cJ1_canEncode_9a6ad 0 = .ok (.iload_n 0, 1) := by decide +kernel
theorem dJ1_canEncode_9a6ad_1 : decode cJ1_canEncode_9a6ad 1 = .ok (.ifCond .lt 14, 3) := by decide +kernel
theorem dJ1_canEncode_9a6ad_4 : decode cJ1_canEncode_9a6ad 4 = .ok (.iload_n 0, 1) := by decide +kernel
theorem dJ1_canEncode_9a6ad_5 : decode cJ1_canEncode_9a6ad 5 = .ok (.sipush 255, 3) := by decide +kernel
theorem dJ1_canEncode_9a6ad_8 : decode cJ1_canEncode_9a6ad 8 = .ok (.if_icmp .gt 7, 3) := by decide +kernel
theorem dJ1_canEncode_9a6ad_11 : decode cJ1_canEncode_9a6ad 11 = .ok (.iconst 1, 1) := by decide +kernel
theorem dJ1_canEncode_9a6ad_12 : decode cJ1_canEncode_9a6ad 12 = .ok (.goto 4, 3) := by decide +kernel
theorem dJ1_canEncode_9a6ad_15 : decode cJ1_canEncode_9a6ad 15 = .ok (.iconst 0, 1) := by decide +kernel
theorem dJ1_canEncode_9a6ad_16 : decode cJ1_canEncode_9a6ad 16 = .ok (.ireturn, 1) := by decide +kernel
theorem dJ1_indexOf_4cfef_0 : decode cJ1_indexOf_4cfef 0 = .ok (.iload_n 1, 1) := by decide +kernel
theorem dJ1_indexOf_4cfef_1 : decode cJ1_indexOf_4cfef 1 = .ok (.invokestatic 88, 3) := by decide +kernel
theorem dJ1_indexOf_4cfef_4 : decode cJ1_indexOf_4cfef 4 = .ok (.ifCond .ne 5, 3) := by decide +kernel
theorem dJ1_indexOf_4cfef_7 : decode cJ1_indexOf_4cfef 7 = .ok (.iconst (-1), 1) := by decide +kernel
theorem dJ1_indexOf_4cfef_8 : decode cJ1_indexOf_4cfef 8 = .ok (.ireturn, 1) := by decide +kernel
theorem dJ1_indexOf_4cfef_9 : decode cJ1_indexOf_4cfef 9 = .ok (.iload_n 2, 1) := by decide +kernel
theorem dJ1_indexOf_4cfef_10 : decode cJ1_indexOf_4cfef 10 = .ok (.iconst 0, 1) := by decide +kernel
theorem dJ1_indexOf_4cfef_11 : decode cJ1_indexOf_4cfef 11 = .ok (.invokestatic 92, 3) := by decide +kernel
theorem dJ1_indexOf_4cfef_14 : decode cJ1_indexOf_4cfef 14 = .ok (.istore_n 2, 1) := by decide +kernel
theorem dJ1_indexOf_4cfef_15 : decode cJ1_indexOf_4cfef 15 = .ok (.iload_n 3, 1) := by decide +kernel
theorem dJ1_indexOf_4cfef_16 : decode cJ1_indexOf_4cfef 16 = .ok (.aload_n 0, 1) := by decide +kernel
theorem dJ1_indexOf_4cfef_17 : decode cJ1_indexOf_4cfef 17 = .ok (.arraylength, 1) := by decide +kernel
theorem dJ1_indexOf_4cfef_18 : decode cJ1_indexOf_4cfef 18 = .ok (.invokestatic 38, 3) := by decide +kernel
theorem dJ1_indexOf_4cfef_21 : decode cJ1_indexOf_4cfef 21 = .ok (.istore_n 3, 1) := by decide +kernel
theorem dJ1_indexOf_4cfef_22 : decode cJ1_indexOf_4cfef 22 = .ok (.iload_n 2, 1) := by decide +kernel
theorem dJ1_indexOf_4cfef_23 : decode cJ1_indexOf_4cfef 23 = .ok (.iload_n 3, 1) := by decide +kernel
theorem dJ1_indexOf_4cfef_24 : decode cJ1_indexOf_4cfef 24 = .ok (.if_icmp .lt 5, 3) := by decide +kernel
theorem dJ1_indexOf_4cfef_27 : decode cJ1_indexOf_4cfef 27 = .ok (.iconst (-1), 1) := by decide +kernel
theorem dJ1_indexOf_4cfef_28 : decode cJ1_indexOf_4cfef 28 = .ok (.ireturn, 1) := by decide +kernel
theorem dJ1_indexOf_4cfef_29 : decode cJ1_indexOf_4cfef 29 = .ok (.aload_n 0, 1) := by decide +kernel
theorem dJ1_indexOf_4cfef_30 : decode cJ1_indexOf_4cfef 30 = .ok (.iload_n 1, 1) := by decide +kernel
theorem dJ1_indexOf_4cfef_31 : decode cJ1_indexOf_4cfef 31 = .ok (.iload_n 2, 1) := by decide +kernel
theorem dJ1_indexOf_4cfef_32 : decode cJ1_indexOf_4cfef 32 = .ok (.iload_n 3, 1) := by decide +kernel
theorem dJ1_indexOf_4cfef_33 : decode cJ1_indexOf_4cfef 33 = .ok (.invokestatic 95, 3) := by decide +kernel
theorem dJ1_indexOf_4cfef_36 : decode cJ1_indexOf_4cfef 36 = .ok (.ireturn, 1) := by decide +kernel
theorem dJ1_indexOfChar_4cfef_0 : decode cJ1_indexOfChar_4cfef 0 = .ok (.iload_n 1, 1) := by decide +kernel
theorem dJ1_indexOfChar_4cfef_1 : decode cJ1_indexOfChar_4cfef 1 = .ok (.i2b, 1) := by decide +kernel
theorem dJ1_indexOfChar_4cfef_2 : decode cJ1_indexOfChar_4cfef 2 = .ok (.istore 4, 2) := by decide +kernel
theorem dJ1_indexOfChar_4cfef_4 : decode cJ1_indexOfChar_4cfef 4 = .ok (.iload_n 2, 1) := by decide +kernel
theorem dJ1_indexOfChar_4cfef_5 : decode cJ1_indexOfChar_4cfef 5 = .ok (.istore 5, 2) := by decide +kernel
theorem dJ1_indexOfChar_4cfef_7 : decode cJ1_indexOfChar_4cfef 7 = .ok (.iload 5, 2) := by decide +kernel
theorem dJ1_indexOfChar_4cfef_9 : decode cJ1_indexOfChar_4cfef 9 = .ok (.iload_n 3, 1) := by decide +kernel
theorem dJ1_indexOfChar_4cfef_10 : decode cJ1_indexOfChar_4cfef 10 = .ok (.if_icmp .ge 21, 3) := by decide +kernel
theorem dJ1_indexOfChar_4cfef_13 : decode cJ1_indexOfChar_4cfef 13 = .ok (.aload_n 0, 1) := by decide +kernel
theorem dJ1_indexOfChar_4cfef_14 : decode cJ1_indexOfChar_4cfef 14 = .ok (.iload 5, 2) := by decide +kernel
theorem dJ1_indexOfChar_4cfef_16 : decode cJ1_indexOfChar_4cfef 16 = .ok (.baload, 1) := by decide +kernel
theorem dJ1_indexOfChar_4cfef_17 : decode cJ1_indexOfChar_4cfef 17 = .ok (.iload 4, 2) := by decide +kernel
theorem dJ1_indexOfChar_4cfef_19 : decode cJ1_indexOfChar_4cfef 19 = .ok (.if_icmp .ne 6, 3) := by decide +kernel
theorem dJ1_indexOfChar_4cfef_22 : decode cJ1_indexOfChar_4cfef 22 = .ok (.iload 5, 2) := by decide +kernel
theorem dJ1_indexOfChar_4cfef_24 : decode cJ1_indexOfChar_4cfef 24 = .ok (.ireturn, 1) := by decide +kernel
theorem dJ1_indexOfChar_4cfef_25 : decode cJ1_indexOfChar_4cfef 25 = .ok (.iinc 5 1, 3) := by decide +kernel
theorem dJ1_indexOfChar_4cfef_28 : decode cJ1_indexOfChar_4cfef 28 = .ok (.goto (-21), 3) := by decide +kernel
theorem dJ1_indexOfChar_4cfef_31 : decode cJ1_indexOfChar_4cfef 31 = .ok (.iconst (-1), 1) := by decide +kernel
theorem dJ1_indexOfChar_4cfef_32 : decode cJ1_indexOfChar_4cfef 32 = .ok (.ireturn, 1) := by decide +kernel
theorem dJ2_getChar_3b067_0 : decode cJ2_getChar_3b067 0 = .ok (.getstatic 44, 3) := by decide +kernel
theorem dJ2_getChar_3b067_3 : decode cJ2_getChar_3b067 3 = .ok (.ifCond .ne 25, 3) := by decide +kernel
theorem dJ2_getChar_3b067_6 : decode cJ2_getChar_3b067 6 = .ok (.iload_n 1, 1) := by decide +kernel
theorem dJ2_getChar_3b067_7 : decode cJ2_getChar_3b067 7 = .ok (.ifCond .lt 11, 3) := by decide +kernel
theorem dJ2_getChar_3b067_10 : decode cJ2_getChar_3b067 10 = .ok (.iload_n 1, 1) := by decide +kernel
theorem dJ2_getChar_3b067_11 : decode cJ2_getChar_3b067 11 = .ok (.aload_n 0, 1) := by decide +kernel
theorem dJ2_getChar_3b067_12 : decode cJ2_getChar_3b067 12 = .ok (.invokestatic 48, 3) := by decide +kernel
theorem dJ2_getChar_3b067_15 : decode cJ2_getChar_3b067 15 = .ok (.if_icmp .lt 13, 3) := by decide +kernel
theorem dJ2_getChar_3b067_18 : decode cJ2_getChar_3b067 18 = .ok (.new 52, 3) := by decide +kernel
theorem dJ2_getChar_3b067_21 : decode cJ2_getChar_3b067 21 = .ok (.dup, 1) := by decide +kernel
theorem dJ2_getChar_3b067_22 : decode cJ2_getChar_3b067 22 = .ok (.ldc 54, 2) := by decide +kernel
theorem dJ2_getChar_3b067_24 : decode cJ2_getChar_3b067 24 = .ok (.invokespecial 56, 3) := by decide +kernel
theorem dJ2_getChar_3b067_27 : decode cJ2_getChar_3b067 27 = .ok (.athrow, 1) := by decide +kernel
theorem dJ2_getChar_3b067_28 : decode cJ2_getChar_3b067 28 = .ok (.iload_n 1, 1) := by decide +kernel
theorem dJ2_getChar_3b067_29 : decode cJ2_getChar_3b067 29 = .ok (.iconst 1, 1) := by decide +kernel
theorem dJ2_getChar_3b067_30 : decode cJ2_getChar_3b067 30 = .ok (.ishl, 1) := by decide +kernel
theorem dJ2_getChar_3b067_31 : decode cJ2_getChar_3b067 31 = .ok (.istore_n 1, 1) := by decide +kernel
theorem dJ2_getChar_3b067_32 : decode cJ2_getChar_3b067 32 = .ok (.aload_n 0, 1) := by decide +kernel
theorem dJ2_getChar_3b067_33 : decode cJ2_getChar_3b067 33 = .ok (.iload_n 1, 1) := by decide +kernel
theorem dJ2_getChar_3b067_34 : decode cJ2_getChar_3b067 34 = .ok (.iinc 1 1, 3) := by decide +kernel
theorem dJ2_getChar_3b067_37 : decode cJ2_getChar_3b067 37 = .ok (.baload, 1) := by decide +kernel
theorem dJ2_getChar_3b067_38 : decode cJ2_getChar_3b067 38 = .ok (.sipush 255, 3) := by decide +kernel
theorem dJ2_getChar_3b067_41 : decode cJ2_getChar_3b067 41 = .ok (.iand, 1) := by decide +kernel
theorem dJ2_getChar_3b067_42 : decode cJ2_getChar_3b067 42 = .ok (.getstatic 59, 3) := by decide +kernel
theorem dJ2_getChar_3b067_45 : decode cJ2_getChar_3b067 45 = .ok (.ishl, 1) := by decide +kernel
theorem dJ2_getChar_3b067_46 : decode cJ2_getChar_3b067 46 = .ok (.aload_n 0, 1) := by decide +kernel
theorem dJ2_getChar_3b067_47 : decode cJ2_getChar_3b067 47 = .ok (.iload_n 1, 1) := by decide +kernel
theorem dJ2_getChar_3b067_48 : decode cJ2_getChar_3b067 48 = .ok (.baload, 1) := by decide +kernel
theorem dJ2_getChar_3b067_49 : decode cJ2_getChar_3b067 49 = .ok (.sipush 255, 3) := by decide +kernel
theorem dJ2_getChar_3b067_52 : decode cJ2_getChar_3b067 52 = .ok (.iand, 1) := by decide +kernel
theorem dJ2_getChar_3b067_53 : decode cJ2_getChar_3b067 53 = .ok (.getstatic 63, 3) := by decide +kernel
theorem dJ2_getChar_3b067_56 : decode cJ2_getChar_3b067 56 = .ok (.ishl, 1) := by decide +kernel
theorem dJ2_getChar_3b067_57 : decode cJ2_getChar_3b067 57 = .ok (.ior, 1) := by decide +kernel
theorem dJ2_getChar_3b067_58 : decode cJ2_getChar_3b067 58 = .ok (.i2c, 1) := by decide +kernel
theorem dJ2_getChar_3b067_59 : decode cJ2_getChar_3b067 59 = .ok (.ireturn, 1) := by decide +kernel
theorem dJ2_length_9d52b_0 : decode cJ2_length_9d52b 0 = .ok (.aload_n 0, 1) := by decide +kernel
theorem dJ2_length_9d52b_1 : decode cJ2_length_9d52b 1 = .ok (.arraylength, 1) := by decide +kernel
theorem dJ2_length_9d52b_2 : decode cJ2_length_9d52b 2 = .ok (.iconst 1, 1) := by decide +kernel
theorem dJ2_length_9d52b_3 : decode cJ2_length_9d52b 3 = .ok (.ishr, 1) := by decide +kernel
theorem dJ2_length_9d52b_4 : decode cJ2_length_9d52b 4 = .ok (.ireturn, 1) := by decide +kernel
theorem dJ2_indexOf_4cfef_0 : decode cJ2_indexOf_4cfef 0 = .ok (.iload_n 2, 1) := by decide +kernel
theorem dJ2_indexOf_4cfef_1 : decode cJ2_indexOf_4cfef 1 = .ok (.iconst 0, 1) := by decide +kernel
theorem dJ2_indexOf_4cfef_2 : decode cJ2_indexOf_4cfef 2 = .ok (.invokestatic 224, 3) := by decide +kernel
theorem dJ2_indexOf_4cfef_5 : decode cJ2_indexOf_4cfef 5 = .ok (.istore_n 2, 1) := by decide +kernel
theorem dJ2_indexOf_4cfef_6 : decode cJ2_indexOf_4cfef 6 = .ok (.iload_n 3, 1) := by decide +kernel
theorem dJ2_indexOf_4cfef_7 : decode cJ2_indexOf_4cfef 7 = .ok (.aload_n 0, 1) := by decide +kernel
theorem dJ2_indexOf_4cfef_8 : decode cJ2_indexOf_4cfef 8 = .ok (.arraylength, 1) := by decide +kernel
theorem dJ2_indexOf_4cfef_9 : decode cJ2_indexOf_4cfef 9 = .ok (.iconst 1, 1) := by decide +kernel
theorem dJ2_indexOf_4cfef_10 : decode cJ2_indexOf_4cfef 10 = .ok (.ishr, 1) := by decide +kernel
theorem dJ2_indexOf_4cfef_11 : decode cJ2_indexOf_4cfef 11 = .ok (.invokestatic 183, 3) := by decide +kernel
theorem dJ2_indexOf_4cfef_14 : decode cJ2_indexOf_4cfef 14 = .ok (.istore_n 3, 1) := by decide +kernel
theorem dJ2_indexOf_4cfef_15 : decode cJ2_indexOf_4cfef 15 = .ok (.iload_n 2, 1) := by decide +kernel
theorem dJ2_indexOf_4cfef_16 : decode cJ2_indexOf_4cfef 16 = .ok (.iload_n 3, 1) := by decide +kernel
theorem dJ2_indexOf_4cfef_17 : decode cJ2_indexOf_4cfef 17 = .ok (.if_icmp .lt 5, 3) := by decide +kernel
theorem dJ2_indexOf_4cfef_20 : decode cJ2_indexOf_4cfef 20 = .ok (.iconst (-1), 1) := by decide +kernel
theorem dJ2_indexOf_4cfef_21 : decode cJ2_indexOf_4cfef 21 = .ok (.ireturn, 1) := by decide +kernel
theorem dJ2_indexOf_4cfef_22 : decode cJ2_indexOf_4cfef 22 = .ok (.iload_n 1, 1) := by decide +kernel
theorem dJ2_indexOf_4cfef_23 : decode cJ2_indexOf_4cfef 23 = .ok (.ldc 227, 2) := by decide +kernel
theorem dJ2_indexOf_4cfef_25 : decode cJ2_indexOf_4cfef 25 = .ok (.if_icmp .ge 11, 3) := by decide +kernel
theorem dJ2_indexOf_4cfef_28 : decode cJ2_indexOf_4cfef 28 = .ok (.aload_n 0, 1) := by decide +kernel
theorem dJ2_indexOf_4cfef_29 : decode cJ2_indexOf_4cfef 29 = .ok (.iload_n 1, 1) := by decide +kernel
theorem dJ2_indexOf_4cfef_30 : decode cJ2_indexOf_4cfef 30 = .ok (.iload_n 2, 1) := by decide +kernel
theorem dJ2_indexOf_4cfef_31 : decode cJ2_indexOf_4cfef 31 = .ok (.iload_n 3, 1) := by decide +kernel
theorem dJ2_indexOf_4cfef_32 : decode cJ2_indexOf_4cfef 32 = .ok (.invokestatic 228, 3) := by decide +kernel
theorem dJ2_indexOf_4cfef_35 : decode cJ2_indexOf_4cfef 35 = .ok (.ireturn, 1) := by decide +kernel
theorem dJ2_indexOf_4cfef_36 : decode cJ2_indexOf_4cfef 36 = .ok (.aload_n 0, 1) := by decide +kernel
theorem dJ2_indexOf_4cfef_37 : decode cJ2_indexOf_4cfef 37 = .ok (.iload_n 1, 1) := by decide +kernel
theorem dJ2_indexOf_4cfef_38 : decode cJ2_indexOf_4cfef 38 = .ok (.iload_n 2, 1) := by decide +kernel
theorem dJ2_indexOf_4cfef_39 : decode cJ2_indexOf_4cfef 39 = .ok (.iload_n 3, 1) := by decide +kernel
theorem dJ2_indexOf_4cfef_40 : decode cJ2_indexOf_4cfef 40 = .ok (.invokestatic 232, 3) := by decide +kernel
theorem dJ2_indexOf_4cfef_43 : decode cJ2_indexOf_4cfef 43 = .ok (.ireturn, 1) := by decide +kernel
theorem dJ2_indexOfChar_4cfef_0 : decode cJ2_indexOfChar_4cfef 0 = .ok (.iload_n 2, 1) := by decide +kernel
theorem dJ2_indexOfChar_4cfef_1 : decode cJ2_indexOfChar_4cfef 1 = .ok (.iload_n 3, 1) := by decide +kernel
theorem dJ2_indexOfChar_4cfef_2 : decode cJ2_indexOfChar_4cfef 2 = .ok (.aload_n 0, 1) := by decide +kernel
theorem dJ2_indexOfChar_4cfef_3 : decode cJ2_indexOfChar_4cfef 3 = .ok (.invokestatic 96, 3) := by decide +kernel
theorem dJ2_indexOfChar_4cfef_6 : decode cJ2_indexOfChar_4cfef 6 = .ok (.aload_n 0, 1) := by decide +kernel
theorem dJ2_indexOfChar_4cfef_7 : decode cJ2_indexOfChar_4cfef 7 = .ok (.iload_n 1, 1) := by decide +kernel
theorem dJ2_indexOfChar_4cfef_8 : decode cJ2_indexOfChar_4cfef 8 = .ok (.iload_n 2, 1) := by decide +kernel
theorem dJ2_indexOfChar_4cfef_9 : decode cJ2_indexOfChar_4cfef 9 = .ok (.iload_n 3, 1) := by decide +kernel
theorem dJ2_indexOfChar_4cfef_10 : decode cJ2_indexOfChar_4cfef 10 = .ok (.invokestatic 244, 3) := by decide +kernel
theorem dJ2_indexOfChar_4cfef_13 : decode cJ2_indexOfChar_4cfef 13 = .ok (.ireturn, 1) := by decide +kernel
theorem dJ2_indexOfCharUnsafe_4cfef_0 : decode cJ2_indexOfCharUnsafe_4cfef 0 = .ok (.iload_n 2, 1) := by decide +kernel
theorem dJ2_indexOfCharUnsafe_4cfef_1 : decode cJ2_indexOfCharUnsafe_4cfef 1 = .ok (.istore 4, 2) := by decide +kernel
theorem dJ2_indexOfCharUnsafe_4cfef_3 : decode cJ2_indexOfCharUnsafe_4cfef 3 = .ok (.iload 4, 2) := by decide +kernel
theorem dJ2_indexOfCharUnsafe_4cfef_5 : decode cJ2_indexOfCharUnsafe_4cfef 5 = .ok (.iload_n 3, 1) := by decide +kernel
theorem dJ2_indexOfCharUnsafe_4cfef_6 : decode cJ2_indexOfCharUnsafe_4cfef 6 = .ok (.if_icmp .ge 22, 3) := by decide +kernel
theorem dJ2_indexOfCharUnsafe_4cfef_9 : decode cJ2_indexOfCharUnsafe_4cfef 9 = .ok (.aload_n 0, 1) := by decide +kernel
theorem dJ2_indexOfCharUnsafe_4cfef_10 : decode cJ2_indexOfCharUnsafe_4cfef 10 = .ok (.iload 4, 2) := by decide +kernel
theorem dJ2_indexOfCharUnsafe_4cfef_12 : decode cJ2_indexOfCharUnsafe_4cfef 12 = .ok (.invokestatic 71, 3) := by decide +kernel
theorem dJ2_indexOfCharUnsafe_4cfef_15 : decode cJ2_indexOfCharUnsafe_4cfef 15 = .ok (.iload_n 1, 1) := by decide +kernel
theorem dJ2_indexOfCharUnsafe_4cfef_16 : decode cJ2_indexOfCharUnsafe_4cfef 16 = .ok (.if_icmp .ne 6, 3) := by decide +kernel
theorem dJ2_indexOfCharUnsafe_4cfef_19 : decode cJ2_indexOfCharUnsafe_4cfef 19 = .ok (.iload 4, 2) := by decide +kernel
theorem dJ2_indexOfCharUnsafe_4cfef_21 : decode cJ2_indexOfCharUnsafe_4cfef 21 = .ok (.ireturn, 1) := by decide +kernel
theorem dJ2_indexOfCharUnsafe_4cfef_22 : decode cJ2_indexOfCharUnsafe_4cfef 22 = .ok (.iinc 4 1, 3) := by decide +kernel
theorem dJ2_indexOfCharUnsafe_4cfef_25 : decode cJ2_indexOfCharUnsafe_4cfef 25 = .ok (.goto (-22), 3) := by decide +kernel
theorem dJ2_indexOfCharUnsafe_4cfef_28 : decode cJ2_indexOfCharUnsafe_4cfef 28 = .ok (.iconst (-1), 1) := by decide +kernel
theorem dJ2_indexOfCharUnsafe_4cfef_29 : decode cJ2_indexOfCharUnsafe_4cfef 29 = .ok (.ireturn, 1) := by decide +kernel
theorem dJ2_indexOfSupplementary_4cfef_0 : decode cJ2_indexOfSupplementary_4cfef 0 = .ok (.iload_n 1, 1) := by decide +kernel
theorem dJ2_indexOfSupplementary_4cfef_1 : decode cJ2_indexOfSupplementary_4cfef 1 = .ok (.invokestatic 164, 3) := by decide +kernel
theorem dJ2_indexOfSupplementary_4cfef_4 : decode cJ2_indexOfSupplementary_4cfef 4 = .ok (.ifCond .eq 65, 3) := by decide +kernel
theorem dJ2_indexOfSupplementary_4cfef_7 : decode cJ2_indexOfSupplementary_4cfef 7 = .ok (.iload_n 1, 1) := by decide +kernel
theorem dJ2_indexOfSupplementary_4cfef_8 : decode cJ2_indexOfSupplementary_4cfef 8 = .ok (.invokestatic 157, 3) := by decide +kernel
theorem dJ2_indexOfSupplementary_4cfef_11 : decode cJ2_indexOfSupplementary_4cfef 11 = .ok (.istore 4, 2) := by decide +kernel
theorem dJ2_indexOfSupplementary_4cfef_13 : decode cJ2_indexOfSupplementary_4cfef 13 = .ok (.iload_n 1, 1) := by decide +kernel
theorem dJ2_indexOfSupplementary_4cfef_14 : decode cJ2_indexOfSupplementary_4cfef 14 = .ok (.invokestatic 161, 3) := by decide +kernel
theorem dJ2_indexOfSupplementary_4cfef_17 : decode cJ2_indexOfSupplementary_4cfef 17 = .ok (.istore 5, 2) := by decide +kernel
theorem dJ2_indexOfSupplementary_4cfef_19 : decode cJ2_indexOfSupplementary_4cfef 19 = .ok (.iload_n 2, 1) := by decide +kernel
theorem dJ2_indexOfSupplementary_4cfef_20 : decode cJ2_indexOfSupplementary_4cfef 20 = .ok (.iload_n 3, 1) := by decide +kernel
theorem dJ2_indexOfSupplementary_4cfef_21 : decode cJ2_indexOfSupplementary_4cfef 21 = .ok (.aload_n 0, 1) := by decide +kernel
theorem dJ2_indexOfSupplementary_4cfef_22 : decode cJ2_indexOfSupplementary_4cfef 22 = .ok (.invokestatic 96, 3) := by decide +kernel
theorem dJ2_indexOfSupplementary_4cfef_25 : decode cJ2_indexOfSupplementary_4cfef 25 = .ok (.iload_n 2, 1) := by decide +kernel
theorem dJ2_indexOfSupplementary_4cfef_26 : decode cJ2_indexOfSupplementary_4cfef 26 = .ok (.istore 6, 2) := by decide +kernel
theorem dJ2_indexOfSupplementary_4cfef_28 : decode cJ2_indexOfSupplementary_4cfef 28 = .ok (.iload 6, 2) := by decide +kernel
theorem dJ2_indexOfSupplementary_4cfef_30 : decode cJ2_indexOfSupplementary_4cfef 30 = .ok (.iload_n 3, 1) := by decide +kernel
theorem dJ2_indexOfSupplementary_4cfef_31 : decode cJ2_indexOfSupplementary_4cfef 31 = .ok (.iconst 1, 1) := by decide +kernel
theorem dJ2_indexOfSupplementary_4cfef_32 : decode cJ2_indexOfSupplementary_4cfef 32 = .ok (.isub, 1) := by decide +kernel
theorem dJ2_indexOfSupplementary_4cfef_33 : decode cJ2_indexOfSupplementary_4cfef 33 = .ok (.if_icmp .ge 36, 3) := by decide +kernel
theorem dJ2_indexOfSupplementary_4cfef_36 : decode cJ2_indexOfSupplementary_4cfef 36 = .ok (.aload_n 0, 1) := by decide +kernel
theorem dJ2_indexOfSupplementary_4cfef_37 : decode cJ2_indexOfSupplementary_4cfef 37 = .ok (.iload 6, 2) := by decide +kernel
theorem dJ2_indexOfSupplementary_4cfef_39 : decode cJ2_indexOfSupplementary_4cfef 39 = .ok (.invokestatic 71, 3) := by decide +kernel
theorem dJ2_indexOfSupplementary_4cfef_42 : decode cJ2_indexOfSupplementary_4cfef 42 = .ok (.iload 4, 2) := by decide +kernel
theorem dJ2_indexOfSupplementary_4cfef_44 : decode cJ2_indexOfSupplementary_4cfef 44 = .ok (.if_icmp .ne 19, 3) := by decide +kernel
theorem dJ2_indexOfSupplementary_4cfef_47 : decode cJ2_indexOfSupplementary_4cfef 47 = .ok (.aload_n 0, 1) := by decide +kernel
theorem dJ2_indexOfSupplementary_4cfef_48 : decode cJ2_indexOfSupplementary_4cfef 48 = .ok (.iload 6, 2) := by decide +kernel
theorem dJ2_indexOfSupplementary_4cfef_50 : decode cJ2_indexOfSupplementary_4cfef 50 = .ok (.iconst 1, 1) := by decide +kernel
theorem dJ2_indexOfSupplementary_4cfef_51 : decode cJ2_indexOfSupplementary_4cfef 51 = .ok (.iadd, 1) := by decide +kernel
theorem dJ2_indexOfSupplementary_4cfef_52 : decode cJ2_indexOfSupplementary_4cfef 52 = .ok (.invokestatic 71, 3) := by decide +kernel
theorem dJ2_indexOfSupplementary_4cfef_55 : decode cJ2_indexOfSupplementary_4cfef 55 = .ok (.iload 5, 2) := by decide +kernel
theorem dJ2_indexOfSupplementary_4cfef_57 : decode cJ2_indexOfSupplementary_4cfef 57 = .ok (.if_icmp .ne 6, 3) := by decide +kernel
theorem dJ2_indexOfSupplementary_4cfef_60 : decode cJ2_indexOfSupplementary_4cfef 60 = .ok (.iload 6, 2) := by decide +kernel
theorem dJ2_indexOfSupplementary_4cfef_62 : decode cJ2_indexOfSupplementary_4cfef 62 = .ok (.ireturn, 1) := by decide +kernel
theorem dJ2_indexOfSupplementary_4cfef_63 : decode cJ2_indexOfSupplementary_4cfef 63 = .ok (.iinc 6 1, 3) := by decide +kernel
theorem dJ2_indexOfSupplementary_4cfef_66 : decode cJ2_indexOfSupplementary_4cfef 66 = .ok (.goto (-38), 3) := by decide +kernel
theorem dJ2_indexOfSupplementary_4cfef_69 : decode cJ2_indexOfSupplementary_4cfef 69 = .ok (.iconst (-1), 1) := by decide +kernel
theorem dJ2_indexOfSupplementary_4cfef_70 : decode cJ2_indexOfSupplementary_4cfef 70 = .ok (.ireturn, 1) := by decide +kernel
theorem dJ2_charAt_3b067_0 : decode cJ2_charAt_3b067 0 = .ok (.iload_n 1, 1) := by decide +kernel
theorem dJ2_charAt_3b067_1 : decode cJ2_charAt_3b067 1 = .ok (.aload_n 0, 1) := by decide +kernel
theorem dJ2_charAt_3b067_2 : decode cJ2_charAt_3b067 2 = .ok (.invokestatic 67, 3) := by decide +kernel
theorem dJ2_charAt_3b067_5 : decode cJ2_charAt_3b067 5 = .ok (.aload_n 0, 1) := by decide +kernel
theorem dJ2_charAt_3b067_6 : decode cJ2_charAt_3b067 6 = .ok (.iload_n 1, 1) := by decide +kernel
theorem dJ2_charAt_3b067_7 : decode cJ2_charAt_3b067 7 = .ok (.invokestatic 71, 3) := by decide +kernel
theorem dJ2_charAt_3b067_10 : decode cJ2_charAt_3b067 10 = .ok (.ireturn, 1) := by decide +kernel
theorem dJ2_checkIndex_2214a_0 : decode cJ2_checkIndex_2214a 0 = .ok (.iload_n 0, 1) := by decide +kernel
theorem dJ2_checkIndex_2214a_1 : decode cJ2_checkIndex_2214a 1 = .ok (.aload_n 1, 1) := by decide +kernel
theorem dJ2_checkIndex_2214a_2 : decode cJ2_checkIndex_2214a 2 = .ok (.invokestatic 48, 3) := by decide +kernel
theorem dJ2_checkIndex_2214a_5 : decode cJ2_checkIndex_2214a 5 = .ok (.invokestatic 414, 3) := by decide +kernel
theorem dJ2_checkIndex_2214a_8 : decode cJ2_checkIndex_2214a 8 = .ok (.return_, 1) := by decide +kernel
theorem dJ2_checkBoundsBeginEnd_d044e_0 : decode cJ2_checkBoundsBeginEnd_d044e 0 = .ok (.iload_n 0, 1) := by decide +kernel
theorem dJ2_checkBoundsBeginEnd_d044e_1 : decode cJ2_checkBoundsBeginEnd_d044e 1 = .ok (.iload_n 1, 1) := by decide +kernel
theorem dJ2_checkBoundsBeginEnd_d044e_2 : decode cJ2_checkBoundsBeginEnd_d044e 2 = .ok (.aload_n 2, 1) := by decide +kernel
theorem dJ2_checkBoundsBeginEnd_d044e_3 : decode cJ2_checkBoundsBeginEnd_d044e 3 = .ok (.invokestatic 48, 3) := by decide +kernel
theorem dJ2_checkBoundsBeginEnd_d044e_6 : decode cJ2_checkBoundsBeginEnd_d044e 6 = .ok (.invokestatic 241, 3) := by decide +kernel
theorem dJ2_checkBoundsBeginEnd_d044e_9 : decode cJ2_checkBoundsBeginEnd_d044e 9 = .ok (.return_, 1) := by decide +kernel
theorem dJ3_checkIndex_8e157_0 : decode cJ3_checkIndex_8e157 0 = .ok (.iload_n 0, 1) := by decide +kernel
theorem dJ3_checkIndex_8e157_1 : decode cJ3_checkIndex_8e157 1 = .ok (.ifCond .lt 8, 3) := by decide +kernel
theorem dJ3_checkIndex_8e157_4 : decode cJ3_checkIndex_8e157 4 = .ok (.iload_n 0, 1) := by decide +kernel
theorem dJ3_checkIndex_8e157_5 : decode cJ3_checkIndex_8e157 5 = .ok (.iload_n 1, 1) := by decide +kernel
theorem dJ3_checkIndex_8e157_6 : decode cJ3_checkIndex_8e157 6 = .ok (.if_icmp .lt 10, 3) := by decide +kernel
theorem dJ3_checkIndex_8e157_9 : decode cJ3_checkIndex_8e157 9 = .ok (.aload_n 2, 1) := by decide +kernel
theorem dJ3_checkIndex_8e157_10 : decode cJ3_checkIndex_8e157 10 = .ok (.iload_n 0, 1) := by decide +kernel
theorem dJ3_checkIndex_8e157_11 : decode cJ3_checkIndex_8e157 11 = .ok (.iload_n 1, 1) := by decide +kernel
theorem dJ3_checkIndex_8e157_12 : decode cJ3_checkIndex_8e157 12 = .ok (.invokestatic 95, 3) := by decide +kernel
theorem dJ3_checkIndex_8e157_15 : decode cJ3_checkIndex_8e157 15 = .ok (.athrow, 1) := by decide +kernel
theorem dJ3_checkIndex_8e157_16 : decode cJ3_checkIndex_8e157 16 = .ok (.iload_n 0, 1) := by decide +kernel
theorem dJ3_checkIndex_8e157_17 : decode cJ3_checkIndex_8e157 17 = .ok (.ireturn, 1) := by decide +kernel
theorem dJ3_checkFromToIndex_8c36e_0 : decode cJ3_checkFromToIndex_8c36e 0 = .ok (.iload_n 0, 1) := by decide +kernel
theorem dJ3_checkFromToIndex_8c36e_1 : decode cJ3_checkFromToIndex_8c36e 1 = .ok (.ifCond .lt 13, 3) := by decide +kernel
theorem dJ3_checkFromToIndex_8c36e_4 : decode cJ3_checkFromToIndex_8c36e 4 = .ok (.iload_n 0, 1) := by decide +kernel
theorem dJ3_checkFromToIndex_8c36e_5 : decode cJ3_checkFromToIndex_8c36e 5 = .ok (.iload_n 1, 1) := by decide +kernel
theorem dJ3_checkFromToIndex_8c36e_6 : decode cJ3_checkFromToIndex_8c36e 6 = .ok (.if_icmp .gt 8, 3) := by decide +kernel
theorem dJ3_checkFromToIndex_8c36e_9 : decode cJ3_checkFromToIndex_8c36e 9 = .ok (.iload_n 1, 1) := by decide +kernel
theorem dJ3_checkFromToIndex_8c36e_10 : decode cJ3_checkFromToIndex_8c36e 10 = .ok (.iload_n 2, 1) := by decide +kernel
theorem dJ3_checkFromToIndex_8c36e_11 : decode cJ3_checkFromToIndex_8c36e 11 = .ok (.if_icmp .le 11, 3) := by decide +kernel
theorem dJ3_checkFromToIndex_8c36e_14 : decode cJ3_checkFromToIndex_8c36e 14 = .ok (.aload_n 3, 1) := by decide +kernel
theorem dJ3_checkFromToIndex_8c36e_15 : decode cJ3_checkFromToIndex_8c36e 15 = .ok (.iload_n 0, 1) := by decide +kernel
theorem dJ3_checkFromToIndex_8c36e_16 : decode cJ3_checkFromToIndex_8c36e 16 = .ok (.iload_n 1, 1) := by decide +kernel
theorem dJ3_checkFromToIndex_8c36e_17 : decode cJ3_checkFromToIndex_8c36e 17 = .ok (.iload_n 2, 1) := by decide +kernel
theorem dJ3_checkFromToIndex_8c36e_18 : decode cJ3_checkFromToIndex_8c36e 18 = .ok (.invokestatic 99, 3) := by decide +kernel
theorem dJ3_checkFromToIndex_8c36e_21 : decode cJ3_checkFromToIndex_8c36e 21 = .ok (.athrow, 1) := by decide +kernel
theorem dJ3_checkFromToIndex_8c36e_22 : decode cJ3_checkFromToIndex_8c36e 22 = .ok (.iload_n 0, 1) := by decide +kernel
theorem dJ3_checkFromToIndex_8c36e_23 : decode cJ3_checkFromToIndex_8c36e 23 = .ok (.ireturn, 1) := by decide +kernel
end
section
theorem dL_law_0 : decode cL_law 0 = .ok (.new 7, 3) := by decide +kernel
theorem dL_law_3 : decode cL_law 3 = .ok (.dup, 1) := by decide +kernel
theorem dL_law_4 : decode cL_law 4 = .ok (.invokespecial 9, 3) := by decide +kernel
theorem dL_law_7 : decode cL_law 7 = .ok (.astore_n 1, 1) := by decide +kernel
theorem dL_law_8 : decode cL_law 8 = .ok (.new 10, 3) := by decide +kernel
theorem dL_law_11 : decode cL_law 11 = .ok (.dup, 1) := by decide +kernel
theorem dL_law_12 : decode cL_law 12 = .ok (.invokespecial 12, 3) := by decide +kernel
theorem dL_law_15 : decode cL_law 15 = .ok (.astore_n 2, 1) := by decide +kernel
theorem dL_law_16 : decode cL_law 16 = .ok (.iconst 0, 1) := by decide +kernel
theorem dL_law_17 : decode cL_law 17 = .ok (.istore_n 3, 1) := by decide +kernel
theorem dL_law_18 : decode cL_law 18 = .ok (.iload_n 3, 1) := by decide +kernel
theorem dL_law_19 : decode cL_law 19 = .ok (.aload_n 0, 1) := by decide +kernel
theorem dL_law_20 : decode cL_law 20 = .ok (.arraylength, 1) := by decide +kernel
theorem dL_law_21 : decode cL_law 21 = .ok (.iconst 5, 1) := by decide +kernel
theorem dL_law_22 : decode cL_law 22 = .ok (.isub, 1) := by decide +kernel
theorem dL_law_23 : decode cL_law 23 = .ok (.if_icmp .gt 637, 3) := by decide +kernel
theorem dL_law_26 : decode cL_law 26 = .ok (.aload_n 0, 1) := by decide +kernel
theorem dL_law_27 : decode cL_law 27 = .ok (.iload_n 3, 1) := by decide +kernel
theorem dL_law_28 : decode cL_law 28 = .ok (.iaload, 1) := by decide +kernel
theorem dL_law_29 : decode cL_law 29 = .ok (.bipush 31, 2) := by decide +kernel
theorem dL_law_31 : decode cL_law 31 = .ok (.iand, 1) := by decide +kernel
theorem dL_law_32 : decode cL_law 32 = .ok (.tableswitch 622 0 17 #[88, 111, 124, 147, 160, 213, 256, 289, 332, 355, 378, 401, 434, 477, 510, 553, 576, 599], 88) := by decide +kernel
theorem dL_law_120 : decode cL_law 120 = .ok (.aload_n 1, 1) := by decide +kernel
theorem dL_law_121 : decode cL_law 121 = .ok (.aload_n 0, 1) := by decide +kernel
theorem dL_law_122 : decode cL_law 122 = .ok (.iload_n 3, 1) := by decide +kernel
theorem dL_law_123 : decode cL_law 123 = .ok (.iconst 1, 1) := by decide +kernel
theorem dL_law_124 : decode cL_law 124 = .ok (.iadd, 1) := by decide +kernel
theorem dL_law_125 : decode cL_law 125 = .ok (.iaload, 1) := by decide +kernel
theorem dL_law_126 : decode cL_law 126 = .ok (.invokevirtual 13, 3) := by decide +kernel
theorem dL_law_129 : decode cL_law 129 = .ok (.aload_n 2, 1) := by decide +kernel
theorem dL_law_130 : decode cL_law 130 = .ok (.aload_n 0, 1) := by decide +kernel
theorem dL_law_131 : decode cL_law 131 = .ok (.iload_n 3, 1) := by decide +kernel
theorem dL_law_132 : decode cL_law 132 = .ok (.iconst 1, 1) := by decide +kernel
theorem dL_law_133 : decode cL_law 133 = .ok (.iadd, 1) := by decide +kernel
theorem dL_law_134 : decode cL_law 134 = .ok (.iaload, 1) := by decide +kernel
theorem dL_law_135 : decode cL_law 135 = .ok (.invokevirtual 17, 3) := by decide +kernel
theorem dL_law_138 : decode cL_law 138 = .ok (.if_icmp .eq 516, 3) := by decide +kernel
theorem dL_law_141 : decode cL_law 141 = .ok (.iconst 0, 1) := by decide +kernel
theorem dL_law_142 : decode cL_law 142 = .ok (.ireturn, 1) := by decide +kernel
theorem dL_law_143 : decode cL_law 143 = .ok (.aload_n 1, 1) := by decide +kernel
theorem dL_law_144 : decode cL_law 144 = .ok (.invokevirtual 18, 3) := by decide +kernel
theorem dL_law_147 : decode cL_law 147 = .ok (.aload_n 2, 1) := by decide +kernel
theorem dL_law_148 : decode cL_law 148 = .ok (.invokevirtual 22, 3) := by decide +kernel
theorem dL_law_151 : decode cL_law 151 = .ok (.if_icmp .eq 503, 3) := by decide +kernel
theorem dL_law_154 : decode cL_law 154 = .ok (.iconst 0, 1) := by decide +kernel
theorem dL_law_155 : decode cL_law 155 = .ok (.ireturn, 1) := by decide +kernel
theorem dL_law_156 : decode cL_law 156 = .ok (.aload_n 1, 1) := by decide +kernel
theorem dL_law_157 : decode cL_law 157 = .ok (.aload_n 0, 1) := by decide +kernel
theorem dL_law_158 : decode cL_law 158 = .ok (.iload_n 3, 1) := by decide +kernel
theorem dL_law_159 : decode cL_law 159 = .ok (.iconst 1, 1) := by decide +kernel
theorem dL_law_160 : decode cL_law 160 = .ok (.iadd, 1) := by decide +kernel
theorem dL_law_161 : decode cL_law 161 = .ok (.iaload, 1) := by decide +kernel
theorem dL_law_162 : decode cL_law 162 = .ok (.invokevirtual 23, 3) := by decide +kernel
theorem dL_law_165 : decode cL_law 165 = .ok (.aload_n 2, 1) := by decide +kernel
theorem dL_law_166 : decode cL_law 166 = .ok (.aload_n 0, 1) := by decide +kernel
theorem dL_law_167 : decode cL_law 167 = .ok (.iload_n 3, 1) := by decide +kernel
theorem dL_law_168 : decode cL_law 168 = .ok (.iconst 1, 1) := by decide +kernel
theorem dL_law_169 : decode cL_law 169 = .ok (.iadd, 1) := by decide +kernel
theorem dL_law_170 : decode cL_law 170 = .ok (.iaload, 1) := by decide +kernel
theorem dL_law_171 : decode cL_law 171 = .ok (.invokevirtual 26, 3) := by decide +kernel
theorem dL_law_174 : decode cL_law 174 = .ok (.if_icmp .eq 480, 3) := by decide +kernel
theorem dL_law_177 : decode cL_law 177 = .ok (.iconst 0, 1) := by decide +kernel
theorem dL_law_178 : decode cL_law 178 = .ok (.ireturn, 1) := by decide +kernel
theorem dL_law_179 : decode cL_law 179 = .ok (.aload_n 1, 1) := by decide +kernel
theorem dL_law_180 : decode cL_law 180 = .ok (.invokevirtual 27, 3) := by decide +kernel
theorem dL_law_183 : decode cL_law 183 = .ok (.aload_n 2, 1) := by decide +kernel
theorem dL_law_184 : decode cL_law 184 = .ok (.invokevirtual 30, 3) := by decide +kernel
theorem dL_law_187 : decode cL_law 187 = .ok (.if_icmp .eq 467, 3) := by decide +kernel
theorem dL_law_190 : decode cL_law 190 = .ok (.iconst 0, 1) := by decide +kernel
theorem dL_law_191 : decode cL_law 191 = .ok (.ireturn, 1) := by decide +kernel
theorem dL_law_192 : decode cL_law 192 = .ok (.aload_n 1, 1) := by decide +kernel
theorem dL_law_193 : decode cL_law 193 = .ok (.aload_n 0, 1) := by decide +kernel
theorem dL_law_194 : decode cL_law 194 = .ok (.iload_n 3, 1) := by decide +kernel
theorem dL_law_195 : decode cL_law 195 = .ok (.iconst 1, 1) := by decide +kernel
theorem dL_law_196 : decode cL_law 196 = .ok (.iadd, 1) := by decide +kernel
theorem dL_law_197 : decode cL_law 197 = .ok (.iaload, 1) := by decide +kernel
theorem dL_law_198 : decode cL_law 198 = .ok (.aload_n 0, 1) := by decide +kernel
theorem dL_law_199 : decode cL_law 199 = .ok (.iload_n 3, 1) := by decide +kernel
theorem dL_law_200 : decode cL_law 200 = .ok (.iconst 2, 1) := by decide +kernel
theorem dL_law_201 : decode cL_law 201 = .ok (.iadd, 1) := by decide +kernel
theorem dL_law_202 : decode cL_law 202 = .ok (.iaload, 1) := by decide +kernel
theorem dL_law_203 : decode cL_law 203 = .ok (.aload_n 0, 1) := by decide +kernel
theorem dL_law_204 : decode cL_law 204 = .ok (.iload_n 3, 1) := by decide +kernel
theorem dL_law_205 : decode cL_law 205 = .ok (.iconst 3, 1) := by decide +kernel
theorem dL_law_206 : decode cL_law 206 = .ok (.iadd, 1) := by decide +kernel
theorem dL_law_207 : decode cL_law 207 = .ok (.iaload, 1) := by decide +kernel
theorem dL_law_208 : decode cL_law 208 = .ok (.aload_n 0, 1) := by decide +kernel
theorem dL_law_209 : decode cL_law 209 = .ok (.iload_n 3, 1) := by decide +kernel
theorem dL_law_210 : decode cL_law 210 = .ok (.iconst 4, 1) := by decide +kernel
theorem dL_law_211 : decode cL_law 211 = .ok (.iadd, 1) := by decide +kernel
theorem dL_law_212 : decode cL_law 212 = .ok (.iaload, 1) := by decide +kernel
theorem dL_law_213 : decode cL_law 213 = .ok (.invokevirtual 31, 3) := by decide +kernel
theorem dL_law_216 : decode cL_law 216 = .ok (.aload_n 2, 1) := by decide +kernel
theorem dL_law_217 : decode cL_law 217 = .ok (.aload_n 0, 1) := by decide +kernel
theorem dL_law_218 : decode cL_law 218 = .ok (.iload_n 3, 1) := by decide +kernel
theorem dL_law_219 : decode cL_law 219 = .ok (.iconst 1, 1) := by decide +kernel
theorem dL_law_220 : decode cL_law 220 = .ok (.iadd, 1) := by decide +kernel
theorem dL_law_221 : decode cL_law 221 = .ok (.iaload, 1) := by decide +kernel
theorem dL_law_222 : decode cL_law 222 = .ok (.aload_n 0, 1) := by decide +kernel
theorem dL_law_223 : decode cL_law 223 = .ok (.iload_n 3, 1) := by decide +kernel
theorem dL_law_224 : decode cL_law 224 = .ok (.iconst 2, 1) := by decide +kernel
theorem dL_law_225 : decode cL_law 225 = .ok (.iadd, 1) := by decide +kernel
theorem dL_law_226 : decode cL_law 226 = .ok (.iaload, 1) := by decide +kernel
theorem dL_law_227 : decode cL_law 227 = .ok (.aload_n 0, 1) := by decide +kernel
theorem dL_law_228 : decode cL_law 228 = .ok (.iload_n 3, 1) := by decide +kernel
theorem dL_law_229 : decode cL_law 229 = .ok (.iconst 3, 1) := by decide +kernel
theorem dL_law_230 : decode cL_law 230 = .ok (.iadd, 1) := by decide +kernel
theorem dL_law_231 : decode cL_law 231 = .ok (.iaload, 1) := by decide +kernel
theorem dL_law_232 : decode cL_law 232 = .ok (.aload_n 0, 1) := by decide +kernel
theorem dL_law_233 : decode cL_law 233 = .ok (.iload_n 3, 1) := by decide +kernel
theorem dL_law_234 : decode cL_law 234 = .ok (.iconst 4, 1) := by decide +kernel
theorem dL_law_235 : decode cL_law 235 = .ok (.iadd, 1) := by decide +kernel
theorem dL_law_236 : decode cL_law 236 = .ok (.iaload, 1) := by decide +kernel
theorem dL_law_237 : decode cL_law 237 = .ok (.invokevirtual 35, 3) := by decide +kernel
theorem dL_law_240 : decode cL_law 240 = .ok (.if_icmp .eq 414, 3) := by decide +kernel
theorem dL_law_243 : decode cL_law 243 = .ok (.iconst 0, 1) := by decide +kernel
theorem dL_law_244 : decode cL_law 244 = .ok (.ireturn, 1) := by decide +kernel
theorem dL_law_245 : decode cL_law 245 = .ok (.aload_n 1, 1) := by decide +kernel
theorem dL_law_246 : decode cL_law 246 = .ok (.aload_n 0, 1) := by decide +kernel
theorem dL_law_247 : decode cL_law 247 = .ok (.iload_n 3, 1) := by decide +kernel
theorem dL_law_248 : decode cL_law 248 = .ok (.iconst 1, 1) := by decide +kernel
theorem dL_law_249 : decode cL_law 249 = .ok (.iadd, 1) := by decide +kernel
theorem dL_law_250 : decode cL_law 250 = .ok (.iaload, 1) := by decide +kernel
theorem dL_law_251 : decode cL_law 251 = .ok (.aload_n 0, 1) := by decide +kernel
theorem dL_law_252 : decode cL_law 252 = .ok (.iload_n 3, 1) := by decide +kernel
theorem dL_law_253 : decode cL_law 253 = .ok (.iconst 2, 1) := by decide +kernel
theorem dL_law_254 : decode cL_law 254 = .ok (.iadd, 1) := by decide +kernel
theorem dL_law_255 : decode cL_law 255 = .ok (.iaload, 1) := by decide +kernel
theorem dL_law_256 : decode cL_law 256 = .ok (.aload_n 0, 1) := by decide +kernel
theorem dL_law_257 : decode cL_law 257 = .ok (.iload_n 3, 1) := by decide +kernel
theorem dL_law_258 : decode cL_law 258 = .ok (.iconst 3, 1) := by decide +kernel
theorem dL_law_259 : decode cL_law 259 = .ok (.iadd, 1) := by decide +kernel
theorem dL_law_260 : decode cL_law 260 = .ok (.iaload, 1) := by decide +kernel
theorem dL_law_261 : decode cL_law 261 = .ok (.invokevirtual 36, 3) := by decide +kernel
theorem dL_law_264 : decode cL_law 264 = .ok (.aload_n 2, 1) := by decide +kernel
theorem dL_law_265 : decode cL_law 265 = .ok (.aload_n 0, 1) := by decide +kernel
theorem dL_law_266 : decode cL_law 266 = .ok (.iload_n 3, 1) := by decide +kernel
theorem dL_law_267 : decode cL_law 267 = .ok (.iconst 1, 1) := by decide +kernel
theorem dL_law_268 : decode cL_law 268 = .ok (.iadd, 1) := by decide +kernel
theorem dL_law_269 : decode cL_law 269 = .ok (.iaload, 1) := by decide +kernel
theorem dL_law_270 : decode cL_law 270 = .ok (.aload_n 0, 1) := by decide +kernel
theorem dL_law_271 : decode cL_law 271 = .ok (.iload_n 3, 1) := by decide +kernel
theorem dL_law_272 : decode cL_law 272 = .ok (.iconst 2, 1) := by decide +kernel
theorem dL_law_273 : decode cL_law 273 = .ok (.iadd, 1) := by decide +kernel
theorem dL_law_274 : decode cL_law 274 = .ok (.iaload, 1) := by decide +kernel
theorem dL_law_275 : decode cL_law 275 = .ok (.aload_n 0, 1) := by decide +kernel
theorem dL_law_276 : decode cL_law 276 = .ok (.iload_n 3, 1) := by decide +kernel
theorem dL_law_277 : decode cL_law 277 = .ok (.iconst 3, 1) := by decide +kernel
theorem dL_law_278 : decode cL_law 278 = .ok (.iadd, 1) := by decide +kernel
theorem dL_law_279 : decode cL_law 279 = .ok (.iaload, 1) := by decide +kernel
theorem dL_law_280 : decode cL_law 280 = .ok (.invokevirtual 40, 3) := by decide +kernel
theorem dL_law_283 : decode cL_law 283 = .ok (.if_icmp .eq 371, 3) := by decide +kernel
theorem dL_law_286 : decode cL_law 286 = .ok (.iconst 0, 1) := by decide +kernel
theorem dL_law_287 : decode cL_law 287 = .ok (.ireturn, 1) := by decide +kernel
theorem dL_law_288 : decode cL_law 288 = .ok (.aload_n 1, 1) := by decide +kernel
theorem dL_law_289 : decode cL_law 289 = .ok (.aload_n 0, 1) := by decide +kernel
theorem dL_law_290 : decode cL_law 290 = .ok (.iload_n 3, 1) := by decide +kernel
theorem dL_law_291 : decode cL_law 291 = .ok (.iconst 1, 1) := by decide +kernel
theorem dL_law_292 : decode cL_law 292 = .ok (.iadd, 1) := by decide +kernel
theorem dL_law_293 : decode cL_law 293 = .ok (.iaload, 1) := by decide +kernel
theorem dL_law_294 : decode cL_law 294 = .ok (.aload_n 0, 1) := by decide +kernel
theorem dL_law_295 : decode cL_law 295 = .ok (.iload_n 3, 1) := by decide +kernel
theorem dL_law_296 : decode cL_law 296 = .ok (.iconst 2, 1) := by decide +kernel
theorem dL_law_297 : decode cL_law 297 = .ok (.iadd, 1) := by decide +kernel
theorem dL_law_298 : decode cL_law 298 = .ok (.iaload, 1) := by decide +kernel
theorem dL_law_299 : decode cL_law 299 = .ok (.invokevirtual 41, 3) := by decide +kernel
theorem dL_law_302 : decode cL_law 302 = .ok (.aload_n 2, 1) := by decide +kernel
theorem dL_law_303 : decode cL_law 303 = .ok (.aload_n 0, 1) := by decide +kernel
theorem dL_law_304 : decode cL_law 304 = .ok (.iload_n 3, 1) := by decide +kernel
theorem dL_law_305 : decode cL_law 305 = .ok (.iconst 1, 1) := by decide +kernel
theorem dL_law_306 : decode cL_law 306 = .ok (.iadd, 1) := by decide +kernel
theorem dL_law_307 : decode cL_law 307 = .ok (.iaload, 1) := by decide +kernel
theorem dL_law_308 : decode cL_law 308 = .ok (.aload_n 0, 1) := by decide +kernel
theorem dL_law_309 : decode cL_law 309 = .ok (.iload_n 3, 1) := by decide +kernel
theorem dL_law_310 : decode cL_law 310 = .ok (.iconst 2, 1) := by decide +kernel
theorem dL_law_311 : decode cL_law 311 = .ok (.iadd, 1) := by decide +kernel
theorem dL_law_312 : decode cL_law 312 = .ok (.iaload, 1) := by decide +kernel
theorem dL_law_313 : decode cL_law 313 = .ok (.invokevirtual 45, 3) := by decide +kernel
theorem dL_law_316 : decode cL_law 316 = .ok (.if_icmp .eq 338, 3) := by decide +kernel
theorem dL_law_319 : decode cL_law 319 = .ok (.iconst 0, 1) := by decide +kernel
theorem dL_law_320 : decode cL_law 320 = .ok (.ireturn, 1) := by decide +kernel
theorem dL_law_321 : decode cL_law 321 = .ok (.aload_n 1, 1) := by decide +kernel
theorem dL_law_322 : decode cL_law 322 = .ok (.aload_n 0, 1) := by decide +kernel
theorem dL_law_323 : decode cL_law 323 = .ok (.iload_n 3, 1) := by decide +kernel
theorem dL_law_324 : decode cL_law 324 = .ok (.iconst 1, 1) := by decide +kernel
theorem dL_law_325 : decode cL_law 325 = .ok (.iadd, 1) := by decide +kernel
theorem dL_law_326 : decode cL_law 326 = .ok (.iaload, 1) := by decide +kernel
theorem dL_law_327 : decode cL_law 327 = .ok (.aload_n 0, 1) := by decide +kernel
theorem dL_law_328 : decode cL_law 328 = .ok (.iload_n 3, 1) := by decide +kernel
theorem dL_law_329 : decode cL_law 329 = .ok (.iconst 2, 1) := by decide +kernel
theorem dL_law_330 : decode cL_law 330 = .ok (.iadd, 1) := by decide +kernel
theorem dL_law_331 : decode cL_law 331 = .ok (.iaload, 1) := by decide +kernel
theorem dL_law_332 : decode cL_law 332 = .ok (.aload_n 0, 1) := by decide +kernel
theorem dL_law_333 : decode cL_law 333 = .ok (.iload_n 3, 1) := by decide +kernel
theorem dL_law_334 : decode cL_law 334 = .ok (.iconst 3, 1) := by decide +kernel
theorem dL_law_335 : decode cL_law 335 = .ok (.iadd, 1) := by decide +kernel
theorem dL_law_336 : decode cL_law 336 = .ok (.iaload, 1) := by decide +kernel
theorem dL_law_337 : decode cL_law 337 = .ok (.invokevirtual 46, 3) := by decide +kernel
theorem dL_law_340 : decode cL_law 340 = .ok (.aload_n 2, 1) := by decide +kernel
theorem dL_law_341 : decode cL_law 341 = .ok (.aload_n 0, 1) := by decide +kernel
theorem dL_law_342 : decode cL_law 342 = .ok (.iload_n 3, 1) := by decide +kernel
theorem dL_law_343 : decode cL_law 343 = .ok (.iconst 1, 1) := by decide +kernel
theorem dL_law_344 : decode cL_law 344 = .ok (.iadd, 1) := by decide +kernel
theorem dL_law_345 : decode cL_law 345 = .ok (.iaload, 1) := by decide +kernel
theorem dL_law_346 : decode cL_law 346 = .ok (.aload_n 0, 1) := by decide +kernel
theorem dL_law_347 : decode cL_law 347 = .ok (.iload_n 3, 1) := by decide +kernel
theorem dL_law_348 : decode cL_law 348 = .ok (.iconst 2, 1) := by decide +kernel
theorem dL_law_349 : decode cL_law 349 = .ok (.iadd, 1) := by decide +kernel
theorem dL_law_350 : decode cL_law 350 = .ok (.iaload, 1) := by decide +kernel
theorem dL_law_351 : decode cL_law 351 = .ok (.aload_n 0, 1) := by decide +kernel
theorem dL_law_352 : decode cL_law 352 = .ok (.iload_n 3, 1) := by decide +kernel
theorem dL_law_353 : decode cL_law 353 = .ok (.iconst 3, 1) := by decide +kernel
theorem dL_law_354 : decode cL_law 354 = .ok (.iadd, 1) := by decide +kernel
theorem dL_law_355 : decode cL_law 355 = .ok (.iaload, 1) := by decide +kernel
theorem dL_law_356 : decode cL_law 356 = .ok (.invokevirtual 49, 3) := by decide +kernel
theorem dL_law_359 : decode cL_law 359 = .ok (.if_icmp .eq 295, 3) := by decide +kernel
theorem dL_law_362 : decode cL_law 362 = .ok (.iconst 0, 1) := by decide +kernel
theorem dL_law_363 : decode cL_law 363 = .ok (.ireturn, 1) := by decide +kernel
theorem dL_law_364 : decode cL_law 364 = .ok (.aload_n 1, 1) := by decide +kernel
theorem dL_law_365 : decode cL_law 365 = .ok (.aload_n 0, 1) := by decide +kernel
theorem dL_law_366 : decode cL_law 366 = .ok (.iload_n 3, 1) := by decide +kernel
theorem dL_law_367 : decode cL_law 367 = .ok (.iconst 1, 1) := by decide +kernel
theorem dL_law_368 : decode cL_law 368 = .ok (.iadd, 1) := by decide +kernel
theorem dL_law_369 : decode cL_law 369 = .ok (.iaload, 1) := by decide +kernel
theorem dL_law_370 : decode cL_law 370 = .ok (.invokevirtual 50, 3) := by decide +kernel
theorem dL_law_373 : decode cL_law 373 = .ok (.aload_n 2, 1) := by decide +kernel
theorem dL_law_374 : decode cL_law 374 = .ok (.aload_n 0, 1) := by decide +kernel
theorem dL_law_375 : decode cL_law 375 = .ok (.iload_n 3, 1) := by decide +kernel
theorem dL_law_376 : decode cL_law 376 = .ok (.iconst 1, 1) := by decide +kernel
theorem dL_law_377 : decode cL_law 377 = .ok (.iadd, 1) := by decide +kernel
theorem dL_law_378 : decode cL_law 378 = .ok (.iaload, 1) := by decide +kernel
theorem dL_law_379 : decode cL_law 379 = .ok (.invokevirtual 53, 3) := by decide +kernel
theorem dL_law_382 : decode cL_law 382 = .ok (.if_icmp .eq 272, 3) := by decide +kernel
theorem dL_law_385 : decode cL_law 385 = .ok (.iconst 0, 1) := by decide +kernel
theorem dL_law_386 : decode cL_law 386 = .ok (.ireturn, 1) := by decide +kernel
theorem dL_law_387 : decode cL_law 387 = .ok (.aload_n 1, 1) := by decide +kernel
theorem dL_law_388 : decode cL_law 388 = .ok (.aload_n 0, 1) := by decide +kernel
theorem dL_law_389 : decode cL_law 389 = .ok (.iload_n 3, 1) := by decide +kernel
theorem dL_law_390 : decode cL_law 390 = .ok (.iconst 1, 1) := by decide +kernel
theorem dL_law_391 : decode cL_law 391 = .ok (.iadd, 1) := by decide +kernel
theorem dL_law_392 : decode cL_law 392 = .ok (.iaload, 1) := by decide +kernel
theorem dL_law_393 : decode cL_law 393 = .ok (.invokevirtual 54, 3) := by decide +kernel
theorem dL_law_396 : decode cL_law 396 = .ok (.aload_n 2, 1) := by decide +kernel
theorem dL_law_397 : decode cL_law 397 = .ok (.aload_n 0, 1) := by decide +kernel
theorem dL_law_398 : decode cL_law 398 = .ok (.iload_n 3, 1) := by decide +kernel
theorem dL_law_399 : decode cL_law 399 = .ok (.iconst 1, 1) := by decide +kernel
theorem dL_law_400 : decode cL_law 400 = .ok (.iadd, 1) := by decide +kernel
theorem dL_law_401 : decode cL_law 401 = .ok (.iaload, 1) := by decide +kernel
theorem dL_law_402 : decode cL_law 402 = .ok (.invokevirtual 57, 3) := by decide +kernel
theorem dL_law_405 : decode cL_law 405 = .ok (.if_icmp .eq 249, 3) := by decide +kernel
theorem dL_law_408 : decode cL_law 408 = .ok (.iconst 0, 1) := by decide +kernel
theorem dL_law_409 : decode cL_law 409 = .ok (.ireturn, 1) := by decide +kernel
theorem dL_law_410 : decode cL_law 410 = .ok (.aload_n 1, 1) := by decide +kernel
theorem dL_law_411 : decode cL_law 411 = .ok (.aload_n 0, 1) := by decide +kernel
theorem dL_law_412 : decode cL_law 412 = .ok (.iload_n 3, 1) := by decide +kernel
theorem dL_law_413 : decode cL_law 413 = .ok (.iconst 1, 1) := by decide +kernel
theorem dL_law_414 : decode cL_law 414 = .ok (.iadd, 1) := by decide +kernel
theorem dL_law_415 : decode cL_law 415 = .ok (.iaload, 1) := by decide +kernel
theorem dL_law_416 : decode cL_law 416 = .ok (.invokevirtual 58, 3) := by decide +kernel
theorem dL_law_419 : decode cL_law 419 = .ok (.aload_n 2, 1) := by decide +kernel
theorem dL_law_420 : decode cL_law 420 = .ok (.aload_n 0, 1) := by decide +kernel
theorem dL_law_421 : decode cL_law 421 = .ok (.iload_n 3, 1) := by decide +kernel
theorem dL_law_422 : decode cL_law 422 = .ok (.iconst 1, 1) := by decide +kernel
theorem dL_law_423 : decode cL_law 423 = .ok (.iadd, 1) := by decide +kernel
theorem dL_law_424 : decode cL_law 424 = .ok (.iaload, 1) := by decide +kernel
theorem dL_law_425 : decode cL_law 425 = .ok (.invokevirtual 61, 3) := by decide +kernel
theorem dL_law_428 : decode cL_law 428 = .ok (.if_icmp .eq 226, 3) := by decide +kernel
theorem dL_law_431 : decode cL_law 431 = .ok (.iconst 0, 1) := by decide +kernel
theorem dL_law_432 : decode cL_law 432 = .ok (.ireturn, 1) := by decide +kernel
theorem dL_law_433 : decode cL_law 433 = .ok (.aload_n 1, 1) := by decide +kernel
theorem dL_law_434 : decode cL_law 434 = .ok (.aload_n 0, 1) := by decide +kernel
theorem dL_law_435 : decode cL_law 435 = .ok (.iload_n 3, 1) := by decide +kernel
theorem dL_law_436 : decode cL_law 436 = .ok (.iconst 1, 1) := by decide +kernel
theorem dL_law_437 : decode cL_law 437 = .ok (.iadd, 1) := by decide +kernel
theorem dL_law_438 : decode cL_law 438 = .ok (.iaload, 1) := by decide +kernel
theorem dL_law_439 : decode cL_law 439 = .ok (.aload_n 0, 1) := by decide +kernel
theorem dL_law_440 : decode cL_law 440 = .ok (.iload_n 3, 1) := by decide +kernel
theorem dL_law_441 : decode cL_law 441 = .ok (.iconst 2, 1) := by decide +kernel
theorem dL_law_442 : decode cL_law 442 = .ok (.iadd, 1) := by decide +kernel
theorem dL_law_443 : decode cL_law 443 = .ok (.iaload, 1) := by decide +kernel
theorem dL_law_444 : decode cL_law 444 = .ok (.invokevirtual 62, 3) := by decide +kernel
theorem dL_law_447 : decode cL_law 447 = .ok (.aload_n 2, 1) := by decide +kernel
theorem dL_law_448 : decode cL_law 448 = .ok (.aload_n 0, 1) := by decide +kernel
theorem dL_law_449 : decode cL_law 449 = .ok (.iload_n 3, 1) := by decide +kernel
theorem dL_law_450 : decode cL_law 450 = .ok (.iconst 1, 1) := by decide +kernel
theorem dL_law_451 : decode cL_law 451 = .ok (.iadd, 1) := by decide +kernel
theorem dL_law_452 : decode cL_law 452 = .ok (.iaload, 1) := by decide +kernel
theorem dL_law_453 : decode cL_law 453 = .ok (.aload_n 0, 1) := by decide +kernel
theorem dL_law_454 : decode cL_law 454 = .ok (.iload_n 3, 1) := by decide +kernel
theorem dL_law_455 : decode cL_law 455 = .ok (.iconst 2, 1) := by decide +kernel
theorem dL_law_456 : decode cL_law 456 = .ok (.iadd, 1) := by decide +kernel
theorem dL_law_457 : decode cL_law 457 = .ok (.iaload, 1) := by decide +kernel
theorem dL_law_458 : decode cL_law 458 = .ok (.invokevirtual 65, 3) := by decide +kernel
theorem dL_law_461 : decode cL_law 461 = .ok (.if_icmp .eq 193, 3) := by decide +kernel
theorem dL_law_464 : decode cL_law 464 = .ok (.iconst 0, 1) := by decide +kernel
theorem dL_law_465 : decode cL_law 465 = .ok (.ireturn, 1) := by decide +kernel
theorem dL_law_466 : decode cL_law 466 = .ok (.aload_n 1, 1) := by decide +kernel
theorem dL_law_467 : decode cL_law 467 = .ok (.aload_n 0, 1) := by decide +kernel
theorem dL_law_468 : decode cL_law 468 = .ok (.iload_n 3, 1) := by decide +kernel
theorem dL_law_469 : decode cL_law 469 = .ok (.iconst 1, 1) := by decide +kernel
theorem dL_law_470 : decode cL_law 470 = .ok (.iadd, 1) := by decide +kernel
theorem dL_law_471 : decode cL_law 471 = .ok (.iaload, 1) := by decide +kernel
theorem dL_law_472 : decode cL_law 472 = .ok (.aload_n 0, 1) := by decide +kernel
theorem dL_law_473 : decode cL_law 473 = .ok (.iload_n 3, 1) := by decide +kernel
theorem dL_law_474 : decode cL_law 474 = .ok (.iconst 2, 1) := by decide +kernel
theorem dL_law_475 : decode cL_law 475 = .ok (.iadd, 1) := by decide +kernel
theorem dL_law_476 : decode cL_law 476 = .ok (.iaload, 1) := by decide +kernel
theorem dL_law_477 : decode cL_law 477 = .ok (.aload_n 0, 1) := by decide +kernel
theorem dL_law_478 : decode cL_law 478 = .ok (.iload_n 3, 1) := by decide +kernel
theorem dL_law_479 : decode cL_law 479 = .ok (.iconst 3, 1) := by decide +kernel
theorem dL_law_480 : decode cL_law 480 = .ok (.iadd, 1) := by decide +kernel
theorem dL_law_481 : decode cL_law 481 = .ok (.iaload, 1) := by decide +kernel
theorem dL_law_482 : decode cL_law 482 = .ok (.invokevirtual 66, 3) := by decide +kernel
theorem dL_law_485 : decode cL_law 485 = .ok (.aload_n 2, 1) := by decide +kernel
theorem dL_law_486 : decode cL_law 486 = .ok (.aload_n 0, 1) := by decide +kernel
theorem dL_law_487 : decode cL_law 487 = .ok (.iload_n 3, 1) := by decide +kernel
theorem dL_law_488 : decode cL_law 488 = .ok (.iconst 1, 1) := by decide +kernel
theorem dL_law_489 : decode cL_law 489 = .ok (.iadd, 1) := by decide +kernel
theorem dL_law_490 : decode cL_law 490 = .ok (.iaload, 1) := by decide +kernel
theorem dL_law_491 : decode cL_law 491 = .ok (.aload_n 0, 1) := by decide +kernel
theorem dL_law_492 : decode cL_law 492 = .ok (.iload_n 3, 1) := by decide +kernel
theorem dL_law_493 : decode cL_law 493 = .ok (.iconst 2, 1) := by decide +kernel
theorem dL_law_494 : decode cL_law 494 = .ok (.iadd, 1) := by decide +kernel
theorem dL_law_495 : decode cL_law 495 = .ok (.iaload, 1) := by decide +kernel
theorem dL_law_496 : decode cL_law 496 = .ok (.aload_n 0, 1) := by decide +kernel
theorem dL_law_497 : decode cL_law 497 = .ok (.iload_n 3, 1) := by decide +kernel
theorem dL_law_498 : decode cL_law 498 = .ok (.iconst 3, 1) := by decide +kernel
theorem dL_law_499 : decode cL_law 499 = .ok (.iadd, 1) := by decide +kernel
theorem dL_law_500 : decode cL_law 500 = .ok (.iaload, 1) := by decide +kernel
theorem dL_law_501 : decode cL_law 501 = .ok (.invokevirtual 69, 3) := by decide +kernel
theorem dL_law_504 : decode cL_law 504 = .ok (.if_icmp .eq 150, 3) := by decide +kernel
theorem dL_law_507 : decode cL_law 507 = .ok (.iconst 0, 1) := by decide +kernel
theorem dL_law_508 : decode cL_law 508 = .ok (.ireturn, 1) := by decide +kernel
theorem dL_law_509 : decode cL_law 509 = .ok (.aload_n 1, 1) := by decide +kernel
theorem dL_law_510 : decode cL_law 510 = .ok (.aload_n 0, 1) := by decide +kernel
theorem dL_law_511 : decode cL_law 511 = .ok (.iload_n 3, 1) := by decide +kernel
theorem dL_law_512 : decode cL_law 512 = .ok (.iconst 1, 1) := by decide +kernel
theorem dL_law_513 : decode cL_law 513 = .ok (.iadd, 1) := by decide +kernel
theorem dL_law_514 : decode cL_law 514 = .ok (.iaload, 1) := by decide +kernel
theorem dL_law_515 : decode cL_law 515 = .ok (.aload_n 0, 1) := by decide +kernel
theorem dL_law_516 : decode cL_law 516 = .ok (.iload_n 3, 1) := by decide +kernel
theorem dL_law_517 : decode cL_law 517 = .ok (.iconst 2, 1) := by decide +kernel
theorem dL_law_518 : decode cL_law 518 = .ok (.iadd, 1) := by decide +kernel
theorem dL_law_519 : decode cL_law 519 = .ok (.iaload, 1) := by decide +kernel
theorem dL_law_520 : decode cL_law 520 = .ok (.invokevirtual 70, 3) := by decide +kernel
theorem dL_law_523 : decode cL_law 523 = .ok (.aload_n 2, 1) := by decide +kernel
theorem dL_law_524 : decode cL_law 524 = .ok (.aload_n 0, 1) := by decide +kernel
theorem dL_law_525 : decode cL_law 525 = .ok (.iload_n 3, 1) := by decide +kernel
theorem dL_law_526 : decode cL_law 526 = .ok (.iconst 1, 1) := by decide +kernel
theorem dL_law_527 : decode cL_law 527 = .ok (.iadd, 1) := by decide +kernel
theorem dL_law_528 : decode cL_law 528 = .ok (.iaload, 1) := by decide +kernel
theorem dL_law_529 : decode cL_law 529 = .ok (.aload_n 0, 1) := by decide +kernel
theorem dL_law_530 : decode cL_law 530 = .ok (.iload_n 3, 1) := by decide +kernel
theorem dL_law_531 : decode cL_law 531 = .ok (.iconst 2, 1) := by decide +kernel
theorem dL_law_532 : decode cL_law 532 = .ok (.iadd, 1) := by decide +kernel
theorem dL_law_533 : decode cL_law 533 = .ok (.iaload, 1) := by decide +kernel
theorem dL_law_534 : decode cL_law 534 = .ok (.invokevirtual 73, 3) := by decide +kernel
theorem dL_law_537 : decode cL_law 537 = .ok (.if_icmp .eq 117, 3) := by decide +kernel
theorem dL_law_540 : decode cL_law 540 = .ok (.iconst 0, 1) := by decide +kernel
theorem dL_law_541 : decode cL_law 541 = .ok (.ireturn, 1) := by decide +kernel
theorem dL_law_542 : decode cL_law 542 = .ok (.aload_n 1, 1) := by decide +kernel
theorem dL_law_543 : decode cL_law 543 = .ok (.aload_n 0, 1) := by decide +kernel
theorem dL_law_544 : decode cL_law 544 = .ok (.iload_n 3, 1) := by decide +kernel
theorem dL_law_545 : decode cL_law 545 = .ok (.iconst 1, 1) := by decide +kernel
theorem dL_law_546 : decode cL_law 546 = .ok (.iadd, 1) := by decide +kernel
theorem dL_law_547 : decode cL_law 547 = .ok (.iaload, 1) := by decide +kernel
theorem dL_law_548 : decode cL_law 548 = .ok (.aload_n 0, 1) := by decide +kernel
theorem dL_law_549 : decode cL_law 549 = .ok (.iload_n 3, 1) := by decide +kernel
theorem dL_law_550 : decode cL_law 550 = .ok (.iconst 2, 1) := by decide +kernel
theorem dL_law_551 : decode cL_law 551 = .ok (.iadd, 1) := by decide +kernel
theorem dL_law_552 : decode cL_law 552 = .ok (.iaload, 1) := by decide +kernel
theorem dL_law_553 : decode cL_law 553 = .ok (.aload_n 0, 1) := by decide +kernel
theorem dL_law_554 : decode cL_law 554 = .ok (.iload_n 3, 1) := by decide +kernel
theorem dL_law_555 : decode cL_law 555 = .ok (.iconst 3, 1) := by decide +kernel
theorem dL_law_556 : decode cL_law 556 = .ok (.iadd, 1) := by decide +kernel
theorem dL_law_557 : decode cL_law 557 = .ok (.iaload, 1) := by decide +kernel
theorem dL_law_558 : decode cL_law 558 = .ok (.invokevirtual 74, 3) := by decide +kernel
theorem dL_law_561 : decode cL_law 561 = .ok (.aload_n 2, 1) := by decide +kernel
theorem dL_law_562 : decode cL_law 562 = .ok (.aload_n 0, 1) := by decide +kernel
theorem dL_law_563 : decode cL_law 563 = .ok (.iload_n 3, 1) := by decide +kernel
theorem dL_law_564 : decode cL_law 564 = .ok (.iconst 1, 1) := by decide +kernel
theorem dL_law_565 : decode cL_law 565 = .ok (.iadd, 1) := by decide +kernel
theorem dL_law_566 : decode cL_law 566 = .ok (.iaload, 1) := by decide +kernel
theorem dL_law_567 : decode cL_law 567 = .ok (.aload_n 0, 1) := by decide +kernel
theorem dL_law_568 : decode cL_law 568 = .ok (.iload_n 3, 1) := by decide +kernel
theorem dL_law_569 : decode cL_law 569 = .ok (.iconst 2, 1) := by decide +kernel
theorem dL_law_570 : decode cL_law 570 = .ok (.iadd, 1) := by decide +kernel
theorem dL_law_571 : decode cL_law 571 = .ok (.iaload, 1) := by decide +kernel
theorem dL_law_572 : decode cL_law 572 = .ok (.aload_n 0, 1) := by decide +kernel
theorem dL_law_573 : decode cL_law 573 = .ok (.iload_n 3, 1) := by decide +kernel
theorem dL_law_574 : decode cL_law 574 = .ok (.iconst 3, 1) := by decide +kernel
theorem dL_law_575 : decode cL_law 575 = .ok (.iadd, 1) := by decide +kernel
theorem dL_law_576 : decode cL_law 576 = .ok (.iaload, 1) := by decide +kernel
theorem dL_law_577 : decode cL_law 577 = .ok (.invokevirtual 77, 3) := by decide +kernel
theorem dL_law_580 : decode cL_law 580 = .ok (.if_icmp .eq 74, 3) := by decide +kernel
theorem dL_law_583 : decode cL_law 583 = .ok (.iconst 0, 1) := by decide +kernel
theorem dL_law_584 : decode cL_law 584 = .ok (.ireturn, 1) := by decide +kernel
theorem dL_law_585 : decode cL_law 585 = .ok (.aload_n 1, 1) := by decide +kernel
theorem dL_law_586 : decode cL_law 586 = .ok (.aload_n 0, 1) := by decide +kernel
theorem dL_law_587 : decode cL_law 587 = .ok (.iload_n 3, 1) := by decide +kernel
theorem dL_law_588 : decode cL_law 588 = .ok (.iconst 1, 1) := by decide +kernel
theorem dL_law_589 : decode cL_law 589 = .ok (.iadd, 1) := by decide +kernel
theorem dL_law_590 : decode cL_law 590 = .ok (.iaload, 1) := by decide +kernel
theorem dL_law_591 : decode cL_law 591 = .ok (.invokevirtual 78, 3) := by decide +kernel
theorem dL_law_594 : decode cL_law 594 = .ok (.aload_n 2, 1) := by decide +kernel
theorem dL_law_595 : decode cL_law 595 = .ok (.aload_n 0, 1) := by decide +kernel
theorem dL_law_596 : decode cL_law 596 = .ok (.iload_n 3, 1) := by decide +kernel
theorem dL_law_597 : decode cL_law 597 = .ok (.iconst 1, 1) := by decide +kernel
theorem dL_law_598 : decode cL_law 598 = .ok (.iadd, 1) := by decide +kernel
theorem dL_law_599 : decode cL_law 599 = .ok (.iaload, 1) := by decide +kernel
theorem dL_law_600 : decode cL_law 600 = .ok (.invokevirtual 81, 3) := by decide +kernel
theorem dL_law_603 : decode cL_law 603 = .ok (.if_icmp .eq 51, 3) := by decide +kernel
theorem dL_law_606 : decode cL_law 606 = .ok (.iconst 0, 1) := by decide +kernel
theorem dL_law_607 : decode cL_law 607 = .ok (.ireturn, 1) := by decide +kernel
theorem dL_law_608 : decode cL_law 608 = .ok (.aload_n 1, 1) := by decide +kernel
theorem dL_law_609 : decode cL_law 609 = .ok (.aload_n 0, 1) := by decide +kernel
theorem dL_law_610 : decode cL_law 610 = .ok (.iload_n 3, 1) := by decide +kernel
theorem dL_law_611 : decode cL_law 611 = .ok (.iconst 1, 1) := by decide +kernel
theorem dL_law_612 : decode cL_law 612 = .ok (.iadd, 1) := by decide +kernel
theorem dL_law_613 : decode cL_law 613 = .ok (.iaload, 1) := by decide +kernel
theorem dL_law_614 : decode cL_law 614 = .ok (.invokevirtual 82, 3) := by decide +kernel
theorem dL_law_617 : decode cL_law 617 = .ok (.aload_n 2, 1) := by decide +kernel
theorem dL_law_618 : decode cL_law 618 = .ok (.aload_n 0, 1) := by decide +kernel
theorem dL_law_619 : decode cL_law 619 = .ok (.iload_n 3, 1) := by decide +kernel
theorem dL_law_620 : decode cL_law 620 = .ok (.iconst 1, 1) := by decide +kernel
theorem dL_law_621 : decode cL_law 621 = .ok (.iadd, 1) := by decide +kernel
theorem dL_law_622 : decode cL_law 622 = .ok (.iaload, 1) := by decide +kernel
theorem dL_law_623 : decode cL_law 623 = .ok (.invokevirtual 85, 3) := by decide +kernel
theorem dL_law_626 : decode cL_law 626 = .ok (.if_icmp .eq 28, 3) := by decide +kernel
theorem dL_law_629 : decode cL_law 629 = .ok (.iconst 0, 1) := by decide +kernel
theorem dL_law_630 : decode cL_law 630 = .ok (.ireturn, 1) := by decide +kernel
theorem dL_law_631 : decode cL_law 631 = .ok (.aload_n 1, 1) := by decide +kernel
theorem dL_law_632 : decode cL_law 632 = .ok (.aload_n 0, 1) := by decide +kernel
theorem dL_law_633 : decode cL_law 633 = .ok (.iload_n 3, 1) := by decide +kernel
theorem dL_law_634 : decode cL_law 634 = .ok (.iconst 1, 1) := by decide +kernel
theorem dL_law_635 : decode cL_law 635 = .ok (.iadd, 1) := by decide +kernel
theorem dL_law_636 : decode cL_law 636 = .ok (.iaload, 1) := by decide +kernel
theorem dL_law_637 : decode cL_law 637 = .ok (.invokevirtual 86, 3) := by decide +kernel
theorem dL_law_640 : decode cL_law 640 = .ok (.aload_n 2, 1) := by decide +kernel
theorem dL_law_641 : decode cL_law 641 = .ok (.aload_n 0, 1) := by decide +kernel
theorem dL_law_642 : decode cL_law 642 = .ok (.iload_n 3, 1) := by decide +kernel
theorem dL_law_643 : decode cL_law 643 = .ok (.iconst 1, 1) := by decide +kernel
theorem dL_law_644 : decode cL_law 644 = .ok (.iadd, 1) := by decide +kernel
theorem dL_law_645 : decode cL_law 645 = .ok (.iaload, 1) := by decide +kernel
theorem dL_law_646 : decode cL_law 646 = .ok (.invokevirtual 89, 3) := by decide +kernel
theorem dL_law_649 : decode cL_law 649 = .ok (.if_icmp .eq 5, 3) := by decide +kernel
theorem dL_law_652 : decode cL_law 652 = .ok (.iconst 0, 1) := by decide +kernel
theorem dL_law_653 : decode cL_law 653 = .ok (.ireturn, 1) := by decide +kernel
theorem dL_law_654 : decode cL_law 654 = .ok (.iinc 3 5, 3) := by decide +kernel
theorem dL_law_657 : decode cL_law 657 = .ok (.goto (-639), 3) := by decide +kernel
theorem dL_law_660 : decode cL_law 660 = .ok (.iconst 1, 1) := by decide +kernel
theorem dL_law_661 : decode cL_law 661 = .ok (.ireturn, 1) := by decide +kernel
end
section
theorem dX0_init_0 : decode cX0_init 0 = .ok (.aload_n 0, 1) := by decide +kernel
theorem dX0_init_1 : decode cX0_init 1 = .ok (.invokespecial 3, 3) := by decide +kernel
theorem dX0_init_4 : decode cX0_init 4 = .ok (.aload_n 0, 1) := by decide +kernel
theorem dX0_init_5 : decode cX0_init 5 = .ok (.new 9, 3) := by decide +kernel
theorem dX0_init_8 : decode cX0_init 8 = .ok (.dup, 1) := by decide +kernel
theorem dX0_init_9 : decode cX0_init 9 = .ok (.invokespecial 11, 3) := by decide +kernel
theorem dX0_init_12 : decode cX0_init 12 = .ok (.putfield 12, 3) := by decide +kernel
theorem dX0_init_15 : decode cX0_init 15 = .ok (.aload_n 0, 1) := by decide +kernel
theorem dX0_init_16 : decode cX0_init 16 = .ok (.sipush 2048, 3) := by decide +kernel
theorem dX0_init_19 : decode cX0_init 19 = .ok (.newarray .int, 2) := by decide +kernel
theorem dX0_init_21 : decode cX0_init 21 = .ok (.putfield 18, 3) := by decide +kernel
theorem dX0_init_24 : decode cX0_init 24 = .ok (.aload_n 0, 1) := by decide +kernel
theorem dX0_init_25 : decode cX0_init 25 = .ok (.sipush 2048, 3) := by decide +kernel
theorem dX0_init_28 : decode cX0_init 28 = .ok (.newarray .int, 2) := by decide +kernel
theorem dX0_init_30 : decode cX0_init 30 = .ok (.putfield 22, 3) := by decide +kernel
theorem dX0_init_33 : decode cX0_init 33 = .ok (.aload_n 0, 1) := by decide +kernel
theorem dX0_init_34 : decode cX0_init 34 = .ok (.sipush 2048, 3) := by decide +kernel
theorem dX0_init_37 : decode cX0_init 37 = .ok (.newarray .int, 2) := by decide +kernel
theorem dX0_init_39 : decode cX0_init 39 = .ok (.putfield 25, 3) := by decide +kernel
theorem dX0_init_42 : decode cX0_init 42 = .ok (.aload_n 0, 1) := by decide +kernel
theorem dX0_init_43 : decode cX0_init 43 = .ok (.iconst 0, 1) := by decide +kernel
theorem dX0_init_44 : decode cX0_init 44 = .ok (.putfield 28, 3) := by decide +kernel
theorem dX0_init_47 : decode cX0_init 47 = .ok (.aload_n 0, 1) := by decide +kernel
theorem dX0_init_48 : decode cX0_init 48 = .ok (.iconst 0, 1) := by decide +kernel
theorem dX0_init_49 : decode cX0_init 49 = .ok (.putfield 32, 3) := by decide +kernel
theorem dX0_init_52 : decode cX0_init 52 = .ok (.return_, 1) := by decide +kernel
theorem dX0_turnTo_0 : decode cX0_turnTo 0 = .ok (.aload_n 0, 1) := by decide +kernel
theorem dX0_turnTo_1 : decode cX0_turnTo 1 = .ok (.getfield 12, 3) := by decide +kernel
theorem dX0_turnTo_4 : decode cX0_turnTo 4 = .ok (.aload_n 1, 1) := by decide +kernel
theorem dX0_turnTo_5 : decode cX0_turnTo 5 = .ok (.invokevirtual 35, 3) := by decide +kernel
theorem dX0_turnTo_8 : decode cX0_turnTo 8 = .ok (.ifCond .eq 4, 3) := by decide +kernel
theorem dX0_turnTo_11 : decode cX0_turnTo 11 = .ok (.return_, 1) := by decide +kernel
theorem dX0_turnTo_12 : decode cX0_turnTo 12 = .ok (.aload_n 0, 1) := by decide +kernel
theorem dX0_turnTo_13 : decode cX0_turnTo 13 = .ok (.getfield 12, 3) := by decide +kernel
theorem dX0_turnTo_16 : decode cX0_turnTo 16 = .ok (.aload_n 1, 1) := by decide +kernel
theorem dX0_turnTo_17 : decode cX0_turnTo 17 = .ok (.invokevirtual 39, 3) := by decide +kernel
theorem dX0_turnTo_20 : decode cX0_turnTo 20 = .ok (.aload_n 0, 1) := by decide +kernel
theorem dX0_turnTo_21 : decode cX0_turnTo 21 = .ok (.getfield 18, 3) := by decide +kernel
theorem dX0_turnTo_24 : decode cX0_turnTo 24 = .ok (.iconst 0, 1) := by decide +kernel
theorem dX0_turnTo_25 : decode cX0_turnTo 25 = .ok (.iconst 0, 1) := by decide +kernel
theorem dX0_turnTo_26 : decode cX0_turnTo 26 = .ok (.iastore, 1) := by decide +kernel
theorem dX0_turnTo_27 : decode cX0_turnTo 27 = .ok (.aload_n 0, 1) := by decide +kernel
theorem dX0_turnTo_28 : decode cX0_turnTo 28 = .ok (.iconst 1, 1) := by decide +kernel
theorem dX0_turnTo_29 : decode cX0_turnTo 29 = .ok (.putfield 32, 3) := by decide +kernel
theorem dX0_turnTo_32 : decode cX0_turnTo 32 = .ok (.iconst 0, 1) := by decide +kernel
theorem dX0_turnTo_33 : decode cX0_turnTo 33 = .ok (.istore_n 2, 1) := by decide +kernel
theorem dX0_turnTo_34 : decode cX0_turnTo 34 = .ok (.iload_n 2, 1) := by decide +kernel
theorem dX0_turnTo_35 : decode cX0_turnTo 35 = .ok (.aload_n 0, 1) := by decide +kernel
theorem dX0_turnTo_36 : decode cX0_turnTo 36 = .ok (.getfield 12, 3) := by decide +kernel
theorem dX0_turnTo_39 : decode cX0_turnTo 39 = .ok (.getfield 43, 3) := by decide +kernel
theorem dX0_turnTo_42 : decode cX0_turnTo 42 = .ok (.if_icmp .ge 14, 3) := by decide +kernel
theorem dX0_turnTo_45 : decode cX0_turnTo 45 = .ok (.aload_n 0, 1) := by decide +kernel
theorem dX0_turnTo_46 : decode cX0_turnTo 46 = .ok (.iload_n 2, 1) := by decide +kernel
theorem dX0_turnTo_47 : decode cX0_turnTo 47 = .ok (.invokevirtual 46, 3) := by decide +kernel
theorem dX0_turnTo_50 : decode cX0_turnTo 50 = .ok (.iinc 2 1, 3) := by decide +kernel
theorem dX0_turnTo_53 : decode cX0_turnTo 53 = .ok (.goto (-19), 3) := by decide +kernel
theorem dX0_turnTo_56 : decode cX0_turnTo 56 = .ok (.aload_n 0, 1) := by decide +kernel
theorem dX0_turnTo_57 : decode cX0_turnTo 57 = .ok (.invokevirtual 50, 3) := by decide +kernel
theorem dX0_turnTo_60 : decode cX0_turnTo 60 = .ok (.return_, 1) := by decide +kernel
theorem dX0_decide_0 : decode cX0_decide 0 = .ok (.iconst 0, 1) := by decide +kernel
theorem dX0_decide_1 : decode cX0_decide 1 = .ok (.istore_n 2, 1) := by decide +kernel
theorem dX0_decide_2 : decode cX0_decide 2 = .ok (.iconst 0, 1) := by decide +kernel
theorem dX0_decide_3 : decode cX0_decide 3 = .ok (.istore_n 3, 1) := by decide +kernel
theorem dX0_decide_4 : decode cX0_decide 4 = .ok (.iconst 0, 1) := by decide +kernel
theorem dX0_decide_5 : decode cX0_decide 5 = .ok (.istore 4, 2) := by decide +kernel
theorem dX0_decide_7 : decode cX0_decide 7 = .ok (.iload 4, 2) := by decide +kernel
theorem dX0_decide_9 : decode cX0_decide 9 = .ok (.aload_n 0, 1) := by decide +kernel
theorem dX0_decide_10 : decode cX0_decide 10 = .ok (.getfield 32, 3) := by decide +kernel
theorem dX0_decide_13 : decode cX0_decide 13 = .ok (.if_icmp .ge 67, 3) := by decide +kernel
theorem dX0_decide_16 : decode cX0_decide 16 = .ok (.aload_n 0, 1) := by decide +kernel
theorem dX0_decide_17 : decode cX0_decide 17 = .ok (.getfield 18, 3) := by decide +kernel
theorem dX0_decide_20 : decode cX0_decide 20 = .ok (.iload 4, 2) := by decide +kernel
theorem dX0_decide_22 : decode cX0_decide 22 = .ok (.iaload, 1) := by decide +kernel
theorem dX0_decide_23 : decode cX0_decide 23 = .ok (.istore 5, 2) := by decide +kernel
theorem dX0_decide_25 : decode cX0_decide 25 = .ok (.aload_n 0, 1) := by decide +kernel
theorem dX0_decide_26 : decode cX0_decide 26 = .ok (.iload_n 1, 1) := by decide +kernel
theorem dX0_decide_27 : decode cX0_decide 27 = .ok (.iload 5, 2) := by decide +kernel
theorem dX0_decide_29 : decode cX0_decide 29 = .ok (.invokevirtual 53, 3) := by decide +kernel
theorem dX0_decide_32 : decode cX0_decide 32 = .ok (.istore 6, 2) := by decide +kernel
theorem dX0_decide_34 : decode cX0_decide 34 = .ok (.iload 6, 2) := by decide +kernel
theorem dX0_decide_36 : decode cX0_decide 36 = .ok (.iconst 2, 1) := by decide +kernel
theorem dX0_decide_37 : decode cX0_decide 37 = .ok (.iand, 1) := by decide +kernel
theorem dX0_decide_38 : decode cX0_decide 38 = .ok (.ifCond .eq 18, 3) := by decide +kernel
theorem dX0_decide_41 : decode cX0_decide 41 = .ok (.aload_n 0, 1) := by decide +kernel
theorem dX0_decide_42 : decode cX0_decide 42 = .ok (.getfield 22, 3) := by decide +kernel
theorem dX0_decide_45 : decode cX0_decide 45 = .ok (.iload_n 3, 1) := by decide +kernel
theorem dX0_decide_46 : decode cX0_decide 46 = .ok (.iload 5, 2) := by decide +kernel
theorem dX0_decide_48 : decode cX0_decide 48 = .ok (.iconst 1, 1) := by decide +kernel
theorem dX0_decide_49 : decode cX0_decide 49 = .ok (.iload_n 1, 1) := by decide +kernel
theorem dX0_decide_50 : decode cX0_decide 50 = .ok (.ishl, 1) := by decide +kernel
theorem dX0_decide_51 : decode cX0_decide 51 = .ok (.ior, 1) := by decide +kernel
theorem dX0_decide_52 : decode cX0_decide 52 = .ok (.iastore, 1) := by decide +kernel
theorem dX0_decide_53 : decode cX0_decide 53 = .ok (.iinc 3 1, 3) := by decide +kernel
theorem dX0_decide_56 : decode cX0_decide 56 = .ok (.iload 6, 2) := by decide +kernel
theorem dX0_decide_58 : decode cX0_decide 58 = .ok (.iconst 1, 1) := by decide +kernel
theorem dX0_decide_59 : decode cX0_decide 59 = .ok (.iand, 1) := by decide +kernel
theorem dX0_decide_60 : decode cX0_decide 60 = .ok (.ifCond .eq 14, 3) := by decide +kernel
theorem dX0_decide_63 : decode cX0_decide 63 = .ok (.aload_n 0, 1) := by decide +kernel
theorem dX0_decide_64 : decode cX0_decide 64 = .ok (.getfield 18, 3) := by decide +kernel
theorem dX0_decide_67 : decode cX0_decide 67 = .ok (.iload_n 2, 1) := by decide +kernel
theorem dX0_decide_68 : decode cX0_decide 68 = .ok (.iload 5, 2) := by decide +kernel
theorem dX0_decide_70 : decode cX0_decide 70 = .ok (.iastore, 1) := by decide +kernel
theorem dX0_decide_71 : decode cX0_decide 71 = .ok (.iinc 2 1, 3) := by decide +kernel
theorem dX0_decide_74 : decode cX0_decide 74 = .ok (.iinc 4 1, 3) := by decide +kernel
theorem dX0_decide_77 : decode cX0_decide 77 = .ok (.goto (-70), 3) := by decide +kernel
theorem dX0_decide_80 : decode cX0_decide 80 = .ok (.aload_n 0, 1) := by decide +kernel
theorem dX0_decide_81 : decode cX0_decide 81 = .ok (.getfield 22, 3) := by decide +kernel
theorem dX0_decide_84 : decode cX0_decide 84 = .ok (.iconst 0, 1) := by decide +kernel
theorem dX0_decide_85 : decode cX0_decide 85 = .ok (.aload_n 0, 1) := by decide +kernel
theorem dX0_decide_86 : decode cX0_decide 86 = .ok (.getfield 18, 3) := by decide +kernel
theorem dX0_decide_89 : decode cX0_decide 89 = .ok (.iload_n 2, 1) := by decide +kernel
theorem dX0_decide_90 : decode cX0_decide 90 = .ok (.iload_n 3, 1) := by decide +kernel
theorem dX0_decide_91 : decode cX0_decide 91 = .ok (.invokestatic 57, 3) := by decide +kernel
theorem dX0_decide_94 : decode cX0_decide 94 = .ok (.aload_n 0, 1) := by decide +kernel
theorem dX0_decide_95 : decode cX0_decide 95 = .ok (.iload_n 2, 1) := by decide +kernel
theorem dX0_decide_96 : decode cX0_decide 96 = .ok (.iload_n 3, 1) := by decide +kernel
theorem dX0_decide_97 : decode cX0_decide 97 = .ok (.iadd, 1) := by decide +kernel
theorem dX0_decide_98 : decode cX0_decide 98 = .ok (.putfield 32, 3) := by decide +kernel
theorem dX0_decide_101 : decode cX0_decide 101 = .ok (.return_, 1) := by decide +kernel
theorem dX0_waysOf_0 : decode cX0_waysOf 0 = .ok (.aload_n 0, 1) := by decide +kernel
theorem dX0_waysOf_1 : decode cX0_waysOf 1 = .ok (.getfield 12, 3) := by decide +kernel
theorem dX0_waysOf_4 : decode cX0_waysOf 4 = .ok (.getfield 63, 3) := by decide +kernel
theorem dX0_waysOf_7 : decode cX0_waysOf 7 = .ok (.iload_n 1, 1) := by decide +kernel
theorem dX0_waysOf_8 : decode cX0_waysOf 8 = .ok (.iaload, 1) := by decide +kernel
theorem dX0_waysOf_9 : decode cX0_waysOf 9 = .ok (.istore_n 3, 1) := by decide +kernel
theorem dX0_waysOf_10 : decode cX0_waysOf 10 = .ok (.aload_n 0, 1) := by decide +kernel
theorem dX0_waysOf_11 : decode cX0_waysOf 11 = .ok (.getfield 12, 3) := by decide +kernel
theorem dX0_waysOf_14 : decode cX0_waysOf 14 = .ok (.getfield 66, 3) := by decide +kernel
theorem dX0_waysOf_17 : decode cX0_waysOf 17 = .ok (.iload_n 1, 1) := by decide +kernel
theorem dX0_waysOf_18 : decode cX0_waysOf 18 = .ok (.iaload, 1) := by decide +kernel
theorem dX0_waysOf_19 : decode cX0_waysOf 19 = .ok (.istore 4, 2) := by decide +kernel
theorem dX0_waysOf_21 : decode cX0_waysOf 21 = .ok (.aload_n 0, 1) := by decide +kernel
theorem dX0_waysOf_22 : decode cX0_waysOf 22 = .ok (.getfield 12, 3) := by decide +kernel
theorem dX0_waysOf_25 : decode cX0_waysOf 25 = .ok (.getfield 69, 3) := by decide +kernel
theorem dX0_waysOf_28 : decode cX0_waysOf 28 = .ok (.iload_n 1, 1) := by decide +kernel
theorem dX0_waysOf_29 : decode cX0_waysOf 29 = .ok (.iaload, 1) := by decide +kernel
theorem dX0_waysOf_30 : decode cX0_waysOf 30 = .ok (.tableswitch 109 0 4 #[34, 109, 36, 59, 82], 34) := by decide +kernel
theorem dX0_waysOf_64 : decode cX0_waysOf 64 = .ok (.iconst 3, 1) := by decide +kernel
theorem dX0_waysOf_65 : decode cX0_waysOf 65 = .ok (.ireturn, 1) := by decide +kernel
theorem dX0_waysOf_66 : decode cX0_waysOf 66 = .ok (.iload_n 2, 1) := by decide +kernel
theorem dX0_waysOf_67 : decode cX0_waysOf 67 = .ok (.iload_n 3, 1) := by decide +kernel
theorem dX0_waysOf_68 : decode cX0_waysOf 68 = .ok (.invokestatic 72, 3) := by decide +kernel
theorem dX0_waysOf_71 : decode cX0_waysOf 71 = .ok (.ifCond .eq 16, 3) := by decide +kernel
theorem dX0_waysOf_74 : decode cX0_waysOf 74 = .ok (.iload_n 2, 1) := by decide +kernel
theorem dX0_waysOf_75 : decode cX0_waysOf 75 = .ok (.iload 4, 2) := by decide +kernel
theorem dX0_waysOf_77 : decode cX0_waysOf 77 = .ok (.invokestatic 72, 3) := by decide +kernel
theorem dX0_waysOf_80 : decode cX0_waysOf 80 = .ok (.ifCond .eq 7, 3) := by decide +kernel
theorem dX0_waysOf_83 : decode cX0_waysOf 83 = .ok (.iconst 2, 1) := by decide +kernel
theorem dX0_waysOf_84 : decode cX0_waysOf 84 = .ok (.goto 4, 3) := by decide +kernel
theorem dX0_waysOf_87 : decode cX0_waysOf 87 = .ok (.iconst 1, 1) := by decide +kernel
theorem dX0_waysOf_88 : decode cX0_waysOf 88 = .ok (.ireturn, 1) := by decide +kernel
theorem dX0_waysOf_89 : decode cX0_waysOf 89 = .ok (.iload_n 2, 1) := by decide +kernel
theorem dX0_waysOf_90 : decode cX0_waysOf 90 = .ok (.iload_n 3, 1) := by decide +kernel
theorem dX0_waysOf_91 : decode cX0_waysOf 91 = .ok (.invokestatic 72, 3) := by decide +kernel
theorem dX0_waysOf_94 : decode cX0_waysOf 94 = .ok (.ifCond .ne 12, 3) := by decide +kernel
theorem dX0_waysOf_97 : decode cX0_waysOf 97 = .ok (.iload_n 2, 1) := by decide +kernel
theorem dX0_waysOf_98 : decode cX0_waysOf 98 = .ok (.iload 4, 2) := by decide +kernel
theorem dX0_waysOf_100 : decode cX0_waysOf 100 = .ok (.invokestatic 72, 3) := by decide +kernel
theorem dX0_waysOf_103 : decode cX0_waysOf 103 = .ok (.ifCond .eq 7, 3) := by decide +kernel
theorem dX0_waysOf_106 : decode cX0_waysOf 106 = .ok (.iconst 2, 1) := by decide +kernel
theorem dX0_waysOf_107 : decode cX0_waysOf 107 = .ok (.goto 4, 3) := by decide +kernel
theorem dX0_waysOf_110 : decode cX0_waysOf 110 = .ok (.iconst 1, 1) := by decide +kernel
theorem dX0_waysOf_111 : decode cX0_waysOf 111 = .ok (.ireturn, 1) := by decide +kernel
theorem dX0_waysOf_112 : decode cX0_waysOf 112 = .ok (.iload_n 2, 1) := by decide +kernel
theorem dX0_waysOf_113 : decode cX0_waysOf 113 = .ok (.iload 4, 2) := by decide +kernel
theorem dX0_waysOf_115 : decode cX0_waysOf 115 = .ok (.invokestatic 72, 3) := by decide +kernel
theorem dX0_waysOf_118 : decode cX0_waysOf 118 = .ok (.ifCond .eq 7, 3) := by decide +kernel
theorem dX0_waysOf_121 : decode cX0_waysOf 121 = .ok (.iconst 2, 1) := by decide +kernel
theorem dX0_waysOf_122 : decode cX0_waysOf 122 = .ok (.goto 16, 3) := by decide +kernel
theorem dX0_waysOf_125 : decode cX0_waysOf 125 = .ok (.iload_n 2, 1) := by decide +kernel
theorem dX0_waysOf_126 : decode cX0_waysOf 126 = .ok (.iload_n 3, 1) := by decide +kernel
theorem dX0_waysOf_127 : decode cX0_waysOf 127 = .ok (.invokestatic 72, 3) := by decide +kernel
theorem dX0_waysOf_130 : decode cX0_waysOf 130 = .ok (.ifCond .eq 7, 3) := by decide +kernel
theorem dX0_waysOf_133 : decode cX0_waysOf 133 = .ok (.iconst 1, 1) := by decide +kernel
theorem dX0_waysOf_134 : decode cX0_waysOf 134 = .ok (.goto 4, 3) := by decide +kernel
theorem dX0_waysOf_137 : decode cX0_waysOf 137 = .ok (.iconst 3, 1) := by decide +kernel
theorem dX0_waysOf_138 : decode cX0_waysOf 138 = .ok (.ireturn, 1) := by decide +kernel
theorem dX0_waysOf_139 : decode cX0_waysOf 139 = .ok (.iconst 1, 1) := by decide +kernel
theorem dX0_waysOf_140 : decode cX0_waysOf 140 = .ok (.ireturn, 1) := by decide +kernel
theorem dX0_sift_0 : decode cX0_sift 0 = .ok (.aload_n 0, 1) := by decide +kernel
theorem dX0_sift_1 : decode cX0_sift 1 = .ok (.invokevirtual 76, 3) := by decide +kernel
theorem dX0_sift_4 : decode cX0_sift 4 = .ok (.istore_n 1, 1) := by decide +kernel
theorem dX0_sift_5 : decode cX0_sift 5 = .ok (.aload_n 0, 1) := by decide +kernel
theorem dX0_sift_6 : decode cX0_sift 6 = .ok (.aload_n 0, 1) := by decide +kernel
theorem dX0_sift_7 : decode cX0_sift 7 = .ok (.getfield 32, 3) := by decide +kernel
theorem dX0_sift_10 : decode cX0_sift 10 = .ok (.putfield 28, 3) := by decide +kernel
theorem dX0_sift_13 : decode cX0_sift 13 = .ok (.aload_n 0, 1) := by decide +kernel
theorem dX0_sift_14 : decode cX0_sift 14 = .ok (.getfield 32, 3) := by decide +kernel
theorem dX0_sift_17 : decode cX0_sift 17 = .ok (.iconst 1, 1) := by decide +kernel
theorem dX0_sift_18 : decode cX0_sift 18 = .ok (.isub, 1) := by decide +kernel
theorem dX0_sift_19 : decode cX0_sift 19 = .ok (.istore_n 2, 1) := by decide +kernel
theorem dX0_sift_20 : decode cX0_sift 20 = .ok (.iload_n 2, 1) := by decide +kernel
theorem dX0_sift_21 : decode cX0_sift 21 = .ok (.ifCond .lt 29, 3) := by decide +kernel
theorem dX0_sift_24 : decode cX0_sift 24 = .ok (.aload_n 0, 1) := by decide +kernel
theorem dX0_sift_25 : decode cX0_sift 25 = .ok (.aload_n 0, 1) := by decide +kernel
theorem dX0_sift_26 : decode cX0_sift 26 = .ok (.getfield 18, 3) := by decide +kernel
theorem dX0_sift_29 : decode cX0_sift 29 = .ok (.iload_n 2, 1) := by decide +kernel
theorem dX0_sift_30 : decode cX0_sift 30 = .ok (.iaload, 1) := by decide +kernel
theorem dX0_sift_31 : decode cX0_sift 31 = .ok (.iload_n 1, 1) := by decide +kernel
theorem dX0_sift_32 : decode cX0_sift 32 = .ok (.aload_n 0, 1) := by decide +kernel
theorem dX0_sift_33 : decode cX0_sift 33 = .ok (.getfield 18, 3) := by decide +kernel
theorem dX0_sift_36 : decode cX0_sift 36 = .ok (.iload_n 2, 1) := by decide +kernel
theorem dX0_sift_37 : decode cX0_sift 37 = .ok (.iaload, 1) := by decide +kernel
theorem dX0_sift_38 : decode cX0_sift 38 = .ok (.iconst (-1), 1) := by decide +kernel
theorem dX0_sift_39 : decode cX0_sift 39 = .ok (.ixor, 1) := by decide +kernel
theorem dX0_sift_40 : decode cX0_sift 40 = .ok (.iand, 1) := by decide +kernel
theorem dX0_sift_41 : decode cX0_sift 41 = .ok (.invokevirtual 80, 3) := by decide +kernel
theorem dX0_sift_44 : decode cX0_sift 44 = .ok (.iinc 2 (-1), 3) := by decide +kernel
theorem dX0_sift_47 : decode cX0_sift 47 = .ok (.goto (-27), 3) := by decide +kernel
theorem dX0_sift_50 : decode cX0_sift 50 = .ok (.return_, 1) := by decide +kernel
theorem dX0_implications_0 : decode cX0_implications 0 = .ok (.iconst 0, 1) := by decide +kernel
theorem dX0_implications_1 : decode cX0_implications 1 = .ok (.istore_n 1, 1) := by decide +kernel
theorem dX0_implications_2 : decode cX0_implications 2 = .ok (.iconst 0, 1) := by decide +kernel
theorem dX0_implications_3 : decode cX0_implications 3 = .ok (.istore_n 2, 1) := by decide +kernel
theorem dX0_implications_4 : decode cX0_implications 4 = .ok (.iload_n 2, 1) := by decide +kernel
theorem dX0_implications_5 : decode cX0_implications 5 = .ok (.aload_n 0, 1) := by decide +kernel
theorem dX0_implications_6 : decode cX0_implications 6 = .ok (.getfield 12, 3) := by decide +kernel
theorem dX0_implications_9 : decode cX0_implications 9 = .ok (.getfield 43, 3) := by decide +kernel
theorem dX0_implications_12 : decode cX0_implications 12 = .ok (.if_icmp .ge 28, 3) := by decide +kernel
theorem dX0_implications_15 : decode cX0_implications 15 = .ok (.aload_n 0, 1) := by decide +kernel
theorem dX0_implications_16 : decode cX0_implications 16 = .ok (.getfield 12, 3) := by decide +kernel
theorem dX0_implications_19 : decode cX0_implications 19 = .ok (.getfield 69, 3) := by decide +kernel
theorem dX0_implications_22 : decode cX0_implications 22 = .ok (.iload_n 2, 1) := by decide +kernel
theorem dX0_implications_23 : decode cX0_implications 23 = .ok (.iaload, 1) := by decide +kernel
theorem dX0_implications_24 : decode cX0_implications 24 = .ok (.iconst 4, 1) := by decide +kernel
theorem dX0_implications_25 : decode cX0_implications 25 = .ok (.if_icmp .ne 9, 3) := by decide +kernel
theorem dX0_implications_28 : decode cX0_implications 28 = .ok (.iload_n 1, 1) := by decide +kernel
theorem dX0_implications_29 : decode cX0_implications 29 = .ok (.iconst 1, 1) := by decide +kernel
theorem dX0_implications_30 : decode cX0_implications 30 = .ok (.iload_n 2, 1) := by decide +kernel
theorem dX0_implications_31 : decode cX0_implications 31 = .ok (.ishl, 1) := by decide +kernel
theorem dX0_implications_32 : decode cX0_implications 32 = .ok (.ior, 1) := by decide +kernel
theorem dX0_implications_33 : decode cX0_implications 33 = .ok (.istore_n 1, 1) := by decide +kernel
theorem dX0_implications_34 : decode cX0_implications 34 = .ok (.iinc 2 1, 3) := by decide +kernel
theorem dX0_implications_37 : decode cX0_implications 37 = .ok (.goto (-33), 3) := by decide +kernel
theorem dX0_implications_40 : decode cX0_implications 40 = .ok (.iload_n 1, 1) := by decide +kernel
theorem dX0_implications_41 : decode cX0_implications 41 = .ok (.ireturn, 1) := by decide +kernel
theorem dX0_consider_0 : decode cX0_consider 0 = .ok (.aload_n 0, 1) := by decide +kernel
theorem dX0_consider_1 : decode cX0_consider 1 = .ok (.iload_n 1, 1) := by decide +kernel
theorem dX0_consider_2 : decode cX0_consider 2 = .ok (.iload_n 2, 1) := by decide +kernel
theorem dX0_consider_3 : decode cX0_consider 3 = .ok (.invokevirtual 84, 3) := by decide +kernel
theorem dX0_consider_6 : decode cX0_consider 6 = .ok (.istore_n 3, 1) := by decide +kernel
theorem dX0_consider_7 : decode cX0_consider 7 = .ok (.iload_n 2, 1) := by decide +kernel
theorem dX0_consider_8 : decode cX0_consider 8 = .ok (.iload_n 3, 1) := by decide +kernel
theorem dX0_consider_9 : decode cX0_consider 9 = .ok (.iconst (-1), 1) := by decide +kernel
theorem dX0_consider_10 : decode cX0_consider 10 = .ok (.ixor, 1) := by decide +kernel
theorem dX0_consider_11 : decode cX0_consider 11 = .ok (.iand, 1) := by decide +kernel
theorem dX0_consider_12 : decode cX0_consider 12 = .ok (.istore 4, 2) := by decide +kernel
theorem dX0_consider_14 : decode cX0_consider 14 = .ok (.iconst 0, 1) := by decide +kernel
theorem dX0_consider_15 : decode cX0_consider 15 = .ok (.istore 5, 2) := by decide +kernel
theorem dX0_consider_17 : decode cX0_consider 17 = .ok (.aload_n 0, 1) := by decide +kernel
theorem dX0_consider_18 : decode cX0_consider 18 = .ok (.getfield 28, 3) := by decide +kernel
theorem dX0_consider_21 : decode cX0_consider 21 = .ok (.istore 6, 2) := by decide +kernel
theorem dX0_consider_23 : decode cX0_consider 23 = .ok (.iload 6, 2) := by decide +kernel
theorem dX0_consider_25 : decode cX0_consider 25 = .ok (.aload_n 0, 1) := by decide +kernel
theorem dX0_consider_26 : decode cX0_consider 26 = .ok (.getfield 32, 3) := by decide +kernel
theorem dX0_consider_29 : decode cX0_consider 29 = .ok (.if_icmp .ge 52, 3) := by decide +kernel
theorem dX0_consider_32 : decode cX0_consider 32 = .ok (.aload_n 0, 1) := by decide +kernel
theorem dX0_consider_33 : decode cX0_consider 33 = .ok (.getfield 18, 3) := by decide +kernel
theorem dX0_consider_36 : decode cX0_consider 36 = .ok (.iload 6, 2) := by decide +kernel
theorem dX0_consider_38 : decode cX0_consider 38 = .ok (.iaload, 1) := by decide +kernel
theorem dX0_consider_39 : decode cX0_consider 39 = .ok (.iload_n 1, 1) := by decide +kernel
theorem dX0_consider_40 : decode cX0_consider 40 = .ok (.iand, 1) := by decide +kernel
theorem dX0_consider_41 : decode cX0_consider 41 = .ok (.iload_n 1, 1) := by decide +kernel
theorem dX0_consider_42 : decode cX0_consider 42 = .ok (.if_icmp .ne 33, 3) := by decide +kernel
theorem dX0_consider_45 : decode cX0_consider 45 = .ok (.iload 4, 2) := by decide +kernel
theorem dX0_consider_47 : decode cX0_consider 47 = .ok (.aload_n 0, 1) := by decide +kernel
theorem dX0_consider_48 : decode cX0_consider 48 = .ok (.getfield 22, 3) := by decide +kernel
theorem dX0_consider_51 : decode cX0_consider 51 = .ok (.iload 6, 2) := by decide +kernel
theorem dX0_consider_53 : decode cX0_consider 53 = .ok (.iaload, 1) := by decide +kernel
theorem dX0_consider_54 : decode cX0_consider 54 = .ok (.iconst (-1), 1) := by decide +kernel
theorem dX0_consider_55 : decode cX0_consider 55 = .ok (.ixor, 1) := by decide +kernel
theorem dX0_consider_56 : decode cX0_consider 56 = .ok (.iand, 1) := by decide +kernel
theorem dX0_consider_57 : decode cX0_consider 57 = .ok (.istore 4, 2) := by decide +kernel
theorem dX0_consider_59 : decode cX0_consider 59 = .ok (.iload 5, 2) := by decide +kernel
theorem dX0_consider_61 : decode cX0_consider 61 = .ok (.aload_n 0, 1) := by decide +kernel
theorem dX0_consider_62 : decode cX0_consider 62 = .ok (.getfield 25, 3) := by decide +kernel
theorem dX0_consider_65 : decode cX0_consider 65 = .ok (.iload 6, 2) := by decide +kernel
theorem dX0_consider_67 : decode cX0_consider 67 = .ok (.iaload, 1) := by decide +kernel
theorem dX0_consider_68 : decode cX0_consider 68 = .ok (.iconst 1, 1) := by decide +kernel
theorem dX0_consider_69 : decode cX0_consider 69 = .ok (.iadd, 1) := by decide +kernel
theorem dX0_consider_70 : decode cX0_consider 70 = .ok (.invokestatic 87, 3) := by decide +kernel
theorem dX0_consider_73 : decode cX0_consider 73 = .ok (.istore 5, 2) := by decide +kernel
theorem dX0_consider_75 : decode cX0_consider 75 = .ok (.iinc 6 1, 3) := by decide +kernel
theorem dX0_consider_78 : decode cX0_consider 78 = .ok (.goto (-55), 3) := by decide +kernel
theorem dX0_consider_81 : decode cX0_consider 81 = .ok (.iload 4, 2) := by decide +kernel
theorem dX0_consider_83 : decode cX0_consider 83 = .ok (.ifCond .ne 51, 3) := by decide +kernel
theorem dX0_consider_86 : decode cX0_consider 86 = .ok (.aload_n 0, 1) := by decide +kernel
theorem dX0_consider_87 : decode cX0_consider 87 = .ok (.getfield 28, 3) := by decide +kernel
theorem dX0_consider_90 : decode cX0_consider 90 = .ok (.ifCond .le 44, 3) := by decide +kernel
theorem dX0_consider_93 : decode cX0_consider 93 = .ok (.aload_n 0, 1) := by decide +kernel
theorem dX0_consider_94 : decode cX0_consider 94 = .ok (.dup, 1) := by decide +kernel
theorem dX0_consider_95 : decode cX0_consider 95 = .ok (.getfield 28, 3) := by decide +kernel
theorem dX0_consider_98 : decode cX0_consider 98 = .ok (.iconst 1, 1) := by decide +kernel
theorem dX0_consider_99 : decode cX0_consider 99 = .ok (.isub, 1) := by decide +kernel
theorem dX0_consider_100 : decode cX0_consider 100 = .ok (.putfield 28, 3) := by decide +kernel
theorem dX0_consider_103 : decode cX0_consider 103 = .ok (.aload_n 0, 1) := by decide +kernel
theorem dX0_consider_104 : decode cX0_consider 104 = .ok (.getfield 18, 3) := by decide +kernel
theorem dX0_consider_107 : decode cX0_consider 107 = .ok (.aload_n 0, 1) := by decide +kernel
theorem dX0_consider_108 : decode cX0_consider 108 = .ok (.getfield 28, 3) := by decide +kernel
theorem dX0_consider_111 : decode cX0_consider 111 = .ok (.iload_n 1, 1) := by decide +kernel
theorem dX0_consider_112 : decode cX0_consider 112 = .ok (.iastore, 1) := by decide +kernel
theorem dX0_consider_113 : decode cX0_consider 113 = .ok (.aload_n 0, 1) := by decide +kernel
theorem dX0_consider_114 : decode cX0_consider 114 = .ok (.getfield 22, 3) := by decide +kernel
theorem dX0_consider_117 : decode cX0_consider 117 = .ok (.aload_n 0, 1) := by decide +kernel
theorem dX0_consider_118 : decode cX0_consider 118 = .ok (.getfield 28, 3) := by decide +kernel
theorem dX0_consider_121 : decode cX0_consider 121 = .ok (.iload_n 3, 1) := by decide +kernel
theorem dX0_consider_122 : decode cX0_consider 122 = .ok (.iastore, 1) := by decide +kernel
theorem dX0_consider_123 : decode cX0_consider 123 = .ok (.aload_n 0, 1) := by decide +kernel
theorem dX0_consider_124 : decode cX0_consider 124 = .ok (.getfield 25, 3) := by decide +kernel
theorem dX0_consider_127 : decode cX0_consider 127 = .ok (.aload_n 0, 1) := by decide +kernel
theorem dX0_consider_128 : decode cX0_consider 128 = .ok (.getfield 28, 3) := by decide +kernel
theorem dX0_consider_131 : decode cX0_consider 131 = .ok (.iload 5, 2) := by decide +kernel
theorem dX0_consider_133 : decode cX0_consider 133 = .ok (.iastore, 1) := by decide +kernel
theorem dX0_consider_134 : decode cX0_consider 134 = .ok (.return_, 1) := by decide +kernel
theorem dX0_deniedBy_0 : decode cX0_deniedBy 0 = .ok (.iconst 0, 1) := by decide +kernel
theorem dX0_deniedBy_1 : decode cX0_deniedBy 1 = .ok (.istore_n 3, 1) := by decide +kernel
theorem dX0_deniedBy_2 : decode cX0_deniedBy 2 = .ok (.iconst 0, 1) := by decide +kernel
theorem dX0_deniedBy_3 : decode cX0_deniedBy 3 = .ok (.istore 4, 2) := by decide +kernel
theorem dX0_deniedBy_5 : decode cX0_deniedBy 5 = .ok (.iload 4, 2) := by decide +kernel
theorem dX0_deniedBy_7 : decode cX0_deniedBy 7 = .ok (.aload_n 0, 1) := by decide +kernel
theorem dX0_deniedBy_8 : decode cX0_deniedBy 8 = .ok (.getfield 12, 3) := by decide +kernel
theorem dX0_deniedBy_11 : decode cX0_deniedBy 11 = .ok (.getfield 43, 3) := by decide +kernel
theorem dX0_deniedBy_14 : decode cX0_deniedBy 14 = .ok (.if_icmp .ge 38, 3) := by decide +kernel
theorem dX0_deniedBy_17 : decode cX0_deniedBy 17 = .ok (.iload_n 2, 1) := by decide +kernel
theorem dX0_deniedBy_18 : decode cX0_deniedBy 18 = .ok (.iload 4, 2) := by decide +kernel
theorem dX0_deniedBy_20 : decode cX0_deniedBy 20 = .ok (.iushr, 1) := by decide +kernel
theorem dX0_deniedBy_21 : decode cX0_deniedBy 21 = .ok (.iload_n 1, 1) := by decide +kernel
theorem dX0_deniedBy_22 : decode cX0_deniedBy 22 = .ok (.aload_n 0, 1) := by decide +kernel
theorem dX0_deniedBy_23 : decode cX0_deniedBy 23 = .ok (.getfield 12, 3) := by decide +kernel
theorem dX0_deniedBy_26 : decode cX0_deniedBy 26 = .ok (.getfield 63, 3) := by decide +kernel
theorem dX0_deniedBy_29 : decode cX0_deniedBy 29 = .ok (.iload 4, 2) := by decide +kernel
theorem dX0_deniedBy_31 : decode cX0_deniedBy 31 = .ok (.iaload, 1) := by decide +kernel
theorem dX0_deniedBy_32 : decode cX0_deniedBy 32 = .ok (.iushr, 1) := by decide +kernel
theorem dX0_deniedBy_33 : decode cX0_deniedBy 33 = .ok (.iand, 1) := by decide +kernel
theorem dX0_deniedBy_34 : decode cX0_deniedBy 34 = .ok (.iconst 1, 1) := by decide +kernel
theorem dX0_deniedBy_35 : decode cX0_deniedBy 35 = .ok (.iand, 1) := by decide +kernel
theorem dX0_deniedBy_36 : decode cX0_deniedBy 36 = .ok (.ifCond .eq 10, 3) := by decide +kernel
theorem dX0_deniedBy_39 : decode cX0_deniedBy 39 = .ok (.iload_n 3, 1) := by decide +kernel
theorem dX0_deniedBy_40 : decode cX0_deniedBy 40 = .ok (.iconst 1, 1) := by decide +kernel
theorem dX0_deniedBy_41 : decode cX0_deniedBy 41 = .ok (.iload 4, 2) := by decide +kernel
theorem dX0_deniedBy_43 : decode cX0_deniedBy 43 = .ok (.ishl, 1) := by decide +kernel
theorem dX0_deniedBy_44 : decode cX0_deniedBy 44 = .ok (.ior, 1) := by decide +kernel
theorem dX0_deniedBy_45 : decode cX0_deniedBy 45 = .ok (.istore_n 3, 1) := by decide +kernel
theorem dX0_deniedBy_46 : decode cX0_deniedBy 46 = .ok (.iinc 4 1, 3) := by decide +kernel
theorem dX0_deniedBy_49 : decode cX0_deniedBy 49 = .ok (.goto (-44), 3) := by decide +kernel
theorem dX0_deniedBy_52 : decode cX0_deniedBy 52 = .ok (.iload_n 3, 1) := by decide +kernel
theorem dX0_deniedBy_53 : decode cX0_deniedBy 53 = .ok (.ireturn, 1) := by decide +kernel
theorem dX0_forces_0 : decode cX0_forces 0 = .ok (.aload_n 0, 1) := by decide +kernel
theorem dX0_forces_1 : decode cX0_forces 1 = .ok (.getfield 28, 3) := by decide +kernel
theorem dX0_forces_4 : decode cX0_forces 4 = .ok (.istore_n 3, 1) := by decide +kernel
theorem dX0_forces_5 : decode cX0_forces 5 = .ok (.iload_n 3, 1) := by decide +kernel
theorem dX0_forces_6 : decode cX0_forces 6 = .ok (.aload_n 0, 1) := by decide +kernel
theorem dX0_forces_7 : decode cX0_forces 7 = .ok (.getfield 32, 3) := by decide +kernel
theorem dX0_forces_10 : decode cX0_forces 10 = .ok (.if_icmp .ge 36, 3) := by decide +kernel
theorem dX0_forces_13 : decode cX0_forces 13 = .ok (.aload_n 0, 1) := by decide +kernel
theorem dX0_forces_14 : decode cX0_forces 14 = .ok (.getfield 18, 3) := by decide +kernel
theorem dX0_forces_17 : decode cX0_forces 17 = .ok (.iload_n 3, 1) := by decide +kernel
theorem dX0_forces_18 : decode cX0_forces 18 = .ok (.iaload, 1) := by decide +kernel
theorem dX0_forces_19 : decode cX0_forces 19 = .ok (.iload_n 1, 1) := by decide +kernel
theorem dX0_forces_20 : decode cX0_forces 20 = .ok (.iand, 1) := by decide +kernel
theorem dX0_forces_21 : decode cX0_forces 21 = .ok (.iload_n 1, 1) := by decide +kernel
theorem dX0_forces_22 : decode cX0_forces 22 = .ok (.if_icmp .ne 18, 3) := by decide +kernel
theorem dX0_forces_25 : decode cX0_forces 25 = .ok (.aload_n 0, 1) := by decide +kernel
theorem dX0_forces_26 : decode cX0_forces 26 = .ok (.getfield 18, 3) := by decide +kernel
theorem dX0_forces_29 : decode cX0_forces 29 = .ok (.iload_n 3, 1) := by decide +kernel
theorem dX0_forces_30 : decode cX0_forces 30 = .ok (.iaload, 1) := by decide +kernel
theorem dX0_forces_31 : decode cX0_forces 31 = .ok (.iload_n 2, 1) := by decide +kernel
theorem dX0_forces_32 : decode cX0_forces 32 = .ok (.invokestatic 72, 3) := by decide +kernel
theorem dX0_forces_35 : decode cX0_forces 35 = .ok (.ifCond .ne 5, 3) := by decide +kernel
theorem dX0_forces_38 : decode cX0_forces 38 = .ok (.iconst 0, 1) := by decide +kernel
theorem dX0_forces_39 : decode cX0_forces 39 = .ok (.ireturn, 1) := by decide +kernel
theorem dX0_forces_40 : decode cX0_forces 40 = .ok (.iinc 3 1, 3) := by decide +kernel
theorem dX0_forces_43 : decode cX0_forces 43 = .ok (.goto (-38), 3) := by decide +kernel
theorem dX0_forces_46 : decode cX0_forces 46 = .ok (.iconst 1, 1) := by decide +kernel
theorem dX0_forces_47 : decode cX0_forces 47 = .ok (.ireturn, 1) := by decide +kernel
theorem dX0_size_0 : decode cX0_size 0 = .ok (.aload_n 0, 1) := by decide +kernel
theorem dX0_size_1 : decode cX0_size 1 = .ok (.getfield 32, 3) := by decide +kernel
theorem dX0_size_4 : decode cX0_size 4 = .ok (.aload_n 0, 1) := by decide +kernel
theorem dX0_size_5 : decode cX0_size 5 = .ok (.getfield 28, 3) := by decide +kernel
theorem dX0_size_8 : decode cX0_size 8 = .ok (.isub, 1) := by decide +kernel
theorem dX0_size_9 : decode cX0_size 9 = .ok (.ireturn, 1) := by decide +kernel
theorem dX0_setAt_0 : decode cX0_setAt 0 = .ok (.aload_n 0, 1) := by decide +kernel
theorem dX0_setAt_1 : decode cX0_setAt 1 = .ok (.getfield 18, 3) := by decide +kernel
theorem dX0_setAt_4 : decode cX0_setAt 4 = .ok (.aload_n 0, 1) := by decide +kernel
theorem dX0_setAt_5 : decode cX0_setAt 5 = .ok (.getfield 28, 3) := by decide +kernel
theorem dX0_setAt_8 : decode cX0_setAt 8 = .ok (.iload_n 1, 1) := by decide +kernel
theorem dX0_setAt_9 : decode cX0_setAt 9 = .ok (.iadd, 1) := by decide +kernel
theorem dX0_setAt_10 : decode cX0_setAt 10 = .ok (.iaload, 1) := by decide +kernel
theorem dX0_setAt_11 : decode cX0_setAt 11 = .ok (.ireturn, 1) := by decide +kernel
theorem dX0_heightAt_0 : decode cX0_heightAt 0 = .ok (.aload_n 0, 1) := by decide +kernel
theorem dX0_heightAt_1 : decode cX0_heightAt 1 = .ok (.getfield 25, 3) := by decide +kernel
theorem dX0_heightAt_4 : decode cX0_heightAt 4 = .ok (.aload_n 0, 1) := by decide +kernel
theorem dX0_heightAt_5 : decode cX0_heightAt 5 = .ok (.getfield 28, 3) := by decide +kernel
theorem dX0_heightAt_8 : decode cX0_heightAt 8 = .ok (.iload_n 1, 1) := by decide +kernel
theorem dX0_heightAt_9 : decode cX0_heightAt 9 = .ok (.iadd, 1) := by decide +kernel
theorem dX0_heightAt_10 : decode cX0_heightAt 10 = .ok (.iaload, 1) := by decide +kernel
theorem dX0_heightAt_11 : decode cX0_heightAt 11 = .ok (.ireturn, 1) := by decide +kernel
theorem dX0_above_0 : decode cX0_above 0 = .ok (.aload_n 0, 1) := by decide +kernel
theorem dX0_above_1 : decode cX0_above 1 = .ok (.iload_n 1, 1) := by decide +kernel
theorem dX0_above_2 : decode cX0_above 2 = .ok (.invokevirtual 92, 3) := by decide +kernel
theorem dX0_above_5 : decode cX0_above 5 = .ok (.istore_n 2, 1) := by decide +kernel
theorem dX0_above_6 : decode cX0_above 6 = .ok (.iconst 0, 1) := by decide +kernel
theorem dX0_above_7 : decode cX0_above 7 = .ok (.istore_n 3, 1) := by decide +kernel
theorem dX0_above_8 : decode cX0_above 8 = .ok (.aload_n 0, 1) := by decide +kernel
theorem dX0_above_9 : decode cX0_above 9 = .ok (.getfield 28, 3) := by decide +kernel
theorem dX0_above_12 : decode cX0_above 12 = .ok (.iload_n 1, 1) := by decide +kernel
theorem dX0_above_13 : decode cX0_above 13 = .ok (.iadd, 1) := by decide +kernel
theorem dX0_above_14 : decode cX0_above 14 = .ok (.iconst 1, 1) := by decide +kernel
theorem dX0_above_15 : decode cX0_above 15 = .ok (.iadd, 1) := by decide +kernel
theorem dX0_above_16 : decode cX0_above 16 = .ok (.istore 4, 2) := by decide +kernel
theorem dX0_above_18 : decode cX0_above 18 = .ok (.iload 4, 2) := by decide +kernel
theorem dX0_above_20 : decode cX0_above 20 = .ok (.aload_n 0, 1) := by decide +kernel
theorem dX0_above_21 : decode cX0_above 21 = .ok (.getfield 32, 3) := by decide +kernel
theorem dX0_above_24 : decode cX0_above 24 = .ok (.if_icmp .ge 25, 3) := by decide +kernel
theorem dX0_above_27 : decode cX0_above 27 = .ok (.aload_n 0, 1) := by decide +kernel
theorem dX0_above_28 : decode cX0_above 28 = .ok (.getfield 18, 3) := by decide +kernel
theorem dX0_above_31 : decode cX0_above 31 = .ok (.iload 4, 2) := by decide +kernel
theorem dX0_above_33 : decode cX0_above 33 = .ok (.iaload, 1) := by decide +kernel
theorem dX0_above_34 : decode cX0_above 34 = .ok (.iload_n 2, 1) := by decide +kernel
theorem dX0_above_35 : decode cX0_above 35 = .ok (.iand, 1) := by decide +kernel
theorem dX0_above_36 : decode cX0_above 36 = .ok (.iload_n 2, 1) := by decide +kernel
theorem dX0_above_37 : decode cX0_above 37 = .ok (.if_icmp .ne 6, 3) := by decide +kernel
theorem dX0_above_40 : decode cX0_above 40 = .ok (.iinc 3 1, 3) := by decide +kernel
theorem dX0_above_43 : decode cX0_above 43 = .ok (.iinc 4 1, 3) := by decide +kernel
theorem dX0_above_46 : decode cX0_above 46 = .ok (.goto (-28), 3) := by decide +kernel
theorem dX0_above_49 : decode cX0_above 49 = .ok (.iload_n 3, 1) := by decide +kernel
theorem dX0_above_50 : decode cX0_above 50 = .ok (.ireturn, 1) := by decide +kernel
theorem dX0_refuting_0 : decode cX0_refuting 0 = .ok (.iconst 0, 1) := by decide +kernel
theorem dX0_refuting_1 : decode cX0_refuting 1 = .ok (.istore_n 1, 1) := by decide +kernel
theorem dX0_refuting_2 : decode cX0_refuting 2 = .ok (.aload_n 0, 1) := by decide +kernel
theorem dX0_refuting_3 : decode cX0_refuting 3 = .ok (.getfield 28, 3) := by decide +kernel
theorem dX0_refuting_6 : decode cX0_refuting 6 = .ok (.istore_n 2, 1) := by decide +kernel
theorem dX0_refuting_7 : decode cX0_refuting 7 = .ok (.iload_n 2, 1) := by decide +kernel
theorem dX0_refuting_8 : decode cX0_refuting 8 = .ok (.aload_n 0, 1) := by decide +kernel
theorem dX0_refuting_9 : decode cX0_refuting 9 = .ok (.getfield 32, 3) := by decide +kernel
theorem dX0_refuting_12 : decode cX0_refuting 12 = .ok (.if_icmp .ge 31, 3) := by decide +kernel
theorem dX0_refuting_15 : decode cX0_refuting 15 = .ok (.aload_n 0, 1) := by decide +kernel
theorem dX0_refuting_16 : decode cX0_refuting 16 = .ok (.getfield 18, 3) := by decide +kernel
theorem dX0_refuting_19 : decode cX0_refuting 19 = .ok (.iload_n 2, 1) := by decide +kernel
theorem dX0_refuting_20 : decode cX0_refuting 20 = .ok (.iaload, 1) := by decide +kernel
theorem dX0_refuting_21 : decode cX0_refuting 21 = .ok (.aload_n 0, 1) := by decide +kernel
theorem dX0_refuting_22 : decode cX0_refuting 22 = .ok (.getfield 12, 3) := by decide +kernel
theorem dX0_refuting_25 : decode cX0_refuting 25 = .ok (.invokevirtual 96, 3) := by decide +kernel
theorem dX0_refuting_28 : decode cX0_refuting 28 = .ok (.invokestatic 72, 3) := by decide +kernel
theorem dX0_refuting_31 : decode cX0_refuting 31 = .ok (.ifCond .ne 6, 3) := by decide +kernel
theorem dX0_refuting_34 : decode cX0_refuting 34 = .ok (.iinc 1 1, 3) := by decide +kernel
theorem dX0_refuting_37 : decode cX0_refuting 37 = .ok (.iinc 2 1, 3) := by decide +kernel
theorem dX0_refuting_40 : decode cX0_refuting 40 = .ok (.goto (-33), 3) := by decide +kernel
theorem dX0_refuting_43 : decode cX0_refuting 43 = .ok (.iload_n 1, 1) := by decide +kernel
theorem dX0_refuting_44 : decode cX0_refuting 44 = .ok (.ireturn, 1) := by decide +kernel
theorem dX0_leastRefuting_0 : decode cX0_leastRefuting 0 = .ok (.aload_n 0, 1) := by decide +kernel
theorem dX0_leastRefuting_1 : decode cX0_leastRefuting 1 = .ok (.getfield 28, 3) := by decide +kernel
theorem dX0_leastRefuting_4 : decode cX0_leastRefuting 4 = .ok (.aload_n 0, 1) := by decide +kernel
theorem dX0_leastRefuting_5 : decode cX0_leastRefuting 5 = .ok (.getfield 32, 3) := by decide +kernel
theorem dX0_leastRefuting_8 : decode cX0_leastRefuting 8 = .ok (.if_icmp .ge 37, 3) := by decide +kernel
theorem dX0_leastRefuting_11 : decode cX0_leastRefuting 11 = .ok (.aload_n 0, 1) := by decide +kernel
theorem dX0_leastRefuting_12 : decode cX0_leastRefuting 12 = .ok (.getfield 18, 3) := by decide +kernel
theorem dX0_leastRefuting_15 : decode cX0_leastRefuting 15 = .ok (.aload_n 0, 1) := by decide +kernel
theorem dX0_leastRefuting_16 : decode cX0_leastRefuting 16 = .ok (.getfield 28, 3) := by decide +kernel
theorem dX0_leastRefuting_19 : decode cX0_leastRefuting 19 = .ok (.iaload, 1) := by decide +kernel
theorem dX0_leastRefuting_20 : decode cX0_leastRefuting 20 = .ok (.aload_n 0, 1) := by decide +kernel
theorem dX0_leastRefuting_21 : decode cX0_leastRefuting 21 = .ok (.getfield 12, 3) := by decide +kernel
theorem dX0_leastRefuting_24 : decode cX0_leastRefuting 24 = .ok (.invokevirtual 96, 3) := by decide +kernel
theorem dX0_leastRefuting_27 : decode cX0_leastRefuting 27 = .ok (.invokestatic 72, 3) := by decide +kernel
theorem dX0_leastRefuting_30 : decode cX0_leastRefuting 30 = .ok (.ifCond .ne 15, 3) := by decide +kernel
theorem dX0_leastRefuting_33 : decode cX0_leastRefuting 33 = .ok (.aload_n 0, 1) := by decide +kernel
theorem dX0_leastRefuting_34 : decode cX0_leastRefuting 34 = .ok (.getfield 18, 3) := by decide +kernel
theorem dX0_leastRefuting_37 : decode cX0_leastRefuting 37 = .ok (.aload_n 0, 1) := by decide +kernel
theorem dX0_leastRefuting_38 : decode cX0_leastRefuting 38 = .ok (.getfield 28, 3) := by decide +kernel
theorem dX0_leastRefuting_41 : decode cX0_leastRefuting 41 = .ok (.iaload, 1) := by decide +kernel
theorem dX0_leastRefuting_42 : decode cX0_leastRefuting 42 = .ok (.goto 5, 3) := by decide +kernel
theorem dX0_leastRefuting_45 : decode cX0_leastRefuting 45 = .ok (.bipush (-6), 2) := by decide +kernel
theorem dX0_leastRefuting_47 : decode cX0_leastRefuting 47 = .ok (.ireturn, 1) := by decide +kernel
theorem dX0_highest_0 : decode cX0_highest 0 = .ok (.iconst 0, 1) := by decide +kernel
theorem dX0_highest_1 : decode cX0_highest 1 = .ok (.istore_n 1, 1) := by decide +kernel
theorem dX0_highest_2 : decode cX0_highest 2 = .ok (.aload_n 0, 1) := by decide +kernel
theorem dX0_highest_3 : decode cX0_highest 3 = .ok (.getfield 28, 3) := by decide +kernel
theorem dX0_highest_6 : decode cX0_highest 6 = .ok (.istore_n 2, 1) := by decide +kernel
theorem dX0_highest_7 : decode cX0_highest 7 = .ok (.iload_n 2, 1) := by decide +kernel
theorem dX0_highest_8 : decode cX0_highest 8 = .ok (.aload_n 0, 1) := by decide +kernel
theorem dX0_highest_9 : decode cX0_highest 9 = .ok (.getfield 32, 3) := by decide +kernel
theorem dX0_highest_12 : decode cX0_highest 12 = .ok (.if_icmp .ge 21, 3) := by decide +kernel
theorem dX0_highest_15 : decode cX0_highest 15 = .ok (.aload_n 0, 1) := by decide +kernel
theorem dX0_highest_16 : decode cX0_highest 16 = .ok (.getfield 25, 3) := by decide +kernel
theorem dX0_highest_19 : decode cX0_highest 19 = .ok (.iload_n 2, 1) := by decide +kernel
theorem dX0_highest_20 : decode cX0_highest 20 = .ok (.iaload, 1) := by decide +kernel
theorem dX0_highest_21 : decode cX0_highest 21 = .ok (.ifCond .ne 6, 3) := by decide +kernel
theorem dX0_highest_24 : decode cX0_highest 24 = .ok (.iinc 1 1, 3) := by decide +kernel
theorem dX0_highest_27 : decode cX0_highest 27 = .ok (.iinc 2 1, 3) := by decide +kernel
theorem dX0_highest_30 : decode cX0_highest 30 = .ok (.goto (-23), 3) := by decide +kernel
theorem dX0_highest_33 : decode cX0_highest 33 = .ok (.iload_n 1, 1) := by decide +kernel
theorem dX0_highest_34 : decode cX0_highest 34 = .ok (.ireturn, 1) := by decide +kernel
theorem dX0_greatestHeight_0 : decode cX0_greatestHeight 0 = .ok (.iconst 0, 1) := by decide +kernel
theorem dX0_greatestHeight_1 : decode cX0_greatestHeight 1 = .ok (.istore_n 1, 1) := by decide +kernel
theorem dX0_greatestHeight_2 : decode cX0_greatestHeight 2 = .ok (.aload_n 0, 1) := by decide +kernel
theorem dX0_greatestHeight_3 : decode cX0_greatestHeight 3 = .ok (.getfield 28, 3) := by decide +kernel
theorem dX0_greatestHeight_6 : decode cX0_greatestHeight 6 = .ok (.istore_n 2, 1) := by decide +kernel
theorem dX0_greatestHeight_7 : decode cX0_greatestHeight 7 = .ok (.iload_n 2, 1) := by decide +kernel
theorem dX0_greatestHeight_8 : decode cX0_greatestHeight 8 = .ok (.aload_n 0, 1) := by decide +kernel
theorem dX0_greatestHeight_9 : decode cX0_greatestHeight 9 = .ok (.getfield 32, 3) := by decide +kernel
theorem dX0_greatestHeight_12 : decode cX0_greatestHeight 12 = .ok (.if_icmp .ge 20, 3) := by decide +kernel
theorem dX0_greatestHeight_15 : decode cX0_greatestHeight 15 = .ok (.iload_n 1, 1) := by decide +kernel
theorem dX0_greatestHeight_16 : decode cX0_greatestHeight 16 = .ok (.aload_n 0, 1) := by decide +kernel
theorem dX0_greatestHeight_17 : decode cX0_greatestHeight 17 = .ok (.getfield 25, 3) := by decide +kernel
theorem dX0_greatestHeight_20 : decode cX0_greatestHeight 20 = .ok (.iload_n 2, 1) := by decide +kernel
theorem dX0_greatestHeight_21 : decode cX0_greatestHeight 21 = .ok (.iaload, 1) := by decide +kernel
theorem dX0_greatestHeight_22 : decode cX0_greatestHeight 22 = .ok (.invokestatic 87, 3) := by decide +kernel
theorem dX0_greatestHeight_25 : decode cX0_greatestHeight 25 = .ok (.istore_n 1, 1) := by decide +kernel
theorem dX0_greatestHeight_26 : decode cX0_greatestHeight 26 = .ok (.iinc 2 1, 3) := by decide +kernel
theorem dX0_greatestHeight_29 : decode cX0_greatestHeight 29 = .ok (.goto (-22), 3) := by decide +kernel
theorem dX0_greatestHeight_32 : decode cX0_greatestHeight 32 = .ok (.iload_n 1, 1) := by decide +kernel
theorem dX0_greatestHeight_33 : decode cX0_greatestHeight 33 = .ok (.ireturn, 1) := by decide +kernel
theorem dX0_lowest_0 : decode cX0_lowest 0 = .ok (.iconst 0, 1) := by decide +kernel
theorem dX0_lowest_1 : decode cX0_lowest 1 = .ok (.istore_n 1, 1) := by decide +kernel
theorem dX0_lowest_2 : decode cX0_lowest 2 = .ok (.aload_n 0, 1) := by decide +kernel
theorem dX0_lowest_3 : decode cX0_lowest 3 = .ok (.getfield 28, 3) := by decide +kernel
theorem dX0_lowest_6 : decode cX0_lowest 6 = .ok (.istore_n 2, 1) := by decide +kernel
theorem dX0_lowest_7 : decode cX0_lowest 7 = .ok (.iload_n 2, 1) := by decide +kernel
theorem dX0_lowest_8 : decode cX0_lowest 8 = .ok (.aload_n 0, 1) := by decide +kernel
theorem dX0_lowest_9 : decode cX0_lowest 9 = .ok (.getfield 32, 3) := by decide +kernel
theorem dX0_lowest_12 : decode cX0_lowest 12 = .ok (.if_icmp .ge 20, 3) := by decide +kernel
theorem dX0_lowest_15 : decode cX0_lowest 15 = .ok (.aload_n 0, 1) := by decide +kernel
theorem dX0_lowest_16 : decode cX0_lowest 16 = .ok (.iload_n 2, 1) := by decide +kernel
theorem dX0_lowest_17 : decode cX0_lowest 17 = .ok (.invokevirtual 99, 3) := by decide +kernel
theorem dX0_lowest_20 : decode cX0_lowest 20 = .ok (.ifCond .ne 6, 3) := by decide +kernel
theorem dX0_lowest_23 : decode cX0_lowest 23 = .ok (.iinc 1 1, 3) := by decide +kernel
theorem dX0_lowest_26 : decode cX0_lowest 26 = .ok (.iinc 2 1, 3) := by decide +kernel
theorem dX0_lowest_29 : decode cX0_lowest 29 = .ok (.goto (-22), 3) := by decide +kernel
theorem dX0_lowest_32 : decode cX0_lowest 32 = .ok (.iload_n 1, 1) := by decide +kernel
theorem dX0_lowest_33 : decode cX0_lowest 33 = .ok (.ireturn, 1) := by decide +kernel
theorem dX0_isAboveAny_0 : decode cX0_isAboveAny 0 = .ok (.aload_n 0, 1) := by decide +kernel
theorem dX0_isAboveAny_1 : decode cX0_isAboveAny 1 = .ok (.getfield 28, 3) := by decide +kernel
theorem dX0_isAboveAny_4 : decode cX0_isAboveAny 4 = .ok (.istore_n 2, 1) := by decide +kernel
theorem dX0_isAboveAny_5 : decode cX0_isAboveAny 5 = .ok (.iload_n 2, 1) := by decide +kernel
theorem dX0_isAboveAny_6 : decode cX0_isAboveAny 6 = .ok (.iload_n 1, 1) := by decide +kernel
theorem dX0_isAboveAny_7 : decode cX0_isAboveAny 7 = .ok (.if_icmp .ge 33, 3) := by decide +kernel
theorem dX0_isAboveAny_10 : decode cX0_isAboveAny 10 = .ok (.aload_n 0, 1) := by decide +kernel
theorem dX0_isAboveAny_11 : decode cX0_isAboveAny 11 = .ok (.getfield 18, 3) := by decide +kernel
theorem dX0_isAboveAny_14 : decode cX0_isAboveAny 14 = .ok (.iload_n 2, 1) := by decide +kernel
theorem dX0_isAboveAny_15 : decode cX0_isAboveAny 15 = .ok (.iaload, 1) := by decide +kernel
theorem dX0_isAboveAny_16 : decode cX0_isAboveAny 16 = .ok (.aload_n 0, 1) := by decide +kernel
theorem dX0_isAboveAny_17 : decode cX0_isAboveAny 17 = .ok (.getfield 18, 3) := by decide +kernel
theorem dX0_isAboveAny_20 : decode cX0_isAboveAny 20 = .ok (.iload_n 1, 1) := by decide +kernel
theorem dX0_isAboveAny_21 : decode cX0_isAboveAny 21 = .ok (.iaload, 1) := by decide +kernel
theorem dX0_isAboveAny_22 : decode cX0_isAboveAny 22 = .ok (.iand, 1) := by decide +kernel
theorem dX0_isAboveAny_23 : decode cX0_isAboveAny 23 = .ok (.aload_n 0, 1) := by decide +kernel
theorem dX0_isAboveAny_24 : decode cX0_isAboveAny 24 = .ok (.getfield 18, 3) := by decide +kernel
theorem dX0_isAboveAny_27 : decode cX0_isAboveAny 27 = .ok (.iload_n 2, 1) := by decide +kernel
theorem dX0_isAboveAny_28 : decode cX0_isAboveAny 28 = .ok (.iaload, 1) := by decide +kernel
theorem dX0_isAboveAny_29 : decode cX0_isAboveAny 29 = .ok (.if_icmp .ne 5, 3) := by decide +kernel
theorem dX0_isAboveAny_32 : decode cX0_isAboveAny 32 = .ok (.iconst 1, 1) := by decide +kernel
theorem dX0_isAboveAny_33 : decode cX0_isAboveAny 33 = .ok (.ireturn, 1) := by decide +kernel
theorem dX0_isAboveAny_34 : decode cX0_isAboveAny 34 = .ok (.iinc 2 1, 3) := by decide +kernel
theorem dX0_isAboveAny_37 : decode cX0_isAboveAny 37 = .ok (.goto (-32), 3) := by decide +kernel
theorem dX0_isAboveAny_40 : decode cX0_isAboveAny 40 = .ok (.iconst 0, 1) := by decide +kernel
theorem dX0_isAboveAny_41 : decode cX0_isAboveAny 41 = .ok (.ireturn, 1) := by decide +kernel
end
section
theorem dX1_init_0 : decode cX1_init 0 = .ok (.aload_n 0, 1) := by decide +kernel
theorem dX1_init_1 : decode cX1_init 1 = .ok (.invokespecial 3, 3) := by decide +kernel
theorem dX1_init_4 : decode cX1_init 4 = .ok (.aload_n 0, 1) := by decide +kernel
theorem dX1_init_5 : decode cX1_init 5 = .ok (.iconst 0, 1) := by decide +kernel
theorem dX1_init_6 : decode cX1_init 6 = .ok (.putfield 9, 3) := by decide +kernel
theorem dX1_init_9 : decode cX1_init 9 = .ok (.aload_n 0, 1) := by decide +kernel
theorem dX1_init_10 : decode cX1_init 10 = .ok (.iconst 0, 1) := by decide +kernel
theorem dX1_init_11 : decode cX1_init 11 = .ok (.putfield 15, 3) := by decide +kernel
theorem dX1_init_14 : decode cX1_init 14 = .ok (.aload_n 0, 1) := by decide +kernel
theorem dX1_init_15 : decode cX1_init 15 = .ok (.bipush 11, 2) := by decide +kernel
theorem dX1_init_17 : decode cX1_init 17 = .ok (.newarray .int, 2) := by decide +kernel
theorem dX1_init_19 : decode cX1_init 19 = .ok (.putfield 19, 3) := by decide +kernel
theorem dX1_init_22 : decode cX1_init 22 = .ok (.aload_n 0, 1) := by decide +kernel
theorem dX1_init_23 : decode cX1_init 23 = .ok (.bipush 11, 2) := by decide +kernel
theorem dX1_init_25 : decode cX1_init 25 = .ok (.newarray .int, 2) := by decide +kernel
theorem dX1_init_27 : decode cX1_init 27 = .ok (.putfield 23, 3) := by decide +kernel
theorem dX1_init_30 : decode cX1_init 30 = .ok (.aload_n 0, 1) := by decide +kernel
theorem dX1_init_31 : decode cX1_init 31 = .ok (.bipush 11, 2) := by decide +kernel
theorem dX1_init_33 : decode cX1_init 33 = .ok (.newarray .int, 2) := by decide +kernel
theorem dX1_init_35 : decode cX1_init 35 = .ok (.putfield 26, 3) := by decide +kernel
theorem dX1_init_38 : decode cX1_init 38 = .ok (.aload_n 0, 1) := by decide +kernel
theorem dX1_init_39 : decode cX1_init 39 = .ok (.bipush 11, 2) := by decide +kernel
theorem dX1_init_41 : decode cX1_init 41 = .ok (.newarray .int, 2) := by decide +kernel
theorem dX1_init_43 : decode cX1_init 43 = .ok (.putfield 29, 3) := by decide +kernel
theorem dX1_init_46 : decode cX1_init 46 = .ok (.aload_n 0, 1) := by decide +kernel
theorem dX1_init_47 : decode cX1_init 47 = .ok (.bipush 11, 2) := by decide +kernel
theorem dX1_init_49 : decode cX1_init 49 = .ok (.newarray .int, 2) := by decide +kernel
theorem dX1_init_51 : decode cX1_init 51 = .ok (.putfield 32, 3) := by decide +kernel
theorem dX1_init_54 : decode cX1_init 54 = .ok (.aload_n 0, 1) := by decide +kernel
theorem dX1_init_55 : decode cX1_init 55 = .ok (.bipush 11, 2) := by decide +kernel
theorem dX1_init_57 : decode cX1_init 57 = .ok (.newarray .int, 2) := by decide +kernel
theorem dX1_init_59 : decode cX1_init 59 = .ok (.putfield 35, 3) := by decide +kernel
theorem dX1_init_62 : decode cX1_init 62 = .ok (.return_, 1) := by decide +kernel
theorem dX1_clear_0 : decode cX1_clear 0 = .ok (.aload_n 0, 1) := by decide +kernel
theorem dX1_clear_1 : decode cX1_clear 1 = .ok (.iconst 0, 1) := by decide +kernel
theorem dX1_clear_2 : decode cX1_clear 2 = .ok (.putfield 9, 3) := by decide +kernel
theorem dX1_clear_5 : decode cX1_clear 5 = .ok (.aload_n 0, 1) := by decide +kernel
theorem dX1_clear_6 : decode cX1_clear 6 = .ok (.iconst 0, 1) := by decide +kernel
theorem dX1_clear_7 : decode cX1_clear 7 = .ok (.putfield 15, 3) := by decide +kernel
theorem dX1_clear_10 : decode cX1_clear 10 = .ok (.return_, 1) := by decide +kernel
theorem dX1_copyFrom_0 : decode cX1_copyFrom 0 = .ok (.aload_n 0, 1) := by decide +kernel
theorem dX1_copyFrom_1 : decode cX1_copyFrom 1 = .ok (.aload_n 1, 1) := by decide +kernel
theorem dX1_copyFrom_2 : decode cX1_copyFrom 2 = .ok (.getfield 9, 3) := by decide +kernel
theorem dX1_copyFrom_5 : decode cX1_copyFrom 5 = .ok (.putfield 9, 3) := by decide +kernel
theorem dX1_copyFrom_8 : decode cX1_copyFrom 8 = .ok (.aload_n 0, 1) := by decide +kernel
theorem dX1_copyFrom_9 : decode cX1_copyFrom 9 = .ok (.aload_n 1, 1) := by decide +kernel
theorem dX1_copyFrom_10 : decode cX1_copyFrom 10 = .ok (.getfield 15, 3) := by decide +kernel
theorem dX1_copyFrom_13 : decode cX1_copyFrom 13 = .ok (.putfield 15, 3) := by decide +kernel
theorem dX1_copyFrom_16 : decode cX1_copyFrom 16 = .ok (.iconst 0, 1) := by decide +kernel
theorem dX1_copyFrom_17 : decode cX1_copyFrom 17 = .ok (.istore_n 2, 1) := by decide +kernel
theorem dX1_copyFrom_18 : decode cX1_copyFrom 18 = .ok (.iload_n 2, 1) := by decide +kernel
theorem dX1_copyFrom_19 : decode cX1_copyFrom 19 = .ok (.aload_n 1, 1) := by decide +kernel
theorem dX1_copyFrom_20 : decode cX1_copyFrom 20 = .ok (.getfield 9, 3) := by decide +kernel
theorem dX1_copyFrom_23 : decode cX1_copyFrom 23 = .ok (.if_icmp .ge 69, 3) := by decide +kernel
theorem dX1_copyFrom_26 : decode cX1_copyFrom 26 = .ok (.aload_n 0, 1) := by decide +kernel
theorem dX1_copyFrom_27 : decode cX1_copyFrom 27 = .ok (.getfield 19, 3) := by decide +kernel
theorem dX1_copyFrom_30 : decode cX1_copyFrom 30 = .ok (.iload_n 2, 1) := by decide +kernel
theorem dX1_copyFrom_31 : decode cX1_copyFrom 31 = .ok (.aload_n 1, 1) := by decide +kernel
theorem dX1_copyFrom_32 : decode cX1_copyFrom 32 = .ok (.getfield 19, 3) := by decide +kernel
theorem dX1_copyFrom_35 : decode cX1_copyFrom 35 = .ok (.iload_n 2, 1) := by decide +kernel
theorem dX1_copyFrom_36 : decode cX1_copyFrom 36 = .ok (.iaload, 1) := by decide +kernel
theorem dX1_copyFrom_37 : decode cX1_copyFrom 37 = .ok (.iastore, 1) := by decide +kernel
theorem dX1_copyFrom_38 : decode cX1_copyFrom 38 = .ok (.aload_n 0, 1) := by decide +kernel
theorem dX1_copyFrom_39 : decode cX1_copyFrom 39 = .ok (.getfield 23, 3) := by decide +kernel
theorem dX1_copyFrom_42 : decode cX1_copyFrom 42 = .ok (.iload_n 2, 1) := by decide +kernel
theorem dX1_copyFrom_43 : decode cX1_copyFrom 43 = .ok (.aload_n 1, 1) := by decide +kernel
theorem dX1_copyFrom_44 : decode cX1_copyFrom 44 = .ok (.getfield 23, 3) := by decide +kernel
theorem dX1_copyFrom_47 : decode cX1_copyFrom 47 = .ok (.iload_n 2, 1) := by decide +kernel
theorem dX1_copyFrom_48 : decode cX1_copyFrom 48 = .ok (.iaload, 1) := by decide +kernel
theorem dX1_copyFrom_49 : decode cX1_copyFrom 49 = .ok (.iastore, 1) := by decide +kernel
theorem dX1_copyFrom_50 : decode cX1_copyFrom 50 = .ok (.aload_n 0, 1) := by decide +kernel
theorem dX1_copyFrom_51 : decode cX1_copyFrom 51 = .ok (.getfield 26, 3) := by decide +kernel
theorem dX1_copyFrom_54 : decode cX1_copyFrom 54 = .ok (.iload_n 2, 1) := by decide +kernel
theorem dX1_copyFrom_55 : decode cX1_copyFrom 55 = .ok (.aload_n 1, 1) := by decide +kernel
theorem dX1_copyFrom_56 : decode cX1_copyFrom 56 = .ok (.getfield 26, 3) := by decide +kernel
theorem dX1_copyFrom_59 : decode cX1_copyFrom 59 = .ok (.iload_n 2, 1) := by decide +kernel
theorem dX1_copyFrom_60 : decode cX1_copyFrom 60 = .ok (.iaload, 1) := by decide +kernel
theorem dX1_copyFrom_61 : decode cX1_copyFrom 61 = .ok (.iastore, 1) := by decide +kernel
theorem dX1_copyFrom_62 : decode cX1_copyFrom 62 = .ok (.aload_n 0, 1) := by decide +kernel
theorem dX1_copyFrom_63 : decode cX1_copyFrom 63 = .ok (.getfield 29, 3) := by decide +kernel
theorem dX1_copyFrom_66 : decode cX1_copyFrom 66 = .ok (.iload_n 2, 1) := by decide +kernel
theorem dX1_copyFrom_67 : decode cX1_copyFrom 67 = .ok (.aload_n 1, 1) := by decide +kernel
theorem dX1_copyFrom_68 : decode cX1_copyFrom 68 = .ok (.getfield 29, 3) := by decide +kernel
theorem dX1_copyFrom_71 : decode cX1_copyFrom 71 = .ok (.iload_n 2, 1) := by decide +kernel
theorem dX1_copyFrom_72 : decode cX1_copyFrom 72 = .ok (.iaload, 1) := by decide +kernel
theorem dX1_copyFrom_73 : decode cX1_copyFrom 73 = .ok (.iastore, 1) := by decide +kernel
theorem dX1_copyFrom_74 : decode cX1_copyFrom 74 = .ok (.aload_n 0, 1) := by decide +kernel
theorem dX1_copyFrom_75 : decode cX1_copyFrom 75 = .ok (.getfield 32, 3) := by decide +kernel
theorem dX1_copyFrom_78 : decode cX1_copyFrom 78 = .ok (.iload_n 2, 1) := by decide +kernel
theorem dX1_copyFrom_79 : decode cX1_copyFrom 79 = .ok (.aload_n 1, 1) := by decide +kernel
theorem dX1_copyFrom_80 : decode cX1_copyFrom 80 = .ok (.getfield 32, 3) := by decide +kernel
theorem dX1_copyFrom_83 : decode cX1_copyFrom 83 = .ok (.iload_n 2, 1) := by decide +kernel
theorem dX1_copyFrom_84 : decode cX1_copyFrom 84 = .ok (.iaload, 1) := by decide +kernel
theorem dX1_copyFrom_85 : decode cX1_copyFrom 85 = .ok (.iastore, 1) := by decide +kernel
theorem dX1_copyFrom_86 : decode cX1_copyFrom 86 = .ok (.iinc 2 1, 3) := by decide +kernel
theorem dX1_copyFrom_89 : decode cX1_copyFrom 89 = .ok (.goto (-71), 3) := by decide +kernel
theorem dX1_copyFrom_92 : decode cX1_copyFrom 92 = .ok (.return_, 1) := by decide +kernel
theorem dX1_sameAs_0 : decode cX1_sameAs 0 = .ok (.aload_n 0, 1) := by decide +kernel
theorem dX1_sameAs_1 : decode cX1_sameAs 1 = .ok (.getfield 9, 3) := by decide +kernel
theorem dX1_sameAs_4 : decode cX1_sameAs 4 = .ok (.aload_n 1, 1) := by decide +kernel
theorem dX1_sameAs_5 : decode cX1_sameAs 5 = .ok (.getfield 9, 3) := by decide +kernel
theorem dX1_sameAs_8 : decode cX1_sameAs 8 = .ok (.if_icmp .eq 5, 3) := by decide +kernel
theorem dX1_sameAs_11 : decode cX1_sameAs 11 = .ok (.iconst 0, 1) := by decide +kernel
theorem dX1_sameAs_12 : decode cX1_sameAs 12 = .ok (.ireturn, 1) := by decide +kernel
theorem dX1_sameAs_13 : decode cX1_sameAs 13 = .ok (.iconst 0, 1) := by decide +kernel
theorem dX1_sameAs_14 : decode cX1_sameAs 14 = .ok (.istore_n 2, 1) := by decide +kernel
theorem dX1_sameAs_15 : decode cX1_sameAs 15 = .ok (.iload_n 2, 1) := by decide +kernel
theorem dX1_sameAs_16 : decode cX1_sameAs 16 = .ok (.aload_n 0, 1) := by decide +kernel
theorem dX1_sameAs_17 : decode cX1_sameAs 17 = .ok (.getfield 9, 3) := by decide +kernel
theorem dX1_sameAs_20 : decode cX1_sameAs 20 = .ok (.if_icmp .ge 37, 3) := by decide +kernel
theorem dX1_sameAs_23 : decode cX1_sameAs 23 = .ok (.aload_n 0, 1) := by decide +kernel
theorem dX1_sameAs_24 : decode cX1_sameAs 24 = .ok (.iload_n 2, 1) := by decide +kernel
theorem dX1_sameAs_25 : decode cX1_sameAs 25 = .ok (.aload_n 1, 1) := by decide +kernel
theorem dX1_sameAs_26 : decode cX1_sameAs 26 = .ok (.getfield 19, 3) := by decide +kernel
theorem dX1_sameAs_29 : decode cX1_sameAs 29 = .ok (.iload_n 2, 1) := by decide +kernel
theorem dX1_sameAs_30 : decode cX1_sameAs 30 = .ok (.iaload, 1) := by decide +kernel
theorem dX1_sameAs_31 : decode cX1_sameAs 31 = .ok (.aload_n 1, 1) := by decide +kernel
theorem dX1_sameAs_32 : decode cX1_sameAs 32 = .ok (.getfield 23, 3) := by decide +kernel
theorem dX1_sameAs_35 : decode cX1_sameAs 35 = .ok (.iload_n 2, 1) := by decide +kernel
theorem dX1_sameAs_36 : decode cX1_sameAs 36 = .ok (.iaload, 1) := by decide +kernel
theorem dX1_sameAs_37 : decode cX1_sameAs 37 = .ok (.aload_n 1, 1) := by decide +kernel
theorem dX1_sameAs_38 : decode cX1_sameAs 38 = .ok (.getfield 26, 3) := by decide +kernel
theorem dX1_sameAs_41 : decode cX1_sameAs 41 = .ok (.iload_n 2, 1) := by decide +kernel
theorem dX1_sameAs_42 : decode cX1_sameAs 42 = .ok (.iaload, 1) := by decide +kernel
theorem dX1_sameAs_43 : decode cX1_sameAs 43 = .ok (.invokevirtual 38, 3) := by decide +kernel
theorem dX1_sameAs_46 : decode cX1_sameAs 46 = .ok (.ifCond .ne 5, 3) := by decide +kernel
theorem dX1_sameAs_49 : decode cX1_sameAs 49 = .ok (.iconst 0, 1) := by decide +kernel
theorem dX1_sameAs_50 : decode cX1_sameAs 50 = .ok (.ireturn, 1) := by decide +kernel
theorem dX1_sameAs_51 : decode cX1_sameAs 51 = .ok (.iinc 2 1, 3) := by decide +kernel
theorem dX1_sameAs_54 : decode cX1_sameAs 54 = .ok (.goto (-39), 3) := by decide +kernel
theorem dX1_sameAs_57 : decode cX1_sameAs 57 = .ok (.iconst 1, 1) := by decide +kernel
theorem dX1_sameAs_58 : decode cX1_sameAs 58 = .ok (.ireturn, 1) := by decide +kernel
theorem dX1_hasPart_0 : decode cX1_hasPart 0 = .ok (.iload_n 1, 1) := by decide +kernel
theorem dX1_hasPart_1 : decode cX1_hasPart 1 = .ok (.ifCond .lt 15, 3) := by decide +kernel
theorem dX1_hasPart_4 : decode cX1_hasPart 4 = .ok (.iload_n 1, 1) := by decide +kernel
theorem dX1_hasPart_5 : decode cX1_hasPart 5 = .ok (.aload_n 0, 1) := by decide +kernel
theorem dX1_hasPart_6 : decode cX1_hasPart 6 = .ok (.getfield 9, 3) := by decide +kernel
theorem dX1_hasPart_9 : decode cX1_hasPart 9 = .ok (.if_icmp .ge 7, 3) := by decide +kernel
theorem dX1_hasPart_12 : decode cX1_hasPart 12 = .ok (.iconst 1, 1) := by decide +kernel
theorem dX1_hasPart_13 : decode cX1_hasPart 13 = .ok (.goto 4, 3) := by decide +kernel
theorem dX1_hasPart_16 : decode cX1_hasPart 16 = .ok (.iconst 0, 1) := by decide +kernel
theorem dX1_hasPart_17 : decode cX1_hasPart 17 = .ok (.ireturn, 1) := by decide +kernel
theorem dX1_root_0 : decode cX1_root 0 = .ok (.aload_n 0, 1) := by decide +kernel
theorem dX1_root_1 : decode cX1_root 1 = .ok (.getfield 9, 3) := by decide +kernel
theorem dX1_root_4 : decode cX1_root 4 = .ok (.iconst 1, 1) := by decide +kernel
theorem dX1_root_5 : decode cX1_root 5 = .ok (.isub, 1) := by decide +kernel
theorem dX1_root_6 : decode cX1_root 6 = .ok (.ireturn, 1) := by decide +kernel
theorem dX1_add_0 : decode cX1_add 0 = .ok (.iconst 0, 1) := by decide +kernel
theorem dX1_add_1 : decode cX1_add 1 = .ok (.istore 4, 2) := by decide +kernel
theorem dX1_add_3 : decode cX1_add 3 = .ok (.iload 4, 2) := by decide +kernel
theorem dX1_add_5 : decode cX1_add 5 = .ok (.aload_n 0, 1) := by decide +kernel
theorem dX1_add_6 : decode cX1_add 6 = .ok (.getfield 9, 3) := by decide +kernel
theorem dX1_add_9 : decode cX1_add 9 = .ok (.if_icmp .ge 24, 3) := by decide +kernel
theorem dX1_add_12 : decode cX1_add 12 = .ok (.aload_n 0, 1) := by decide +kernel
theorem dX1_add_13 : decode cX1_add 13 = .ok (.iload 4, 2) := by decide +kernel
theorem dX1_add_15 : decode cX1_add 15 = .ok (.iload_n 1, 1) := by decide +kernel
theorem dX1_add_16 : decode cX1_add 16 = .ok (.iload_n 2, 1) := by decide +kernel
theorem dX1_add_17 : decode cX1_add 17 = .ok (.iload_n 3, 1) := by decide +kernel
theorem dX1_add_18 : decode cX1_add 18 = .ok (.invokevirtual 38, 3) := by decide +kernel
theorem dX1_add_21 : decode cX1_add 21 = .ok (.ifCond .eq 6, 3) := by decide +kernel
theorem dX1_add_24 : decode cX1_add 24 = .ok (.iload 4, 2) := by decide +kernel
theorem dX1_add_26 : decode cX1_add 26 = .ok (.ireturn, 1) := by decide +kernel
theorem dX1_add_27 : decode cX1_add 27 = .ok (.iinc 4 1, 3) := by decide +kernel
theorem dX1_add_30 : decode cX1_add 30 = .ok (.goto (-27), 3) := by decide +kernel
theorem dX1_add_33 : decode cX1_add 33 = .ok (.aload_n 0, 1) := by decide +kernel
theorem dX1_add_34 : decode cX1_add 34 = .ok (.getfield 9, 3) := by decide +kernel
theorem dX1_add_37 : decode cX1_add 37 = .ok (.bipush 11, 2) := by decide +kernel
theorem dX1_add_39 : decode cX1_add 39 = .ok (.if_icmp .ge 13, 3) := by decide +kernel
theorem dX1_add_42 : decode cX1_add 42 = .ok (.aload_n 0, 1) := by decide +kernel
theorem dX1_add_43 : decode cX1_add 43 = .ok (.iload_n 1, 1) := by decide +kernel
theorem dX1_add_44 : decode cX1_add 44 = .ok (.iload_n 2, 1) := by decide +kernel
theorem dX1_add_45 : decode cX1_add 45 = .ok (.iload_n 3, 1) := by decide +kernel
theorem dX1_add_46 : decode cX1_add 46 = .ok (.invokevirtual 42, 3) := by decide +kernel
theorem dX1_add_49 : decode cX1_add 49 = .ok (.ifCond .ne 10, 3) := by decide +kernel
theorem dX1_add_52 : decode cX1_add 52 = .ok (.aload_n 0, 1) := by decide +kernel
theorem dX1_add_53 : decode cX1_add 53 = .ok (.iconst 1, 1) := by decide +kernel
theorem dX1_add_54 : decode cX1_add 54 = .ok (.putfield 15, 3) := by decide +kernel
theorem dX1_add_57 : decode cX1_add 57 = .ok (.iconst 0, 1) := by decide +kernel
theorem dX1_add_58 : decode cX1_add 58 = .ok (.ireturn, 1) := by decide +kernel
theorem dX1_add_59 : decode cX1_add 59 = .ok (.aload_n 0, 1) := by decide +kernel
theorem dX1_add_60 : decode cX1_add 60 = .ok (.getfield 19, 3) := by decide +kernel
theorem dX1_add_63 : decode cX1_add 63 = .ok (.aload_n 0, 1) := by decide +kernel
theorem dX1_add_64 : decode cX1_add 64 = .ok (.getfield 9, 3) := by decide +kernel
theorem dX1_add_67 : decode cX1_add 67 = .ok (.iload_n 1, 1) := by decide +kernel
theorem dX1_add_68 : decode cX1_add 68 = .ok (.iastore, 1) := by decide +kernel
theorem dX1_add_69 : decode cX1_add 69 = .ok (.aload_n 0, 1) := by decide +kernel
theorem dX1_add_70 : decode cX1_add 70 = .ok (.getfield 23, 3) := by decide +kernel
theorem dX1_add_73 : decode cX1_add 73 = .ok (.aload_n 0, 1) := by decide +kernel
theorem dX1_add_74 : decode cX1_add 74 = .ok (.getfield 9, 3) := by decide +kernel
theorem dX1_add_77 : decode cX1_add 77 = .ok (.iload_n 2, 1) := by decide +kernel
theorem dX1_add_78 : decode cX1_add 78 = .ok (.iastore, 1) := by decide +kernel
theorem dX1_add_79 : decode cX1_add 79 = .ok (.aload_n 0, 1) := by decide +kernel
theorem dX1_add_80 : decode cX1_add 80 = .ok (.getfield 26, 3) := by decide +kernel
theorem dX1_add_83 : decode cX1_add 83 = .ok (.aload_n 0, 1) := by decide +kernel
theorem dX1_add_84 : decode cX1_add 84 = .ok (.getfield 9, 3) := by decide +kernel
theorem dX1_add_87 : decode cX1_add 87 = .ok (.iload_n 3, 1) := by decide +kernel
theorem dX1_add_88 : decode cX1_add 88 = .ok (.iastore, 1) := by decide +kernel
theorem dX1_add_89 : decode cX1_add 89 = .ok (.aload_n 0, 1) := by decide +kernel
theorem dX1_add_90 : decode cX1_add 90 = .ok (.getfield 29, 3) := by decide +kernel
theorem dX1_add_93 : decode cX1_add 93 = .ok (.aload_n 0, 1) := by decide +kernel
theorem dX1_add_94 : decode cX1_add 94 = .ok (.getfield 9, 3) := by decide +kernel
theorem dX1_add_97 : decode cX1_add 97 = .ok (.iload_n 1, 1) := by decide +kernel
theorem dX1_add_98 : decode cX1_add 98 = .ok (.iconst 2, 1) := by decide +kernel
theorem dX1_add_99 : decode cX1_add 99 = .ok (.if_icmp .ge 7, 3) := by decide +kernel
theorem dX1_add_102 : decode cX1_add 102 = .ok (.iconst 1, 1) := by decide +kernel
theorem dX1_add_103 : decode cX1_add 103 = .ok (.goto 18, 3) := by decide +kernel
theorem dX1_add_106 : decode cX1_add 106 = .ok (.aload_n 0, 1) := by decide +kernel
theorem dX1_add_107 : decode cX1_add 107 = .ok (.getfield 29, 3) := by decide +kernel
theorem dX1_add_110 : decode cX1_add 110 = .ok (.iload_n 2, 1) := by decide +kernel
theorem dX1_add_111 : decode cX1_add 111 = .ok (.iaload, 1) := by decide +kernel
theorem dX1_add_112 : decode cX1_add 112 = .ok (.aload_n 0, 1) := by decide +kernel
theorem dX1_add_113 : decode cX1_add 113 = .ok (.getfield 29, 3) := by decide +kernel
theorem dX1_add_116 : decode cX1_add 116 = .ok (.iload_n 3, 1) := by decide +kernel
theorem dX1_add_117 : decode cX1_add 117 = .ok (.iaload, 1) := by decide +kernel
theorem dX1_add_118 : decode cX1_add 118 = .ok (.iadd, 1) := by decide +kernel
theorem dX1_add_119 : decode cX1_add 119 = .ok (.iconst 3, 1) := by decide +kernel
theorem dX1_add_120 : decode cX1_add 120 = .ok (.iadd, 1) := by decide +kernel
theorem dX1_add_121 : decode cX1_add 121 = .ok (.iastore, 1) := by decide +kernel
theorem dX1_add_122 : decode cX1_add 122 = .ok (.aload_n 0, 1) := by decide +kernel
theorem dX1_add_123 : decode cX1_add 123 = .ok (.getfield 32, 3) := by decide +kernel
theorem dX1_add_126 : decode cX1_add 126 = .ok (.aload_n 0, 1) := by decide +kernel
theorem dX1_add_127 : decode cX1_add 127 = .ok (.getfield 9, 3) := by decide +kernel
theorem dX1_add_130 : decode cX1_add 130 = .ok (.aload_n 0, 1) := by decide +kernel
theorem dX1_add_131 : decode cX1_add 131 = .ok (.iload_n 1, 1) := by decide +kernel
theorem dX1_add_132 : decode cX1_add 132 = .ok (.iload_n 2, 1) := by decide +kernel
theorem dX1_add_133 : decode cX1_add 133 = .ok (.iload_n 3, 1) := by decide +kernel
theorem dX1_add_134 : decode cX1_add 134 = .ok (.invokevirtual 46, 3) := by decide +kernel
theorem dX1_add_137 : decode cX1_add 137 = .ok (.iastore, 1) := by decide +kernel
theorem dX1_add_138 : decode cX1_add 138 = .ok (.aload_n 0, 1) := by decide +kernel
theorem dX1_add_139 : decode cX1_add 139 = .ok (.dup, 1) := by decide +kernel
theorem dX1_add_140 : decode cX1_add 140 = .ok (.getfield 9, 3) := by decide +kernel
theorem dX1_add_143 : decode cX1_add 143 = .ok (.iconst 1, 1) := by decide +kernel
theorem dX1_add_144 : decode cX1_add 144 = .ok (.iadd, 1) := by decide +kernel
theorem dX1_add_145 : decode cX1_add 145 = .ok (.putfield 9, 3) := by decide +kernel
theorem dX1_add_148 : decode cX1_add 148 = .ok (.aload_n 0, 1) := by decide +kernel
theorem dX1_add_149 : decode cX1_add 149 = .ok (.getfield 9, 3) := by decide +kernel
theorem dX1_add_152 : decode cX1_add 152 = .ok (.iconst 1, 1) := by decide +kernel
theorem dX1_add_153 : decode cX1_add 153 = .ok (.isub, 1) := by decide +kernel
theorem dX1_add_154 : decode cX1_add 154 = .ok (.ireturn, 1) := by decide +kernel
theorem dX1_canStand_0 : decode cX1_canStand 0 = .ok (.iload_n 1, 1) := by decide +kernel
theorem dX1_canStand_1 : decode cX1_canStand 1 = .ok (.lookupswitch 47 #[(0, 27), (1, 45)], 27) := by decide +kernel
theorem dX1_canStand_28 : decode cX1_canStand 28 = .ok (.iload_n 2, 1) := by decide +kernel
theorem dX1_canStand_29 : decode cX1_canStand 29 = .ok (.ifCond .lt 15, 3) := by decide +kernel
theorem dX1_canStand_32 : decode cX1_canStand 32 = .ok (.iload_n 2, 1) := by decide +kernel
theorem dX1_canStand_33 : decode cX1_canStand 33 = .ok (.getstatic 50, 3) := by decide +kernel
theorem dX1_canStand_36 : decode cX1_canStand 36 = .ok (.arraylength, 1) := by decide +kernel
theorem dX1_canStand_37 : decode cX1_canStand 37 = .ok (.if_icmp .ge 7, 3) := by decide +kernel
theorem dX1_canStand_40 : decode cX1_canStand 40 = .ok (.iconst 1, 1) := by decide +kernel
theorem dX1_canStand_41 : decode cX1_canStand 41 = .ok (.goto 4, 3) := by decide +kernel
theorem dX1_canStand_44 : decode cX1_canStand 44 = .ok (.iconst 0, 1) := by decide +kernel
theorem dX1_canStand_45 : decode cX1_canStand 45 = .ok (.ireturn, 1) := by decide +kernel
theorem dX1_canStand_46 : decode cX1_canStand 46 = .ok (.iconst 1, 1) := by decide +kernel
theorem dX1_canStand_47 : decode cX1_canStand 47 = .ok (.ireturn, 1) := by decide +kernel
theorem dX1_canStand_48 : decode cX1_canStand 48 = .ok (.iload_n 2, 1) := by decide +kernel
theorem dX1_canStand_49 : decode cX1_canStand 49 = .ok (.ifCond .lt 27, 3) := by decide +kernel
theorem dX1_canStand_52 : decode cX1_canStand 52 = .ok (.iload_n 2, 1) := by decide +kernel
theorem dX1_canStand_53 : decode cX1_canStand 53 = .ok (.aload_n 0, 1) := by decide +kernel
theorem dX1_canStand_54 : decode cX1_canStand 54 = .ok (.getfield 9, 3) := by decide +kernel
theorem dX1_canStand_57 : decode cX1_canStand 57 = .ok (.if_icmp .ge 19, 3) := by decide +kernel
theorem dX1_canStand_60 : decode cX1_canStand 60 = .ok (.iload_n 3, 1) := by decide +kernel
theorem dX1_canStand_61 : decode cX1_canStand 61 = .ok (.ifCond .lt 15, 3) := by decide +kernel
theorem dX1_canStand_64 : decode cX1_canStand 64 = .ok (.iload_n 3, 1) := by decide +kernel
theorem dX1_canStand_65 : decode cX1_canStand 65 = .ok (.aload_n 0, 1) := by decide +kernel
theorem dX1_canStand_66 : decode cX1_canStand 66 = .ok (.getfield 9, 3) := by decide +kernel
theorem dX1_canStand_69 : decode cX1_canStand 69 = .ok (.if_icmp .ge 7, 3) := by decide +kernel
theorem dX1_canStand_72 : decode cX1_canStand 72 = .ok (.iconst 1, 1) := by decide +kernel
theorem dX1_canStand_73 : decode cX1_canStand 73 = .ok (.goto 4, 3) := by decide +kernel
theorem dX1_canStand_76 : decode cX1_canStand 76 = .ok (.iconst 0, 1) := by decide +kernel
theorem dX1_canStand_77 : decode cX1_canStand 77 = .ok (.ireturn, 1) := by decide +kernel
theorem dX1_isAt_0 : decode cX1_isAt 0 = .ok (.aload_n 0, 1) := by decide +kernel
theorem dX1_isAt_1 : decode cX1_isAt 1 = .ok (.getfield 19, 3) := by decide +kernel
theorem dX1_isAt_4 : decode cX1_isAt 4 = .ok (.iload_n 1, 1) := by decide +kernel
theorem dX1_isAt_5 : decode cX1_isAt 5 = .ok (.iaload, 1) := by decide +kernel
theorem dX1_isAt_6 : decode cX1_isAt 6 = .ok (.iload_n 2, 1) := by decide +kernel
theorem dX1_isAt_7 : decode cX1_isAt 7 = .ok (.if_icmp .ne 28, 3) := by decide +kernel
theorem dX1_isAt_10 : decode cX1_isAt 10 = .ok (.aload_n 0, 1) := by decide +kernel
theorem dX1_isAt_11 : decode cX1_isAt 11 = .ok (.getfield 23, 3) := by decide +kernel
theorem dX1_isAt_14 : decode cX1_isAt 14 = .ok (.iload_n 1, 1) := by decide +kernel
theorem dX1_isAt_15 : decode cX1_isAt 15 = .ok (.iaload, 1) := by decide +kernel
theorem dX1_isAt_16 : decode cX1_isAt 16 = .ok (.iload_n 3, 1) := by decide +kernel
theorem dX1_isAt_17 : decode cX1_isAt 17 = .ok (.if_icmp .ne 18, 3) := by decide +kernel
theorem dX1_isAt_20 : decode cX1_isAt 20 = .ok (.aload_n 0, 1) := by decide +kernel
theorem dX1_isAt_21 : decode cX1_isAt 21 = .ok (.getfield 26, 3) := by decide +kernel
theorem dX1_isAt_24 : decode cX1_isAt 24 = .ok (.iload_n 1, 1) := by decide +kernel
theorem dX1_isAt_25 : decode cX1_isAt 25 = .ok (.iaload, 1) := by decide +kernel
theorem dX1_isAt_26 : decode cX1_isAt 26 = .ok (.iload 4, 2) := by decide +kernel
theorem dX1_isAt_28 : decode cX1_isAt 28 = .ok (.if_icmp .ne 7, 3) := by decide +kernel
theorem dX1_isAt_31 : decode cX1_isAt 31 = .ok (.iconst 1, 1) := by decide +kernel
theorem dX1_isAt_32 : decode cX1_isAt 32 = .ok (.goto 4, 3) := by decide +kernel
theorem dX1_isAt_35 : decode cX1_isAt 35 = .ok (.iconst 0, 1) := by decide +kernel
theorem dX1_isAt_36 : decode cX1_isAt 36 = .ok (.ireturn, 1) := by decide +kernel
theorem dX1_rowsOf_0 : decode cX1_rowsOf 0 = .ok (.iload_n 1, 1) := by decide +kernel
theorem dX1_rowsOf_1 : decode cX1_rowsOf 1 = .ok (.tableswitch 88 0 4 #[35, 88, 41, 55, 69], 35) := by decide +kernel
theorem dX1_rowsOf_36 : decode cX1_rowsOf 36 = .ok (.getstatic 50, 3) := by decide +kernel
theorem dX1_rowsOf_39 : decode cX1_rowsOf 39 = .ok (.iload_n 2, 1) := by decide +kernel
theorem dX1_rowsOf_40 : decode cX1_rowsOf 40 = .ok (.iaload, 1) := by decide +kernel
theorem dX1_rowsOf_41 : decode cX1_rowsOf 41 = .ok (.ireturn, 1) := by decide +kernel
theorem dX1_rowsOf_42 : decode cX1_rowsOf 42 = .ok (.aload_n 0, 1) := by decide +kernel
theorem dX1_rowsOf_43 : decode cX1_rowsOf 43 = .ok (.getfield 32, 3) := by decide +kernel
theorem dX1_rowsOf_46 : decode cX1_rowsOf 46 = .ok (.iload_n 2, 1) := by decide +kernel
theorem dX1_rowsOf_47 : decode cX1_rowsOf 47 = .ok (.iaload, 1) := by decide +kernel
theorem dX1_rowsOf_48 : decode cX1_rowsOf 48 = .ok (.aload_n 0, 1) := by decide +kernel
theorem dX1_rowsOf_49 : decode cX1_rowsOf 49 = .ok (.getfield 32, 3) := by decide +kernel
theorem dX1_rowsOf_52 : decode cX1_rowsOf 52 = .ok (.iload_n 3, 1) := by decide +kernel
theorem dX1_rowsOf_53 : decode cX1_rowsOf 53 = .ok (.iaload, 1) := by decide +kernel
theorem dX1_rowsOf_54 : decode cX1_rowsOf 54 = .ok (.iand, 1) := by decide +kernel
theorem dX1_rowsOf_55 : decode cX1_rowsOf 55 = .ok (.ireturn, 1) := by decide +kernel
theorem dX1_rowsOf_56 : decode cX1_rowsOf 56 = .ok (.aload_n 0, 1) := by decide +kernel
theorem dX1_rowsOf_57 : decode cX1_rowsOf 57 = .ok (.getfield 32, 3) := by decide +kernel
theorem dX1_rowsOf_60 : decode cX1_rowsOf 60 = .ok (.iload_n 2, 1) := by decide +kernel
theorem dX1_rowsOf_61 : decode cX1_rowsOf 61 = .ok (.iaload, 1) := by decide +kernel
theorem dX1_rowsOf_62 : decode cX1_rowsOf 62 = .ok (.aload_n 0, 1) := by decide +kernel
theorem dX1_rowsOf_63 : decode cX1_rowsOf 63 = .ok (.getfield 32, 3) := by decide +kernel
theorem dX1_rowsOf_66 : decode cX1_rowsOf 66 = .ok (.iload_n 3, 1) := by decide +kernel
theorem dX1_rowsOf_67 : decode cX1_rowsOf 67 = .ok (.iaload, 1) := by decide +kernel
theorem dX1_rowsOf_68 : decode cX1_rowsOf 68 = .ok (.ior, 1) := by decide +kernel
theorem dX1_rowsOf_69 : decode cX1_rowsOf 69 = .ok (.ireturn, 1) := by decide +kernel
theorem dX1_rowsOf_70 : decode cX1_rowsOf 70 = .ok (.aload_n 0, 1) := by decide +kernel
theorem dX1_rowsOf_71 : decode cX1_rowsOf 71 = .ok (.getfield 32, 3) := by decide +kernel
theorem dX1_rowsOf_74 : decode cX1_rowsOf 74 = .ok (.iload_n 2, 1) := by decide +kernel
theorem dX1_rowsOf_75 : decode cX1_rowsOf 75 = .ok (.iaload, 1) := by decide +kernel
theorem dX1_rowsOf_76 : decode cX1_rowsOf 76 = .ok (.iconst (-1), 1) := by decide +kernel
theorem dX1_rowsOf_77 : decode cX1_rowsOf 77 = .ok (.ixor, 1) := by decide +kernel
theorem dX1_rowsOf_78 : decode cX1_rowsOf 78 = .ok (.ldc 53, 2) := by decide +kernel
theorem dX1_rowsOf_80 : decode cX1_rowsOf 80 = .ok (.iand, 1) := by decide +kernel
theorem dX1_rowsOf_81 : decode cX1_rowsOf 81 = .ok (.aload_n 0, 1) := by decide +kernel
theorem dX1_rowsOf_82 : decode cX1_rowsOf 82 = .ok (.getfield 32, 3) := by decide +kernel
theorem dX1_rowsOf_85 : decode cX1_rowsOf 85 = .ok (.iload_n 3, 1) := by decide +kernel
theorem dX1_rowsOf_86 : decode cX1_rowsOf 86 = .ok (.iaload, 1) := by decide +kernel
theorem dX1_rowsOf_87 : decode cX1_rowsOf 87 = .ok (.ior, 1) := by decide +kernel
theorem dX1_rowsOf_88 : decode cX1_rowsOf 88 = .ok (.ireturn, 1) := by decide +kernel
theorem dX1_rowsOf_89 : decode cX1_rowsOf 89 = .ok (.iconst 0, 1) := by decide +kernel
theorem dX1_rowsOf_90 : decode cX1_rowsOf 90 = .ok (.ireturn, 1) := by decide +kernel
theorem dX1_becomePair_0 : decode cX1_becomePair 0 = .ok (.aload_n 0, 1) := by decide +kernel
theorem dX1_becomePair_1 : decode cX1_becomePair 1 = .ok (.aload_n 2, 1) := by decide +kernel
theorem dX1_becomePair_2 : decode cX1_becomePair 2 = .ok (.invokevirtual 54, 3) := by decide +kernel
theorem dX1_becomePair_5 : decode cX1_becomePair 5 = .ok (.iconst 0, 1) := by decide +kernel
theorem dX1_becomePair_6 : decode cX1_becomePair 6 = .ok (.istore 4, 2) := by decide +kernel
theorem dX1_becomePair_8 : decode cX1_becomePair 8 = .ok (.iload 4, 2) := by decide +kernel
theorem dX1_becomePair_10 : decode cX1_becomePair 10 = .ok (.aload_n 3, 1) := by decide +kernel
theorem dX1_becomePair_11 : decode cX1_becomePair 11 = .ok (.getfield 9, 3) := by decide +kernel
theorem dX1_becomePair_14 : decode cX1_becomePair 14 = .ok (.if_icmp .ge 90, 3) := by decide +kernel
theorem dX1_becomePair_17 : decode cX1_becomePair 17 = .ok (.aload_n 0, 1) := by decide +kernel
theorem dX1_becomePair_18 : decode cX1_becomePair 18 = .ok (.getfield 35, 3) := by decide +kernel
theorem dX1_becomePair_21 : decode cX1_becomePair 21 = .ok (.iload 4, 2) := by decide +kernel
theorem dX1_becomePair_23 : decode cX1_becomePair 23 = .ok (.aload_n 3, 1) := by decide +kernel
theorem dX1_becomePair_24 : decode cX1_becomePair 24 = .ok (.getfield 19, 3) := by decide +kernel
theorem dX1_becomePair_27 : decode cX1_becomePair 27 = .ok (.iload 4, 2) := by decide +kernel
theorem dX1_becomePair_29 : decode cX1_becomePair 29 = .ok (.iaload, 1) := by decide +kernel
theorem dX1_becomePair_30 : decode cX1_becomePair 30 = .ok (.iconst 2, 1) := by decide +kernel
theorem dX1_becomePair_31 : decode cX1_becomePair 31 = .ok (.if_icmp .ge 31, 3) := by decide +kernel
theorem dX1_becomePair_34 : decode cX1_becomePair 34 = .ok (.aload_n 0, 1) := by decide +kernel
theorem dX1_becomePair_35 : decode cX1_becomePair 35 = .ok (.aload_n 3, 1) := by decide +kernel
theorem dX1_becomePair_36 : decode cX1_becomePair 36 = .ok (.getfield 19, 3) := by decide +kernel
theorem dX1_becomePair_39 : decode cX1_becomePair 39 = .ok (.iload 4, 2) := by decide +kernel
theorem dX1_becomePair_41 : decode cX1_becomePair 41 = .ok (.iaload, 1) := by decide +kernel
theorem dX1_becomePair_42 : decode cX1_becomePair 42 = .ok (.aload_n 3, 1) := by decide +kernel
theorem dX1_becomePair_43 : decode cX1_becomePair 43 = .ok (.getfield 23, 3) := by decide +kernel
theorem dX1_becomePair_46 : decode cX1_becomePair 46 = .ok (.iload 4, 2) := by decide +kernel
theorem dX1_becomePair_48 : decode cX1_becomePair 48 = .ok (.iaload, 1) := by decide +kernel
theorem dX1_becomePair_49 : decode cX1_becomePair 49 = .ok (.aload_n 3, 1) := by decide +kernel
theorem dX1_becomePair_50 : decode cX1_becomePair 50 = .ok (.getfield 26, 3) := by decide +kernel
theorem dX1_becomePair_53 : decode cX1_becomePair 53 = .ok (.iload 4, 2) := by decide +kernel
theorem dX1_becomePair_55 : decode cX1_becomePair 55 = .ok (.iaload, 1) := by decide +kernel
theorem dX1_becomePair_56 : decode cX1_becomePair 56 = .ok (.invokevirtual 58, 3) := by decide +kernel
theorem dX1_becomePair_59 : decode cX1_becomePair 59 = .ok (.goto 38, 3) := by decide +kernel
theorem dX1_becomePair_62 : decode cX1_becomePair 62 = .ok (.aload_n 0, 1) := by decide +kernel
theorem dX1_becomePair_63 : decode cX1_becomePair 63 = .ok (.aload_n 3, 1) := by decide +kernel
theorem dX1_becomePair_64 : decode cX1_becomePair 64 = .ok (.getfield 19, 3) := by decide +kernel
theorem dX1_becomePair_67 : decode cX1_becomePair 67 = .ok (.iload 4, 2) := by decide +kernel
theorem dX1_becomePair_69 : decode cX1_becomePair 69 = .ok (.iaload, 1) := by decide +kernel
theorem dX1_becomePair_70 : decode cX1_becomePair 70 = .ok (.aload_n 0, 1) := by decide +kernel
theorem dX1_becomePair_71 : decode cX1_becomePair 71 = .ok (.getfield 35, 3) := by decide +kernel
theorem dX1_becomePair_74 : decode cX1_becomePair 74 = .ok (.aload_n 3, 1) := by decide +kernel
theorem dX1_becomePair_75 : decode cX1_becomePair 75 = .ok (.getfield 23, 3) := by decide +kernel
theorem dX1_becomePair_78 : decode cX1_becomePair 78 = .ok (.iload 4, 2) := by decide +kernel
theorem dX1_becomePair_80 : decode cX1_becomePair 80 = .ok (.iaload, 1) := by decide +kernel
theorem dX1_becomePair_81 : decode cX1_becomePair 81 = .ok (.iaload, 1) := by decide +kernel
theorem dX1_becomePair_82 : decode cX1_becomePair 82 = .ok (.aload_n 0, 1) := by decide +kernel
theorem dX1_becomePair_83 : decode cX1_becomePair 83 = .ok (.getfield 35, 3) := by decide +kernel
theorem dX1_becomePair_86 : decode cX1_becomePair 86 = .ok (.aload_n 3, 1) := by decide +kernel
theorem dX1_becomePair_87 : decode cX1_becomePair 87 = .ok (.getfield 26, 3) := by decide +kernel
theorem dX1_becomePair_90 : decode cX1_becomePair 90 = .ok (.iload 4, 2) := by decide +kernel
theorem dX1_becomePair_92 : decode cX1_becomePair 92 = .ok (.iaload, 1) := by decide +kernel
theorem dX1_becomePair_93 : decode cX1_becomePair 93 = .ok (.iaload, 1) := by decide +kernel
theorem dX1_becomePair_94 : decode cX1_becomePair 94 = .ok (.invokevirtual 58, 3) := by decide +kernel
theorem dX1_becomePair_97 : decode cX1_becomePair 97 = .ok (.iastore, 1) := by decide +kernel
theorem dX1_becomePair_98 : decode cX1_becomePair 98 = .ok (.iinc 4 1, 3) := by decide +kernel
theorem dX1_becomePair_101 : decode cX1_becomePair 101 = .ok (.goto (-93), 3) := by decide +kernel
theorem dX1_becomePair_104 : decode cX1_becomePair 104 = .ok (.aload_n 0, 1) := by decide +kernel
theorem dX1_becomePair_105 : decode cX1_becomePair 105 = .ok (.iload_n 1, 1) := by decide +kernel
theorem dX1_becomePair_106 : decode cX1_becomePair 106 = .ok (.aload_n 2, 1) := by decide +kernel
theorem dX1_becomePair_107 : decode cX1_becomePair 107 = .ok (.invokevirtual 61, 3) := by decide +kernel
theorem dX1_becomePair_110 : decode cX1_becomePair 110 = .ok (.aload_n 0, 1) := by decide +kernel
theorem dX1_becomePair_111 : decode cX1_becomePair 111 = .ok (.getfield 35, 3) := by decide +kernel
theorem dX1_becomePair_114 : decode cX1_becomePair 114 = .ok (.aload_n 3, 1) := by decide +kernel
theorem dX1_becomePair_115 : decode cX1_becomePair 115 = .ok (.invokevirtual 61, 3) := by decide +kernel
theorem dX1_becomePair_118 : decode cX1_becomePair 118 = .ok (.iaload, 1) := by decide +kernel
theorem dX1_becomePair_119 : decode cX1_becomePair 119 = .ok (.invokevirtual 58, 3) := by decide +kernel
theorem dX1_becomePair_122 : decode cX1_becomePair 122 = .ok (.pop, 1) := by decide +kernel
theorem dX1_becomePair_123 : decode cX1_becomePair 123 = .ok (.return_, 1) := by decide +kernel
theorem dX1_becomePart_0 : decode cX1_becomePart 0 = .ok (.aload_n 0, 1) := by decide +kernel
theorem dX1_becomePart_1 : decode cX1_becomePart 1 = .ok (.invokevirtual 65, 3) := by decide +kernel
theorem dX1_becomePart_4 : decode cX1_becomePart 4 = .ok (.iconst 0, 1) := by decide +kernel
theorem dX1_becomePart_5 : decode cX1_becomePart 5 = .ok (.istore_n 3, 1) := by decide +kernel
theorem dX1_becomePart_6 : decode cX1_becomePart 6 = .ok (.iload_n 3, 1) := by decide +kernel
theorem dX1_becomePart_7 : decode cX1_becomePart 7 = .ok (.bipush 11, 2) := by decide +kernel
theorem dX1_becomePart_9 : decode cX1_becomePart 9 = .ok (.if_icmp .ge 17, 3) := by decide +kernel
theorem dX1_becomePart_12 : decode cX1_becomePart 12 = .ok (.aload_n 0, 1) := by decide +kernel
theorem dX1_becomePart_13 : decode cX1_becomePart 13 = .ok (.getfield 35, 3) := by decide +kernel
theorem dX1_becomePart_16 : decode cX1_becomePart 16 = .ok (.iload_n 3, 1) := by decide +kernel
theorem dX1_becomePart_17 : decode cX1_becomePart 17 = .ok (.bipush (-6), 2) := by decide +kernel
theorem dX1_becomePart_19 : decode cX1_becomePart 19 = .ok (.iastore, 1) := by decide +kernel
theorem dX1_becomePart_20 : decode cX1_becomePart 20 = .ok (.iinc 3 1, 3) := by decide +kernel
theorem dX1_becomePart_23 : decode cX1_becomePart 23 = .ok (.goto (-17), 3) := by decide +kernel
theorem dX1_becomePart_26 : decode cX1_becomePart 26 = .ok (.aload_n 0, 1) := by decide +kernel
theorem dX1_becomePart_27 : decode cX1_becomePart 27 = .ok (.aload_n 1, 1) := by decide +kernel
theorem dX1_becomePart_28 : decode cX1_becomePart 28 = .ok (.iload_n 2, 1) := by decide +kernel
theorem dX1_becomePart_29 : decode cX1_becomePart 29 = .ok (.iconst 0, 1) := by decide +kernel
theorem dX1_becomePart_30 : decode cX1_becomePart 30 = .ok (.invokevirtual 68, 3) := by decide +kernel
theorem dX1_becomePart_33 : decode cX1_becomePart 33 = .ok (.pop, 1) := by decide +kernel
theorem dX1_becomePart_34 : decode cX1_becomePart 34 = .ok (.return_, 1) := by decide +kernel
theorem dX1_addPart_0 : decode cX1_addPart 0 = .ok (.aload_n 0, 1) := by decide +kernel
theorem dX1_addPart_1 : decode cX1_addPart 1 = .ok (.getfield 35, 3) := by decide +kernel
theorem dX1_addPart_4 : decode cX1_addPart 4 = .ok (.iload_n 2, 1) := by decide +kernel
theorem dX1_addPart_5 : decode cX1_addPart 5 = .ok (.iaload, 1) := by decide +kernel
theorem dX1_addPart_6 : decode cX1_addPart 6 = .ok (.bipush (-6), 2) := by decide +kernel
theorem dX1_addPart_8 : decode cX1_addPart 8 = .ok (.if_icmp .ne 9, 3) := by decide +kernel
theorem dX1_addPart_11 : decode cX1_addPart 11 = .ok (.iload_n 3, 1) := by decide +kernel
theorem dX1_addPart_12 : decode cX1_addPart 12 = .ok (.bipush 11, 2) := by decide +kernel
theorem dX1_addPart_14 : decode cX1_addPart 14 = .ok (.if_icmp .lt 10, 3) := by decide +kernel
theorem dX1_addPart_17 : decode cX1_addPart 17 = .ok (.aload_n 0, 1) := by decide +kernel
theorem dX1_addPart_18 : decode cX1_addPart 18 = .ok (.getfield 35, 3) := by decide +kernel
theorem dX1_addPart_21 : decode cX1_addPart 21 = .ok (.iload_n 2, 1) := by decide +kernel
theorem dX1_addPart_22 : decode cX1_addPart 22 = .ok (.iaload, 1) := by decide +kernel
theorem dX1_addPart_23 : decode cX1_addPart 23 = .ok (.ireturn, 1) := by decide +kernel
theorem dX1_addPart_24 : decode cX1_addPart 24 = .ok (.aload_n 1, 1) := by decide +kernel
theorem dX1_addPart_25 : decode cX1_addPart 25 = .ok (.getfield 23, 3) := by decide +kernel
theorem dX1_addPart_28 : decode cX1_addPart 28 = .ok (.iload_n 2, 1) := by decide +kernel
theorem dX1_addPart_29 : decode cX1_addPart 29 = .ok (.iaload, 1) := by decide +kernel
theorem dX1_addPart_30 : decode cX1_addPart 30 = .ok (.istore 4, 2) := by decide +kernel
theorem dX1_addPart_32 : decode cX1_addPart 32 = .ok (.aload_n 1, 1) := by decide +kernel
theorem dX1_addPart_33 : decode cX1_addPart 33 = .ok (.getfield 26, 3) := by decide +kernel
theorem dX1_addPart_36 : decode cX1_addPart 36 = .ok (.iload_n 2, 1) := by decide +kernel
theorem dX1_addPart_37 : decode cX1_addPart 37 = .ok (.iaload, 1) := by decide +kernel
theorem dX1_addPart_38 : decode cX1_addPart 38 = .ok (.istore 5, 2) := by decide +kernel
theorem dX1_addPart_40 : decode cX1_addPart 40 = .ok (.aload_n 1, 1) := by decide +kernel
theorem dX1_addPart_41 : decode cX1_addPart 41 = .ok (.getfield 19, 3) := by decide +kernel
theorem dX1_addPart_44 : decode cX1_addPart 44 = .ok (.iload_n 2, 1) := by decide +kernel
theorem dX1_addPart_45 : decode cX1_addPart 45 = .ok (.iaload, 1) := by decide +kernel
theorem dX1_addPart_46 : decode cX1_addPart 46 = .ok (.iconst 2, 1) := by decide +kernel
theorem dX1_addPart_47 : decode cX1_addPart 47 = .ok (.if_icmp .lt 27, 3) := by decide +kernel
theorem dX1_addPart_50 : decode cX1_addPart 50 = .ok (.aload_n 0, 1) := by decide +kernel
theorem dX1_addPart_51 : decode cX1_addPart 51 = .ok (.aload_n 1, 1) := by decide +kernel
theorem dX1_addPart_52 : decode cX1_addPart 52 = .ok (.iload 4, 2) := by decide +kernel
theorem dX1_addPart_54 : decode cX1_addPart 54 = .ok (.iload_n 3, 1) := by decide +kernel
theorem dX1_addPart_55 : decode cX1_addPart 55 = .ok (.iconst 1, 1) := by decide +kernel
theorem dX1_addPart_56 : decode cX1_addPart 56 = .ok (.iadd, 1) := by decide +kernel
theorem dX1_addPart_57 : decode cX1_addPart 57 = .ok (.invokevirtual 68, 3) := by decide +kernel
theorem dX1_addPart_60 : decode cX1_addPart 60 = .ok (.istore 4, 2) := by decide +kernel
theorem dX1_addPart_62 : decode cX1_addPart 62 = .ok (.aload_n 0, 1) := by decide +kernel
theorem dX1_addPart_63 : decode cX1_addPart 63 = .ok (.aload_n 1, 1) := by decide +kernel
theorem dX1_addPart_64 : decode cX1_addPart 64 = .ok (.iload 5, 2) := by decide +kernel
theorem dX1_addPart_66 : decode cX1_addPart 66 = .ok (.iload_n 3, 1) := by decide +kernel
theorem dX1_addPart_67 : decode cX1_addPart 67 = .ok (.iconst 1, 1) := by decide +kernel
theorem dX1_addPart_68 : decode cX1_addPart 68 = .ok (.iadd, 1) := by decide +kernel
theorem dX1_addPart_69 : decode cX1_addPart 69 = .ok (.invokevirtual 68, 3) := by decide +kernel
theorem dX1_addPart_72 : decode cX1_addPart 72 = .ok (.istore 5, 2) := by decide +kernel
theorem dX1_addPart_74 : decode cX1_addPart 74 = .ok (.aload_n 0, 1) := by decide +kernel
theorem dX1_addPart_75 : decode cX1_addPart 75 = .ok (.getfield 35, 3) := by decide +kernel
theorem dX1_addPart_78 : decode cX1_addPart 78 = .ok (.iload_n 2, 1) := by decide +kernel
theorem dX1_addPart_79 : decode cX1_addPart 79 = .ok (.aload_n 0, 1) := by decide +kernel
theorem dX1_addPart_80 : decode cX1_addPart 80 = .ok (.aload_n 1, 1) := by decide +kernel
theorem dX1_addPart_81 : decode cX1_addPart 81 = .ok (.getfield 19, 3) := by decide +kernel
theorem dX1_addPart_84 : decode cX1_addPart 84 = .ok (.iload_n 2, 1) := by decide +kernel
theorem dX1_addPart_85 : decode cX1_addPart 85 = .ok (.iaload, 1) := by decide +kernel
theorem dX1_addPart_86 : decode cX1_addPart 86 = .ok (.iload 4, 2) := by decide +kernel
theorem dX1_addPart_88 : decode cX1_addPart 88 = .ok (.iload 5, 2) := by decide +kernel
theorem dX1_addPart_90 : decode cX1_addPart 90 = .ok (.invokevirtual 58, 3) := by decide +kernel
theorem dX1_addPart_93 : decode cX1_addPart 93 = .ok (.iastore, 1) := by decide +kernel
theorem dX1_addPart_94 : decode cX1_addPart 94 = .ok (.aload_n 0, 1) := by decide +kernel
theorem dX1_addPart_95 : decode cX1_addPart 95 = .ok (.getfield 35, 3) := by decide +kernel
theorem dX1_addPart_98 : decode cX1_addPart 98 = .ok (.iload_n 2, 1) := by decide +kernel
theorem dX1_addPart_99 : decode cX1_addPart 99 = .ok (.iaload, 1) := by decide +kernel
theorem dX1_addPart_100 : decode cX1_addPart 100 = .ok (.ireturn, 1) := by decide +kernel
theorem dX1_isTrueByRows_0 : decode cX1_isTrueByRows 0 = .ok (.aload_n 0, 1) := by decide +kernel
theorem dX1_isTrueByRows_1 : decode cX1_isTrueByRows 1 = .ok (.getfield 9, 3) := by decide +kernel
theorem dX1_isTrueByRows_4 : decode cX1_isTrueByRows 4 = .ok (.ifCond .le 21, 3) := by decide +kernel
theorem dX1_isTrueByRows_7 : decode cX1_isTrueByRows 7 = .ok (.aload_n 0, 1) := by decide +kernel
theorem dX1_isTrueByRows_8 : decode cX1_isTrueByRows 8 = .ok (.getfield 32, 3) := by decide +kernel
theorem dX1_isTrueByRows_11 : decode cX1_isTrueByRows 11 = .ok (.aload_n 0, 1) := by decide +kernel
theorem dX1_isTrueByRows_12 : decode cX1_isTrueByRows 12 = .ok (.invokevirtual 61, 3) := by decide +kernel
theorem dX1_isTrueByRows_15 : decode cX1_isTrueByRows 15 = .ok (.iaload, 1) := by decide +kernel
theorem dX1_isTrueByRows_16 : decode cX1_isTrueByRows 16 = .ok (.ldc 53, 2) := by decide +kernel
theorem dX1_isTrueByRows_18 : decode cX1_isTrueByRows 18 = .ok (.if_icmp .ne 7, 3) := by decide +kernel
theorem dX1_isTrueByRows_21 : decode cX1_isTrueByRows 21 = .ok (.iconst 1, 1) := by decide +kernel
theorem dX1_isTrueByRows_22 : decode cX1_isTrueByRows 22 = .ok (.goto 4, 3) := by decide +kernel
theorem dX1_isTrueByRows_25 : decode cX1_isTrueByRows 25 = .ok (.iconst 0, 1) := by decide +kernel
theorem dX1_isTrueByRows_26 : decode cX1_isTrueByRows 26 = .ok (.ireturn, 1) := by decide +kernel
theorem dX1_signs_0 : decode cX1_signs 0 = .ok (.aload_n 0, 1) := by decide +kernel
theorem dX1_signs_1 : decode cX1_signs 1 = .ok (.getfield 9, 3) := by decide +kernel
theorem dX1_signs_4 : decode cX1_signs 4 = .ok (.ifCond .le 15, 3) := by decide +kernel
theorem dX1_signs_7 : decode cX1_signs 7 = .ok (.aload_n 0, 1) := by decide +kernel
theorem dX1_signs_8 : decode cX1_signs 8 = .ok (.getfield 29, 3) := by decide +kernel
theorem dX1_signs_11 : decode cX1_signs 11 = .ok (.aload_n 0, 1) := by decide +kernel
theorem dX1_signs_12 : decode cX1_signs 12 = .ok (.invokevirtual 61, 3) := by decide +kernel
theorem dX1_signs_15 : decode cX1_signs 15 = .ok (.iaload, 1) := by decide +kernel
theorem dX1_signs_16 : decode cX1_signs 16 = .ok (.goto 4, 3) := by decide +kernel
theorem dX1_signs_19 : decode cX1_signs 19 = .ok (.iconst 0, 1) := by decide +kernel
theorem dX1_signs_20 : decode cX1_signs 20 = .ok (.ireturn, 1) := by decide +kernel
theorem dX1_signAt_0 : decode cX1_signAt 0 = .ok (.iload_n 1, 1) := by decide +kernel
theorem dX1_signAt_1 : decode cX1_signAt 1 = .ok (.ifCond .lt 11, 3) := by decide +kernel
theorem dX1_signAt_4 : decode cX1_signAt 4 = .ok (.iload_n 1, 1) := by decide +kernel
theorem dX1_signAt_5 : decode cX1_signAt 5 = .ok (.aload_n 0, 1) := by decide +kernel
theorem dX1_signAt_6 : decode cX1_signAt 6 = .ok (.invokevirtual 72, 3) := by decide +kernel
theorem dX1_signAt_9 : decode cX1_signAt 9 = .ok (.if_icmp .lt 6, 3) := by decide +kernel
theorem dX1_signAt_12 : decode cX1_signAt 12 = .ok (.bipush (-6), 2) := by decide +kernel
theorem dX1_signAt_14 : decode cX1_signAt 14 = .ok (.ireturn, 1) := by decide +kernel
theorem dX1_signAt_15 : decode cX1_signAt 15 = .ok (.aload_n 0, 1) := by decide +kernel
theorem dX1_signAt_16 : decode cX1_signAt 16 = .ok (.invokevirtual 61, 3) := by decide +kernel
theorem dX1_signAt_19 : decode cX1_signAt 19 = .ok (.istore_n 2, 1) := by decide +kernel
theorem dX1_signAt_20 : decode cX1_signAt 20 = .ok (.iload_n 1, 1) := by decide +kernel
theorem dX1_signAt_21 : decode cX1_signAt 21 = .ok (.istore_n 3, 1) := by decide +kernel
theorem dX1_signAt_22 : decode cX1_signAt 22 = .ok (.iconst 0, 1) := by decide +kernel
theorem dX1_signAt_23 : decode cX1_signAt 23 = .ok (.istore 4, 2) := by decide +kernel
theorem dX1_signAt_25 : decode cX1_signAt 25 = .ok (.iload 4, 2) := by decide +kernel
theorem dX1_signAt_27 : decode cX1_signAt 27 = .ok (.bipush 11, 2) := by decide +kernel
theorem dX1_signAt_29 : decode cX1_signAt 29 = .ok (.if_icmp .ge 121, 3) := by decide +kernel
theorem dX1_signAt_32 : decode cX1_signAt 32 = .ok (.aload_n 0, 1) := by decide +kernel
theorem dX1_signAt_33 : decode cX1_signAt 33 = .ok (.getfield 19, 3) := by decide +kernel
theorem dX1_signAt_36 : decode cX1_signAt 36 = .ok (.iload_n 2, 1) := by decide +kernel
theorem dX1_signAt_37 : decode cX1_signAt 37 = .ok (.iaload, 1) := by decide +kernel
theorem dX1_signAt_38 : decode cX1_signAt 38 = .ok (.iconst 2, 1) := by decide +kernel
theorem dX1_signAt_39 : decode cX1_signAt 39 = .ok (.if_icmp .lt 111, 3) := by decide +kernel
theorem dX1_signAt_42 : decode cX1_signAt 42 = .ok (.aload_n 0, 1) := by decide +kernel
theorem dX1_signAt_43 : decode cX1_signAt 43 = .ok (.getfield 29, 3) := by decide +kernel
theorem dX1_signAt_46 : decode cX1_signAt 46 = .ok (.aload_n 0, 1) := by decide +kernel
theorem dX1_signAt_47 : decode cX1_signAt 47 = .ok (.getfield 23, 3) := by decide +kernel
theorem dX1_signAt_50 : decode cX1_signAt 50 = .ok (.iload_n 2, 1) := by decide +kernel
theorem dX1_signAt_51 : decode cX1_signAt 51 = .ok (.iaload, 1) := by decide +kernel
theorem dX1_signAt_52 : decode cX1_signAt 52 = .ok (.iaload, 1) := by decide +kernel
theorem dX1_signAt_53 : decode cX1_signAt 53 = .ok (.iconst 1, 1) := by decide +kernel
theorem dX1_signAt_54 : decode cX1_signAt 54 = .ok (.iadd, 1) := by decide +kernel
theorem dX1_signAt_55 : decode cX1_signAt 55 = .ok (.istore 5, 2) := by decide +kernel
theorem dX1_signAt_57 : decode cX1_signAt 57 = .ok (.iload 5, 2) := by decide +kernel
theorem dX1_signAt_59 : decode cX1_signAt 59 = .ok (.aload_n 0, 1) := by decide +kernel
theorem dX1_signAt_60 : decode cX1_signAt 60 = .ok (.getfield 29, 3) := by decide +kernel
theorem dX1_signAt_63 : decode cX1_signAt 63 = .ok (.aload_n 0, 1) := by decide +kernel
theorem dX1_signAt_64 : decode cX1_signAt 64 = .ok (.getfield 26, 3) := by decide +kernel
theorem dX1_signAt_67 : decode cX1_signAt 67 = .ok (.iload_n 2, 1) := by decide +kernel
theorem dX1_signAt_68 : decode cX1_signAt 68 = .ok (.iaload, 1) := by decide +kernel
theorem dX1_signAt_69 : decode cX1_signAt 69 = .ok (.iaload, 1) := by decide +kernel
theorem dX1_signAt_70 : decode cX1_signAt 70 = .ok (.iadd, 1) := by decide +kernel
theorem dX1_signAt_71 : decode cX1_signAt 71 = .ok (.iconst 1, 1) := by decide +kernel
theorem dX1_signAt_72 : decode cX1_signAt 72 = .ok (.iadd, 1) := by decide +kernel
theorem dX1_signAt_73 : decode cX1_signAt 73 = .ok (.istore 6, 2) := by decide +kernel
theorem dX1_signAt_75 : decode cX1_signAt 75 = .ok (.iload_n 3, 1) := by decide +kernel
theorem dX1_signAt_76 : decode cX1_signAt 76 = .ok (.ifCond .ne 6, 3) := by decide +kernel
theorem dX1_signAt_79 : decode cX1_signAt 79 = .ok (.bipush 40, 2) := by decide +kernel
theorem dX1_signAt_81 : decode cX1_signAt 81 = .ok (.ireturn, 1) := by decide +kernel
theorem dX1_signAt_82 : decode cX1_signAt 82 = .ok (.iload_n 3, 1) := by decide +kernel
theorem dX1_signAt_83 : decode cX1_signAt 83 = .ok (.iload 5, 2) := by decide +kernel
theorem dX1_signAt_85 : decode cX1_signAt 85 = .ok (.if_icmp .ne 17, 3) := by decide +kernel
theorem dX1_signAt_88 : decode cX1_signAt 88 = .ok (.ldc 75, 2) := by decide +kernel
theorem dX1_signAt_90 : decode cX1_signAt 90 = .ok (.aload_n 0, 1) := by decide +kernel
theorem dX1_signAt_91 : decode cX1_signAt 91 = .ok (.getfield 19, 3) := by decide +kernel
theorem dX1_signAt_94 : decode cX1_signAt 94 = .ok (.iload_n 2, 1) := by decide +kernel
theorem dX1_signAt_95 : decode cX1_signAt 95 = .ok (.iaload, 1) := by decide +kernel
theorem dX1_signAt_96 : decode cX1_signAt 96 = .ok (.iconst 2, 1) := by decide +kernel
theorem dX1_signAt_97 : decode cX1_signAt 97 = .ok (.isub, 1) := by decide +kernel
theorem dX1_signAt_98 : decode cX1_signAt 98 = .ok (.invokevirtual 77, 3) := by decide +kernel
theorem dX1_signAt_101 : decode cX1_signAt 101 = .ok (.ireturn, 1) := by decide +kernel
theorem dX1_signAt_102 : decode cX1_signAt 102 = .ok (.iload_n 3, 1) := by decide +kernel
theorem dX1_signAt_103 : decode cX1_signAt 103 = .ok (.iload 6, 2) := by decide +kernel
theorem dX1_signAt_105 : decode cX1_signAt 105 = .ok (.if_icmp .ne 6, 3) := by decide +kernel
theorem dX1_signAt_108 : decode cX1_signAt 108 = .ok (.bipush 41, 2) := by decide +kernel
theorem dX1_signAt_110 : decode cX1_signAt 110 = .ok (.ireturn, 1) := by decide +kernel
theorem dX1_signAt_111 : decode cX1_signAt 111 = .ok (.iload_n 3, 1) := by decide +kernel
theorem dX1_signAt_112 : decode cX1_signAt 112 = .ok (.iload 5, 2) := by decide +kernel
theorem dX1_signAt_114 : decode cX1_signAt 114 = .ok (.if_icmp .ge 16, 3) := by decide +kernel
theorem dX1_signAt_117 : decode cX1_signAt 117 = .ok (.iinc 3 (-1), 3) := by decide +kernel
theorem dX1_signAt_120 : decode cX1_signAt 120 = .ok (.aload_n 0, 1) := by decide +kernel
theorem dX1_signAt_121 : decode cX1_signAt 121 = .ok (.getfield 23, 3) := by decide +kernel
theorem dX1_signAt_124 : decode cX1_signAt 124 = .ok (.iload_n 2, 1) := by decide +kernel
theorem dX1_signAt_125 : decode cX1_signAt 125 = .ok (.iaload, 1) := by decide +kernel
theorem dX1_signAt_126 : decode cX1_signAt 126 = .ok (.istore_n 2, 1) := by decide +kernel
theorem dX1_signAt_127 : decode cX1_signAt 127 = .ok (.goto 17, 3) := by decide +kernel
theorem dX1_signAt_130 : decode cX1_signAt 130 = .ok (.iload_n 3, 1) := by decide +kernel
theorem dX1_signAt_131 : decode cX1_signAt 131 = .ok (.iload 5, 2) := by decide +kernel
theorem dX1_signAt_133 : decode cX1_signAt 133 = .ok (.iconst 1, 1) := by decide +kernel
theorem dX1_signAt_134 : decode cX1_signAt 134 = .ok (.iadd, 1) := by decide +kernel
theorem dX1_signAt_135 : decode cX1_signAt 135 = .ok (.isub, 1) := by decide +kernel
theorem dX1_signAt_136 : decode cX1_signAt 136 = .ok (.istore_n 3, 1) := by decide +kernel
theorem dX1_signAt_137 : decode cX1_signAt 137 = .ok (.aload_n 0, 1) := by decide +kernel
theorem dX1_signAt_138 : decode cX1_signAt 138 = .ok (.getfield 26, 3) := by decide +kernel
theorem dX1_signAt_141 : decode cX1_signAt 141 = .ok (.iload_n 2, 1) := by decide +kernel
theorem dX1_signAt_142 : decode cX1_signAt 142 = .ok (.iaload, 1) := by decide +kernel
theorem dX1_signAt_143 : decode cX1_signAt 143 = .ok (.istore_n 2, 1) := by decide +kernel
theorem dX1_signAt_144 : decode cX1_signAt 144 = .ok (.iinc 4 1, 3) := by decide +kernel
theorem dX1_signAt_147 : decode cX1_signAt 147 = .ok (.goto (-122), 3) := by decide +kernel
theorem dX1_signAt_150 : decode cX1_signAt 150 = .ok (.aload_n 0, 1) := by decide +kernel
theorem dX1_signAt_151 : decode cX1_signAt 151 = .ok (.getfield 19, 3) := by decide +kernel
theorem dX1_signAt_154 : decode cX1_signAt 154 = .ok (.iload_n 2, 1) := by decide +kernel
theorem dX1_signAt_155 : decode cX1_signAt 155 = .ok (.iaload, 1) := by decide +kernel
theorem dX1_signAt_156 : decode cX1_signAt 156 = .ok (.ifCond .ne 17, 3) := by decide +kernel
theorem dX1_signAt_159 : decode cX1_signAt 159 = .ok (.ldc 83, 2) := by decide +kernel
theorem dX1_signAt_161 : decode cX1_signAt 161 = .ok (.aload_n 0, 1) := by decide +kernel
theorem dX1_signAt_162 : decode cX1_signAt 162 = .ok (.getfield 23, 3) := by decide +kernel
theorem dX1_signAt_165 : decode cX1_signAt 165 = .ok (.iload_n 2, 1) := by decide +kernel
theorem dX1_signAt_166 : decode cX1_signAt 166 = .ok (.iaload, 1) := by decide +kernel
theorem dX1_signAt_167 : decode cX1_signAt 167 = .ok (.invokevirtual 77, 3) := by decide +kernel
theorem dX1_signAt_170 : decode cX1_signAt 170 = .ok (.goto 5, 3) := by decide +kernel
theorem dX1_signAt_173 : decode cX1_signAt 173 = .ok (.bipush 70, 2) := by decide +kernel
theorem dX1_signAt_175 : decode cX1_signAt 175 = .ok (.ireturn, 1) := by decide +kernel
end
section
theorem dX2_init_0 : decode cX2_init 0 = .ok (.aload_n 0, 1) := by decide +kernel
theorem dX2_init_1 : decode cX2_init 1 = .ok (.invokespecial 3, 3) := by decide +kernel
theorem dX2_init_4 : decode cX2_init 4 = .ok (.aload_n 0, 1) := by decide +kernel
theorem dX2_init_5 : decode cX2_init 5 = .ok (.bipush 6, 2) := by decide +kernel
theorem dX2_init_7 : decode cX2_init 7 = .ok (.anewarray 9, 3) := by decide +kernel
theorem dX2_init_10 : decode cX2_init 10 = .ok (.putfield 11, 3) := by decide +kernel
theorem dX2_init_13 : decode cX2_init 13 = .ok (.iconst 0, 1) := by decide +kernel
theorem dX2_init_14 : decode cX2_init 14 = .ok (.istore_n 1, 1) := by decide +kernel
theorem dX2_init_15 : decode cX2_init 15 = .ok (.iload_n 1, 1) := by decide +kernel
theorem dX2_init_16 : decode cX2_init 16 = .ok (.bipush 6, 2) := by decide +kernel
theorem dX2_init_18 : decode cX2_init 18 = .ok (.if_icmp .ge 22, 3) := by decide +kernel
theorem dX2_init_21 : decode cX2_init 21 = .ok (.aload_n 0, 1) := by decide +kernel
theorem dX2_init_22 : decode cX2_init 22 = .ok (.getfield 11, 3) := by decide +kernel
theorem dX2_init_25 : decode cX2_init 25 = .ok (.iload_n 1, 1) := by decide +kernel
theorem dX2_init_26 : decode cX2_init 26 = .ok (.new 9, 3) := by decide +kernel
theorem dX2_init_29 : decode cX2_init 29 = .ok (.dup, 1) := by decide +kernel
theorem dX2_init_30 : decode cX2_init 30 = .ok (.invokespecial 17, 3) := by decide +kernel
theorem dX2_init_33 : decode cX2_init 33 = .ok (.aastore, 1) := by decide +kernel
theorem dX2_init_34 : decode cX2_init 34 = .ok (.iinc 1 1, 3) := by decide +kernel
theorem dX2_init_37 : decode cX2_init 37 = .ok (.goto (-22), 3) := by decide +kernel
theorem dX2_init_40 : decode cX2_init 40 = .ok (.return_, 1) := by decide +kernel
theorem dX2_copyFrom_0 : decode cX2_copyFrom 0 = .ok (.iconst 0, 1) := by decide +kernel
theorem dX2_copyFrom_1 : decode cX2_copyFrom 1 = .ok (.istore_n 2, 1) := by decide +kernel
theorem dX2_copyFrom_2 : decode cX2_copyFrom 2 = .ok (.iload_n 2, 1) := by decide +kernel
theorem dX2_copyFrom_3 : decode cX2_copyFrom 3 = .ok (.bipush 6, 2) := by decide +kernel
theorem dX2_copyFrom_5 : decode cX2_copyFrom 5 = .ok (.if_icmp .ge 24, 3) := by decide +kernel
theorem dX2_copyFrom_8 : decode cX2_copyFrom 8 = .ok (.aload_n 0, 1) := by decide +kernel
theorem dX2_copyFrom_9 : decode cX2_copyFrom 9 = .ok (.getfield 11, 3) := by decide +kernel
theorem dX2_copyFrom_12 : decode cX2_copyFrom 12 = .ok (.iload_n 2, 1) := by decide +kernel
theorem dX2_copyFrom_13 : decode cX2_copyFrom 13 = .ok (.aaload, 1) := by decide +kernel
theorem dX2_copyFrom_14 : decode cX2_copyFrom 14 = .ok (.aload_n 1, 1) := by decide +kernel
theorem dX2_copyFrom_15 : decode cX2_copyFrom 15 = .ok (.getfield 11, 3) := by decide +kernel
theorem dX2_copyFrom_18 : decode cX2_copyFrom 18 = .ok (.iload_n 2, 1) := by decide +kernel
theorem dX2_copyFrom_19 : decode cX2_copyFrom 19 = .ok (.aaload, 1) := by decide +kernel
theorem dX2_copyFrom_20 : decode cX2_copyFrom 20 = .ok (.invokevirtual 18, 3) := by decide +kernel
theorem dX2_copyFrom_23 : decode cX2_copyFrom 23 = .ok (.iinc 2 1, 3) := by decide +kernel
theorem dX2_copyFrom_26 : decode cX2_copyFrom 26 = .ok (.goto (-24), 3) := by decide +kernel
theorem dX2_copyFrom_29 : decode cX2_copyFrom 29 = .ok (.return_, 1) := by decide +kernel
theorem dX2_countUnlike_0 : decode cX2_countUnlike 0 = .ok (.iconst 0, 1) := by decide +kernel
theorem dX2_countUnlike_1 : decode cX2_countUnlike 1 = .ok (.istore_n 1, 1) := by decide +kernel
theorem dX2_countUnlike_2 : decode cX2_countUnlike 2 = .ok (.iconst 0, 1) := by decide +kernel
theorem dX2_countUnlike_3 : decode cX2_countUnlike 3 = .ok (.istore_n 2, 1) := by decide +kernel
theorem dX2_countUnlike_4 : decode cX2_countUnlike 4 = .ok (.iload_n 2, 1) := by decide +kernel
theorem dX2_countUnlike_5 : decode cX2_countUnlike 5 = .ok (.bipush 6, 2) := by decide +kernel
theorem dX2_countUnlike_7 : decode cX2_countUnlike 7 = .ok (.if_icmp .ge 32, 3) := by decide +kernel
theorem dX2_countUnlike_10 : decode cX2_countUnlike 10 = .ok (.aload_n 0, 1) := by decide +kernel
theorem dX2_countUnlike_11 : decode cX2_countUnlike 11 = .ok (.getfield 11, 3) := by decide +kernel
theorem dX2_countUnlike_14 : decode cX2_countUnlike 14 = .ok (.iload_n 2, 1) := by decide +kernel
theorem dX2_countUnlike_15 : decode cX2_countUnlike 15 = .ok (.aaload, 1) := by decide +kernel
theorem dX2_countUnlike_16 : decode cX2_countUnlike 16 = .ok (.getfield 22, 3) := by decide +kernel
theorem dX2_countUnlike_19 : decode cX2_countUnlike 19 = .ok (.ifCond .le 14, 3) := by decide +kernel
theorem dX2_countUnlike_22 : decode cX2_countUnlike 22 = .ok (.aload_n 0, 1) := by decide +kernel
theorem dX2_countUnlike_23 : decode cX2_countUnlike 23 = .ok (.iload_n 2, 1) := by decide +kernel
theorem dX2_countUnlike_24 : decode cX2_countUnlike 24 = .ok (.invokevirtual 26, 3) := by decide +kernel
theorem dX2_countUnlike_27 : decode cX2_countUnlike 27 = .ok (.ifCond .ne 6, 3) := by decide +kernel
theorem dX2_countUnlike_30 : decode cX2_countUnlike 30 = .ok (.iinc 1 1, 3) := by decide +kernel
theorem dX2_countUnlike_33 : decode cX2_countUnlike 33 = .ok (.iinc 2 1, 3) := by decide +kernel
theorem dX2_countUnlike_36 : decode cX2_countUnlike 36 = .ok (.goto (-32), 3) := by decide +kernel
theorem dX2_countUnlike_39 : decode cX2_countUnlike 39 = .ok (.iload_n 1, 1) := by decide +kernel
theorem dX2_countUnlike_40 : decode cX2_countUnlike 40 = .ok (.ireturn, 1) := by decide +kernel
theorem dX2_standsBefore_0 : decode cX2_standsBefore 0 = .ok (.iconst 0, 1) := by decide +kernel
theorem dX2_standsBefore_1 : decode cX2_standsBefore 1 = .ok (.istore_n 2, 1) := by decide +kernel
theorem dX2_standsBefore_2 : decode cX2_standsBefore 2 = .ok (.iload_n 2, 1) := by decide +kernel
theorem dX2_standsBefore_3 : decode cX2_standsBefore 3 = .ok (.iload_n 1, 1) := by decide +kernel
theorem dX2_standsBefore_4 : decode cX2_standsBefore 4 = .ok (.if_icmp .ge 29, 3) := by decide +kernel
theorem dX2_standsBefore_7 : decode cX2_standsBefore 7 = .ok (.aload_n 0, 1) := by decide +kernel
theorem dX2_standsBefore_8 : decode cX2_standsBefore 8 = .ok (.getfield 11, 3) := by decide +kernel
theorem dX2_standsBefore_11 : decode cX2_standsBefore 11 = .ok (.iload_n 2, 1) := by decide +kernel
theorem dX2_standsBefore_12 : decode cX2_standsBefore 12 = .ok (.aaload, 1) := by decide +kernel
theorem dX2_standsBefore_13 : decode cX2_standsBefore 13 = .ok (.aload_n 0, 1) := by decide +kernel
theorem dX2_standsBefore_14 : decode cX2_standsBefore 14 = .ok (.getfield 11, 3) := by decide +kernel
theorem dX2_standsBefore_17 : decode cX2_standsBefore 17 = .ok (.iload_n 1, 1) := by decide +kernel
theorem dX2_standsBefore_18 : decode cX2_standsBefore 18 = .ok (.aaload, 1) := by decide +kernel
theorem dX2_standsBefore_19 : decode cX2_standsBefore 19 = .ok (.invokevirtual 30, 3) := by decide +kernel
theorem dX2_standsBefore_22 : decode cX2_standsBefore 22 = .ok (.ifCond .eq 5, 3) := by decide +kernel
theorem dX2_standsBefore_25 : decode cX2_standsBefore 25 = .ok (.iconst 1, 1) := by decide +kernel
theorem dX2_standsBefore_26 : decode cX2_standsBefore 26 = .ok (.ireturn, 1) := by decide +kernel
theorem dX2_standsBefore_27 : decode cX2_standsBefore 27 = .ok (.iinc 2 1, 3) := by decide +kernel
theorem dX2_standsBefore_30 : decode cX2_standsBefore 30 = .ok (.goto (-28), 3) := by decide +kernel
theorem dX2_standsBefore_33 : decode cX2_standsBefore 33 = .ok (.iconst 0, 1) := by decide +kernel
theorem dX2_standsBefore_34 : decode cX2_standsBefore 34 = .ok (.ireturn, 1) := by decide +kernel
end
section
theorem dX3_init_0 : decode cX3_init 0 = .ok (.aload_n 0, 1) := by decide +kernel
theorem dX3_init_1 : decode cX3_init 1 = .ok (.invokespecial 3, 3) := by decide +kernel
theorem dX3_init_4 : decode cX3_init 4 = .ok (.aload_n 0, 1) := by decide +kernel
theorem dX3_init_5 : decode cX3_init 5 = .ok (.iconst 0, 1) := by decide +kernel
theorem dX3_init_6 : decode cX3_init 6 = .ok (.putfield 9, 3) := by decide +kernel
theorem dX3_init_9 : decode cX3_init 9 = .ok (.aload_n 0, 1) := by decide +kernel
theorem dX3_init_10 : decode cX3_init 10 = .ok (.bipush 40, 2) := by decide +kernel
theorem dX3_init_12 : decode cX3_init 12 = .ok (.newarray .int, 2) := by decide +kernel
theorem dX3_init_14 : decode cX3_init 14 = .ok (.putfield 15, 3) := by decide +kernel
theorem dX3_init_17 : decode cX3_init 17 = .ok (.aload_n 0, 1) := by decide +kernel
theorem dX3_init_18 : decode cX3_init 18 = .ok (.bipush 40, 2) := by decide +kernel
theorem dX3_init_20 : decode cX3_init 20 = .ok (.newarray .int, 2) := by decide +kernel
theorem dX3_init_22 : decode cX3_init 22 = .ok (.putfield 19, 3) := by decide +kernel
theorem dX3_init_25 : decode cX3_init 25 = .ok (.aload_n 0, 1) := by decide +kernel
theorem dX3_init_26 : decode cX3_init 26 = .ok (.bipush 40, 2) := by decide +kernel
theorem dX3_init_28 : decode cX3_init 28 = .ok (.newarray .int, 2) := by decide +kernel
theorem dX3_init_30 : decode cX3_init 30 = .ok (.putfield 22, 3) := by decide +kernel
theorem dX3_init_33 : decode cX3_init 33 = .ok (.aload_n 0, 1) := by decide +kernel
theorem dX3_init_34 : decode cX3_init 34 = .ok (.iconst 0, 1) := by decide +kernel
theorem dX3_init_35 : decode cX3_init 35 = .ok (.putfield 25, 3) := by decide +kernel
theorem dX3_init_38 : decode cX3_init 38 = .ok (.aload_n 0, 1) := by decide +kernel
theorem dX3_init_39 : decode cX3_init 39 = .ok (.iconst 1, 1) := by decide +kernel
theorem dX3_init_40 : decode cX3_init 40 = .ok (.putfield 28, 3) := by decide +kernel
theorem dX3_init_43 : decode cX3_init 43 = .ok (.aload_n 0, 1) := by decide +kernel
theorem dX3_init_44 : decode cX3_init 44 = .ok (.iconst 0, 1) := by decide +kernel
theorem dX3_init_45 : decode cX3_init 45 = .ok (.putfield 32, 3) := by decide +kernel
theorem dX3_init_48 : decode cX3_init 48 = .ok (.return_, 1) := by decide +kernel
theorem dX3_add_0 : decode cX3_add 0 = .ok (.aload_n 0, 1) := by decide +kernel
theorem dX3_add_1 : decode cX3_add 1 = .ok (.getfield 9, 3) := by decide +kernel
theorem dX3_add_4 : decode cX3_add 4 = .ok (.bipush 40, 2) := by decide +kernel
theorem dX3_add_6 : decode cX3_add 6 = .ok (.if_icmp .ge 23, 3) := by decide +kernel
theorem dX3_add_9 : decode cX3_add 9 = .ok (.aload_n 0, 1) := by decide +kernel
theorem dX3_add_10 : decode cX3_add 10 = .ok (.getfield 15, 3) := by decide +kernel
theorem dX3_add_13 : decode cX3_add 13 = .ok (.aload_n 0, 1) := by decide +kernel
theorem dX3_add_14 : decode cX3_add 14 = .ok (.getfield 9, 3) := by decide +kernel
theorem dX3_add_17 : decode cX3_add 17 = .ok (.iload_n 1, 1) := by decide +kernel
theorem dX3_add_18 : decode cX3_add 18 = .ok (.iastore, 1) := by decide +kernel
theorem dX3_add_19 : decode cX3_add 19 = .ok (.aload_n 0, 1) := by decide +kernel
theorem dX3_add_20 : decode cX3_add 20 = .ok (.dup, 1) := by decide +kernel
theorem dX3_add_21 : decode cX3_add 21 = .ok (.getfield 9, 3) := by decide +kernel
theorem dX3_add_24 : decode cX3_add 24 = .ok (.iconst 1, 1) := by decide +kernel
theorem dX3_add_25 : decode cX3_add 25 = .ok (.iadd, 1) := by decide +kernel
theorem dX3_add_26 : decode cX3_add 26 = .ok (.putfield 9, 3) := by decide +kernel
theorem dX3_add_29 : decode cX3_add 29 = .ok (.return_, 1) := by decide +kernel
theorem dX3_parseInto_0 : decode cX3_parseInto 0 = .ok (.aload_n 1, 1) := by decide +kernel
theorem dX3_parseInto_1 : decode cX3_parseInto 1 = .ok (.invokevirtual 35, 3) := by decide +kernel
theorem dX3_parseInto_4 : decode cX3_parseInto 4 = .ok (.aload_n 0, 1) := by decide +kernel
theorem dX3_parseInto_5 : decode cX3_parseInto 5 = .ok (.iconst 0, 1) := by decide +kernel
theorem dX3_parseInto_6 : decode cX3_parseInto 6 = .ok (.putfield 25, 3) := by decide +kernel
theorem dX3_parseInto_9 : decode cX3_parseInto 9 = .ok (.aload_n 0, 1) := by decide +kernel
theorem dX3_parseInto_10 : decode cX3_parseInto 10 = .ok (.iconst 1, 1) := by decide +kernel
theorem dX3_parseInto_11 : decode cX3_parseInto 11 = .ok (.putfield 28, 3) := by decide +kernel
theorem dX3_parseInto_14 : decode cX3_parseInto 14 = .ok (.iconst 0, 1) := by decide +kernel
theorem dX3_parseInto_15 : decode cX3_parseInto 15 = .ok (.istore_n 2, 1) := by decide +kernel
theorem dX3_parseInto_16 : decode cX3_parseInto 16 = .ok (.iload_n 2, 1) := by decide +kernel
theorem dX3_parseInto_17 : decode cX3_parseInto 17 = .ok (.aload_n 0, 1) := by decide +kernel
theorem dX3_parseInto_18 : decode cX3_parseInto 18 = .ok (.getfield 9, 3) := by decide +kernel
theorem dX3_parseInto_21 : decode cX3_parseInto 21 = .ok (.if_icmp .ge 48, 3) := by decide +kernel
theorem dX3_parseInto_24 : decode cX3_parseInto 24 = .ok (.aload_n 0, 1) := by decide +kernel
theorem dX3_parseInto_25 : decode cX3_parseInto 25 = .ok (.getfield 28, 3) := by decide +kernel
theorem dX3_parseInto_28 : decode cX3_parseInto 28 = .ok (.ifCond .eq 17, 3) := by decide +kernel
theorem dX3_parseInto_31 : decode cX3_parseInto 31 = .ok (.aload_n 0, 1) := by decide +kernel
theorem dX3_parseInto_32 : decode cX3_parseInto 32 = .ok (.aload_n 1, 1) := by decide +kernel
theorem dX3_parseInto_33 : decode cX3_parseInto 33 = .ok (.aload_n 0, 1) := by decide +kernel
theorem dX3_parseInto_34 : decode cX3_parseInto 34 = .ok (.getfield 15, 3) := by decide +kernel
theorem dX3_parseInto_37 : decode cX3_parseInto 37 = .ok (.iload_n 2, 1) := by decide +kernel
theorem dX3_parseInto_38 : decode cX3_parseInto 38 = .ok (.iaload, 1) := by decide +kernel
theorem dX3_parseInto_39 : decode cX3_parseInto 39 = .ok (.invokevirtual 40, 3) := by decide +kernel
theorem dX3_parseInto_42 : decode cX3_parseInto 42 = .ok (.goto 14, 3) := by decide +kernel
theorem dX3_parseInto_45 : decode cX3_parseInto 45 = .ok (.aload_n 0, 1) := by decide +kernel
theorem dX3_parseInto_46 : decode cX3_parseInto 46 = .ok (.aload_n 1, 1) := by decide +kernel
theorem dX3_parseInto_47 : decode cX3_parseInto 47 = .ok (.aload_n 0, 1) := by decide +kernel
theorem dX3_parseInto_48 : decode cX3_parseInto 48 = .ok (.getfield 15, 3) := by decide +kernel
theorem dX3_parseInto_51 : decode cX3_parseInto 51 = .ok (.iload_n 2, 1) := by decide +kernel
theorem dX3_parseInto_52 : decode cX3_parseInto 52 = .ok (.iaload, 1) := by decide +kernel
theorem dX3_parseInto_53 : decode cX3_parseInto 53 = .ok (.invokevirtual 44, 3) := by decide +kernel
theorem dX3_parseInto_56 : decode cX3_parseInto 56 = .ok (.istore_n 3, 1) := by decide +kernel
theorem dX3_parseInto_57 : decode cX3_parseInto 57 = .ok (.iload_n 3, 1) := by decide +kernel
theorem dX3_parseInto_58 : decode cX3_parseInto 58 = .ok (.ifCond .ne 5, 3) := by decide +kernel
theorem dX3_parseInto_61 : decode cX3_parseInto 61 = .ok (.iload_n 2, 1) := by decide +kernel
theorem dX3_parseInto_62 : decode cX3_parseInto 62 = .ok (.ireturn, 1) := by decide +kernel
theorem dX3_parseInto_63 : decode cX3_parseInto 63 = .ok (.iinc 2 1, 3) := by decide +kernel
theorem dX3_parseInto_66 : decode cX3_parseInto 66 = .ok (.goto (-50), 3) := by decide +kernel
theorem dX3_parseInto_69 : decode cX3_parseInto 69 = .ok (.aload_n 0, 1) := by decide +kernel
theorem dX3_parseInto_70 : decode cX3_parseInto 70 = .ok (.getfield 28, 3) := by decide +kernel
theorem dX3_parseInto_73 : decode cX3_parseInto 73 = .ok (.ifCond .ne 10, 3) := by decide +kernel
theorem dX3_parseInto_76 : decode cX3_parseInto 76 = .ok (.aload_n 0, 1) := by decide +kernel
theorem dX3_parseInto_77 : decode cX3_parseInto 77 = .ok (.getfield 25, 3) := by decide +kernel
theorem dX3_parseInto_80 : decode cX3_parseInto 80 = .ok (.ifCond .le 10, 3) := by decide +kernel
theorem dX3_parseInto_83 : decode cX3_parseInto 83 = .ok (.aload_n 0, 1) := by decide +kernel
theorem dX3_parseInto_84 : decode cX3_parseInto 84 = .ok (.getfield 9, 3) := by decide +kernel
theorem dX3_parseInto_87 : decode cX3_parseInto 87 = .ok (.goto 5, 3) := by decide +kernel
theorem dX3_parseInto_90 : decode cX3_parseInto 90 = .ok (.bipush (-6), 2) := by decide +kernel
theorem dX3_parseInto_92 : decode cX3_parseInto 92 = .ok (.ireturn, 1) := by decide +kernel
theorem dX3_begin_0 : decode cX3_begin 0 = .ok (.iload_n 2, 1) := by decide +kernel
theorem dX3_begin_1 : decode cX3_begin 1 = .ok (.bipush 40, 2) := by decide +kernel
theorem dX3_begin_3 : decode cX3_begin 3 = .ok (.if_icmp .ne 9, 3) := by decide +kernel
theorem dX3_begin_6 : decode cX3_begin 6 = .ok (.aload_n 0, 1) := by decide +kernel
theorem dX3_begin_7 : decode cX3_begin 7 = .ok (.iconst 1, 1) := by decide +kernel
theorem dX3_begin_8 : decode cX3_begin 8 = .ok (.invokevirtual 47, 3) := by decide +kernel
theorem dX3_begin_11 : decode cX3_begin 11 = .ok (.ireturn, 1) := by decide +kernel
theorem dX3_begin_12 : decode cX3_begin 12 = .ok (.iload_n 2, 1) := by decide +kernel
theorem dX3_begin_13 : decode cX3_begin 13 = .ok (.bipush 45, 2) := by decide +kernel
theorem dX3_begin_15 : decode cX3_begin 15 = .ok (.if_icmp .ne 9, 3) := by decide +kernel
theorem dX3_begin_18 : decode cX3_begin 18 = .ok (.aload_n 0, 1) := by decide +kernel
theorem dX3_begin_19 : decode cX3_begin 19 = .ok (.iconst 0, 1) := by decide +kernel
theorem dX3_begin_20 : decode cX3_begin 20 = .ok (.invokevirtual 47, 3) := by decide +kernel
theorem dX3_begin_23 : decode cX3_begin 23 = .ok (.ireturn, 1) := by decide +kernel
theorem dX3_begin_24 : decode cX3_begin 24 = .ok (.iload_n 2, 1) := by decide +kernel
theorem dX3_begin_25 : decode cX3_begin 25 = .ok (.bipush 70, 2) := by decide +kernel
theorem dX3_begin_27 : decode cX3_begin 27 = .ok (.if_icmp .ne 19, 3) := by decide +kernel
theorem dX3_begin_30 : decode cX3_begin 30 = .ok (.aload_n 0, 1) := by decide +kernel
theorem dX3_begin_31 : decode cX3_begin 31 = .ok (.aload_n 1, 1) := by decide +kernel
theorem dX3_begin_32 : decode cX3_begin 32 = .ok (.aload_n 1, 1) := by decide +kernel
theorem dX3_begin_33 : decode cX3_begin 33 = .ok (.iconst 1, 1) := by decide +kernel
theorem dX3_begin_34 : decode cX3_begin 34 = .ok (.bipush (-6), 2) := by decide +kernel
theorem dX3_begin_36 : decode cX3_begin 36 = .ok (.bipush (-6), 2) := by decide +kernel
theorem dX3_begin_38 : decode cX3_begin 38 = .ok (.invokevirtual 51, 3) := by decide +kernel
theorem dX3_begin_41 : decode cX3_begin 41 = .ok (.invokevirtual 55, 3) := by decide +kernel
theorem dX3_begin_44 : decode cX3_begin 44 = .ok (.iconst 1, 1) := by decide +kernel
theorem dX3_begin_45 : decode cX3_begin 45 = .ok (.ireturn, 1) := by decide +kernel
theorem dX3_begin_46 : decode cX3_begin 46 = .ok (.ldc 59, 2) := by decide +kernel
theorem dX3_begin_48 : decode cX3_begin 48 = .ok (.iload_n 2, 1) := by decide +kernel
theorem dX3_begin_49 : decode cX3_begin 49 = .ok (.i2c, 1) := by decide +kernel
theorem dX3_begin_50 : decode cX3_begin 50 = .ok (.invokevirtual 61, 3) := by decide +kernel
theorem dX3_begin_53 : decode cX3_begin 53 = .ok (.istore_n 3, 1) := by decide +kernel
theorem dX3_begin_54 : decode cX3_begin 54 = .ok (.iload_n 3, 1) := by decide +kernel
theorem dX3_begin_55 : decode cX3_begin 55 = .ok (.ifCond .ge 5, 3) := by decide +kernel
theorem dX3_begin_58 : decode cX3_begin 58 = .ok (.iconst 0, 1) := by decide +kernel
theorem dX3_begin_59 : decode cX3_begin 59 = .ok (.ireturn, 1) := by decide +kernel
theorem dX3_begin_60 : decode cX3_begin 60 = .ok (.aload_n 0, 1) := by decide +kernel
theorem dX3_begin_61 : decode cX3_begin 61 = .ok (.aload_n 1, 1) := by decide +kernel
theorem dX3_begin_62 : decode cX3_begin 62 = .ok (.aload_n 1, 1) := by decide +kernel
theorem dX3_begin_63 : decode cX3_begin 63 = .ok (.iconst 0, 1) := by decide +kernel
theorem dX3_begin_64 : decode cX3_begin 64 = .ok (.iload_n 3, 1) := by decide +kernel
theorem dX3_begin_65 : decode cX3_begin 65 = .ok (.bipush (-6), 2) := by decide +kernel
theorem dX3_begin_67 : decode cX3_begin 67 = .ok (.invokevirtual 51, 3) := by decide +kernel
theorem dX3_begin_70 : decode cX3_begin 70 = .ok (.invokevirtual 55, 3) := by decide +kernel
theorem dX3_begin_73 : decode cX3_begin 73 = .ok (.iconst 1, 1) := by decide +kernel
theorem dX3_begin_74 : decode cX3_begin 74 = .ok (.ireturn, 1) := by decide +kernel
theorem dX3_open_0 : decode cX3_open 0 = .ok (.aload_n 0, 1) := by decide +kernel
theorem dX3_open_1 : decode cX3_open 1 = .ok (.getfield 25, 3) := by decide +kernel
theorem dX3_open_4 : decode cX3_open 4 = .ok (.bipush 40, 2) := by decide +kernel
theorem dX3_open_6 : decode cX3_open 6 = .ok (.if_icmp .lt 5, 3) := by decide +kernel
theorem dX3_open_9 : decode cX3_open 9 = .ok (.iconst 0, 1) := by decide +kernel
theorem dX3_open_10 : decode cX3_open 10 = .ok (.ireturn, 1) := by decide +kernel
theorem dX3_open_11 : decode cX3_open 11 = .ok (.aload_n 0, 1) := by decide +kernel
theorem dX3_open_12 : decode cX3_open 12 = .ok (.getfield 19, 3) := by decide +kernel
theorem dX3_open_15 : decode cX3_open 15 = .ok (.aload_n 0, 1) := by decide +kernel
theorem dX3_open_16 : decode cX3_open 16 = .ok (.getfield 25, 3) := by decide +kernel
theorem dX3_open_19 : decode cX3_open 19 = .ok (.iload_n 1, 1) := by decide +kernel
theorem dX3_open_20 : decode cX3_open 20 = .ok (.iastore, 1) := by decide +kernel
theorem dX3_open_21 : decode cX3_open 21 = .ok (.aload_n 0, 1) := by decide +kernel
theorem dX3_open_22 : decode cX3_open 22 = .ok (.dup, 1) := by decide +kernel
theorem dX3_open_23 : decode cX3_open 23 = .ok (.getfield 25, 3) := by decide +kernel
theorem dX3_open_26 : decode cX3_open 26 = .ok (.iconst 1, 1) := by decide +kernel
theorem dX3_open_27 : decode cX3_open 27 = .ok (.iadd, 1) := by decide +kernel
theorem dX3_open_28 : decode cX3_open 28 = .ok (.putfield 25, 3) := by decide +kernel
theorem dX3_open_31 : decode cX3_open 31 = .ok (.iconst 1, 1) := by decide +kernel
theorem dX3_open_32 : decode cX3_open 32 = .ok (.ireturn, 1) := by decide +kernel
theorem dX3_goOn_0 : decode cX3_goOn 0 = .ok (.aload_n 0, 1) := by decide +kernel
theorem dX3_goOn_1 : decode cX3_goOn 1 = .ok (.getfield 25, 3) := by decide +kernel
theorem dX3_goOn_4 : decode cX3_goOn 4 = .ok (.ifCond .ne 5, 3) := by decide +kernel
theorem dX3_goOn_7 : decode cX3_goOn 7 = .ok (.iconst 0, 1) := by decide +kernel
theorem dX3_goOn_8 : decode cX3_goOn 8 = .ok (.ireturn, 1) := by decide +kernel
theorem dX3_goOn_9 : decode cX3_goOn 9 = .ok (.aload_n 0, 1) := by decide +kernel
theorem dX3_goOn_10 : decode cX3_goOn 10 = .ok (.getfield 25, 3) := by decide +kernel
theorem dX3_goOn_13 : decode cX3_goOn 13 = .ok (.iconst 1, 1) := by decide +kernel
theorem dX3_goOn_14 : decode cX3_goOn 14 = .ok (.isub, 1) := by decide +kernel
theorem dX3_goOn_15 : decode cX3_goOn 15 = .ok (.istore_n 3, 1) := by decide +kernel
theorem dX3_goOn_16 : decode cX3_goOn 16 = .ok (.aload_n 0, 1) := by decide +kernel
theorem dX3_goOn_17 : decode cX3_goOn 17 = .ok (.getfield 19, 3) := by decide +kernel
theorem dX3_goOn_20 : decode cX3_goOn 20 = .ok (.iload_n 3, 1) := by decide +kernel
theorem dX3_goOn_21 : decode cX3_goOn 21 = .ok (.iaload, 1) := by decide +kernel
theorem dX3_goOn_22 : decode cX3_goOn 22 = .ok (.iconst 1, 1) := by decide +kernel
theorem dX3_goOn_23 : decode cX3_goOn 23 = .ok (.if_icmp .ne 46, 3) := by decide +kernel
theorem dX3_goOn_26 : decode cX3_goOn 26 = .ok (.ldc 67, 2) := by decide +kernel
theorem dX3_goOn_28 : decode cX3_goOn 28 = .ok (.iload_n 2, 1) := by decide +kernel
theorem dX3_goOn_29 : decode cX3_goOn 29 = .ok (.i2c, 1) := by decide +kernel
theorem dX3_goOn_30 : decode cX3_goOn 30 = .ok (.invokevirtual 61, 3) := by decide +kernel
theorem dX3_goOn_33 : decode cX3_goOn 33 = .ok (.istore 4, 2) := by decide +kernel
theorem dX3_goOn_35 : decode cX3_goOn 35 = .ok (.iload 4, 2) := by decide +kernel
theorem dX3_goOn_37 : decode cX3_goOn 37 = .ok (.ifCond .ge 5, 3) := by decide +kernel
theorem dX3_goOn_40 : decode cX3_goOn 40 = .ok (.iconst 0, 1) := by decide +kernel
theorem dX3_goOn_41 : decode cX3_goOn 41 = .ok (.ireturn, 1) := by decide +kernel
theorem dX3_goOn_42 : decode cX3_goOn 42 = .ok (.aload_n 0, 1) := by decide +kernel
theorem dX3_goOn_43 : decode cX3_goOn 43 = .ok (.getfield 19, 3) := by decide +kernel
theorem dX3_goOn_46 : decode cX3_goOn 46 = .ok (.iload_n 3, 1) := by decide +kernel
theorem dX3_goOn_47 : decode cX3_goOn 47 = .ok (.iconst 2, 1) := by decide +kernel
theorem dX3_goOn_48 : decode cX3_goOn 48 = .ok (.iload 4, 2) := by decide +kernel
theorem dX3_goOn_50 : decode cX3_goOn 50 = .ok (.iadd, 1) := by decide +kernel
theorem dX3_goOn_51 : decode cX3_goOn 51 = .ok (.iastore, 1) := by decide +kernel
theorem dX3_goOn_52 : decode cX3_goOn 52 = .ok (.aload_n 0, 1) := by decide +kernel
theorem dX3_goOn_53 : decode cX3_goOn 53 = .ok (.getfield 22, 3) := by decide +kernel
theorem dX3_goOn_56 : decode cX3_goOn 56 = .ok (.iload_n 3, 1) := by decide +kernel
theorem dX3_goOn_57 : decode cX3_goOn 57 = .ok (.aload_n 0, 1) := by decide +kernel
theorem dX3_goOn_58 : decode cX3_goOn 58 = .ok (.getfield 32, 3) := by decide +kernel
theorem dX3_goOn_61 : decode cX3_goOn 61 = .ok (.iastore, 1) := by decide +kernel
theorem dX3_goOn_62 : decode cX3_goOn 62 = .ok (.aload_n 0, 1) := by decide +kernel
theorem dX3_goOn_63 : decode cX3_goOn 63 = .ok (.iconst 1, 1) := by decide +kernel
theorem dX3_goOn_64 : decode cX3_goOn 64 = .ok (.putfield 28, 3) := by decide +kernel
theorem dX3_goOn_67 : decode cX3_goOn 67 = .ok (.iconst 1, 1) := by decide +kernel
theorem dX3_goOn_68 : decode cX3_goOn 68 = .ok (.ireturn, 1) := by decide +kernel
theorem dX3_goOn_69 : decode cX3_goOn 69 = .ok (.iload_n 2, 1) := by decide +kernel
theorem dX3_goOn_70 : decode cX3_goOn 70 = .ok (.bipush 41, 2) := by decide +kernel
theorem dX3_goOn_72 : decode cX3_goOn 72 = .ok (.if_icmp .eq 5, 3) := by decide +kernel
theorem dX3_goOn_75 : decode cX3_goOn 75 = .ok (.iconst 0, 1) := by decide +kernel
theorem dX3_goOn_76 : decode cX3_goOn 76 = .ok (.ireturn, 1) := by decide +kernel
theorem dX3_goOn_77 : decode cX3_goOn 77 = .ok (.aload_n 0, 1) := by decide +kernel
theorem dX3_goOn_78 : decode cX3_goOn 78 = .ok (.iload_n 3, 1) := by decide +kernel
theorem dX3_goOn_79 : decode cX3_goOn 79 = .ok (.putfield 25, 3) := by decide +kernel
theorem dX3_goOn_82 : decode cX3_goOn 82 = .ok (.aload_n 0, 1) := by decide +kernel
theorem dX3_goOn_83 : decode cX3_goOn 83 = .ok (.aload_n 1, 1) := by decide +kernel
theorem dX3_goOn_84 : decode cX3_goOn 84 = .ok (.aload_n 1, 1) := by decide +kernel
theorem dX3_goOn_85 : decode cX3_goOn 85 = .ok (.aload_n 0, 1) := by decide +kernel
theorem dX3_goOn_86 : decode cX3_goOn 86 = .ok (.getfield 19, 3) := by decide +kernel
theorem dX3_goOn_89 : decode cX3_goOn 89 = .ok (.iload_n 3, 1) := by decide +kernel
theorem dX3_goOn_90 : decode cX3_goOn 90 = .ok (.iaload, 1) := by decide +kernel
theorem dX3_goOn_91 : decode cX3_goOn 91 = .ok (.aload_n 0, 1) := by decide +kernel
theorem dX3_goOn_92 : decode cX3_goOn 92 = .ok (.getfield 22, 3) := by decide +kernel
theorem dX3_goOn_95 : decode cX3_goOn 95 = .ok (.iload_n 3, 1) := by decide +kernel
theorem dX3_goOn_96 : decode cX3_goOn 96 = .ok (.iaload, 1) := by decide +kernel
theorem dX3_goOn_97 : decode cX3_goOn 97 = .ok (.aload_n 0, 1) := by decide +kernel
theorem dX3_goOn_98 : decode cX3_goOn 98 = .ok (.getfield 32, 3) := by decide +kernel
theorem dX3_goOn_101 : decode cX3_goOn 101 = .ok (.invokevirtual 51, 3) := by decide +kernel
theorem dX3_goOn_104 : decode cX3_goOn 104 = .ok (.invokevirtual 55, 3) := by decide +kernel
theorem dX3_goOn_107 : decode cX3_goOn 107 = .ok (.iconst 1, 1) := by decide +kernel
theorem dX3_goOn_108 : decode cX3_goOn 108 = .ok (.ireturn, 1) := by decide +kernel
theorem dX3_finish_0 : decode cX3_finish 0 = .ok (.aload_n 0, 1) := by decide +kernel
theorem dX3_finish_1 : decode cX3_finish 1 = .ok (.iload_n 2, 1) := by decide +kernel
theorem dX3_finish_2 : decode cX3_finish 2 = .ok (.putfield 32, 3) := by decide +kernel
theorem dX3_finish_5 : decode cX3_finish 5 = .ok (.aload_n 0, 1) := by decide +kernel
theorem dX3_finish_6 : decode cX3_finish 6 = .ok (.iconst 0, 1) := by decide +kernel
theorem dX3_finish_7 : decode cX3_finish 7 = .ok (.putfield 28, 3) := by decide +kernel
theorem dX3_finish_10 : decode cX3_finish 10 = .ok (.aload_n 0, 1) := by decide +kernel
theorem dX3_finish_11 : decode cX3_finish 11 = .ok (.getfield 25, 3) := by decide +kernel
theorem dX3_finish_14 : decode cX3_finish 14 = .ok (.ifCond .le 52, 3) := by decide +kernel
theorem dX3_finish_17 : decode cX3_finish 17 = .ok (.aload_n 0, 1) := by decide +kernel
theorem dX3_finish_18 : decode cX3_finish 18 = .ok (.getfield 19, 3) := by decide +kernel
theorem dX3_finish_21 : decode cX3_finish 21 = .ok (.aload_n 0, 1) := by decide +kernel
theorem dX3_finish_22 : decode cX3_finish 22 = .ok (.getfield 25, 3) := by decide +kernel
theorem dX3_finish_25 : decode cX3_finish 25 = .ok (.iconst 1, 1) := by decide +kernel
theorem dX3_finish_26 : decode cX3_finish 26 = .ok (.isub, 1) := by decide +kernel
theorem dX3_finish_27 : decode cX3_finish 27 = .ok (.iaload, 1) := by decide +kernel
theorem dX3_finish_28 : decode cX3_finish 28 = .ok (.ifCond .ne 38, 3) := by decide +kernel
theorem dX3_finish_31 : decode cX3_finish 31 = .ok (.aload_n 0, 1) := by decide +kernel
theorem dX3_finish_32 : decode cX3_finish 32 = .ok (.dup, 1) := by decide +kernel
theorem dX3_finish_33 : decode cX3_finish 33 = .ok (.getfield 25, 3) := by decide +kernel
theorem dX3_finish_36 : decode cX3_finish 36 = .ok (.iconst 1, 1) := by decide +kernel
theorem dX3_finish_37 : decode cX3_finish 37 = .ok (.isub, 1) := by decide +kernel
theorem dX3_finish_38 : decode cX3_finish 38 = .ok (.putfield 25, 3) := by decide +kernel
theorem dX3_finish_41 : decode cX3_finish 41 = .ok (.aload_n 0, 1) := by decide +kernel
theorem dX3_finish_42 : decode cX3_finish 42 = .ok (.aload_n 1, 1) := by decide +kernel
theorem dX3_finish_43 : decode cX3_finish 43 = .ok (.iconst 4, 1) := by decide +kernel
theorem dX3_finish_44 : decode cX3_finish 44 = .ok (.aload_n 0, 1) := by decide +kernel
theorem dX3_finish_45 : decode cX3_finish 45 = .ok (.getfield 32, 3) := by decide +kernel
theorem dX3_finish_48 : decode cX3_finish 48 = .ok (.aload_n 1, 1) := by decide +kernel
theorem dX3_finish_49 : decode cX3_finish 49 = .ok (.iconst 1, 1) := by decide +kernel
theorem dX3_finish_50 : decode cX3_finish 50 = .ok (.bipush (-6), 2) := by decide +kernel
theorem dX3_finish_52 : decode cX3_finish 52 = .ok (.bipush (-6), 2) := by decide +kernel
theorem dX3_finish_54 : decode cX3_finish 54 = .ok (.invokevirtual 51, 3) := by decide +kernel
theorem dX3_finish_57 : decode cX3_finish 57 = .ok (.invokevirtual 51, 3) := by decide +kernel
theorem dX3_finish_60 : decode cX3_finish 60 = .ok (.putfield 32, 3) := by decide +kernel
theorem dX3_finish_63 : decode cX3_finish 63 = .ok (.goto (-53), 3) := by decide +kernel
theorem dX3_finish_66 : decode cX3_finish 66 = .ok (.return_, 1) := by decide +kernel
end
section
theorem dX4_init_0 : decode cX4_init 0 = .ok (.aload_n 0, 1) := by decide +kernel
theorem dX4_init_1 : decode cX4_init 1 = .ok (.invokespecial 1, 3) := by decide +kernel
theorem dX4_init_4 : decode cX4_init 4 = .ok (.aload_n 0, 1) := by decide +kernel
theorem dX4_init_5 : decode cX4_init 5 = .ok (.new 7, 3) := by decide +kernel
theorem dX4_init_8 : decode cX4_init 8 = .ok (.dup, 1) := by decide +kernel
theorem dX4_init_9 : decode cX4_init 9 = .ok (.invokespecial 9, 3) := by decide +kernel
theorem dX4_init_12 : decode cX4_init 12 = .ok (.putfield 10, 3) := by decide +kernel
theorem dX4_init_15 : decode cX4_init 15 = .ok (.aload_n 0, 1) := by decide +kernel
theorem dX4_init_16 : decode cX4_init 16 = .ok (.iconst 2, 1) := by decide +kernel
theorem dX4_init_17 : decode cX4_init 17 = .ok (.anewarray 7, 3) := by decide +kernel
theorem dX4_init_20 : decode cX4_init 20 = .ok (.putfield 16, 3) := by decide +kernel
theorem dX4_init_23 : decode cX4_init 23 = .ok (.aload_n 0, 1) := by decide +kernel
theorem dX4_init_24 : decode cX4_init 24 = .ok (.iconst 0, 1) := by decide +kernel
theorem dX4_init_25 : decode cX4_init 25 = .ok (.putfield 20, 3) := by decide +kernel
theorem dX4_init_28 : decode cX4_init 28 = .ok (.aload_n 0, 1) := by decide +kernel
theorem dX4_init_29 : decode cX4_init 29 = .ok (.new 24, 3) := by decide +kernel
theorem dX4_init_32 : decode cX4_init 32 = .ok (.dup, 1) := by decide +kernel
theorem dX4_init_33 : decode cX4_init 33 = .ok (.invokespecial 26, 3) := by decide +kernel
theorem dX4_init_36 : decode cX4_init 36 = .ok (.putfield 27, 3) := by decide +kernel
theorem dX4_init_39 : decode cX4_init 39 = .ok (.aload_n 0, 1) := by decide +kernel
theorem dX4_init_40 : decode cX4_init 40 = .ok (.bipush (-6), 2) := by decide +kernel
theorem dX4_init_42 : decode cX4_init 42 = .ok (.putfield 31, 3) := by decide +kernel
theorem dX4_init_45 : decode cX4_init 45 = .ok (.aload_n 0, 1) := by decide +kernel
theorem dX4_init_46 : decode cX4_init 46 = .ok (.new 34, 3) := by decide +kernel
theorem dX4_init_49 : decode cX4_init 49 = .ok (.dup, 1) := by decide +kernel
theorem dX4_init_50 : decode cX4_init 50 = .ok (.invokespecial 36, 3) := by decide +kernel
theorem dX4_init_53 : decode cX4_init 53 = .ok (.putfield 37, 3) := by decide +kernel
theorem dX4_init_56 : decode cX4_init 56 = .ok (.aload_n 0, 1) := by decide +kernel
theorem dX4_init_57 : decode cX4_init 57 = .ok (.new 41, 3) := by decide +kernel
theorem dX4_init_60 : decode cX4_init 60 = .ok (.dup, 1) := by decide +kernel
theorem dX4_init_61 : decode cX4_init 61 = .ok (.invokespecial 43, 3) := by decide +kernel
theorem dX4_init_64 : decode cX4_init 64 = .ok (.putfield 44, 3) := by decide +kernel
theorem dX4_init_67 : decode cX4_init 67 = .ok (.iconst 0, 1) := by decide +kernel
theorem dX4_init_68 : decode cX4_init 68 = .ok (.istore_n 1, 1) := by decide +kernel
theorem dX4_init_69 : decode cX4_init 69 = .ok (.iload_n 1, 1) := by decide +kernel
theorem dX4_init_70 : decode cX4_init 70 = .ok (.iconst 2, 1) := by decide +kernel
theorem dX4_init_71 : decode cX4_init 71 = .ok (.if_icmp .ge 22, 3) := by decide +kernel
theorem dX4_init_74 : decode cX4_init 74 = .ok (.aload_n 0, 1) := by decide +kernel
theorem dX4_init_75 : decode cX4_init 75 = .ok (.getfield 16, 3) := by decide +kernel
theorem dX4_init_78 : decode cX4_init 78 = .ok (.iload_n 1, 1) := by decide +kernel
theorem dX4_init_79 : decode cX4_init 79 = .ok (.new 7, 3) := by decide +kernel
theorem dX4_init_82 : decode cX4_init 82 = .ok (.dup, 1) := by decide +kernel
theorem dX4_init_83 : decode cX4_init 83 = .ok (.invokespecial 9, 3) := by decide +kernel
theorem dX4_init_86 : decode cX4_init 86 = .ok (.aastore, 1) := by decide +kernel
theorem dX4_init_87 : decode cX4_init 87 = .ok (.iinc 1 1, 3) := by decide +kernel
theorem dX4_init_90 : decode cX4_init 90 = .ok (.goto (-21), 3) := by decide +kernel
theorem dX4_init_93 : decode cX4_init 93 = .ok (.return_, 1) := by decide +kernel
theorem dX4_say_0 : decode cX4_say 0 = .ok (.iload_n 1, 1) := by decide +kernel
theorem dX4_say_1 : decode cX4_say 1 = .ok (.bipush 33, 2) := by decide +kernel
theorem dX4_say_3 : decode cX4_say 3 = .ok (.if_icmp .lt 9, 3) := by decide +kernel
theorem dX4_say_6 : decode cX4_say 6 = .ok (.iload_n 1, 1) := by decide +kernel
theorem dX4_say_7 : decode cX4_say 7 = .ok (.bipush 126, 2) := by decide +kernel
theorem dX4_say_9 : decode cX4_say 9 = .ok (.if_icmp .le 6, 3) := by decide +kernel
theorem dX4_say_12 : decode cX4_say 12 = .ok (.bipush (-2), 2) := by decide +kernel
theorem dX4_say_14 : decode cX4_say 14 = .ok (.ireturn, 1) := by decide +kernel
theorem dX4_say_15 : decode cX4_say 15 = .ok (.aload_n 0, 1) := by decide +kernel
theorem dX4_say_16 : decode cX4_say 16 = .ok (.getfield 27, 3) := by decide +kernel
theorem dX4_say_19 : decode cX4_say 19 = .ok (.getfield 48, 3) := by decide +kernel
theorem dX4_say_22 : decode cX4_say 22 = .ok (.bipush 40, 2) := by decide +kernel
theorem dX4_say_24 : decode cX4_say 24 = .ok (.if_icmp .lt 6, 3) := by decide +kernel
theorem dX4_say_27 : decode cX4_say 27 = .ok (.bipush (-4), 2) := by decide +kernel
theorem dX4_say_29 : decode cX4_say 29 = .ok (.ireturn, 1) := by decide +kernel
theorem dX4_say_30 : decode cX4_say 30 = .ok (.aload_n 0, 1) := by decide +kernel
theorem dX4_say_31 : decode cX4_say 31 = .ok (.getfield 27, 3) := by decide +kernel
theorem dX4_say_34 : decode cX4_say 34 = .ok (.iload_n 1, 1) := by decide +kernel
theorem dX4_say_35 : decode cX4_say 35 = .ok (.invokevirtual 51, 3) := by decide +kernel
theorem dX4_say_38 : decode cX4_say 38 = .ok (.aload_n 0, 1) := by decide +kernel
theorem dX4_say_39 : decode cX4_say 39 = .ok (.getfield 27, 3) := by decide +kernel
theorem dX4_say_42 : decode cX4_say 42 = .ok (.getfield 48, 3) := by decide +kernel
theorem dX4_say_45 : decode cX4_say 45 = .ok (.ireturn, 1) := by decide +kernel
theorem dX4_wipe_0 : decode cX4_wipe 0 = .ok (.aload_n 0, 1) := by decide +kernel
theorem dX4_wipe_1 : decode cX4_wipe 1 = .ok (.getfield 27, 3) := by decide +kernel
theorem dX4_wipe_4 : decode cX4_wipe 4 = .ok (.getfield 48, 3) := by decide +kernel
theorem dX4_wipe_7 : decode cX4_wipe 7 = .ok (.istore_n 1, 1) := by decide +kernel
theorem dX4_wipe_8 : decode cX4_wipe 8 = .ok (.aload_n 0, 1) := by decide +kernel
theorem dX4_wipe_9 : decode cX4_wipe 9 = .ok (.getfield 27, 3) := by decide +kernel
theorem dX4_wipe_12 : decode cX4_wipe 12 = .ok (.iconst 0, 1) := by decide +kernel
theorem dX4_wipe_13 : decode cX4_wipe 13 = .ok (.putfield 48, 3) := by decide +kernel
theorem dX4_wipe_16 : decode cX4_wipe 16 = .ok (.iload_n 1, 1) := by decide +kernel
theorem dX4_wipe_17 : decode cX4_wipe 17 = .ok (.ireturn, 1) := by decide +kernel
theorem dX4_read_0 : decode cX4_read 0 = .ok (.iload_n 1, 1) := by decide +kernel
theorem dX4_read_1 : decode cX4_read 1 = .ok (.invokestatic 55, 3) := by decide +kernel
theorem dX4_read_4 : decode cX4_read 4 = .ok (.ifCond .ne 5, 3) := by decide +kernel
theorem dX4_read_7 : decode cX4_read 7 = .ok (.iconst (-1), 1) := by decide +kernel
theorem dX4_read_8 : decode cX4_read 8 = .ok (.ireturn, 1) := by decide +kernel
theorem dX4_read_9 : decode cX4_read 9 = .ok (.aload_n 0, 1) := by decide +kernel
theorem dX4_read_10 : decode cX4_read 10 = .ok (.getfield 27, 3) := by decide +kernel
theorem dX4_read_13 : decode cX4_read 13 = .ok (.aload_n 0, 1) := by decide +kernel
theorem dX4_read_14 : decode cX4_read 14 = .ok (.getfield 37, 3) := by decide +kernel
theorem dX4_read_17 : decode cX4_read 17 = .ok (.invokevirtual 59, 3) := by decide +kernel
theorem dX4_read_20 : decode cX4_read 20 = .ok (.istore_n 2, 1) := by decide +kernel
theorem dX4_read_21 : decode cX4_read 21 = .ok (.iload_n 2, 1) := by decide +kernel
theorem dX4_read_22 : decode cX4_read 22 = .ok (.bipush (-6), 2) := by decide +kernel
theorem dX4_read_24 : decode cX4_read 24 = .ok (.if_icmp .eq 11, 3) := by decide +kernel
theorem dX4_read_27 : decode cX4_read 27 = .ok (.aload_n 0, 1) := by decide +kernel
theorem dX4_read_28 : decode cX4_read 28 = .ok (.iload_n 2, 1) := by decide +kernel
theorem dX4_read_29 : decode cX4_read 29 = .ok (.putfield 31, 3) := by decide +kernel
theorem dX4_read_32 : decode cX4_read 32 = .ok (.bipush (-7), 2) := by decide +kernel
theorem dX4_read_34 : decode cX4_read 34 = .ok (.ireturn, 1) := by decide +kernel
theorem dX4_read_35 : decode cX4_read 35 = .ok (.aload_n 0, 1) := by decide +kernel
theorem dX4_read_36 : decode cX4_read 36 = .ok (.getfield 37, 3) := by decide +kernel
theorem dX4_read_39 : decode cX4_read 39 = .ok (.getfield 63, 3) := by decide +kernel
theorem dX4_read_42 : decode cX4_read 42 = .ok (.ifCond .eq 6, 3) := by decide +kernel
theorem dX4_read_45 : decode cX4_read 45 = .ok (.bipush (-4), 2) := by decide +kernel
theorem dX4_read_47 : decode cX4_read 47 = .ok (.ireturn, 1) := by decide +kernel
theorem dX4_read_48 : decode cX4_read 48 = .ok (.aload_n 0, 1) := by decide +kernel
theorem dX4_read_49 : decode cX4_read 49 = .ok (.getfield 27, 3) := by decide +kernel
theorem dX4_read_52 : decode cX4_read 52 = .ok (.iconst 0, 1) := by decide +kernel
theorem dX4_read_53 : decode cX4_read 53 = .ok (.putfield 48, 3) := by decide +kernel
theorem dX4_read_56 : decode cX4_read 56 = .ok (.aload_n 0, 1) := by decide +kernel
theorem dX4_read_57 : decode cX4_read 57 = .ok (.iload_n 1, 1) := by decide +kernel
theorem dX4_read_58 : decode cX4_read 58 = .ok (.invokevirtual 67, 3) := by decide +kernel
theorem dX4_read_61 : decode cX4_read 61 = .ok (.ireturn, 1) := by decide +kernel
theorem dX4_fault_0 : decode cX4_fault 0 = .ok (.aload_n 0, 1) := by decide +kernel
theorem dX4_fault_1 : decode cX4_fault 1 = .ok (.getfield 31, 3) := by decide +kernel
theorem dX4_fault_4 : decode cX4_fault 4 = .ok (.ireturn, 1) := by decide +kernel
theorem dX4_make_0 : decode cX4_make 0 = .ok (.iload_n 1, 1) := by decide +kernel
theorem dX4_make_1 : decode cX4_make 1 = .ok (.invokestatic 55, 3) := by decide +kernel
theorem dX4_make_4 : decode cX4_make 4 = .ok (.ifCond .eq 17, 3) := by decide +kernel
theorem dX4_make_7 : decode cX4_make 7 = .ok (.iload_n 2, 1) := by decide +kernel
theorem dX4_make_8 : decode cX4_make 8 = .ok (.invokestatic 55, 3) := by decide +kernel
theorem dX4_make_11 : decode cX4_make 11 = .ok (.ifCond .eq 10, 3) := by decide +kernel
theorem dX4_make_14 : decode cX4_make 14 = .ok (.iload_n 3, 1) := by decide +kernel
theorem dX4_make_15 : decode cX4_make 15 = .ok (.invokestatic 55, 3) := by decide +kernel
theorem dX4_make_18 : decode cX4_make 18 = .ok (.ifCond .ne 5, 3) := by decide +kernel
theorem dX4_make_21 : decode cX4_make 21 = .ok (.iconst (-1), 1) := by decide +kernel
theorem dX4_make_22 : decode cX4_make 22 = .ok (.ireturn, 1) := by decide +kernel
theorem dX4_make_23 : decode cX4_make 23 = .ok (.iload 4, 2) := by decide +kernel
theorem dX4_make_25 : decode cX4_make 25 = .ok (.ifCond .lt 9, 3) := by decide +kernel
theorem dX4_make_28 : decode cX4_make 28 = .ok (.iload 4, 2) := by decide +kernel
theorem dX4_make_30 : decode cX4_make 30 = .ok (.iconst 2, 1) := by decide +kernel
theorem dX4_make_31 : decode cX4_make 31 = .ok (.if_icmp .le 6, 3) := by decide +kernel
theorem dX4_make_34 : decode cX4_make 34 = .ok (.bipush (-2), 2) := by decide +kernel
theorem dX4_make_36 : decode cX4_make 36 = .ok (.ireturn, 1) := by decide +kernel
theorem dX4_make_37 : decode cX4_make 37 = .ok (.aload_n 0, 1) := by decide +kernel
theorem dX4_make_38 : decode cX4_make 38 = .ok (.iload_n 2, 1) := by decide +kernel
theorem dX4_make_39 : decode cX4_make 39 = .ok (.invokevirtual 71, 3) := by decide +kernel
theorem dX4_make_42 : decode cX4_make 42 = .ok (.ifCond .ne 11, 3) := by decide +kernel
theorem dX4_make_45 : decode cX4_make 45 = .ok (.aload_n 0, 1) := by decide +kernel
theorem dX4_make_46 : decode cX4_make 46 = .ok (.iload_n 3, 1) := by decide +kernel
theorem dX4_make_47 : decode cX4_make 47 = .ok (.invokevirtual 71, 3) := by decide +kernel
theorem dX4_make_50 : decode cX4_make 50 = .ok (.ifCond .eq 6, 3) := by decide +kernel
theorem dX4_make_53 : decode cX4_make 53 = .ok (.bipush (-3), 2) := by decide +kernel
theorem dX4_make_55 : decode cX4_make 55 = .ok (.ireturn, 1) := by decide +kernel
theorem dX4_make_56 : decode cX4_make 56 = .ok (.aload_n 0, 1) := by decide +kernel
theorem dX4_make_57 : decode cX4_make 57 = .ok (.getfield 37, 3) := by decide +kernel
theorem dX4_make_60 : decode cX4_make 60 = .ok (.iconst 2, 1) := by decide +kernel
theorem dX4_make_61 : decode cX4_make 61 = .ok (.iload 4, 2) := by decide +kernel
theorem dX4_make_63 : decode cX4_make 63 = .ok (.iadd, 1) := by decide +kernel
theorem dX4_make_64 : decode cX4_make 64 = .ok (.aload_n 0, 1) := by decide +kernel
theorem dX4_make_65 : decode cX4_make 65 = .ok (.getfield 10, 3) := by decide +kernel
theorem dX4_make_68 : decode cX4_make 68 = .ok (.getfield 74, 3) := by decide +kernel
theorem dX4_make_71 : decode cX4_make 71 = .ok (.iload_n 2, 1) := by decide +kernel
theorem dX4_make_72 : decode cX4_make 72 = .ok (.aaload, 1) := by decide +kernel
theorem dX4_make_73 : decode cX4_make 73 = .ok (.aload_n 0, 1) := by decide +kernel
theorem dX4_make_74 : decode cX4_make 74 = .ok (.getfield 10, 3) := by decide +kernel
theorem dX4_make_77 : decode cX4_make 77 = .ok (.getfield 74, 3) := by decide +kernel
theorem dX4_make_80 : decode cX4_make 80 = .ok (.iload_n 3, 1) := by decide +kernel
theorem dX4_make_81 : decode cX4_make 81 = .ok (.aaload, 1) := by decide +kernel
theorem dX4_make_82 : decode cX4_make 82 = .ok (.invokevirtual 78, 3) := by decide +kernel
theorem dX4_make_85 : decode cX4_make 85 = .ok (.aload_n 0, 1) := by decide +kernel
theorem dX4_make_86 : decode cX4_make 86 = .ok (.getfield 37, 3) := by decide +kernel
theorem dX4_make_89 : decode cX4_make 89 = .ok (.getfield 63, 3) := by decide +kernel
theorem dX4_make_92 : decode cX4_make 92 = .ok (.ifCond .eq 8, 3) := by decide +kernel
theorem dX4_make_95 : decode cX4_make 95 = .ok (.bipush (-4), 2) := by decide +kernel
theorem dX4_make_97 : decode cX4_make 97 = .ok (.goto 8, 3) := by decide +kernel
theorem dX4_make_100 : decode cX4_make 100 = .ok (.aload_n 0, 1) := by decide +kernel
theorem dX4_make_101 : decode cX4_make 101 = .ok (.iload_n 1, 1) := by decide +kernel
theorem dX4_make_102 : decode cX4_make 102 = .ok (.invokevirtual 67, 3) := by decide +kernel
theorem dX4_make_105 : decode cX4_make 105 = .ok (.ireturn, 1) := by decide +kernel
theorem dX4_part_0 : decode cX4_part 0 = .ok (.iload_n 1, 1) := by decide +kernel
theorem dX4_part_1 : decode cX4_part 1 = .ok (.invokestatic 55, 3) := by decide +kernel
theorem dX4_part_4 : decode cX4_part 4 = .ok (.ifCond .eq 10, 3) := by decide +kernel
theorem dX4_part_7 : decode cX4_part 7 = .ok (.iload_n 2, 1) := by decide +kernel
theorem dX4_part_8 : decode cX4_part 8 = .ok (.invokestatic 55, 3) := by decide +kernel
theorem dX4_part_11 : decode cX4_part 11 = .ok (.ifCond .ne 5, 3) := by decide +kernel
theorem dX4_part_14 : decode cX4_part 14 = .ok (.iconst (-1), 1) := by decide +kernel
theorem dX4_part_15 : decode cX4_part 15 = .ok (.ireturn, 1) := by decide +kernel
theorem dX4_part_16 : decode cX4_part 16 = .ok (.aload_n 0, 1) := by decide +kernel
theorem dX4_part_17 : decode cX4_part 17 = .ok (.iload_n 2, 1) := by decide +kernel
theorem dX4_part_18 : decode cX4_part 18 = .ok (.invokevirtual 71, 3) := by decide +kernel
theorem dX4_part_21 : decode cX4_part 21 = .ok (.ifCond .eq 6, 3) := by decide +kernel
theorem dX4_part_24 : decode cX4_part 24 = .ok (.bipush (-3), 2) := by decide +kernel
theorem dX4_part_26 : decode cX4_part 26 = .ok (.ireturn, 1) := by decide +kernel
theorem dX4_part_27 : decode cX4_part 27 = .ok (.aload_n 0, 1) := by decide +kernel
theorem dX4_part_28 : decode cX4_part 28 = .ok (.getfield 10, 3) := by decide +kernel
theorem dX4_part_31 : decode cX4_part 31 = .ok (.getfield 74, 3) := by decide +kernel
theorem dX4_part_34 : decode cX4_part 34 = .ok (.iload_n 2, 1) := by decide +kernel
theorem dX4_part_35 : decode cX4_part 35 = .ok (.aaload, 1) := by decide +kernel
theorem dX4_part_36 : decode cX4_part 36 = .ok (.iload_n 3, 1) := by decide +kernel
theorem dX4_part_37 : decode cX4_part 37 = .ok (.invokevirtual 82, 3) := by decide +kernel
theorem dX4_part_40 : decode cX4_part 40 = .ok (.ifCond .ne 6, 3) := by decide +kernel
theorem dX4_part_43 : decode cX4_part 43 = .ok (.bipush (-2), 2) := by decide +kernel
theorem dX4_part_45 : decode cX4_part 45 = .ok (.ireturn, 1) := by decide +kernel
theorem dX4_part_46 : decode cX4_part 46 = .ok (.aload_n 0, 1) := by decide +kernel
theorem dX4_part_47 : decode cX4_part 47 = .ok (.getfield 37, 3) := by decide +kernel
theorem dX4_part_50 : decode cX4_part 50 = .ok (.aload_n 0, 1) := by decide +kernel
theorem dX4_part_51 : decode cX4_part 51 = .ok (.getfield 10, 3) := by decide +kernel
theorem dX4_part_54 : decode cX4_part 54 = .ok (.getfield 74, 3) := by decide +kernel
theorem dX4_part_57 : decode cX4_part 57 = .ok (.iload_n 2, 1) := by decide +kernel
theorem dX4_part_58 : decode cX4_part 58 = .ok (.aaload, 1) := by decide +kernel
theorem dX4_part_59 : decode cX4_part 59 = .ok (.iload_n 3, 1) := by decide +kernel
theorem dX4_part_60 : decode cX4_part 60 = .ok (.invokevirtual 85, 3) := by decide +kernel
theorem dX4_part_63 : decode cX4_part 63 = .ok (.aload_n 0, 1) := by decide +kernel
theorem dX4_part_64 : decode cX4_part 64 = .ok (.iload_n 1, 1) := by decide +kernel
theorem dX4_part_65 : decode cX4_part 65 = .ok (.invokevirtual 67, 3) := by decide +kernel
theorem dX4_part_68 : decode cX4_part 68 = .ok (.ireturn, 1) := by decide +kernel
theorem dX4_sign_0 : decode cX4_sign 0 = .ok (.iload_n 1, 1) := by decide +kernel
theorem dX4_sign_1 : decode cX4_sign 1 = .ok (.invokestatic 55, 3) := by decide +kernel
theorem dX4_sign_4 : decode cX4_sign 4 = .ok (.ifCond .ne 5, 3) := by decide +kernel
theorem dX4_sign_7 : decode cX4_sign 7 = .ok (.iconst (-1), 1) := by decide +kernel
theorem dX4_sign_8 : decode cX4_sign 8 = .ok (.ireturn, 1) := by decide +kernel
theorem dX4_sign_9 : decode cX4_sign 9 = .ok (.iload_n 2, 1) := by decide +kernel
theorem dX4_sign_10 : decode cX4_sign 10 = .ok (.iconst (-1), 1) := by decide +kernel
theorem dX4_sign_11 : decode cX4_sign 11 = .ok (.if_icmp .ge 6, 3) := by decide +kernel
theorem dX4_sign_14 : decode cX4_sign 14 = .ok (.bipush (-2), 2) := by decide +kernel
theorem dX4_sign_16 : decode cX4_sign 16 = .ok (.ireturn, 1) := by decide +kernel
theorem dX4_sign_17 : decode cX4_sign 17 = .ok (.aload_n 0, 1) := by decide +kernel
theorem dX4_sign_18 : decode cX4_sign 18 = .ok (.iload_n 1, 1) := by decide +kernel
theorem dX4_sign_19 : decode cX4_sign 19 = .ok (.invokevirtual 71, 3) := by decide +kernel
theorem dX4_sign_22 : decode cX4_sign 22 = .ok (.ifCond .eq 6, 3) := by decide +kernel
theorem dX4_sign_25 : decode cX4_sign 25 = .ok (.bipush (-3), 2) := by decide +kernel
theorem dX4_sign_27 : decode cX4_sign 27 = .ok (.ireturn, 1) := by decide +kernel
theorem dX4_sign_28 : decode cX4_sign 28 = .ok (.aload_n 0, 1) := by decide +kernel
theorem dX4_sign_29 : decode cX4_sign 29 = .ok (.getfield 10, 3) := by decide +kernel
theorem dX4_sign_32 : decode cX4_sign 32 = .ok (.getfield 74, 3) := by decide +kernel
theorem dX4_sign_35 : decode cX4_sign 35 = .ok (.iload_n 1, 1) := by decide +kernel
theorem dX4_sign_36 : decode cX4_sign 36 = .ok (.aaload, 1) := by decide +kernel
theorem dX4_sign_37 : decode cX4_sign 37 = .ok (.astore_n 3, 1) := by decide +kernel
theorem dX4_sign_38 : decode cX4_sign 38 = .ok (.iload_n 2, 1) := by decide +kernel
theorem dX4_sign_39 : decode cX4_sign 39 = .ok (.iconst (-1), 1) := by decide +kernel
theorem dX4_sign_40 : decode cX4_sign 40 = .ok (.if_icmp .ne 10, 3) := by decide +kernel
theorem dX4_sign_43 : decode cX4_sign 43 = .ok (.aload_n 3, 1) := by decide +kernel
theorem dX4_sign_44 : decode cX4_sign 44 = .ok (.invokevirtual 89, 3) := by decide +kernel
theorem dX4_sign_47 : decode cX4_sign 47 = .ok (.goto 8, 3) := by decide +kernel
theorem dX4_sign_50 : decode cX4_sign 50 = .ok (.aload_n 3, 1) := by decide +kernel
theorem dX4_sign_51 : decode cX4_sign 51 = .ok (.iload_n 2, 1) := by decide +kernel
theorem dX4_sign_52 : decode cX4_sign 52 = .ok (.invokevirtual 93, 3) := by decide +kernel
theorem dX4_sign_55 : decode cX4_sign 55 = .ok (.ireturn, 1) := by decide +kernel
theorem dX4_told_0 : decode cX4_told 0 = .ok (.iload_n 1, 1) := by decide +kernel
theorem dX4_told_1 : decode cX4_told 1 = .ok (.invokestatic 55, 3) := by decide +kernel
theorem dX4_told_4 : decode cX4_told 4 = .ok (.ifCond .ne 5, 3) := by decide +kernel
theorem dX4_told_7 : decode cX4_told 7 = .ok (.iconst (-1), 1) := by decide +kernel
theorem dX4_told_8 : decode cX4_told 8 = .ok (.ireturn, 1) := by decide +kernel
theorem dX4_told_9 : decode cX4_told 9 = .ok (.aload_n 0, 1) := by decide +kernel
theorem dX4_told_10 : decode cX4_told 10 = .ok (.iload_n 1, 1) := by decide +kernel
theorem dX4_told_11 : decode cX4_told 11 = .ok (.invokevirtual 71, 3) := by decide +kernel
theorem dX4_told_14 : decode cX4_told 14 = .ok (.ifCond .eq 6, 3) := by decide +kernel
theorem dX4_told_17 : decode cX4_told 17 = .ok (.bipush (-3), 2) := by decide +kernel
theorem dX4_told_19 : decode cX4_told 19 = .ok (.ireturn, 1) := by decide +kernel
theorem dX4_told_20 : decode cX4_told 20 = .ok (.aload_n 0, 1) := by decide +kernel
theorem dX4_told_21 : decode cX4_told 21 = .ok (.getfield 10, 3) := by decide +kernel
theorem dX4_told_24 : decode cX4_told 24 = .ok (.getfield 74, 3) := by decide +kernel
theorem dX4_told_27 : decode cX4_told 27 = .ok (.iload_n 1, 1) := by decide +kernel
theorem dX4_told_28 : decode cX4_told 28 = .ok (.aaload, 1) := by decide +kernel
theorem dX4_told_29 : decode cX4_told 29 = .ok (.astore 4, 2) := by decide +kernel
theorem dX4_told_31 : decode cX4_told 31 = .ok (.aload 4, 2) := by decide +kernel
theorem dX4_told_33 : decode cX4_told 33 = .ok (.iload_n 2, 1) := by decide +kernel
theorem dX4_told_34 : decode cX4_told 34 = .ok (.invokevirtual 82, 3) := by decide +kernel
theorem dX4_told_37 : decode cX4_told 37 = .ok (.ifCond .ne 6, 3) := by decide +kernel
theorem dX4_told_40 : decode cX4_told 40 = .ok (.bipush (-2), 2) := by decide +kernel
theorem dX4_told_42 : decode cX4_told 42 = .ok (.ireturn, 1) := by decide +kernel
theorem dX4_told_43 : decode cX4_told 43 = .ok (.iload_n 3, 1) := by decide +kernel
theorem dX4_told_44 : decode cX4_told 44 = .ok (.tableswitch 52 0 2 #[28, 36, 44], 28) := by decide +kernel
theorem dX4_told_72 : decode cX4_told 72 = .ok (.aload 4, 2) := by decide +kernel
theorem dX4_told_74 : decode cX4_told 74 = .ok (.getfield 96, 3) := by decide +kernel
theorem dX4_told_77 : decode cX4_told 77 = .ok (.iload_n 2, 1) := by decide +kernel
theorem dX4_told_78 : decode cX4_told 78 = .ok (.iaload, 1) := by decide +kernel
theorem dX4_told_79 : decode cX4_told 79 = .ok (.ireturn, 1) := by decide +kernel
theorem dX4_told_80 : decode cX4_told 80 = .ok (.aload 4, 2) := by decide +kernel
theorem dX4_told_82 : decode cX4_told 82 = .ok (.getfield 100, 3) := by decide +kernel
theorem dX4_told_85 : decode cX4_told 85 = .ok (.iload_n 2, 1) := by decide +kernel
theorem dX4_told_86 : decode cX4_told 86 = .ok (.iaload, 1) := by decide +kernel
theorem dX4_told_87 : decode cX4_told 87 = .ok (.ireturn, 1) := by decide +kernel
theorem dX4_told_88 : decode cX4_told 88 = .ok (.aload 4, 2) := by decide +kernel
theorem dX4_told_90 : decode cX4_told 90 = .ok (.getfield 103, 3) := by decide +kernel
theorem dX4_told_93 : decode cX4_told 93 = .ok (.iload_n 2, 1) := by decide +kernel
theorem dX4_told_94 : decode cX4_told 94 = .ok (.iaload, 1) := by decide +kernel
theorem dX4_told_95 : decode cX4_told 95 = .ok (.ireturn, 1) := by decide +kernel
theorem dX4_told_96 : decode cX4_told 96 = .ok (.bipush (-2), 2) := by decide +kernel
theorem dX4_told_98 : decode cX4_told 98 = .ok (.ireturn, 1) := by decide +kernel
theorem dX4_drop_0 : decode cX4_drop 0 = .ok (.iload_n 1, 1) := by decide +kernel
theorem dX4_drop_1 : decode cX4_drop 1 = .ok (.invokestatic 55, 3) := by decide +kernel
theorem dX4_drop_4 : decode cX4_drop 4 = .ok (.ifCond .ne 5, 3) := by decide +kernel
theorem dX4_drop_7 : decode cX4_drop 7 = .ok (.iconst (-1), 1) := by decide +kernel
theorem dX4_drop_8 : decode cX4_drop 8 = .ok (.ireturn, 1) := by decide +kernel
theorem dX4_drop_9 : decode cX4_drop 9 = .ok (.aload_n 0, 1) := by decide +kernel
theorem dX4_drop_10 : decode cX4_drop 10 = .ok (.iload_n 1, 1) := by decide +kernel
theorem dX4_drop_11 : decode cX4_drop 11 = .ok (.invokevirtual 71, 3) := by decide +kernel
theorem dX4_drop_14 : decode cX4_drop 14 = .ok (.ifCond .eq 7, 3) := by decide +kernel
theorem dX4_drop_17 : decode cX4_drop 17 = .ok (.iconst 0, 1) := by decide +kernel
theorem dX4_drop_18 : decode cX4_drop 18 = .ok (.goto 4, 3) := by decide +kernel
theorem dX4_drop_21 : decode cX4_drop 21 = .ok (.iconst 1, 1) := by decide +kernel
theorem dX4_drop_22 : decode cX4_drop 22 = .ok (.istore_n 2, 1) := by decide +kernel
theorem dX4_drop_23 : decode cX4_drop 23 = .ok (.aload_n 0, 1) := by decide +kernel
theorem dX4_drop_24 : decode cX4_drop 24 = .ok (.getfield 10, 3) := by decide +kernel
theorem dX4_drop_27 : decode cX4_drop 27 = .ok (.getfield 74, 3) := by decide +kernel
theorem dX4_drop_30 : decode cX4_drop 30 = .ok (.iload_n 1, 1) := by decide +kernel
theorem dX4_drop_31 : decode cX4_drop 31 = .ok (.aaload, 1) := by decide +kernel
theorem dX4_drop_32 : decode cX4_drop 32 = .ok (.invokevirtual 106, 3) := by decide +kernel
theorem dX4_drop_35 : decode cX4_drop 35 = .ok (.iload_n 2, 1) := by decide +kernel
theorem dX4_drop_36 : decode cX4_drop 36 = .ok (.ireturn, 1) := by decide +kernel
theorem dX4_plain_0 : decode cX4_plain 0 = .ok (.iload_n 1, 1) := by decide +kernel
theorem dX4_plain_1 : decode cX4_plain 1 = .ok (.invokestatic 55, 3) := by decide +kernel
theorem dX4_plain_4 : decode cX4_plain 4 = .ok (.ifCond .ne 5, 3) := by decide +kernel
theorem dX4_plain_7 : decode cX4_plain 7 = .ok (.iconst (-1), 1) := by decide +kernel
theorem dX4_plain_8 : decode cX4_plain 8 = .ok (.ireturn, 1) := by decide +kernel
theorem dX4_plain_9 : decode cX4_plain 9 = .ok (.aload_n 0, 1) := by decide +kernel
theorem dX4_plain_10 : decode cX4_plain 10 = .ok (.iload_n 1, 1) := by decide +kernel
theorem dX4_plain_11 : decode cX4_plain 11 = .ok (.invokevirtual 71, 3) := by decide +kernel
theorem dX4_plain_14 : decode cX4_plain 14 = .ok (.ifCond .eq 6, 3) := by decide +kernel
theorem dX4_plain_17 : decode cX4_plain 17 = .ok (.bipush (-3), 2) := by decide +kernel
theorem dX4_plain_19 : decode cX4_plain 19 = .ok (.ireturn, 1) := by decide +kernel
theorem dX4_plain_20 : decode cX4_plain 20 = .ok (.aload_n 0, 1) := by decide +kernel
theorem dX4_plain_21 : decode cX4_plain 21 = .ok (.aload_n 0, 1) := by decide +kernel
theorem dX4_plain_22 : decode cX4_plain 22 = .ok (.getfield 10, 3) := by decide +kernel
theorem dX4_plain_25 : decode cX4_plain 25 = .ok (.getfield 74, 3) := by decide +kernel
theorem dX4_plain_28 : decode cX4_plain 28 = .ok (.iload_n 1, 1) := by decide +kernel
theorem dX4_plain_29 : decode cX4_plain 29 = .ok (.aaload, 1) := by decide +kernel
theorem dX4_plain_30 : decode cX4_plain 30 = .ok (.invokevirtual 109, 3) := by decide +kernel
theorem dX4_plain_33 : decode cX4_plain 33 = .ok (.ifCond .eq 7, 3) := by decide +kernel
theorem dX4_plain_36 : decode cX4_plain 36 = .ok (.iconst 1, 1) := by decide +kernel
theorem dX4_plain_37 : decode cX4_plain 37 = .ok (.goto 4, 3) := by decide +kernel
theorem dX4_plain_40 : decode cX4_plain 40 = .ok (.iconst 0, 1) := by decide +kernel
theorem dX4_plain_41 : decode cX4_plain 41 = .ok (.ireturn, 1) := by decide +kernel
theorem dX4_rows_0 : decode cX4_rows 0 = .ok (.iload_n 1, 1) := by decide +kernel
theorem dX4_rows_1 : decode cX4_rows 1 = .ok (.invokestatic 55, 3) := by decide +kernel
theorem dX4_rows_4 : decode cX4_rows 4 = .ok (.ifCond .ne 5, 3) := by decide +kernel
theorem dX4_rows_7 : decode cX4_rows 7 = .ok (.iconst (-1), 1) := by decide +kernel
theorem dX4_rows_8 : decode cX4_rows 8 = .ok (.ireturn, 1) := by decide +kernel
theorem dX4_rows_9 : decode cX4_rows 9 = .ok (.aload_n 0, 1) := by decide +kernel
theorem dX4_rows_10 : decode cX4_rows 10 = .ok (.iload_n 1, 1) := by decide +kernel
theorem dX4_rows_11 : decode cX4_rows 11 = .ok (.invokevirtual 71, 3) := by decide +kernel
theorem dX4_rows_14 : decode cX4_rows 14 = .ok (.ifCond .eq 6, 3) := by decide +kernel
theorem dX4_rows_17 : decode cX4_rows 17 = .ok (.bipush (-3), 2) := by decide +kernel
theorem dX4_rows_19 : decode cX4_rows 19 = .ok (.ireturn, 1) := by decide +kernel
theorem dX4_rows_20 : decode cX4_rows 20 = .ok (.aload_n 0, 1) := by decide +kernel
theorem dX4_rows_21 : decode cX4_rows 21 = .ok (.getfield 10, 3) := by decide +kernel
theorem dX4_rows_24 : decode cX4_rows 24 = .ok (.getfield 74, 3) := by decide +kernel
theorem dX4_rows_27 : decode cX4_rows 27 = .ok (.iload_n 1, 1) := by decide +kernel
theorem dX4_rows_28 : decode cX4_rows 28 = .ok (.aaload, 1) := by decide +kernel
theorem dX4_rows_29 : decode cX4_rows 29 = .ok (.invokevirtual 113, 3) := by decide +kernel
theorem dX4_rows_32 : decode cX4_rows 32 = .ok (.ifCond .eq 7, 3) := by decide +kernel
theorem dX4_rows_35 : decode cX4_rows 35 = .ok (.iconst 1, 1) := by decide +kernel
theorem dX4_rows_36 : decode cX4_rows 36 = .ok (.goto 4, 3) := by decide +kernel
theorem dX4_rows_39 : decode cX4_rows 39 = .ok (.iconst 0, 1) := by decide +kernel
theorem dX4_rows_40 : decode cX4_rows 40 = .ok (.ireturn, 1) := by decide +kernel
theorem dX4_follows_0 : decode cX4_follows 0 = .ok (.iload_n 1, 1) := by decide +kernel
theorem dX4_follows_1 : decode cX4_follows 1 = .ok (.invokestatic 55, 3) := by decide +kernel
theorem dX4_follows_4 : decode cX4_follows 4 = .ok (.ifCond .eq 10, 3) := by decide +kernel
theorem dX4_follows_7 : decode cX4_follows 7 = .ok (.iload_n 2, 1) := by decide +kernel
theorem dX4_follows_8 : decode cX4_follows 8 = .ok (.invokestatic 55, 3) := by decide +kernel
theorem dX4_follows_11 : decode cX4_follows 11 = .ok (.ifCond .ne 5, 3) := by decide +kernel
theorem dX4_follows_14 : decode cX4_follows 14 = .ok (.iconst (-1), 1) := by decide +kernel
theorem dX4_follows_15 : decode cX4_follows 15 = .ok (.ireturn, 1) := by decide +kernel
theorem dX4_follows_16 : decode cX4_follows 16 = .ok (.aload_n 0, 1) := by decide +kernel
theorem dX4_follows_17 : decode cX4_follows 17 = .ok (.iload_n 1, 1) := by decide +kernel
theorem dX4_follows_18 : decode cX4_follows 18 = .ok (.invokevirtual 71, 3) := by decide +kernel
theorem dX4_follows_21 : decode cX4_follows 21 = .ok (.ifCond .ne 11, 3) := by decide +kernel
theorem dX4_follows_24 : decode cX4_follows 24 = .ok (.aload_n 0, 1) := by decide +kernel
theorem dX4_follows_25 : decode cX4_follows 25 = .ok (.iload_n 2, 1) := by decide +kernel
theorem dX4_follows_26 : decode cX4_follows 26 = .ok (.invokevirtual 71, 3) := by decide +kernel
theorem dX4_follows_29 : decode cX4_follows 29 = .ok (.ifCond .eq 6, 3) := by decide +kernel
theorem dX4_follows_32 : decode cX4_follows 32 = .ok (.bipush (-3), 2) := by decide +kernel
theorem dX4_follows_34 : decode cX4_follows 34 = .ok (.ireturn, 1) := by decide +kernel
theorem dX4_follows_35 : decode cX4_follows 35 = .ok (.aload_n 0, 1) := by decide +kernel
theorem dX4_follows_36 : decode cX4_follows 36 = .ok (.getfield 37, 3) := by decide +kernel
theorem dX4_follows_39 : decode cX4_follows 39 = .ok (.iconst 4, 1) := by decide +kernel
theorem dX4_follows_40 : decode cX4_follows 40 = .ok (.aload_n 0, 1) := by decide +kernel
theorem dX4_follows_41 : decode cX4_follows 41 = .ok (.getfield 10, 3) := by decide +kernel
theorem dX4_follows_44 : decode cX4_follows 44 = .ok (.getfield 74, 3) := by decide +kernel
theorem dX4_follows_47 : decode cX4_follows 47 = .ok (.iload_n 1, 1) := by decide +kernel
theorem dX4_follows_48 : decode cX4_follows 48 = .ok (.aaload, 1) := by decide +kernel
theorem dX4_follows_49 : decode cX4_follows 49 = .ok (.aload_n 0, 1) := by decide +kernel
theorem dX4_follows_50 : decode cX4_follows 50 = .ok (.getfield 10, 3) := by decide +kernel
theorem dX4_follows_53 : decode cX4_follows 53 = .ok (.getfield 74, 3) := by decide +kernel
theorem dX4_follows_56 : decode cX4_follows 56 = .ok (.iload_n 2, 1) := by decide +kernel
theorem dX4_follows_57 : decode cX4_follows 57 = .ok (.aaload, 1) := by decide +kernel
theorem dX4_follows_58 : decode cX4_follows 58 = .ok (.invokevirtual 78, 3) := by decide +kernel
theorem dX4_follows_61 : decode cX4_follows 61 = .ok (.aload_n 0, 1) := by decide +kernel
theorem dX4_follows_62 : decode cX4_follows 62 = .ok (.getfield 37, 3) := by decide +kernel
theorem dX4_follows_65 : decode cX4_follows 65 = .ok (.getfield 63, 3) := by decide +kernel
theorem dX4_follows_68 : decode cX4_follows 68 = .ok (.ifCond .eq 6, 3) := by decide +kernel
theorem dX4_follows_71 : decode cX4_follows 71 = .ok (.bipush (-4), 2) := by decide +kernel
theorem dX4_follows_73 : decode cX4_follows 73 = .ok (.ireturn, 1) := by decide +kernel
theorem dX4_follows_74 : decode cX4_follows 74 = .ok (.aload_n 0, 1) := by decide +kernel
theorem dX4_follows_75 : decode cX4_follows 75 = .ok (.aload_n 0, 1) := by decide +kernel
theorem dX4_follows_76 : decode cX4_follows 76 = .ok (.getfield 37, 3) := by decide +kernel
theorem dX4_follows_79 : decode cX4_follows 79 = .ok (.invokevirtual 109, 3) := by decide +kernel
theorem dX4_follows_82 : decode cX4_follows 82 = .ok (.ifCond .eq 7, 3) := by decide +kernel
theorem dX4_follows_85 : decode cX4_follows 85 = .ok (.iconst 1, 1) := by decide +kernel
theorem dX4_follows_86 : decode cX4_follows 86 = .ok (.goto 4, 3) := by decide +kernel
theorem dX4_follows_89 : decode cX4_follows 89 = .ok (.iconst 0, 1) := by decide +kernel
theorem dX4_follows_90 : decode cX4_follows 90 = .ok (.ireturn, 1) := by decide +kernel
theorem dX4_from_0 : decode cX4_from 0 = .ok (.iload_n 1, 1) := by decide +kernel
theorem dX4_from_1 : decode cX4_from 1 = .ok (.invokestatic 55, 3) := by decide +kernel
theorem dX4_from_4 : decode cX4_from 4 = .ok (.ifCond .ne 5, 3) := by decide +kernel
theorem dX4_from_7 : decode cX4_from 7 = .ok (.iconst (-1), 1) := by decide +kernel
theorem dX4_from_8 : decode cX4_from 8 = .ok (.ireturn, 1) := by decide +kernel
theorem dX4_from_9 : decode cX4_from 9 = .ok (.aload_n 0, 1) := by decide +kernel
theorem dX4_from_10 : decode cX4_from 10 = .ok (.iload_n 1, 1) := by decide +kernel
theorem dX4_from_11 : decode cX4_from 11 = .ok (.invokevirtual 71, 3) := by decide +kernel
theorem dX4_from_14 : decode cX4_from 14 = .ok (.ifCond .eq 6, 3) := by decide +kernel
theorem dX4_from_17 : decode cX4_from 17 = .ok (.bipush (-3), 2) := by decide +kernel
theorem dX4_from_19 : decode cX4_from 19 = .ok (.ireturn, 1) := by decide +kernel
theorem dX4_from_20 : decode cX4_from 20 = .ok (.aload_n 0, 1) := by decide +kernel
theorem dX4_from_21 : decode cX4_from 21 = .ok (.getfield 10, 3) := by decide +kernel
theorem dX4_from_24 : decode cX4_from 24 = .ok (.getfield 74, 3) := by decide +kernel
theorem dX4_from_27 : decode cX4_from 27 = .ok (.iload_n 1, 1) := by decide +kernel
theorem dX4_from_28 : decode cX4_from 28 = .ok (.aaload, 1) := by decide +kernel
theorem dX4_from_29 : decode cX4_from 29 = .ok (.astore 4, 2) := by decide +kernel
theorem dX4_from_31 : decode cX4_from 31 = .ok (.aload 4, 2) := by decide +kernel
theorem dX4_from_33 : decode cX4_from 33 = .ok (.iload_n 3, 1) := by decide +kernel
theorem dX4_from_34 : decode cX4_from 34 = .ok (.invokevirtual 82, 3) := by decide +kernel
theorem dX4_from_37 : decode cX4_from 37 = .ok (.ifCond .eq 13, 3) := by decide +kernel
theorem dX4_from_40 : decode cX4_from 40 = .ok (.iload_n 2, 1) := by decide +kernel
theorem dX4_from_41 : decode cX4_from 41 = .ok (.aload 4, 2) := by decide +kernel
theorem dX4_from_43 : decode cX4_from 43 = .ok (.getfield 117, 3) := by decide +kernel
theorem dX4_from_46 : decode cX4_from 46 = .ok (.iushr, 1) := by decide +kernel
theorem dX4_from_47 : decode cX4_from 47 = .ok (.ifCond .eq 6, 3) := by decide +kernel
theorem dX4_from_50 : decode cX4_from 50 = .ok (.bipush (-2), 2) := by decide +kernel
theorem dX4_from_52 : decode cX4_from 52 = .ok (.ireturn, 1) := by decide +kernel
theorem dX4_from_53 : decode cX4_from 53 = .ok (.aload_n 0, 1) := by decide +kernel
theorem dX4_from_54 : decode cX4_from 54 = .ok (.getfield 44, 3) := by decide +kernel
theorem dX4_from_57 : decode cX4_from 57 = .ok (.aload 4, 2) := by decide +kernel
theorem dX4_from_59 : decode cX4_from 59 = .ok (.invokevirtual 120, 3) := by decide +kernel
theorem dX4_from_62 : decode cX4_from 62 = .ok (.aload_n 0, 1) := by decide +kernel
theorem dX4_from_63 : decode cX4_from 63 = .ok (.getfield 44, 3) := by decide +kernel
theorem dX4_from_66 : decode cX4_from 66 = .ok (.iload_n 2, 1) := by decide +kernel
theorem dX4_from_67 : decode cX4_from 67 = .ok (.iload_n 3, 1) := by decide +kernel
theorem dX4_from_68 : decode cX4_from 68 = .ok (.invokevirtual 124, 3) := by decide +kernel
theorem dX4_from_71 : decode cX4_from 71 = .ok (.ifCond .eq 7, 3) := by decide +kernel
theorem dX4_from_74 : decode cX4_from 74 = .ok (.iconst 1, 1) := by decide +kernel
theorem dX4_from_75 : decode cX4_from 75 = .ok (.goto 4, 3) := by decide +kernel
theorem dX4_from_78 : decode cX4_from 78 = .ok (.iconst 0, 1) := by decide +kernel
theorem dX4_from_79 : decode cX4_from 79 = .ok (.ireturn, 1) := by decide +kernel
theorem dX4_worlds_0 : decode cX4_worlds 0 = .ok (.iload_n 1, 1) := by decide +kernel
theorem dX4_worlds_1 : decode cX4_worlds 1 = .ok (.invokestatic 55, 3) := by decide +kernel
theorem dX4_worlds_4 : decode cX4_worlds 4 = .ok (.ifCond .ne 5, 3) := by decide +kernel
theorem dX4_worlds_7 : decode cX4_worlds 7 = .ok (.iconst (-1), 1) := by decide +kernel
theorem dX4_worlds_8 : decode cX4_worlds 8 = .ok (.ireturn, 1) := by decide +kernel
theorem dX4_worlds_9 : decode cX4_worlds 9 = .ok (.iload_n 2, 1) := by decide +kernel
theorem dX4_worlds_10 : decode cX4_worlds 10 = .ok (.ifCond .lt 8, 3) := by decide +kernel
theorem dX4_worlds_13 : decode cX4_worlds 13 = .ok (.iload_n 2, 1) := by decide +kernel
theorem dX4_worlds_14 : decode cX4_worlds 14 = .ok (.iconst 5, 1) := by decide +kernel
theorem dX4_worlds_15 : decode cX4_worlds 15 = .ok (.if_icmp .le 6, 3) := by decide +kernel
theorem dX4_worlds_18 : decode cX4_worlds 18 = .ok (.bipush (-2), 2) := by decide +kernel
theorem dX4_worlds_20 : decode cX4_worlds 20 = .ok (.ireturn, 1) := by decide +kernel
theorem dX4_worlds_21 : decode cX4_worlds 21 = .ok (.aload_n 0, 1) := by decide +kernel
theorem dX4_worlds_22 : decode cX4_worlds 22 = .ok (.iload_n 1, 1) := by decide +kernel
theorem dX4_worlds_23 : decode cX4_worlds 23 = .ok (.invokevirtual 71, 3) := by decide +kernel
theorem dX4_worlds_26 : decode cX4_worlds 26 = .ok (.ifCond .eq 6, 3) := by decide +kernel
theorem dX4_worlds_29 : decode cX4_worlds 29 = .ok (.bipush (-3), 2) := by decide +kernel
theorem dX4_worlds_31 : decode cX4_worlds 31 = .ok (.ireturn, 1) := by decide +kernel
theorem dX4_worlds_32 : decode cX4_worlds 32 = .ok (.aload_n 0, 1) := by decide +kernel
theorem dX4_worlds_33 : decode cX4_worlds 33 = .ok (.getfield 44, 3) := by decide +kernel
theorem dX4_worlds_36 : decode cX4_worlds 36 = .ok (.aload_n 0, 1) := by decide +kernel
theorem dX4_worlds_37 : decode cX4_worlds 37 = .ok (.getfield 10, 3) := by decide +kernel
theorem dX4_worlds_40 : decode cX4_worlds 40 = .ok (.getfield 74, 3) := by decide +kernel
theorem dX4_worlds_43 : decode cX4_worlds 43 = .ok (.iload_n 1, 1) := by decide +kernel
theorem dX4_worlds_44 : decode cX4_worlds 44 = .ok (.aaload, 1) := by decide +kernel
theorem dX4_worlds_45 : decode cX4_worlds 45 = .ok (.invokevirtual 120, 3) := by decide +kernel
theorem dX4_worlds_48 : decode cX4_worlds 48 = .ok (.iload_n 2, 1) := by decide +kernel
theorem dX4_worlds_49 : decode cX4_worlds 49 = .ok (.tableswitch 75 0 4 #[35, 43, 51, 59, 67], 35) := by decide +kernel
theorem dX4_worlds_84 : decode cX4_worlds 84 = .ok (.aload_n 0, 1) := by decide +kernel
theorem dX4_worlds_85 : decode cX4_worlds 85 = .ok (.getfield 44, 3) := by decide +kernel
theorem dX4_worlds_88 : decode cX4_worlds 88 = .ok (.invokevirtual 128, 3) := by decide +kernel
theorem dX4_worlds_91 : decode cX4_worlds 91 = .ok (.ireturn, 1) := by decide +kernel
theorem dX4_worlds_92 : decode cX4_worlds 92 = .ok (.aload_n 0, 1) := by decide +kernel
theorem dX4_worlds_93 : decode cX4_worlds 93 = .ok (.getfield 44, 3) := by decide +kernel
theorem dX4_worlds_96 : decode cX4_worlds 96 = .ok (.invokevirtual 130, 3) := by decide +kernel
theorem dX4_worlds_99 : decode cX4_worlds 99 = .ok (.ireturn, 1) := by decide +kernel
theorem dX4_worlds_100 : decode cX4_worlds 100 = .ok (.aload_n 0, 1) := by decide +kernel
theorem dX4_worlds_101 : decode cX4_worlds 101 = .ok (.getfield 44, 3) := by decide +kernel
theorem dX4_worlds_104 : decode cX4_worlds 104 = .ok (.invokevirtual 133, 3) := by decide +kernel
theorem dX4_worlds_107 : decode cX4_worlds 107 = .ok (.ireturn, 1) := by decide +kernel
theorem dX4_worlds_108 : decode cX4_worlds 108 = .ok (.aload_n 0, 1) := by decide +kernel
theorem dX4_worlds_109 : decode cX4_worlds 109 = .ok (.getfield 44, 3) := by decide +kernel
theorem dX4_worlds_112 : decode cX4_worlds 112 = .ok (.invokevirtual 136, 3) := by decide +kernel
theorem dX4_worlds_115 : decode cX4_worlds 115 = .ok (.ireturn, 1) := by decide +kernel
theorem dX4_worlds_116 : decode cX4_worlds 116 = .ok (.aload_n 0, 1) := by decide +kernel
theorem dX4_worlds_117 : decode cX4_worlds 117 = .ok (.getfield 44, 3) := by decide +kernel
theorem dX4_worlds_120 : decode cX4_worlds 120 = .ok (.invokevirtual 139, 3) := by decide +kernel
theorem dX4_worlds_123 : decode cX4_worlds 123 = .ok (.ireturn, 1) := by decide +kernel
theorem dX4_worlds_124 : decode cX4_worlds 124 = .ok (.aload_n 0, 1) := by decide +kernel
theorem dX4_worlds_125 : decode cX4_worlds 125 = .ok (.getfield 44, 3) := by decide +kernel
theorem dX4_worlds_128 : decode cX4_worlds 128 = .ok (.invokevirtual 142, 3) := by decide +kernel
theorem dX4_worlds_131 : decode cX4_worlds 131 = .ok (.ireturn, 1) := by decide +kernel
theorem dX4_world_0 : decode cX4_world 0 = .ok (.iload_n 1, 1) := by decide +kernel
theorem dX4_world_1 : decode cX4_world 1 = .ok (.invokestatic 55, 3) := by decide +kernel
theorem dX4_world_4 : decode cX4_world 4 = .ok (.ifCond .ne 5, 3) := by decide +kernel
theorem dX4_world_7 : decode cX4_world 7 = .ok (.iconst (-1), 1) := by decide +kernel
theorem dX4_world_8 : decode cX4_world 8 = .ok (.ireturn, 1) := by decide +kernel
theorem dX4_world_9 : decode cX4_world 9 = .ok (.iload_n 3, 1) := by decide +kernel
theorem dX4_world_10 : decode cX4_world 10 = .ok (.ifCond .lt 8, 3) := by decide +kernel
theorem dX4_world_13 : decode cX4_world 13 = .ok (.iload_n 3, 1) := by decide +kernel
theorem dX4_world_14 : decode cX4_world 14 = .ok (.iconst 2, 1) := by decide +kernel
theorem dX4_world_15 : decode cX4_world 15 = .ok (.if_icmp .le 6, 3) := by decide +kernel
theorem dX4_world_18 : decode cX4_world 18 = .ok (.bipush (-2), 2) := by decide +kernel
theorem dX4_world_20 : decode cX4_world 20 = .ok (.ireturn, 1) := by decide +kernel
theorem dX4_world_21 : decode cX4_world 21 = .ok (.aload_n 0, 1) := by decide +kernel
theorem dX4_world_22 : decode cX4_world 22 = .ok (.iload_n 1, 1) := by decide +kernel
theorem dX4_world_23 : decode cX4_world 23 = .ok (.invokevirtual 71, 3) := by decide +kernel
theorem dX4_world_26 : decode cX4_world 26 = .ok (.ifCond .eq 6, 3) := by decide +kernel
theorem dX4_world_29 : decode cX4_world 29 = .ok (.bipush (-3), 2) := by decide +kernel
theorem dX4_world_31 : decode cX4_world 31 = .ok (.ireturn, 1) := by decide +kernel
theorem dX4_world_32 : decode cX4_world 32 = .ok (.aload_n 0, 1) := by decide +kernel
theorem dX4_world_33 : decode cX4_world 33 = .ok (.getfield 44, 3) := by decide +kernel
theorem dX4_world_36 : decode cX4_world 36 = .ok (.aload_n 0, 1) := by decide +kernel
theorem dX4_world_37 : decode cX4_world 37 = .ok (.getfield 10, 3) := by decide +kernel
theorem dX4_world_40 : decode cX4_world 40 = .ok (.getfield 74, 3) := by decide +kernel
theorem dX4_world_43 : decode cX4_world 43 = .ok (.iload_n 1, 1) := by decide +kernel
theorem dX4_world_44 : decode cX4_world 44 = .ok (.aaload, 1) := by decide +kernel
theorem dX4_world_45 : decode cX4_world 45 = .ok (.invokevirtual 120, 3) := by decide +kernel
theorem dX4_world_48 : decode cX4_world 48 = .ok (.iload_n 2, 1) := by decide +kernel
theorem dX4_world_49 : decode cX4_world 49 = .ok (.ifCond .lt 14, 3) := by decide +kernel
theorem dX4_world_52 : decode cX4_world 52 = .ok (.iload_n 2, 1) := by decide +kernel
theorem dX4_world_53 : decode cX4_world 53 = .ok (.aload_n 0, 1) := by decide +kernel
theorem dX4_world_54 : decode cX4_world 54 = .ok (.getfield 44, 3) := by decide +kernel
theorem dX4_world_57 : decode cX4_world 57 = .ok (.invokevirtual 128, 3) := by decide +kernel
theorem dX4_world_60 : decode cX4_world 60 = .ok (.if_icmp .lt 6, 3) := by decide +kernel
theorem dX4_world_63 : decode cX4_world 63 = .ok (.bipush (-6), 2) := by decide +kernel
theorem dX4_world_65 : decode cX4_world 65 = .ok (.ireturn, 1) := by decide +kernel
theorem dX4_world_66 : decode cX4_world 66 = .ok (.iload_n 3, 1) := by decide +kernel
theorem dX4_world_67 : decode cX4_world 67 = .ok (.lookupswitch 43 #[(0, 25), (1, 34)], 25) := by decide +kernel
theorem dX4_world_92 : decode cX4_world 92 = .ok (.aload_n 0, 1) := by decide +kernel
theorem dX4_world_93 : decode cX4_world 93 = .ok (.getfield 44, 3) := by decide +kernel
theorem dX4_world_96 : decode cX4_world 96 = .ok (.iload_n 2, 1) := by decide +kernel
theorem dX4_world_97 : decode cX4_world 97 = .ok (.invokevirtual 145, 3) := by decide +kernel
theorem dX4_world_100 : decode cX4_world 100 = .ok (.ireturn, 1) := by decide +kernel
theorem dX4_world_101 : decode cX4_world 101 = .ok (.aload_n 0, 1) := by decide +kernel
theorem dX4_world_102 : decode cX4_world 102 = .ok (.getfield 44, 3) := by decide +kernel
theorem dX4_world_105 : decode cX4_world 105 = .ok (.iload_n 2, 1) := by decide +kernel
theorem dX4_world_106 : decode cX4_world 106 = .ok (.invokevirtual 148, 3) := by decide +kernel
theorem dX4_world_109 : decode cX4_world 109 = .ok (.ireturn, 1) := by decide +kernel
theorem dX4_world_110 : decode cX4_world 110 = .ok (.aload_n 0, 1) := by decide +kernel
theorem dX4_world_111 : decode cX4_world 111 = .ok (.getfield 44, 3) := by decide +kernel
theorem dX4_world_114 : decode cX4_world 114 = .ok (.iload_n 2, 1) := by decide +kernel
theorem dX4_world_115 : decode cX4_world 115 = .ok (.invokevirtual 151, 3) := by decide +kernel
theorem dX4_world_118 : decode cX4_world 118 = .ok (.ireturn, 1) := by decide +kernel
theorem dX4_image_0 : decode cX4_image 0 = .ok (.iload_n 1, 1) := by decide +kernel
theorem dX4_image_1 : decode cX4_image 1 = .ok (.invokestatic 154, 3) := by decide +kernel
theorem dX4_image_4 : decode cX4_image 4 = .ok (.ifCond .ne 6, 3) := by decide +kernel
theorem dX4_image_7 : decode cX4_image 7 = .ok (.bipush (-2), 2) := by decide +kernel
theorem dX4_image_9 : decode cX4_image 9 = .ok (.ireturn, 1) := by decide +kernel
theorem dX4_image_10 : decode cX4_image 10 = .ok (.aload_n 0, 1) := by decide +kernel
theorem dX4_image_11 : decode cX4_image 11 = .ok (.getfield 16, 3) := by decide +kernel
theorem dX4_image_14 : decode cX4_image 14 = .ok (.iload_n 1, 1) := by decide +kernel
theorem dX4_image_15 : decode cX4_image 15 = .ok (.aaload, 1) := by decide +kernel
theorem dX4_image_16 : decode cX4_image 16 = .ok (.aload_n 0, 1) := by decide +kernel
theorem dX4_image_17 : decode cX4_image 17 = .ok (.getfield 10, 3) := by decide +kernel
theorem dX4_image_20 : decode cX4_image 20 = .ok (.invokevirtual 157, 3) := by decide +kernel
theorem dX4_image_23 : decode cX4_image 23 = .ok (.aload_n 0, 1) := by decide +kernel
theorem dX4_image_24 : decode cX4_image 24 = .ok (.dup, 1) := by decide +kernel
theorem dX4_image_25 : decode cX4_image 25 = .ok (.getfield 20, 3) := by decide +kernel
theorem dX4_image_28 : decode cX4_image 28 = .ok (.iconst 1, 1) := by decide +kernel
theorem dX4_image_29 : decode cX4_image 29 = .ok (.iload_n 1, 1) := by decide +kernel
theorem dX4_image_30 : decode cX4_image 30 = .ok (.ishl, 1) := by decide +kernel
theorem dX4_image_31 : decode cX4_image 31 = .ok (.ior, 1) := by decide +kernel
theorem dX4_image_32 : decode cX4_image 32 = .ok (.putfield 20, 3) := by decide +kernel
theorem dX4_image_35 : decode cX4_image 35 = .ok (.iconst 1, 1) := by decide +kernel
theorem dX4_image_36 : decode cX4_image 36 = .ok (.ireturn, 1) := by decide +kernel
theorem dX4_restore_0 : decode cX4_restore 0 = .ok (.iload_n 1, 1) := by decide +kernel
theorem dX4_restore_1 : decode cX4_restore 1 = .ok (.invokestatic 154, 3) := by decide +kernel
theorem dX4_restore_4 : decode cX4_restore 4 = .ok (.ifCond .ne 6, 3) := by decide +kernel
theorem dX4_restore_7 : decode cX4_restore 7 = .ok (.bipush (-2), 2) := by decide +kernel
theorem dX4_restore_9 : decode cX4_restore 9 = .ok (.ireturn, 1) := by decide +kernel
theorem dX4_restore_10 : decode cX4_restore 10 = .ok (.aload_n 0, 1) := by decide +kernel
theorem dX4_restore_11 : decode cX4_restore 11 = .ok (.getfield 20, 3) := by decide +kernel
theorem dX4_restore_14 : decode cX4_restore 14 = .ok (.iload_n 1, 1) := by decide +kernel
theorem dX4_restore_15 : decode cX4_restore 15 = .ok (.invokestatic 161, 3) := by decide +kernel
theorem dX4_restore_18 : decode cX4_restore 18 = .ok (.ifCond .ne 6, 3) := by decide +kernel
theorem dX4_restore_21 : decode cX4_restore 21 = .ok (.bipush (-3), 2) := by decide +kernel
theorem dX4_restore_23 : decode cX4_restore 23 = .ok (.ireturn, 1) := by decide +kernel
theorem dX4_restore_24 : decode cX4_restore 24 = .ok (.aload_n 0, 1) := by decide +kernel
theorem dX4_restore_25 : decode cX4_restore 25 = .ok (.getfield 10, 3) := by decide +kernel
theorem dX4_restore_28 : decode cX4_restore 28 = .ok (.aload_n 0, 1) := by decide +kernel
theorem dX4_restore_29 : decode cX4_restore 29 = .ok (.getfield 16, 3) := by decide +kernel
theorem dX4_restore_32 : decode cX4_restore 32 = .ok (.iload_n 1, 1) := by decide +kernel
theorem dX4_restore_33 : decode cX4_restore 33 = .ok (.aaload, 1) := by decide +kernel
theorem dX4_restore_34 : decode cX4_restore 34 = .ok (.invokevirtual 157, 3) := by decide +kernel
theorem dX4_restore_37 : decode cX4_restore 37 = .ok (.iconst 1, 1) := by decide +kernel
theorem dX4_restore_38 : decode cX4_restore 38 = .ok (.ireturn, 1) := by decide +kernel
theorem dX4_count_0 : decode cX4_count 0 = .ok (.iload_n 1, 1) := by decide +kernel
theorem dX4_count_1 : decode cX4_count 1 = .ok (.tableswitch 80 0 5 #[39, 44, 49, 59, 67, 75], 39) := by decide +kernel
theorem dX4_count_40 : decode cX4_count 40 = .ok (.aload_n 0, 1) := by decide +kernel
theorem dX4_count_41 : decode cX4_count 41 = .ok (.invokevirtual 164, 3) := by decide +kernel
theorem dX4_count_44 : decode cX4_count 44 = .ok (.ireturn, 1) := by decide +kernel
theorem dX4_count_45 : decode cX4_count 45 = .ok (.aload_n 0, 1) := by decide +kernel
theorem dX4_count_46 : decode cX4_count 46 = .ok (.invokevirtual 167, 3) := by decide +kernel
theorem dX4_count_49 : decode cX4_count 49 = .ok (.ireturn, 1) := by decide +kernel
theorem dX4_count_50 : decode cX4_count 50 = .ok (.aload_n 0, 1) := by decide +kernel
theorem dX4_count_51 : decode cX4_count 51 = .ok (.invokevirtual 170, 3) := by decide +kernel
theorem dX4_count_54 : decode cX4_count 54 = .ok (.aload_n 0, 1) := by decide +kernel
theorem dX4_count_55 : decode cX4_count 55 = .ok (.invokevirtual 167, 3) := by decide +kernel
theorem dX4_count_58 : decode cX4_count 58 = .ok (.isub, 1) := by decide +kernel
theorem dX4_count_59 : decode cX4_count 59 = .ok (.ireturn, 1) := by decide +kernel
theorem dX4_count_60 : decode cX4_count 60 = .ok (.aload_n 0, 1) := by decide +kernel
theorem dX4_count_61 : decode cX4_count 61 = .ok (.getfield 10, 3) := by decide +kernel
theorem dX4_count_64 : decode cX4_count 64 = .ok (.invokevirtual 173, 3) := by decide +kernel
theorem dX4_count_67 : decode cX4_count 67 = .ok (.ireturn, 1) := by decide +kernel
theorem dX4_count_68 : decode cX4_count 68 = .ok (.aload_n 0, 1) := by decide +kernel
theorem dX4_count_69 : decode cX4_count 69 = .ok (.getfield 27, 3) := by decide +kernel
theorem dX4_count_72 : decode cX4_count 72 = .ok (.getfield 48, 3) := by decide +kernel
theorem dX4_count_75 : decode cX4_count 75 = .ok (.ireturn, 1) := by decide +kernel
theorem dX4_count_76 : decode cX4_count 76 = .ok (.aload_n 0, 1) := by decide +kernel
theorem dX4_count_77 : decode cX4_count 77 = .ok (.getfield 20, 3) := by decide +kernel
theorem dX4_count_80 : decode cX4_count 80 = .ok (.ireturn, 1) := by decide +kernel
theorem dX4_count_81 : decode cX4_count 81 = .ok (.iload_n 1, 1) := by decide +kernel
theorem dX4_count_82 : decode cX4_count 82 = .ok (.bipush 10, 2) := by decide +kernel
theorem dX4_count_84 : decode cX4_count 84 = .ok (.isub, 1) := by decide +kernel
theorem dX4_count_85 : decode cX4_count 85 = .ok (.invokestatic 55, 3) := by decide +kernel
theorem dX4_count_88 : decode cX4_count 88 = .ok (.ifCond .eq 21, 3) := by decide +kernel
theorem dX4_count_91 : decode cX4_count 91 = .ok (.aload_n 0, 1) := by decide +kernel
theorem dX4_count_92 : decode cX4_count 92 = .ok (.getfield 10, 3) := by decide +kernel
theorem dX4_count_95 : decode cX4_count 95 = .ok (.getfield 74, 3) := by decide +kernel
theorem dX4_count_98 : decode cX4_count 98 = .ok (.iload_n 1, 1) := by decide +kernel
theorem dX4_count_99 : decode cX4_count 99 = .ok (.bipush 10, 2) := by decide +kernel
theorem dX4_count_101 : decode cX4_count 101 = .ok (.isub, 1) := by decide +kernel
theorem dX4_count_102 : decode cX4_count 102 = .ok (.aaload, 1) := by decide +kernel
theorem dX4_count_103 : decode cX4_count 103 = .ok (.getfield 117, 3) := by decide +kernel
theorem dX4_count_106 : decode cX4_count 106 = .ok (.goto 5, 3) := by decide +kernel
theorem dX4_count_109 : decode cX4_count 109 = .ok (.bipush (-2), 2) := by decide +kernel
theorem dX4_count_111 : decode cX4_count 111 = .ok (.ireturn, 1) := by decide +kernel
theorem dX4_countHeld_0 : decode cX4_countHeld 0 = .ok (.iconst 0, 1) := by decide +kernel
theorem dX4_countHeld_1 : decode cX4_countHeld 1 = .ok (.istore_n 1, 1) := by decide +kernel
theorem dX4_countHeld_2 : decode cX4_countHeld 2 = .ok (.iconst 0, 1) := by decide +kernel
theorem dX4_countHeld_3 : decode cX4_countHeld 3 = .ok (.istore_n 2, 1) := by decide +kernel
theorem dX4_countHeld_4 : decode cX4_countHeld 4 = .ok (.iload_n 2, 1) := by decide +kernel
theorem dX4_countHeld_5 : decode cX4_countHeld 5 = .ok (.bipush 6, 2) := by decide +kernel
theorem dX4_countHeld_7 : decode cX4_countHeld 7 = .ok (.if_icmp .ge 20, 3) := by decide +kernel
theorem dX4_countHeld_10 : decode cX4_countHeld 10 = .ok (.aload_n 0, 1) := by decide +kernel
theorem dX4_countHeld_11 : decode cX4_countHeld 11 = .ok (.iload_n 2, 1) := by decide +kernel
theorem dX4_countHeld_12 : decode cX4_countHeld 12 = .ok (.invokevirtual 71, 3) := by decide +kernel
theorem dX4_countHeld_15 : decode cX4_countHeld 15 = .ok (.ifCond .ne 6, 3) := by decide +kernel
theorem dX4_countHeld_18 : decode cX4_countHeld 18 = .ok (.iinc 1 1, 3) := by decide +kernel
theorem dX4_countHeld_21 : decode cX4_countHeld 21 = .ok (.iinc 2 1, 3) := by decide +kernel
theorem dX4_countHeld_24 : decode cX4_countHeld 24 = .ok (.goto (-20), 3) := by decide +kernel
theorem dX4_countHeld_27 : decode cX4_countHeld 27 = .ok (.iload_n 1, 1) := by decide +kernel
theorem dX4_countHeld_28 : decode cX4_countHeld 28 = .ok (.ireturn, 1) := by decide +kernel
theorem dX4_countPlain_0 : decode cX4_countPlain 0 = .ok (.iconst 0, 1) := by decide +kernel
theorem dX4_countPlain_1 : decode cX4_countPlain 1 = .ok (.istore_n 1, 1) := by decide +kernel
theorem dX4_countPlain_2 : decode cX4_countPlain 2 = .ok (.iconst 0, 1) := by decide +kernel
theorem dX4_countPlain_3 : decode cX4_countPlain 3 = .ok (.istore_n 2, 1) := by decide +kernel
theorem dX4_countPlain_4 : decode cX4_countPlain 4 = .ok (.iload_n 2, 1) := by decide +kernel
theorem dX4_countPlain_5 : decode cX4_countPlain 5 = .ok (.bipush 6, 2) := by decide +kernel
theorem dX4_countPlain_7 : decode cX4_countPlain 7 = .ok (.if_icmp .ge 36, 3) := by decide +kernel
theorem dX4_countPlain_10 : decode cX4_countPlain 10 = .ok (.aload_n 0, 1) := by decide +kernel
theorem dX4_countPlain_11 : decode cX4_countPlain 11 = .ok (.iload_n 2, 1) := by decide +kernel
theorem dX4_countPlain_12 : decode cX4_countPlain 12 = .ok (.invokevirtual 71, 3) := by decide +kernel
theorem dX4_countPlain_15 : decode cX4_countPlain 15 = .ok (.ifCond .ne 22, 3) := by decide +kernel
theorem dX4_countPlain_18 : decode cX4_countPlain 18 = .ok (.aload_n 0, 1) := by decide +kernel
theorem dX4_countPlain_19 : decode cX4_countPlain 19 = .ok (.aload_n 0, 1) := by decide +kernel
theorem dX4_countPlain_20 : decode cX4_countPlain 20 = .ok (.getfield 10, 3) := by decide +kernel
theorem dX4_countPlain_23 : decode cX4_countPlain 23 = .ok (.getfield 74, 3) := by decide +kernel
theorem dX4_countPlain_26 : decode cX4_countPlain 26 = .ok (.iload_n 2, 1) := by decide +kernel
theorem dX4_countPlain_27 : decode cX4_countPlain 27 = .ok (.aaload, 1) := by decide +kernel
theorem dX4_countPlain_28 : decode cX4_countPlain 28 = .ok (.invokevirtual 109, 3) := by decide +kernel
theorem dX4_countPlain_31 : decode cX4_countPlain 31 = .ok (.ifCond .eq 6, 3) := by decide +kernel
theorem dX4_countPlain_34 : decode cX4_countPlain 34 = .ok (.iinc 1 1, 3) := by decide +kernel
theorem dX4_countPlain_37 : decode cX4_countPlain 37 = .ok (.iinc 2 1, 3) := by decide +kernel
theorem dX4_countPlain_40 : decode cX4_countPlain 40 = .ok (.goto (-36), 3) := by decide +kernel
theorem dX4_countPlain_43 : decode cX4_countPlain 43 = .ok (.iload_n 1, 1) := by decide +kernel
theorem dX4_countPlain_44 : decode cX4_countPlain 44 = .ok (.ireturn, 1) := by decide +kernel
theorem dX4_countTrueByRows_0 : decode cX4_countTrueByRows 0 = .ok (.iconst 0, 1) := by decide +kernel
theorem dX4_countTrueByRows_1 : decode cX4_countTrueByRows 1 = .ok (.istore_n 1, 1) := by decide +kernel
theorem dX4_countTrueByRows_2 : decode cX4_countTrueByRows 2 = .ok (.iconst 0, 1) := by decide +kernel
theorem dX4_countTrueByRows_3 : decode cX4_countTrueByRows 3 = .ok (.istore_n 2, 1) := by decide +kernel
theorem dX4_countTrueByRows_4 : decode cX4_countTrueByRows 4 = .ok (.iload_n 2, 1) := by decide +kernel
theorem dX4_countTrueByRows_5 : decode cX4_countTrueByRows 5 = .ok (.bipush 6, 2) := by decide +kernel
theorem dX4_countTrueByRows_7 : decode cX4_countTrueByRows 7 = .ok (.if_icmp .ge 35, 3) := by decide +kernel
theorem dX4_countTrueByRows_10 : decode cX4_countTrueByRows 10 = .ok (.aload_n 0, 1) := by decide +kernel
theorem dX4_countTrueByRows_11 : decode cX4_countTrueByRows 11 = .ok (.iload_n 2, 1) := by decide +kernel
theorem dX4_countTrueByRows_12 : decode cX4_countTrueByRows 12 = .ok (.invokevirtual 71, 3) := by decide +kernel
theorem dX4_countTrueByRows_15 : decode cX4_countTrueByRows 15 = .ok (.ifCond .ne 21, 3) := by decide +kernel
theorem dX4_countTrueByRows_18 : decode cX4_countTrueByRows 18 = .ok (.aload_n 0, 1) := by decide +kernel
theorem dX4_countTrueByRows_19 : decode cX4_countTrueByRows 19 = .ok (.getfield 10, 3) := by decide +kernel
theorem dX4_countTrueByRows_22 : decode cX4_countTrueByRows 22 = .ok (.getfield 74, 3) := by decide +kernel
theorem dX4_countTrueByRows_25 : decode cX4_countTrueByRows 25 = .ok (.iload_n 2, 1) := by decide +kernel
theorem dX4_countTrueByRows_26 : decode cX4_countTrueByRows 26 = .ok (.aaload, 1) := by decide +kernel
theorem dX4_countTrueByRows_27 : decode cX4_countTrueByRows 27 = .ok (.invokevirtual 113, 3) := by decide +kernel
theorem dX4_countTrueByRows_30 : decode cX4_countTrueByRows 30 = .ok (.ifCond .eq 6, 3) := by decide +kernel
theorem dX4_countTrueByRows_33 : decode cX4_countTrueByRows 33 = .ok (.iinc 1 1, 3) := by decide +kernel
theorem dX4_countTrueByRows_36 : decode cX4_countTrueByRows 36 = .ok (.iinc 2 1, 3) := by decide +kernel
theorem dX4_countTrueByRows_39 : decode cX4_countTrueByRows 39 = .ok (.goto (-35), 3) := by decide +kernel
theorem dX4_countTrueByRows_42 : decode cX4_countTrueByRows 42 = .ok (.iload_n 1, 1) := by decide +kernel
theorem dX4_countTrueByRows_43 : decode cX4_countTrueByRows 43 = .ok (.ireturn, 1) := by decide +kernel
theorem dX4_isPlain_0 : decode cX4_isPlain 0 = .ok (.aload_n 1, 1) := by decide +kernel
theorem dX4_isPlain_1 : decode cX4_isPlain 1 = .ok (.invokevirtual 113, 3) := by decide +kernel
theorem dX4_isPlain_4 : decode cX4_isPlain 4 = .ok (.ifCond .ne 5, 3) := by decide +kernel
theorem dX4_isPlain_7 : decode cX4_isPlain 7 = .ok (.iconst 0, 1) := by decide +kernel
theorem dX4_isPlain_8 : decode cX4_isPlain 8 = .ok (.ireturn, 1) := by decide +kernel
theorem dX4_isPlain_9 : decode cX4_isPlain 9 = .ok (.aload_n 0, 1) := by decide +kernel
theorem dX4_isPlain_10 : decode cX4_isPlain 10 = .ok (.getfield 44, 3) := by decide +kernel
theorem dX4_isPlain_13 : decode cX4_isPlain 13 = .ok (.aload_n 1, 1) := by decide +kernel
theorem dX4_isPlain_14 : decode cX4_isPlain 14 = .ok (.invokevirtual 120, 3) := by decide +kernel
theorem dX4_isPlain_17 : decode cX4_isPlain 17 = .ok (.aload_n 0, 1) := by decide +kernel
theorem dX4_isPlain_18 : decode cX4_isPlain 18 = .ok (.getfield 44, 3) := by decide +kernel
theorem dX4_isPlain_21 : decode cX4_isPlain 21 = .ok (.invokevirtual 130, 3) := by decide +kernel
theorem dX4_isPlain_24 : decode cX4_isPlain 24 = .ok (.ifCond .ne 7, 3) := by decide +kernel
end
section
theorem dX4_isPlain_27 : decode cX4_isPlain 27 = .ok (.iconst 1, 1) := by decide +kernel
theorem dX4_isPlain_28 : decode cX4_isPlain 28 = .ok (.goto 4, 3) := by decide +kernel
theorem dX4_isPlain_31 : decode cX4_isPlain 31 = .ok (.iconst 0, 1) := by decide +kernel
theorem dX4_isPlain_32 : decode cX4_isPlain 32 = .ok (.ireturn, 1) := by decide +kernel
theorem dX4_putDraft_0 : decode cX4_putDraft 0 = .ok (.aload_n 0, 1) := by decide +kernel
theorem dX4_putDraft_1 : decode cX4_putDraft 1 = .ok (.getfield 10, 3) := by decide +kernel
theorem dX4_putDraft_4 : decode cX4_putDraft 4 = .ok (.getfield 74, 3) := by decide +kernel
theorem dX4_putDraft_7 : decode cX4_putDraft 7 = .ok (.iload_n 1, 1) := by decide +kernel
theorem dX4_putDraft_8 : decode cX4_putDraft 8 = .ok (.aaload, 1) := by decide +kernel
theorem dX4_putDraft_9 : decode cX4_putDraft 9 = .ok (.aload_n 0, 1) := by decide +kernel
theorem dX4_putDraft_10 : decode cX4_putDraft 10 = .ok (.getfield 37, 3) := by decide +kernel
theorem dX4_putDraft_13 : decode cX4_putDraft 13 = .ok (.invokevirtual 176, 3) := by decide +kernel
theorem dX4_putDraft_16 : decode cX4_putDraft 16 = .ok (.aload_n 0, 1) := by decide +kernel
theorem dX4_putDraft_17 : decode cX4_putDraft 17 = .ok (.getfield 37, 3) := by decide +kernel
theorem dX4_putDraft_20 : decode cX4_putDraft 20 = .ok (.getfield 117, 3) := by decide +kernel
theorem dX4_putDraft_23 : decode cX4_putDraft 23 = .ok (.ireturn, 1) := by decide +kernel
theorem dX4_isEmpty_0 : decode cX4_isEmpty 0 = .ok (.aload_n 0, 1) := by decide +kernel
theorem dX4_isEmpty_1 : decode cX4_isEmpty 1 = .ok (.getfield 10, 3) := by decide +kernel
theorem dX4_isEmpty_4 : decode cX4_isEmpty 4 = .ok (.getfield 74, 3) := by decide +kernel
theorem dX4_isEmpty_7 : decode cX4_isEmpty 7 = .ok (.iload_n 1, 1) := by decide +kernel
theorem dX4_isEmpty_8 : decode cX4_isEmpty 8 = .ok (.aaload, 1) := by decide +kernel
theorem dX4_isEmpty_9 : decode cX4_isEmpty 9 = .ok (.getfield 117, 3) := by decide +kernel
theorem dX4_isEmpty_12 : decode cX4_isEmpty 12 = .ok (.ifCond .ne 7, 3) := by decide +kernel
theorem dX4_isEmpty_15 : decode cX4_isEmpty 15 = .ok (.iconst 1, 1) := by decide +kernel
theorem dX4_isEmpty_16 : decode cX4_isEmpty 16 = .ok (.goto 4, 3) := by decide +kernel
theorem dX4_isEmpty_19 : decode cX4_isEmpty 19 = .ok (.iconst 0, 1) := by decide +kernel
theorem dX4_isEmpty_20 : decode cX4_isEmpty 20 = .ok (.ireturn, 1) := by decide +kernel
theorem dX4_isSlot_0 : decode cX4_isSlot 0 = .ok (.iload_n 0, 1) := by decide +kernel
theorem dX4_isSlot_1 : decode cX4_isSlot 1 = .ok (.ifCond .lt 13, 3) := by decide +kernel
theorem dX4_isSlot_4 : decode cX4_isSlot 4 = .ok (.iload_n 0, 1) := by decide +kernel
theorem dX4_isSlot_5 : decode cX4_isSlot 5 = .ok (.bipush 6, 2) := by decide +kernel
theorem dX4_isSlot_7 : decode cX4_isSlot 7 = .ok (.if_icmp .ge 7, 3) := by decide +kernel
theorem dX4_isSlot_10 : decode cX4_isSlot 10 = .ok (.iconst 1, 1) := by decide +kernel
theorem dX4_isSlot_11 : decode cX4_isSlot 11 = .ok (.goto 4, 3) := by decide +kernel
theorem dX4_isSlot_14 : decode cX4_isSlot 14 = .ok (.iconst 0, 1) := by decide +kernel
theorem dX4_isSlot_15 : decode cX4_isSlot 15 = .ok (.ireturn, 1) := by decide +kernel
theorem dX4_isImage_0 : decode cX4_isImage 0 = .ok (.iload_n 0, 1) := by decide +kernel
theorem dX4_isImage_1 : decode cX4_isImage 1 = .ok (.ifCond .lt 12, 3) := by decide +kernel
theorem dX4_isImage_4 : decode cX4_isImage 4 = .ok (.iload_n 0, 1) := by decide +kernel
theorem dX4_isImage_5 : decode cX4_isImage 5 = .ok (.iconst 2, 1) := by decide +kernel
theorem dX4_isImage_6 : decode cX4_isImage 6 = .ok (.if_icmp .ge 7, 3) := by decide +kernel
theorem dX4_isImage_9 : decode cX4_isImage 9 = .ok (.iconst 1, 1) := by decide +kernel
theorem dX4_isImage_10 : decode cX4_isImage 10 = .ok (.goto 4, 3) := by decide +kernel
theorem dX4_isImage_13 : decode cX4_isImage 13 = .ok (.iconst 0, 1) := by decide +kernel
theorem dX4_isImage_14 : decode cX4_isImage 14 = .ok (.ireturn, 1) := by decide +kernel
theorem dX4_has_0 : decode cX4_has 0 = .ok (.iload_n 0, 1) := by decide +kernel
theorem dX4_has_1 : decode cX4_has 1 = .ok (.iload_n 1, 1) := by decide +kernel
theorem dX4_has_2 : decode cX4_has 2 = .ok (.iushr, 1) := by decide +kernel
theorem dX4_has_3 : decode cX4_has 3 = .ok (.iconst 1, 1) := by decide +kernel
theorem dX4_has_4 : decode cX4_has 4 = .ok (.iand, 1) := by decide +kernel
theorem dX4_has_5 : decode cX4_has 5 = .ok (.ifCond .eq 7, 3) := by decide +kernel
theorem dX4_has_8 : decode cX4_has 8 = .ok (.iconst 1, 1) := by decide +kernel
theorem dX4_has_9 : decode cX4_has 9 = .ok (.goto 4, 3) := by decide +kernel
theorem dX4_has_12 : decode cX4_has 12 = .ok (.iconst 0, 1) := by decide +kernel
theorem dX4_has_13 : decode cX4_has 13 = .ok (.ireturn, 1) := by decide +kernel
end
section
theorem dX5_init_0 : decode cX5_init 0 = .ok (.aload_n 0, 1) := by decide +kernel
theorem dX5_init_1 : decode cX5_init 1 = .ok (.invokespecial 1, 3) := by decide +kernel
theorem dX5_init_4 : decode cX5_init 4 = .ok (.aload_n 0, 1) := by decide +kernel
theorem dX5_init_5 : decode cX5_init 5 = .ok (.bipush 18, 2) := by decide +kernel
theorem dX5_init_7 : decode cX5_init 7 = .ok (.newarray .int, 2) := by decide +kernel
theorem dX5_init_9 : decode cX5_init 9 = .ok (.putfield 7, 3) := by decide +kernel
theorem dX5_init_12 : decode cX5_init 12 = .ok (.aload_n 0, 1) := by decide +kernel
theorem dX5_init_13 : decode cX5_init 13 = .ok (.sipush 198, 3) := by decide +kernel
theorem dX5_init_16 : decode cX5_init 16 = .ok (.newarray .int, 2) := by decide +kernel
theorem dX5_init_18 : decode cX5_init 18 = .ok (.putfield 13, 3) := by decide +kernel
theorem dX5_init_21 : decode cX5_init 21 = .ok (.aload_n 0, 1) := by decide +kernel
theorem dX5_init_22 : decode cX5_init 22 = .ok (.sipush 198, 3) := by decide +kernel
theorem dX5_init_25 : decode cX5_init 25 = .ok (.newarray .int, 2) := by decide +kernel
theorem dX5_init_27 : decode cX5_init 27 = .ok (.putfield 16, 3) := by decide +kernel
theorem dX5_init_30 : decode cX5_init 30 = .ok (.aload_n 0, 1) := by decide +kernel
theorem dX5_init_31 : decode cX5_init 31 = .ok (.sipush 198, 3) := by decide +kernel
theorem dX5_init_34 : decode cX5_init 34 = .ok (.newarray .int, 2) := by decide +kernel
theorem dX5_init_36 : decode cX5_init 36 = .ok (.putfield 19, 3) := by decide +kernel
theorem dX5_init_39 : decode cX5_init 39 = .ok (.aload_n 0, 1) := by decide +kernel
theorem dX5_init_40 : decode cX5_init 40 = .ok (.bipush 40, 2) := by decide +kernel
theorem dX5_init_42 : decode cX5_init 42 = .ok (.newarray .int, 2) := by decide +kernel
theorem dX5_init_44 : decode cX5_init 44 = .ok (.putfield 22, 3) := by decide +kernel
theorem dX5_init_47 : decode cX5_init 47 = .ok (.aload_n 0, 1) := by decide +kernel
theorem dX5_init_48 : decode cX5_init 48 = .ok (.bipush (-6), 2) := by decide +kernel
theorem dX5_init_50 : decode cX5_init 50 = .ok (.putfield 25, 3) := by decide +kernel
theorem dX5_init_53 : decode cX5_init 53 = .ok (.aload_n 0, 1) := by decide +kernel
theorem dX5_init_54 : decode cX5_init 54 = .ok (.sipush 128, 3) := by decide +kernel
theorem dX5_init_57 : decode cX5_init 57 = .ok (.newarray .int, 2) := by decide +kernel
theorem dX5_init_59 : decode cX5_init 59 = .ok (.putfield 29, 3) := by decide +kernel
theorem dX5_init_62 : decode cX5_init 62 = .ok (.aload_n 0, 1) := by decide +kernel
theorem dX5_init_63 : decode cX5_init 63 = .ok (.sipush 128, 3) := by decide +kernel
theorem dX5_init_66 : decode cX5_init 66 = .ok (.newarray .int, 2) := by decide +kernel
theorem dX5_init_68 : decode cX5_init 68 = .ok (.putfield 32, 3) := by decide +kernel
theorem dX5_init_71 : decode cX5_init 71 = .ok (.aload_n 0, 1) := by decide +kernel
theorem dX5_init_72 : decode cX5_init 72 = .ok (.sipush 128, 3) := by decide +kernel
theorem dX5_init_75 : decode cX5_init 75 = .ok (.newarray .int, 2) := by decide +kernel
theorem dX5_init_77 : decode cX5_init 77 = .ok (.putfield 35, 3) := by decide +kernel
theorem dX5_init_80 : decode cX5_init 80 = .ok (.aload_n 0, 1) := by decide +kernel
theorem dX5_init_81 : decode cX5_init 81 = .ok (.bipush 64, 2) := by decide +kernel
theorem dX5_init_83 : decode cX5_init 83 = .ok (.newarray .int, 2) := by decide +kernel
theorem dX5_init_85 : decode cX5_init 85 = .ok (.putfield 38, 3) := by decide +kernel
theorem dX5_init_88 : decode cX5_init 88 = .ok (.aload_n 0, 1) := by decide +kernel
theorem dX5_init_89 : decode cX5_init 89 = .ok (.bipush 64, 2) := by decide +kernel
theorem dX5_init_91 : decode cX5_init 91 = .ok (.newarray .int, 2) := by decide +kernel
theorem dX5_init_93 : decode cX5_init 93 = .ok (.putfield 41, 3) := by decide +kernel
theorem dX5_init_96 : decode cX5_init 96 = .ok (.aload_n 0, 1) := by decide +kernel
theorem dX5_init_97 : decode cX5_init 97 = .ok (.bipush 64, 2) := by decide +kernel
theorem dX5_init_99 : decode cX5_init 99 = .ok (.newarray .int, 2) := by decide +kernel
theorem dX5_init_101 : decode cX5_init 101 = .ok (.putfield 44, 3) := by decide +kernel
theorem dX5_init_104 : decode cX5_init 104 = .ok (.aload_n 0, 1) := by decide +kernel
theorem dX5_init_105 : decode cX5_init 105 = .ok (.bipush 16, 2) := by decide +kernel
theorem dX5_init_107 : decode cX5_init 107 = .ok (.newarray .int, 2) := by decide +kernel
theorem dX5_init_109 : decode cX5_init 109 = .ok (.putfield 47, 3) := by decide +kernel
theorem dX5_init_112 : decode cX5_init 112 = .ok (.aload_n 0, 1) := by decide +kernel
theorem dX5_init_113 : decode cX5_init 113 = .ok (.bipush 64, 2) := by decide +kernel
theorem dX5_init_115 : decode cX5_init 115 = .ok (.newarray .int, 2) := by decide +kernel
theorem dX5_init_117 : decode cX5_init 117 = .ok (.putfield 50, 3) := by decide +kernel
theorem dX5_init_120 : decode cX5_init 120 = .ok (.aload_n 0, 1) := by decide +kernel
theorem dX5_init_121 : decode cX5_init 121 = .ok (.bipush 16, 2) := by decide +kernel
theorem dX5_init_123 : decode cX5_init 123 = .ok (.newarray .int, 2) := by decide +kernel
theorem dX5_init_125 : decode cX5_init 125 = .ok (.putfield 53, 3) := by decide +kernel
theorem dX5_init_128 : decode cX5_init 128 = .ok (.aload_n 0, 1) := by decide +kernel
theorem dX5_init_129 : decode cX5_init 129 = .ok (.sipush 2048, 3) := by decide +kernel
theorem dX5_init_132 : decode cX5_init 132 = .ok (.newarray .int, 2) := by decide +kernel
theorem dX5_init_134 : decode cX5_init 134 = .ok (.putfield 56, 3) := by decide +kernel
theorem dX5_init_137 : decode cX5_init 137 = .ok (.aload_n 0, 1) := by decide +kernel
theorem dX5_init_138 : decode cX5_init 138 = .ok (.sipush 2048, 3) := by decide +kernel
theorem dX5_init_141 : decode cX5_init 141 = .ok (.newarray .boolean, 2) := by decide +kernel
theorem dX5_init_143 : decode cX5_init 143 = .ok (.putfield 59, 3) := by decide +kernel
theorem dX5_init_146 : decode cX5_init 146 = .ok (.aload_n 0, 1) := by decide +kernel
theorem dX5_init_147 : decode cX5_init 147 = .ok (.sipush 2048, 3) := by decide +kernel
theorem dX5_init_150 : decode cX5_init 150 = .ok (.newarray .int, 2) := by decide +kernel
theorem dX5_init_152 : decode cX5_init 152 = .ok (.putfield 63, 3) := by decide +kernel
theorem dX5_init_155 : decode cX5_init 155 = .ok (.aload_n 0, 1) := by decide +kernel
theorem dX5_init_156 : decode cX5_init 156 = .ok (.iconst 2, 1) := by decide +kernel
theorem dX5_init_157 : decode cX5_init 157 = .ok (.newarray .boolean, 2) := by decide +kernel
theorem dX5_init_159 : decode cX5_init 159 = .ok (.putfield 66, 3) := by decide +kernel
theorem dX5_init_162 : decode cX5_init 162 = .ok (.return_, 1) := by decide +kernel
theorem dX5_in_0 : decode cX5_in 0 = .ok (.iload_n 0, 1) := by decide +kernel
theorem dX5_in_1 : decode cX5_in 1 = .ok (.iload_n 1, 1) := by decide +kernel
theorem dX5_in_2 : decode cX5_in 2 = .ok (.if_icmp .lt 12, 3) := by decide +kernel
theorem dX5_in_5 : decode cX5_in 5 = .ok (.iload_n 0, 1) := by decide +kernel
theorem dX5_in_6 : decode cX5_in 6 = .ok (.iload_n 2, 1) := by decide +kernel
theorem dX5_in_7 : decode cX5_in 7 = .ok (.if_icmp .gt 7, 3) := by decide +kernel
theorem dX5_in_10 : decode cX5_in 10 = .ok (.iconst 1, 1) := by decide +kernel
theorem dX5_in_11 : decode cX5_in 11 = .ok (.goto 4, 3) := by decide +kernel
theorem dX5_in_14 : decode cX5_in 14 = .ok (.iconst 0, 1) := by decide +kernel
theorem dX5_in_15 : decode cX5_in 15 = .ok (.ireturn, 1) := by decide +kernel
theorem dX5_isSlot_0 : decode cX5_isSlot 0 = .ok (.iload_n 0, 1) := by decide +kernel
theorem dX5_isSlot_1 : decode cX5_isSlot 1 = .ok (.iconst 0, 1) := by decide +kernel
theorem dX5_isSlot_2 : decode cX5_isSlot 2 = .ok (.iconst 5, 1) := by decide +kernel
theorem dX5_isSlot_3 : decode cX5_isSlot 3 = .ok (.invokestatic 69, 3) := by decide +kernel
theorem dX5_isSlot_6 : decode cX5_isSlot 6 = .ok (.ireturn, 1) := by decide +kernel
theorem dX5_has_0 : decode cX5_has 0 = .ok (.iload_n 0, 1) := by decide +kernel
theorem dX5_has_1 : decode cX5_has 1 = .ok (.iload_n 1, 1) := by decide +kernel
theorem dX5_has_2 : decode cX5_has 2 = .ok (.ishr, 1) := by decide +kernel
theorem dX5_has_3 : decode cX5_has 3 = .ok (.iconst 1, 1) := by decide +kernel
theorem dX5_has_4 : decode cX5_has 4 = .ok (.iand, 1) := by decide +kernel
theorem dX5_has_5 : decode cX5_has 5 = .ok (.iconst 1, 1) := by decide +kernel
theorem dX5_has_6 : decode cX5_has 6 = .ok (.if_icmp .ne 7, 3) := by decide +kernel
theorem dX5_has_9 : decode cX5_has 9 = .ok (.iconst 1, 1) := by decide +kernel
theorem dX5_has_10 : decode cX5_has 10 = .ok (.goto 4, 3) := by decide +kernel
theorem dX5_has_13 : decode cX5_has 13 = .ok (.iconst 0, 1) := by decide +kernel
theorem dX5_has_14 : decode cX5_has 14 = .ok (.ireturn, 1) := by decide +kernel
theorem dX5_partOf_0 : decode cX5_partOf 0 = .ok (.iconst 0, 1) := by decide +kernel
theorem dX5_partOf_1 : decode cX5_partOf 1 = .ok (.istore 4, 2) := by decide +kernel
theorem dX5_partOf_3 : decode cX5_partOf 3 = .ok (.iload 4, 2) := by decide +kernel
theorem dX5_partOf_5 : decode cX5_partOf 5 = .ok (.aload_n 0, 1) := by decide +kernel
theorem dX5_partOf_6 : decode cX5_partOf 6 = .ok (.getfield 73, 3) := by decide +kernel
theorem dX5_partOf_9 : decode cX5_partOf 9 = .ok (.if_icmp .ge 42, 3) := by decide +kernel
theorem dX5_partOf_12 : decode cX5_partOf 12 = .ok (.aload_n 0, 1) := by decide +kernel
theorem dX5_partOf_13 : decode cX5_partOf 13 = .ok (.getfield 29, 3) := by decide +kernel
theorem dX5_partOf_16 : decode cX5_partOf 16 = .ok (.iload 4, 2) := by decide +kernel
theorem dX5_partOf_18 : decode cX5_partOf 18 = .ok (.iaload, 1) := by decide +kernel
theorem dX5_partOf_19 : decode cX5_partOf 19 = .ok (.iload_n 1, 1) := by decide +kernel
theorem dX5_partOf_20 : decode cX5_partOf 20 = .ok (.if_icmp .ne 25, 3) := by decide +kernel
theorem dX5_partOf_23 : decode cX5_partOf 23 = .ok (.aload_n 0, 1) := by decide +kernel
theorem dX5_partOf_24 : decode cX5_partOf 24 = .ok (.getfield 32, 3) := by decide +kernel
theorem dX5_partOf_27 : decode cX5_partOf 27 = .ok (.iload 4, 2) := by decide +kernel
theorem dX5_partOf_29 : decode cX5_partOf 29 = .ok (.iaload, 1) := by decide +kernel
theorem dX5_partOf_30 : decode cX5_partOf 30 = .ok (.iload_n 2, 1) := by decide +kernel
theorem dX5_partOf_31 : decode cX5_partOf 31 = .ok (.if_icmp .ne 14, 3) := by decide +kernel
theorem dX5_partOf_34 : decode cX5_partOf 34 = .ok (.aload_n 0, 1) := by decide +kernel
theorem dX5_partOf_35 : decode cX5_partOf 35 = .ok (.getfield 35, 3) := by decide +kernel
theorem dX5_partOf_38 : decode cX5_partOf 38 = .ok (.iload 4, 2) := by decide +kernel
theorem dX5_partOf_40 : decode cX5_partOf 40 = .ok (.iaload, 1) := by decide +kernel
theorem dX5_partOf_41 : decode cX5_partOf 41 = .ok (.iload_n 3, 1) := by decide +kernel
theorem dX5_partOf_42 : decode cX5_partOf 42 = .ok (.if_icmp .eq 9, 3) := by decide +kernel
theorem dX5_partOf_45 : decode cX5_partOf 45 = .ok (.iinc 4 1, 3) := by decide +kernel
theorem dX5_partOf_48 : decode cX5_partOf 48 = .ok (.goto (-45), 3) := by decide +kernel
theorem dX5_partOf_51 : decode cX5_partOf 51 = .ok (.iload 4, 2) := by decide +kernel
theorem dX5_partOf_53 : decode cX5_partOf 53 = .ok (.aload_n 0, 1) := by decide +kernel
theorem dX5_partOf_54 : decode cX5_partOf 54 = .ok (.getfield 73, 3) := by decide +kernel
theorem dX5_partOf_57 : decode cX5_partOf 57 = .ok (.if_icmp .ne 37, 3) := by decide +kernel
theorem dX5_partOf_60 : decode cX5_partOf 60 = .ok (.aload_n 0, 1) := by decide +kernel
theorem dX5_partOf_61 : decode cX5_partOf 61 = .ok (.getfield 29, 3) := by decide +kernel
theorem dX5_partOf_64 : decode cX5_partOf 64 = .ok (.iload 4, 2) := by decide +kernel
theorem dX5_partOf_66 : decode cX5_partOf 66 = .ok (.iload_n 1, 1) := by decide +kernel
theorem dX5_partOf_67 : decode cX5_partOf 67 = .ok (.iastore, 1) := by decide +kernel
theorem dX5_partOf_68 : decode cX5_partOf 68 = .ok (.aload_n 0, 1) := by decide +kernel
theorem dX5_partOf_69 : decode cX5_partOf 69 = .ok (.getfield 32, 3) := by decide +kernel
theorem dX5_partOf_72 : decode cX5_partOf 72 = .ok (.iload 4, 2) := by decide +kernel
theorem dX5_partOf_74 : decode cX5_partOf 74 = .ok (.iload_n 2, 1) := by decide +kernel
theorem dX5_partOf_75 : decode cX5_partOf 75 = .ok (.iastore, 1) := by decide +kernel
theorem dX5_partOf_76 : decode cX5_partOf 76 = .ok (.aload_n 0, 1) := by decide +kernel
theorem dX5_partOf_77 : decode cX5_partOf 77 = .ok (.getfield 35, 3) := by decide +kernel
theorem dX5_partOf_80 : decode cX5_partOf 80 = .ok (.iload 4, 2) := by decide +kernel
theorem dX5_partOf_82 : decode cX5_partOf 82 = .ok (.iload_n 3, 1) := by decide +kernel
theorem dX5_partOf_83 : decode cX5_partOf 83 = .ok (.iastore, 1) := by decide +kernel
theorem dX5_partOf_84 : decode cX5_partOf 84 = .ok (.aload_n 0, 1) := by decide +kernel
theorem dX5_partOf_85 : decode cX5_partOf 85 = .ok (.dup, 1) := by decide +kernel
theorem dX5_partOf_86 : decode cX5_partOf 86 = .ok (.getfield 73, 3) := by decide +kernel
theorem dX5_partOf_89 : decode cX5_partOf 89 = .ok (.iconst 1, 1) := by decide +kernel
theorem dX5_partOf_90 : decode cX5_partOf 90 = .ok (.iadd, 1) := by decide +kernel
theorem dX5_partOf_91 : decode cX5_partOf 91 = .ok (.putfield 73, 3) := by decide +kernel
theorem dX5_partOf_94 : decode cX5_partOf 94 = .ok (.iload 4, 2) := by decide +kernel
theorem dX5_partOf_96 : decode cX5_partOf 96 = .ok (.ireturn, 1) := by decide +kernel
theorem dX5_look_0 : decode cX5_look 0 = .ok (.aload_n 0, 1) := by decide +kernel
theorem dX5_look_1 : decode cX5_look 1 = .ok (.aload_n 0, 1) := by decide +kernel
theorem dX5_look_2 : decode cX5_look 2 = .ok (.getfield 7, 3) := by decide +kernel
theorem dX5_look_5 : decode cX5_look 5 = .ok (.iload_n 1, 1) := by decide +kernel
theorem dX5_look_6 : decode cX5_look 6 = .ok (.iaload, 1) := by decide +kernel
theorem dX5_look_7 : decode cX5_look 7 = .ok (.putfield 73, 3) := by decide +kernel
theorem dX5_look_10 : decode cX5_look 10 = .ok (.iconst 0, 1) := by decide +kernel
theorem dX5_look_11 : decode cX5_look 11 = .ok (.istore_n 2, 1) := by decide +kernel
theorem dX5_look_12 : decode cX5_look 12 = .ok (.iload_n 2, 1) := by decide +kernel
theorem dX5_look_13 : decode cX5_look 13 = .ok (.aload_n 0, 1) := by decide +kernel
theorem dX5_look_14 : decode cX5_look 14 = .ok (.getfield 73, 3) := by decide +kernel
theorem dX5_look_17 : decode cX5_look 17 = .ok (.if_icmp .ge 60, 3) := by decide +kernel
theorem dX5_look_20 : decode cX5_look 20 = .ok (.aload_n 0, 1) := by decide +kernel
theorem dX5_look_21 : decode cX5_look 21 = .ok (.getfield 29, 3) := by decide +kernel
theorem dX5_look_24 : decode cX5_look 24 = .ok (.iload_n 2, 1) := by decide +kernel
theorem dX5_look_25 : decode cX5_look 25 = .ok (.aload_n 0, 1) := by decide +kernel
theorem dX5_look_26 : decode cX5_look 26 = .ok (.getfield 13, 3) := by decide +kernel
theorem dX5_look_29 : decode cX5_look 29 = .ok (.bipush 11, 2) := by decide +kernel
theorem dX5_look_31 : decode cX5_look 31 = .ok (.iload_n 1, 1) := by decide +kernel
theorem dX5_look_32 : decode cX5_look 32 = .ok (.imul, 1) := by decide +kernel
theorem dX5_look_33 : decode cX5_look 33 = .ok (.iload_n 2, 1) := by decide +kernel
theorem dX5_look_34 : decode cX5_look 34 = .ok (.iadd, 1) := by decide +kernel
theorem dX5_look_35 : decode cX5_look 35 = .ok (.iaload, 1) := by decide +kernel
theorem dX5_look_36 : decode cX5_look 36 = .ok (.iastore, 1) := by decide +kernel
theorem dX5_look_37 : decode cX5_look 37 = .ok (.aload_n 0, 1) := by decide +kernel
theorem dX5_look_38 : decode cX5_look 38 = .ok (.getfield 32, 3) := by decide +kernel
theorem dX5_look_41 : decode cX5_look 41 = .ok (.iload_n 2, 1) := by decide +kernel
theorem dX5_look_42 : decode cX5_look 42 = .ok (.aload_n 0, 1) := by decide +kernel
theorem dX5_look_43 : decode cX5_look 43 = .ok (.getfield 16, 3) := by decide +kernel
theorem dX5_look_46 : decode cX5_look 46 = .ok (.bipush 11, 2) := by decide +kernel
theorem dX5_look_48 : decode cX5_look 48 = .ok (.iload_n 1, 1) := by decide +kernel
theorem dX5_look_49 : decode cX5_look 49 = .ok (.imul, 1) := by decide +kernel
theorem dX5_look_50 : decode cX5_look 50 = .ok (.iload_n 2, 1) := by decide +kernel
theorem dX5_look_51 : decode cX5_look 51 = .ok (.iadd, 1) := by decide +kernel
theorem dX5_look_52 : decode cX5_look 52 = .ok (.iaload, 1) := by decide +kernel
theorem dX5_look_53 : decode cX5_look 53 = .ok (.iastore, 1) := by decide +kernel
theorem dX5_look_54 : decode cX5_look 54 = .ok (.aload_n 0, 1) := by decide +kernel
theorem dX5_look_55 : decode cX5_look 55 = .ok (.getfield 35, 3) := by decide +kernel
theorem dX5_look_58 : decode cX5_look 58 = .ok (.iload_n 2, 1) := by decide +kernel
theorem dX5_look_59 : decode cX5_look 59 = .ok (.aload_n 0, 1) := by decide +kernel
theorem dX5_look_60 : decode cX5_look 60 = .ok (.getfield 19, 3) := by decide +kernel
theorem dX5_look_63 : decode cX5_look 63 = .ok (.bipush 11, 2) := by decide +kernel
theorem dX5_look_65 : decode cX5_look 65 = .ok (.iload_n 1, 1) := by decide +kernel
theorem dX5_look_66 : decode cX5_look 66 = .ok (.imul, 1) := by decide +kernel
theorem dX5_look_67 : decode cX5_look 67 = .ok (.iload_n 2, 1) := by decide +kernel
theorem dX5_look_68 : decode cX5_look 68 = .ok (.iadd, 1) := by decide +kernel
theorem dX5_look_69 : decode cX5_look 69 = .ok (.iaload, 1) := by decide +kernel
theorem dX5_look_70 : decode cX5_look 70 = .ok (.iastore, 1) := by decide +kernel
theorem dX5_look_71 : decode cX5_look 71 = .ok (.iinc 2 1, 3) := by decide +kernel
theorem dX5_look_74 : decode cX5_look 74 = .ok (.goto (-62), 3) := by decide +kernel
theorem dX5_look_77 : decode cX5_look 77 = .ok (.return_, 1) := by decide +kernel
theorem dX5_keep_0 : decode cX5_keep 0 = .ok (.aload_n 0, 1) := by decide +kernel
theorem dX5_keep_1 : decode cX5_keep 1 = .ok (.getfield 7, 3) := by decide +kernel
theorem dX5_keep_4 : decode cX5_keep 4 = .ok (.iload_n 1, 1) := by decide +kernel
theorem dX5_keep_5 : decode cX5_keep 5 = .ok (.aload_n 0, 1) := by decide +kernel
theorem dX5_keep_6 : decode cX5_keep 6 = .ok (.getfield 73, 3) := by decide +kernel
theorem dX5_keep_9 : decode cX5_keep 9 = .ok (.iastore, 1) := by decide +kernel
theorem dX5_keep_10 : decode cX5_keep 10 = .ok (.iconst 0, 1) := by decide +kernel
theorem dX5_keep_11 : decode cX5_keep 11 = .ok (.istore_n 2, 1) := by decide +kernel
theorem dX5_keep_12 : decode cX5_keep 12 = .ok (.iload_n 2, 1) := by decide +kernel
theorem dX5_keep_13 : decode cX5_keep 13 = .ok (.aload_n 0, 1) := by decide +kernel
theorem dX5_keep_14 : decode cX5_keep 14 = .ok (.getfield 73, 3) := by decide +kernel
theorem dX5_keep_17 : decode cX5_keep 17 = .ok (.if_icmp .ge 60, 3) := by decide +kernel
theorem dX5_keep_20 : decode cX5_keep 20 = .ok (.aload_n 0, 1) := by decide +kernel
theorem dX5_keep_21 : decode cX5_keep 21 = .ok (.getfield 13, 3) := by decide +kernel
theorem dX5_keep_24 : decode cX5_keep 24 = .ok (.bipush 11, 2) := by decide +kernel
theorem dX5_keep_26 : decode cX5_keep 26 = .ok (.iload_n 1, 1) := by decide +kernel
theorem dX5_keep_27 : decode cX5_keep 27 = .ok (.imul, 1) := by decide +kernel
theorem dX5_keep_28 : decode cX5_keep 28 = .ok (.iload_n 2, 1) := by decide +kernel
theorem dX5_keep_29 : decode cX5_keep 29 = .ok (.iadd, 1) := by decide +kernel
theorem dX5_keep_30 : decode cX5_keep 30 = .ok (.aload_n 0, 1) := by decide +kernel
theorem dX5_keep_31 : decode cX5_keep 31 = .ok (.getfield 29, 3) := by decide +kernel
theorem dX5_keep_34 : decode cX5_keep 34 = .ok (.iload_n 2, 1) := by decide +kernel
theorem dX5_keep_35 : decode cX5_keep 35 = .ok (.iaload, 1) := by decide +kernel
theorem dX5_keep_36 : decode cX5_keep 36 = .ok (.iastore, 1) := by decide +kernel
theorem dX5_keep_37 : decode cX5_keep 37 = .ok (.aload_n 0, 1) := by decide +kernel
theorem dX5_keep_38 : decode cX5_keep 38 = .ok (.getfield 16, 3) := by decide +kernel
theorem dX5_keep_41 : decode cX5_keep 41 = .ok (.bipush 11, 2) := by decide +kernel
theorem dX5_keep_43 : decode cX5_keep 43 = .ok (.iload_n 1, 1) := by decide +kernel
theorem dX5_keep_44 : decode cX5_keep 44 = .ok (.imul, 1) := by decide +kernel
theorem dX5_keep_45 : decode cX5_keep 45 = .ok (.iload_n 2, 1) := by decide +kernel
theorem dX5_keep_46 : decode cX5_keep 46 = .ok (.iadd, 1) := by decide +kernel
theorem dX5_keep_47 : decode cX5_keep 47 = .ok (.aload_n 0, 1) := by decide +kernel
theorem dX5_keep_48 : decode cX5_keep 48 = .ok (.getfield 32, 3) := by decide +kernel
theorem dX5_keep_51 : decode cX5_keep 51 = .ok (.iload_n 2, 1) := by decide +kernel
theorem dX5_keep_52 : decode cX5_keep 52 = .ok (.iaload, 1) := by decide +kernel
theorem dX5_keep_53 : decode cX5_keep 53 = .ok (.iastore, 1) := by decide +kernel
theorem dX5_keep_54 : decode cX5_keep 54 = .ok (.aload_n 0, 1) := by decide +kernel
theorem dX5_keep_55 : decode cX5_keep 55 = .ok (.getfield 19, 3) := by decide +kernel
theorem dX5_keep_58 : decode cX5_keep 58 = .ok (.bipush 11, 2) := by decide +kernel
theorem dX5_keep_60 : decode cX5_keep 60 = .ok (.iload_n 1, 1) := by decide +kernel
theorem dX5_keep_61 : decode cX5_keep 61 = .ok (.imul, 1) := by decide +kernel
theorem dX5_keep_62 : decode cX5_keep 62 = .ok (.iload_n 2, 1) := by decide +kernel
theorem dX5_keep_63 : decode cX5_keep 63 = .ok (.iadd, 1) := by decide +kernel
theorem dX5_keep_64 : decode cX5_keep 64 = .ok (.aload_n 0, 1) := by decide +kernel
theorem dX5_keep_65 : decode cX5_keep 65 = .ok (.getfield 35, 3) := by decide +kernel
theorem dX5_keep_68 : decode cX5_keep 68 = .ok (.iload_n 2, 1) := by decide +kernel
theorem dX5_keep_69 : decode cX5_keep 69 = .ok (.iaload, 1) := by decide +kernel
theorem dX5_keep_70 : decode cX5_keep 70 = .ok (.iastore, 1) := by decide +kernel
theorem dX5_keep_71 : decode cX5_keep 71 = .ok (.iinc 2 1, 3) := by decide +kernel
theorem dX5_keep_74 : decode cX5_keep 74 = .ok (.goto (-62), 3) := by decide +kernel
theorem dX5_keep_77 : decode cX5_keep 77 = .ok (.aload_n 0, 1) := by decide +kernel
theorem dX5_keep_78 : decode cX5_keep 78 = .ok (.getfield 73, 3) := by decide +kernel
theorem dX5_keep_81 : decode cX5_keep 81 = .ok (.ireturn, 1) := by decide +kernel
theorem dX5_complete_0 : decode cX5_complete 0 = .ok (.aload_n 0, 1) := by decide +kernel
theorem dX5_complete_1 : decode cX5_complete 1 = .ok (.iload_n 1, 1) := by decide +kernel
theorem dX5_complete_2 : decode cX5_complete 2 = .ok (.putfield 76, 3) := by decide +kernel
theorem dX5_complete_5 : decode cX5_complete 5 = .ok (.aload_n 0, 1) := by decide +kernel
theorem dX5_complete_6 : decode cX5_complete 6 = .ok (.getfield 38, 3) := by decide +kernel
theorem dX5_complete_9 : decode cX5_complete 9 = .ok (.aload_n 0, 1) := by decide +kernel
theorem dX5_complete_10 : decode cX5_complete 10 = .ok (.getfield 79, 3) := by decide +kernel
theorem dX5_complete_13 : decode cX5_complete 13 = .ok (.iconst 1, 1) := by decide +kernel
theorem dX5_complete_14 : decode cX5_complete 14 = .ok (.isub, 1) := by decide +kernel
theorem dX5_complete_15 : decode cX5_complete 15 = .ok (.iaload, 1) := by decide +kernel
theorem dX5_complete_16 : decode cX5_complete 16 = .ok (.iconst 1, 1) := by decide +kernel
theorem dX5_complete_17 : decode cX5_complete 17 = .ok (.if_icmp .ne 40, 3) := by decide +kernel
theorem dX5_complete_20 : decode cX5_complete 20 = .ok (.aload_n 0, 1) := by decide +kernel
theorem dX5_complete_21 : decode cX5_complete 21 = .ok (.dup, 1) := by decide +kernel
theorem dX5_complete_22 : decode cX5_complete 22 = .ok (.getfield 79, 3) := by decide +kernel
theorem dX5_complete_25 : decode cX5_complete 25 = .ok (.iconst 1, 1) := by decide +kernel
theorem dX5_complete_26 : decode cX5_complete 26 = .ok (.isub, 1) := by decide +kernel
theorem dX5_complete_27 : decode cX5_complete 27 = .ok (.putfield 79, 3) := by decide +kernel
theorem dX5_complete_30 : decode cX5_complete 30 = .ok (.aload_n 0, 1) := by decide +kernel
theorem dX5_complete_31 : decode cX5_complete 31 = .ok (.iconst 1, 1) := by decide +kernel
theorem dX5_complete_32 : decode cX5_complete 32 = .ok (.bipush (-6), 2) := by decide +kernel
theorem dX5_complete_34 : decode cX5_complete 34 = .ok (.bipush (-6), 2) := by decide +kernel
theorem dX5_complete_36 : decode cX5_complete 36 = .ok (.invokevirtual 82, 3) := by decide +kernel
theorem dX5_complete_39 : decode cX5_complete 39 = .ok (.istore_n 2, 1) := by decide +kernel
theorem dX5_complete_40 : decode cX5_complete 40 = .ok (.aload_n 0, 1) := by decide +kernel
theorem dX5_complete_41 : decode cX5_complete 41 = .ok (.aload_n 0, 1) := by decide +kernel
theorem dX5_complete_42 : decode cX5_complete 42 = .ok (.iconst 4, 1) := by decide +kernel
theorem dX5_complete_43 : decode cX5_complete 43 = .ok (.aload_n 0, 1) := by decide +kernel
theorem dX5_complete_44 : decode cX5_complete 44 = .ok (.getfield 76, 3) := by decide +kernel
theorem dX5_complete_47 : decode cX5_complete 47 = .ok (.iload_n 2, 1) := by decide +kernel
theorem dX5_complete_48 : decode cX5_complete 48 = .ok (.invokevirtual 82, 3) := by decide +kernel
theorem dX5_complete_51 : decode cX5_complete 51 = .ok (.putfield 76, 3) := by decide +kernel
theorem dX5_complete_54 : decode cX5_complete 54 = .ok (.goto (-49), 3) := by decide +kernel
theorem dX5_complete_57 : decode cX5_complete 57 = .ok (.aload_n 0, 1) := by decide +kernel
theorem dX5_complete_58 : decode cX5_complete 58 = .ok (.aload_n 0, 1) := by decide +kernel
theorem dX5_complete_59 : decode cX5_complete 59 = .ok (.getfield 38, 3) := by decide +kernel
theorem dX5_complete_62 : decode cX5_complete 62 = .ok (.aload_n 0, 1) := by decide +kernel
theorem dX5_complete_63 : decode cX5_complete 63 = .ok (.getfield 79, 3) := by decide +kernel
theorem dX5_complete_66 : decode cX5_complete 66 = .ok (.iconst 1, 1) := by decide +kernel
theorem dX5_complete_67 : decode cX5_complete 67 = .ok (.isub, 1) := by decide +kernel
theorem dX5_complete_68 : decode cX5_complete 68 = .ok (.iaload, 1) := by decide +kernel
theorem dX5_complete_69 : decode cX5_complete 69 = .ok (.ifCond .ne 7, 3) := by decide +kernel
theorem dX5_complete_72 : decode cX5_complete 72 = .ok (.iconst 3, 1) := by decide +kernel
theorem dX5_complete_73 : decode cX5_complete 73 = .ok (.goto 23, 3) := by decide +kernel
theorem dX5_complete_76 : decode cX5_complete 76 = .ok (.aload_n 0, 1) := by decide +kernel
theorem dX5_complete_77 : decode cX5_complete 77 = .ok (.getfield 38, 3) := by decide +kernel
theorem dX5_complete_80 : decode cX5_complete 80 = .ok (.aload_n 0, 1) := by decide +kernel
theorem dX5_complete_81 : decode cX5_complete 81 = .ok (.getfield 79, 3) := by decide +kernel
theorem dX5_complete_84 : decode cX5_complete 84 = .ok (.iconst 1, 1) := by decide +kernel
theorem dX5_complete_85 : decode cX5_complete 85 = .ok (.isub, 1) := by decide +kernel
theorem dX5_complete_86 : decode cX5_complete 86 = .ok (.iaload, 1) := by decide +kernel
theorem dX5_complete_87 : decode cX5_complete 87 = .ok (.iconst 2, 1) := by decide +kernel
theorem dX5_complete_88 : decode cX5_complete 88 = .ok (.if_icmp .ne 7, 3) := by decide +kernel
theorem dX5_complete_91 : decode cX5_complete 91 = .ok (.iconst 1, 1) := by decide +kernel
theorem dX5_complete_92 : decode cX5_complete 92 = .ok (.goto 4, 3) := by decide +kernel
theorem dX5_complete_95 : decode cX5_complete 95 = .ok (.iconst 2, 1) := by decide +kernel
theorem dX5_complete_96 : decode cX5_complete 96 = .ok (.putfield 86, 3) := by decide +kernel
theorem dX5_complete_99 : decode cX5_complete 99 = .ok (.aload_n 0, 1) := by decide +kernel
theorem dX5_complete_100 : decode cX5_complete 100 = .ok (.getfield 86, 3) := by decide +kernel
theorem dX5_complete_103 : decode cX5_complete 103 = .ok (.iconst 1, 1) := by decide +kernel
theorem dX5_complete_104 : decode cX5_complete 104 = .ok (.if_icmp .ne 18, 3) := by decide +kernel
theorem dX5_complete_107 : decode cX5_complete 107 = .ok (.aload_n 0, 1) := by decide +kernel
theorem dX5_complete_108 : decode cX5_complete 108 = .ok (.getfield 41, 3) := by decide +kernel
theorem dX5_complete_111 : decode cX5_complete 111 = .ok (.aload_n 0, 1) := by decide +kernel
theorem dX5_complete_112 : decode cX5_complete 112 = .ok (.getfield 79, 3) := by decide +kernel
theorem dX5_complete_115 : decode cX5_complete 115 = .ok (.iconst 1, 1) := by decide +kernel
theorem dX5_complete_116 : decode cX5_complete 116 = .ok (.isub, 1) := by decide +kernel
theorem dX5_complete_117 : decode cX5_complete 117 = .ok (.aload_n 0, 1) := by decide +kernel
theorem dX5_complete_118 : decode cX5_complete 118 = .ok (.getfield 76, 3) := by decide +kernel
theorem dX5_complete_121 : decode cX5_complete 121 = .ok (.iastore, 1) := by decide +kernel
theorem dX5_complete_122 : decode cX5_complete 122 = .ok (.return_, 1) := by decide +kernel
theorem dX5_push_0 : decode cX5_push 0 = .ok (.aload_n 0, 1) := by decide +kernel
theorem dX5_push_1 : decode cX5_push 1 = .ok (.getfield 38, 3) := by decide +kernel
theorem dX5_push_4 : decode cX5_push 4 = .ok (.aload_n 0, 1) := by decide +kernel
theorem dX5_push_5 : decode cX5_push 5 = .ok (.getfield 79, 3) := by decide +kernel
theorem dX5_push_8 : decode cX5_push 8 = .ok (.iload_n 1, 1) := by decide +kernel
theorem dX5_push_9 : decode cX5_push 9 = .ok (.iastore, 1) := by decide +kernel
theorem dX5_push_10 : decode cX5_push 10 = .ok (.aload_n 0, 1) := by decide +kernel
theorem dX5_push_11 : decode cX5_push 11 = .ok (.dup, 1) := by decide +kernel
theorem dX5_push_12 : decode cX5_push 12 = .ok (.getfield 79, 3) := by decide +kernel
theorem dX5_push_15 : decode cX5_push 15 = .ok (.iconst 1, 1) := by decide +kernel
theorem dX5_push_16 : decode cX5_push 16 = .ok (.iadd, 1) := by decide +kernel
theorem dX5_push_17 : decode cX5_push 17 = .ok (.putfield 79, 3) := by decide +kernel
theorem dX5_push_20 : decode cX5_push 20 = .ok (.return_, 1) := by decide +kernel
theorem dX5_begins_0 : decode cX5_begins 0 = .ok (.iload_n 1, 1) := by decide +kernel
theorem dX5_begins_1 : decode cX5_begins 1 = .ok (.bipush 112, 2) := by decide +kernel
theorem dX5_begins_3 : decode cX5_begins 3 = .ok (.bipush 115, 2) := by decide +kernel
theorem dX5_begins_5 : decode cX5_begins 5 = .ok (.invokestatic 69, 3) := by decide +kernel
theorem dX5_begins_8 : decode cX5_begins 8 = .ok (.ifCond .eq 20, 3) := by decide +kernel
theorem dX5_begins_11 : decode cX5_begins 11 = .ok (.aload_n 0, 1) := by decide +kernel
theorem dX5_begins_12 : decode cX5_begins 12 = .ok (.aload_n 0, 1) := by decide +kernel
theorem dX5_begins_13 : decode cX5_begins 13 = .ok (.iconst 0, 1) := by decide +kernel
theorem dX5_begins_14 : decode cX5_begins 14 = .ok (.iload_n 1, 1) := by decide +kernel
theorem dX5_begins_15 : decode cX5_begins 15 = .ok (.bipush 112, 2) := by decide +kernel
theorem dX5_begins_17 : decode cX5_begins 17 = .ok (.isub, 1) := by decide +kernel
theorem dX5_begins_18 : decode cX5_begins 18 = .ok (.bipush (-6), 2) := by decide +kernel
theorem dX5_begins_20 : decode cX5_begins 20 = .ok (.invokevirtual 82, 3) := by decide +kernel
theorem dX5_begins_23 : decode cX5_begins 23 = .ok (.invokevirtual 89, 3) := by decide +kernel
theorem dX5_begins_26 : decode cX5_begins 26 = .ok (.iconst 1, 1) := by decide +kernel
theorem dX5_begins_27 : decode cX5_begins 27 = .ok (.ireturn, 1) := by decide +kernel
theorem dX5_begins_28 : decode cX5_begins 28 = .ok (.iload_n 1, 1) := by decide +kernel
theorem dX5_begins_29 : decode cX5_begins 29 = .ok (.bipush 70, 2) := by decide +kernel
theorem dX5_begins_31 : decode cX5_begins 31 = .ok (.if_icmp .ne 18, 3) := by decide +kernel
theorem dX5_begins_34 : decode cX5_begins 34 = .ok (.aload_n 0, 1) := by decide +kernel
theorem dX5_begins_35 : decode cX5_begins 35 = .ok (.aload_n 0, 1) := by decide +kernel
theorem dX5_begins_36 : decode cX5_begins 36 = .ok (.iconst 1, 1) := by decide +kernel
theorem dX5_begins_37 : decode cX5_begins 37 = .ok (.bipush (-6), 2) := by decide +kernel
theorem dX5_begins_39 : decode cX5_begins 39 = .ok (.bipush (-6), 2) := by decide +kernel
theorem dX5_begins_41 : decode cX5_begins 41 = .ok (.invokevirtual 82, 3) := by decide +kernel
theorem dX5_begins_44 : decode cX5_begins 44 = .ok (.invokevirtual 89, 3) := by decide +kernel
theorem dX5_begins_47 : decode cX5_begins 47 = .ok (.iconst 1, 1) := by decide +kernel
theorem dX5_begins_48 : decode cX5_begins 48 = .ok (.ireturn, 1) := by decide +kernel
theorem dX5_begins_49 : decode cX5_begins 49 = .ok (.iload_n 1, 1) := by decide +kernel
theorem dX5_begins_50 : decode cX5_begins 50 = .ok (.bipush 45, 2) := by decide +kernel
theorem dX5_begins_52 : decode cX5_begins 52 = .ok (.if_icmp .eq 9, 3) := by decide +kernel
theorem dX5_begins_55 : decode cX5_begins 55 = .ok (.iload_n 1, 1) := by decide +kernel
theorem dX5_begins_56 : decode cX5_begins 56 = .ok (.bipush 40, 2) := by decide +kernel
theorem dX5_begins_58 : decode cX5_begins 58 = .ok (.if_icmp .ne 20, 3) := by decide +kernel
theorem dX5_begins_61 : decode cX5_begins 61 = .ok (.aload_n 0, 1) := by decide +kernel
theorem dX5_begins_62 : decode cX5_begins 62 = .ok (.iload_n 1, 1) := by decide +kernel
theorem dX5_begins_63 : decode cX5_begins 63 = .ok (.bipush 45, 2) := by decide +kernel
theorem dX5_begins_65 : decode cX5_begins 65 = .ok (.if_icmp .ne 7, 3) := by decide +kernel
theorem dX5_begins_68 : decode cX5_begins 68 = .ok (.iconst 1, 1) := by decide +kernel
theorem dX5_begins_69 : decode cX5_begins 69 = .ok (.goto 4, 3) := by decide +kernel
theorem dX5_begins_72 : decode cX5_begins 72 = .ok (.iconst 2, 1) := by decide +kernel
theorem dX5_begins_73 : decode cX5_begins 73 = .ok (.invokevirtual 93, 3) := by decide +kernel
theorem dX5_begins_76 : decode cX5_begins 76 = .ok (.iconst 1, 1) := by decide +kernel
theorem dX5_begins_77 : decode cX5_begins 77 = .ok (.ireturn, 1) := by decide +kernel
theorem dX5_begins_78 : decode cX5_begins 78 = .ok (.iconst 0, 1) := by decide +kernel
theorem dX5_begins_79 : decode cX5_begins 79 = .ok (.ireturn, 1) := by decide +kernel
theorem dX5_reads_0 : decode cX5_reads 0 = .ok (.aload_n 0, 1) := by decide +kernel
theorem dX5_reads_1 : decode cX5_reads 1 = .ok (.getfield 86, 3) := by decide +kernel
theorem dX5_reads_4 : decode cX5_reads 4 = .ok (.tableswitch 154 0 2 #[28, 34, 104], 28) := by decide +kernel
theorem dX5_reads_32 : decode cX5_reads 32 = .ok (.aload_n 0, 1) := by decide +kernel
theorem dX5_reads_33 : decode cX5_reads 33 = .ok (.iload_n 1, 1) := by decide +kernel
theorem dX5_reads_34 : decode cX5_reads 34 = .ok (.invokevirtual 96, 3) := by decide +kernel
theorem dX5_reads_37 : decode cX5_reads 37 = .ok (.ireturn, 1) := by decide +kernel
theorem dX5_reads_38 : decode cX5_reads 38 = .ok (.iload_n 1, 1) := by decide +kernel
theorem dX5_reads_39 : decode cX5_reads 39 = .ok (.bipush 38, 2) := by decide +kernel
theorem dX5_reads_41 : decode cX5_reads 41 = .ok (.if_icmp .ne 7, 3) := by decide +kernel
theorem dX5_reads_44 : decode cX5_reads 44 = .ok (.iconst 2, 1) := by decide +kernel
theorem dX5_reads_45 : decode cX5_reads 45 = .ok (.goto 25, 3) := by decide +kernel
theorem dX5_reads_48 : decode cX5_reads 48 = .ok (.iload_n 1, 1) := by decide +kernel
theorem dX5_reads_49 : decode cX5_reads 49 = .ok (.bipush 124, 2) := by decide +kernel
theorem dX5_reads_51 : decode cX5_reads 51 = .ok (.if_icmp .ne 7, 3) := by decide +kernel
theorem dX5_reads_54 : decode cX5_reads 54 = .ok (.iconst 3, 1) := by decide +kernel
theorem dX5_reads_55 : decode cX5_reads 55 = .ok (.goto 15, 3) := by decide +kernel
theorem dX5_reads_58 : decode cX5_reads 58 = .ok (.iload_n 1, 1) := by decide +kernel
theorem dX5_reads_59 : decode cX5_reads 59 = .ok (.bipush 62, 2) := by decide +kernel
theorem dX5_reads_61 : decode cX5_reads 61 = .ok (.if_icmp .ne 7, 3) := by decide +kernel
theorem dX5_reads_64 : decode cX5_reads 64 = .ok (.iconst 4, 1) := by decide +kernel
theorem dX5_reads_65 : decode cX5_reads 65 = .ok (.goto 5, 3) := by decide +kernel
theorem dX5_reads_68 : decode cX5_reads 68 = .ok (.bipush (-6), 2) := by decide +kernel
theorem dX5_reads_70 : decode cX5_reads 70 = .ok (.istore_n 2, 1) := by decide +kernel
theorem dX5_reads_71 : decode cX5_reads 71 = .ok (.iload_n 2, 1) := by decide +kernel
theorem dX5_reads_72 : decode cX5_reads 72 = .ok (.ifCond .ge 5, 3) := by decide +kernel
theorem dX5_reads_75 : decode cX5_reads 75 = .ok (.iconst 0, 1) := by decide +kernel
theorem dX5_reads_76 : decode cX5_reads 76 = .ok (.ireturn, 1) := by decide +kernel
theorem dX5_reads_77 : decode cX5_reads 77 = .ok (.aload_n 0, 1) := by decide +kernel
theorem dX5_reads_78 : decode cX5_reads 78 = .ok (.getfield 44, 3) := by decide +kernel
theorem dX5_reads_81 : decode cX5_reads 81 = .ok (.aload_n 0, 1) := by decide +kernel
theorem dX5_reads_82 : decode cX5_reads 82 = .ok (.getfield 79, 3) := by decide +kernel
theorem dX5_reads_85 : decode cX5_reads 85 = .ok (.iconst 1, 1) := by decide +kernel
theorem dX5_reads_86 : decode cX5_reads 86 = .ok (.isub, 1) := by decide +kernel
theorem dX5_reads_87 : decode cX5_reads 87 = .ok (.iload_n 2, 1) := by decide +kernel
theorem dX5_reads_88 : decode cX5_reads 88 = .ok (.iastore, 1) := by decide +kernel
theorem dX5_reads_89 : decode cX5_reads 89 = .ok (.aload_n 0, 1) := by decide +kernel
theorem dX5_reads_90 : decode cX5_reads 90 = .ok (.getfield 38, 3) := by decide +kernel
theorem dX5_reads_93 : decode cX5_reads 93 = .ok (.aload_n 0, 1) := by decide +kernel
theorem dX5_reads_94 : decode cX5_reads 94 = .ok (.getfield 79, 3) := by decide +kernel
theorem dX5_reads_97 : decode cX5_reads 97 = .ok (.iconst 1, 1) := by decide +kernel
theorem dX5_reads_98 : decode cX5_reads 98 = .ok (.isub, 1) := by decide +kernel
theorem dX5_reads_99 : decode cX5_reads 99 = .ok (.iconst 3, 1) := by decide +kernel
theorem dX5_reads_100 : decode cX5_reads 100 = .ok (.iastore, 1) := by decide +kernel
theorem dX5_reads_101 : decode cX5_reads 101 = .ok (.aload_n 0, 1) := by decide +kernel
theorem dX5_reads_102 : decode cX5_reads 102 = .ok (.iconst 0, 1) := by decide +kernel
theorem dX5_reads_103 : decode cX5_reads 103 = .ok (.putfield 86, 3) := by decide +kernel
theorem dX5_reads_106 : decode cX5_reads 106 = .ok (.iconst 1, 1) := by decide +kernel
theorem dX5_reads_107 : decode cX5_reads 107 = .ok (.ireturn, 1) := by decide +kernel
theorem dX5_reads_108 : decode cX5_reads 108 = .ok (.iload_n 1, 1) := by decide +kernel
theorem dX5_reads_109 : decode cX5_reads 109 = .ok (.bipush 41, 2) := by decide +kernel
theorem dX5_reads_111 : decode cX5_reads 111 = .ok (.if_icmp .eq 5, 3) := by decide +kernel
theorem dX5_reads_114 : decode cX5_reads 114 = .ok (.iconst 0, 1) := by decide +kernel
theorem dX5_reads_115 : decode cX5_reads 115 = .ok (.ireturn, 1) := by decide +kernel
theorem dX5_reads_116 : decode cX5_reads 116 = .ok (.aload_n 0, 1) := by decide +kernel
theorem dX5_reads_117 : decode cX5_reads 117 = .ok (.dup, 1) := by decide +kernel
theorem dX5_reads_118 : decode cX5_reads 118 = .ok (.getfield 79, 3) := by decide +kernel
theorem dX5_reads_121 : decode cX5_reads 121 = .ok (.iconst 1, 1) := by decide +kernel
theorem dX5_reads_122 : decode cX5_reads 122 = .ok (.isub, 1) := by decide +kernel
theorem dX5_reads_123 : decode cX5_reads 123 = .ok (.putfield 79, 3) := by decide +kernel
theorem dX5_reads_126 : decode cX5_reads 126 = .ok (.aload_n 0, 1) := by decide +kernel
theorem dX5_reads_127 : decode cX5_reads 127 = .ok (.aload_n 0, 1) := by decide +kernel
theorem dX5_reads_128 : decode cX5_reads 128 = .ok (.aload_n 0, 1) := by decide +kernel
theorem dX5_reads_129 : decode cX5_reads 129 = .ok (.getfield 44, 3) := by decide +kernel
theorem dX5_reads_132 : decode cX5_reads 132 = .ok (.aload_n 0, 1) := by decide +kernel
theorem dX5_reads_133 : decode cX5_reads 133 = .ok (.getfield 79, 3) := by decide +kernel
theorem dX5_reads_136 : decode cX5_reads 136 = .ok (.iaload, 1) := by decide +kernel
theorem dX5_reads_137 : decode cX5_reads 137 = .ok (.aload_n 0, 1) := by decide +kernel
theorem dX5_reads_138 : decode cX5_reads 138 = .ok (.getfield 41, 3) := by decide +kernel
theorem dX5_reads_141 : decode cX5_reads 141 = .ok (.aload_n 0, 1) := by decide +kernel
theorem dX5_reads_142 : decode cX5_reads 142 = .ok (.getfield 79, 3) := by decide +kernel
theorem dX5_reads_145 : decode cX5_reads 145 = .ok (.iaload, 1) := by decide +kernel
theorem dX5_reads_146 : decode cX5_reads 146 = .ok (.aload_n 0, 1) := by decide +kernel
theorem dX5_reads_147 : decode cX5_reads 147 = .ok (.getfield 76, 3) := by decide +kernel
theorem dX5_reads_150 : decode cX5_reads 150 = .ok (.invokevirtual 82, 3) := by decide +kernel
theorem dX5_reads_153 : decode cX5_reads 153 = .ok (.invokevirtual 89, 3) := by decide +kernel
theorem dX5_reads_156 : decode cX5_reads 156 = .ok (.iconst 1, 1) := by decide +kernel
theorem dX5_reads_157 : decode cX5_reads 157 = .ok (.ireturn, 1) := by decide +kernel
theorem dX5_reads_158 : decode cX5_reads 158 = .ok (.iconst 0, 1) := by decide +kernel
theorem dX5_reads_159 : decode cX5_reads 159 = .ok (.ireturn, 1) := by decide +kernel
theorem dX5_readText_0 : decode cX5_readText 0 = .ok (.aload_n 0, 1) := by decide +kernel
theorem dX5_readText_1 : decode cX5_readText 1 = .ok (.iconst 0, 1) := by decide +kernel
theorem dX5_readText_2 : decode cX5_readText 2 = .ok (.putfield 73, 3) := by decide +kernel
theorem dX5_readText_5 : decode cX5_readText 5 = .ok (.aload_n 0, 1) := by decide +kernel
theorem dX5_readText_6 : decode cX5_readText 6 = .ok (.iconst 0, 1) := by decide +kernel
theorem dX5_readText_7 : decode cX5_readText 7 = .ok (.putfield 79, 3) := by decide +kernel
theorem dX5_readText_10 : decode cX5_readText 10 = .ok (.aload_n 0, 1) := by decide +kernel
theorem dX5_readText_11 : decode cX5_readText 11 = .ok (.iconst 0, 1) := by decide +kernel
theorem dX5_readText_12 : decode cX5_readText 12 = .ok (.invokevirtual 93, 3) := by decide +kernel
theorem dX5_readText_15 : decode cX5_readText 15 = .ok (.aload_n 0, 1) := by decide +kernel
theorem dX5_readText_16 : decode cX5_readText 16 = .ok (.iconst 0, 1) := by decide +kernel
theorem dX5_readText_17 : decode cX5_readText 17 = .ok (.putfield 86, 3) := by decide +kernel
theorem dX5_readText_20 : decode cX5_readText 20 = .ok (.iconst 0, 1) := by decide +kernel
theorem dX5_readText_21 : decode cX5_readText 21 = .ok (.istore_n 1, 1) := by decide +kernel
theorem dX5_readText_22 : decode cX5_readText 22 = .ok (.iload_n 1, 1) := by decide +kernel
theorem dX5_readText_23 : decode cX5_readText 23 = .ok (.aload_n 0, 1) := by decide +kernel
theorem dX5_readText_24 : decode cX5_readText 24 = .ok (.getfield 100, 3) := by decide +kernel
theorem dX5_readText_27 : decode cX5_readText 27 = .ok (.if_icmp .ge 24, 3) := by decide +kernel
theorem dX5_readText_30 : decode cX5_readText 30 = .ok (.aload_n 0, 1) := by decide +kernel
theorem dX5_readText_31 : decode cX5_readText 31 = .ok (.aload_n 0, 1) := by decide +kernel
theorem dX5_readText_32 : decode cX5_readText 32 = .ok (.getfield 22, 3) := by decide +kernel
theorem dX5_readText_35 : decode cX5_readText 35 = .ok (.iload_n 1, 1) := by decide +kernel
theorem dX5_readText_36 : decode cX5_readText 36 = .ok (.iaload, 1) := by decide +kernel
theorem dX5_readText_37 : decode cX5_readText 37 = .ok (.invokevirtual 103, 3) := by decide +kernel
theorem dX5_readText_40 : decode cX5_readText 40 = .ok (.ifCond .ne 5, 3) := by decide +kernel
theorem dX5_readText_43 : decode cX5_readText 43 = .ok (.iload_n 1, 1) := by decide +kernel
theorem dX5_readText_44 : decode cX5_readText 44 = .ok (.ireturn, 1) := by decide +kernel
theorem dX5_readText_45 : decode cX5_readText 45 = .ok (.iinc 1 1, 3) := by decide +kernel
theorem dX5_readText_48 : decode cX5_readText 48 = .ok (.goto (-26), 3) := by decide +kernel
theorem dX5_readText_51 : decode cX5_readText 51 = .ok (.aload_n 0, 1) := by decide +kernel
theorem dX5_readText_52 : decode cX5_readText 52 = .ok (.getfield 86, 3) := by decide +kernel
theorem dX5_readText_55 : decode cX5_readText 55 = .ok (.iconst 3, 1) := by decide +kernel
theorem dX5_readText_56 : decode cX5_readText 56 = .ok (.if_icmp .ne 8, 3) := by decide +kernel
theorem dX5_readText_59 : decode cX5_readText 59 = .ok (.bipush (-6), 2) := by decide +kernel
theorem dX5_readText_61 : decode cX5_readText 61 = .ok (.goto 7, 3) := by decide +kernel
theorem dX5_readText_64 : decode cX5_readText 64 = .ok (.aload_n 0, 1) := by decide +kernel
theorem dX5_readText_65 : decode cX5_readText 65 = .ok (.getfield 100, 3) := by decide +kernel
theorem dX5_readText_68 : decode cX5_readText 68 = .ok (.ireturn, 1) := by decide +kernel
theorem dX5_say_0 : decode cX5_say 0 = .ok (.iload_n 1, 1) := by decide +kernel
theorem dX5_say_1 : decode cX5_say 1 = .ok (.bipush 33, 2) := by decide +kernel
theorem dX5_say_3 : decode cX5_say 3 = .ok (.bipush 126, 2) := by decide +kernel
theorem dX5_say_5 : decode cX5_say 5 = .ok (.invokestatic 69, 3) := by decide +kernel
theorem dX5_say_8 : decode cX5_say 8 = .ok (.ifCond .ne 6, 3) := by decide +kernel
theorem dX5_say_11 : decode cX5_say 11 = .ok (.bipush (-2), 2) := by decide +kernel
theorem dX5_say_13 : decode cX5_say 13 = .ok (.ireturn, 1) := by decide +kernel
theorem dX5_say_14 : decode cX5_say 14 = .ok (.aload_n 0, 1) := by decide +kernel
theorem dX5_say_15 : decode cX5_say 15 = .ok (.getfield 100, 3) := by decide +kernel
theorem dX5_say_18 : decode cX5_say 18 = .ok (.bipush 40, 2) := by decide +kernel
theorem dX5_say_20 : decode cX5_say 20 = .ok (.if_icmp .ne 6, 3) := by decide +kernel
theorem dX5_say_23 : decode cX5_say 23 = .ok (.bipush (-4), 2) := by decide +kernel
theorem dX5_say_25 : decode cX5_say 25 = .ok (.ireturn, 1) := by decide +kernel
theorem dX5_say_26 : decode cX5_say 26 = .ok (.aload_n 0, 1) := by decide +kernel
theorem dX5_say_27 : decode cX5_say 27 = .ok (.getfield 22, 3) := by decide +kernel
theorem dX5_say_30 : decode cX5_say 30 = .ok (.aload_n 0, 1) := by decide +kernel
theorem dX5_say_31 : decode cX5_say 31 = .ok (.getfield 100, 3) := by decide +kernel
theorem dX5_say_34 : decode cX5_say 34 = .ok (.iload_n 1, 1) := by decide +kernel
theorem dX5_say_35 : decode cX5_say 35 = .ok (.iastore, 1) := by decide +kernel
theorem dX5_say_36 : decode cX5_say 36 = .ok (.aload_n 0, 1) := by decide +kernel
theorem dX5_say_37 : decode cX5_say 37 = .ok (.dup, 1) := by decide +kernel
theorem dX5_say_38 : decode cX5_say 38 = .ok (.getfield 100, 3) := by decide +kernel
theorem dX5_say_41 : decode cX5_say 41 = .ok (.iconst 1, 1) := by decide +kernel
theorem dX5_say_42 : decode cX5_say 42 = .ok (.iadd, 1) := by decide +kernel
theorem dX5_say_43 : decode cX5_say 43 = .ok (.putfield 100, 3) := by decide +kernel
theorem dX5_say_46 : decode cX5_say 46 = .ok (.aload_n 0, 1) := by decide +kernel
theorem dX5_say_47 : decode cX5_say 47 = .ok (.getfield 100, 3) := by decide +kernel
theorem dX5_say_50 : decode cX5_say 50 = .ok (.ireturn, 1) := by decide +kernel
theorem dX5_wipe_0 : decode cX5_wipe 0 = .ok (.aload_n 0, 1) := by decide +kernel
theorem dX5_wipe_1 : decode cX5_wipe 1 = .ok (.getfield 100, 3) := by decide +kernel
theorem dX5_wipe_4 : decode cX5_wipe 4 = .ok (.istore_n 1, 1) := by decide +kernel
theorem dX5_wipe_5 : decode cX5_wipe 5 = .ok (.aload_n 0, 1) := by decide +kernel
theorem dX5_wipe_6 : decode cX5_wipe 6 = .ok (.iconst 0, 1) := by decide +kernel
theorem dX5_wipe_7 : decode cX5_wipe 7 = .ok (.putfield 100, 3) := by decide +kernel
theorem dX5_wipe_10 : decode cX5_wipe 10 = .ok (.iload_n 1, 1) := by decide +kernel
theorem dX5_wipe_11 : decode cX5_wipe 11 = .ok (.ireturn, 1) := by decide +kernel
theorem dX5_read_0 : decode cX5_read 0 = .ok (.iload_n 1, 1) := by decide +kernel
theorem dX5_read_1 : decode cX5_read 1 = .ok (.invokestatic 106, 3) := by decide +kernel
theorem dX5_read_4 : decode cX5_read 4 = .ok (.ifCond .ne 5, 3) := by decide +kernel
theorem dX5_read_7 : decode cX5_read 7 = .ok (.iconst (-1), 1) := by decide +kernel
theorem dX5_read_8 : decode cX5_read 8 = .ok (.ireturn, 1) := by decide +kernel
theorem dX5_read_9 : decode cX5_read 9 = .ok (.aload_n 0, 1) := by decide +kernel
theorem dX5_read_10 : decode cX5_read 10 = .ok (.invokevirtual 109, 3) := by decide +kernel
theorem dX5_read_13 : decode cX5_read 13 = .ok (.istore_n 2, 1) := by decide +kernel
theorem dX5_read_14 : decode cX5_read 14 = .ok (.iload_n 2, 1) := by decide +kernel
theorem dX5_read_15 : decode cX5_read 15 = .ok (.ifCond .lt 11, 3) := by decide +kernel
theorem dX5_read_18 : decode cX5_read 18 = .ok (.aload_n 0, 1) := by decide +kernel
theorem dX5_read_19 : decode cX5_read 19 = .ok (.iload_n 2, 1) := by decide +kernel
theorem dX5_read_20 : decode cX5_read 20 = .ok (.putfield 25, 3) := by decide +kernel
theorem dX5_read_23 : decode cX5_read 23 = .ok (.bipush (-7), 2) := by decide +kernel
theorem dX5_read_25 : decode cX5_read 25 = .ok (.ireturn, 1) := by decide +kernel
theorem dX5_read_26 : decode cX5_read 26 = .ok (.aload_n 0, 1) := by decide +kernel
theorem dX5_read_27 : decode cX5_read 27 = .ok (.getfield 73, 3) := by decide +kernel
theorem dX5_read_30 : decode cX5_read 30 = .ok (.bipush 11, 2) := by decide +kernel
theorem dX5_read_32 : decode cX5_read 32 = .ok (.if_icmp .le 6, 3) := by decide +kernel
theorem dX5_read_35 : decode cX5_read 35 = .ok (.bipush (-4), 2) := by decide +kernel
theorem dX5_read_37 : decode cX5_read 37 = .ok (.ireturn, 1) := by decide +kernel
theorem dX5_read_38 : decode cX5_read 38 = .ok (.aload_n 0, 1) := by decide +kernel
theorem dX5_read_39 : decode cX5_read 39 = .ok (.iconst 0, 1) := by decide +kernel
theorem dX5_read_40 : decode cX5_read 40 = .ok (.putfield 100, 3) := by decide +kernel
theorem dX5_read_43 : decode cX5_read 43 = .ok (.aload_n 0, 1) := by decide +kernel
theorem dX5_read_44 : decode cX5_read 44 = .ok (.iload_n 1, 1) := by decide +kernel
theorem dX5_read_45 : decode cX5_read 45 = .ok (.invokevirtual 113, 3) := by decide +kernel
theorem dX5_read_48 : decode cX5_read 48 = .ok (.ireturn, 1) := by decide +kernel
theorem dX5_fault_0 : decode cX5_fault 0 = .ok (.aload_n 0, 1) := by decide +kernel
theorem dX5_fault_1 : decode cX5_fault 1 = .ok (.getfield 25, 3) := by decide +kernel
theorem dX5_fault_4 : decode cX5_fault 4 = .ok (.ireturn, 1) := by decide +kernel
theorem dX5_put_0 : decode cX5_put 0 = .ok (.aload_n 0, 1) := by decide +kernel
theorem dX5_put_1 : decode cX5_put 1 = .ok (.iload_n 1, 1) := by decide +kernel
theorem dX5_put_2 : decode cX5_put 2 = .ok (.invokevirtual 117, 3) := by decide +kernel
theorem dX5_put_5 : decode cX5_put 5 = .ok (.aload_n 0, 1) := by decide +kernel
theorem dX5_put_6 : decode cX5_put 6 = .ok (.getfield 73, 3) := by decide +kernel
theorem dX5_put_9 : decode cX5_put 9 = .ok (.iconst 1, 1) := by decide +kernel
theorem dX5_put_10 : decode cX5_put 10 = .ok (.isub, 1) := by decide +kernel
theorem dX5_put_11 : decode cX5_put 11 = .ok (.istore 4, 2) := by decide +kernel
theorem dX5_put_13 : decode cX5_put 13 = .ok (.iconst 0, 1) := by decide +kernel
theorem dX5_put_14 : decode cX5_put 14 = .ok (.istore 5, 2) := by decide +kernel
theorem dX5_put_16 : decode cX5_put 16 = .ok (.iload 5, 2) := by decide +kernel
theorem dX5_put_18 : decode cX5_put 18 = .ok (.aload_n 0, 1) := by decide +kernel
theorem dX5_put_19 : decode cX5_put 19 = .ok (.getfield 7, 3) := by decide +kernel
theorem dX5_put_22 : decode cX5_put 22 = .ok (.iload_n 2, 1) := by decide +kernel
theorem dX5_put_23 : decode cX5_put 23 = .ok (.iaload, 1) := by decide +kernel
theorem dX5_put_24 : decode cX5_put 24 = .ok (.if_icmp .ge 108, 3) := by decide +kernel
theorem dX5_put_27 : decode cX5_put 27 = .ok (.bipush 11, 2) := by decide +kernel
theorem dX5_put_29 : decode cX5_put 29 = .ok (.iload_n 2, 1) := by decide +kernel
theorem dX5_put_30 : decode cX5_put 30 = .ok (.imul, 1) := by decide +kernel
theorem dX5_put_31 : decode cX5_put 31 = .ok (.iload 5, 2) := by decide +kernel
theorem dX5_put_33 : decode cX5_put 33 = .ok (.iadd, 1) := by decide +kernel
theorem dX5_put_34 : decode cX5_put 34 = .ok (.istore 6, 2) := by decide +kernel
theorem dX5_put_36 : decode cX5_put 36 = .ok (.aload_n 0, 1) := by decide +kernel
theorem dX5_put_37 : decode cX5_put 37 = .ok (.getfield 13, 3) := by decide +kernel
theorem dX5_put_40 : decode cX5_put 40 = .ok (.iload 6, 2) := by decide +kernel
theorem dX5_put_42 : decode cX5_put 42 = .ok (.iaload, 1) := by decide +kernel
theorem dX5_put_43 : decode cX5_put 43 = .ok (.iconst 1, 1) := by decide +kernel
theorem dX5_put_44 : decode cX5_put 44 = .ok (.if_icmp .le 7, 3) := by decide +kernel
theorem dX5_put_47 : decode cX5_put 47 = .ok (.iconst 1, 1) := by decide +kernel
theorem dX5_put_48 : decode cX5_put 48 = .ok (.goto 4, 3) := by decide +kernel
theorem dX5_put_51 : decode cX5_put 51 = .ok (.iconst 0, 1) := by decide +kernel
theorem dX5_put_52 : decode cX5_put 52 = .ok (.istore 7, 2) := by decide +kernel
theorem dX5_put_54 : decode cX5_put 54 = .ok (.aload_n 0, 1) := by decide +kernel
theorem dX5_put_55 : decode cX5_put 55 = .ok (.getfield 47, 3) := by decide +kernel
theorem dX5_put_58 : decode cX5_put 58 = .ok (.iload 5, 2) := by decide +kernel
theorem dX5_put_60 : decode cX5_put 60 = .ok (.aload_n 0, 1) := by decide +kernel
theorem dX5_put_61 : decode cX5_put 61 = .ok (.aload_n 0, 1) := by decide +kernel
theorem dX5_put_62 : decode cX5_put 62 = .ok (.getfield 13, 3) := by decide +kernel
theorem dX5_put_65 : decode cX5_put 65 = .ok (.iload 6, 2) := by decide +kernel
theorem dX5_put_67 : decode cX5_put 67 = .ok (.iaload, 1) := by decide +kernel
theorem dX5_put_68 : decode cX5_put 68 = .ok (.iload 7, 2) := by decide +kernel
theorem dX5_put_70 : decode cX5_put 70 = .ok (.ifCond .eq 18, 3) := by decide +kernel
theorem dX5_put_73 : decode cX5_put 73 = .ok (.aload_n 0, 1) := by decide +kernel
theorem dX5_put_74 : decode cX5_put 74 = .ok (.getfield 47, 3) := by decide +kernel
theorem dX5_put_77 : decode cX5_put 77 = .ok (.aload_n 0, 1) := by decide +kernel
theorem dX5_put_78 : decode cX5_put 78 = .ok (.getfield 16, 3) := by decide +kernel
theorem dX5_put_81 : decode cX5_put 81 = .ok (.iload 6, 2) := by decide +kernel
theorem dX5_put_83 : decode cX5_put 83 = .ok (.iaload, 1) := by decide +kernel
theorem dX5_put_84 : decode cX5_put 84 = .ok (.iaload, 1) := by decide +kernel
theorem dX5_put_85 : decode cX5_put 85 = .ok (.goto 10, 3) := by decide +kernel
theorem dX5_put_88 : decode cX5_put 88 = .ok (.aload_n 0, 1) := by decide +kernel
theorem dX5_put_89 : decode cX5_put 89 = .ok (.getfield 16, 3) := by decide +kernel
theorem dX5_put_92 : decode cX5_put 92 = .ok (.iload 6, 2) := by decide +kernel
theorem dX5_put_94 : decode cX5_put 94 = .ok (.iaload, 1) := by decide +kernel
theorem dX5_put_95 : decode cX5_put 95 = .ok (.iload 7, 2) := by decide +kernel
theorem dX5_put_97 : decode cX5_put 97 = .ok (.ifCond .eq 18, 3) := by decide +kernel
theorem dX5_put_100 : decode cX5_put 100 = .ok (.aload_n 0, 1) := by decide +kernel
theorem dX5_put_101 : decode cX5_put 101 = .ok (.getfield 47, 3) := by decide +kernel
theorem dX5_put_104 : decode cX5_put 104 = .ok (.aload_n 0, 1) := by decide +kernel
theorem dX5_put_105 : decode cX5_put 105 = .ok (.getfield 19, 3) := by decide +kernel
theorem dX5_put_108 : decode cX5_put 108 = .ok (.iload 6, 2) := by decide +kernel
theorem dX5_put_110 : decode cX5_put 110 = .ok (.iaload, 1) := by decide +kernel
theorem dX5_put_111 : decode cX5_put 111 = .ok (.iaload, 1) := by decide +kernel
theorem dX5_put_112 : decode cX5_put 112 = .ok (.goto 10, 3) := by decide +kernel
theorem dX5_put_115 : decode cX5_put 115 = .ok (.aload_n 0, 1) := by decide +kernel
theorem dX5_put_116 : decode cX5_put 116 = .ok (.getfield 19, 3) := by decide +kernel
theorem dX5_put_119 : decode cX5_put 119 = .ok (.iload 6, 2) := by decide +kernel
theorem dX5_put_121 : decode cX5_put 121 = .ok (.iaload, 1) := by decide +kernel
theorem dX5_put_122 : decode cX5_put 122 = .ok (.invokevirtual 82, 3) := by decide +kernel
theorem dX5_put_125 : decode cX5_put 125 = .ok (.iastore, 1) := by decide +kernel
theorem dX5_put_126 : decode cX5_put 126 = .ok (.iinc 5 1, 3) := by decide +kernel
theorem dX5_put_129 : decode cX5_put 129 = .ok (.goto (-113), 3) := by decide +kernel
theorem dX5_put_132 : decode cX5_put 132 = .ok (.aload_n 0, 1) := by decide +kernel
theorem dX5_put_133 : decode cX5_put 133 = .ok (.iload_n 3, 1) := by decide +kernel
theorem dX5_put_134 : decode cX5_put 134 = .ok (.iload 4, 2) := by decide +kernel
theorem dX5_put_136 : decode cX5_put 136 = .ok (.aload_n 0, 1) := by decide +kernel
theorem dX5_put_137 : decode cX5_put 137 = .ok (.getfield 47, 3) := by decide +kernel
theorem dX5_put_140 : decode cX5_put 140 = .ok (.aload_n 0, 1) := by decide +kernel
theorem dX5_put_141 : decode cX5_put 141 = .ok (.getfield 7, 3) := by decide +kernel
theorem dX5_put_144 : decode cX5_put 144 = .ok (.iload_n 2, 1) := by decide +kernel
theorem dX5_put_145 : decode cX5_put 145 = .ok (.iaload, 1) := by decide +kernel
theorem dX5_put_146 : decode cX5_put 146 = .ok (.iconst 1, 1) := by decide +kernel
theorem dX5_put_147 : decode cX5_put 147 = .ok (.isub, 1) := by decide +kernel
theorem dX5_put_148 : decode cX5_put 148 = .ok (.iaload, 1) := by decide +kernel
theorem dX5_put_149 : decode cX5_put 149 = .ok (.invokevirtual 82, 3) := by decide +kernel
theorem dX5_put_152 : decode cX5_put 152 = .ok (.pop, 1) := by decide +kernel
theorem dX5_put_153 : decode cX5_put 153 = .ok (.return_, 1) := by decide +kernel
theorem dX5_isEmpty_0 : decode cX5_isEmpty 0 = .ok (.aload_n 0, 1) := by decide +kernel
theorem dX5_isEmpty_1 : decode cX5_isEmpty 1 = .ok (.getfield 7, 3) := by decide +kernel
theorem dX5_isEmpty_4 : decode cX5_isEmpty 4 = .ok (.iload_n 1, 1) := by decide +kernel
theorem dX5_isEmpty_5 : decode cX5_isEmpty 5 = .ok (.iaload, 1) := by decide +kernel
theorem dX5_isEmpty_6 : decode cX5_isEmpty 6 = .ok (.ifCond .ne 7, 3) := by decide +kernel
theorem dX5_isEmpty_9 : decode cX5_isEmpty 9 = .ok (.iconst 1, 1) := by decide +kernel
theorem dX5_isEmpty_10 : decode cX5_isEmpty 10 = .ok (.goto 4, 3) := by decide +kernel
theorem dX5_isEmpty_13 : decode cX5_isEmpty 13 = .ok (.iconst 0, 1) := by decide +kernel
theorem dX5_isEmpty_14 : decode cX5_isEmpty 14 = .ok (.ireturn, 1) := by decide +kernel
theorem dX5_make_0 : decode cX5_make 0 = .ok (.iload_n 1, 1) := by decide +kernel
theorem dX5_make_1 : decode cX5_make 1 = .ok (.invokestatic 106, 3) := by decide +kernel
theorem dX5_make_4 : decode cX5_make 4 = .ok (.ifCond .eq 17, 3) := by decide +kernel
theorem dX5_make_7 : decode cX5_make 7 = .ok (.iload_n 2, 1) := by decide +kernel
theorem dX5_make_8 : decode cX5_make 8 = .ok (.invokestatic 106, 3) := by decide +kernel
theorem dX5_make_11 : decode cX5_make 11 = .ok (.ifCond .eq 10, 3) := by decide +kernel
theorem dX5_make_14 : decode cX5_make 14 = .ok (.iload_n 3, 1) := by decide +kernel
theorem dX5_make_15 : decode cX5_make 15 = .ok (.invokestatic 106, 3) := by decide +kernel
theorem dX5_make_18 : decode cX5_make 18 = .ok (.ifCond .ne 5, 3) := by decide +kernel
theorem dX5_make_21 : decode cX5_make 21 = .ok (.iconst (-1), 1) := by decide +kernel
theorem dX5_make_22 : decode cX5_make 22 = .ok (.ireturn, 1) := by decide +kernel
theorem dX5_make_23 : decode cX5_make 23 = .ok (.iload 4, 2) := by decide +kernel
theorem dX5_make_25 : decode cX5_make 25 = .ok (.iconst 0, 1) := by decide +kernel
theorem dX5_make_26 : decode cX5_make 26 = .ok (.iconst 2, 1) := by decide +kernel
theorem dX5_make_27 : decode cX5_make 27 = .ok (.invokestatic 69, 3) := by decide +kernel
theorem dX5_make_30 : decode cX5_make 30 = .ok (.ifCond .ne 6, 3) := by decide +kernel
theorem dX5_make_33 : decode cX5_make 33 = .ok (.bipush (-2), 2) := by decide +kernel
theorem dX5_make_35 : decode cX5_make 35 = .ok (.ireturn, 1) := by decide +kernel
theorem dX5_make_36 : decode cX5_make 36 = .ok (.aload_n 0, 1) := by decide +kernel
theorem dX5_make_37 : decode cX5_make 37 = .ok (.iload_n 2, 1) := by decide +kernel
theorem dX5_make_38 : decode cX5_make 38 = .ok (.invokevirtual 120, 3) := by decide +kernel
theorem dX5_make_41 : decode cX5_make 41 = .ok (.ifCond .ne 11, 3) := by decide +kernel
theorem dX5_make_44 : decode cX5_make 44 = .ok (.aload_n 0, 1) := by decide +kernel
theorem dX5_make_45 : decode cX5_make 45 = .ok (.iload_n 3, 1) := by decide +kernel
theorem dX5_make_46 : decode cX5_make 46 = .ok (.invokevirtual 120, 3) := by decide +kernel
theorem dX5_make_49 : decode cX5_make 49 = .ok (.ifCond .eq 6, 3) := by decide +kernel
theorem dX5_make_52 : decode cX5_make 52 = .ok (.bipush (-3), 2) := by decide +kernel
theorem dX5_make_54 : decode cX5_make 54 = .ok (.ireturn, 1) := by decide +kernel
end
section
theorem dX5_make_55 : decode cX5_make 55 = .ok (.aload_n 0, 1) := by decide +kernel
theorem dX5_make_56 : decode cX5_make 56 = .ok (.iload_n 2, 1) := by decide +kernel
theorem dX5_make_57 : decode cX5_make 57 = .ok (.iload_n 3, 1) := by decide +kernel
theorem dX5_make_58 : decode cX5_make 58 = .ok (.iconst 2, 1) := by decide +kernel
theorem dX5_make_59 : decode cX5_make 59 = .ok (.iload 4, 2) := by decide +kernel
theorem dX5_make_61 : decode cX5_make 61 = .ok (.iadd, 1) := by decide +kernel
theorem dX5_make_62 : decode cX5_make 62 = .ok (.invokevirtual 123, 3) := by decide +kernel
theorem dX5_make_65 : decode cX5_make 65 = .ok (.aload_n 0, 1) := by decide +kernel
theorem dX5_make_66 : decode cX5_make 66 = .ok (.getfield 73, 3) := by decide +kernel
theorem dX5_make_69 : decode cX5_make 69 = .ok (.bipush 11, 2) := by decide +kernel
theorem dX5_make_71 : decode cX5_make 71 = .ok (.if_icmp .le 8, 3) := by decide +kernel
theorem dX5_make_74 : decode cX5_make 74 = .ok (.bipush (-4), 2) := by decide +kernel
theorem dX5_make_76 : decode cX5_make 76 = .ok (.goto 8, 3) := by decide +kernel
theorem dX5_make_79 : decode cX5_make 79 = .ok (.aload_n 0, 1) := by decide +kernel
theorem dX5_make_80 : decode cX5_make 80 = .ok (.iload_n 1, 1) := by decide +kernel
theorem dX5_make_81 : decode cX5_make 81 = .ok (.invokevirtual 113, 3) := by decide +kernel
theorem dX5_make_84 : decode cX5_make 84 = .ok (.ireturn, 1) := by decide +kernel
theorem dX5_cut_0 : decode cX5_cut 0 = .ok (.aload_n 0, 1) := by decide +kernel
theorem dX5_cut_1 : decode cX5_cut 1 = .ok (.iconst 0, 1) := by decide +kernel
theorem dX5_cut_2 : decode cX5_cut 2 = .ok (.putfield 73, 3) := by decide +kernel
theorem dX5_cut_5 : decode cX5_cut 5 = .ok (.iconst 0, 1) := by decide +kernel
theorem dX5_cut_6 : decode cX5_cut 6 = .ok (.istore_n 3, 1) := by decide +kernel
theorem dX5_cut_7 : decode cX5_cut 7 = .ok (.iload_n 3, 1) := by decide +kernel
theorem dX5_cut_8 : decode cX5_cut 8 = .ok (.bipush 11, 2) := by decide +kernel
theorem dX5_cut_10 : decode cX5_cut 10 = .ok (.if_icmp .ge 17, 3) := by decide +kernel
theorem dX5_cut_13 : decode cX5_cut 13 = .ok (.aload_n 0, 1) := by decide +kernel
theorem dX5_cut_14 : decode cX5_cut 14 = .ok (.getfield 47, 3) := by decide +kernel
theorem dX5_cut_17 : decode cX5_cut 17 = .ok (.iload_n 3, 1) := by decide +kernel
theorem dX5_cut_18 : decode cX5_cut 18 = .ok (.bipush (-6), 2) := by decide +kernel
theorem dX5_cut_20 : decode cX5_cut 20 = .ok (.iastore, 1) := by decide +kernel
theorem dX5_cut_21 : decode cX5_cut 21 = .ok (.iinc 3 1, 3) := by decide +kernel
theorem dX5_cut_24 : decode cX5_cut 24 = .ok (.goto (-17), 3) := by decide +kernel
theorem dX5_cut_27 : decode cX5_cut 27 = .ok (.iconst 1, 1) := by decide +kernel
theorem dX5_cut_28 : decode cX5_cut 28 = .ok (.istore_n 3, 1) := by decide +kernel
theorem dX5_cut_29 : decode cX5_cut 29 = .ok (.aload_n 0, 1) := by decide +kernel
theorem dX5_cut_30 : decode cX5_cut 30 = .ok (.getfield 50, 3) := by decide +kernel
theorem dX5_cut_33 : decode cX5_cut 33 = .ok (.iconst 0, 1) := by decide +kernel
theorem dX5_cut_34 : decode cX5_cut 34 = .ok (.iload_n 2, 1) := by decide +kernel
theorem dX5_cut_35 : decode cX5_cut 35 = .ok (.iastore, 1) := by decide +kernel
theorem dX5_cut_36 : decode cX5_cut 36 = .ok (.iload_n 3, 1) := by decide +kernel
theorem dX5_cut_37 : decode cX5_cut 37 = .ok (.ifCond .le 196, 3) := by decide +kernel
theorem dX5_cut_40 : decode cX5_cut 40 = .ok (.aload_n 0, 1) := by decide +kernel
theorem dX5_cut_41 : decode cX5_cut 41 = .ok (.getfield 50, 3) := by decide +kernel
theorem dX5_cut_44 : decode cX5_cut 44 = .ok (.iload_n 3, 1) := by decide +kernel
theorem dX5_cut_45 : decode cX5_cut 45 = .ok (.iconst 1, 1) := by decide +kernel
theorem dX5_cut_46 : decode cX5_cut 46 = .ok (.isub, 1) := by decide +kernel
theorem dX5_cut_47 : decode cX5_cut 47 = .ok (.iaload, 1) := by decide +kernel
theorem dX5_cut_48 : decode cX5_cut 48 = .ok (.istore 4, 2) := by decide +kernel
theorem dX5_cut_50 : decode cX5_cut 50 = .ok (.bipush 11, 2) := by decide +kernel
theorem dX5_cut_52 : decode cX5_cut 52 = .ok (.iload_n 1, 1) := by decide +kernel
theorem dX5_cut_53 : decode cX5_cut 53 = .ok (.imul, 1) := by decide +kernel
theorem dX5_cut_54 : decode cX5_cut 54 = .ok (.iload 4, 2) := by decide +kernel
theorem dX5_cut_56 : decode cX5_cut 56 = .ok (.iadd, 1) := by decide +kernel
theorem dX5_cut_57 : decode cX5_cut 57 = .ok (.istore 5, 2) := by decide +kernel
theorem dX5_cut_59 : decode cX5_cut 59 = .ok (.aload_n 0, 1) := by decide +kernel
theorem dX5_cut_60 : decode cX5_cut 60 = .ok (.getfield 13, 3) := by decide +kernel
theorem dX5_cut_63 : decode cX5_cut 63 = .ok (.iload 5, 2) := by decide +kernel
theorem dX5_cut_65 : decode cX5_cut 65 = .ok (.iaload, 1) := by decide +kernel
theorem dX5_cut_66 : decode cX5_cut 66 = .ok (.iconst 1, 1) := by decide +kernel
theorem dX5_cut_67 : decode cX5_cut 67 = .ok (.if_icmp .le 7, 3) := by decide +kernel
theorem dX5_cut_70 : decode cX5_cut 70 = .ok (.iconst 1, 1) := by decide +kernel
theorem dX5_cut_71 : decode cX5_cut 71 = .ok (.goto 4, 3) := by decide +kernel
theorem dX5_cut_74 : decode cX5_cut 74 = .ok (.iconst 0, 1) := by decide +kernel
theorem dX5_cut_75 : decode cX5_cut 75 = .ok (.istore 6, 2) := by decide +kernel
theorem dX5_cut_77 : decode cX5_cut 77 = .ok (.iload 6, 2) := by decide +kernel
theorem dX5_cut_79 : decode cX5_cut 79 = .ok (.ifCond .eq 37, 3) := by decide +kernel
theorem dX5_cut_82 : decode cX5_cut 82 = .ok (.aload_n 0, 1) := by decide +kernel
theorem dX5_cut_83 : decode cX5_cut 83 = .ok (.getfield 47, 3) := by decide +kernel
theorem dX5_cut_86 : decode cX5_cut 86 = .ok (.aload_n 0, 1) := by decide +kernel
theorem dX5_cut_87 : decode cX5_cut 87 = .ok (.getfield 16, 3) := by decide +kernel
theorem dX5_cut_90 : decode cX5_cut 90 = .ok (.iload 5, 2) := by decide +kernel
theorem dX5_cut_92 : decode cX5_cut 92 = .ok (.iaload, 1) := by decide +kernel
theorem dX5_cut_93 : decode cX5_cut 93 = .ok (.iaload, 1) := by decide +kernel
theorem dX5_cut_94 : decode cX5_cut 94 = .ok (.ifCond .ge 22, 3) := by decide +kernel
theorem dX5_cut_97 : decode cX5_cut 97 = .ok (.aload_n 0, 1) := by decide +kernel
theorem dX5_cut_98 : decode cX5_cut 98 = .ok (.getfield 50, 3) := by decide +kernel
theorem dX5_cut_101 : decode cX5_cut 101 = .ok (.iload_n 3, 1) := by decide +kernel
theorem dX5_cut_102 : decode cX5_cut 102 = .ok (.aload_n 0, 1) := by decide +kernel
theorem dX5_cut_103 : decode cX5_cut 103 = .ok (.getfield 16, 3) := by decide +kernel
theorem dX5_cut_106 : decode cX5_cut 106 = .ok (.iload 5, 2) := by decide +kernel
theorem dX5_cut_108 : decode cX5_cut 108 = .ok (.iaload, 1) := by decide +kernel
theorem dX5_cut_109 : decode cX5_cut 109 = .ok (.iastore, 1) := by decide +kernel
theorem dX5_cut_110 : decode cX5_cut 110 = .ok (.iinc 3 1, 3) := by decide +kernel
theorem dX5_cut_113 : decode cX5_cut 113 = .ok (.goto 117, 3) := by decide +kernel
theorem dX5_cut_116 : decode cX5_cut 116 = .ok (.iload 6, 2) := by decide +kernel
theorem dX5_cut_118 : decode cX5_cut 118 = .ok (.ifCond .eq 37, 3) := by decide +kernel
theorem dX5_cut_121 : decode cX5_cut 121 = .ok (.aload_n 0, 1) := by decide +kernel
theorem dX5_cut_122 : decode cX5_cut 122 = .ok (.getfield 47, 3) := by decide +kernel
theorem dX5_cut_125 : decode cX5_cut 125 = .ok (.aload_n 0, 1) := by decide +kernel
theorem dX5_cut_126 : decode cX5_cut 126 = .ok (.getfield 19, 3) := by decide +kernel
theorem dX5_cut_129 : decode cX5_cut 129 = .ok (.iload 5, 2) := by decide +kernel
theorem dX5_cut_131 : decode cX5_cut 131 = .ok (.iaload, 1) := by decide +kernel
theorem dX5_cut_132 : decode cX5_cut 132 = .ok (.iaload, 1) := by decide +kernel
theorem dX5_cut_133 : decode cX5_cut 133 = .ok (.ifCond .ge 22, 3) := by decide +kernel
theorem dX5_cut_136 : decode cX5_cut 136 = .ok (.aload_n 0, 1) := by decide +kernel
theorem dX5_cut_137 : decode cX5_cut 137 = .ok (.getfield 50, 3) := by decide +kernel
theorem dX5_cut_140 : decode cX5_cut 140 = .ok (.iload_n 3, 1) := by decide +kernel
theorem dX5_cut_141 : decode cX5_cut 141 = .ok (.aload_n 0, 1) := by decide +kernel
theorem dX5_cut_142 : decode cX5_cut 142 = .ok (.getfield 19, 3) := by decide +kernel
theorem dX5_cut_145 : decode cX5_cut 145 = .ok (.iload 5, 2) := by decide +kernel
theorem dX5_cut_147 : decode cX5_cut 147 = .ok (.iaload, 1) := by decide +kernel
theorem dX5_cut_148 : decode cX5_cut 148 = .ok (.iastore, 1) := by decide +kernel
theorem dX5_cut_149 : decode cX5_cut 149 = .ok (.iinc 3 1, 3) := by decide +kernel
theorem dX5_cut_152 : decode cX5_cut 152 = .ok (.goto 78, 3) := by decide +kernel
theorem dX5_cut_155 : decode cX5_cut 155 = .ok (.aload_n 0, 1) := by decide +kernel
theorem dX5_cut_156 : decode cX5_cut 156 = .ok (.getfield 47, 3) := by decide +kernel
theorem dX5_cut_159 : decode cX5_cut 159 = .ok (.iload 4, 2) := by decide +kernel
theorem dX5_cut_161 : decode cX5_cut 161 = .ok (.aload_n 0, 1) := by decide +kernel
theorem dX5_cut_162 : decode cX5_cut 162 = .ok (.aload_n 0, 1) := by decide +kernel
theorem dX5_cut_163 : decode cX5_cut 163 = .ok (.getfield 13, 3) := by decide +kernel
theorem dX5_cut_166 : decode cX5_cut 166 = .ok (.iload 5, 2) := by decide +kernel
theorem dX5_cut_168 : decode cX5_cut 168 = .ok (.iaload, 1) := by decide +kernel
theorem dX5_cut_169 : decode cX5_cut 169 = .ok (.iload 6, 2) := by decide +kernel
theorem dX5_cut_171 : decode cX5_cut 171 = .ok (.ifCond .eq 18, 3) := by decide +kernel
theorem dX5_cut_174 : decode cX5_cut 174 = .ok (.aload_n 0, 1) := by decide +kernel
theorem dX5_cut_175 : decode cX5_cut 175 = .ok (.getfield 47, 3) := by decide +kernel
theorem dX5_cut_178 : decode cX5_cut 178 = .ok (.aload_n 0, 1) := by decide +kernel
theorem dX5_cut_179 : decode cX5_cut 179 = .ok (.getfield 16, 3) := by decide +kernel
theorem dX5_cut_182 : decode cX5_cut 182 = .ok (.iload 5, 2) := by decide +kernel
theorem dX5_cut_184 : decode cX5_cut 184 = .ok (.iaload, 1) := by decide +kernel
theorem dX5_cut_185 : decode cX5_cut 185 = .ok (.iaload, 1) := by decide +kernel
theorem dX5_cut_186 : decode cX5_cut 186 = .ok (.goto 10, 3) := by decide +kernel
theorem dX5_cut_189 : decode cX5_cut 189 = .ok (.aload_n 0, 1) := by decide +kernel
theorem dX5_cut_190 : decode cX5_cut 190 = .ok (.getfield 16, 3) := by decide +kernel
theorem dX5_cut_193 : decode cX5_cut 193 = .ok (.iload 5, 2) := by decide +kernel
theorem dX5_cut_195 : decode cX5_cut 195 = .ok (.iaload, 1) := by decide +kernel
theorem dX5_cut_196 : decode cX5_cut 196 = .ok (.iload 6, 2) := by decide +kernel
theorem dX5_cut_198 : decode cX5_cut 198 = .ok (.ifCond .eq 18, 3) := by decide +kernel
theorem dX5_cut_201 : decode cX5_cut 201 = .ok (.aload_n 0, 1) := by decide +kernel
theorem dX5_cut_202 : decode cX5_cut 202 = .ok (.getfield 47, 3) := by decide +kernel
theorem dX5_cut_205 : decode cX5_cut 205 = .ok (.aload_n 0, 1) := by decide +kernel
theorem dX5_cut_206 : decode cX5_cut 206 = .ok (.getfield 19, 3) := by decide +kernel
theorem dX5_cut_209 : decode cX5_cut 209 = .ok (.iload 5, 2) := by decide +kernel
theorem dX5_cut_211 : decode cX5_cut 211 = .ok (.iaload, 1) := by decide +kernel
theorem dX5_cut_212 : decode cX5_cut 212 = .ok (.iaload, 1) := by decide +kernel
theorem dX5_cut_213 : decode cX5_cut 213 = .ok (.goto 10, 3) := by decide +kernel
theorem dX5_cut_216 : decode cX5_cut 216 = .ok (.aload_n 0, 1) := by decide +kernel
theorem dX5_cut_217 : decode cX5_cut 217 = .ok (.getfield 19, 3) := by decide +kernel
theorem dX5_cut_220 : decode cX5_cut 220 = .ok (.iload 5, 2) := by decide +kernel
theorem dX5_cut_222 : decode cX5_cut 222 = .ok (.iaload, 1) := by decide +kernel
theorem dX5_cut_223 : decode cX5_cut 223 = .ok (.invokevirtual 82, 3) := by decide +kernel
theorem dX5_cut_226 : decode cX5_cut 226 = .ok (.iastore, 1) := by decide +kernel
theorem dX5_cut_227 : decode cX5_cut 227 = .ok (.iinc 3 (-1), 3) := by decide +kernel
theorem dX5_cut_230 : decode cX5_cut 230 = .ok (.goto (-194), 3) := by decide +kernel
theorem dX5_cut_233 : decode cX5_cut 233 = .ok (.return_, 1) := by decide +kernel
theorem dX5_part_0 : decode cX5_part 0 = .ok (.iload_n 1, 1) := by decide +kernel
theorem dX5_part_1 : decode cX5_part 1 = .ok (.invokestatic 106, 3) := by decide +kernel
theorem dX5_part_4 : decode cX5_part 4 = .ok (.ifCond .eq 10, 3) := by decide +kernel
theorem dX5_part_7 : decode cX5_part 7 = .ok (.iload_n 2, 1) := by decide +kernel
theorem dX5_part_8 : decode cX5_part 8 = .ok (.invokestatic 106, 3) := by decide +kernel
theorem dX5_part_11 : decode cX5_part 11 = .ok (.ifCond .ne 5, 3) := by decide +kernel
theorem dX5_part_14 : decode cX5_part 14 = .ok (.iconst (-1), 1) := by decide +kernel
theorem dX5_part_15 : decode cX5_part 15 = .ok (.ireturn, 1) := by decide +kernel
theorem dX5_part_16 : decode cX5_part 16 = .ok (.aload_n 0, 1) := by decide +kernel
theorem dX5_part_17 : decode cX5_part 17 = .ok (.iload_n 2, 1) := by decide +kernel
theorem dX5_part_18 : decode cX5_part 18 = .ok (.invokevirtual 120, 3) := by decide +kernel
theorem dX5_part_21 : decode cX5_part 21 = .ok (.ifCond .eq 6, 3) := by decide +kernel
theorem dX5_part_24 : decode cX5_part 24 = .ok (.bipush (-3), 2) := by decide +kernel
theorem dX5_part_26 : decode cX5_part 26 = .ok (.ireturn, 1) := by decide +kernel
theorem dX5_part_27 : decode cX5_part 27 = .ok (.iload_n 3, 1) := by decide +kernel
theorem dX5_part_28 : decode cX5_part 28 = .ok (.iconst 0, 1) := by decide +kernel
theorem dX5_part_29 : decode cX5_part 29 = .ok (.aload_n 0, 1) := by decide +kernel
theorem dX5_part_30 : decode cX5_part 30 = .ok (.getfield 7, 3) := by decide +kernel
theorem dX5_part_33 : decode cX5_part 33 = .ok (.iload_n 2, 1) := by decide +kernel
theorem dX5_part_34 : decode cX5_part 34 = .ok (.iaload, 1) := by decide +kernel
theorem dX5_part_35 : decode cX5_part 35 = .ok (.iconst 1, 1) := by decide +kernel
theorem dX5_part_36 : decode cX5_part 36 = .ok (.isub, 1) := by decide +kernel
theorem dX5_part_37 : decode cX5_part 37 = .ok (.invokestatic 69, 3) := by decide +kernel
theorem dX5_part_40 : decode cX5_part 40 = .ok (.ifCond .ne 6, 3) := by decide +kernel
theorem dX5_part_43 : decode cX5_part 43 = .ok (.bipush (-2), 2) := by decide +kernel
theorem dX5_part_45 : decode cX5_part 45 = .ok (.ireturn, 1) := by decide +kernel
theorem dX5_part_46 : decode cX5_part 46 = .ok (.aload_n 0, 1) := by decide +kernel
theorem dX5_part_47 : decode cX5_part 47 = .ok (.iload_n 2, 1) := by decide +kernel
theorem dX5_part_48 : decode cX5_part 48 = .ok (.iload_n 3, 1) := by decide +kernel
theorem dX5_part_49 : decode cX5_part 49 = .ok (.invokevirtual 127, 3) := by decide +kernel
theorem dX5_part_52 : decode cX5_part 52 = .ok (.aload_n 0, 1) := by decide +kernel
theorem dX5_part_53 : decode cX5_part 53 = .ok (.iload_n 1, 1) := by decide +kernel
theorem dX5_part_54 : decode cX5_part 54 = .ok (.invokevirtual 113, 3) := by decide +kernel
theorem dX5_part_57 : decode cX5_part 57 = .ok (.ireturn, 1) := by decide +kernel
theorem dX5_signAt_0 : decode cX5_signAt 0 = .ok (.aload_n 0, 1) := by decide +kernel
theorem dX5_signAt_1 : decode cX5_signAt 1 = .ok (.getfield 73, 3) := by decide +kernel
theorem dX5_signAt_4 : decode cX5_signAt 4 = .ok (.iconst 1, 1) := by decide +kernel
theorem dX5_signAt_5 : decode cX5_signAt 5 = .ok (.isub, 1) := by decide +kernel
theorem dX5_signAt_6 : decode cX5_signAt 6 = .ok (.istore_n 2, 1) := by decide +kernel
theorem dX5_signAt_7 : decode cX5_signAt 7 = .ok (.iload_n 1, 1) := by decide +kernel
theorem dX5_signAt_8 : decode cX5_signAt 8 = .ok (.istore_n 3, 1) := by decide +kernel
theorem dX5_signAt_9 : decode cX5_signAt 9 = .ok (.aload_n 0, 1) := by decide +kernel
theorem dX5_signAt_10 : decode cX5_signAt 10 = .ok (.getfield 29, 3) := by decide +kernel
theorem dX5_signAt_13 : decode cX5_signAt 13 = .ok (.iload_n 2, 1) := by decide +kernel
theorem dX5_signAt_14 : decode cX5_signAt 14 = .ok (.iaload, 1) := by decide +kernel
theorem dX5_signAt_15 : decode cX5_signAt 15 = .ok (.iconst 1, 1) := by decide +kernel
theorem dX5_signAt_16 : decode cX5_signAt 16 = .ok (.if_icmp .le 134, 3) := by decide +kernel
theorem dX5_signAt_19 : decode cX5_signAt 19 = .ok (.aload_n 0, 1) := by decide +kernel
theorem dX5_signAt_20 : decode cX5_signAt 20 = .ok (.getfield 53, 3) := by decide +kernel
theorem dX5_signAt_23 : decode cX5_signAt 23 = .ok (.aload_n 0, 1) := by decide +kernel
theorem dX5_signAt_24 : decode cX5_signAt 24 = .ok (.getfield 32, 3) := by decide +kernel
theorem dX5_signAt_27 : decode cX5_signAt 27 = .ok (.iload_n 2, 1) := by decide +kernel
theorem dX5_signAt_28 : decode cX5_signAt 28 = .ok (.iaload, 1) := by decide +kernel
theorem dX5_signAt_29 : decode cX5_signAt 29 = .ok (.iaload, 1) := by decide +kernel
theorem dX5_signAt_30 : decode cX5_signAt 30 = .ok (.istore 4, 2) := by decide +kernel
theorem dX5_signAt_32 : decode cX5_signAt 32 = .ok (.iload_n 3, 1) := by decide +kernel
theorem dX5_signAt_33 : decode cX5_signAt 33 = .ok (.ifCond .ne 6, 3) := by decide +kernel
theorem dX5_signAt_36 : decode cX5_signAt 36 = .ok (.bipush 40, 2) := by decide +kernel
theorem dX5_signAt_38 : decode cX5_signAt 38 = .ok (.ireturn, 1) := by decide +kernel
theorem dX5_signAt_39 : decode cX5_signAt 39 = .ok (.iload_n 3, 1) := by decide +kernel
theorem dX5_signAt_40 : decode cX5_signAt 40 = .ok (.iload 4, 2) := by decide +kernel
theorem dX5_signAt_42 : decode cX5_signAt 42 = .ok (.iconst 1, 1) := by decide +kernel
theorem dX5_signAt_43 : decode cX5_signAt 43 = .ok (.iadd, 1) := by decide +kernel
theorem dX5_signAt_44 : decode cX5_signAt 44 = .ok (.if_icmp .ne 36, 3) := by decide +kernel
theorem dX5_signAt_47 : decode cX5_signAt 47 = .ok (.aload_n 0, 1) := by decide +kernel
theorem dX5_signAt_48 : decode cX5_signAt 48 = .ok (.getfield 29, 3) := by decide +kernel
theorem dX5_signAt_51 : decode cX5_signAt 51 = .ok (.iload_n 2, 1) := by decide +kernel
theorem dX5_signAt_52 : decode cX5_signAt 52 = .ok (.iaload, 1) := by decide +kernel
theorem dX5_signAt_53 : decode cX5_signAt 53 = .ok (.iconst 2, 1) := by decide +kernel
theorem dX5_signAt_54 : decode cX5_signAt 54 = .ok (.if_icmp .ne 8, 3) := by decide +kernel
theorem dX5_signAt_57 : decode cX5_signAt 57 = .ok (.bipush 38, 2) := by decide +kernel
theorem dX5_signAt_59 : decode cX5_signAt 59 = .ok (.goto 20, 3) := by decide +kernel
theorem dX5_signAt_62 : decode cX5_signAt 62 = .ok (.aload_n 0, 1) := by decide +kernel
theorem dX5_signAt_63 : decode cX5_signAt 63 = .ok (.getfield 29, 3) := by decide +kernel
theorem dX5_signAt_66 : decode cX5_signAt 66 = .ok (.iload_n 2, 1) := by decide +kernel
theorem dX5_signAt_67 : decode cX5_signAt 67 = .ok (.iaload, 1) := by decide +kernel
theorem dX5_signAt_68 : decode cX5_signAt 68 = .ok (.iconst 3, 1) := by decide +kernel
theorem dX5_signAt_69 : decode cX5_signAt 69 = .ok (.if_icmp .ne 8, 3) := by decide +kernel
theorem dX5_signAt_72 : decode cX5_signAt 72 = .ok (.bipush 124, 2) := by decide +kernel
theorem dX5_signAt_74 : decode cX5_signAt 74 = .ok (.goto 5, 3) := by decide +kernel
theorem dX5_signAt_77 : decode cX5_signAt 77 = .ok (.bipush 62, 2) := by decide +kernel
theorem dX5_signAt_79 : decode cX5_signAt 79 = .ok (.ireturn, 1) := by decide +kernel
theorem dX5_signAt_80 : decode cX5_signAt 80 = .ok (.iload_n 3, 1) := by decide +kernel
theorem dX5_signAt_81 : decode cX5_signAt 81 = .ok (.aload_n 0, 1) := by decide +kernel
theorem dX5_signAt_82 : decode cX5_signAt 82 = .ok (.getfield 53, 3) := by decide +kernel
theorem dX5_signAt_85 : decode cX5_signAt 85 = .ok (.iload_n 2, 1) := by decide +kernel
theorem dX5_signAt_86 : decode cX5_signAt 86 = .ok (.iaload, 1) := by decide +kernel
theorem dX5_signAt_87 : decode cX5_signAt 87 = .ok (.iconst 1, 1) := by decide +kernel
theorem dX5_signAt_88 : decode cX5_signAt 88 = .ok (.isub, 1) := by decide +kernel
theorem dX5_signAt_89 : decode cX5_signAt 89 = .ok (.if_icmp .ne 6, 3) := by decide +kernel
theorem dX5_signAt_92 : decode cX5_signAt 92 = .ok (.bipush 41, 2) := by decide +kernel
theorem dX5_signAt_94 : decode cX5_signAt 94 = .ok (.ireturn, 1) := by decide +kernel
theorem dX5_signAt_95 : decode cX5_signAt 95 = .ok (.iload_n 3, 1) := by decide +kernel
theorem dX5_signAt_96 : decode cX5_signAt 96 = .ok (.iload 4, 2) := by decide +kernel
theorem dX5_signAt_98 : decode cX5_signAt 98 = .ok (.if_icmp .gt 7, 3) := by decide +kernel
theorem dX5_signAt_101 : decode cX5_signAt 101 = .ok (.iconst 1, 1) := by decide +kernel
theorem dX5_signAt_102 : decode cX5_signAt 102 = .ok (.goto 4, 3) := by decide +kernel
theorem dX5_signAt_105 : decode cX5_signAt 105 = .ok (.iconst 0, 1) := by decide +kernel
theorem dX5_signAt_106 : decode cX5_signAt 106 = .ok (.istore 5, 2) := by decide +kernel
theorem dX5_signAt_108 : decode cX5_signAt 108 = .ok (.iload 5, 2) := by decide +kernel
theorem dX5_signAt_110 : decode cX5_signAt 110 = .ok (.ifCond .eq 9, 3) := by decide +kernel
theorem dX5_signAt_113 : decode cX5_signAt 113 = .ok (.iload_n 3, 1) := by decide +kernel
theorem dX5_signAt_114 : decode cX5_signAt 114 = .ok (.iconst 1, 1) := by decide +kernel
theorem dX5_signAt_115 : decode cX5_signAt 115 = .ok (.isub, 1) := by decide +kernel
theorem dX5_signAt_116 : decode cX5_signAt 116 = .ok (.goto 9, 3) := by decide +kernel
theorem dX5_signAt_119 : decode cX5_signAt 119 = .ok (.iload_n 3, 1) := by decide +kernel
theorem dX5_signAt_120 : decode cX5_signAt 120 = .ok (.iload 4, 2) := by decide +kernel
theorem dX5_signAt_122 : decode cX5_signAt 122 = .ok (.isub, 1) := by decide +kernel
theorem dX5_signAt_123 : decode cX5_signAt 123 = .ok (.iconst 2, 1) := by decide +kernel
theorem dX5_signAt_124 : decode cX5_signAt 124 = .ok (.isub, 1) := by decide +kernel
theorem dX5_signAt_125 : decode cX5_signAt 125 = .ok (.istore_n 3, 1) := by decide +kernel
theorem dX5_signAt_126 : decode cX5_signAt 126 = .ok (.iload 5, 2) := by decide +kernel
theorem dX5_signAt_128 : decode cX5_signAt 128 = .ok (.ifCond .eq 12, 3) := by decide +kernel
theorem dX5_signAt_131 : decode cX5_signAt 131 = .ok (.aload_n 0, 1) := by decide +kernel
theorem dX5_signAt_132 : decode cX5_signAt 132 = .ok (.getfield 32, 3) := by decide +kernel
theorem dX5_signAt_135 : decode cX5_signAt 135 = .ok (.iload_n 2, 1) := by decide +kernel
theorem dX5_signAt_136 : decode cX5_signAt 136 = .ok (.iaload, 1) := by decide +kernel
theorem dX5_signAt_137 : decode cX5_signAt 137 = .ok (.goto 9, 3) := by decide +kernel
theorem dX5_signAt_140 : decode cX5_signAt 140 = .ok (.aload_n 0, 1) := by decide +kernel
theorem dX5_signAt_141 : decode cX5_signAt 141 = .ok (.getfield 35, 3) := by decide +kernel
theorem dX5_signAt_144 : decode cX5_signAt 144 = .ok (.iload_n 2, 1) := by decide +kernel
theorem dX5_signAt_145 : decode cX5_signAt 145 = .ok (.iaload, 1) := by decide +kernel
theorem dX5_signAt_146 : decode cX5_signAt 146 = .ok (.istore_n 2, 1) := by decide +kernel
theorem dX5_signAt_147 : decode cX5_signAt 147 = .ok (.goto (-138), 3) := by decide +kernel
theorem dX5_signAt_150 : decode cX5_signAt 150 = .ok (.aload_n 0, 1) := by decide +kernel
theorem dX5_signAt_151 : decode cX5_signAt 151 = .ok (.getfield 29, 3) := by decide +kernel
theorem dX5_signAt_154 : decode cX5_signAt 154 = .ok (.iload_n 2, 1) := by decide +kernel
theorem dX5_signAt_155 : decode cX5_signAt 155 = .ok (.iaload, 1) := by decide +kernel
theorem dX5_signAt_156 : decode cX5_signAt 156 = .ok (.iconst 1, 1) := by decide +kernel
theorem dX5_signAt_157 : decode cX5_signAt 157 = .ok (.if_icmp .ne 8, 3) := by decide +kernel
theorem dX5_signAt_160 : decode cX5_signAt 160 = .ok (.bipush 70, 2) := by decide +kernel
theorem dX5_signAt_162 : decode cX5_signAt 162 = .ok (.goto 12, 3) := by decide +kernel
theorem dX5_signAt_165 : decode cX5_signAt 165 = .ok (.bipush 112, 2) := by decide +kernel
theorem dX5_signAt_167 : decode cX5_signAt 167 = .ok (.aload_n 0, 1) := by decide +kernel
theorem dX5_signAt_168 : decode cX5_signAt 168 = .ok (.getfield 32, 3) := by decide +kernel
theorem dX5_signAt_171 : decode cX5_signAt 171 = .ok (.iload_n 2, 1) := by decide +kernel
theorem dX5_signAt_172 : decode cX5_signAt 172 = .ok (.iaload, 1) := by decide +kernel
theorem dX5_signAt_173 : decode cX5_signAt 173 = .ok (.iadd, 1) := by decide +kernel
theorem dX5_signAt_174 : decode cX5_signAt 174 = .ok (.ireturn, 1) := by decide +kernel
theorem dX5_sign_0 : decode cX5_sign 0 = .ok (.iload_n 1, 1) := by decide +kernel
theorem dX5_sign_1 : decode cX5_sign 1 = .ok (.invokestatic 106, 3) := by decide +kernel
theorem dX5_sign_4 : decode cX5_sign 4 = .ok (.ifCond .ne 5, 3) := by decide +kernel
theorem dX5_sign_7 : decode cX5_sign 7 = .ok (.iconst (-1), 1) := by decide +kernel
theorem dX5_sign_8 : decode cX5_sign 8 = .ok (.ireturn, 1) := by decide +kernel
theorem dX5_sign_9 : decode cX5_sign 9 = .ok (.iload_n 2, 1) := by decide +kernel
theorem dX5_sign_10 : decode cX5_sign 10 = .ok (.iconst (-1), 1) := by decide +kernel
theorem dX5_sign_11 : decode cX5_sign 11 = .ok (.if_icmp .ge 6, 3) := by decide +kernel
theorem dX5_sign_14 : decode cX5_sign 14 = .ok (.bipush (-2), 2) := by decide +kernel
theorem dX5_sign_16 : decode cX5_sign 16 = .ok (.ireturn, 1) := by decide +kernel
theorem dX5_sign_17 : decode cX5_sign 17 = .ok (.aload_n 0, 1) := by decide +kernel
theorem dX5_sign_18 : decode cX5_sign 18 = .ok (.iload_n 1, 1) := by decide +kernel
theorem dX5_sign_19 : decode cX5_sign 19 = .ok (.invokevirtual 120, 3) := by decide +kernel
theorem dX5_sign_22 : decode cX5_sign 22 = .ok (.ifCond .eq 6, 3) := by decide +kernel
theorem dX5_sign_25 : decode cX5_sign 25 = .ok (.bipush (-3), 2) := by decide +kernel
theorem dX5_sign_27 : decode cX5_sign 27 = .ok (.ireturn, 1) := by decide +kernel
theorem dX5_sign_28 : decode cX5_sign 28 = .ok (.aload_n 0, 1) := by decide +kernel
theorem dX5_sign_29 : decode cX5_sign 29 = .ok (.iload_n 1, 1) := by decide +kernel
theorem dX5_sign_30 : decode cX5_sign 30 = .ok (.invokevirtual 117, 3) := by decide +kernel
theorem dX5_sign_33 : decode cX5_sign 33 = .ok (.iconst 0, 1) := by decide +kernel
theorem dX5_sign_34 : decode cX5_sign 34 = .ok (.istore_n 3, 1) := by decide +kernel
theorem dX5_sign_35 : decode cX5_sign 35 = .ok (.iload_n 3, 1) := by decide +kernel
theorem dX5_sign_36 : decode cX5_sign 36 = .ok (.aload_n 0, 1) := by decide +kernel
theorem dX5_sign_37 : decode cX5_sign 37 = .ok (.getfield 73, 3) := by decide +kernel
theorem dX5_sign_40 : decode cX5_sign 40 = .ok (.if_icmp .ge 54, 3) := by decide +kernel
theorem dX5_sign_43 : decode cX5_sign 43 = .ok (.aload_n 0, 1) := by decide +kernel
theorem dX5_sign_44 : decode cX5_sign 44 = .ok (.getfield 53, 3) := by decide +kernel
theorem dX5_sign_47 : decode cX5_sign 47 = .ok (.iload_n 3, 1) := by decide +kernel
theorem dX5_sign_48 : decode cX5_sign 48 = .ok (.aload_n 0, 1) := by decide +kernel
theorem dX5_sign_49 : decode cX5_sign 49 = .ok (.getfield 29, 3) := by decide +kernel
theorem dX5_sign_52 : decode cX5_sign 52 = .ok (.iload_n 3, 1) := by decide +kernel
theorem dX5_sign_53 : decode cX5_sign 53 = .ok (.iaload, 1) := by decide +kernel
theorem dX5_sign_54 : decode cX5_sign 54 = .ok (.iconst 1, 1) := by decide +kernel
theorem dX5_sign_55 : decode cX5_sign 55 = .ok (.if_icmp .le 31, 3) := by decide +kernel
theorem dX5_sign_58 : decode cX5_sign 58 = .ok (.iconst 3, 1) := by decide +kernel
theorem dX5_sign_59 : decode cX5_sign 59 = .ok (.aload_n 0, 1) := by decide +kernel
theorem dX5_sign_60 : decode cX5_sign 60 = .ok (.getfield 53, 3) := by decide +kernel
theorem dX5_sign_63 : decode cX5_sign 63 = .ok (.aload_n 0, 1) := by decide +kernel
theorem dX5_sign_64 : decode cX5_sign 64 = .ok (.getfield 32, 3) := by decide +kernel
theorem dX5_sign_67 : decode cX5_sign 67 = .ok (.iload_n 3, 1) := by decide +kernel
theorem dX5_sign_68 : decode cX5_sign 68 = .ok (.iaload, 1) := by decide +kernel
theorem dX5_sign_69 : decode cX5_sign 69 = .ok (.iaload, 1) := by decide +kernel
theorem dX5_sign_70 : decode cX5_sign 70 = .ok (.iadd, 1) := by decide +kernel
theorem dX5_sign_71 : decode cX5_sign 71 = .ok (.aload_n 0, 1) := by decide +kernel
theorem dX5_sign_72 : decode cX5_sign 72 = .ok (.getfield 53, 3) := by decide +kernel
theorem dX5_sign_75 : decode cX5_sign 75 = .ok (.aload_n 0, 1) := by decide +kernel
theorem dX5_sign_76 : decode cX5_sign 76 = .ok (.getfield 35, 3) := by decide +kernel
theorem dX5_sign_79 : decode cX5_sign 79 = .ok (.iload_n 3, 1) := by decide +kernel
theorem dX5_sign_80 : decode cX5_sign 80 = .ok (.iaload, 1) := by decide +kernel
theorem dX5_sign_81 : decode cX5_sign 81 = .ok (.iaload, 1) := by decide +kernel
theorem dX5_sign_82 : decode cX5_sign 82 = .ok (.iadd, 1) := by decide +kernel
theorem dX5_sign_83 : decode cX5_sign 83 = .ok (.goto 4, 3) := by decide +kernel
theorem dX5_sign_86 : decode cX5_sign 86 = .ok (.iconst 1, 1) := by decide +kernel
theorem dX5_sign_87 : decode cX5_sign 87 = .ok (.iastore, 1) := by decide +kernel
theorem dX5_sign_88 : decode cX5_sign 88 = .ok (.iinc 3 1, 3) := by decide +kernel
theorem dX5_sign_91 : decode cX5_sign 91 = .ok (.goto (-56), 3) := by decide +kernel
theorem dX5_sign_94 : decode cX5_sign 94 = .ok (.iload_n 2, 1) := by decide +kernel
theorem dX5_sign_95 : decode cX5_sign 95 = .ok (.iconst (-1), 1) := by decide +kernel
theorem dX5_sign_96 : decode cX5_sign 96 = .ok (.if_icmp .ne 17, 3) := by decide +kernel
theorem dX5_sign_99 : decode cX5_sign 99 = .ok (.aload_n 0, 1) := by decide +kernel
theorem dX5_sign_100 : decode cX5_sign 100 = .ok (.getfield 53, 3) := by decide +kernel
theorem dX5_sign_103 : decode cX5_sign 103 = .ok (.aload_n 0, 1) := by decide +kernel
theorem dX5_sign_104 : decode cX5_sign 104 = .ok (.getfield 73, 3) := by decide +kernel
theorem dX5_sign_107 : decode cX5_sign 107 = .ok (.iconst 1, 1) := by decide +kernel
theorem dX5_sign_108 : decode cX5_sign 108 = .ok (.isub, 1) := by decide +kernel
theorem dX5_sign_109 : decode cX5_sign 109 = .ok (.iaload, 1) := by decide +kernel
theorem dX5_sign_110 : decode cX5_sign 110 = .ok (.goto 28, 3) := by decide +kernel
theorem dX5_sign_113 : decode cX5_sign 113 = .ok (.iload_n 2, 1) := by decide +kernel
theorem dX5_sign_114 : decode cX5_sign 114 = .ok (.aload_n 0, 1) := by decide +kernel
theorem dX5_sign_115 : decode cX5_sign 115 = .ok (.getfield 53, 3) := by decide +kernel
theorem dX5_sign_118 : decode cX5_sign 118 = .ok (.aload_n 0, 1) := by decide +kernel
theorem dX5_sign_119 : decode cX5_sign 119 = .ok (.getfield 73, 3) := by decide +kernel
theorem dX5_sign_122 : decode cX5_sign 122 = .ok (.iconst 1, 1) := by decide +kernel
theorem dX5_sign_123 : decode cX5_sign 123 = .ok (.isub, 1) := by decide +kernel
theorem dX5_sign_124 : decode cX5_sign 124 = .ok (.iaload, 1) := by decide +kernel
theorem dX5_sign_125 : decode cX5_sign 125 = .ok (.if_icmp .ge 11, 3) := by decide +kernel
theorem dX5_sign_128 : decode cX5_sign 128 = .ok (.aload_n 0, 1) := by decide +kernel
theorem dX5_sign_129 : decode cX5_sign 129 = .ok (.iload_n 2, 1) := by decide +kernel
theorem dX5_sign_130 : decode cX5_sign 130 = .ok (.invokevirtual 131, 3) := by decide +kernel
theorem dX5_sign_133 : decode cX5_sign 133 = .ok (.goto 5, 3) := by decide +kernel
theorem dX5_sign_136 : decode cX5_sign 136 = .ok (.bipush (-6), 2) := by decide +kernel
theorem dX5_sign_138 : decode cX5_sign 138 = .ok (.ireturn, 1) := by decide +kernel
theorem dX5_told_0 : decode cX5_told 0 = .ok (.iload_n 1, 1) := by decide +kernel
theorem dX5_told_1 : decode cX5_told 1 = .ok (.invokestatic 106, 3) := by decide +kernel
theorem dX5_told_4 : decode cX5_told 4 = .ok (.ifCond .ne 5, 3) := by decide +kernel
theorem dX5_told_7 : decode cX5_told 7 = .ok (.iconst (-1), 1) := by decide +kernel
theorem dX5_told_8 : decode cX5_told 8 = .ok (.ireturn, 1) := by decide +kernel
theorem dX5_told_9 : decode cX5_told 9 = .ok (.aload_n 0, 1) := by decide +kernel
theorem dX5_told_10 : decode cX5_told 10 = .ok (.iload_n 1, 1) := by decide +kernel
theorem dX5_told_11 : decode cX5_told 11 = .ok (.invokevirtual 120, 3) := by decide +kernel
theorem dX5_told_14 : decode cX5_told 14 = .ok (.ifCond .eq 6, 3) := by decide +kernel
theorem dX5_told_17 : decode cX5_told 17 = .ok (.bipush (-3), 2) := by decide +kernel
theorem dX5_told_19 : decode cX5_told 19 = .ok (.ireturn, 1) := by decide +kernel
theorem dX5_told_20 : decode cX5_told 20 = .ok (.iload_n 2, 1) := by decide +kernel
theorem dX5_told_21 : decode cX5_told 21 = .ok (.iconst 0, 1) := by decide +kernel
theorem dX5_told_22 : decode cX5_told 22 = .ok (.aload_n 0, 1) := by decide +kernel
theorem dX5_told_23 : decode cX5_told 23 = .ok (.getfield 7, 3) := by decide +kernel
theorem dX5_told_26 : decode cX5_told 26 = .ok (.iload_n 1, 1) := by decide +kernel
theorem dX5_told_27 : decode cX5_told 27 = .ok (.iaload, 1) := by decide +kernel
theorem dX5_told_28 : decode cX5_told 28 = .ok (.iconst 1, 1) := by decide +kernel
theorem dX5_told_29 : decode cX5_told 29 = .ok (.isub, 1) := by decide +kernel
theorem dX5_told_30 : decode cX5_told 30 = .ok (.invokestatic 69, 3) := by decide +kernel
theorem dX5_told_33 : decode cX5_told 33 = .ok (.ifCond .eq 12, 3) := by decide +kernel
theorem dX5_told_36 : decode cX5_told 36 = .ok (.iload_n 3, 1) := by decide +kernel
theorem dX5_told_37 : decode cX5_told 37 = .ok (.iconst 0, 1) := by decide +kernel
theorem dX5_told_38 : decode cX5_told 38 = .ok (.iconst 2, 1) := by decide +kernel
theorem dX5_told_39 : decode cX5_told 39 = .ok (.invokestatic 69, 3) := by decide +kernel
theorem dX5_told_42 : decode cX5_told 42 = .ok (.ifCond .ne 6, 3) := by decide +kernel
theorem dX5_told_45 : decode cX5_told 45 = .ok (.bipush (-2), 2) := by decide +kernel
theorem dX5_told_47 : decode cX5_told 47 = .ok (.ireturn, 1) := by decide +kernel
theorem dX5_told_48 : decode cX5_told 48 = .ok (.bipush 11, 2) := by decide +kernel
theorem dX5_told_50 : decode cX5_told 50 = .ok (.iload_n 1, 1) := by decide +kernel
theorem dX5_told_51 : decode cX5_told 51 = .ok (.imul, 1) := by decide +kernel
theorem dX5_told_52 : decode cX5_told 52 = .ok (.iload_n 2, 1) := by decide +kernel
theorem dX5_told_53 : decode cX5_told 53 = .ok (.iadd, 1) := by decide +kernel
theorem dX5_told_54 : decode cX5_told 54 = .ok (.istore 4, 2) := by decide +kernel
theorem dX5_told_56 : decode cX5_told 56 = .ok (.iload_n 3, 1) := by decide +kernel
theorem dX5_told_57 : decode cX5_told 57 = .ok (.ifCond .ne 13, 3) := by decide +kernel
theorem dX5_told_60 : decode cX5_told 60 = .ok (.aload_n 0, 1) := by decide +kernel
theorem dX5_told_61 : decode cX5_told 61 = .ok (.getfield 13, 3) := by decide +kernel
theorem dX5_told_64 : decode cX5_told 64 = .ok (.iload 4, 2) := by decide +kernel
theorem dX5_told_66 : decode cX5_told 66 = .ok (.iaload, 1) := by decide +kernel
theorem dX5_told_67 : decode cX5_told 67 = .ok (.goto 25, 3) := by decide +kernel
theorem dX5_told_70 : decode cX5_told 70 = .ok (.iload_n 3, 1) := by decide +kernel
theorem dX5_told_71 : decode cX5_told 71 = .ok (.iconst 1, 1) := by decide +kernel
theorem dX5_told_72 : decode cX5_told 72 = .ok (.if_icmp .ne 13, 3) := by decide +kernel
theorem dX5_told_75 : decode cX5_told 75 = .ok (.aload_n 0, 1) := by decide +kernel
theorem dX5_told_76 : decode cX5_told 76 = .ok (.getfield 16, 3) := by decide +kernel
theorem dX5_told_79 : decode cX5_told 79 = .ok (.iload 4, 2) := by decide +kernel
theorem dX5_told_81 : decode cX5_told 81 = .ok (.iaload, 1) := by decide +kernel
theorem dX5_told_82 : decode cX5_told 82 = .ok (.goto 10, 3) := by decide +kernel
theorem dX5_told_85 : decode cX5_told 85 = .ok (.aload_n 0, 1) := by decide +kernel
theorem dX5_told_86 : decode cX5_told 86 = .ok (.getfield 19, 3) := by decide +kernel
theorem dX5_told_89 : decode cX5_told 89 = .ok (.iload 4, 2) := by decide +kernel
theorem dX5_told_91 : decode cX5_told 91 = .ok (.iaload, 1) := by decide +kernel
theorem dX5_told_92 : decode cX5_told 92 = .ok (.ireturn, 1) := by decide +kernel
theorem dX5_drop_0 : decode cX5_drop 0 = .ok (.iload_n 1, 1) := by decide +kernel
theorem dX5_drop_1 : decode cX5_drop 1 = .ok (.invokestatic 106, 3) := by decide +kernel
theorem dX5_drop_4 : decode cX5_drop 4 = .ok (.ifCond .ne 5, 3) := by decide +kernel
theorem dX5_drop_7 : decode cX5_drop 7 = .ok (.iconst (-1), 1) := by decide +kernel
theorem dX5_drop_8 : decode cX5_drop 8 = .ok (.ireturn, 1) := by decide +kernel
theorem dX5_drop_9 : decode cX5_drop 9 = .ok (.aload_n 0, 1) := by decide +kernel
theorem dX5_drop_10 : decode cX5_drop 10 = .ok (.iload_n 1, 1) := by decide +kernel
theorem dX5_drop_11 : decode cX5_drop 11 = .ok (.invokevirtual 120, 3) := by decide +kernel
theorem dX5_drop_14 : decode cX5_drop 14 = .ok (.ifCond .eq 7, 3) := by decide +kernel
theorem dX5_drop_17 : decode cX5_drop 17 = .ok (.iconst 0, 1) := by decide +kernel
theorem dX5_drop_18 : decode cX5_drop 18 = .ok (.goto 4, 3) := by decide +kernel
theorem dX5_drop_21 : decode cX5_drop 21 = .ok (.iconst 1, 1) := by decide +kernel
theorem dX5_drop_22 : decode cX5_drop 22 = .ok (.istore_n 2, 1) := by decide +kernel
theorem dX5_drop_23 : decode cX5_drop 23 = .ok (.aload_n 0, 1) := by decide +kernel
theorem dX5_drop_24 : decode cX5_drop 24 = .ok (.getfield 7, 3) := by decide +kernel
theorem dX5_drop_27 : decode cX5_drop 27 = .ok (.iload_n 1, 1) := by decide +kernel
theorem dX5_drop_28 : decode cX5_drop 28 = .ok (.iconst 0, 1) := by decide +kernel
theorem dX5_drop_29 : decode cX5_drop 29 = .ok (.iastore, 1) := by decide +kernel
theorem dX5_drop_30 : decode cX5_drop 30 = .ok (.iload_n 2, 1) := by decide +kernel
theorem dX5_drop_31 : decode cX5_drop 31 = .ok (.ireturn, 1) := by decide +kernel
theorem dX5_isClosed_0 : decode cX5_isClosed 0 = .ok (.iconst 1, 1) := by decide +kernel
theorem dX5_isClosed_1 : decode cX5_isClosed 1 = .ok (.istore_n 2, 1) := by decide +kernel
theorem dX5_isClosed_2 : decode cX5_isClosed 2 = .ok (.iconst 0, 1) := by decide +kernel
theorem dX5_isClosed_3 : decode cX5_isClosed 3 = .ok (.istore_n 3, 1) := by decide +kernel
theorem dX5_isClosed_4 : decode cX5_isClosed 4 = .ok (.iload_n 3, 1) := by decide +kernel
theorem dX5_isClosed_5 : decode cX5_isClosed 5 = .ok (.aload_n 0, 1) := by decide +kernel
theorem dX5_isClosed_6 : decode cX5_isClosed 6 = .ok (.getfield 73, 3) := by decide +kernel
theorem dX5_isClosed_9 : decode cX5_isClosed 9 = .ok (.if_icmp .ge 173, 3) := by decide +kernel
theorem dX5_isClosed_12 : decode cX5_isClosed 12 = .ok (.iload_n 1, 1) := by decide +kernel
theorem dX5_isClosed_13 : decode cX5_isClosed 13 = .ok (.iload_n 3, 1) := by decide +kernel
theorem dX5_isClosed_14 : decode cX5_isClosed 14 = .ok (.invokestatic 134, 3) := by decide +kernel
theorem dX5_isClosed_17 : decode cX5_isClosed 17 = .ok (.istore 4, 2) := by decide +kernel
theorem dX5_isClosed_19 : decode cX5_isClosed 19 = .ok (.aload_n 0, 1) := by decide +kernel
theorem dX5_isClosed_20 : decode cX5_isClosed 20 = .ok (.getfield 29, 3) := by decide +kernel
theorem dX5_isClosed_23 : decode cX5_isClosed 23 = .ok (.iload_n 3, 1) := by decide +kernel
theorem dX5_isClosed_24 : decode cX5_isClosed 24 = .ok (.iaload, 1) := by decide +kernel
theorem dX5_isClosed_25 : decode cX5_isClosed 25 = .ok (.iconst 1, 1) := by decide +kernel
theorem dX5_isClosed_26 : decode cX5_isClosed 26 = .ok (.if_icmp .ne 21, 3) := by decide +kernel
theorem dX5_isClosed_29 : decode cX5_isClosed 29 = .ok (.iload_n 2, 1) := by decide +kernel
theorem dX5_isClosed_30 : decode cX5_isClosed 30 = .ok (.ifCond .eq 12, 3) := by decide +kernel
theorem dX5_isClosed_33 : decode cX5_isClosed 33 = .ok (.iload 4, 2) := by decide +kernel
theorem dX5_isClosed_35 : decode cX5_isClosed 35 = .ok (.ifCond .ne 7, 3) := by decide +kernel
theorem dX5_isClosed_38 : decode cX5_isClosed 38 = .ok (.iconst 1, 1) := by decide +kernel
theorem dX5_isClosed_39 : decode cX5_isClosed 39 = .ok (.goto 4, 3) := by decide +kernel
theorem dX5_isClosed_42 : decode cX5_isClosed 42 = .ok (.iconst 0, 1) := by decide +kernel
theorem dX5_isClosed_43 : decode cX5_isClosed 43 = .ok (.istore_n 2, 1) := by decide +kernel
theorem dX5_isClosed_44 : decode cX5_isClosed 44 = .ok (.goto 132, 3) := by decide +kernel
theorem dX5_isClosed_47 : decode cX5_isClosed 47 = .ok (.aload_n 0, 1) := by decide +kernel
theorem dX5_isClosed_48 : decode cX5_isClosed 48 = .ok (.getfield 29, 3) := by decide +kernel
theorem dX5_isClosed_51 : decode cX5_isClosed 51 = .ok (.iload_n 3, 1) := by decide +kernel
theorem dX5_isClosed_52 : decode cX5_isClosed 52 = .ok (.iaload, 1) := by decide +kernel
theorem dX5_isClosed_53 : decode cX5_isClosed 53 = .ok (.iconst 1, 1) := by decide +kernel
theorem dX5_isClosed_54 : decode cX5_isClosed 54 = .ok (.if_icmp .le 122, 3) := by decide +kernel
theorem dX5_isClosed_57 : decode cX5_isClosed 57 = .ok (.iload_n 1, 1) := by decide +kernel
theorem dX5_isClosed_58 : decode cX5_isClosed 58 = .ok (.aload_n 0, 1) := by decide +kernel
theorem dX5_isClosed_59 : decode cX5_isClosed 59 = .ok (.getfield 32, 3) := by decide +kernel
theorem dX5_isClosed_62 : decode cX5_isClosed 62 = .ok (.iload_n 3, 1) := by decide +kernel
theorem dX5_isClosed_63 : decode cX5_isClosed 63 = .ok (.iaload, 1) := by decide +kernel
theorem dX5_isClosed_64 : decode cX5_isClosed 64 = .ok (.invokestatic 134, 3) := by decide +kernel
theorem dX5_isClosed_67 : decode cX5_isClosed 67 = .ok (.istore 5, 2) := by decide +kernel
theorem dX5_isClosed_69 : decode cX5_isClosed 69 = .ok (.iload_n 1, 1) := by decide +kernel
theorem dX5_isClosed_70 : decode cX5_isClosed 70 = .ok (.aload_n 0, 1) := by decide +kernel
theorem dX5_isClosed_71 : decode cX5_isClosed 71 = .ok (.getfield 35, 3) := by decide +kernel
theorem dX5_isClosed_74 : decode cX5_isClosed 74 = .ok (.iload_n 3, 1) := by decide +kernel
theorem dX5_isClosed_75 : decode cX5_isClosed 75 = .ok (.iaload, 1) := by decide +kernel
theorem dX5_isClosed_76 : decode cX5_isClosed 76 = .ok (.invokestatic 134, 3) := by decide +kernel
theorem dX5_isClosed_79 : decode cX5_isClosed 79 = .ok (.istore 6, 2) := by decide +kernel
theorem dX5_isClosed_81 : decode cX5_isClosed 81 = .ok (.aload_n 0, 1) := by decide +kernel
theorem dX5_isClosed_82 : decode cX5_isClosed 82 = .ok (.getfield 29, 3) := by decide +kernel
theorem dX5_isClosed_85 : decode cX5_isClosed 85 = .ok (.iload_n 3, 1) := by decide +kernel
theorem dX5_isClosed_86 : decode cX5_isClosed 86 = .ok (.iaload, 1) := by decide +kernel
theorem dX5_isClosed_87 : decode cX5_isClosed 87 = .ok (.iconst 2, 1) := by decide +kernel
theorem dX5_isClosed_88 : decode cX5_isClosed 88 = .ok (.if_icmp .ne 21, 3) := by decide +kernel
theorem dX5_isClosed_91 : decode cX5_isClosed 91 = .ok (.iload 5, 2) := by decide +kernel
theorem dX5_isClosed_93 : decode cX5_isClosed 93 = .ok (.ifCond .eq 12, 3) := by decide +kernel
theorem dX5_isClosed_96 : decode cX5_isClosed 96 = .ok (.iload 6, 2) := by decide +kernel
theorem dX5_isClosed_98 : decode cX5_isClosed 98 = .ok (.ifCond .eq 7, 3) := by decide +kernel
theorem dX5_isClosed_101 : decode cX5_isClosed 101 = .ok (.iconst 1, 1) := by decide +kernel
theorem dX5_isClosed_102 : decode cX5_isClosed 102 = .ok (.goto 55, 3) := by decide +kernel
theorem dX5_isClosed_105 : decode cX5_isClosed 105 = .ok (.iconst 0, 1) := by decide +kernel
theorem dX5_isClosed_106 : decode cX5_isClosed 106 = .ok (.goto 51, 3) := by decide +kernel
theorem dX5_isClosed_109 : decode cX5_isClosed 109 = .ok (.aload_n 0, 1) := by decide +kernel
theorem dX5_isClosed_110 : decode cX5_isClosed 110 = .ok (.getfield 29, 3) := by decide +kernel
theorem dX5_isClosed_113 : decode cX5_isClosed 113 = .ok (.iload_n 3, 1) := by decide +kernel
theorem dX5_isClosed_114 : decode cX5_isClosed 114 = .ok (.iaload, 1) := by decide +kernel
theorem dX5_isClosed_115 : decode cX5_isClosed 115 = .ok (.iconst 3, 1) := by decide +kernel
theorem dX5_isClosed_116 : decode cX5_isClosed 116 = .ok (.if_icmp .ne 21, 3) := by decide +kernel
theorem dX5_isClosed_119 : decode cX5_isClosed 119 = .ok (.iload 5, 2) := by decide +kernel
theorem dX5_isClosed_121 : decode cX5_isClosed 121 = .ok (.ifCond .ne 8, 3) := by decide +kernel
theorem dX5_isClosed_124 : decode cX5_isClosed 124 = .ok (.iload 6, 2) := by decide +kernel
theorem dX5_isClosed_126 : decode cX5_isClosed 126 = .ok (.ifCond .eq 7, 3) := by decide +kernel
theorem dX5_isClosed_129 : decode cX5_isClosed 129 = .ok (.iconst 1, 1) := by decide +kernel
theorem dX5_isClosed_130 : decode cX5_isClosed 130 = .ok (.goto 27, 3) := by decide +kernel
theorem dX5_isClosed_133 : decode cX5_isClosed 133 = .ok (.iconst 0, 1) := by decide +kernel
theorem dX5_isClosed_134 : decode cX5_isClosed 134 = .ok (.goto 23, 3) := by decide +kernel
theorem dX5_isClosed_137 : decode cX5_isClosed 137 = .ok (.iload 6, 2) := by decide +kernel
theorem dX5_isClosed_139 : decode cX5_isClosed 139 = .ok (.ifCond .ne 13, 3) := by decide +kernel
theorem dX5_isClosed_142 : decode cX5_isClosed 142 = .ok (.iload 4, 2) := by decide +kernel
theorem dX5_isClosed_144 : decode cX5_isClosed 144 = .ok (.ifCond .eq 12, 3) := by decide +kernel
theorem dX5_isClosed_147 : decode cX5_isClosed 147 = .ok (.iload 5, 2) := by decide +kernel
theorem dX5_isClosed_149 : decode cX5_isClosed 149 = .ok (.ifCond .ne 7, 3) := by decide +kernel
theorem dX5_isClosed_152 : decode cX5_isClosed 152 = .ok (.iconst 1, 1) := by decide +kernel
theorem dX5_isClosed_153 : decode cX5_isClosed 153 = .ok (.goto 4, 3) := by decide +kernel
theorem dX5_isClosed_156 : decode cX5_isClosed 156 = .ok (.iconst 0, 1) := by decide +kernel
theorem dX5_isClosed_157 : decode cX5_isClosed 157 = .ok (.istore 7, 2) := by decide +kernel
theorem dX5_isClosed_159 : decode cX5_isClosed 159 = .ok (.iload_n 2, 1) := by decide +kernel
theorem dX5_isClosed_160 : decode cX5_isClosed 160 = .ok (.ifCond .eq 14, 3) := by decide +kernel
theorem dX5_isClosed_163 : decode cX5_isClosed 163 = .ok (.iload 4, 2) := by decide +kernel
theorem dX5_isClosed_165 : decode cX5_isClosed 165 = .ok (.iload 7, 2) := by decide +kernel
theorem dX5_isClosed_167 : decode cX5_isClosed 167 = .ok (.if_icmp .ne 7, 3) := by decide +kernel
theorem dX5_isClosed_170 : decode cX5_isClosed 170 = .ok (.iconst 1, 1) := by decide +kernel
theorem dX5_isClosed_171 : decode cX5_isClosed 171 = .ok (.goto 4, 3) := by decide +kernel
theorem dX5_isClosed_174 : decode cX5_isClosed 174 = .ok (.iconst 0, 1) := by decide +kernel
theorem dX5_isClosed_175 : decode cX5_isClosed 175 = .ok (.istore_n 2, 1) := by decide +kernel
theorem dX5_isClosed_176 : decode cX5_isClosed 176 = .ok (.iinc 3 1, 3) := by decide +kernel
theorem dX5_isClosed_179 : decode cX5_isClosed 179 = .ok (.goto (-175), 3) := by decide +kernel
theorem dX5_isClosed_182 : decode cX5_isClosed 182 = .ok (.iload_n 2, 1) := by decide +kernel
theorem dX5_isClosed_183 : decode cX5_isClosed 183 = .ok (.ireturn, 1) := by decide +kernel
theorem dX5_isNeeded_0 : decode cX5_isNeeded 0 = .ok (.iconst 0, 1) := by decide +kernel
theorem dX5_isNeeded_1 : decode cX5_isNeeded 1 = .ok (.istore_n 2, 1) := by decide +kernel
theorem dX5_isNeeded_2 : decode cX5_isNeeded 2 = .ok (.iload_n 2, 1) := by decide +kernel
theorem dX5_isNeeded_3 : decode cX5_isNeeded 3 = .ok (.aload_n 0, 1) := by decide +kernel
theorem dX5_isNeeded_4 : decode cX5_isNeeded 4 = .ok (.getfield 73, 3) := by decide +kernel
theorem dX5_isNeeded_7 : decode cX5_isNeeded 7 = .ok (.if_icmp .ge 125, 3) := by decide +kernel
theorem dX5_isNeeded_10 : decode cX5_isNeeded 10 = .ok (.aload_n 0, 1) := by decide +kernel
theorem dX5_isNeeded_11 : decode cX5_isNeeded 11 = .ok (.getfield 29, 3) := by decide +kernel
theorem dX5_isNeeded_14 : decode cX5_isNeeded 14 = .ok (.iload_n 2, 1) := by decide +kernel
theorem dX5_isNeeded_15 : decode cX5_isNeeded 15 = .ok (.iaload, 1) := by decide +kernel
theorem dX5_isNeeded_16 : decode cX5_isNeeded 16 = .ok (.iconst 4, 1) := by decide +kernel
theorem dX5_isNeeded_17 : decode cX5_isNeeded 17 = .ok (.if_icmp .ne 109, 3) := by decide +kernel
theorem dX5_isNeeded_20 : decode cX5_isNeeded 20 = .ok (.iload_n 1, 1) := by decide +kernel
theorem dX5_isNeeded_21 : decode cX5_isNeeded 21 = .ok (.iload_n 2, 1) := by decide +kernel
theorem dX5_isNeeded_22 : decode cX5_isNeeded 22 = .ok (.invokestatic 134, 3) := by decide +kernel
theorem dX5_isNeeded_25 : decode cX5_isNeeded 25 = .ok (.ifCond .ne 101, 3) := by decide +kernel
theorem dX5_isNeeded_28 : decode cX5_isNeeded 28 = .ok (.iconst 0, 1) := by decide +kernel
theorem dX5_isNeeded_29 : decode cX5_isNeeded 29 = .ok (.istore_n 3, 1) := by decide +kernel
theorem dX5_isNeeded_30 : decode cX5_isNeeded 30 = .ok (.iconst 0, 1) := by decide +kernel
theorem dX5_isNeeded_31 : decode cX5_isNeeded 31 = .ok (.istore 4, 2) := by decide +kernel
theorem dX5_isNeeded_33 : decode cX5_isNeeded 33 = .ok (.iload 4, 2) := by decide +kernel
theorem dX5_isNeeded_35 : decode cX5_isNeeded 35 = .ok (.aload_n 0, 1) := by decide +kernel
theorem dX5_isNeeded_36 : decode cX5_isNeeded 36 = .ok (.getfield 138, 3) := by decide +kernel
theorem dX5_isNeeded_39 : decode cX5_isNeeded 39 = .ok (.if_icmp .ge 81, 3) := by decide +kernel
theorem dX5_isNeeded_42 : decode cX5_isNeeded 42 = .ok (.iload_n 3, 1) := by decide +kernel
theorem dX5_isNeeded_43 : decode cX5_isNeeded 43 = .ok (.ifCond .ne 77, 3) := by decide +kernel
theorem dX5_isNeeded_46 : decode cX5_isNeeded 46 = .ok (.aload_n 0, 1) := by decide +kernel
theorem dX5_isNeeded_47 : decode cX5_isNeeded 47 = .ok (.getfield 59, 3) := by decide +kernel
theorem dX5_isNeeded_50 : decode cX5_isNeeded 50 = .ok (.iload 4, 2) := by decide +kernel
theorem dX5_isNeeded_52 : decode cX5_isNeeded 52 = .ok (.baload, 1) := by decide +kernel
theorem dX5_isNeeded_53 : decode cX5_isNeeded 53 = .ok (.ifCond .ne 59, 3) := by decide +kernel
theorem dX5_isNeeded_56 : decode cX5_isNeeded 56 = .ok (.iload_n 1, 1) := by decide +kernel
theorem dX5_isNeeded_57 : decode cX5_isNeeded 57 = .ok (.aload_n 0, 1) := by decide +kernel
theorem dX5_isNeeded_58 : decode cX5_isNeeded 58 = .ok (.getfield 56, 3) := by decide +kernel
theorem dX5_isNeeded_61 : decode cX5_isNeeded 61 = .ok (.iload 4, 2) := by decide +kernel
theorem dX5_isNeeded_63 : decode cX5_isNeeded 63 = .ok (.iaload, 1) := by decide +kernel
theorem dX5_isNeeded_64 : decode cX5_isNeeded 64 = .ok (.iconst (-1), 1) := by decide +kernel
theorem dX5_isNeeded_65 : decode cX5_isNeeded 65 = .ok (.ixor, 1) := by decide +kernel
theorem dX5_isNeeded_66 : decode cX5_isNeeded 66 = .ok (.iand, 1) := by decide +kernel
theorem dX5_isNeeded_67 : decode cX5_isNeeded 67 = .ok (.ifCond .ne 45, 3) := by decide +kernel
theorem dX5_isNeeded_70 : decode cX5_isNeeded 70 = .ok (.aload_n 0, 1) := by decide +kernel
theorem dX5_isNeeded_71 : decode cX5_isNeeded 71 = .ok (.getfield 56, 3) := by decide +kernel
theorem dX5_isNeeded_74 : decode cX5_isNeeded 74 = .ok (.iload 4, 2) := by decide +kernel
theorem dX5_isNeeded_76 : decode cX5_isNeeded 76 = .ok (.iaload, 1) := by decide +kernel
theorem dX5_isNeeded_77 : decode cX5_isNeeded 77 = .ok (.aload_n 0, 1) := by decide +kernel
theorem dX5_isNeeded_78 : decode cX5_isNeeded 78 = .ok (.getfield 32, 3) := by decide +kernel
theorem dX5_isNeeded_81 : decode cX5_isNeeded 81 = .ok (.iload_n 2, 1) := by decide +kernel
theorem dX5_isNeeded_82 : decode cX5_isNeeded 82 = .ok (.iaload, 1) := by decide +kernel
theorem dX5_isNeeded_83 : decode cX5_isNeeded 83 = .ok (.invokestatic 134, 3) := by decide +kernel
theorem dX5_isNeeded_86 : decode cX5_isNeeded 86 = .ok (.ifCond .eq 26, 3) := by decide +kernel
theorem dX5_isNeeded_89 : decode cX5_isNeeded 89 = .ok (.aload_n 0, 1) := by decide +kernel
theorem dX5_isNeeded_90 : decode cX5_isNeeded 90 = .ok (.getfield 56, 3) := by decide +kernel
theorem dX5_isNeeded_93 : decode cX5_isNeeded 93 = .ok (.iload 4, 2) := by decide +kernel
theorem dX5_isNeeded_95 : decode cX5_isNeeded 95 = .ok (.iaload, 1) := by decide +kernel
theorem dX5_isNeeded_96 : decode cX5_isNeeded 96 = .ok (.aload_n 0, 1) := by decide +kernel
theorem dX5_isNeeded_97 : decode cX5_isNeeded 97 = .ok (.getfield 35, 3) := by decide +kernel
theorem dX5_isNeeded_100 : decode cX5_isNeeded 100 = .ok (.iload_n 2, 1) := by decide +kernel
theorem dX5_isNeeded_101 : decode cX5_isNeeded 101 = .ok (.iaload, 1) := by decide +kernel
theorem dX5_isNeeded_102 : decode cX5_isNeeded 102 = .ok (.invokestatic 134, 3) := by decide +kernel
theorem dX5_isNeeded_105 : decode cX5_isNeeded 105 = .ok (.ifCond .ne 7, 3) := by decide +kernel
theorem dX5_isNeeded_108 : decode cX5_isNeeded 108 = .ok (.iconst 1, 1) := by decide +kernel
theorem dX5_isNeeded_109 : decode cX5_isNeeded 109 = .ok (.goto 4, 3) := by decide +kernel
theorem dX5_isNeeded_112 : decode cX5_isNeeded 112 = .ok (.iconst 0, 1) := by decide +kernel
theorem dX5_isNeeded_113 : decode cX5_isNeeded 113 = .ok (.istore_n 3, 1) := by decide +kernel
theorem dX5_isNeeded_114 : decode cX5_isNeeded 114 = .ok (.iinc 4 1, 3) := by decide +kernel
theorem dX5_isNeeded_117 : decode cX5_isNeeded 117 = .ok (.goto (-84), 3) := by decide +kernel
theorem dX5_isNeeded_120 : decode cX5_isNeeded 120 = .ok (.iload_n 3, 1) := by decide +kernel
theorem dX5_isNeeded_121 : decode cX5_isNeeded 121 = .ok (.ifCond .ne 5, 3) := by decide +kernel
theorem dX5_isNeeded_124 : decode cX5_isNeeded 124 = .ok (.iconst 0, 1) := by decide +kernel
theorem dX5_isNeeded_125 : decode cX5_isNeeded 125 = .ok (.ireturn, 1) := by decide +kernel
theorem dX5_isNeeded_126 : decode cX5_isNeeded 126 = .ok (.iinc 2 1, 3) := by decide +kernel
theorem dX5_isNeeded_129 : decode cX5_isNeeded 129 = .ok (.goto (-127), 3) := by decide +kernel
theorem dX5_isNeeded_132 : decode cX5_isNeeded 132 = .ok (.iconst 1, 1) := by decide +kernel
theorem dX5_isNeeded_133 : decode cX5_isNeeded 133 = .ok (.ireturn, 1) := by decide +kernel
theorem dX5_layWorlds_0 : decode cX5_layWorlds 0 = .ok (.aload_n 0, 1) := by decide +kernel
theorem dX5_layWorlds_1 : decode cX5_layWorlds 1 = .ok (.iconst 0, 1) := by decide +kernel
theorem dX5_layWorlds_2 : decode cX5_layWorlds 2 = .ok (.putfield 138, 3) := by decide +kernel
theorem dX5_layWorlds_5 : decode cX5_layWorlds 5 = .ok (.iconst 0, 1) := by decide +kernel
theorem dX5_layWorlds_6 : decode cX5_layWorlds 6 = .ok (.istore_n 1, 1) := by decide +kernel
theorem dX5_layWorlds_7 : decode cX5_layWorlds 7 = .ok (.iload_n 1, 1) := by decide +kernel
theorem dX5_layWorlds_8 : decode cX5_layWorlds 8 = .ok (.iconst 1, 1) := by decide +kernel
theorem dX5_layWorlds_9 : decode cX5_layWorlds 9 = .ok (.aload_n 0, 1) := by decide +kernel
theorem dX5_layWorlds_10 : decode cX5_layWorlds 10 = .ok (.getfield 73, 3) := by decide +kernel
theorem dX5_layWorlds_13 : decode cX5_layWorlds 13 = .ok (.ishl, 1) := by decide +kernel
theorem dX5_layWorlds_14 : decode cX5_layWorlds 14 = .ok (.if_icmp .ge 47, 3) := by decide +kernel
theorem dX5_layWorlds_17 : decode cX5_layWorlds 17 = .ok (.aload_n 0, 1) := by decide +kernel
theorem dX5_layWorlds_18 : decode cX5_layWorlds 18 = .ok (.iload_n 1, 1) := by decide +kernel
theorem dX5_layWorlds_19 : decode cX5_layWorlds 19 = .ok (.invokevirtual 141, 3) := by decide +kernel
theorem dX5_layWorlds_22 : decode cX5_layWorlds 22 = .ok (.ifCond .eq 33, 3) := by decide +kernel
theorem dX5_layWorlds_25 : decode cX5_layWorlds 25 = .ok (.aload_n 0, 1) := by decide +kernel
theorem dX5_layWorlds_26 : decode cX5_layWorlds 26 = .ok (.getfield 56, 3) := by decide +kernel
theorem dX5_layWorlds_29 : decode cX5_layWorlds 29 = .ok (.aload_n 0, 1) := by decide +kernel
theorem dX5_layWorlds_30 : decode cX5_layWorlds 30 = .ok (.getfield 138, 3) := by decide +kernel
theorem dX5_layWorlds_33 : decode cX5_layWorlds 33 = .ok (.iload_n 1, 1) := by decide +kernel
theorem dX5_layWorlds_34 : decode cX5_layWorlds 34 = .ok (.iastore, 1) := by decide +kernel
theorem dX5_layWorlds_35 : decode cX5_layWorlds 35 = .ok (.aload_n 0, 1) := by decide +kernel
theorem dX5_layWorlds_36 : decode cX5_layWorlds 36 = .ok (.getfield 59, 3) := by decide +kernel
theorem dX5_layWorlds_39 : decode cX5_layWorlds 39 = .ok (.aload_n 0, 1) := by decide +kernel
theorem dX5_layWorlds_40 : decode cX5_layWorlds 40 = .ok (.getfield 138, 3) := by decide +kernel
theorem dX5_layWorlds_43 : decode cX5_layWorlds 43 = .ok (.iconst 0, 1) := by decide +kernel
theorem dX5_layWorlds_44 : decode cX5_layWorlds 44 = .ok (.bastore, 1) := by decide +kernel
theorem dX5_layWorlds_45 : decode cX5_layWorlds 45 = .ok (.aload_n 0, 1) := by decide +kernel
theorem dX5_layWorlds_46 : decode cX5_layWorlds 46 = .ok (.dup, 1) := by decide +kernel
theorem dX5_layWorlds_47 : decode cX5_layWorlds 47 = .ok (.getfield 138, 3) := by decide +kernel
theorem dX5_layWorlds_50 : decode cX5_layWorlds 50 = .ok (.iconst 1, 1) := by decide +kernel
theorem dX5_layWorlds_51 : decode cX5_layWorlds 51 = .ok (.iadd, 1) := by decide +kernel
theorem dX5_layWorlds_52 : decode cX5_layWorlds 52 = .ok (.putfield 138, 3) := by decide +kernel
theorem dX5_layWorlds_55 : decode cX5_layWorlds 55 = .ok (.iinc 1 1, 3) := by decide +kernel
theorem dX5_layWorlds_58 : decode cX5_layWorlds 58 = .ok (.goto (-51), 3) := by decide +kernel
theorem dX5_layWorlds_61 : decode cX5_layWorlds 61 = .ok (.iconst 1, 1) := by decide +kernel
theorem dX5_layWorlds_62 : decode cX5_layWorlds 62 = .ok (.istore_n 1, 1) := by decide +kernel
theorem dX5_layWorlds_63 : decode cX5_layWorlds 63 = .ok (.iload_n 1, 1) := by decide +kernel
theorem dX5_layWorlds_64 : decode cX5_layWorlds 64 = .ok (.ifCond .eq 55, 3) := by decide +kernel
theorem dX5_layWorlds_67 : decode cX5_layWorlds 67 = .ok (.iconst 0, 1) := by decide +kernel
theorem dX5_layWorlds_68 : decode cX5_layWorlds 68 = .ok (.istore_n 1, 1) := by decide +kernel
theorem dX5_layWorlds_69 : decode cX5_layWorlds 69 = .ok (.iconst 0, 1) := by decide +kernel
theorem dX5_layWorlds_70 : decode cX5_layWorlds 70 = .ok (.istore_n 2, 1) := by decide +kernel
theorem dX5_layWorlds_71 : decode cX5_layWorlds 71 = .ok (.iload_n 2, 1) := by decide +kernel
theorem dX5_layWorlds_72 : decode cX5_layWorlds 72 = .ok (.aload_n 0, 1) := by decide +kernel
theorem dX5_layWorlds_73 : decode cX5_layWorlds 73 = .ok (.getfield 138, 3) := by decide +kernel
theorem dX5_layWorlds_76 : decode cX5_layWorlds 76 = .ok (.if_icmp .ge 40, 3) := by decide +kernel
theorem dX5_layWorlds_79 : decode cX5_layWorlds 79 = .ok (.aload_n 0, 1) := by decide +kernel
theorem dX5_layWorlds_80 : decode cX5_layWorlds 80 = .ok (.getfield 59, 3) := by decide +kernel
theorem dX5_layWorlds_83 : decode cX5_layWorlds 83 = .ok (.iload_n 2, 1) := by decide +kernel
theorem dX5_layWorlds_84 : decode cX5_layWorlds 84 = .ok (.baload, 1) := by decide +kernel
theorem dX5_layWorlds_85 : decode cX5_layWorlds 85 = .ok (.ifCond .ne 25, 3) := by decide +kernel
theorem dX5_layWorlds_88 : decode cX5_layWorlds 88 = .ok (.aload_n 0, 1) := by decide +kernel
theorem dX5_layWorlds_89 : decode cX5_layWorlds 89 = .ok (.aload_n 0, 1) := by decide +kernel
theorem dX5_layWorlds_90 : decode cX5_layWorlds 90 = .ok (.getfield 56, 3) := by decide +kernel
theorem dX5_layWorlds_93 : decode cX5_layWorlds 93 = .ok (.iload_n 2, 1) := by decide +kernel
theorem dX5_layWorlds_94 : decode cX5_layWorlds 94 = .ok (.iaload, 1) := by decide +kernel
theorem dX5_layWorlds_95 : decode cX5_layWorlds 95 = .ok (.invokevirtual 144, 3) := by decide +kernel
theorem dX5_layWorlds_98 : decode cX5_layWorlds 98 = .ok (.ifCond .ne 12, 3) := by decide +kernel
theorem dX5_layWorlds_101 : decode cX5_layWorlds 101 = .ok (.aload_n 0, 1) := by decide +kernel
theorem dX5_layWorlds_102 : decode cX5_layWorlds 102 = .ok (.getfield 59, 3) := by decide +kernel
theorem dX5_layWorlds_105 : decode cX5_layWorlds 105 = .ok (.iload_n 2, 1) := by decide +kernel
theorem dX5_layWorlds_106 : decode cX5_layWorlds 106 = .ok (.iconst 1, 1) := by decide +kernel
theorem dX5_layWorlds_107 : decode cX5_layWorlds 107 = .ok (.bastore, 1) := by decide +kernel
theorem dX5_layWorlds_108 : decode cX5_layWorlds 108 = .ok (.iconst 1, 1) := by decide +kernel
theorem dX5_layWorlds_109 : decode cX5_layWorlds 109 = .ok (.istore_n 1, 1) := by decide +kernel
theorem dX5_layWorlds_110 : decode cX5_layWorlds 110 = .ok (.iinc 2 1, 3) := by decide +kernel
theorem dX5_layWorlds_113 : decode cX5_layWorlds 113 = .ok (.goto (-42), 3) := by decide +kernel
theorem dX5_layWorlds_116 : decode cX5_layWorlds 116 = .ok (.goto (-53), 3) := by decide +kernel
theorem dX5_layWorlds_119 : decode cX5_layWorlds 119 = .ok (.iconst 0, 1) := by decide +kernel
theorem dX5_layWorlds_120 : decode cX5_layWorlds 120 = .ok (.istore_n 2, 1) := by decide +kernel
theorem dX5_layWorlds_121 : decode cX5_layWorlds 121 = .ok (.iconst 0, 1) := by decide +kernel
theorem dX5_layWorlds_122 : decode cX5_layWorlds 122 = .ok (.istore_n 3, 1) := by decide +kernel
theorem dX5_layWorlds_123 : decode cX5_layWorlds 123 = .ok (.iload_n 3, 1) := by decide +kernel
theorem dX5_layWorlds_124 : decode cX5_layWorlds 124 = .ok (.aload_n 0, 1) := by decide +kernel
theorem dX5_layWorlds_125 : decode cX5_layWorlds 125 = .ok (.getfield 138, 3) := by decide +kernel
theorem dX5_layWorlds_128 : decode cX5_layWorlds 128 = .ok (.if_icmp .ge 33, 3) := by decide +kernel
theorem dX5_layWorlds_131 : decode cX5_layWorlds 131 = .ok (.aload_n 0, 1) := by decide +kernel
theorem dX5_layWorlds_132 : decode cX5_layWorlds 132 = .ok (.getfield 59, 3) := by decide +kernel
theorem dX5_layWorlds_135 : decode cX5_layWorlds 135 = .ok (.iload_n 3, 1) := by decide +kernel
theorem dX5_layWorlds_136 : decode cX5_layWorlds 136 = .ok (.baload, 1) := by decide +kernel
theorem dX5_layWorlds_137 : decode cX5_layWorlds 137 = .ok (.ifCond .ne 18, 3) := by decide +kernel
theorem dX5_layWorlds_140 : decode cX5_layWorlds 140 = .ok (.aload_n 0, 1) := by decide +kernel
theorem dX5_layWorlds_141 : decode cX5_layWorlds 141 = .ok (.getfield 56, 3) := by decide +kernel
theorem dX5_layWorlds_144 : decode cX5_layWorlds 144 = .ok (.iload_n 2, 1) := by decide +kernel
theorem dX5_layWorlds_145 : decode cX5_layWorlds 145 = .ok (.aload_n 0, 1) := by decide +kernel
theorem dX5_layWorlds_146 : decode cX5_layWorlds 146 = .ok (.getfield 56, 3) := by decide +kernel
theorem dX5_layWorlds_149 : decode cX5_layWorlds 149 = .ok (.iload_n 3, 1) := by decide +kernel
end
section
theorem dX5_layWorlds_150 : decode cX5_layWorlds 150 = .ok (.iaload, 1) := by decide +kernel
theorem dX5_layWorlds_151 : decode cX5_layWorlds 151 = .ok (.iastore, 1) := by decide +kernel
theorem dX5_layWorlds_152 : decode cX5_layWorlds 152 = .ok (.iinc 2 1, 3) := by decide +kernel
theorem dX5_layWorlds_155 : decode cX5_layWorlds 155 = .ok (.iinc 3 1, 3) := by decide +kernel
theorem dX5_layWorlds_158 : decode cX5_layWorlds 158 = .ok (.goto (-35), 3) := by decide +kernel
theorem dX5_layWorlds_161 : decode cX5_layWorlds 161 = .ok (.aload_n 0, 1) := by decide +kernel
theorem dX5_layWorlds_162 : decode cX5_layWorlds 162 = .ok (.iload_n 2, 1) := by decide +kernel
theorem dX5_layWorlds_163 : decode cX5_layWorlds 163 = .ok (.putfield 138, 3) := by decide +kernel
theorem dX5_layWorlds_166 : decode cX5_layWorlds 166 = .ok (.return_, 1) := by decide +kernel
theorem dX5_isInAll_0 : decode cX5_isInAll 0 = .ok (.aload_n 0, 1) := by decide +kernel
theorem dX5_isInAll_1 : decode cX5_isInAll 1 = .ok (.invokevirtual 147, 3) := by decide +kernel
theorem dX5_isInAll_4 : decode cX5_isInAll 4 = .ok (.iconst 1, 1) := by decide +kernel
theorem dX5_isInAll_5 : decode cX5_isInAll 5 = .ok (.istore_n 3, 1) := by decide +kernel
theorem dX5_isInAll_6 : decode cX5_isInAll 6 = .ok (.iconst 0, 1) := by decide +kernel
theorem dX5_isInAll_7 : decode cX5_isInAll 7 = .ok (.istore 4, 2) := by decide +kernel
theorem dX5_isInAll_9 : decode cX5_isInAll 9 = .ok (.iload 4, 2) := by decide +kernel
theorem dX5_isInAll_11 : decode cX5_isInAll 11 = .ok (.aload_n 0, 1) := by decide +kernel
theorem dX5_isInAll_12 : decode cX5_isInAll 12 = .ok (.getfield 138, 3) := by decide +kernel
theorem dX5_isInAll_15 : decode cX5_isInAll 15 = .ok (.if_icmp .ge 47, 3) := by decide +kernel
theorem dX5_isInAll_18 : decode cX5_isInAll 18 = .ok (.iload_n 3, 1) := by decide +kernel
theorem dX5_isInAll_19 : decode cX5_isInAll 19 = .ok (.ifCond .eq 35, 3) := by decide +kernel
theorem dX5_isInAll_22 : decode cX5_isInAll 22 = .ok (.iload_n 1, 1) := by decide +kernel
theorem dX5_isInAll_23 : decode cX5_isInAll 23 = .ok (.aload_n 0, 1) := by decide +kernel
theorem dX5_isInAll_24 : decode cX5_isInAll 24 = .ok (.getfield 56, 3) := by decide +kernel
theorem dX5_isInAll_27 : decode cX5_isInAll 27 = .ok (.iload 4, 2) := by decide +kernel
theorem dX5_isInAll_29 : decode cX5_isInAll 29 = .ok (.iaload, 1) := by decide +kernel
theorem dX5_isInAll_30 : decode cX5_isInAll 30 = .ok (.iconst (-1), 1) := by decide +kernel
theorem dX5_isInAll_31 : decode cX5_isInAll 31 = .ok (.ixor, 1) := by decide +kernel
theorem dX5_isInAll_32 : decode cX5_isInAll 32 = .ok (.iand, 1) := by decide +kernel
theorem dX5_isInAll_33 : decode cX5_isInAll 33 = .ok (.ifCond .ne 17, 3) := by decide +kernel
theorem dX5_isInAll_36 : decode cX5_isInAll 36 = .ok (.aload_n 0, 1) := by decide +kernel
theorem dX5_isInAll_37 : decode cX5_isInAll 37 = .ok (.getfield 56, 3) := by decide +kernel
theorem dX5_isInAll_40 : decode cX5_isInAll 40 = .ok (.iload 4, 2) := by decide +kernel
theorem dX5_isInAll_42 : decode cX5_isInAll 42 = .ok (.iaload, 1) := by decide +kernel
theorem dX5_isInAll_43 : decode cX5_isInAll 43 = .ok (.iload_n 2, 1) := by decide +kernel
theorem dX5_isInAll_44 : decode cX5_isInAll 44 = .ok (.invokestatic 134, 3) := by decide +kernel
theorem dX5_isInAll_47 : decode cX5_isInAll 47 = .ok (.ifCond .eq 7, 3) := by decide +kernel
theorem dX5_isInAll_50 : decode cX5_isInAll 50 = .ok (.iconst 1, 1) := by decide +kernel
theorem dX5_isInAll_51 : decode cX5_isInAll 51 = .ok (.goto 4, 3) := by decide +kernel
theorem dX5_isInAll_54 : decode cX5_isInAll 54 = .ok (.iconst 0, 1) := by decide +kernel
theorem dX5_isInAll_55 : decode cX5_isInAll 55 = .ok (.istore_n 3, 1) := by decide +kernel
theorem dX5_isInAll_56 : decode cX5_isInAll 56 = .ok (.iinc 4 1, 3) := by decide +kernel
theorem dX5_isInAll_59 : decode cX5_isInAll 59 = .ok (.goto (-50), 3) := by decide +kernel
theorem dX5_isInAll_62 : decode cX5_isInAll 62 = .ok (.iload_n 3, 1) := by decide +kernel
theorem dX5_isInAll_63 : decode cX5_isInAll 63 = .ok (.ireturn, 1) := by decide +kernel
theorem dX5_isPlain_0 : decode cX5_isPlain 0 = .ok (.aload_n 0, 1) := by decide +kernel
theorem dX5_isPlain_1 : decode cX5_isPlain 1 = .ok (.iload_n 1, 1) := by decide +kernel
theorem dX5_isPlain_2 : decode cX5_isPlain 2 = .ok (.invokevirtual 117, 3) := by decide +kernel
theorem dX5_isPlain_5 : decode cX5_isPlain 5 = .ok (.aload_n 0, 1) := by decide +kernel
theorem dX5_isPlain_6 : decode cX5_isPlain 6 = .ok (.iconst 0, 1) := by decide +kernel
theorem dX5_isPlain_7 : decode cX5_isPlain 7 = .ok (.aload_n 0, 1) := by decide +kernel
theorem dX5_isPlain_8 : decode cX5_isPlain 8 = .ok (.getfield 73, 3) := by decide +kernel
theorem dX5_isPlain_11 : decode cX5_isPlain 11 = .ok (.iconst 1, 1) := by decide +kernel
theorem dX5_isPlain_12 : decode cX5_isPlain 12 = .ok (.isub, 1) := by decide +kernel
theorem dX5_isPlain_13 : decode cX5_isPlain 13 = .ok (.invokevirtual 150, 3) := by decide +kernel
theorem dX5_isPlain_16 : decode cX5_isPlain 16 = .ok (.ireturn, 1) := by decide +kernel
theorem dX5_plain_0 : decode cX5_plain 0 = .ok (.iload_n 1, 1) := by decide +kernel
theorem dX5_plain_1 : decode cX5_plain 1 = .ok (.invokestatic 106, 3) := by decide +kernel
theorem dX5_plain_4 : decode cX5_plain 4 = .ok (.ifCond .ne 5, 3) := by decide +kernel
theorem dX5_plain_7 : decode cX5_plain 7 = .ok (.iconst (-1), 1) := by decide +kernel
theorem dX5_plain_8 : decode cX5_plain 8 = .ok (.ireturn, 1) := by decide +kernel
theorem dX5_plain_9 : decode cX5_plain 9 = .ok (.aload_n 0, 1) := by decide +kernel
theorem dX5_plain_10 : decode cX5_plain 10 = .ok (.iload_n 1, 1) := by decide +kernel
theorem dX5_plain_11 : decode cX5_plain 11 = .ok (.invokevirtual 120, 3) := by decide +kernel
theorem dX5_plain_14 : decode cX5_plain 14 = .ok (.ifCond .eq 8, 3) := by decide +kernel
theorem dX5_plain_17 : decode cX5_plain 17 = .ok (.bipush (-3), 2) := by decide +kernel
theorem dX5_plain_19 : decode cX5_plain 19 = .ok (.goto 16, 3) := by decide +kernel
theorem dX5_plain_22 : decode cX5_plain 22 = .ok (.aload_n 0, 1) := by decide +kernel
theorem dX5_plain_23 : decode cX5_plain 23 = .ok (.iload_n 1, 1) := by decide +kernel
theorem dX5_plain_24 : decode cX5_plain 24 = .ok (.invokevirtual 153, 3) := by decide +kernel
theorem dX5_plain_27 : decode cX5_plain 27 = .ok (.ifCond .eq 7, 3) := by decide +kernel
theorem dX5_plain_30 : decode cX5_plain 30 = .ok (.iconst 1, 1) := by decide +kernel
theorem dX5_plain_31 : decode cX5_plain 31 = .ok (.goto 4, 3) := by decide +kernel
theorem dX5_plain_34 : decode cX5_plain 34 = .ok (.iconst 0, 1) := by decide +kernel
theorem dX5_plain_35 : decode cX5_plain 35 = .ok (.ireturn, 1) := by decide +kernel
theorem dX5_isTrue_0 : decode cX5_isTrue 0 = .ok (.iconst 0, 1) := by decide +kernel
theorem dX5_isTrue_1 : decode cX5_isTrue 1 = .ok (.istore_n 2, 1) := by decide +kernel
theorem dX5_isTrue_2 : decode cX5_isTrue 2 = .ok (.iconst 0, 1) := by decide +kernel
theorem dX5_isTrue_3 : decode cX5_isTrue 3 = .ok (.istore_n 3, 1) := by decide +kernel
theorem dX5_isTrue_4 : decode cX5_isTrue 4 = .ok (.iload_n 3, 1) := by decide +kernel
theorem dX5_isTrue_5 : decode cX5_isTrue 5 = .ok (.aload_n 0, 1) := by decide +kernel
theorem dX5_isTrue_6 : decode cX5_isTrue 6 = .ok (.getfield 73, 3) := by decide +kernel
theorem dX5_isTrue_9 : decode cX5_isTrue 9 = .ok (.if_icmp .ge 189, 3) := by decide +kernel
theorem dX5_isTrue_12 : decode cX5_isTrue 12 = .ok (.aload_n 0, 1) := by decide +kernel
theorem dX5_isTrue_13 : decode cX5_isTrue 13 = .ok (.getfield 29, 3) := by decide +kernel
theorem dX5_isTrue_16 : decode cX5_isTrue 16 = .ok (.iload_n 3, 1) := by decide +kernel
theorem dX5_isTrue_17 : decode cX5_isTrue 17 = .ok (.iaload, 1) := by decide +kernel
theorem dX5_isTrue_18 : decode cX5_isTrue 18 = .ok (.iconst 1, 1) := by decide +kernel
theorem dX5_isTrue_19 : decode cX5_isTrue 19 = .ok (.if_icmp .le 20, 3) := by decide +kernel
theorem dX5_isTrue_22 : decode cX5_isTrue 22 = .ok (.iload_n 2, 1) := by decide +kernel
theorem dX5_isTrue_23 : decode cX5_isTrue 23 = .ok (.aload_n 0, 1) := by decide +kernel
theorem dX5_isTrue_24 : decode cX5_isTrue 24 = .ok (.getfield 32, 3) := by decide +kernel
theorem dX5_isTrue_27 : decode cX5_isTrue 27 = .ok (.iload_n 3, 1) := by decide +kernel
theorem dX5_isTrue_28 : decode cX5_isTrue 28 = .ok (.iaload, 1) := by decide +kernel
theorem dX5_isTrue_29 : decode cX5_isTrue 29 = .ok (.invokestatic 134, 3) := by decide +kernel
theorem dX5_isTrue_32 : decode cX5_isTrue 32 = .ok (.ifCond .eq 7, 3) := by decide +kernel
theorem dX5_isTrue_35 : decode cX5_isTrue 35 = .ok (.iconst 1, 1) := by decide +kernel
theorem dX5_isTrue_36 : decode cX5_isTrue 36 = .ok (.goto 4, 3) := by decide +kernel
theorem dX5_isTrue_39 : decode cX5_isTrue 39 = .ok (.iconst 0, 1) := by decide +kernel
theorem dX5_isTrue_40 : decode cX5_isTrue 40 = .ok (.istore 4, 2) := by decide +kernel
theorem dX5_isTrue_42 : decode cX5_isTrue 42 = .ok (.aload_n 0, 1) := by decide +kernel
theorem dX5_isTrue_43 : decode cX5_isTrue 43 = .ok (.getfield 29, 3) := by decide +kernel
theorem dX5_isTrue_46 : decode cX5_isTrue 46 = .ok (.iload_n 3, 1) := by decide +kernel
theorem dX5_isTrue_47 : decode cX5_isTrue 47 = .ok (.iaload, 1) := by decide +kernel
theorem dX5_isTrue_48 : decode cX5_isTrue 48 = .ok (.iconst 1, 1) := by decide +kernel
theorem dX5_isTrue_49 : decode cX5_isTrue 49 = .ok (.if_icmp .le 20, 3) := by decide +kernel
theorem dX5_isTrue_52 : decode cX5_isTrue 52 = .ok (.iload_n 2, 1) := by decide +kernel
theorem dX5_isTrue_53 : decode cX5_isTrue 53 = .ok (.aload_n 0, 1) := by decide +kernel
theorem dX5_isTrue_54 : decode cX5_isTrue 54 = .ok (.getfield 35, 3) := by decide +kernel
theorem dX5_isTrue_57 : decode cX5_isTrue 57 = .ok (.iload_n 3, 1) := by decide +kernel
theorem dX5_isTrue_58 : decode cX5_isTrue 58 = .ok (.iaload, 1) := by decide +kernel
theorem dX5_isTrue_59 : decode cX5_isTrue 59 = .ok (.invokestatic 134, 3) := by decide +kernel
theorem dX5_isTrue_62 : decode cX5_isTrue 62 = .ok (.ifCond .eq 7, 3) := by decide +kernel
theorem dX5_isTrue_65 : decode cX5_isTrue 65 = .ok (.iconst 1, 1) := by decide +kernel
theorem dX5_isTrue_66 : decode cX5_isTrue 66 = .ok (.goto 4, 3) := by decide +kernel
theorem dX5_isTrue_69 : decode cX5_isTrue 69 = .ok (.iconst 0, 1) := by decide +kernel
theorem dX5_isTrue_70 : decode cX5_isTrue 70 = .ok (.istore 5, 2) := by decide +kernel
theorem dX5_isTrue_72 : decode cX5_isTrue 72 = .ok (.aload_n 0, 1) := by decide +kernel
theorem dX5_isTrue_73 : decode cX5_isTrue 73 = .ok (.getfield 29, 3) := by decide +kernel
theorem dX5_isTrue_76 : decode cX5_isTrue 76 = .ok (.iload_n 3, 1) := by decide +kernel
theorem dX5_isTrue_77 : decode cX5_isTrue 77 = .ok (.iaload, 1) := by decide +kernel
theorem dX5_isTrue_78 : decode cX5_isTrue 78 = .ok (.ifCond .ne 16, 3) := by decide +kernel
theorem dX5_isTrue_81 : decode cX5_isTrue 81 = .ok (.iload_n 1, 1) := by decide +kernel
theorem dX5_isTrue_82 : decode cX5_isTrue 82 = .ok (.aload_n 0, 1) := by decide +kernel
theorem dX5_isTrue_83 : decode cX5_isTrue 83 = .ok (.getfield 32, 3) := by decide +kernel
theorem dX5_isTrue_86 : decode cX5_isTrue 86 = .ok (.iload_n 3, 1) := by decide +kernel
theorem dX5_isTrue_87 : decode cX5_isTrue 87 = .ok (.iaload, 1) := by decide +kernel
theorem dX5_isTrue_88 : decode cX5_isTrue 88 = .ok (.invokestatic 134, 3) := by decide +kernel
theorem dX5_isTrue_91 : decode cX5_isTrue 91 = .ok (.goto 84, 3) := by decide +kernel
theorem dX5_isTrue_94 : decode cX5_isTrue 94 = .ok (.aload_n 0, 1) := by decide +kernel
theorem dX5_isTrue_95 : decode cX5_isTrue 95 = .ok (.getfield 29, 3) := by decide +kernel
theorem dX5_isTrue_98 : decode cX5_isTrue 98 = .ok (.iload_n 3, 1) := by decide +kernel
theorem dX5_isTrue_99 : decode cX5_isTrue 99 = .ok (.iaload, 1) := by decide +kernel
theorem dX5_isTrue_100 : decode cX5_isTrue 100 = .ok (.iconst 2, 1) := by decide +kernel
theorem dX5_isTrue_101 : decode cX5_isTrue 101 = .ok (.if_icmp .ne 21, 3) := by decide +kernel
theorem dX5_isTrue_104 : decode cX5_isTrue 104 = .ok (.iload 4, 2) := by decide +kernel
theorem dX5_isTrue_106 : decode cX5_isTrue 106 = .ok (.ifCond .eq 12, 3) := by decide +kernel
theorem dX5_isTrue_109 : decode cX5_isTrue 109 = .ok (.iload 5, 2) := by decide +kernel
theorem dX5_isTrue_111 : decode cX5_isTrue 111 = .ok (.ifCond .eq 7, 3) := by decide +kernel
theorem dX5_isTrue_114 : decode cX5_isTrue 114 = .ok (.iconst 1, 1) := by decide +kernel
theorem dX5_isTrue_115 : decode cX5_isTrue 115 = .ok (.goto 60, 3) := by decide +kernel
theorem dX5_isTrue_118 : decode cX5_isTrue 118 = .ok (.iconst 0, 1) := by decide +kernel
theorem dX5_isTrue_119 : decode cX5_isTrue 119 = .ok (.goto 56, 3) := by decide +kernel
theorem dX5_isTrue_122 : decode cX5_isTrue 122 = .ok (.aload_n 0, 1) := by decide +kernel
theorem dX5_isTrue_123 : decode cX5_isTrue 123 = .ok (.getfield 29, 3) := by decide +kernel
theorem dX5_isTrue_126 : decode cX5_isTrue 126 = .ok (.iload_n 3, 1) := by decide +kernel
theorem dX5_isTrue_127 : decode cX5_isTrue 127 = .ok (.iaload, 1) := by decide +kernel
theorem dX5_isTrue_128 : decode cX5_isTrue 128 = .ok (.iconst 3, 1) := by decide +kernel
theorem dX5_isTrue_129 : decode cX5_isTrue 129 = .ok (.if_icmp .ne 21, 3) := by decide +kernel
theorem dX5_isTrue_132 : decode cX5_isTrue 132 = .ok (.iload 4, 2) := by decide +kernel
theorem dX5_isTrue_134 : decode cX5_isTrue 134 = .ok (.ifCond .ne 8, 3) := by decide +kernel
theorem dX5_isTrue_137 : decode cX5_isTrue 137 = .ok (.iload 5, 2) := by decide +kernel
theorem dX5_isTrue_139 : decode cX5_isTrue 139 = .ok (.ifCond .eq 7, 3) := by decide +kernel
theorem dX5_isTrue_142 : decode cX5_isTrue 142 = .ok (.iconst 1, 1) := by decide +kernel
theorem dX5_isTrue_143 : decode cX5_isTrue 143 = .ok (.goto 32, 3) := by decide +kernel
theorem dX5_isTrue_146 : decode cX5_isTrue 146 = .ok (.iconst 0, 1) := by decide +kernel
theorem dX5_isTrue_147 : decode cX5_isTrue 147 = .ok (.goto 28, 3) := by decide +kernel
theorem dX5_isTrue_150 : decode cX5_isTrue 150 = .ok (.aload_n 0, 1) := by decide +kernel
theorem dX5_isTrue_151 : decode cX5_isTrue 151 = .ok (.getfield 29, 3) := by decide +kernel
theorem dX5_isTrue_154 : decode cX5_isTrue 154 = .ok (.iload_n 3, 1) := by decide +kernel
theorem dX5_isTrue_155 : decode cX5_isTrue 155 = .ok (.iaload, 1) := by decide +kernel
theorem dX5_isTrue_156 : decode cX5_isTrue 156 = .ok (.iconst 4, 1) := by decide +kernel
theorem dX5_isTrue_157 : decode cX5_isTrue 157 = .ok (.if_icmp .ne 17, 3) := by decide +kernel
theorem dX5_isTrue_160 : decode cX5_isTrue 160 = .ok (.iload 4, 2) := by decide +kernel
theorem dX5_isTrue_162 : decode cX5_isTrue 162 = .ok (.ifCond .eq 8, 3) := by decide +kernel
theorem dX5_isTrue_165 : decode cX5_isTrue 165 = .ok (.iload 5, 2) := by decide +kernel
theorem dX5_isTrue_167 : decode cX5_isTrue 167 = .ok (.ifCond .eq 7, 3) := by decide +kernel
theorem dX5_isTrue_170 : decode cX5_isTrue 170 = .ok (.iconst 1, 1) := by decide +kernel
theorem dX5_isTrue_171 : decode cX5_isTrue 171 = .ok (.goto 4, 3) := by decide +kernel
theorem dX5_isTrue_174 : decode cX5_isTrue 174 = .ok (.iconst 0, 1) := by decide +kernel
theorem dX5_isTrue_175 : decode cX5_isTrue 175 = .ok (.istore 6, 2) := by decide +kernel
theorem dX5_isTrue_177 : decode cX5_isTrue 177 = .ok (.iload_n 2, 1) := by decide +kernel
theorem dX5_isTrue_178 : decode cX5_isTrue 178 = .ok (.iload 6, 2) := by decide +kernel
theorem dX5_isTrue_180 : decode cX5_isTrue 180 = .ok (.ifCond .eq 9, 3) := by decide +kernel
theorem dX5_isTrue_183 : decode cX5_isTrue 183 = .ok (.iconst 1, 1) := by decide +kernel
theorem dX5_isTrue_184 : decode cX5_isTrue 184 = .ok (.iload_n 3, 1) := by decide +kernel
theorem dX5_isTrue_185 : decode cX5_isTrue 185 = .ok (.ishl, 1) := by decide +kernel
theorem dX5_isTrue_186 : decode cX5_isTrue 186 = .ok (.goto 4, 3) := by decide +kernel
theorem dX5_isTrue_189 : decode cX5_isTrue 189 = .ok (.iconst 0, 1) := by decide +kernel
theorem dX5_isTrue_190 : decode cX5_isTrue 190 = .ok (.ior, 1) := by decide +kernel
theorem dX5_isTrue_191 : decode cX5_isTrue 191 = .ok (.istore_n 2, 1) := by decide +kernel
theorem dX5_isTrue_192 : decode cX5_isTrue 192 = .ok (.iinc 3 1, 3) := by decide +kernel
theorem dX5_isTrue_195 : decode cX5_isTrue 195 = .ok (.goto (-191), 3) := by decide +kernel
theorem dX5_isTrue_198 : decode cX5_isTrue 198 = .ok (.iload_n 2, 1) := by decide +kernel
theorem dX5_isTrue_199 : decode cX5_isTrue 199 = .ok (.aload_n 0, 1) := by decide +kernel
theorem dX5_isTrue_200 : decode cX5_isTrue 200 = .ok (.getfield 73, 3) := by decide +kernel
theorem dX5_isTrue_203 : decode cX5_isTrue 203 = .ok (.iconst 1, 1) := by decide +kernel
theorem dX5_isTrue_204 : decode cX5_isTrue 204 = .ok (.isub, 1) := by decide +kernel
theorem dX5_isTrue_205 : decode cX5_isTrue 205 = .ok (.invokestatic 134, 3) := by decide +kernel
theorem dX5_isTrue_208 : decode cX5_isTrue 208 = .ok (.ireturn, 1) := by decide +kernel
theorem dX5_isTrueByRows_0 : decode cX5_isTrueByRows 0 = .ok (.aload_n 0, 1) := by decide +kernel
theorem dX5_isTrueByRows_1 : decode cX5_isTrueByRows 1 = .ok (.iload_n 1, 1) := by decide +kernel
theorem dX5_isTrueByRows_2 : decode cX5_isTrueByRows 2 = .ok (.invokevirtual 117, 3) := by decide +kernel
theorem dX5_isTrueByRows_5 : decode cX5_isTrueByRows 5 = .ok (.iconst 1, 1) := by decide +kernel
theorem dX5_isTrueByRows_6 : decode cX5_isTrueByRows 6 = .ok (.istore_n 2, 1) := by decide +kernel
theorem dX5_isTrueByRows_7 : decode cX5_isTrueByRows 7 = .ok (.iconst 0, 1) := by decide +kernel
theorem dX5_isTrueByRows_8 : decode cX5_isTrueByRows 8 = .ok (.istore_n 3, 1) := by decide +kernel
theorem dX5_isTrueByRows_9 : decode cX5_isTrueByRows 9 = .ok (.iload_n 3, 1) := by decide +kernel
theorem dX5_isTrueByRows_10 : decode cX5_isTrueByRows 10 = .ok (.bipush 16, 2) := by decide +kernel
theorem dX5_isTrueByRows_12 : decode cX5_isTrueByRows 12 = .ok (.if_icmp .ge 27, 3) := by decide +kernel
theorem dX5_isTrueByRows_15 : decode cX5_isTrueByRows 15 = .ok (.iload_n 2, 1) := by decide +kernel
theorem dX5_isTrueByRows_16 : decode cX5_isTrueByRows 16 = .ok (.ifCond .eq 15, 3) := by decide +kernel
theorem dX5_isTrueByRows_19 : decode cX5_isTrueByRows 19 = .ok (.aload_n 0, 1) := by decide +kernel
theorem dX5_isTrueByRows_20 : decode cX5_isTrueByRows 20 = .ok (.iload_n 3, 1) := by decide +kernel
theorem dX5_isTrueByRows_21 : decode cX5_isTrueByRows 21 = .ok (.invokevirtual 156, 3) := by decide +kernel
theorem dX5_isTrueByRows_24 : decode cX5_isTrueByRows 24 = .ok (.ifCond .eq 7, 3) := by decide +kernel
theorem dX5_isTrueByRows_27 : decode cX5_isTrueByRows 27 = .ok (.iconst 1, 1) := by decide +kernel
theorem dX5_isTrueByRows_28 : decode cX5_isTrueByRows 28 = .ok (.goto 4, 3) := by decide +kernel
theorem dX5_isTrueByRows_31 : decode cX5_isTrueByRows 31 = .ok (.iconst 0, 1) := by decide +kernel
theorem dX5_isTrueByRows_32 : decode cX5_isTrueByRows 32 = .ok (.istore_n 2, 1) := by decide +kernel
theorem dX5_isTrueByRows_33 : decode cX5_isTrueByRows 33 = .ok (.iinc 3 1, 3) := by decide +kernel
theorem dX5_isTrueByRows_36 : decode cX5_isTrueByRows 36 = .ok (.goto (-27), 3) := by decide +kernel
theorem dX5_isTrueByRows_39 : decode cX5_isTrueByRows 39 = .ok (.iload_n 2, 1) := by decide +kernel
theorem dX5_isTrueByRows_40 : decode cX5_isTrueByRows 40 = .ok (.ireturn, 1) := by decide +kernel
theorem dX5_rows_0 : decode cX5_rows 0 = .ok (.iload_n 1, 1) := by decide +kernel
theorem dX5_rows_1 : decode cX5_rows 1 = .ok (.invokestatic 106, 3) := by decide +kernel
theorem dX5_rows_4 : decode cX5_rows 4 = .ok (.ifCond .ne 5, 3) := by decide +kernel
theorem dX5_rows_7 : decode cX5_rows 7 = .ok (.iconst (-1), 1) := by decide +kernel
theorem dX5_rows_8 : decode cX5_rows 8 = .ok (.ireturn, 1) := by decide +kernel
theorem dX5_rows_9 : decode cX5_rows 9 = .ok (.aload_n 0, 1) := by decide +kernel
theorem dX5_rows_10 : decode cX5_rows 10 = .ok (.iload_n 1, 1) := by decide +kernel
theorem dX5_rows_11 : decode cX5_rows 11 = .ok (.invokevirtual 120, 3) := by decide +kernel
theorem dX5_rows_14 : decode cX5_rows 14 = .ok (.ifCond .eq 8, 3) := by decide +kernel
theorem dX5_rows_17 : decode cX5_rows 17 = .ok (.bipush (-3), 2) := by decide +kernel
theorem dX5_rows_19 : decode cX5_rows 19 = .ok (.goto 16, 3) := by decide +kernel
theorem dX5_rows_22 : decode cX5_rows 22 = .ok (.aload_n 0, 1) := by decide +kernel
theorem dX5_rows_23 : decode cX5_rows 23 = .ok (.iload_n 1, 1) := by decide +kernel
theorem dX5_rows_24 : decode cX5_rows 24 = .ok (.invokevirtual 159, 3) := by decide +kernel
theorem dX5_rows_27 : decode cX5_rows 27 = .ok (.ifCond .eq 7, 3) := by decide +kernel
theorem dX5_rows_30 : decode cX5_rows 30 = .ok (.iconst 1, 1) := by decide +kernel
theorem dX5_rows_31 : decode cX5_rows 31 = .ok (.goto 4, 3) := by decide +kernel
theorem dX5_rows_34 : decode cX5_rows 34 = .ok (.iconst 0, 1) := by decide +kernel
theorem dX5_rows_35 : decode cX5_rows 35 = .ok (.ireturn, 1) := by decide +kernel
theorem dX5_follows_0 : decode cX5_follows 0 = .ok (.iload_n 1, 1) := by decide +kernel
theorem dX5_follows_1 : decode cX5_follows 1 = .ok (.invokestatic 106, 3) := by decide +kernel
theorem dX5_follows_4 : decode cX5_follows 4 = .ok (.ifCond .eq 10, 3) := by decide +kernel
theorem dX5_follows_7 : decode cX5_follows 7 = .ok (.iload_n 2, 1) := by decide +kernel
theorem dX5_follows_8 : decode cX5_follows 8 = .ok (.invokestatic 106, 3) := by decide +kernel
theorem dX5_follows_11 : decode cX5_follows 11 = .ok (.ifCond .ne 5, 3) := by decide +kernel
theorem dX5_follows_14 : decode cX5_follows 14 = .ok (.iconst (-1), 1) := by decide +kernel
theorem dX5_follows_15 : decode cX5_follows 15 = .ok (.ireturn, 1) := by decide +kernel
theorem dX5_follows_16 : decode cX5_follows 16 = .ok (.aload_n 0, 1) := by decide +kernel
theorem dX5_follows_17 : decode cX5_follows 17 = .ok (.iload_n 1, 1) := by decide +kernel
theorem dX5_follows_18 : decode cX5_follows 18 = .ok (.invokevirtual 120, 3) := by decide +kernel
theorem dX5_follows_21 : decode cX5_follows 21 = .ok (.ifCond .ne 11, 3) := by decide +kernel
theorem dX5_follows_24 : decode cX5_follows 24 = .ok (.aload_n 0, 1) := by decide +kernel
theorem dX5_follows_25 : decode cX5_follows 25 = .ok (.iload_n 2, 1) := by decide +kernel
theorem dX5_follows_26 : decode cX5_follows 26 = .ok (.invokevirtual 120, 3) := by decide +kernel
theorem dX5_follows_29 : decode cX5_follows 29 = .ok (.ifCond .eq 6, 3) := by decide +kernel
theorem dX5_follows_32 : decode cX5_follows 32 = .ok (.bipush (-3), 2) := by decide +kernel
theorem dX5_follows_34 : decode cX5_follows 34 = .ok (.ireturn, 1) := by decide +kernel
theorem dX5_follows_35 : decode cX5_follows 35 = .ok (.aload_n 0, 1) := by decide +kernel
theorem dX5_follows_36 : decode cX5_follows 36 = .ok (.iload_n 1, 1) := by decide +kernel
theorem dX5_follows_37 : decode cX5_follows 37 = .ok (.iload_n 2, 1) := by decide +kernel
theorem dX5_follows_38 : decode cX5_follows 38 = .ok (.iconst 4, 1) := by decide +kernel
theorem dX5_follows_39 : decode cX5_follows 39 = .ok (.invokevirtual 123, 3) := by decide +kernel
theorem dX5_follows_42 : decode cX5_follows 42 = .ok (.aload_n 0, 1) := by decide +kernel
theorem dX5_follows_43 : decode cX5_follows 43 = .ok (.getfield 73, 3) := by decide +kernel
theorem dX5_follows_46 : decode cX5_follows 46 = .ok (.bipush 11, 2) := by decide +kernel
theorem dX5_follows_48 : decode cX5_follows 48 = .ok (.if_icmp .le 8, 3) := by decide +kernel
theorem dX5_follows_51 : decode cX5_follows 51 = .ok (.bipush (-4), 2) := by decide +kernel
theorem dX5_follows_53 : decode cX5_follows 53 = .ok (.goto 22, 3) := by decide +kernel
theorem dX5_follows_56 : decode cX5_follows 56 = .ok (.aload_n 0, 1) := by decide +kernel
theorem dX5_follows_57 : decode cX5_follows 57 = .ok (.iconst 0, 1) := by decide +kernel
theorem dX5_follows_58 : decode cX5_follows 58 = .ok (.aload_n 0, 1) := by decide +kernel
theorem dX5_follows_59 : decode cX5_follows 59 = .ok (.getfield 73, 3) := by decide +kernel
theorem dX5_follows_62 : decode cX5_follows 62 = .ok (.iconst 1, 1) := by decide +kernel
theorem dX5_follows_63 : decode cX5_follows 63 = .ok (.isub, 1) := by decide +kernel
theorem dX5_follows_64 : decode cX5_follows 64 = .ok (.invokevirtual 150, 3) := by decide +kernel
theorem dX5_follows_67 : decode cX5_follows 67 = .ok (.ifCond .eq 7, 3) := by decide +kernel
theorem dX5_follows_70 : decode cX5_follows 70 = .ok (.iconst 1, 1) := by decide +kernel
theorem dX5_follows_71 : decode cX5_follows 71 = .ok (.goto 4, 3) := by decide +kernel
theorem dX5_follows_74 : decode cX5_follows 74 = .ok (.iconst 0, 1) := by decide +kernel
theorem dX5_follows_75 : decode cX5_follows 75 = .ok (.ireturn, 1) := by decide +kernel
theorem dX5_from_0 : decode cX5_from 0 = .ok (.iload_n 1, 1) := by decide +kernel
theorem dX5_from_1 : decode cX5_from 1 = .ok (.invokestatic 106, 3) := by decide +kernel
theorem dX5_from_4 : decode cX5_from 4 = .ok (.ifCond .ne 5, 3) := by decide +kernel
theorem dX5_from_7 : decode cX5_from 7 = .ok (.iconst (-1), 1) := by decide +kernel
theorem dX5_from_8 : decode cX5_from 8 = .ok (.ireturn, 1) := by decide +kernel
theorem dX5_from_9 : decode cX5_from 9 = .ok (.aload_n 0, 1) := by decide +kernel
theorem dX5_from_10 : decode cX5_from 10 = .ok (.iload_n 1, 1) := by decide +kernel
theorem dX5_from_11 : decode cX5_from 11 = .ok (.invokevirtual 120, 3) := by decide +kernel
theorem dX5_from_14 : decode cX5_from 14 = .ok (.ifCond .eq 6, 3) := by decide +kernel
theorem dX5_from_17 : decode cX5_from 17 = .ok (.bipush (-3), 2) := by decide +kernel
theorem dX5_from_19 : decode cX5_from 19 = .ok (.ireturn, 1) := by decide +kernel
theorem dX5_from_20 : decode cX5_from 20 = .ok (.iload_n 3, 1) := by decide +kernel
theorem dX5_from_21 : decode cX5_from 21 = .ok (.iconst 0, 1) := by decide +kernel
theorem dX5_from_22 : decode cX5_from 22 = .ok (.aload_n 0, 1) := by decide +kernel
theorem dX5_from_23 : decode cX5_from 23 = .ok (.getfield 7, 3) := by decide +kernel
theorem dX5_from_26 : decode cX5_from 26 = .ok (.iload_n 1, 1) := by decide +kernel
theorem dX5_from_27 : decode cX5_from 27 = .ok (.iaload, 1) := by decide +kernel
theorem dX5_from_28 : decode cX5_from 28 = .ok (.iconst 1, 1) := by decide +kernel
theorem dX5_from_29 : decode cX5_from 29 = .ok (.isub, 1) := by decide +kernel
theorem dX5_from_30 : decode cX5_from 30 = .ok (.invokestatic 69, 3) := by decide +kernel
theorem dX5_from_33 : decode cX5_from 33 = .ok (.ifCond .eq 21, 3) := by decide +kernel
theorem dX5_from_36 : decode cX5_from 36 = .ok (.iload_n 2, 1) := by decide +kernel
theorem dX5_from_37 : decode cX5_from 37 = .ok (.iconst 0, 1) := by decide +kernel
theorem dX5_from_38 : decode cX5_from 38 = .ok (.iconst 1, 1) := by decide +kernel
theorem dX5_from_39 : decode cX5_from 39 = .ok (.aload_n 0, 1) := by decide +kernel
theorem dX5_from_40 : decode cX5_from 40 = .ok (.getfield 7, 3) := by decide +kernel
theorem dX5_from_43 : decode cX5_from 43 = .ok (.iload_n 1, 1) := by decide +kernel
theorem dX5_from_44 : decode cX5_from 44 = .ok (.iaload, 1) := by decide +kernel
theorem dX5_from_45 : decode cX5_from 45 = .ok (.ishl, 1) := by decide +kernel
theorem dX5_from_46 : decode cX5_from 46 = .ok (.iconst 1, 1) := by decide +kernel
theorem dX5_from_47 : decode cX5_from 47 = .ok (.isub, 1) := by decide +kernel
theorem dX5_from_48 : decode cX5_from 48 = .ok (.invokestatic 69, 3) := by decide +kernel
theorem dX5_from_51 : decode cX5_from 51 = .ok (.ifCond .ne 6, 3) := by decide +kernel
theorem dX5_from_54 : decode cX5_from 54 = .ok (.bipush (-2), 2) := by decide +kernel
theorem dX5_from_56 : decode cX5_from 56 = .ok (.ireturn, 1) := by decide +kernel
theorem dX5_from_57 : decode cX5_from 57 = .ok (.aload_n 0, 1) := by decide +kernel
theorem dX5_from_58 : decode cX5_from 58 = .ok (.iload_n 1, 1) := by decide +kernel
theorem dX5_from_59 : decode cX5_from 59 = .ok (.invokevirtual 117, 3) := by decide +kernel
theorem dX5_from_62 : decode cX5_from 62 = .ok (.aload_n 0, 1) := by decide +kernel
theorem dX5_from_63 : decode cX5_from 63 = .ok (.iload_n 2, 1) := by decide +kernel
theorem dX5_from_64 : decode cX5_from 64 = .ok (.iload_n 3, 1) := by decide +kernel
theorem dX5_from_65 : decode cX5_from 65 = .ok (.invokevirtual 150, 3) := by decide +kernel
theorem dX5_from_68 : decode cX5_from 68 = .ok (.ifCond .eq 7, 3) := by decide +kernel
theorem dX5_from_71 : decode cX5_from 71 = .ok (.iconst 1, 1) := by decide +kernel
theorem dX5_from_72 : decode cX5_from 72 = .ok (.goto 4, 3) := by decide +kernel
theorem dX5_from_75 : decode cX5_from 75 = .ok (.iconst 0, 1) := by decide +kernel
theorem dX5_from_76 : decode cX5_from 76 = .ok (.ireturn, 1) := by decide +kernel
theorem dX5_isAbove_0 : decode cX5_isAbove 0 = .ok (.aload_n 0, 1) := by decide +kernel
theorem dX5_isAbove_1 : decode cX5_isAbove 1 = .ok (.getfield 56, 3) := by decide +kernel
theorem dX5_isAbove_4 : decode cX5_isAbove 4 = .ok (.iload_n 1, 1) := by decide +kernel
theorem dX5_isAbove_5 : decode cX5_isAbove 5 = .ok (.iaload, 1) := by decide +kernel
theorem dX5_isAbove_6 : decode cX5_isAbove 6 = .ok (.aload_n 0, 1) := by decide +kernel
theorem dX5_isAbove_7 : decode cX5_isAbove 7 = .ok (.getfield 56, 3) := by decide +kernel
theorem dX5_isAbove_10 : decode cX5_isAbove 10 = .ok (.iload_n 2, 1) := by decide +kernel
theorem dX5_isAbove_11 : decode cX5_isAbove 11 = .ok (.iaload, 1) := by decide +kernel
theorem dX5_isAbove_12 : decode cX5_isAbove 12 = .ok (.if_icmp .eq 25, 3) := by decide +kernel
theorem dX5_isAbove_15 : decode cX5_isAbove 15 = .ok (.aload_n 0, 1) := by decide +kernel
theorem dX5_isAbove_16 : decode cX5_isAbove 16 = .ok (.getfield 56, 3) := by decide +kernel
theorem dX5_isAbove_19 : decode cX5_isAbove 19 = .ok (.iload_n 2, 1) := by decide +kernel
theorem dX5_isAbove_20 : decode cX5_isAbove 20 = .ok (.iaload, 1) := by decide +kernel
theorem dX5_isAbove_21 : decode cX5_isAbove 21 = .ok (.aload_n 0, 1) := by decide +kernel
theorem dX5_isAbove_22 : decode cX5_isAbove 22 = .ok (.getfield 56, 3) := by decide +kernel
theorem dX5_isAbove_25 : decode cX5_isAbove 25 = .ok (.iload_n 1, 1) := by decide +kernel
theorem dX5_isAbove_26 : decode cX5_isAbove 26 = .ok (.iaload, 1) := by decide +kernel
theorem dX5_isAbove_27 : decode cX5_isAbove 27 = .ok (.iconst (-1), 1) := by decide +kernel
theorem dX5_isAbove_28 : decode cX5_isAbove 28 = .ok (.ixor, 1) := by decide +kernel
theorem dX5_isAbove_29 : decode cX5_isAbove 29 = .ok (.iand, 1) := by decide +kernel
theorem dX5_isAbove_30 : decode cX5_isAbove 30 = .ok (.ifCond .ne 7, 3) := by decide +kernel
theorem dX5_isAbove_33 : decode cX5_isAbove 33 = .ok (.iconst 1, 1) := by decide +kernel
theorem dX5_isAbove_34 : decode cX5_isAbove 34 = .ok (.goto 4, 3) := by decide +kernel
theorem dX5_isAbove_37 : decode cX5_isAbove 37 = .ok (.iconst 0, 1) := by decide +kernel
theorem dX5_isAbove_38 : decode cX5_isAbove 38 = .ok (.ireturn, 1) := by decide +kernel
theorem dX5_layHeights_0 : decode cX5_layHeights 0 = .ok (.aload_n 0, 1) := by decide +kernel
theorem dX5_layHeights_1 : decode cX5_layHeights 1 = .ok (.getfield 138, 3) := by decide +kernel
theorem dX5_layHeights_4 : decode cX5_layHeights 4 = .ok (.iconst 1, 1) := by decide +kernel
theorem dX5_layHeights_5 : decode cX5_layHeights 5 = .ok (.isub, 1) := by decide +kernel
theorem dX5_layHeights_6 : decode cX5_layHeights 6 = .ok (.istore_n 1, 1) := by decide +kernel
theorem dX5_layHeights_7 : decode cX5_layHeights 7 = .ok (.iload_n 1, 1) := by decide +kernel
theorem dX5_layHeights_8 : decode cX5_layHeights 8 = .ok (.ifCond .lt 81, 3) := by decide +kernel
theorem dX5_layHeights_11 : decode cX5_layHeights 11 = .ok (.aload_n 0, 1) := by decide +kernel
theorem dX5_layHeights_12 : decode cX5_layHeights 12 = .ok (.getfield 63, 3) := by decide +kernel
theorem dX5_layHeights_15 : decode cX5_layHeights 15 = .ok (.iload_n 1, 1) := by decide +kernel
theorem dX5_layHeights_16 : decode cX5_layHeights 16 = .ok (.iconst 0, 1) := by decide +kernel
theorem dX5_layHeights_17 : decode cX5_layHeights 17 = .ok (.iastore, 1) := by decide +kernel
theorem dX5_layHeights_18 : decode cX5_layHeights 18 = .ok (.iload_n 1, 1) := by decide +kernel
theorem dX5_layHeights_19 : decode cX5_layHeights 19 = .ok (.iconst 1, 1) := by decide +kernel
theorem dX5_layHeights_20 : decode cX5_layHeights 20 = .ok (.iadd, 1) := by decide +kernel
theorem dX5_layHeights_21 : decode cX5_layHeights 21 = .ok (.istore_n 2, 1) := by decide +kernel
theorem dX5_layHeights_22 : decode cX5_layHeights 22 = .ok (.iload_n 2, 1) := by decide +kernel
theorem dX5_layHeights_23 : decode cX5_layHeights 23 = .ok (.aload_n 0, 1) := by decide +kernel
theorem dX5_layHeights_24 : decode cX5_layHeights 24 = .ok (.getfield 138, 3) := by decide +kernel
theorem dX5_layHeights_27 : decode cX5_layHeights 27 = .ok (.if_icmp .ge 56, 3) := by decide +kernel
theorem dX5_layHeights_30 : decode cX5_layHeights 30 = .ok (.aload_n 0, 1) := by decide +kernel
theorem dX5_layHeights_31 : decode cX5_layHeights 31 = .ok (.getfield 63, 3) := by decide +kernel
theorem dX5_layHeights_34 : decode cX5_layHeights 34 = .ok (.iload_n 1, 1) := by decide +kernel
theorem dX5_layHeights_35 : decode cX5_layHeights 35 = .ok (.aload_n 0, 1) := by decide +kernel
theorem dX5_layHeights_36 : decode cX5_layHeights 36 = .ok (.iload_n 2, 1) := by decide +kernel
theorem dX5_layHeights_37 : decode cX5_layHeights 37 = .ok (.iload_n 1, 1) := by decide +kernel
theorem dX5_layHeights_38 : decode cX5_layHeights 38 = .ok (.invokevirtual 162, 3) := by decide +kernel
theorem dX5_layHeights_41 : decode cX5_layHeights 41 = .ok (.ifCond .eq 29, 3) := by decide +kernel
theorem dX5_layHeights_44 : decode cX5_layHeights 44 = .ok (.aload_n 0, 1) := by decide +kernel
theorem dX5_layHeights_45 : decode cX5_layHeights 45 = .ok (.getfield 63, 3) := by decide +kernel
theorem dX5_layHeights_48 : decode cX5_layHeights 48 = .ok (.iload_n 2, 1) := by decide +kernel
theorem dX5_layHeights_49 : decode cX5_layHeights 49 = .ok (.iaload, 1) := by decide +kernel
theorem dX5_layHeights_50 : decode cX5_layHeights 50 = .ok (.aload_n 0, 1) := by decide +kernel
theorem dX5_layHeights_51 : decode cX5_layHeights 51 = .ok (.getfield 63, 3) := by decide +kernel
theorem dX5_layHeights_54 : decode cX5_layHeights 54 = .ok (.iload_n 1, 1) := by decide +kernel
theorem dX5_layHeights_55 : decode cX5_layHeights 55 = .ok (.iaload, 1) := by decide +kernel
theorem dX5_layHeights_56 : decode cX5_layHeights 56 = .ok (.if_icmp .lt 14, 3) := by decide +kernel
theorem dX5_layHeights_59 : decode cX5_layHeights 59 = .ok (.aload_n 0, 1) := by decide +kernel
theorem dX5_layHeights_60 : decode cX5_layHeights 60 = .ok (.getfield 63, 3) := by decide +kernel
theorem dX5_layHeights_63 : decode cX5_layHeights 63 = .ok (.iload_n 2, 1) := by decide +kernel
theorem dX5_layHeights_64 : decode cX5_layHeights 64 = .ok (.iaload, 1) := by decide +kernel
theorem dX5_layHeights_65 : decode cX5_layHeights 65 = .ok (.iconst 1, 1) := by decide +kernel
theorem dX5_layHeights_66 : decode cX5_layHeights 66 = .ok (.iadd, 1) := by decide +kernel
theorem dX5_layHeights_67 : decode cX5_layHeights 67 = .ok (.goto 9, 3) := by decide +kernel
theorem dX5_layHeights_70 : decode cX5_layHeights 70 = .ok (.aload_n 0, 1) := by decide +kernel
theorem dX5_layHeights_71 : decode cX5_layHeights 71 = .ok (.getfield 63, 3) := by decide +kernel
theorem dX5_layHeights_74 : decode cX5_layHeights 74 = .ok (.iload_n 1, 1) := by decide +kernel
theorem dX5_layHeights_75 : decode cX5_layHeights 75 = .ok (.iaload, 1) := by decide +kernel
theorem dX5_layHeights_76 : decode cX5_layHeights 76 = .ok (.iastore, 1) := by decide +kernel
theorem dX5_layHeights_77 : decode cX5_layHeights 77 = .ok (.iinc 2 1, 3) := by decide +kernel
theorem dX5_layHeights_80 : decode cX5_layHeights 80 = .ok (.goto (-58), 3) := by decide +kernel
theorem dX5_layHeights_83 : decode cX5_layHeights 83 = .ok (.iinc 1 (-1), 3) := by decide +kernel
theorem dX5_layHeights_86 : decode cX5_layHeights 86 = .ok (.goto (-79), 3) := by decide +kernel
theorem dX5_layHeights_89 : decode cX5_layHeights 89 = .ok (.return_, 1) := by decide +kernel
theorem dX5_aboveOf_0 : decode cX5_aboveOf 0 = .ok (.iconst 0, 1) := by decide +kernel
theorem dX5_aboveOf_1 : decode cX5_aboveOf 1 = .ok (.istore_n 2, 1) := by decide +kernel
theorem dX5_aboveOf_2 : decode cX5_aboveOf 2 = .ok (.iconst 0, 1) := by decide +kernel
theorem dX5_aboveOf_3 : decode cX5_aboveOf 3 = .ok (.istore_n 3, 1) := by decide +kernel
theorem dX5_aboveOf_4 : decode cX5_aboveOf 4 = .ok (.iload_n 3, 1) := by decide +kernel
theorem dX5_aboveOf_5 : decode cX5_aboveOf 5 = .ok (.aload_n 0, 1) := by decide +kernel
theorem dX5_aboveOf_6 : decode cX5_aboveOf 6 = .ok (.getfield 138, 3) := by decide +kernel
theorem dX5_aboveOf_9 : decode cX5_aboveOf 9 = .ok (.if_icmp .ge 26, 3) := by decide +kernel
theorem dX5_aboveOf_12 : decode cX5_aboveOf 12 = .ok (.iload_n 2, 1) := by decide +kernel
theorem dX5_aboveOf_13 : decode cX5_aboveOf 13 = .ok (.aload_n 0, 1) := by decide +kernel
theorem dX5_aboveOf_14 : decode cX5_aboveOf 14 = .ok (.iload_n 3, 1) := by decide +kernel
theorem dX5_aboveOf_15 : decode cX5_aboveOf 15 = .ok (.iload_n 1, 1) := by decide +kernel
theorem dX5_aboveOf_16 : decode cX5_aboveOf 16 = .ok (.invokevirtual 162, 3) := by decide +kernel
theorem dX5_aboveOf_19 : decode cX5_aboveOf 19 = .ok (.ifCond .eq 7, 3) := by decide +kernel
theorem dX5_aboveOf_22 : decode cX5_aboveOf 22 = .ok (.iconst 1, 1) := by decide +kernel
theorem dX5_aboveOf_23 : decode cX5_aboveOf 23 = .ok (.goto 4, 3) := by decide +kernel
theorem dX5_aboveOf_26 : decode cX5_aboveOf 26 = .ok (.iconst 0, 1) := by decide +kernel
theorem dX5_aboveOf_27 : decode cX5_aboveOf 27 = .ok (.iadd, 1) := by decide +kernel
theorem dX5_aboveOf_28 : decode cX5_aboveOf 28 = .ok (.istore_n 2, 1) := by decide +kernel
theorem dX5_aboveOf_29 : decode cX5_aboveOf 29 = .ok (.iinc 3 1, 3) := by decide +kernel
theorem dX5_aboveOf_32 : decode cX5_aboveOf 32 = .ok (.goto (-28), 3) := by decide +kernel
theorem dX5_aboveOf_35 : decode cX5_aboveOf 35 = .ok (.iload_n 2, 1) := by decide +kernel
theorem dX5_aboveOf_36 : decode cX5_aboveOf 36 = .ok (.ireturn, 1) := by decide +kernel
theorem dX5_belowOf_0 : decode cX5_belowOf 0 = .ok (.iconst 0, 1) := by decide +kernel
theorem dX5_belowOf_1 : decode cX5_belowOf 1 = .ok (.istore_n 2, 1) := by decide +kernel
theorem dX5_belowOf_2 : decode cX5_belowOf 2 = .ok (.iconst 0, 1) := by decide +kernel
theorem dX5_belowOf_3 : decode cX5_belowOf 3 = .ok (.istore_n 3, 1) := by decide +kernel
theorem dX5_belowOf_4 : decode cX5_belowOf 4 = .ok (.iload_n 3, 1) := by decide +kernel
theorem dX5_belowOf_5 : decode cX5_belowOf 5 = .ok (.aload_n 0, 1) := by decide +kernel
theorem dX5_belowOf_6 : decode cX5_belowOf 6 = .ok (.getfield 138, 3) := by decide +kernel
theorem dX5_belowOf_9 : decode cX5_belowOf 9 = .ok (.if_icmp .ge 26, 3) := by decide +kernel
theorem dX5_belowOf_12 : decode cX5_belowOf 12 = .ok (.iload_n 2, 1) := by decide +kernel
theorem dX5_belowOf_13 : decode cX5_belowOf 13 = .ok (.aload_n 0, 1) := by decide +kernel
theorem dX5_belowOf_14 : decode cX5_belowOf 14 = .ok (.iload_n 1, 1) := by decide +kernel
theorem dX5_belowOf_15 : decode cX5_belowOf 15 = .ok (.iload_n 3, 1) := by decide +kernel
theorem dX5_belowOf_16 : decode cX5_belowOf 16 = .ok (.invokevirtual 162, 3) := by decide +kernel
theorem dX5_belowOf_19 : decode cX5_belowOf 19 = .ok (.ifCond .eq 7, 3) := by decide +kernel
theorem dX5_belowOf_22 : decode cX5_belowOf 22 = .ok (.iconst 1, 1) := by decide +kernel
theorem dX5_belowOf_23 : decode cX5_belowOf 23 = .ok (.goto 4, 3) := by decide +kernel
theorem dX5_belowOf_26 : decode cX5_belowOf 26 = .ok (.iconst 0, 1) := by decide +kernel
theorem dX5_belowOf_27 : decode cX5_belowOf 27 = .ok (.iadd, 1) := by decide +kernel
theorem dX5_belowOf_28 : decode cX5_belowOf 28 = .ok (.istore_n 2, 1) := by decide +kernel
theorem dX5_belowOf_29 : decode cX5_belowOf 29 = .ok (.iinc 3 1, 3) := by decide +kernel
theorem dX5_belowOf_32 : decode cX5_belowOf 32 = .ok (.goto (-28), 3) := by decide +kernel
theorem dX5_belowOf_35 : decode cX5_belowOf 35 = .ok (.iload_n 2, 1) := by decide +kernel
theorem dX5_belowOf_36 : decode cX5_belowOf 36 = .ok (.ireturn, 1) := by decide +kernel
theorem dX5_worlds_0 : decode cX5_worlds 0 = .ok (.iload_n 1, 1) := by decide +kernel
theorem dX5_worlds_1 : decode cX5_worlds 1 = .ok (.invokestatic 106, 3) := by decide +kernel
theorem dX5_worlds_4 : decode cX5_worlds 4 = .ok (.ifCond .ne 5, 3) := by decide +kernel
theorem dX5_worlds_7 : decode cX5_worlds 7 = .ok (.iconst (-1), 1) := by decide +kernel
theorem dX5_worlds_8 : decode cX5_worlds 8 = .ok (.ireturn, 1) := by decide +kernel
theorem dX5_worlds_9 : decode cX5_worlds 9 = .ok (.iload_n 2, 1) := by decide +kernel
theorem dX5_worlds_10 : decode cX5_worlds 10 = .ok (.iconst 0, 1) := by decide +kernel
theorem dX5_worlds_11 : decode cX5_worlds 11 = .ok (.iconst 5, 1) := by decide +kernel
theorem dX5_worlds_12 : decode cX5_worlds 12 = .ok (.invokestatic 69, 3) := by decide +kernel
theorem dX5_worlds_15 : decode cX5_worlds 15 = .ok (.ifCond .ne 6, 3) := by decide +kernel
theorem dX5_worlds_18 : decode cX5_worlds 18 = .ok (.bipush (-2), 2) := by decide +kernel
theorem dX5_worlds_20 : decode cX5_worlds 20 = .ok (.ireturn, 1) := by decide +kernel
theorem dX5_worlds_21 : decode cX5_worlds 21 = .ok (.aload_n 0, 1) := by decide +kernel
theorem dX5_worlds_22 : decode cX5_worlds 22 = .ok (.iload_n 1, 1) := by decide +kernel
theorem dX5_worlds_23 : decode cX5_worlds 23 = .ok (.invokevirtual 120, 3) := by decide +kernel
theorem dX5_worlds_26 : decode cX5_worlds 26 = .ok (.ifCond .eq 6, 3) := by decide +kernel
theorem dX5_worlds_29 : decode cX5_worlds 29 = .ok (.bipush (-3), 2) := by decide +kernel
theorem dX5_worlds_31 : decode cX5_worlds 31 = .ok (.ireturn, 1) := by decide +kernel
theorem dX5_worlds_32 : decode cX5_worlds 32 = .ok (.aload_n 0, 1) := by decide +kernel
theorem dX5_worlds_33 : decode cX5_worlds 33 = .ok (.iload_n 1, 1) := by decide +kernel
theorem dX5_worlds_34 : decode cX5_worlds 34 = .ok (.invokevirtual 117, 3) := by decide +kernel
theorem dX5_worlds_37 : decode cX5_worlds 37 = .ok (.aload_n 0, 1) := by decide +kernel
theorem dX5_worlds_38 : decode cX5_worlds 38 = .ok (.invokevirtual 147, 3) := by decide +kernel
theorem dX5_worlds_41 : decode cX5_worlds 41 = .ok (.aload_n 0, 1) := by decide +kernel
theorem dX5_worlds_42 : decode cX5_worlds 42 = .ok (.invokevirtual 165, 3) := by decide +kernel
theorem dX5_worlds_45 : decode cX5_worlds 45 = .ok (.iconst 0, 1) := by decide +kernel
theorem dX5_worlds_46 : decode cX5_worlds 46 = .ok (.istore_n 3, 1) := by decide +kernel
theorem dX5_worlds_47 : decode cX5_worlds 47 = .ok (.bipush (-6), 2) := by decide +kernel
theorem dX5_worlds_49 : decode cX5_worlds 49 = .ok (.istore 4, 2) := by decide +kernel
theorem dX5_worlds_51 : decode cX5_worlds 51 = .ok (.iconst 0, 1) := by decide +kernel
theorem dX5_worlds_52 : decode cX5_worlds 52 = .ok (.istore 5, 2) := by decide +kernel
theorem dX5_worlds_54 : decode cX5_worlds 54 = .ok (.iconst 0, 1) := by decide +kernel
theorem dX5_worlds_55 : decode cX5_worlds 55 = .ok (.istore 6, 2) := by decide +kernel
theorem dX5_worlds_57 : decode cX5_worlds 57 = .ok (.iconst 0, 1) := by decide +kernel
theorem dX5_worlds_58 : decode cX5_worlds 58 = .ok (.istore 7, 2) := by decide +kernel
theorem dX5_worlds_60 : decode cX5_worlds 60 = .ok (.aload_n 0, 1) := by decide +kernel
theorem dX5_worlds_61 : decode cX5_worlds 61 = .ok (.getfield 138, 3) := by decide +kernel
theorem dX5_worlds_64 : decode cX5_worlds 64 = .ok (.iconst 1, 1) := by decide +kernel
theorem dX5_worlds_65 : decode cX5_worlds 65 = .ok (.isub, 1) := by decide +kernel
theorem dX5_worlds_66 : decode cX5_worlds 66 = .ok (.istore 8, 2) := by decide +kernel
theorem dX5_worlds_68 : decode cX5_worlds 68 = .ok (.iload 8, 2) := by decide +kernel
theorem dX5_worlds_70 : decode cX5_worlds 70 = .ok (.ifCond .lt 131, 3) := by decide +kernel
theorem dX5_worlds_73 : decode cX5_worlds 73 = .ok (.aload_n 0, 1) := by decide +kernel
theorem dX5_worlds_74 : decode cX5_worlds 74 = .ok (.getfield 56, 3) := by decide +kernel
theorem dX5_worlds_77 : decode cX5_worlds 77 = .ok (.iload 8, 2) := by decide +kernel
theorem dX5_worlds_79 : decode cX5_worlds 79 = .ok (.iaload, 1) := by decide +kernel
theorem dX5_worlds_80 : decode cX5_worlds 80 = .ok (.aload_n 0, 1) := by decide +kernel
theorem dX5_worlds_81 : decode cX5_worlds 81 = .ok (.getfield 73, 3) := by decide +kernel
theorem dX5_worlds_84 : decode cX5_worlds 84 = .ok (.iconst 1, 1) := by decide +kernel
theorem dX5_worlds_85 : decode cX5_worlds 85 = .ok (.isub, 1) := by decide +kernel
theorem dX5_worlds_86 : decode cX5_worlds 86 = .ok (.invokestatic 134, 3) := by decide +kernel
theorem dX5_worlds_89 : decode cX5_worlds 89 = .ok (.ifCond .ne 7, 3) := by decide +kernel
theorem dX5_worlds_92 : decode cX5_worlds 92 = .ok (.iconst 1, 1) := by decide +kernel
theorem dX5_worlds_93 : decode cX5_worlds 93 = .ok (.goto 4, 3) := by decide +kernel
theorem dX5_worlds_96 : decode cX5_worlds 96 = .ok (.iconst 0, 1) := by decide +kernel
theorem dX5_worlds_97 : decode cX5_worlds 97 = .ok (.istore 9, 2) := by decide +kernel
theorem dX5_worlds_99 : decode cX5_worlds 99 = .ok (.iload_n 3, 1) := by decide +kernel
theorem dX5_worlds_100 : decode cX5_worlds 100 = .ok (.iload 9, 2) := by decide +kernel
theorem dX5_worlds_102 : decode cX5_worlds 102 = .ok (.ifCond .eq 7, 3) := by decide +kernel
theorem dX5_worlds_105 : decode cX5_worlds 105 = .ok (.iconst 1, 1) := by decide +kernel
theorem dX5_worlds_106 : decode cX5_worlds 106 = .ok (.goto 4, 3) := by decide +kernel
theorem dX5_worlds_109 : decode cX5_worlds 109 = .ok (.iconst 0, 1) := by decide +kernel
theorem dX5_worlds_110 : decode cX5_worlds 110 = .ok (.iadd, 1) := by decide +kernel
theorem dX5_worlds_111 : decode cX5_worlds 111 = .ok (.istore_n 3, 1) := by decide +kernel
theorem dX5_worlds_112 : decode cX5_worlds 112 = .ok (.iload 9, 2) := by decide +kernel
theorem dX5_worlds_114 : decode cX5_worlds 114 = .ok (.ifCond .eq 13, 3) := by decide +kernel
theorem dX5_worlds_117 : decode cX5_worlds 117 = .ok (.aload_n 0, 1) := by decide +kernel
theorem dX5_worlds_118 : decode cX5_worlds 118 = .ok (.getfield 56, 3) := by decide +kernel
theorem dX5_worlds_121 : decode cX5_worlds 121 = .ok (.iload 8, 2) := by decide +kernel
theorem dX5_worlds_123 : decode cX5_worlds 123 = .ok (.iaload, 1) := by decide +kernel
theorem dX5_worlds_124 : decode cX5_worlds 124 = .ok (.goto 5, 3) := by decide +kernel
theorem dX5_worlds_127 : decode cX5_worlds 127 = .ok (.iload 4, 2) := by decide +kernel
theorem dX5_worlds_129 : decode cX5_worlds 129 = .ok (.istore 4, 2) := by decide +kernel
theorem dX5_worlds_131 : decode cX5_worlds 131 = .ok (.iload 5, 2) := by decide +kernel
theorem dX5_worlds_133 : decode cX5_worlds 133 = .ok (.aload_n 0, 1) := by decide +kernel
theorem dX5_worlds_134 : decode cX5_worlds 134 = .ok (.iload 8, 2) := by decide +kernel
theorem dX5_worlds_136 : decode cX5_worlds 136 = .ok (.invokevirtual 168, 3) := by decide +kernel
theorem dX5_worlds_139 : decode cX5_worlds 139 = .ok (.ifCond .ne 7, 3) := by decide +kernel
theorem dX5_worlds_142 : decode cX5_worlds 142 = .ok (.iconst 1, 1) := by decide +kernel
theorem dX5_worlds_143 : decode cX5_worlds 143 = .ok (.goto 4, 3) := by decide +kernel
theorem dX5_worlds_146 : decode cX5_worlds 146 = .ok (.iconst 0, 1) := by decide +kernel
theorem dX5_worlds_147 : decode cX5_worlds 147 = .ok (.iadd, 1) := by decide +kernel
theorem dX5_worlds_148 : decode cX5_worlds 148 = .ok (.istore 5, 2) := by decide +kernel
theorem dX5_worlds_150 : decode cX5_worlds 150 = .ok (.aload_n 0, 1) := by decide +kernel
theorem dX5_worlds_151 : decode cX5_worlds 151 = .ok (.getfield 63, 3) := by decide +kernel
theorem dX5_worlds_154 : decode cX5_worlds 154 = .ok (.iload 8, 2) := by decide +kernel
theorem dX5_worlds_156 : decode cX5_worlds 156 = .ok (.iaload, 1) := by decide +kernel
theorem dX5_worlds_157 : decode cX5_worlds 157 = .ok (.iload 6, 2) := by decide +kernel
theorem dX5_worlds_159 : decode cX5_worlds 159 = .ok (.if_icmp .le 13, 3) := by decide +kernel
theorem dX5_worlds_162 : decode cX5_worlds 162 = .ok (.aload_n 0, 1) := by decide +kernel
theorem dX5_worlds_163 : decode cX5_worlds 163 = .ok (.getfield 63, 3) := by decide +kernel
theorem dX5_worlds_166 : decode cX5_worlds 166 = .ok (.iload 8, 2) := by decide +kernel
theorem dX5_worlds_168 : decode cX5_worlds 168 = .ok (.iaload, 1) := by decide +kernel
theorem dX5_worlds_169 : decode cX5_worlds 169 = .ok (.goto 5, 3) := by decide +kernel
theorem dX5_worlds_172 : decode cX5_worlds 172 = .ok (.iload 6, 2) := by decide +kernel
theorem dX5_worlds_174 : decode cX5_worlds 174 = .ok (.istore 6, 2) := by decide +kernel
theorem dX5_worlds_176 : decode cX5_worlds 176 = .ok (.iload 7, 2) := by decide +kernel
theorem dX5_worlds_178 : decode cX5_worlds 178 = .ok (.aload_n 0, 1) := by decide +kernel
theorem dX5_worlds_179 : decode cX5_worlds 179 = .ok (.iload 8, 2) := by decide +kernel
theorem dX5_worlds_181 : decode cX5_worlds 181 = .ok (.invokevirtual 171, 3) := by decide +kernel
theorem dX5_worlds_184 : decode cX5_worlds 184 = .ok (.ifCond .ne 7, 3) := by decide +kernel
theorem dX5_worlds_187 : decode cX5_worlds 187 = .ok (.iconst 1, 1) := by decide +kernel
theorem dX5_worlds_188 : decode cX5_worlds 188 = .ok (.goto 4, 3) := by decide +kernel
theorem dX5_worlds_191 : decode cX5_worlds 191 = .ok (.iconst 0, 1) := by decide +kernel
theorem dX5_worlds_192 : decode cX5_worlds 192 = .ok (.iadd, 1) := by decide +kernel
theorem dX5_worlds_193 : decode cX5_worlds 193 = .ok (.istore 7, 2) := by decide +kernel
theorem dX5_worlds_195 : decode cX5_worlds 195 = .ok (.iinc 8 (-1), 3) := by decide +kernel
theorem dX5_worlds_198 : decode cX5_worlds 198 = .ok (.goto (-130), 3) := by decide +kernel
theorem dX5_worlds_201 : decode cX5_worlds 201 = .ok (.iload_n 2, 1) := by decide +kernel
theorem dX5_worlds_202 : decode cX5_worlds 202 = .ok (.ifCond .ne 10, 3) := by decide +kernel
theorem dX5_worlds_205 : decode cX5_worlds 205 = .ok (.aload_n 0, 1) := by decide +kernel
theorem dX5_worlds_206 : decode cX5_worlds 206 = .ok (.getfield 138, 3) := by decide +kernel
theorem dX5_worlds_209 : decode cX5_worlds 209 = .ok (.goto 44, 3) := by decide +kernel
theorem dX5_worlds_212 : decode cX5_worlds 212 = .ok (.iload_n 2, 1) := by decide +kernel
theorem dX5_worlds_213 : decode cX5_worlds 213 = .ok (.iconst 1, 1) := by decide +kernel
theorem dX5_worlds_214 : decode cX5_worlds 214 = .ok (.if_icmp .ne 7, 3) := by decide +kernel
theorem dX5_worlds_217 : decode cX5_worlds 217 = .ok (.iload_n 3, 1) := by decide +kernel
theorem dX5_worlds_218 : decode cX5_worlds 218 = .ok (.goto 35, 3) := by decide +kernel
theorem dX5_worlds_221 : decode cX5_worlds 221 = .ok (.iload_n 2, 1) := by decide +kernel
theorem dX5_worlds_222 : decode cX5_worlds 222 = .ok (.iconst 2, 1) := by decide +kernel
theorem dX5_worlds_223 : decode cX5_worlds 223 = .ok (.if_icmp .ne 8, 3) := by decide +kernel
theorem dX5_worlds_226 : decode cX5_worlds 226 = .ok (.iload 4, 2) := by decide +kernel
theorem dX5_worlds_228 : decode cX5_worlds 228 = .ok (.goto 25, 3) := by decide +kernel
theorem dX5_worlds_231 : decode cX5_worlds 231 = .ok (.iload_n 2, 1) := by decide +kernel
theorem dX5_worlds_232 : decode cX5_worlds 232 = .ok (.iconst 3, 1) := by decide +kernel
theorem dX5_worlds_233 : decode cX5_worlds 233 = .ok (.if_icmp .ne 8, 3) := by decide +kernel
theorem dX5_worlds_236 : decode cX5_worlds 236 = .ok (.iload 5, 2) := by decide +kernel
theorem dX5_worlds_238 : decode cX5_worlds 238 = .ok (.goto 15, 3) := by decide +kernel
theorem dX5_worlds_241 : decode cX5_worlds 241 = .ok (.iload_n 2, 1) := by decide +kernel
theorem dX5_worlds_242 : decode cX5_worlds 242 = .ok (.iconst 4, 1) := by decide +kernel
theorem dX5_worlds_243 : decode cX5_worlds 243 = .ok (.if_icmp .ne 8, 3) := by decide +kernel
theorem dX5_worlds_246 : decode cX5_worlds 246 = .ok (.iload 6, 2) := by decide +kernel
theorem dX5_worlds_248 : decode cX5_worlds 248 = .ok (.goto 5, 3) := by decide +kernel
theorem dX5_worlds_251 : decode cX5_worlds 251 = .ok (.iload 7, 2) := by decide +kernel
theorem dX5_worlds_253 : decode cX5_worlds 253 = .ok (.ireturn, 1) := by decide +kernel
theorem dX5_world_0 : decode cX5_world 0 = .ok (.iload_n 1, 1) := by decide +kernel
theorem dX5_world_1 : decode cX5_world 1 = .ok (.invokestatic 106, 3) := by decide +kernel
theorem dX5_world_4 : decode cX5_world 4 = .ok (.ifCond .ne 5, 3) := by decide +kernel
theorem dX5_world_7 : decode cX5_world 7 = .ok (.iconst (-1), 1) := by decide +kernel
theorem dX5_world_8 : decode cX5_world 8 = .ok (.ireturn, 1) := by decide +kernel
theorem dX5_world_9 : decode cX5_world 9 = .ok (.iload_n 3, 1) := by decide +kernel
theorem dX5_world_10 : decode cX5_world 10 = .ok (.iconst 0, 1) := by decide +kernel
theorem dX5_world_11 : decode cX5_world 11 = .ok (.iconst 2, 1) := by decide +kernel
theorem dX5_world_12 : decode cX5_world 12 = .ok (.invokestatic 69, 3) := by decide +kernel
theorem dX5_world_15 : decode cX5_world 15 = .ok (.ifCond .ne 6, 3) := by decide +kernel
theorem dX5_world_18 : decode cX5_world 18 = .ok (.bipush (-2), 2) := by decide +kernel
theorem dX5_world_20 : decode cX5_world 20 = .ok (.ireturn, 1) := by decide +kernel
theorem dX5_world_21 : decode cX5_world 21 = .ok (.aload_n 0, 1) := by decide +kernel
theorem dX5_world_22 : decode cX5_world 22 = .ok (.iload_n 1, 1) := by decide +kernel
theorem dX5_world_23 : decode cX5_world 23 = .ok (.invokevirtual 120, 3) := by decide +kernel
theorem dX5_world_26 : decode cX5_world 26 = .ok (.ifCond .eq 6, 3) := by decide +kernel
theorem dX5_world_29 : decode cX5_world 29 = .ok (.bipush (-3), 2) := by decide +kernel
theorem dX5_world_31 : decode cX5_world 31 = .ok (.ireturn, 1) := by decide +kernel
theorem dX5_world_32 : decode cX5_world 32 = .ok (.aload_n 0, 1) := by decide +kernel
theorem dX5_world_33 : decode cX5_world 33 = .ok (.iload_n 1, 1) := by decide +kernel
theorem dX5_world_34 : decode cX5_world 34 = .ok (.invokevirtual 117, 3) := by decide +kernel
theorem dX5_world_37 : decode cX5_world 37 = .ok (.aload_n 0, 1) := by decide +kernel
theorem dX5_world_38 : decode cX5_world 38 = .ok (.invokevirtual 147, 3) := by decide +kernel
theorem dX5_world_41 : decode cX5_world 41 = .ok (.iload_n 2, 1) := by decide +kernel
theorem dX5_world_42 : decode cX5_world 42 = .ok (.iconst 0, 1) := by decide +kernel
theorem dX5_world_43 : decode cX5_world 43 = .ok (.aload_n 0, 1) := by decide +kernel
theorem dX5_world_44 : decode cX5_world 44 = .ok (.getfield 138, 3) := by decide +kernel
theorem dX5_world_47 : decode cX5_world 47 = .ok (.iconst 1, 1) := by decide +kernel
theorem dX5_world_48 : decode cX5_world 48 = .ok (.isub, 1) := by decide +kernel
theorem dX5_world_49 : decode cX5_world 49 = .ok (.invokestatic 69, 3) := by decide +kernel
theorem dX5_world_52 : decode cX5_world 52 = .ok (.ifCond .ne 6, 3) := by decide +kernel
theorem dX5_world_55 : decode cX5_world 55 = .ok (.bipush (-6), 2) := by decide +kernel
theorem dX5_world_57 : decode cX5_world 57 = .ok (.ireturn, 1) := by decide +kernel
theorem dX5_world_58 : decode cX5_world 58 = .ok (.aload_n 0, 1) := by decide +kernel
theorem dX5_world_59 : decode cX5_world 59 = .ok (.invokevirtual 165, 3) := by decide +kernel
theorem dX5_world_62 : decode cX5_world 62 = .ok (.iload_n 3, 1) := by decide +kernel
theorem dX5_world_63 : decode cX5_world 63 = .ok (.ifCond .ne 12, 3) := by decide +kernel
theorem dX5_world_66 : decode cX5_world 66 = .ok (.aload_n 0, 1) := by decide +kernel
theorem dX5_world_67 : decode cX5_world 67 = .ok (.getfield 56, 3) := by decide +kernel
theorem dX5_world_70 : decode cX5_world 70 = .ok (.iload_n 2, 1) := by decide +kernel
theorem dX5_world_71 : decode cX5_world 71 = .ok (.iaload, 1) := by decide +kernel
theorem dX5_world_72 : decode cX5_world 72 = .ok (.goto 22, 3) := by decide +kernel
theorem dX5_world_75 : decode cX5_world 75 = .ok (.iload_n 3, 1) := by decide +kernel
theorem dX5_world_76 : decode cX5_world 76 = .ok (.iconst 1, 1) := by decide +kernel
theorem dX5_world_77 : decode cX5_world 77 = .ok (.if_icmp .ne 11, 3) := by decide +kernel
theorem dX5_world_80 : decode cX5_world 80 = .ok (.aload_n 0, 1) := by decide +kernel
theorem dX5_world_81 : decode cX5_world 81 = .ok (.iload_n 2, 1) := by decide +kernel
theorem dX5_world_82 : decode cX5_world 82 = .ok (.invokevirtual 168, 3) := by decide +kernel
theorem dX5_world_85 : decode cX5_world 85 = .ok (.goto 9, 3) := by decide +kernel
theorem dX5_world_88 : decode cX5_world 88 = .ok (.aload_n 0, 1) := by decide +kernel
theorem dX5_world_89 : decode cX5_world 89 = .ok (.getfield 63, 3) := by decide +kernel
theorem dX5_world_92 : decode cX5_world 92 = .ok (.iload_n 2, 1) := by decide +kernel
theorem dX5_world_93 : decode cX5_world 93 = .ok (.iaload, 1) := by decide +kernel
theorem dX5_world_94 : decode cX5_world 94 = .ok (.ireturn, 1) := by decide +kernel
theorem dX5_copy_0 : decode cX5_copy 0 = .ok (.aload_n 0, 1) := by decide +kernel
theorem dX5_copy_1 : decode cX5_copy 1 = .ok (.iload_n 1, 1) := by decide +kernel
theorem dX5_copy_2 : decode cX5_copy 2 = .ok (.invokevirtual 117, 3) := by decide +kernel
theorem dX5_copy_5 : decode cX5_copy 5 = .ok (.aload_n 0, 1) := by decide +kernel
theorem dX5_copy_6 : decode cX5_copy 6 = .ok (.iload_n 2, 1) := by decide +kernel
theorem dX5_copy_7 : decode cX5_copy 7 = .ok (.invokevirtual 113, 3) := by decide +kernel
theorem dX5_copy_10 : decode cX5_copy 10 = .ok (.pop, 1) := by decide +kernel
theorem dX5_copy_11 : decode cX5_copy 11 = .ok (.return_, 1) := by decide +kernel
theorem dX5_image_0 : decode cX5_image 0 = .ok (.iload_n 1, 1) := by decide +kernel
theorem dX5_image_1 : decode cX5_image 1 = .ok (.iconst 0, 1) := by decide +kernel
theorem dX5_image_2 : decode cX5_image 2 = .ok (.iconst 1, 1) := by decide +kernel
theorem dX5_image_3 : decode cX5_image 3 = .ok (.invokestatic 69, 3) := by decide +kernel
theorem dX5_image_6 : decode cX5_image 6 = .ok (.ifCond .ne 6, 3) := by decide +kernel
theorem dX5_image_9 : decode cX5_image 9 = .ok (.bipush (-2), 2) := by decide +kernel
theorem dX5_image_11 : decode cX5_image 11 = .ok (.ireturn, 1) := by decide +kernel
theorem dX5_image_12 : decode cX5_image 12 = .ok (.iconst 0, 1) := by decide +kernel
theorem dX5_image_13 : decode cX5_image 13 = .ok (.istore_n 2, 1) := by decide +kernel
theorem dX5_image_14 : decode cX5_image 14 = .ok (.iload_n 2, 1) := by decide +kernel
theorem dX5_image_15 : decode cX5_image 15 = .ok (.bipush 6, 2) := by decide +kernel
theorem dX5_image_17 : decode cX5_image 17 = .ok (.if_icmp .ge 23, 3) := by decide +kernel
theorem dX5_image_20 : decode cX5_image 20 = .ok (.aload_n 0, 1) := by decide +kernel
theorem dX5_image_21 : decode cX5_image 21 = .ok (.iload_n 2, 1) := by decide +kernel
theorem dX5_image_22 : decode cX5_image 22 = .ok (.bipush 6, 2) := by decide +kernel
theorem dX5_image_24 : decode cX5_image 24 = .ok (.bipush 6, 2) := by decide +kernel
theorem dX5_image_26 : decode cX5_image 26 = .ok (.iload_n 1, 1) := by decide +kernel
theorem dX5_image_27 : decode cX5_image 27 = .ok (.imul, 1) := by decide +kernel
theorem dX5_image_28 : decode cX5_image 28 = .ok (.iadd, 1) := by decide +kernel
theorem dX5_image_29 : decode cX5_image 29 = .ok (.iload_n 2, 1) := by decide +kernel
theorem dX5_image_30 : decode cX5_image 30 = .ok (.iadd, 1) := by decide +kernel
theorem dX5_image_31 : decode cX5_image 31 = .ok (.invokevirtual 174, 3) := by decide +kernel
theorem dX5_image_34 : decode cX5_image 34 = .ok (.iinc 2 1, 3) := by decide +kernel
theorem dX5_image_37 : decode cX5_image 37 = .ok (.goto (-23), 3) := by decide +kernel
theorem dX5_image_40 : decode cX5_image 40 = .ok (.aload_n 0, 1) := by decide +kernel
theorem dX5_image_41 : decode cX5_image 41 = .ok (.getfield 66, 3) := by decide +kernel
theorem dX5_image_44 : decode cX5_image 44 = .ok (.iload_n 1, 1) := by decide +kernel
theorem dX5_image_45 : decode cX5_image 45 = .ok (.iconst 1, 1) := by decide +kernel
theorem dX5_image_46 : decode cX5_image 46 = .ok (.bastore, 1) := by decide +kernel
theorem dX5_image_47 : decode cX5_image 47 = .ok (.iconst 1, 1) := by decide +kernel
theorem dX5_image_48 : decode cX5_image 48 = .ok (.ireturn, 1) := by decide +kernel
theorem dX5_restore_0 : decode cX5_restore 0 = .ok (.iload_n 1, 1) := by decide +kernel
theorem dX5_restore_1 : decode cX5_restore 1 = .ok (.iconst 0, 1) := by decide +kernel
theorem dX5_restore_2 : decode cX5_restore 2 = .ok (.iconst 1, 1) := by decide +kernel
theorem dX5_restore_3 : decode cX5_restore 3 = .ok (.invokestatic 69, 3) := by decide +kernel
theorem dX5_restore_6 : decode cX5_restore 6 = .ok (.ifCond .ne 6, 3) := by decide +kernel
theorem dX5_restore_9 : decode cX5_restore 9 = .ok (.bipush (-2), 2) := by decide +kernel
theorem dX5_restore_11 : decode cX5_restore 11 = .ok (.ireturn, 1) := by decide +kernel
theorem dX5_restore_12 : decode cX5_restore 12 = .ok (.aload_n 0, 1) := by decide +kernel
theorem dX5_restore_13 : decode cX5_restore 13 = .ok (.getfield 66, 3) := by decide +kernel
theorem dX5_restore_16 : decode cX5_restore 16 = .ok (.iload_n 1, 1) := by decide +kernel
theorem dX5_restore_17 : decode cX5_restore 17 = .ok (.baload, 1) := by decide +kernel
theorem dX5_restore_18 : decode cX5_restore 18 = .ok (.ifCond .ne 6, 3) := by decide +kernel
theorem dX5_restore_21 : decode cX5_restore 21 = .ok (.bipush (-3), 2) := by decide +kernel
theorem dX5_restore_23 : decode cX5_restore 23 = .ok (.ireturn, 1) := by decide +kernel
theorem dX5_restore_24 : decode cX5_restore 24 = .ok (.iconst 0, 1) := by decide +kernel
theorem dX5_restore_25 : decode cX5_restore 25 = .ok (.istore_n 2, 1) := by decide +kernel
theorem dX5_restore_26 : decode cX5_restore 26 = .ok (.iload_n 2, 1) := by decide +kernel
theorem dX5_restore_27 : decode cX5_restore 27 = .ok (.bipush 6, 2) := by decide +kernel
theorem dX5_restore_29 : decode cX5_restore 29 = .ok (.if_icmp .ge 23, 3) := by decide +kernel
theorem dX5_restore_32 : decode cX5_restore 32 = .ok (.aload_n 0, 1) := by decide +kernel
theorem dX5_restore_33 : decode cX5_restore 33 = .ok (.bipush 6, 2) := by decide +kernel
theorem dX5_restore_35 : decode cX5_restore 35 = .ok (.bipush 6, 2) := by decide +kernel
theorem dX5_restore_37 : decode cX5_restore 37 = .ok (.iload_n 1, 1) := by decide +kernel
theorem dX5_restore_38 : decode cX5_restore 38 = .ok (.imul, 1) := by decide +kernel
theorem dX5_restore_39 : decode cX5_restore 39 = .ok (.iadd, 1) := by decide +kernel
theorem dX5_restore_40 : decode cX5_restore 40 = .ok (.iload_n 2, 1) := by decide +kernel
end
section
theorem dX5_restore_41 : decode cX5_restore 41 = .ok (.iadd, 1) := by decide +kernel
theorem dX5_restore_42 : decode cX5_restore 42 = .ok (.iload_n 2, 1) := by decide +kernel
theorem dX5_restore_43 : decode cX5_restore 43 = .ok (.invokevirtual 174, 3) := by decide +kernel
theorem dX5_restore_46 : decode cX5_restore 46 = .ok (.iinc 2 1, 3) := by decide +kernel
theorem dX5_restore_49 : decode cX5_restore 49 = .ok (.goto (-23), 3) := by decide +kernel
theorem dX5_restore_52 : decode cX5_restore 52 = .ok (.iconst 1, 1) := by decide +kernel
theorem dX5_restore_53 : decode cX5_restore 53 = .ok (.ireturn, 1) := by decide +kernel
theorem dX5_areSame_0 : decode cX5_areSame 0 = .ok (.aload_n 0, 1) := by decide +kernel
theorem dX5_areSame_1 : decode cX5_areSame 1 = .ok (.getfield 7, 3) := by decide +kernel
theorem dX5_areSame_4 : decode cX5_areSame 4 = .ok (.iload_n 1, 1) := by decide +kernel
theorem dX5_areSame_5 : decode cX5_areSame 5 = .ok (.iaload, 1) := by decide +kernel
theorem dX5_areSame_6 : decode cX5_areSame 6 = .ok (.aload_n 0, 1) := by decide +kernel
theorem dX5_areSame_7 : decode cX5_areSame 7 = .ok (.getfield 7, 3) := by decide +kernel
theorem dX5_areSame_10 : decode cX5_areSame 10 = .ok (.iload_n 2, 1) := by decide +kernel
theorem dX5_areSame_11 : decode cX5_areSame 11 = .ok (.iaload, 1) := by decide +kernel
theorem dX5_areSame_12 : decode cX5_areSame 12 = .ok (.if_icmp .ne 7, 3) := by decide +kernel
theorem dX5_areSame_15 : decode cX5_areSame 15 = .ok (.iconst 1, 1) := by decide +kernel
theorem dX5_areSame_16 : decode cX5_areSame 16 = .ok (.goto 4, 3) := by decide +kernel
theorem dX5_areSame_19 : decode cX5_areSame 19 = .ok (.iconst 0, 1) := by decide +kernel
theorem dX5_areSame_20 : decode cX5_areSame 20 = .ok (.istore_n 3, 1) := by decide +kernel
theorem dX5_areSame_21 : decode cX5_areSame 21 = .ok (.iconst 0, 1) := by decide +kernel
theorem dX5_areSame_22 : decode cX5_areSame 22 = .ok (.istore 4, 2) := by decide +kernel
theorem dX5_areSame_24 : decode cX5_areSame 24 = .ok (.iload 4, 2) := by decide +kernel
theorem dX5_areSame_26 : decode cX5_areSame 26 = .ok (.aload_n 0, 1) := by decide +kernel
theorem dX5_areSame_27 : decode cX5_areSame 27 = .ok (.getfield 7, 3) := by decide +kernel
theorem dX5_areSame_30 : decode cX5_areSame 30 = .ok (.iload_n 1, 1) := by decide +kernel
theorem dX5_areSame_31 : decode cX5_areSame 31 = .ok (.iaload, 1) := by decide +kernel
theorem dX5_areSame_32 : decode cX5_areSame 32 = .ok (.if_icmp .ge 88, 3) := by decide +kernel
theorem dX5_areSame_35 : decode cX5_areSame 35 = .ok (.iload_n 3, 1) := by decide +kernel
theorem dX5_areSame_36 : decode cX5_areSame 36 = .ok (.ifCond .eq 84, 3) := by decide +kernel
theorem dX5_areSame_39 : decode cX5_areSame 39 = .ok (.bipush 11, 2) := by decide +kernel
theorem dX5_areSame_41 : decode cX5_areSame 41 = .ok (.iload_n 1, 1) := by decide +kernel
theorem dX5_areSame_42 : decode cX5_areSame 42 = .ok (.imul, 1) := by decide +kernel
theorem dX5_areSame_43 : decode cX5_areSame 43 = .ok (.iload 4, 2) := by decide +kernel
theorem dX5_areSame_45 : decode cX5_areSame 45 = .ok (.iadd, 1) := by decide +kernel
theorem dX5_areSame_46 : decode cX5_areSame 46 = .ok (.istore 5, 2) := by decide +kernel
theorem dX5_areSame_48 : decode cX5_areSame 48 = .ok (.bipush 11, 2) := by decide +kernel
theorem dX5_areSame_50 : decode cX5_areSame 50 = .ok (.iload_n 2, 1) := by decide +kernel
theorem dX5_areSame_51 : decode cX5_areSame 51 = .ok (.imul, 1) := by decide +kernel
theorem dX5_areSame_52 : decode cX5_areSame 52 = .ok (.iload 4, 2) := by decide +kernel
theorem dX5_areSame_54 : decode cX5_areSame 54 = .ok (.iadd, 1) := by decide +kernel
theorem dX5_areSame_55 : decode cX5_areSame 55 = .ok (.istore 6, 2) := by decide +kernel
theorem dX5_areSame_57 : decode cX5_areSame 57 = .ok (.aload_n 0, 1) := by decide +kernel
theorem dX5_areSame_58 : decode cX5_areSame 58 = .ok (.getfield 13, 3) := by decide +kernel
theorem dX5_areSame_61 : decode cX5_areSame 61 = .ok (.iload 5, 2) := by decide +kernel
theorem dX5_areSame_63 : decode cX5_areSame 63 = .ok (.iaload, 1) := by decide +kernel
theorem dX5_areSame_64 : decode cX5_areSame 64 = .ok (.aload_n 0, 1) := by decide +kernel
theorem dX5_areSame_65 : decode cX5_areSame 65 = .ok (.getfield 13, 3) := by decide +kernel
theorem dX5_areSame_68 : decode cX5_areSame 68 = .ok (.iload 6, 2) := by decide +kernel
theorem dX5_areSame_70 : decode cX5_areSame 70 = .ok (.iaload, 1) := by decide +kernel
theorem dX5_areSame_71 : decode cX5_areSame 71 = .ok (.if_icmp .ne 41, 3) := by decide +kernel
theorem dX5_areSame_74 : decode cX5_areSame 74 = .ok (.aload_n 0, 1) := by decide +kernel
theorem dX5_areSame_75 : decode cX5_areSame 75 = .ok (.getfield 16, 3) := by decide +kernel
theorem dX5_areSame_78 : decode cX5_areSame 78 = .ok (.iload 5, 2) := by decide +kernel
theorem dX5_areSame_80 : decode cX5_areSame 80 = .ok (.iaload, 1) := by decide +kernel
theorem dX5_areSame_81 : decode cX5_areSame 81 = .ok (.aload_n 0, 1) := by decide +kernel
theorem dX5_areSame_82 : decode cX5_areSame 82 = .ok (.getfield 16, 3) := by decide +kernel
theorem dX5_areSame_85 : decode cX5_areSame 85 = .ok (.iload 6, 2) := by decide +kernel
theorem dX5_areSame_87 : decode cX5_areSame 87 = .ok (.iaload, 1) := by decide +kernel
theorem dX5_areSame_88 : decode cX5_areSame 88 = .ok (.if_icmp .ne 24, 3) := by decide +kernel
theorem dX5_areSame_91 : decode cX5_areSame 91 = .ok (.aload_n 0, 1) := by decide +kernel
theorem dX5_areSame_92 : decode cX5_areSame 92 = .ok (.getfield 19, 3) := by decide +kernel
theorem dX5_areSame_95 : decode cX5_areSame 95 = .ok (.iload 5, 2) := by decide +kernel
theorem dX5_areSame_97 : decode cX5_areSame 97 = .ok (.iaload, 1) := by decide +kernel
theorem dX5_areSame_98 : decode cX5_areSame 98 = .ok (.aload_n 0, 1) := by decide +kernel
theorem dX5_areSame_99 : decode cX5_areSame 99 = .ok (.getfield 19, 3) := by decide +kernel
theorem dX5_areSame_102 : decode cX5_areSame 102 = .ok (.iload 6, 2) := by decide +kernel
theorem dX5_areSame_104 : decode cX5_areSame 104 = .ok (.iaload, 1) := by decide +kernel
theorem dX5_areSame_105 : decode cX5_areSame 105 = .ok (.if_icmp .ne 7, 3) := by decide +kernel
theorem dX5_areSame_108 : decode cX5_areSame 108 = .ok (.iconst 1, 1) := by decide +kernel
theorem dX5_areSame_109 : decode cX5_areSame 109 = .ok (.goto 4, 3) := by decide +kernel
theorem dX5_areSame_112 : decode cX5_areSame 112 = .ok (.iconst 0, 1) := by decide +kernel
theorem dX5_areSame_113 : decode cX5_areSame 113 = .ok (.istore_n 3, 1) := by decide +kernel
theorem dX5_areSame_114 : decode cX5_areSame 114 = .ok (.iinc 4 1, 3) := by decide +kernel
theorem dX5_areSame_117 : decode cX5_areSame 117 = .ok (.goto (-93), 3) := by decide +kernel
theorem dX5_areSame_120 : decode cX5_areSame 120 = .ok (.iload_n 3, 1) := by decide +kernel
theorem dX5_areSame_121 : decode cX5_areSame 121 = .ok (.ireturn, 1) := by decide +kernel
theorem dX5_isFirst_0 : decode cX5_isFirst 0 = .ok (.iconst 1, 1) := by decide +kernel
theorem dX5_isFirst_1 : decode cX5_isFirst 1 = .ok (.istore_n 2, 1) := by decide +kernel
theorem dX5_isFirst_2 : decode cX5_isFirst 2 = .ok (.iconst 0, 1) := by decide +kernel
theorem dX5_isFirst_3 : decode cX5_isFirst 3 = .ok (.istore_n 3, 1) := by decide +kernel
theorem dX5_isFirst_4 : decode cX5_isFirst 4 = .ok (.iload_n 3, 1) := by decide +kernel
theorem dX5_isFirst_5 : decode cX5_isFirst 5 = .ok (.iload_n 1, 1) := by decide +kernel
theorem dX5_isFirst_6 : decode cX5_isFirst 6 = .ok (.if_icmp .ge 28, 3) := by decide +kernel
theorem dX5_isFirst_9 : decode cX5_isFirst 9 = .ok (.iload_n 2, 1) := by decide +kernel
theorem dX5_isFirst_10 : decode cX5_isFirst 10 = .ok (.ifCond .eq 16, 3) := by decide +kernel
theorem dX5_isFirst_13 : decode cX5_isFirst 13 = .ok (.aload_n 0, 1) := by decide +kernel
theorem dX5_isFirst_14 : decode cX5_isFirst 14 = .ok (.iload_n 3, 1) := by decide +kernel
theorem dX5_isFirst_15 : decode cX5_isFirst 15 = .ok (.iload_n 1, 1) := by decide +kernel
theorem dX5_isFirst_16 : decode cX5_isFirst 16 = .ok (.invokevirtual 177, 3) := by decide +kernel
theorem dX5_isFirst_19 : decode cX5_isFirst 19 = .ok (.ifCond .ne 7, 3) := by decide +kernel
theorem dX5_isFirst_22 : decode cX5_isFirst 22 = .ok (.iconst 1, 1) := by decide +kernel
theorem dX5_isFirst_23 : decode cX5_isFirst 23 = .ok (.goto 4, 3) := by decide +kernel
theorem dX5_isFirst_26 : decode cX5_isFirst 26 = .ok (.iconst 0, 1) := by decide +kernel
theorem dX5_isFirst_27 : decode cX5_isFirst 27 = .ok (.istore_n 2, 1) := by decide +kernel
theorem dX5_isFirst_28 : decode cX5_isFirst 28 = .ok (.iinc 3 1, 3) := by decide +kernel
theorem dX5_isFirst_31 : decode cX5_isFirst 31 = .ok (.goto (-27), 3) := by decide +kernel
theorem dX5_isFirst_34 : decode cX5_isFirst 34 = .ok (.iload_n 2, 1) := by decide +kernel
theorem dX5_isFirst_35 : decode cX5_isFirst 35 = .ok (.ireturn, 1) := by decide +kernel
theorem dX5_counts_0 : decode cX5_counts 0 = .ok (.iload_n 2, 1) := by decide +kernel
theorem dX5_counts_1 : decode cX5_counts 1 = .ok (.tableswitch 57 0 2 #[27, 29, 35], 27) := by decide +kernel
theorem dX5_counts_28 : decode cX5_counts 28 = .ok (.iconst 1, 1) := by decide +kernel
theorem dX5_counts_29 : decode cX5_counts 29 = .ok (.ireturn, 1) := by decide +kernel
theorem dX5_counts_30 : decode cX5_counts 30 = .ok (.aload_n 0, 1) := by decide +kernel
theorem dX5_counts_31 : decode cX5_counts 31 = .ok (.iload_n 1, 1) := by decide +kernel
theorem dX5_counts_32 : decode cX5_counts 32 = .ok (.invokevirtual 153, 3) := by decide +kernel
theorem dX5_counts_35 : decode cX5_counts 35 = .ok (.ireturn, 1) := by decide +kernel
theorem dX5_counts_36 : decode cX5_counts 36 = .ok (.aload_n 0, 1) := by decide +kernel
theorem dX5_counts_37 : decode cX5_counts 37 = .ok (.iload_n 1, 1) := by decide +kernel
theorem dX5_counts_38 : decode cX5_counts 38 = .ok (.invokevirtual 159, 3) := by decide +kernel
theorem dX5_counts_41 : decode cX5_counts 41 = .ok (.ifCond .eq 15, 3) := by decide +kernel
theorem dX5_counts_44 : decode cX5_counts 44 = .ok (.aload_n 0, 1) := by decide +kernel
theorem dX5_counts_45 : decode cX5_counts 45 = .ok (.iload_n 1, 1) := by decide +kernel
theorem dX5_counts_46 : decode cX5_counts 46 = .ok (.invokevirtual 153, 3) := by decide +kernel
theorem dX5_counts_49 : decode cX5_counts 49 = .ok (.ifCond .ne 7, 3) := by decide +kernel
theorem dX5_counts_52 : decode cX5_counts 52 = .ok (.iconst 1, 1) := by decide +kernel
theorem dX5_counts_53 : decode cX5_counts 53 = .ok (.goto 4, 3) := by decide +kernel
theorem dX5_counts_56 : decode cX5_counts 56 = .ok (.iconst 0, 1) := by decide +kernel
theorem dX5_counts_57 : decode cX5_counts 57 = .ok (.ireturn, 1) := by decide +kernel
theorem dX5_counts_58 : decode cX5_counts 58 = .ok (.aload_n 0, 1) := by decide +kernel
theorem dX5_counts_59 : decode cX5_counts 59 = .ok (.iload_n 1, 1) := by decide +kernel
theorem dX5_counts_60 : decode cX5_counts 60 = .ok (.invokevirtual 180, 3) := by decide +kernel
theorem dX5_counts_63 : decode cX5_counts 63 = .ok (.ireturn, 1) := by decide +kernel
theorem dX5_count_0 : decode cX5_count 0 = .ok (.iload_n 1, 1) := by decide +kernel
theorem dX5_count_1 : decode cX5_count 1 = .ok (.iconst 4, 1) := by decide +kernel
theorem dX5_count_2 : decode cX5_count 2 = .ok (.if_icmp .ne 8, 3) := by decide +kernel
theorem dX5_count_5 : decode cX5_count 5 = .ok (.aload_n 0, 1) := by decide +kernel
theorem dX5_count_6 : decode cX5_count 6 = .ok (.getfield 100, 3) := by decide +kernel
theorem dX5_count_9 : decode cX5_count 9 = .ok (.ireturn, 1) := by decide +kernel
theorem dX5_count_10 : decode cX5_count 10 = .ok (.iload_n 1, 1) := by decide +kernel
theorem dX5_count_11 : decode cX5_count 11 = .ok (.iconst 5, 1) := by decide +kernel
theorem dX5_count_12 : decode cX5_count 12 = .ok (.if_icmp .ne 33, 3) := by decide +kernel
theorem dX5_count_15 : decode cX5_count 15 = .ok (.aload_n 0, 1) := by decide +kernel
theorem dX5_count_16 : decode cX5_count 16 = .ok (.getfield 66, 3) := by decide +kernel
theorem dX5_count_19 : decode cX5_count 19 = .ok (.iconst 0, 1) := by decide +kernel
theorem dX5_count_20 : decode cX5_count 20 = .ok (.baload, 1) := by decide +kernel
theorem dX5_count_21 : decode cX5_count 21 = .ok (.ifCond .eq 7, 3) := by decide +kernel
theorem dX5_count_24 : decode cX5_count 24 = .ok (.iconst 1, 1) := by decide +kernel
theorem dX5_count_25 : decode cX5_count 25 = .ok (.goto 4, 3) := by decide +kernel
theorem dX5_count_28 : decode cX5_count 28 = .ok (.iconst 0, 1) := by decide +kernel
theorem dX5_count_29 : decode cX5_count 29 = .ok (.aload_n 0, 1) := by decide +kernel
theorem dX5_count_30 : decode cX5_count 30 = .ok (.getfield 66, 3) := by decide +kernel
theorem dX5_count_33 : decode cX5_count 33 = .ok (.iconst 1, 1) := by decide +kernel
theorem dX5_count_34 : decode cX5_count 34 = .ok (.baload, 1) := by decide +kernel
theorem dX5_count_35 : decode cX5_count 35 = .ok (.ifCond .eq 7, 3) := by decide +kernel
theorem dX5_count_38 : decode cX5_count 38 = .ok (.iconst 2, 1) := by decide +kernel
theorem dX5_count_39 : decode cX5_count 39 = .ok (.goto 4, 3) := by decide +kernel
theorem dX5_count_42 : decode cX5_count 42 = .ok (.iconst 0, 1) := by decide +kernel
theorem dX5_count_43 : decode cX5_count 43 = .ok (.iadd, 1) := by decide +kernel
theorem dX5_count_44 : decode cX5_count 44 = .ok (.ireturn, 1) := by decide +kernel
theorem dX5_count_45 : decode cX5_count 45 = .ok (.iload_n 1, 1) := by decide +kernel
theorem dX5_count_46 : decode cX5_count 46 = .ok (.bipush 10, 2) := by decide +kernel
theorem dX5_count_48 : decode cX5_count 48 = .ok (.bipush 15, 2) := by decide +kernel
theorem dX5_count_50 : decode cX5_count 50 = .ok (.invokestatic 69, 3) := by decide +kernel
theorem dX5_count_53 : decode cX5_count 53 = .ok (.ifCond .eq 13, 3) := by decide +kernel
theorem dX5_count_56 : decode cX5_count 56 = .ok (.aload_n 0, 1) := by decide +kernel
theorem dX5_count_57 : decode cX5_count 57 = .ok (.getfield 7, 3) := by decide +kernel
theorem dX5_count_60 : decode cX5_count 60 = .ok (.iload_n 1, 1) := by decide +kernel
theorem dX5_count_61 : decode cX5_count 61 = .ok (.bipush 10, 2) := by decide +kernel
theorem dX5_count_63 : decode cX5_count 63 = .ok (.isub, 1) := by decide +kernel
theorem dX5_count_64 : decode cX5_count 64 = .ok (.iaload, 1) := by decide +kernel
theorem dX5_count_65 : decode cX5_count 65 = .ok (.ireturn, 1) := by decide +kernel
theorem dX5_count_66 : decode cX5_count 66 = .ok (.iload_n 1, 1) := by decide +kernel
theorem dX5_count_67 : decode cX5_count 67 = .ok (.iconst 0, 1) := by decide +kernel
theorem dX5_count_68 : decode cX5_count 68 = .ok (.iconst 3, 1) := by decide +kernel
theorem dX5_count_69 : decode cX5_count 69 = .ok (.invokestatic 69, 3) := by decide +kernel
theorem dX5_count_72 : decode cX5_count 72 = .ok (.ifCond .ne 6, 3) := by decide +kernel
theorem dX5_count_75 : decode cX5_count 75 = .ok (.bipush (-2), 2) := by decide +kernel
theorem dX5_count_77 : decode cX5_count 77 = .ok (.ireturn, 1) := by decide +kernel
theorem dX5_count_78 : decode cX5_count 78 = .ok (.iconst 0, 1) := by decide +kernel
theorem dX5_count_79 : decode cX5_count 79 = .ok (.istore_n 2, 1) := by decide +kernel
theorem dX5_count_80 : decode cX5_count 80 = .ok (.iconst 0, 1) := by decide +kernel
theorem dX5_count_81 : decode cX5_count 81 = .ok (.istore_n 3, 1) := by decide +kernel
theorem dX5_count_82 : decode cX5_count 82 = .ok (.iload_n 3, 1) := by decide +kernel
theorem dX5_count_83 : decode cX5_count 83 = .ok (.bipush 6, 2) := by decide +kernel
theorem dX5_count_85 : decode cX5_count 85 = .ok (.if_icmp .ge 34, 3) := by decide +kernel
theorem dX5_count_88 : decode cX5_count 88 = .ok (.iload_n 2, 1) := by decide +kernel
theorem dX5_count_89 : decode cX5_count 89 = .ok (.aload_n 0, 1) := by decide +kernel
theorem dX5_count_90 : decode cX5_count 90 = .ok (.iload_n 3, 1) := by decide +kernel
theorem dX5_count_91 : decode cX5_count 91 = .ok (.invokevirtual 120, 3) := by decide +kernel
theorem dX5_count_94 : decode cX5_count 94 = .ok (.ifCond .ne 16, 3) := by decide +kernel
theorem dX5_count_97 : decode cX5_count 97 = .ok (.aload_n 0, 1) := by decide +kernel
theorem dX5_count_98 : decode cX5_count 98 = .ok (.iload_n 3, 1) := by decide +kernel
theorem dX5_count_99 : decode cX5_count 99 = .ok (.iload_n 1, 1) := by decide +kernel
theorem dX5_count_100 : decode cX5_count 100 = .ok (.invokevirtual 183, 3) := by decide +kernel
theorem dX5_count_103 : decode cX5_count 103 = .ok (.ifCond .eq 7, 3) := by decide +kernel
theorem dX5_count_106 : decode cX5_count 106 = .ok (.iconst 1, 1) := by decide +kernel
theorem dX5_count_107 : decode cX5_count 107 = .ok (.goto 4, 3) := by decide +kernel
theorem dX5_count_110 : decode cX5_count 110 = .ok (.iconst 0, 1) := by decide +kernel
theorem dX5_count_111 : decode cX5_count 111 = .ok (.iadd, 1) := by decide +kernel
theorem dX5_count_112 : decode cX5_count 112 = .ok (.istore_n 2, 1) := by decide +kernel
theorem dX5_count_113 : decode cX5_count 113 = .ok (.iinc 3 1, 3) := by decide +kernel
theorem dX5_count_116 : decode cX5_count 116 = .ok (.goto (-34), 3) := by decide +kernel
theorem dX5_count_119 : decode cX5_count 119 = .ok (.iload_n 2, 1) := by decide +kernel
theorem dX5_count_120 : decode cX5_count 120 = .ok (.ireturn, 1) := by decide +kernel
end
section
/-! THE LAYOUT. Cells by logical number: i < 175; the world's contents are one function σ : cell → place → Int32 (int fields by their slot, int rows by their place); references never change once the objects are made.
0..139: Sentence j (j < 20) is 7 j (object), 7 j + 1 .. 7 j + 6 (kind, left, right, length, trueRows, placeOf); j 0..5 shelf, 6..11 image 0, 12..17 image 1, 18 draft, 19 the frame's own.
140..142 Shelf objects, 143..145 their rows 'held', 146 the row of images, 147 Text (148 signs, 149 opened, 150 lefts), 151 Frame (152 sets, 153 denied, 154 heights), 155 StrictSentences.
156 StrictSentencesModel; 157 sizes 158 kinds 159 ones 160 others 161 text 162 kind 163 one 164 other 165 open 166 first 167 sort 168 number 169 still 170 lengths 171 worlds 172 isGone 173 heights 174 isKept. -/
abbrev Sg : Type := Nat → Nat → Int32
/-- a cell's shape: a row of numbers (class, length); a row of references; an object (class, fields: none is a number) -/
abbrev Sh : Type := (Nat × Nat) ⊕ (Nat × Nat × (Nat → Nat)) ⊕ (Nat × List (Option Nat))
/-- tables, array classes, addresses, statics' addresses -/
abbrev GT : Type := va_G × (Nat → ClassId) × (Nat → Nat) × (Nat → Nat)
def fv (ad : Nat → Nat) : List (Option Nat) → (Nat → Int32) → Nat → List Value
  | [], _, _ => []
  | none :: l, v, k => .int (v k) :: fv ad l v (k + 1)
  | some r :: l, v, k => .ref (ad r) :: fv ad l v (k + 1)
def ce (G : GT) (t : Sh) (v : Nat → Int32) : va_E := match t with
  | .inl (t, n) => .inl (G.2.1 t, n, .inl v)
  | .inr (.inl (t, n, r)) => .inl (G.2.1 t, n, .inr (.inr (.inr (.inr (fun k => some (G.2.2.1 (r k)))))))
  | .inr (.inr (ci, fl)) => .inr (ci, fv G.2.2.1 fl v 0)
abbrev NC : Nat := 175
def TfM (i : Nat) : Sh := match i with
  | 0 => .inl (0, 18)
  | 1 => .inl (0, 198)
  | 2 => .inl (0, 198)
  | 3 => .inl (0, 198)
  | 4 => .inl (0, 40)
  | 5 => .inl (0, 128)
  | 6 => .inl (0, 128)
  | 7 => .inl (0, 128)
  | 8 => .inl (0, 64)
  | 9 => .inl (0, 64)
  | 10 => .inl (0, 64)
  | 11 => .inl (0, 16)
  | 12 => .inl (0, 64)
  | 13 => .inl (0, 16)
  | 14 => .inl (0, 2048)
  | 15 => .inl (1, 2048)
  | 16 => .inl (0, 2048)
  | _ => .inl (1, 2)
def Tf (i : Nat) : Sh :=
  if i < 140 then (if i % 7 = 0 then .inr (.inr (1, [none, none, some (i + 1), some (i + 2), some (i + 3), some (i + 4), some (i + 5), some (i + 6)])) else .inl (0, 11))
  else if i < 143 then .inr (.inr (2, [some (i + 3)]))
  else if i < 146 then .inr (.inl (2, 6, fun k => 7 * (6 * (i - 143) + k)))
  else if i = 146 then .inr (.inl (3, 2, fun k => k + 1 + 140))
  else if i = 147 then .inr (.inr (3, [none, some 148, some 149, some 150, none, none, none]))
  else if i < 151 then .inl (0, 40)
  else if i = 151 then .inr (.inr (0, [some (7 * 19), some 152, some 153, some 154, none, none]))
  else if i < 155 then .inl (0, 2048)
  else if i = 155 then .inr (.inr (4, [some 140, some 146, none, some 147, none, some (7 * 18), some 151]))
  else if i = 156 then .inr (.inr (5, [some 157, some 158, some 159, some 160, some 161, none, none, none, some 162, some 163, some 164, some 165, some 166, some 167, none, none, none, some 168, some 169, some 170, some 171, some 172, none, some 173, some 174]))
  else TfM (i - 157)
def wl (G : GT) (σ : Sg) : va_W := (List.range NC).map (fun i => (G.2.2.1 i, ce G (Tf i) (σ i)))
def Ain (G : GT) : Nat → Prop := fun q => ∃ i, i < NC ∧ G.2.2.1 i = q
def GI (G : GT) : Prop := ∀ i j, i < NC → j < NC → G.2.2.1 i = G.2.2.1 j → i = j
def tysG (G : GT) : List (ClassId × FieldType) := [(G.2.1 0, .int), (G.2.1 1, .boolean), (G.2.1 2, .object "StrictSentences$Sentence"), (G.2.1 3, .object "StrictSentences$Shelf")]
def s1 (σ : Sg) (i : Nat) (f : Nat → Int32) : Sg := fun j => if j = i then f else σ j
def s2 (σ : Sg) (i k : Nat) (x : Int32) : Sg := s1 σ i (upd (σ i) k x)
theorem s2_at (σ : Sg) (i k : Nat) (x : Int32) : s2 σ i k x i k = x := by simp [s2, s1, upd]
theorem s2_ap (σ : Sg) (i k : Nat) (x : Int32) (j q : Nat) : s2 σ i k x j q = if j = i ∧ q = k then x else σ j q := by
  by_cases h : j = i
  · subst h; by_cases h2 : q = k <;> simp [s2, s1, upd, h2]
  · simp [s2, s1, h]
theorem s2_nc {σ : Sg} {i k : Nat} {x : Int32} {j : Nat} (h : j ≠ i) : s2 σ i k x j = σ j := by simp [s2, s1, h]
theorem fv_len (ad : Nat → Nat) : ∀ (fl : List (Option Nat)) (v : Nat → Int32) (b : Nat), (fv ad fl v b).length = fl.length
  | [], _, _ => rfl
  | none :: l, v, b => by simp [fv, fv_len ad l]
  | some r :: l, v, b => by simp [fv, fv_len ad l]
theorem fv_int (ad : Nat → Nat) : ∀ (fl : List (Option Nat)) (v : Nat → Int32) (b k : Nat), fl[k]? = some none → (fv ad fl v b)[k]? = some (.int (v (b + k)))
  | [], _, _, k, h => by simp at h
  | none :: l, v, b, 0, _ => by simp [fv]
  | some r :: l, v, b, 0, h => by simp at h
  | none :: l, v, b, k + 1, h => by
    rw [List.getElem?_cons_succ] at h
    have := fv_int ad l v (b + 1) k h
    simp only [fv, List.getElem?_cons_succ, this]
    rw [show b + 1 + k = b + (k + 1) by omega]
  | some r :: l, v, b, k + 1, h => by
    rw [List.getElem?_cons_succ] at h
    have := fv_int ad l v (b + 1) k h
    simp only [fv, List.getElem?_cons_succ, this]
    rw [show b + 1 + k = b + (k + 1) by omega]
theorem fv_ref (ad : Nat → Nat) : ∀ (fl : List (Option Nat)) (v : Nat → Int32) (b k r : Nat), fl[k]? = some (some r) → (fv ad fl v b)[k]? = some (.ref (ad r))
  | [], _, _, k, _, h => by simp at h
  | none :: l, v, b, 0, r, h => by simp at h
  | some r' :: l, v, b, 0, r, h => by simp at h; simp [fv, h]
  | none :: l, v, b, k + 1, r, h => by
    rw [List.getElem?_cons_succ] at h
    simp only [fv, List.getElem?_cons_succ, fv_ref ad l v (b + 1) k r h]
  | some r' :: l, v, b, k + 1, r, h => by
    rw [List.getElem?_cons_succ] at h
    simp only [fv, List.getElem?_cons_succ, fv_ref ad l v (b + 1) k r h]
theorem fv_cong (ad : Nat → Nat) : ∀ (fl : List (Option Nat)) (v u : Nat → Int32) (b : Nat), (∀ k, b ≤ k → v k = u k) → fv ad fl v b = fv ad fl u b
  | [], _, _, _, _ => rfl
  | none :: l, v, u, b, h => by simp only [fv, h b (Nat.le_refl b), fv_cong ad l v u (b + 1) (fun k hk => h k (by omega))]
  | some r :: l, v, u, b, h => by simp only [fv, fv_cong ad l v u (b + 1) (fun k hk => h k (by omega))]
theorem fv_set (ad : Nat → Nat) (x : Int32) : ∀ (fl : List (Option Nat)) (v : Nat → Int32) (b k : Nat), fl[k]? = some none → (fv ad fl v b).set k (.int x) = fv ad fl (upd v (b + k) x) b
  | [], _, _, k, h => by simp at h
  | none :: l, v, b, 0, _ => by
    simp only [fv, List.set_cons_zero]
    rw [show upd v (b + 0) x b = x by simp [upd]]
    rw [fv_cong ad l v (upd v (b + 0) x) (b + 1) (fun k hk => by simp [upd]; omega)]
  | some r :: l, v, b, 0, h => by simp at h
  | none :: l, v, b, k + 1, h => by
    rw [List.getElem?_cons_succ] at h
    simp only [fv, List.set_cons_succ, fv_set ad x l v (b + 1) k h]
    rw [show b + 1 + k = b + (k + 1) by omega, show upd v (b + (k + 1)) x b = v b by simp [upd]]
  | some r :: l, v, b, k + 1, h => by
    rw [List.getElem?_cons_succ] at h
    simp only [fv, List.set_cons_succ, fv_set ad x l v (b + 1) k h]
    rw [show b + 1 + k = b + (k + 1) by omega]
theorem wl_at (G : GT) (σ : Sg) {i : Nat} (hi : i < NC) : (wl G σ)[i]? = some (G.2.2.1 i, ce G (Tf i) (σ i)) := by
  rw [wl, List.getElem?_map, List.getElem?_range hi]; rfl
theorem wl_set (G : GT) (σ : Sg) {i : Nat} (hi : i < NC) (f : Nat → Int32) : (wl G σ).set i (G.2.2.1 i, ce G (Tf i) f) = wl G (s1 σ i f) := by
  apply List.ext_getElem?
  intro j
  rw [List.getElem?_set]
  by_cases hj : j < NC
  · by_cases h : i = j
    · subst h
      rw [if_pos rfl, wl_at G _ hj]
      simp [wl, s1, hi]
    · rw [if_neg h, wl_at G σ hj, wl_at G _ hj]
      simp [s1, Ne.symm h]
  · have h1 : ∀ τ : Sg, (wl G τ)[j]? = none := fun τ => by simp [wl]; omega
    rw [h1, h1]
    by_cases h : i = j
    · omega
    · rw [if_neg h]
theorem wl_D {G : GT} (hG : GI G) (σ : Sg) : va_D (Ain G) (wl G σ) := by
  have key : ∀ (i : Nat) (q : Nat × va_E), (wl G σ)[i]? = some q → i < NC ∧ q.1 = G.2.2.1 i := by
    intro i q h
    by_cases hi : i < NC
    · rw [wl_at G σ hi] at h
      cases h
      exact ⟨hi, rfl⟩
    · have : (wl G σ)[i]? = none := by simp [wl]; omega
      rw [this] at h; cases h
  refine ⟨fun i j p q hi hj e => ?_, fun k q hk => ?_⟩
  · obtain ⟨a1, a2⟩ := key i p hi
    obtain ⟨b1, b2⟩ := key j q hj
    exact hG i j a1 b1 (by rw [← a2, ← b2]; exact e)
  · obtain ⟨a1, a2⟩ := key k q hk
    exact ⟨k, a1, a2.symm⟩
def fI (i ci k : Nat) : Prop := i < NC ∧ ∃ fl, Tf i = .inr (.inr (ci, fl)) ∧ fl[k]? = some none
def fR (i ci k r : Nat) : Prop := i < NC ∧ ∃ fl, Tf i = .inr (.inr (ci, fl)) ∧ fl[k]? = some (some r)
def aI (i n : Nat) : Prop := i < NC ∧ Tf i = .inl (0, n)
def aZ (i n : Nat) : Prop := i < NC ∧ Tf i = .inl (1, n)
def aR (i t n : Nat) (r : Nat → Nat) : Prop := i < NC ∧ Tf i = .inr (.inl (t, n, r))
def oC (i ci : Nat) : Prop := i < NC ∧ ∃ fl, Tf i = .inr (.inr (ci, fl))
/-! STATICS: the row ATOM_ROWS, the strings, String.COMPACT_STRINGS, the formatter -/
def arow (j : Nat) : Int32 := match j with
  | 0 => 43690
  | 1 => 52428
  | 2 => 61680
  | _ => 65280
def strI (i : Nat) : String × Nat × String × List Int32 := match i with
  | 0 => ("StrictSentences$Text", 59, "pqrs", [112, 113, 114, 115])
  | 1 => ("StrictSentences$Text", 67, "&|>", [38, 124, 62])
  | 2 => ("StrictSentences$Sentence", 75, "&|>", [38, 124, 62])
  | _ => ("StrictSentences$Sentence", 83, "pqrs", [112, 113, 114, 115])
def St (G : GT) (U : State) (H : Heap) : Prop :=
  va_Z "StrictSentences$Sentence" "ATOM_ROWS" "[I" (.ref (G.2.2.2 0)) (Ain G) U H ∧ va_T .int (G.2.2.2 0) 4 (fun j => .int (arow j)) (Ain G) U H ∧
  va_Z "java/lang/String" "COMPACT_STRINGS" "Z" (.int 1) (Ain G) U H ∧ va_Zq "jdk/internal/util/Preconditions" "SIOOBE_FORMATTER" "Ljava/util/function/BiFunction;" (Ain G) U H ∧
  va_Nw (.methodLinkNest "StrictSentences$Frame" 72 yX4_has "StrictSentences") U ∧
  ∀ i, i < 4 → vk_R (strI i).1 (strI i).2.1 (strI i).2.2.1 (G.2.2.2 (1 + i)) U ∧ va_O "java/lang/String" (G.2.2.2 (1 + i)) (Ain G) U H ∧ va_OF "java/lang/String" "coder" "B" (.int 0) (G.2.2.2 (1 + i)) (Ain G) U H ∧ va_OF "java/lang/String" "value" "[B" (.ref (G.2.2.2 (5 + i))) (G.2.2.2 (1 + i)) (Ain G) U H ∧ va_T .byte (G.2.2.2 (5 + i)) (strI i).2.2.2.length (fun j => .int ((strI i).2.2.2.getD j 0)) (Ain G) U H
theorem St.kept {G : GT} {U : State} {H H1 : Heap} (h : St G U H) (hq : ∀ a : Nat, a < H.size → ¬ Ain G a → H1[a]? = H[a]?) : St G U H1 := by
  obtain ⟨h1, h2, h3, h4, h6, h5⟩ := h
  refine ⟨h1.kept hq, h2.kept hq, h3.kept hq, h4.kept hq, h6, fun i hi => ?_⟩
  obtain ⟨a1, a2, a3, a4, a5⟩ := h5 i hi
  exact ⟨a1, a2.kept hq, a3.kept hq, a4.kept hq, a5.kept hq⟩
theorem St.warm {G : GT} {s U : State} {H : Heap} (hW : s.WarmedH U.vm) (h : St G s H) : St G U H := by
  obtain ⟨h1, h2, h3, h4, h6, h5⟩ := h
  refine ⟨h1.moved hW.alike, h2.moved hW.alike, h3.moved hW.alike, h4.moved hW.alike, va_Nw.warmM hW h6, fun i hi => ?_⟩
  obtain ⟨a1, a2, a3, a4, a5⟩ := h5 i hi
  exact ⟨a1.warm hW, va_O.moved hW.alike a2, va_OF.moved hW.alike a3, va_OF.moved hW.alike a4, a5.moved hW.alike⟩
theorem St.same {G : GT} {u U : State} {H : Heap} (hv : U.vm = u.vm) (h : St G u H) : St G U H := by
  have ha : u.vm.Alike U.vm := by rw [hv]; exact Vm.Alike.refl _
  obtain ⟨h1, h2, h3, h4, h6, h5⟩ := h
  refine ⟨h1.moved ha, h2.moved ha, h3.moved ha, h4.moved ha, va_Nw.same rfl hv.symm h6, fun i hi => ?_⟩
  obtain ⟨a1, a2, a3, a4, a5⟩ := h5 i hi
  exact ⟨a1.same hv, va_O.moved ha a2, va_OF.moved ha a3, va_OF.moved ha a4, a5.moved ha⟩
/-! LOCALS by their places -/
def posL (lo : List (Option Value)) : List (Nat × Value) := (List.range lo.length).filterMap (fun k => match lo[k]? with
  | some (some v) => some (k, v)
  | _ => none)
theorem mem_posL {lo : List (Option Value)} {q : Nat × Value} : q ∈ posL lo ↔ lo[q.1]? = some (some q.2) := by
  unfold posL
  rw [List.mem_filterMap]
  constructor
  · rintro ⟨k, hk, h⟩
    cases hl : lo[k]? with
    | none => rw [hl] at h; cases h
    | some o =>
      cases o with
      | none => rw [hl] at h; cases h
      | some v => rw [hl] at h; cases h; exact hl
  · intro h
    refine ⟨q.1, ?_, ?_⟩
    · rw [List.mem_range]
      exact (List.getElem?_eq_some_iff.mp h).1
    · rw [h]
def lh (ls : Array Slot) (nL : Nat) (lo : List (Option Value)) : Prop := lo.length = nL ∧ (∀ (k : Nat) (v : Value), lo[k]? = some (some v) → v.category = 1) ∧ lv_has ls nL (posL lo)
theorem lh_at {ls : Array Slot} {nL : Nat} {lo : List (Option Value)} (h : lh ls nL lo) {k : Nat} {v : Value} (hk : lo[k]? = some (some v)) : ls[k]? = some (.val v) := h.2.2.2.2 (k, v) (mem_posL.mpr hk)
theorem lh_st {ls ls' : Array Slot} {nL : Nat} {lo : List (Option Value)} (h : lh ls nL lo) {i : Nat} {v : Value} (hi : i < nL) (hc : v.category = 1) (h' : lv_has ls' nL ((i, v) :: (posL lo).filter (fun q => !(q.1 == i) && !(q.1 + 1 == i && q.2.category == 2)))) : lh ls' nL (lo.set i (some v)) := by
  obtain ⟨h1, h2, h3⟩ := h
  have key : ∀ (k : Nat) (u : Value), (lo.set i (some v))[k]? = some (some u) → (k = i ∧ u = v) ∨ (k ≠ i ∧ lo[k]? = some (some u)) := by
    intro k u hk
    rw [List.getElem?_set] at hk
    by_cases e : i = k
    · subst e
      rw [if_pos rfl] at hk
      split at hk
      · cases hk; exact Or.inl ⟨rfl, rfl⟩
      · cases hk
    · rw [if_neg e] at hk
      exact Or.inr ⟨Ne.symm e, hk⟩
  refine ⟨by rw [List.length_set]; exact h1, fun k u hk => ?_, h'.1, h'.2.1, fun q hq => ?_⟩
  · rcases key k u hk with ⟨-, rfl⟩ | ⟨-, h⟩
    · exact hc
    · exact h2 k u h
  · have hq := mem_posL.mp hq
    rcases key q.1 q.2 hq with ⟨e1, e2⟩ | ⟨e1, h⟩
    · have := h'.2.2 (i, v) List.mem_cons_self
      rw [e1, e2]; exact this
    · refine h'.2.2 q (List.mem_cons_of_mem _ (List.mem_filter.mpr ⟨mem_posL.mpr h, ?_⟩))
      have hcat := h2 q.1 q.2 h
      simp [e1, hcat]
theorem lh_entry {av : List Value} {n : Nat} (hc : ∀ v ∈ av, v.category = 1) (hn : av.length ≤ n) : lh ((lg_sl av ++ List.replicate (n - (lg_sl av).length) Slot.unset).toArray) n (av.map some ++ List.replicate (n - av.length) none) := by
  have hsl : lg_sl av = av.map Slot.val := by
    unfold lg_sl
    clear hn
    induction av with
    | nil => rfl
    | cons v l ih =>
      rw [List.flatMap_cons, ih (fun u hu => hc u (List.mem_cons_of_mem _ hu))]
      simp [hc v List.mem_cons_self]
  have hE := lv_entry av (n := n) (by rw [hsl, List.length_map]; exact hn)
  have key : ∀ (k : Nat) (v : Value), (av.map some ++ List.replicate (n - av.length) none)[k]? = some (some v) → av[k]? = some v := by
    intro k v hk
    rw [List.getElem?_append] at hk
    split at hk
    · rw [List.getElem?_map] at hk
      cases ha : av[k]? with
      | none => rw [ha] at hk; cases hk
      | some u => rw [ha] at hk; cases hk; rfl
    · rw [List.getElem?_replicate] at hk
      split at hk <;> cases hk
  refine ⟨by simp; omega, fun k v hk => hc v (List.mem_of_getElem? (key k v hk)), hE.1, hE.2.1, fun q hq => ?_⟩
  have h := key q.1 q.2 (mem_posL.mp hq)
  rw [hsl]
  have hl : q.1 < av.length := (List.getElem?_eq_some_iff.mp h).1
  simp only [List.getElem?_toArray]
  rw [List.getElem?_append_left (by rw [List.length_map]; exact hl), List.getElem?_map, h]
  rfl
/-! THE JUDGEMENT: the machine at pc, with the world σ, the locals lo and the stack st, comes to its end -/
abbrev ZT : Type := Program × Launch × Env × Room × State × MethodId × Array Value × List Frame × Method × Code × Nat × Nat × (State → Prop)
def V (G : GT) (Z : ZT) (σ : Sg) (pc : Nat) (lo : List (Option Value)) (st : List Value) : Prop := match Z with
  | (p, l, e, R, s, m, args, below, meth, c, cs, sl, Q) => ∀ (H : Heap) (locs : List Loc) (ls : Array Slot), va_P G.1 vwCl (wl G σ) H → va_S (Ain G) s.heap H locs → lh ls c.maxLocals lo → W p l e R s m args below meth c H locs cs sl Q (F0 m pc ls st)
abbrev lcl (n : Nat) : Nat := 60 * n
def rml (lev : Nat) : Room := { frames := lev, cells := 0, slots := 0, locals := lcl lev }
def Cx (G : GT) (own : String) (cc : ByteArray) (lev : Nat) (Z : ZT) : Prop := match Z with
  | (p, _, _, R, s, m, args, _, meth, c, cs, sl, _) => p.tables.exec = Jvm.exec ∧ c.code = cc ∧ s.vm.findClass own = some m.cls ∧ (∀ w ∈ BG, w.before args s = true) ∧ va_K G.1 vwCl (tysG G) s ∧ GI G ∧ St G s s.heap ∧ (lev ≤ R.frames ∧ lcl lev ≤ R.locals ∧ cs ≤ R.cells ∧ sl ≤ R.slots) ∧ meth.locks = false
def Bd (G : GT) (σ : Sg) (t : State) : Prop := va_P G.1 vwCl (wl G σ) t.heap
def Wd (G : GT) (σ : Sg) (U : State) : Prop := GI G ∧ va_P G.1 vwCl (wl G σ) U.heap ∧ va_K G.1 vwCl (tysG G) U ∧ St G U U.heap
def Rt (G : GT) (Z : ZT) (ty : FieldType) (post : Int32 → Sg → Prop) : Prop := match Z with
  | (_, _, _, _, s, _, args, below, meth, _, cs, sl, Q) => meth.sig.returnType = some ty ∧ Q = MQ below (va_Qi post (Bd G) (Ain G)) args s cs sl (Ain G)
def RtV (G : GT) (Z : ZT) (post : Sg → Prop) : Prop := match Z with
  | (_, _, _, _, s, _, args, below, meth, _, cs, sl, Q) => meth.sig.returnType = none ∧ Q = MQ below (va_Qv post (Bd G) (Ain G)) args s cs sl (Ain G)
/-- a contract: a method that answers a number (or a truth) -/
def MC (G : GT) (y : MethodName) (cc : ByteArray) (n : Nat) (ty : FieldType) (lev : Nat) (av : List Value) (σ : Sg) (post : Int32 → Sg → Prop) : Prop := ∀ l, Met l y (.code y cc n (some ty) :: BG) (rml lev) (va_Pc av (Wd G σ)) (va_Qi post (Bd G) (Ain G)) 0 0 (Ain G)
/-- a contract: a method that answers nothing -/
def MV (G : GT) (y : MethodName) (cc : ByteArray) (n : Nat) (lev : Nat) (av : List Value) (σ : Sg) (post : Sg → Prop) : Prop := ∀ l, Met l y (.code y cc n none :: BG) (rml lev) (va_Pc av (Wd G σ)) (va_Qv post (Bd G) (Ain G)) 0 0 (Ain G)
theorem MC_of {G : GT} {y : MethodName} {cc : ByteArray} {n : Nat} {ty : FieldType} {lev : Nat} {av : List Value} {σ : Sg} {post : Int32 → Sg → Prop} (hy : plainName y.cls = true) (hc : ∀ v ∈ av, v.category = 1) (hn : av.length ≤ n)
    (h : ∀ Z : ZT, Cx G y.cls cc lev Z → Rt G Z ty post → V G Z σ 0 (av.map some ++ List.replicate (n - av.length) none) []) : MC G y cc n ty lev av σ post := by
  intro l
  refine Met.ofW (cc := cc) (maxL := n) (ret := some ty) hy rfl ?_
  intro p e s m args below meth c s₁ B hml hv
  obtain ⟨rfl, hG, hP, hK, hS⟩ := hv
  have hts := atoms_spec (ws := .code y cc n (some ty) :: BG) B.pre
  have hV := h (p, l, e, rml lev, s, m, av.toArray, below, meth, c, 0, 0, MQ below (va_Qi post (Bd G) (Ain G)) av.toArray s 0 0 (Ain G)) ⟨B.exec, B.bytes, findClass_of_methodNamed B.named, fun w hw => hts w (List.mem_cons_of_mem _ hw), hK, hG, hS, ⟨Nat.le_refl _, Nat.le_refl _, Nat.le_refl _, Nat.le_refl _⟩, B.notSynchronized⟩ ⟨B.returns, rfl⟩
  rw [lg_entry_eq]
  exact hV s.heap [] _ hP va_S.rf (by rw [hml]; exact lh_entry hc hn)
theorem MV_of {G : GT} {y : MethodName} {cc : ByteArray} {n : Nat} {lev : Nat} {av : List Value} {σ : Sg} {post : Sg → Prop} (hy : plainName y.cls = true) (hc : ∀ v ∈ av, v.category = 1) (hn : av.length ≤ n)
    (h : ∀ Z : ZT, Cx G y.cls cc lev Z → RtV G Z post → V G Z σ 0 (av.map some ++ List.replicate (n - av.length) none) []) : MV G y cc n lev av σ post := by
  intro l
  refine Met.ofW (cc := cc) (maxL := n) (ret := none) hy rfl ?_
  intro p e s m args below meth c s₁ B hml hv
  obtain ⟨rfl, hG, hP, hK, hS⟩ := hv
  have hts := atoms_spec (ws := .code y cc n none :: BG) B.pre
  have hV := h (p, l, e, rml lev, s, m, av.toArray, below, meth, c, 0, 0, MQ below (va_Qv post (Bd G) (Ain G)) av.toArray s 0 0 (Ain G)) ⟨B.exec, B.bytes, findClass_of_methodNamed B.named, fun w hw => hts w (List.mem_cons_of_mem _ hw), hK, hG, hS, ⟨Nat.le_refl _, Nat.le_refl _, Nat.le_refl _, Nat.le_refl _⟩, B.notSynchronized⟩ ⟨B.returns, rfl⟩
  rw [lg_entry_eq]
  exact hV s.heap [] _ hP va_S.rf (by rw [hml]; exact lh_entry hc hn)
theorem MC.weak {G : GT} {y : MethodName} {cc : ByteArray} {n : Nat} {ty : FieldType} {lev : Nat} {av : List Value} {σ τ : Sg} {post : Int32 → Sg → Prop} (h : MC G y cc n ty lev av σ post) (e : σ = τ) : MC G y cc n ty lev av τ post := e ▸ h
theorem wd_blind (G : GT) (σ : Sg) (av : List Value) : FrameBlind (va_Pc av (Wd G σ)) := fun a U g mk q => by
  obtain ⟨q0, q1, q2, q3, q4⟩ := q
  exact ⟨q0, q1, q2, va_K.moved (u := U) (U := U.calling g mk a) (Vm.Alike.refl U.vm) q3, St.same rfl q4⟩
section VROWS
variable {G : GT} {own : String} {cc : ByteArray} {lev : Nat} {Z : ZT} {σ : Sg} {pc : Nat} {lo : List (Option Value)} {st : List Value}
theorem v_ret {ty : FieldType} {post : Int32 → Sg → Prop} {v : Int32} (X : Cx G own cc lev Z) (hR : Rt G Z ty post) (d : decode cc pc = .ok (.ireturn, 1)) (hn : narrow ty (.int v) = .int v) (hp : post v σ) : V G Z σ pc lo [.int v] := by
  obtain ⟨p, l, e, R, s, m, args, below, meth, c, cs, sl, Q⟩ := Z
  obtain ⟨hx, hb, ho, ht, hK, hG, hS0, hr, hlk⟩ := X
  obtain ⟨hty, rfl⟩ := hR
  intro H locs ls hP hS hl
  exact W.zret hx hb hty hn (fun t ht hW => ⟨⟨v, σ, rfl, hp, by rw [Bd, ht]; exact hP⟩, hS.F ht⟩) hS.2.2 d hlk
theorem v_vret {post : Sg → Prop} (X : Cx G own cc lev Z) (hR : RtV G Z post) (d : decode cc pc = .ok (.return_, 1)) (hp : post σ) : V G Z σ pc lo [] := by
  obtain ⟨p, l, e, R, s, m, args, below, meth, c, cs, sl, Q⟩ := Z
  obtain ⟨hx, hb, ho, ht, hK, hG, hS0, hr, hlk⟩ := X
  obtain ⟨hty, rfl⟩ := hR
  intro H locs ls hP hS hl
  exact W.vret hx hb hty (fun t ht hW => ⟨⟨σ, rfl, hp, by rw [Bd, ht]; exact hP⟩, hS.F ht⟩) hS.2.2 d hlk
theorem v_iconst {n : Int} {v : Int32} (X : Cx G own cc lev Z) (d : decode cc pc = .ok (.iconst n, 1)) (hv : Int32.ofInt n = v) (k : V G Z σ (pc + 1) lo (.int v :: st)) : V G Z σ pc lo st := by
  obtain ⟨p, l, e, R, s, m, args, below, meth, c, cs, sl, Q⟩ := Z
  obtain ⟨hx, hb, ho, ht, hK, hG, hS0, hr, hlk⟩ := X
  intro H locs ls hP hS hl
  exact lv_iconst hx hb d hv (k H locs ls hP hS hl)
theorem v_bipush {n : Int} {v : Int32} (X : Cx G own cc lev Z) (d : decode cc pc = .ok (.bipush n, 2)) (hv : (Int8.ofInt n).toInt32 = v) (k : V G Z σ (pc + 2) lo (.int v :: st)) : V G Z σ pc lo st := by
  obtain ⟨p, l, e, R, s, m, args, below, meth, c, cs, sl, Q⟩ := Z
  obtain ⟨hx, hb, ho, ht, hK, hG, hS0, hr, hlk⟩ := X
  intro H locs ls hP hS hl
  exact lv_bipush hx hb d hv (k H locs ls hP hS hl)
theorem v_sipush {n : Int} {v : Int32} (X : Cx G own cc lev Z) (d : decode cc pc = .ok (.sipush n, 3)) (hv : (Int16.ofInt n).toInt32 = v) (k : V G Z σ (pc + 3) lo (.int v :: st)) : V G Z σ pc lo st := by
  obtain ⟨p, l, e, R, s, m, args, below, meth, c, cs, sl, Q⟩ := Z
  obtain ⟨hx, hb, ho, ht, hK, hG, hS0, hr, hlk⟩ := X
  intro H locs ls hP hS hl
  exact lv_sipush hx hb d hv (k H locs ls hP hS hl)
theorem v_iload_n {k : Fin 4} {x : Int32} (X : Cx G own cc lev Z) (d : decode cc pc = .ok (.iload_n k, 1)) (h : lo[(k : Nat)]? = some (some (.int x))) (kk : V G Z σ (pc + 1) lo (.int x :: st)) : V G Z σ pc lo st := by
  obtain ⟨p, l, e, R, s, m, args, below, meth, c, cs, sl, Q⟩ := Z
  obtain ⟨hx, hb, ho, ht, hK, hG, hS0, hr, hlk⟩ := X
  intro H locs ls hP hS hl
  exact lv_iload_n hx hb d rfl (lh_at hl h) (kk H locs ls hP hS hl)
theorem v_iload {k : Nat} {x : Int32} (X : Cx G own cc lev Z) (d : decode cc pc = .ok (.iload k, 2)) (h : lo[k]? = some (some (.int x))) (kk : V G Z σ (pc + 2) lo (.int x :: st)) : V G Z σ pc lo st := by
  obtain ⟨p, l, e, R, s, m, args, below, meth, c, cs, sl, Q⟩ := Z
  obtain ⟨hx, hb, ho, ht, hK, hG, hS0, hr, hlk⟩ := X
  intro H locs ls hP hS hl
  exact lv_iload hx hb d (lh_at hl h) (kk H locs ls hP hS hl)
theorem v_istore_n {k : Fin 4} {x : Int32} (X : Cx G own cc lev Z) (d : decode cc pc = .ok (.istore_n k, 1)) (h : (k : Nat) < lo.length) (kk : V G Z σ (pc + 1) (lo.set (k : Nat) (some (.int x))) st) : V G Z σ pc lo (.int x :: st) := by
  obtain ⟨p, l, e, R, s, m, args, below, meth, c, cs, sl, Q⟩ := Z
  obtain ⟨hx, hb, ho, ht, hK, hG, hS0, hr, hlk⟩ := X
  intro H locs ls hP hS hl
  have hi : (k : Nat) < c.maxLocals := by rw [← hl.1]; exact h
  exact lv_istore_n hx hb d rfl hl.2.2 hi rfl (fun ls' h' => kk H locs ls' hP hS (lh_st hl hi rfl h'))
theorem v_istore {k : Nat} {x : Int32} (X : Cx G own cc lev Z) (d : decode cc pc = .ok (.istore k, 2)) (h : k < lo.length) (kk : V G Z σ (pc + 2) (lo.set k (some (.int x))) st) : V G Z σ pc lo (.int x :: st) := by
  obtain ⟨p, l, e, R, s, m, args, below, meth, c, cs, sl, Q⟩ := Z
  obtain ⟨hx, hb, ho, ht, hK, hG, hS0, hr, hlk⟩ := X
  intro H locs ls hP hS hl
  have hi : k < c.maxLocals := by rw [← hl.1]; exact h
  exact lv_istore hx hb d hl.2.2 hi rfl (fun ls' h' => kk H locs ls' hP hS (lh_st hl hi rfl h'))
theorem v_aload_n {k : Fin 4} {x : Nat} (X : Cx G own cc lev Z) (d : decode cc pc = .ok (.aload_n k, 1)) (h : lo[(k : Nat)]? = some (some (.ref x))) (kk : V G Z σ (pc + 1) lo (.ref x :: st)) : V G Z σ pc lo st := by
  obtain ⟨p, l, e, R, s, m, args, below, meth, c, cs, sl, Q⟩ := Z
  obtain ⟨hx, hb, ho, ht, hK, hG, hS0, hr, hlk⟩ := X
  intro H locs ls hP hS hl
  exact lv_aload_n hx hb d rfl (lh_at hl h) (kk H locs ls hP hS hl)
theorem v_aload {k : Nat} {x : Nat} (X : Cx G own cc lev Z) (d : decode cc pc = .ok (.aload k, 2)) (h : lo[k]? = some (some (.ref x))) (kk : V G Z σ (pc + 2) lo (.ref x :: st)) : V G Z σ pc lo st := by
  obtain ⟨p, l, e, R, s, m, args, below, meth, c, cs, sl, Q⟩ := Z
  obtain ⟨hx, hb, ho, ht, hK, hG, hS0, hr, hlk⟩ := X
  intro H locs ls hP hS hl
  exact lv_aload hx hb d (lh_at hl h) (kk H locs ls hP hS hl)
theorem v_astore_n {k : Fin 4} {x : Nat} (X : Cx G own cc lev Z) (d : decode cc pc = .ok (.astore_n k, 1)) (h : (k : Nat) < lo.length) (kk : V G Z σ (pc + 1) (lo.set (k : Nat) (some (.ref x))) st) : V G Z σ pc lo (.ref x :: st) := by
  obtain ⟨p, l, e, R, s, m, args, below, meth, c, cs, sl, Q⟩ := Z
  obtain ⟨hx, hb, ho, ht, hK, hG, hS0, hr, hlk⟩ := X
  intro H locs ls hP hS hl
  have hi : (k : Nat) < c.maxLocals := by rw [← hl.1]; exact h
  exact lv_astore_n hx hb d rfl hl.2.2 hi rfl (fun ls' h' => kk H locs ls' hP hS (lh_st hl hi rfl h'))
theorem v_astore {k : Nat} {x : Nat} (X : Cx G own cc lev Z) (d : decode cc pc = .ok (.astore k, 2)) (h : k < lo.length) (kk : V G Z σ (pc + 2) (lo.set k (some (.ref x))) st) : V G Z σ pc lo (.ref x :: st) := by
  obtain ⟨p, l, e, R, s, m, args, below, meth, c, cs, sl, Q⟩ := Z
  obtain ⟨hx, hb, ho, ht, hK, hG, hS0, hr, hlk⟩ := X
  intro H locs ls hP hS hl
  have hi : k < c.maxLocals := by rw [← hl.1]; exact h
  exact lv_astore hx hb d hl.2.2 hi rfl (fun ls' h' => kk H locs ls' hP hS (lh_st hl hi rfl h'))
theorem v_iinc {k : Nat} {n : Int} {x : Int32} (X : Cx G own cc lev Z) (d : decode cc pc = .ok (.iinc k n, 3)) (h : lo[k]? = some (some (.int x))) (kk : V G Z σ (pc + 3) (lo.set k (some (.int (x + Int32.ofInt n)))) st) : V G Z σ pc lo st := by
  obtain ⟨p, l, e, R, s, m, args, below, meth, c, cs, sl, Q⟩ := Z
  obtain ⟨hx, hb, ho, ht, hK, hG, hS0, hr, hlk⟩ := X
  intro H locs ls hP hS hl
  have hi : k < c.maxLocals := by rw [← hl.1]; exact (List.getElem?_eq_some_iff.mp h).1
  obtain ⟨j, hj⟩ := List.getElem?_of_mem ((mem_posL (q := (k, .int x))).mpr h)
  exact lv_iinc hx hb d hl.2.2 hj rfl hi rfl (fun ls' h' => kk H locs ls' hP hS (lh_st hl hi rfl h'))
theorem v_iadd {x y : Int32} (X : Cx G own cc lev Z) (d : decode cc pc = .ok (.iadd, 1)) (k : V G Z σ (pc + 1) lo (.int (x + y) :: st)) : V G Z σ pc lo (.int y :: .int x :: st) := by
  obtain ⟨p, l, e, R, s, m, args, below, meth, c, cs, sl, Q⟩ := Z
  obtain ⟨hx, hb, ho, ht, hK, hG, hS0, hr, hlk⟩ := X
  intro H locs ls hP hS hl
  exact lv_iadd hx hb d (k H locs ls hP hS hl)
theorem v_isub {x y : Int32} (X : Cx G own cc lev Z) (d : decode cc pc = .ok (.isub, 1)) (k : V G Z σ (pc + 1) lo (.int (x - y) :: st)) : V G Z σ pc lo (.int y :: .int x :: st) := by
  obtain ⟨p, l, e, R, s, m, args, below, meth, c, cs, sl, Q⟩ := Z
  obtain ⟨hx, hb, ho, ht, hK, hG, hS0, hr, hlk⟩ := X
  intro H locs ls hP hS hl
  exact lv_isub hx hb d (k H locs ls hP hS hl)
theorem v_imul {x y : Int32} (X : Cx G own cc lev Z) (d : decode cc pc = .ok (.imul, 1)) (k : V G Z σ (pc + 1) lo (.int (x * y) :: st)) : V G Z σ pc lo (.int y :: .int x :: st) := by
  obtain ⟨p, l, e, R, s, m, args, below, meth, c, cs, sl, Q⟩ := Z
  obtain ⟨hx, hb, ho, ht, hK, hG, hS0, hr, hlk⟩ := X
  intro H locs ls hP hS hl
  exact lv_imul hx hb d (k H locs ls hP hS hl)
theorem v_iand {x y : Int32} (X : Cx G own cc lev Z) (d : decode cc pc = .ok (.iand, 1)) (k : V G Z σ (pc + 1) lo (.int (x &&& y) :: st)) : V G Z σ pc lo (.int y :: .int x :: st) := by
  obtain ⟨p, l, e, R, s, m, args, below, meth, c, cs, sl, Q⟩ := Z
  obtain ⟨hx, hb, ho, ht, hK, hG, hS0, hr, hlk⟩ := X
  intro H locs ls hP hS hl
  exact lv_iand hx hb d (k H locs ls hP hS hl)
theorem v_ior {x y : Int32} (X : Cx G own cc lev Z) (d : decode cc pc = .ok (.ior, 1)) (k : V G Z σ (pc + 1) lo (.int (x ||| y) :: st)) : V G Z σ pc lo (.int y :: .int x :: st) := by
  obtain ⟨p, l, e, R, s, m, args, below, meth, c, cs, sl, Q⟩ := Z
  obtain ⟨hx, hb, ho, ht, hK, hG, hS0, hr, hlk⟩ := X
  intro H locs ls hP hS hl
  exact lv_ior hx hb d (k H locs ls hP hS hl)
theorem v_ixor {x y : Int32} (X : Cx G own cc lev Z) (d : decode cc pc = .ok (.ixor, 1)) (k : V G Z σ (pc + 1) lo (.int (x ^^^ y) :: st)) : V G Z σ pc lo (.int y :: .int x :: st) := by
  obtain ⟨p, l, e, R, s, m, args, below, meth, c, cs, sl, Q⟩ := Z
  obtain ⟨hx, hb, ho, ht, hK, hG, hS0, hr, hlk⟩ := X
  intro H locs ls hP hS hl
  exact lv_ixor hx hb d (k H locs ls hP hS hl)
theorem v_ishl {x y : Int32} (X : Cx G own cc lev Z) (d : decode cc pc = .ok (.ishl, 1)) (k : V G Z σ (pc + 1) lo (.int (x <<< (y &&& 31)) :: st)) : V G Z σ pc lo (.int y :: .int x :: st) := by
  obtain ⟨p, l, e, R, s, m, args, below, meth, c, cs, sl, Q⟩ := Z
  obtain ⟨hx, hb, ho, ht, hK, hG, hS0, hr, hlk⟩ := X
  intro H locs ls hP hS hl
  exact lv_ishl hx hb d (k H locs ls hP hS hl)
theorem v_ishr {x y : Int32} (X : Cx G own cc lev Z) (d : decode cc pc = .ok (.ishr, 1)) (k : V G Z σ (pc + 1) lo (.int (x >>> (y &&& 31)) :: st)) : V G Z σ pc lo (.int y :: .int x :: st) := by
  obtain ⟨p, l, e, R, s, m, args, below, meth, c, cs, sl, Q⟩ := Z
  obtain ⟨hx, hb, ho, ht, hK, hG, hS0, hr, hlk⟩ := X
  intro H locs ls hP hS hl
  exact lv_ishr hx hb d (k H locs ls hP hS hl)
theorem v_iushr {x y : Int32} (X : Cx G own cc lev Z) (d : decode cc pc = .ok (.iushr, 1)) (k : V G Z σ (pc + 1) lo (.int ((x.toUInt32 >>> (y.toUInt32 &&& Int32.toUInt32 31)).toInt32) :: st)) : V G Z σ pc lo (.int y :: .int x :: st) := by
  obtain ⟨p, l, e, R, s, m, args, below, meth, c, cs, sl, Q⟩ := Z
  obtain ⟨hx, hb, ho, ht, hK, hG, hS0, hr, hlk⟩ := X
  intro H locs ls hP hS hl
  exact lv_iushr hx hb d rfl (k H locs ls hP hS hl)
theorem v_i2c {x : Int32} (X : Cx G own cc lev Z) (d : decode cc pc = .ok (.i2c, 1)) (k : V G Z σ (pc + 1) lo (.int ((x.toUInt32 % 65536).toInt32) :: st)) : V G Z σ pc lo (.int x :: st) := by
  obtain ⟨p, l, e, R, s, m, args, below, meth, c, cs, sl, Q⟩ := Z
  obtain ⟨hx, hb, ho, ht, hK, hG, hS0, hr, hlk⟩ := X
  intro H locs ls hP hS hl
  exact lv_i2c hx hb d rfl (k H locs ls hP hS hl)
theorem v_i2b {x : Int32} (X : Cx G own cc lev Z) (d : decode cc pc = .ok (.i2b, 1)) (k : V G Z σ (pc + 1) lo (.int (x.toInt8.toInt32) :: st)) : V G Z σ pc lo (.int x :: st) := by
  obtain ⟨p, l, e, R, s, m, args, below, meth, c, cs, sl, Q⟩ := Z
  obtain ⟨hx, hb, ho, ht, hK, hG, hS0, hr, hlk⟩ := X
  intro H locs ls hP hS hl
  exact lv_i2b hx hb d rfl (k H locs ls hP hS hl)
theorem v_dup {v : Value} (X : Cx G own cc lev Z) (d : decode cc pc = .ok (.dup, 1)) (hv : v.category = 1) (k : V G Z σ (pc + 1) lo (v :: v :: st)) : V G Z σ pc lo (v :: st) := by
  obtain ⟨p, l, e, R, s, m, args, below, meth, c, cs, sl, Q⟩ := Z
  obtain ⟨hx, hb, ho, ht, hK, hG, hS0, hr, hlk⟩ := X
  intro H locs ls hP hS hl
  exact lv_dup hx hb d hv (k H locs ls hP hS hl)
theorem v_pop {v : Value} (X : Cx G own cc lev Z) (d : decode cc pc = .ok (.pop, 1)) (hv : v.category = 1) (k : V G Z σ (pc + 1) lo st) : V G Z σ pc lo (v :: st) := by
  obtain ⟨p, l, e, R, s, m, args, below, meth, c, cs, sl, Q⟩ := Z
  obtain ⟨hx, hb, ho, ht, hK, hG, hS0, hr, hlk⟩ := X
  intro H locs ls hP hS hl
  exact lv_pop hx hb d hv (k H locs ls hP hS hl)
theorem v_goto {off : Int} {tgt : Nat} (X : Cx G own cc lev Z) (d : decode cc pc = .ok (.goto off, 3)) (ht' : (pc : Int) + off = (tgt : Int)) (k : V G Z σ tgt lo st) : V G Z σ pc lo st := by
  obtain ⟨p, l, e, R, s, m, args, below, meth, c, cs, sl, Q⟩ := Z
  obtain ⟨hx, hb, ho, ht, hK, hG, hS0, hr, hlk⟩ := X
  intro H locs ls hP hS hl
  exact lv_goto hx hb d ht' (k H locs ls hP hS hl)
theorem v_ldci {idx : Nat} {v : Int32} (X : Cx G own cc lev Z) (hw : Cond.constant own idx v ∈ BG) (d : decode cc pc = .ok (.ldc idx, 2)) (k : V G Z σ (pc + 2) lo (.int v :: st)) : V G Z σ pc lo st := by
  obtain ⟨p, l, e, R, s, m, args, below, meth, c, cs, sl, Q⟩ := Z
  obtain ⟨hx, hb, ho, ht, hK, hG, hS0, hr, hlk⟩ := X
  intro H locs ls hP hS hl
  exact lv_ldc hx hb ho (ht _ hw) d (k H locs ls hP hS hl)
theorem v_if_eq {x : Int32} {off : Int} {tgt : Nat} (X : Cx G own cc lev Z) (d : decode cc pc = .ok (.ifCond .eq off, 3)) (ht' : (pc : Int) + off = (tgt : Int)) (kt : x = 0 → V G Z σ tgt lo st) (kf : ¬ x = 0 → V G Z σ (pc + 3) lo st) : V G Z σ pc lo (.int x :: st) := by
  obtain ⟨p, l, e, R, s, m, args, below, meth, c, cs, sl, Q⟩ := Z
  obtain ⟨hx, hb, ho, ht, hK, hG, hS0, hr, hlk⟩ := X
  intro H locs ls hP hS hl
  exact lv_if_eq hx hb d ht' (fun h => kt h H locs ls hP hS hl) (fun h => kf h H locs ls hP hS hl)
theorem v_icmp_eq {x y : Int32} {off : Int} {tgt : Nat} (X : Cx G own cc lev Z) (d : decode cc pc = .ok (.if_icmp .eq off, 3)) (ht' : (pc : Int) + off = (tgt : Int)) (kt : x = y → V G Z σ tgt lo st) (kf : ¬ x = y → V G Z σ (pc + 3) lo st) : V G Z σ pc lo (.int y :: .int x :: st) := by
  obtain ⟨p, l, e, R, s, m, args, below, meth, c, cs, sl, Q⟩ := Z
  obtain ⟨hx, hb, ho, ht, hK, hG, hS0, hr, hlk⟩ := X
  intro H locs ls hP hS hl
  exact lv_icmp_eq hx hb d ht' (fun h => kt h H locs ls hP hS hl) (fun h => kf h H locs ls hP hS hl)
theorem v_if_ne {x : Int32} {off : Int} {tgt : Nat} (X : Cx G own cc lev Z) (d : decode cc pc = .ok (.ifCond .ne off, 3)) (ht' : (pc : Int) + off = (tgt : Int)) (kt : ¬ x = 0 → V G Z σ tgt lo st) (kf : x = 0 → V G Z σ (pc + 3) lo st) : V G Z σ pc lo (.int x :: st) := by
  obtain ⟨p, l, e, R, s, m, args, below, meth, c, cs, sl, Q⟩ := Z
  obtain ⟨hx, hb, ho, ht, hK, hG, hS0, hr, hlk⟩ := X
  intro H locs ls hP hS hl
  exact lv_if_ne hx hb d ht' (fun h => kt h H locs ls hP hS hl) (fun h => kf h H locs ls hP hS hl)
theorem v_icmp_ne {x y : Int32} {off : Int} {tgt : Nat} (X : Cx G own cc lev Z) (d : decode cc pc = .ok (.if_icmp .ne off, 3)) (ht' : (pc : Int) + off = (tgt : Int)) (kt : ¬ x = y → V G Z σ tgt lo st) (kf : x = y → V G Z σ (pc + 3) lo st) : V G Z σ pc lo (.int y :: .int x :: st) := by
  obtain ⟨p, l, e, R, s, m, args, below, meth, c, cs, sl, Q⟩ := Z
  obtain ⟨hx, hb, ho, ht, hK, hG, hS0, hr, hlk⟩ := X
  intro H locs ls hP hS hl
  exact lv_icmp_ne hx hb d ht' (fun h => kt h H locs ls hP hS hl) (fun h => kf h H locs ls hP hS hl)
theorem v_if_lt {x : Int32} {off : Int} {tgt : Nat} (X : Cx G own cc lev Z) (d : decode cc pc = .ok (.ifCond .lt off, 3)) (ht' : (pc : Int) + off = (tgt : Int)) (kt : x < 0 → V G Z σ tgt lo st) (kf : ¬ x < 0 → V G Z σ (pc + 3) lo st) : V G Z σ pc lo (.int x :: st) := by
  obtain ⟨p, l, e, R, s, m, args, below, meth, c, cs, sl, Q⟩ := Z
  obtain ⟨hx, hb, ho, ht, hK, hG, hS0, hr, hlk⟩ := X
  intro H locs ls hP hS hl
  exact lv_if_lt hx hb d ht' (fun h => kt h H locs ls hP hS hl) (fun h => kf h H locs ls hP hS hl)
theorem v_icmp_lt {x y : Int32} {off : Int} {tgt : Nat} (X : Cx G own cc lev Z) (d : decode cc pc = .ok (.if_icmp .lt off, 3)) (ht' : (pc : Int) + off = (tgt : Int)) (kt : x < y → V G Z σ tgt lo st) (kf : ¬ x < y → V G Z σ (pc + 3) lo st) : V G Z σ pc lo (.int y :: .int x :: st) := by
  obtain ⟨p, l, e, R, s, m, args, below, meth, c, cs, sl, Q⟩ := Z
  obtain ⟨hx, hb, ho, ht, hK, hG, hS0, hr, hlk⟩ := X
  intro H locs ls hP hS hl
  exact lv_icmp_lt hx hb d ht' (fun h => kt h H locs ls hP hS hl) (fun h => kf h H locs ls hP hS hl)
theorem v_if_ge {x : Int32} {off : Int} {tgt : Nat} (X : Cx G own cc lev Z) (d : decode cc pc = .ok (.ifCond .ge off, 3)) (ht' : (pc : Int) + off = (tgt : Int)) (kt : 0 ≤ x → V G Z σ tgt lo st) (kf : ¬ 0 ≤ x → V G Z σ (pc + 3) lo st) : V G Z σ pc lo (.int x :: st) := by
  obtain ⟨p, l, e, R, s, m, args, below, meth, c, cs, sl, Q⟩ := Z
  obtain ⟨hx, hb, ho, ht, hK, hG, hS0, hr, hlk⟩ := X
  intro H locs ls hP hS hl
  exact lv_if_ge hx hb d ht' (fun h => kt h H locs ls hP hS hl) (fun h => kf h H locs ls hP hS hl)
theorem v_icmp_ge {x y : Int32} {off : Int} {tgt : Nat} (X : Cx G own cc lev Z) (d : decode cc pc = .ok (.if_icmp .ge off, 3)) (ht' : (pc : Int) + off = (tgt : Int)) (kt : y ≤ x → V G Z σ tgt lo st) (kf : ¬ y ≤ x → V G Z σ (pc + 3) lo st) : V G Z σ pc lo (.int y :: .int x :: st) := by
  obtain ⟨p, l, e, R, s, m, args, below, meth, c, cs, sl, Q⟩ := Z
  obtain ⟨hx, hb, ho, ht, hK, hG, hS0, hr, hlk⟩ := X
  intro H locs ls hP hS hl
  exact lv_icmp_ge hx hb d ht' (fun h => kt h H locs ls hP hS hl) (fun h => kf h H locs ls hP hS hl)
theorem v_if_gt {x : Int32} {off : Int} {tgt : Nat} (X : Cx G own cc lev Z) (d : decode cc pc = .ok (.ifCond .gt off, 3)) (ht' : (pc : Int) + off = (tgt : Int)) (kt : 0 < x → V G Z σ tgt lo st) (kf : ¬ 0 < x → V G Z σ (pc + 3) lo st) : V G Z σ pc lo (.int x :: st) := by
  obtain ⟨p, l, e, R, s, m, args, below, meth, c, cs, sl, Q⟩ := Z
  obtain ⟨hx, hb, ho, ht, hK, hG, hS0, hr, hlk⟩ := X
  intro H locs ls hP hS hl
  exact lv_if_gt hx hb d ht' (fun h => kt h H locs ls hP hS hl) (fun h => kf h H locs ls hP hS hl)
theorem v_icmp_gt {x y : Int32} {off : Int} {tgt : Nat} (X : Cx G own cc lev Z) (d : decode cc pc = .ok (.if_icmp .gt off, 3)) (ht' : (pc : Int) + off = (tgt : Int)) (kt : y < x → V G Z σ tgt lo st) (kf : ¬ y < x → V G Z σ (pc + 3) lo st) : V G Z σ pc lo (.int y :: .int x :: st) := by
  obtain ⟨p, l, e, R, s, m, args, below, meth, c, cs, sl, Q⟩ := Z
  obtain ⟨hx, hb, ho, ht, hK, hG, hS0, hr, hlk⟩ := X
  intro H locs ls hP hS hl
  exact lv_icmp_gt hx hb d ht' (fun h => kt h H locs ls hP hS hl) (fun h => kf h H locs ls hP hS hl)
theorem v_if_le {x : Int32} {off : Int} {tgt : Nat} (X : Cx G own cc lev Z) (d : decode cc pc = .ok (.ifCond .le off, 3)) (ht' : (pc : Int) + off = (tgt : Int)) (kt : x ≤ 0 → V G Z σ tgt lo st) (kf : ¬ x ≤ 0 → V G Z σ (pc + 3) lo st) : V G Z σ pc lo (.int x :: st) := by
  obtain ⟨p, l, e, R, s, m, args, below, meth, c, cs, sl, Q⟩ := Z
  obtain ⟨hx, hb, ho, ht, hK, hG, hS0, hr, hlk⟩ := X
  intro H locs ls hP hS hl
  exact lv_if_le hx hb d ht' (fun h => kt h H locs ls hP hS hl) (fun h => kf h H locs ls hP hS hl)
theorem v_icmp_le {x y : Int32} {off : Int} {tgt : Nat} (X : Cx G own cc lev Z) (d : decode cc pc = .ok (.if_icmp .le off, 3)) (ht' : (pc : Int) + off = (tgt : Int)) (kt : x ≤ y → V G Z σ tgt lo st) (kf : ¬ x ≤ y → V G Z σ (pc + 3) lo st) : V G Z σ pc lo (.int y :: .int x :: st) := by
  obtain ⟨p, l, e, R, s, m, args, below, meth, c, cs, sl, Q⟩ := Z
  obtain ⟨hx, hb, ho, ht, hK, hG, hS0, hr, hlk⟩ := X
  intro H locs ls hP hS hl
  exact lv_icmp_le hx hb d ht' (fun h => kt h H locs ls hP hS hl) (fun h => kf h H locs ls hP hS hl)
theorem v_tabOut {dflt lo' hi : Int} {offs : Array Int} {len : Nat} {x : Int32} {tgt : Nat} (X : Cx G own cc lev Z) (d : decode cc pc = .ok (.tableswitch dflt lo' hi offs, len)) (h : x.toInt < lo' ∨ hi < x.toInt) (ht' : (pc : Int) + dflt = (tgt : Int)) (k : V G Z σ tgt lo st) : V G Z σ pc lo (.int x :: st) := by
  obtain ⟨p, l, e, R, s, m, args, below, meth, c, cs, sl, Q⟩ := Z
  obtain ⟨hx, hb, ho, ht, hK, hG, hS0, hr, hlk⟩ := X
  intro H locs ls hP hS hl
  exact lv_tableOut hx hb d h ht' (k H locs ls hP hS hl)
theorem v_tabIn {dflt lo' hi : Int} {offs : Array Int} {len : Nat} {x : Int32} {off : Int} {tgt : Nat} (X : Cx G own cc lev Z) (d : decode cc pc = .ok (.tableswitch dflt lo' hi offs, len)) (h1 : ¬ x.toInt < lo') (h2 : ¬ hi < x.toInt) (ho' : offs[(x.toInt - lo').toNat]? = some off) (ht' : (pc : Int) + off = (tgt : Int)) (k : V G Z σ tgt lo st) : V G Z σ pc lo (.int x :: st) := by
  obtain ⟨p, l, e, R, s, m, args, below, meth, c, cs, sl, Q⟩ := Z
  obtain ⟨hx, hb, ho, ht, hK, hG, hS0, hr, hlk⟩ := X
  intro H locs ls hP hS hl
  exact lv_tableIn hx hb d h1 h2 ho' ht' (k H locs ls hP hS hl)
theorem v_lookup {dflt : Int} {ps : Array (Int × Int)} {len : Nat} {x : Int32} {off : Int} {tgt : Nat} (X : Cx G own cc lev Z) (d : decode cc pc = .ok (.lookupswitch dflt ps, len)) (hp : (ps.toList.zip (ps.toList.drop 1)).all (fun (a, next) => a.1 < next.1) = true) (ho' : Op.lookupswitch.offset ps.toList dflt x.toInt = off) (ht' : (pc : Int) + off = (tgt : Int)) (k : V G Z σ tgt lo st) : V G Z σ pc lo (.int x :: st) := by
  obtain ⟨p, l, e, R, s, m, args, below, meth, c, cs, sl, Q⟩ := Z
  obtain ⟨hx, hb, ho, ht, hK, hG, hS0, hr, hlk⟩ := X
  intro H locs ls hP hS hl
  exact lv_lookup hx hb d hp ho' ht' (k H locs ls hP hS hl)
/-- a field's link: class ci, place k -/
def FL (own : String) (idx ci k : Nat) : Prop := ∃ (C : String) (T : u_T) (N : Nat), vwCl[ci]? = some (C, T, N) ∧ (∀ w ∈ u_ws C T N, w ∈ BG) ∧ k < N ∧ Cond.fieldLink own idx (T k).1 (T k).2.1 (T k).2.2.1 ∈ BG
/-- the same of a field that may be written, of type ty -/
def FW (own : String) (idx ci k : Nat) (ty : FieldType) : Prop := ∃ (C : String) (T : u_T) (N : Nat) (ty0 : Nat → FieldType), vwCl[ci]? = some (C, T, N) ∧ (∀ w ∈ u_ws C T N, w ∈ BG) ∧ (∀ k, k < N → parseFieldDescriptor (T k).2.2.1 = some (ty0 k)) ∧ (∀ a, a < N → ∀ b, b < N → a ≠ b → (T a).2.1 ≠ (T b).2.1) ∧ k < N ∧ Cond.fieldLink own idx (T k).1 (T k).2.1 (T k).2.2.1 ∈ BG ∧ (T k).2.2.2 = false ∧ parseFieldDescriptor (T k).2.2.1 = some ty
theorem v_geti {idx ci k i : Nat} (X : Cx G own cc lev Z) (hF : FL own idx ci k) (hf : fI i ci k) (d : decode cc pc = .ok (.getfield idx, 3)) (kk : V G Z σ (pc + 3) lo (.int (σ i k) :: st)) : V G Z σ pc lo (.ref (G.2.2.1 i) :: st) := by
  obtain ⟨p, l, e, R, s, m, args, below, meth, c, cs, sl, Q⟩ := Z
  obtain ⟨hx, hb, ho, ht, hK, hG, hS0, hr, hlk⟩ := X
  intro H locs ls hP hS hl
  obtain ⟨C, T, N, f1, f2, f3, f4⟩ := hF
  obtain ⟨hi, fl, e1, e2⟩ := hf
  have he := wl_at G σ hi
  rw [e1] at he
  exact va_get hx hb ht f2 ho hK hP i he f1 k f3 (ht _ f4) (fun _ h => h) (by rw [fv_int G.2.2.1 fl (σ i) 0 k e2, Nat.zero_add]) d (kk H locs ls hP hS hl)
theorem v_getr {idx ci k i r : Nat} (X : Cx G own cc lev Z) (hF : FL own idx ci k) (hf : fR i ci k r) (d : decode cc pc = .ok (.getfield idx, 3)) (kk : V G Z σ (pc + 3) lo (.ref (G.2.2.1 r) :: st)) : V G Z σ pc lo (.ref (G.2.2.1 i) :: st) := by
  obtain ⟨p, l, e, R, s, m, args, below, meth, c, cs, sl, Q⟩ := Z
  obtain ⟨hx, hb, ho, ht, hK, hG, hS0, hr, hlk⟩ := X
  intro H locs ls hP hS hl
  obtain ⟨C, T, N, f1, f2, f3, f4⟩ := hF
  obtain ⟨hi, fl, e1, e2⟩ := hf
  have he := wl_at G σ hi
  rw [e1] at he
  exact va_get hx hb ht f2 ho hK hP i he f1 k f3 (ht _ f4) (fun _ h => h) (fv_ref G.2.2.1 fl (σ i) 0 k r e2) d (kk H locs ls hP hS hl)
theorem v_puti {idx ci k i : Nat} {ty : FieldType} {x : Int32} (X : Cx G own cc lev Z) (hF : FW own idx ci k ty) (hf : fI i ci k) (d : decode cc pc = .ok (.putfield idx, 3)) (hn : narrow ty (.int x) = .int x) (hfit : fits ty (.int x) = true) (kk : V G Z (s2 σ i k x) (pc + 3) lo st) : V G Z σ pc lo (.int x :: .ref (G.2.2.1 i) :: st) := by
  obtain ⟨p, l, e, R, s, m, args, below, meth, c, cs, sl, Q⟩ := Z
  obtain ⟨hx, hb, ho, ht, hK, hG, hS0, hr, hlk⟩ := X
  intro H locs ls hP hS hl
  obtain ⟨C, T, N, ty0, f1, f2, f2a, f2b, f3, f4, f5, f6⟩ := hF
  obtain ⟨hi, fl, e1, e2⟩ := hf
  have he := wl_at G σ hi
  rw [e1] at he
  have hlen : k < (fv G.2.2.1 fl (σ i) 0).length := by rw [fv_len]; exact (List.getElem?_eq_some_iff.mp e2).1
  refine va_put hx hb ht f2 ty0 f2a f2b ho hK hP (wl_D hG σ) hS i he f1 k f3 (ht _ f4) (fun _ h => h) f5 f6 hn hfit hlen d (fun H1 locs1 hP1 _ hS1 => ?_)
  rw [fv_set G.2.2.1 x fl (σ i) 0 k e2, Nat.zero_add] at hP1
  have hw := wl_set G σ hi (upd (σ i) k x)
  rw [e1] at hw
  rw [show (Sum.inr (ci, fv G.2.2.1 fl (upd (σ i) k x) 0) : va_E) = ce G (.inr (.inr (ci, fl))) (upd (σ i) k x) from rfl, hw] at hP1
  exact kk H1 locs1 ls hP1 hS1 hl
theorem v_iald {i n : Nat} {j : Int32} (X : Cx G own cc lev Z) (ha : aI i n) (hin : vp_in j n) (d : decode cc pc = .ok (.iaload, 1)) (kk : V G Z σ (pc + 1) lo (.int (σ i j.toNatClampNeg) :: st)) : V G Z σ pc lo (.int j :: .ref (G.2.2.1 i) :: st) := by
  obtain ⟨p, l, e, R, s, m, args, below, meth, c, cs, sl, Q⟩ := Z
  obtain ⟨hx, hb, ho, ht, hK, hG, hS0, hr, hlk⟩ := X
  intro H locs ls hP hS hl
  obtain ⟨hi, e1⟩ := ha
  have he := wl_at G σ hi
  rw [e1] at he
  exact va_iald hx hb hK hP i 0 he rfl hin d (kk H locs ls hP hS hl)
theorem v_zald {i n : Nat} {j : Int32} (X : Cx G own cc lev Z) (ha : aZ i n) (hin : vp_in j n) (d : decode cc pc = .ok (.baload, 1)) (kk : V G Z σ (pc + 1) lo (.int (σ i j.toNatClampNeg) :: st)) : V G Z σ pc lo (.int j :: .ref (G.2.2.1 i) :: st) := by
  obtain ⟨p, l, e, R, s, m, args, below, meth, c, cs, sl, Q⟩ := Z
  obtain ⟨hx, hb, ho, ht, hK, hG, hS0, hr, hlk⟩ := X
  intro H locs ls hP hS hl
  obtain ⟨hi, e1⟩ := ha
  have he := wl_at G σ hi
  rw [e1] at he
  exact va_zald hx hb hK hP i 1 he rfl hin d (kk H locs ls hP hS hl)
theorem v_iast {i n : Nat} {j x : Int32} (X : Cx G own cc lev Z) (ha : aI i n) (hin : vp_in j n) (d : decode cc pc = .ok (.iastore, 1)) (kk : V G Z (s2 σ i j.toNatClampNeg x) (pc + 1) lo st) : V G Z σ pc lo (.int x :: .int j :: .ref (G.2.2.1 i) :: st) := by
  obtain ⟨p, l, e, R, s, m, args, below, meth, c, cs, sl, Q⟩ := Z
  obtain ⟨hx, hb, ho, ht, hK, hG, hS0, hr, hlk⟩ := X
  intro H locs ls hP hS hl
  obtain ⟨hi, e1⟩ := ha
  have he := wl_at G σ hi
  rw [e1] at he
  refine va_iast hx hb hK hP (wl_D hG σ) hS i 0 he rfl hin d (fun H1 locs1 hP1 _ hS1 => ?_)
  have hw := wl_set G σ hi (upd (σ i) j.toNatClampNeg x)
  rw [e1] at hw
  rw [show (Sum.inl (G.2.1 0, n, Sum.inl (upd (σ i) j.toNatClampNeg x)) : va_E) = ce G (.inl (0, n)) (upd (σ i) j.toNatClampNeg x) from rfl, hw] at hP1
  exact kk H1 locs1 ls hP1 hS1 hl
theorem v_zast {i n : Nat} {j x : Int32} (X : Cx G own cc lev Z) (ha : aZ i n) (hin : vp_in j n) (d : decode cc pc = .ok (.bastore, 1)) (hx1 : vp_nar .boolean x = x) (kk : V G Z (s2 σ i j.toNatClampNeg x) (pc + 1) lo st) : V G Z σ pc lo (.int x :: .int j :: .ref (G.2.2.1 i) :: st) := by
  obtain ⟨p, l, e, R, s, m, args, below, meth, c, cs, sl, Q⟩ := Z
  obtain ⟨hx, hb, ho, ht, hK, hG, hS0, hr, hlk⟩ := X
  intro H locs ls hP hS hl
  obtain ⟨hi, e1⟩ := ha
  have he := wl_at G σ hi
  rw [e1] at he
  refine va_zast hx hb hK hP (wl_D hG σ) hS i 1 he rfl hin d (fun H1 locs1 hP1 _ hS1 => ?_)
  rw [hx1] at hP1
  have hw := wl_set G σ hi (upd (σ i) j.toNatClampNeg x)
  rw [e1] at hw
  rw [show (Sum.inl (G.2.1 1, n, Sum.inl (upd (σ i) j.toNatClampNeg x)) : va_E) = ce G (.inl (1, n)) (upd (σ i) j.toNatClampNeg x) from rfl, hw] at hP1
  exact kk H1 locs1 ls hP1 hS1 hl
theorem v_aald {i t n : Nat} {r : Nat → Nat} {j : Int32} (X : Cx G own cc lev Z) (ha : aR i t n r) (ht2 : t = 2 ∨ t = 3) (hin : vp_in j n) (d : decode cc pc = .ok (.aaload, 1)) (kk : V G Z σ (pc + 1) lo (.ref (G.2.2.1 (r j.toNatClampNeg)) :: st)) : V G Z σ pc lo (.int j :: .ref (G.2.2.1 i) :: st) := by
  obtain ⟨p, l, e, R, s, m, args, below, meth, c, cs, sl, Q⟩ := Z
  obtain ⟨hx, hb, ho, ht, hK, hG, hS0, hr, hlk⟩ := X
  intro H locs ls hP hS hl
  obtain ⟨hi, e1⟩ := ha
  have he := wl_at G σ hi
  rw [e1] at he
  rcases ht2 with rfl | rfl
  · exact va_aldq hx hb hK hP i 2 he rfl hin d (kk H locs ls hP hS hl)
  · exact va_aldq hx hb hK hP i 3 he rfl hin d (kk H locs ls hP hS hl)
/-- a call's words: an instance method of our own -/
def CV (own : String) (idx : Nat) (y : MethodName) (cc : ByteArray) (n : Nat) (ret : Option FieldType) (na : Nat) : Prop := (Cond.methodLink own idx y ∈ BG ∧ Cond.instanceMethod y ∈ BG ∧ Cond.selects y.cls y y ∈ BG ∧ Cond.initialized y.cls ∈ BG ∧ Cond.code y cc n ret ∈ BG) ∧ (y.cls ≠ "java/lang/invoke/MethodHandle" ∧ y.cls ≠ "java/lang/invoke/VarHandle" ∧ (parseMethodDescriptor y.desc).map (fun d => d.parameters.length) = some na) ∧ n ≤ 30
def CS (own : String) (idx : Nat) (y : MethodName) (cc : ByteArray) (n : Nat) (ret : Option FieldType) (na : Nat) : Prop := (Cond.methodLink own idx y ∈ BG ∧ Cond.static y ∈ BG ∧ Cond.initialized y.cls ∈ BG ∧ Cond.code y cc n ret ∈ BG) ∧ (y.cls ≠ "java/lang/invoke/MethodHandle" ∧ y.cls ≠ "java/lang/invoke/VarHandle" ∧ (parseMethodDescriptor y.desc).map (fun d => d.parameters.length) = some na) ∧ n ≤ 30
theorem good_cons {w : Cond} (h : w ∈ BG) : GoodIn BG (w :: BG) := fun v hv => by
  rcases List.mem_cons.mp hv with rfl | hv
  · exact ⟨h, good_of_word (List.all_eq_true.mp bg_good _ h)⟩
  · exact ⟨hv, good_of_word (List.all_eq_true.mp bg_good _ hv)⟩
theorem rml_ok {lev lev' n : Nat} {R : Room} (hl : lev' < lev) (hn : n ≤ 30) (hr : lev ≤ R.frames ∧ lcl lev ≤ R.locals) : (rml lev').frames + 1 ≤ R.frames ∧ 8 + (n + 11) + (rml lev').locals ≤ R.locals := by
  obtain ⟨h1, h2⟩ := hr
  simp only [rml, lcl] at *
  constructor <;> omega
theorem v_cali {idx n na lev' i : Nat} {y : MethodName} {bc : ByteArray} {ty : FieldType} {post : Int32 → Sg → Prop} {As rest : List Value} {ci : Nat} (X : Cx G own cc lev Z) (hM : MC G y bc n ty lev' (.ref (G.2.2.1 i) :: As) σ post) (hC : CV own idx y bc n (some ty) na) (hO : oC i ci) (hy : (vwCl[ci]?).map (fun q => q.1) = some y.cls) (hlev : lev' < lev) (hna : As.length = na) (hst : st = As.reverse ++ .ref (G.2.2.1 i) :: rest) (hcat : (rest.map fun v => v.category).sum ≤ 8) (d : decode cc pc = .ok (.invokevirtual idx, 3))
    (kk : ∀ (r : Int32) (τ : Sg), post r τ → V G Z τ (pc + 3) lo (.int r :: rest)) : V G Z σ pc lo st := by
  subst hst
  obtain ⟨p, l, e, R, s, m, args, below, meth, c, cs, sl, Q⟩ := Z
  obtain ⟨hx, hb, ho, ht, hK, hG, hS0, hr, hlk⟩ := X
  intro H locs ls hP hS hl
  obtain ⟨⟨w1, w2, w3, w4, w5⟩, w6, w7⟩ := hC
  obtain ⟨hi, fl, e1⟩ := hO
  have he := wl_at G σ hi
  rw [e1] at he
  cases hq : vwCl[ci]? with
  | none => rw [hq] at hy; cases hy
  | some q =>
  rw [hq] at hy
  have hy : q.1 = y.cls := Option.some.inj hy
  have hrec := va_recv hK hP hq he
  rw [hy] at hrec
  have hT := (rml_ok hlev w7 ⟨hr.1, hr.2.1⟩)
  have cw : CallW R s args own y.cls idx y bc n (some ty) (.code y bc n (some ty) :: BG) (rml lev') 0 0 na := ⟨callB_of na ht (good_cons w5) rfl rfl rfl (ht _ w4) (ht _ w1) w6 hT, ht _ w2, ht _ w3⟩
  refine va_calli (va_runV (As := As) (rest := rest) ⟨hx, hb, rfl, ho, ht⟩ (hM l) cw ⟨wd_blind G σ _, hrec, fun U hU hW => ⟨rfl, hG, by rw [hU]; exact hP, va_K.moved hW.alike hK, ?_⟩⟩ rfl hna hl.2.2.1 rfl (lv_room hcat) d ⟨hr.2.2.1, hr.2.2.2⟩) hS (fun q _ h => h) (fun q h => h) (fun r u t H1 locs1 ht1 hvm hw hB hz1 hk1 hS1 => ?_)
  · rw [hU]; exact St.warm hW (hS0.kept (fun a h1 h2 => hS.2.1 a h1 h2))
  · exact kk r u hw H1 locs1 ls (by rw [← ht1]; exact hB) hS1 hl
theorem v_calv {idx n na lev' i : Nat} {y : MethodName} {bc : ByteArray} {post : Sg → Prop} {As rest : List Value} {ci : Nat} (X : Cx G own cc lev Z) (hM : MV G y bc n lev' (.ref (G.2.2.1 i) :: As) σ post) (hC : CV own idx y bc n none na) (hO : oC i ci) (hy : (vwCl[ci]?).map (fun q => q.1) = some y.cls) (hlev : lev' < lev) (hna : As.length = na) (hst : st = As.reverse ++ .ref (G.2.2.1 i) :: rest) (hcat : (rest.map fun v => v.category).sum ≤ 8) (d : decode cc pc = .ok (.invokevirtual idx, 3))
    (kk : ∀ (τ : Sg), post τ → V G Z τ (pc + 3) lo rest) : V G Z σ pc lo st := by
  subst hst
  obtain ⟨p, l, e, R, s, m, args, below, meth, c, cs, sl, Q⟩ := Z
  obtain ⟨hx, hb, ho, ht, hK, hG, hS0, hr, hlk⟩ := X
  intro H locs ls hP hS hl
  obtain ⟨⟨w1, w2, w3, w4, w5⟩, w6, w7⟩ := hC
  obtain ⟨hi, fl, e1⟩ := hO
  have he := wl_at G σ hi
  rw [e1] at he
  cases hq : vwCl[ci]? with
  | none => rw [hq] at hy; cases hy
  | some q =>
  rw [hq] at hy
  have hy : q.1 = y.cls := Option.some.inj hy
  have hrec := va_recv hK hP hq he
  rw [hy] at hrec
  have hT := (rml_ok hlev w7 ⟨hr.1, hr.2.1⟩)
  have cw : CallW R s args own y.cls idx y bc n none (.code y bc n none :: BG) (rml lev') 0 0 na := ⟨callB_of na ht (good_cons w5) rfl rfl rfl (ht _ w4) (ht _ w1) w6 hT, ht _ w2, ht _ w3⟩
  refine va_callv (va_runV (As := As) (rest := rest) ⟨hx, hb, rfl, ho, ht⟩ (hM l) cw ⟨wd_blind G σ _, hrec, fun U hU hW => ⟨rfl, hG, by rw [hU]; exact hP, va_K.moved hW.alike hK, ?_⟩⟩ rfl hna hl.2.2.1 rfl (lv_room hcat) d ⟨hr.2.2.1, hr.2.2.2⟩) hS (fun q _ h => h) (fun q h => h) (fun u t H1 locs1 ht1 hvm hw hB hz1 hk1 hS1 => ?_)
  · rw [hU]; exact St.warm hW (hS0.kept (fun a h1 h2 => hS.2.1 a h1 h2))
  · exact kk u hw H1 locs1 ls (by rw [← ht1]; exact hB) hS1 hl
theorem v_cals {idx n na lev' : Nat} {y : MethodName} {bc : ByteArray} {ty : FieldType} {post : Int32 → Sg → Prop} {As rest : List Value} (X : Cx G own cc lev Z) (hM : MC G y bc n ty lev' As σ post) (hC : CS own idx y bc n (some ty) na) (hlev : lev' < lev) (hna : As.length = na) (hst : st = As.reverse ++ rest) (hcat : (rest.map fun v => v.category).sum ≤ 8) (d : decode cc pc = .ok (.invokestatic idx, 3))
    (kk : ∀ (r : Int32) (τ : Sg), post r τ → V G Z τ (pc + 3) lo (.int r :: rest)) : V G Z σ pc lo st := by
  subst hst
  obtain ⟨p, l, e, R, s, m, args, below, meth, c, cs, sl, Q⟩ := Z
  obtain ⟨hx, hb, ho, ht, hK, hG, hS0, hr, hlk⟩ := X
  intro H locs ls hP hS hl
  obtain ⟨⟨w1, w2, w4, w5⟩, w6, w7⟩ := hC
  have hT := (rml_ok hlev w7 ⟨hr.1, hr.2.1⟩)
  have cw : CallB R s args own idx y bc n (some ty) (.code y bc n (some ty) :: BG) (rml lev') 0 0 na ∧ (Cond.static y).before args s = true := ⟨callB_of na ht (good_cons w5) rfl rfl rfl (ht _ w4) (ht _ w1) w6 hT, ht _ w2⟩
  refine va_calli (va_runS (As := As) (rest := rest) ⟨hx, hb, rfl, ho, ht⟩ (hM l) cw ⟨wd_blind G σ _, fun U hU hW => ⟨rfl, hG, by rw [hU]; exact hP, va_K.moved hW.alike hK, ?_⟩⟩ rfl hna hl.2.2.1 rfl (lv_room hcat) d ⟨hr.2.2.1, hr.2.2.2⟩) hS (fun q _ h => h) (fun q h => h) (fun r u t H1 locs1 ht1 hvm hw hB hz1 hk1 hS1 => ?_)
  · rw [hU]; exact St.warm hW (hS0.kept (fun a h1 h2 => hS.2.1 a h1 h2))
  · exact kk r u hw H1 locs1 ls (by rw [← ht1]; exact hB) hS1 hl
theorem v_ldcs {i : Nat} {idx : Nat} (X : Cx G own cc lev Z) (hi : i < 4) (ho' : (strI i).1 = own) (hx' : (strI i).2.1 = idx) (d : decode cc pc = .ok (.ldc idx, 2)) (k : V G Z σ (pc + 2) lo (.ref (G.2.2.2 (1 + i)) :: st)) : V G Z σ pc lo st := by
  obtain ⟨p, l, e, R, s, m, args, below, meth, c, cs, sl, Q⟩ := Z
  obtain ⟨hx, hb, ho, ht, hK, hG, hS0, hr, hlk⟩ := X
  intro H locs ls hP hS hl
  obtain ⟨-, -, -, -, -, h5⟩ := hS0
  obtain ⟨a1, -⟩ := h5 i hi
  rw [ho', hx'] at a1
  exact va_ldcS hx hb ho a1 d (k H locs ls hP hS hl)
theorem v_atoms {idx : Nat} (X : Cx G own cc lev Z) (hw : Cond.fieldLink own idx "StrictSentences$Sentence" "ATOM_ROWS" "[I" ∈ BG) (d : decode cc pc = .ok (.getstatic idx, 3)) (k : V G Z σ (pc + 3) lo (.ref (G.2.2.2 0) :: st)) : V G Z σ pc lo st := by
  obtain ⟨p, l, e, R, s, m, args, below, meth, c, cs, sl, Q⟩ := Z
  obtain ⟨hx, hb, ho, ht, hK, hG, hS0, hr, hlk⟩ := X
  intro H locs ls hP hS hl
  exact va_gets hx hb hS0.1 hS ho (ht _ hw) (fun _ h => h) d (k H locs ls hP hS hl)
theorem v_tlen (X : Cx G own cc lev Z) (d : decode cc pc = .ok (.arraylength, 1)) (k : V G Z σ (pc + 1) lo (.int 4 :: st)) : V G Z σ pc lo (.ref (G.2.2.2 0) :: st) := by
  obtain ⟨p, l, e, R, s, m, args, below, meth, c, cs, sl, Q⟩ := Z
  obtain ⟨hx, hb, ho, ht, hK, hG, hS0, hr, hlk⟩ := X
  intro H locs ls hP hS hl
  obtain ⟨-, ⟨cell, h1, h2, h3, h4, h5, h6, h7⟩, -⟩ := hS0
  have hc : H[G.2.2.2 0]? = some cell := by rw [hS.2.1 _ (Array.getElem?_eq_some_iff.mp h1).1 h7]; exact h1
  exact W.alen hx hb hc h2 h5 (g := F0 m pc ls (.ref (G.2.2.2 0) :: st)) rfl rfl d (k H locs ls hP hS hl)
theorem v_tald {j : Int32} (X : Cx G own cc lev Z) (hin : vp_in j 4) (d : decode cc pc = .ok (.iaload, 1)) (k : V G Z σ (pc + 1) lo (.int (arow j.toNatClampNeg) :: st)) : V G Z σ pc lo (.int j :: .ref (G.2.2.2 0) :: st) := by
  obtain ⟨p, l, e, R, s, m, args, below, meth, c, cs, sl, Q⟩ := Z
  obtain ⟨hx, hb, ho, ht, hK, hG, hS0, hr, hlk⟩ := X
  intro H locs ls hP hS hl
  obtain ⟨-, ⟨cell, h1, h2, h3, h4, h5, h6, h7⟩, -⟩ := hS0
  have hc : H[G.2.2.2 0]? = some cell := by rw [hS.2.1 _ (Array.getElem?_eq_some_iff.mp h1).1 h7]; exact h1
  have hin2 : ¬ (j < 0 ∨ 4 ≤ j.toNatClampNeg) := hin
  have hsz : cell.slots.size = 4 ∨ 4 < cell.slots.size := by omega
  refine W.iald hx hb hc h2 h3 (fun q => ?_) (h6 j.toNatClampNeg (by omega)) (g := F0 m pc ls (.int j :: .ref (G.2.2.2 0) :: st)) rfl rfl d (k H locs ls hP hS hl)
  rcases q with q | q
  · exact hin2 (Or.inl q)
  · exact hin2 (Or.inr (Nat.le_trans h4 q))
end VROWS
end
section
theorem inX0 : ∀ w ∈ u_ws RX0 TX0 6, w ∈ BG := by
  have h : (u_ws RX0 TX0 6).all (fun w => decide (w ∈ lw_tbl) && goodWord w) = true := by decide +kernel
  intro w hw
  have h1 := List.all_eq_true.mp h w hw
  simp only [Bool.and_eq_true, decide_eq_true_eq] at h1
  exact List.mem_filter.mpr h1
theorem inX1 : ∀ w ∈ u_ws RX1 TX1 8, w ∈ BG := by
  have h : (u_ws RX1 TX1 8).all (fun w => decide (w ∈ lw_tbl) && goodWord w) = true := by decide +kernel
  intro w hw
  have h1 := List.all_eq_true.mp h w hw
  simp only [Bool.and_eq_true, decide_eq_true_eq] at h1
  exact List.mem_filter.mpr h1
theorem inX2 : ∀ w ∈ u_ws RX2 TX2 1, w ∈ BG := by
  have h : (u_ws RX2 TX2 1).all (fun w => decide (w ∈ lw_tbl) && goodWord w) = true := by decide +kernel
  intro w hw
  have h1 := List.all_eq_true.mp h w hw
  simp only [Bool.and_eq_true, decide_eq_true_eq] at h1
  exact List.mem_filter.mpr h1
theorem inX3 : ∀ w ∈ u_ws RX3 TX3 7, w ∈ BG := by
  have h : (u_ws RX3 TX3 7).all (fun w => decide (w ∈ lw_tbl) && goodWord w) = true := by decide +kernel
  intro w hw
  have h1 := List.all_eq_true.mp h w hw
  simp only [Bool.and_eq_true, decide_eq_true_eq] at h1
  exact List.mem_filter.mpr h1
theorem inX4 : ∀ w ∈ u_ws RX4 TX4 7, w ∈ BG := by
  have h : (u_ws RX4 TX4 7).all (fun w => decide (w ∈ lw_tbl) && goodWord w) = true := by decide +kernel
  intro w hw
  have h1 := List.all_eq_true.mp h w hw
  simp only [Bool.and_eq_true, decide_eq_true_eq] at h1
  exact List.mem_filter.mpr h1
theorem inX5 : ∀ w ∈ u_ws RX5 TX5 25, w ∈ BG := by
  have h : (u_ws RX5 TX5 25).all (fun w => decide (w ∈ lw_tbl) && goodWord w) = true := by decide +kernel
  intro w hw
  have h1 := List.all_eq_true.mp h w hw
  simp only [Bool.and_eq_true, decide_eq_true_eq] at h1
  exact List.mem_filter.mpr h1
theorem fl_X1_9 : FL RX1 9 1 0 := ⟨RX1, TX1, 8, rfl, inX1, by decide, bg_of 84 (by decide +kernel) rfl⟩
theorem fw_X1_9 : FW RX1 9 1 0 .int := ⟨RX1, TX1, 8, tyX1, rfl, inX1, tyX1_ok, nmX1, by decide, bg_of 84 (by decide +kernel) rfl, rfl, by decide +kernel⟩
theorem fl_X0_43 : FL RX0 43 1 0 := ⟨RX1, TX1, 8, rfl, inX1, by decide, bg_of 85 (by decide +kernel) rfl⟩
theorem fw_X0_43 : FW RX0 43 1 0 .int := ⟨RX1, TX1, 8, tyX1, rfl, inX1, tyX1_ok, nmX1, by decide, bg_of 85 (by decide +kernel) rfl, rfl, by decide +kernel⟩
theorem fl_X2_22 : FL RX2 22 1 0 := ⟨RX1, TX1, 8, rfl, inX1, by decide, bg_of 86 (by decide +kernel) rfl⟩
theorem fw_X2_22 : FW RX2 22 1 0 .int := ⟨RX1, TX1, 8, tyX1, rfl, inX1, tyX1_ok, nmX1, by decide, bg_of 86 (by decide +kernel) rfl, rfl, by decide +kernel⟩
theorem fl_X4_117 : FL RX4 117 1 0 := ⟨RX1, TX1, 8, rfl, inX1, by decide, bg_of 87 (by decide +kernel) rfl⟩
theorem fw_X4_117 : FW RX4 117 1 0 .int := ⟨RX1, TX1, 8, tyX1, rfl, inX1, tyX1_ok, nmX1, by decide, bg_of 87 (by decide +kernel) rfl, rfl, by decide +kernel⟩
theorem fl_X1_15 : FL RX1 15 1 1 := ⟨RX1, TX1, 8, rfl, inX1, by decide, bg_of 88 (by decide +kernel) rfl⟩
theorem fw_X1_15 : FW RX1 15 1 1 .boolean := ⟨RX1, TX1, 8, tyX1, rfl, inX1, tyX1_ok, nmX1, by decide, bg_of 88 (by decide +kernel) rfl, rfl, by decide +kernel⟩
theorem fl_X4_63 : FL RX4 63 1 1 := ⟨RX1, TX1, 8, rfl, inX1, by decide, bg_of 89 (by decide +kernel) rfl⟩
theorem fw_X4_63 : FW RX4 63 1 1 .boolean := ⟨RX1, TX1, 8, tyX1, rfl, inX1, tyX1_ok, nmX1, by decide, bg_of 89 (by decide +kernel) rfl, rfl, by decide +kernel⟩
theorem fl_X1_19 : FL RX1 19 1 2 := ⟨RX1, TX1, 8, rfl, inX1, by decide, bg_of 90 (by decide +kernel) rfl⟩
theorem fl_X0_69 : FL RX0 69 1 2 := ⟨RX1, TX1, 8, rfl, inX1, by decide, bg_of 91 (by decide +kernel) rfl⟩
theorem fl_X4_96 : FL RX4 96 1 2 := ⟨RX1, TX1, 8, rfl, inX1, by decide, bg_of 92 (by decide +kernel) rfl⟩
theorem fl_X1_23 : FL RX1 23 1 3 := ⟨RX1, TX1, 8, rfl, inX1, by decide, bg_of 93 (by decide +kernel) rfl⟩
theorem fl_X0_63 : FL RX0 63 1 3 := ⟨RX1, TX1, 8, rfl, inX1, by decide, bg_of 94 (by decide +kernel) rfl⟩
theorem fl_X4_100 : FL RX4 100 1 3 := ⟨RX1, TX1, 8, rfl, inX1, by decide, bg_of 95 (by decide +kernel) rfl⟩
theorem fl_X1_26 : FL RX1 26 1 4 := ⟨RX1, TX1, 8, rfl, inX1, by decide, bg_of 96 (by decide +kernel) rfl⟩
theorem fl_X0_66 : FL RX0 66 1 4 := ⟨RX1, TX1, 8, rfl, inX1, by decide, bg_of 97 (by decide +kernel) rfl⟩
theorem fl_X4_103 : FL RX4 103 1 4 := ⟨RX1, TX1, 8, rfl, inX1, by decide, bg_of 98 (by decide +kernel) rfl⟩
theorem fl_X1_29 : FL RX1 29 1 5 := ⟨RX1, TX1, 8, rfl, inX1, by decide, bg_of 99 (by decide +kernel) rfl⟩
theorem fl_X1_32 : FL RX1 32 1 6 := ⟨RX1, TX1, 8, rfl, inX1, by decide, bg_of 100 (by decide +kernel) rfl⟩
theorem fl_X1_35 : FL RX1 35 1 7 := ⟨RX1, TX1, 8, rfl, inX1, by decide, bg_of 101 (by decide +kernel) rfl⟩
theorem fl_X2_11 : FL RX2 11 2 0 := ⟨RX2, TX2, 1, rfl, inX2, by decide, bg_of 120 (by decide +kernel) rfl⟩
theorem fl_X4_74 : FL RX4 74 2 0 := ⟨RX2, TX2, 1, rfl, inX2, by decide, bg_of 121 (by decide +kernel) rfl⟩
theorem fl_X3_9 : FL RX3 9 3 0 := ⟨RX3, TX3, 7, rfl, inX3, by decide, bg_of 132 (by decide +kernel) rfl⟩
theorem fw_X3_9 : FW RX3 9 3 0 .int := ⟨RX3, TX3, 7, tyX3, rfl, inX3, tyX3_ok, nmX3, by decide, bg_of 132 (by decide +kernel) rfl, rfl, by decide +kernel⟩
theorem fl_X4_48 : FL RX4 48 3 0 := ⟨RX3, TX3, 7, rfl, inX3, by decide, bg_of 133 (by decide +kernel) rfl⟩
theorem fw_X4_48 : FW RX4 48 3 0 .int := ⟨RX3, TX3, 7, tyX3, rfl, inX3, tyX3_ok, nmX3, by decide, bg_of 133 (by decide +kernel) rfl, rfl, by decide +kernel⟩
theorem fl_X3_15 : FL RX3 15 3 1 := ⟨RX3, TX3, 7, rfl, inX3, by decide, bg_of 134 (by decide +kernel) rfl⟩
theorem fl_X3_19 : FL RX3 19 3 2 := ⟨RX3, TX3, 7, rfl, inX3, by decide, bg_of 135 (by decide +kernel) rfl⟩
theorem fl_X3_22 : FL RX3 22 3 3 := ⟨RX3, TX3, 7, rfl, inX3, by decide, bg_of 136 (by decide +kernel) rfl⟩
theorem fl_X3_25 : FL RX3 25 3 4 := ⟨RX3, TX3, 7, rfl, inX3, by decide, bg_of 137 (by decide +kernel) rfl⟩
theorem fw_X3_25 : FW RX3 25 3 4 .int := ⟨RX3, TX3, 7, tyX3, rfl, inX3, tyX3_ok, nmX3, by decide, bg_of 137 (by decide +kernel) rfl, rfl, by decide +kernel⟩
theorem fl_X3_28 : FL RX3 28 3 5 := ⟨RX3, TX3, 7, rfl, inX3, by decide, bg_of 138 (by decide +kernel) rfl⟩
theorem fw_X3_28 : FW RX3 28 3 5 .boolean := ⟨RX3, TX3, 7, tyX3, rfl, inX3, tyX3_ok, nmX3, by decide, bg_of 138 (by decide +kernel) rfl, rfl, by decide +kernel⟩
theorem fl_X3_32 : FL RX3 32 3 6 := ⟨RX3, TX3, 7, rfl, inX3, by decide, bg_of 139 (by decide +kernel) rfl⟩
theorem fw_X3_32 : FW RX3 32 3 6 .int := ⟨RX3, TX3, 7, tyX3, rfl, inX3, tyX3_ok, nmX3, by decide, bg_of 139 (by decide +kernel) rfl, rfl, by decide +kernel⟩
theorem fl_X0_12 : FL RX0 12 0 0 := ⟨RX0, TX0, 6, rfl, inX0, by decide, bg_of 165 (by decide +kernel) rfl⟩
theorem fl_X0_18 : FL RX0 18 0 1 := ⟨RX0, TX0, 6, rfl, inX0, by decide, bg_of 166 (by decide +kernel) rfl⟩
theorem fl_X0_22 : FL RX0 22 0 2 := ⟨RX0, TX0, 6, rfl, inX0, by decide, bg_of 167 (by decide +kernel) rfl⟩
theorem fl_X0_25 : FL RX0 25 0 3 := ⟨RX0, TX0, 6, rfl, inX0, by decide, bg_of 168 (by decide +kernel) rfl⟩
theorem fl_X0_28 : FL RX0 28 0 4 := ⟨RX0, TX0, 6, rfl, inX0, by decide, bg_of 169 (by decide +kernel) rfl⟩
theorem fw_X0_28 : FW RX0 28 0 4 .int := ⟨RX0, TX0, 6, tyX0, rfl, inX0, tyX0_ok, nmX0, by decide, bg_of 169 (by decide +kernel) rfl, rfl, by decide +kernel⟩
theorem fl_X0_32 : FL RX0 32 0 5 := ⟨RX0, TX0, 6, rfl, inX0, by decide, bg_of 170 (by decide +kernel) rfl⟩
theorem fw_X0_32 : FW RX0 32 0 5 .int := ⟨RX0, TX0, 6, tyX0, rfl, inX0, tyX0_ok, nmX0, by decide, bg_of 170 (by decide +kernel) rfl, rfl, by decide +kernel⟩
theorem fl_X4_10 : FL RX4 10 4 0 := ⟨RX4, TX4, 7, rfl, inX4, by decide, bg_of 184 (by decide +kernel) rfl⟩
theorem fl_X4_16 : FL RX4 16 4 1 := ⟨RX4, TX4, 7, rfl, inX4, by decide, bg_of 185 (by decide +kernel) rfl⟩
theorem fl_X4_20 : FL RX4 20 4 2 := ⟨RX4, TX4, 7, rfl, inX4, by decide, bg_of 186 (by decide +kernel) rfl⟩
theorem fw_X4_20 : FW RX4 20 4 2 .int := ⟨RX4, TX4, 7, tyX4, rfl, inX4, tyX4_ok, nmX4, by decide, bg_of 186 (by decide +kernel) rfl, rfl, by decide +kernel⟩
theorem fl_X4_27 : FL RX4 27 4 3 := ⟨RX4, TX4, 7, rfl, inX4, by decide, bg_of 187 (by decide +kernel) rfl⟩
theorem fl_X4_31 : FL RX4 31 4 4 := ⟨RX4, TX4, 7, rfl, inX4, by decide, bg_of 188 (by decide +kernel) rfl⟩
theorem fw_X4_31 : FW RX4 31 4 4 .int := ⟨RX4, TX4, 7, tyX4, rfl, inX4, tyX4_ok, nmX4, by decide, bg_of 188 (by decide +kernel) rfl, rfl, by decide +kernel⟩
theorem fl_X4_37 : FL RX4 37 4 5 := ⟨RX4, TX4, 7, rfl, inX4, by decide, bg_of 189 (by decide +kernel) rfl⟩
theorem fl_X4_44 : FL RX4 44 4 6 := ⟨RX4, TX4, 7, rfl, inX4, by decide, bg_of 190 (by decide +kernel) rfl⟩
theorem fl_X5_7 : FL RX5 7 5 0 := ⟨RX5, TX5, 25, rfl, inX5, by decide, bg_of 614 (by decide +kernel) rfl⟩
theorem fl_X5_13 : FL RX5 13 5 1 := ⟨RX5, TX5, 25, rfl, inX5, by decide, bg_of 615 (by decide +kernel) rfl⟩
theorem fl_X5_16 : FL RX5 16 5 2 := ⟨RX5, TX5, 25, rfl, inX5, by decide, bg_of 616 (by decide +kernel) rfl⟩
theorem fl_X5_19 : FL RX5 19 5 3 := ⟨RX5, TX5, 25, rfl, inX5, by decide, bg_of 617 (by decide +kernel) rfl⟩
theorem fl_X5_22 : FL RX5 22 5 4 := ⟨RX5, TX5, 25, rfl, inX5, by decide, bg_of 618 (by decide +kernel) rfl⟩
theorem fl_X5_100 : FL RX5 100 5 5 := ⟨RX5, TX5, 25, rfl, inX5, by decide, bg_of 619 (by decide +kernel) rfl⟩
theorem fw_X5_100 : FW RX5 100 5 5 .int := ⟨RX5, TX5, 25, tyX5, rfl, inX5, tyX5_ok, nmX5, by decide, bg_of 619 (by decide +kernel) rfl, rfl, by decide +kernel⟩
theorem fl_X5_25 : FL RX5 25 5 6 := ⟨RX5, TX5, 25, rfl, inX5, by decide, bg_of 620 (by decide +kernel) rfl⟩
theorem fw_X5_25 : FW RX5 25 5 6 .int := ⟨RX5, TX5, 25, tyX5, rfl, inX5, tyX5_ok, nmX5, by decide, bg_of 620 (by decide +kernel) rfl, rfl, by decide +kernel⟩
theorem fl_X5_73 : FL RX5 73 5 7 := ⟨RX5, TX5, 25, rfl, inX5, by decide, bg_of 621 (by decide +kernel) rfl⟩
theorem fw_X5_73 : FW RX5 73 5 7 .int := ⟨RX5, TX5, 25, tyX5, rfl, inX5, tyX5_ok, nmX5, by decide, bg_of 621 (by decide +kernel) rfl, rfl, by decide +kernel⟩
theorem fl_X5_29 : FL RX5 29 5 8 := ⟨RX5, TX5, 25, rfl, inX5, by decide, bg_of 622 (by decide +kernel) rfl⟩
theorem fl_X5_32 : FL RX5 32 5 9 := ⟨RX5, TX5, 25, rfl, inX5, by decide, bg_of 623 (by decide +kernel) rfl⟩
theorem fl_X5_35 : FL RX5 35 5 10 := ⟨RX5, TX5, 25, rfl, inX5, by decide, bg_of 624 (by decide +kernel) rfl⟩
theorem fl_X5_38 : FL RX5 38 5 11 := ⟨RX5, TX5, 25, rfl, inX5, by decide, bg_of 625 (by decide +kernel) rfl⟩
theorem fl_X5_41 : FL RX5 41 5 12 := ⟨RX5, TX5, 25, rfl, inX5, by decide, bg_of 626 (by decide +kernel) rfl⟩
theorem fl_X5_44 : FL RX5 44 5 13 := ⟨RX5, TX5, 25, rfl, inX5, by decide, bg_of 627 (by decide +kernel) rfl⟩
theorem fl_X5_79 : FL RX5 79 5 14 := ⟨RX5, TX5, 25, rfl, inX5, by decide, bg_of 628 (by decide +kernel) rfl⟩
theorem fw_X5_79 : FW RX5 79 5 14 .int := ⟨RX5, TX5, 25, tyX5, rfl, inX5, tyX5_ok, nmX5, by decide, bg_of 628 (by decide +kernel) rfl, rfl, by decide +kernel⟩
theorem fl_X5_86 : FL RX5 86 5 15 := ⟨RX5, TX5, 25, rfl, inX5, by decide, bg_of 629 (by decide +kernel) rfl⟩
theorem fw_X5_86 : FW RX5 86 5 15 .int := ⟨RX5, TX5, 25, tyX5, rfl, inX5, tyX5_ok, nmX5, by decide, bg_of 629 (by decide +kernel) rfl, rfl, by decide +kernel⟩
theorem fl_X5_76 : FL RX5 76 5 16 := ⟨RX5, TX5, 25, rfl, inX5, by decide, bg_of 630 (by decide +kernel) rfl⟩
theorem fw_X5_76 : FW RX5 76 5 16 .int := ⟨RX5, TX5, 25, tyX5, rfl, inX5, tyX5_ok, nmX5, by decide, bg_of 630 (by decide +kernel) rfl, rfl, by decide +kernel⟩
theorem fl_X5_47 : FL RX5 47 5 17 := ⟨RX5, TX5, 25, rfl, inX5, by decide, bg_of 631 (by decide +kernel) rfl⟩
theorem fl_X5_50 : FL RX5 50 5 18 := ⟨RX5, TX5, 25, rfl, inX5, by decide, bg_of 632 (by decide +kernel) rfl⟩
theorem fl_X5_53 : FL RX5 53 5 19 := ⟨RX5, TX5, 25, rfl, inX5, by decide, bg_of 633 (by decide +kernel) rfl⟩
theorem fl_X5_56 : FL RX5 56 5 20 := ⟨RX5, TX5, 25, rfl, inX5, by decide, bg_of 634 (by decide +kernel) rfl⟩
theorem fl_X5_59 : FL RX5 59 5 21 := ⟨RX5, TX5, 25, rfl, inX5, by decide, bg_of 635 (by decide +kernel) rfl⟩
theorem fl_X5_138 : FL RX5 138 5 22 := ⟨RX5, TX5, 25, rfl, inX5, by decide, bg_of 636 (by decide +kernel) rfl⟩
theorem fw_X5_138 : FW RX5 138 5 22 .int := ⟨RX5, TX5, 25, tyX5, rfl, inX5, tyX5_ok, nmX5, by decide, bg_of 636 (by decide +kernel) rfl, rfl, by decide +kernel⟩
theorem fl_X5_63 : FL RX5 63 5 23 := ⟨RX5, TX5, 25, rfl, inX5, by decide, bg_of 637 (by decide +kernel) rfl⟩
theorem fl_X5_66 : FL RX5 66 5 24 := ⟨RX5, TX5, 25, rfl, inX5, by decide, bg_of 638 (by decide +kernel) rfl⟩
theorem cv_L_13 : CV RL 13 yX4_say cX4_say 2 (some .int) 1 := ⟨⟨bg_of 206 (by decide +kernel) rfl, bg_of 207 (by decide +kernel) rfl, bg_of 208 (by decide +kernel) rfl, bg_of 50 (by decide +kernel) rfl, bg_of 209 (by decide +kernel) rfl⟩, ⟨by decide +kernel, by decide +kernel, by decide +kernel⟩, by decide⟩
theorem cv_X4_51 : CV RX4 51 yX3_add cX3_add 2 none 1 := ⟨⟨bg_of 210 (by decide +kernel) rfl, bg_of 211 (by decide +kernel) rfl, bg_of 212 (by decide +kernel) rfl, bg_of 53 (by decide +kernel) rfl, bg_of 213 (by decide +kernel) rfl⟩, ⟨by decide +kernel, by decide +kernel, by decide +kernel⟩, by decide⟩
theorem cv_L_18 : CV RL 18 yX4_wipe cX4_wipe 2 (some .int) 0 := ⟨⟨bg_of 214 (by decide +kernel) rfl, bg_of 215 (by decide +kernel) rfl, bg_of 216 (by decide +kernel) rfl, bg_of 50 (by decide +kernel) rfl, bg_of 217 (by decide +kernel) rfl⟩, ⟨by decide +kernel, by decide +kernel, by decide +kernel⟩, by decide⟩
theorem cv_L_23 : CV RL 23 yX4_read cX4_read 3 (some .int) 1 := ⟨⟨bg_of 218 (by decide +kernel) rfl, bg_of 219 (by decide +kernel) rfl, bg_of 220 (by decide +kernel) rfl, bg_of 50 (by decide +kernel) rfl, bg_of 221 (by decide +kernel) rfl⟩, ⟨by decide +kernel, by decide +kernel, by decide +kernel⟩, by decide⟩
theorem cs_X4_55 : CS RX4 55 yX4_isSlot cX4_isSlot 1 (some .boolean) 1 := ⟨⟨bg_of 222 (by decide +kernel) rfl, bg_of 223 (by decide +kernel) rfl, bg_of 50 (by decide +kernel) rfl, bg_of 224 (by decide +kernel) rfl⟩, ⟨by decide +kernel, by decide +kernel, by decide +kernel⟩, by decide⟩
theorem cv_X4_59 : CV RX4 59 yX3_parseInto cX3_parseInto 4 (some .int) 1 := ⟨⟨bg_of 225 (by decide +kernel) rfl, bg_of 226 (by decide +kernel) rfl, bg_of 227 (by decide +kernel) rfl, bg_of 53 (by decide +kernel) rfl, bg_of 228 (by decide +kernel) rfl⟩, ⟨by decide +kernel, by decide +kernel, by decide +kernel⟩, by decide⟩
theorem cv_X3_35 : CV RX3 35 yX1_clear cX1_clear 1 none 0 := ⟨⟨bg_of 229 (by decide +kernel) rfl, bg_of 230 (by decide +kernel) rfl, bg_of 231 (by decide +kernel) rfl, bg_of 52 (by decide +kernel) rfl, bg_of 232 (by decide +kernel) rfl⟩, ⟨by decide +kernel, by decide +kernel, by decide +kernel⟩, by decide⟩
theorem cv_X3_40 : CV RX3 40 yX3_begin cX3_begin 4 (some .boolean) 2 := ⟨⟨bg_of 233 (by decide +kernel) rfl, bg_of 235 (by decide +kernel) rfl, bg_of 0 (by decide +kernel) rfl, bg_of 53 (by decide +kernel) rfl, bg_of 236 (by decide +kernel) rfl⟩, ⟨by decide +kernel, by decide +kernel, by decide +kernel⟩, by decide⟩
theorem cv_X3_47 : CV RX3 47 yX3_open cX3_open 2 (some .boolean) 1 := ⟨⟨bg_of 237 (by decide +kernel) rfl, bg_of 239 (by decide +kernel) rfl, bg_of 1 (by decide +kernel) rfl, bg_of 53 (by decide +kernel) rfl, bg_of 240 (by decide +kernel) rfl⟩, ⟨by decide +kernel, by decide +kernel, by decide +kernel⟩, by decide⟩
theorem cv_X3_51 : CV RX3 51 yX1_add cX1_add 5 (some .int) 3 := ⟨⟨bg_of 241 (by decide +kernel) rfl, bg_of 242 (by decide +kernel) rfl, bg_of 243 (by decide +kernel) rfl, bg_of 52 (by decide +kernel) rfl, bg_of 244 (by decide +kernel) rfl⟩, ⟨by decide +kernel, by decide +kernel, by decide +kernel⟩, by decide⟩
theorem cv_X1_38 : CV RX1 38 yX1_isAt cX1_isAt 5 (some .boolean) 4 := ⟨⟨bg_of 245 (by decide +kernel) rfl, bg_of 247 (by decide +kernel) rfl, bg_of 2 (by decide +kernel) rfl, bg_of 52 (by decide +kernel) rfl, bg_of 248 (by decide +kernel) rfl⟩, ⟨by decide +kernel, by decide +kernel, by decide +kernel⟩, by decide⟩
theorem cv_X1_42 : CV RX1 42 yX1_canStand cX1_canStand 4 (some .boolean) 3 := ⟨⟨bg_of 249 (by decide +kernel) rfl, bg_of 251 (by decide +kernel) rfl, bg_of 3 (by decide +kernel) rfl, bg_of 52 (by decide +kernel) rfl, bg_of 252 (by decide +kernel) rfl⟩, ⟨by decide +kernel, by decide +kernel, by decide +kernel⟩, by decide⟩
theorem cv_X1_46 : CV RX1 46 yX1_rowsOf cX1_rowsOf 4 (some .int) 3 := ⟨⟨bg_of 255 (by decide +kernel) rfl, bg_of 257 (by decide +kernel) rfl, bg_of 4 (by decide +kernel) rfl, bg_of 52 (by decide +kernel) rfl, bg_of 258 (by decide +kernel) rfl⟩, ⟨by decide +kernel, by decide +kernel, by decide +kernel⟩, by decide⟩
theorem cv_X3_55 : CV RX3 55 yX3_finish cX3_finish 3 none 2 := ⟨⟨bg_of 260 (by decide +kernel) rfl, bg_of 262 (by decide +kernel) rfl, bg_of 5 (by decide +kernel) rfl, bg_of 53 (by decide +kernel) rfl, bg_of 263 (by decide +kernel) rfl⟩, ⟨by decide +kernel, by decide +kernel, by decide +kernel⟩, by decide⟩
theorem cv_X3_61 : CV RX3 61 yJ0_indexOf_0f7a4 cJ0_indexOf_0f7a4 2 (some .int) 1 := ⟨⟨bg_of 265 (by decide +kernel) rfl, bg_of 266 (by decide +kernel) rfl, bg_of 267 (by decide +kernel) rfl, bg_of 56 (by decide +kernel) rfl, bg_of 268 (by decide +kernel) rfl⟩, ⟨by decide +kernel, by decide +kernel, by decide +kernel⟩, by decide⟩
theorem cv_J0_633 : CV RJ0 633 yJ0_indexOf_7cf53 cJ0_indexOf_7cf53 3 (some .int) 2 := ⟨⟨bg_of 269 (by decide +kernel) rfl, bg_of 270 (by decide +kernel) rfl, bg_of 271 (by decide +kernel) rfl, bg_of 56 (by decide +kernel) rfl, bg_of 272 (by decide +kernel) rfl⟩, ⟨by decide +kernel, by decide +kernel, by decide +kernel⟩, by decide⟩
theorem cv_J0_492 : CV RJ0 492 yJ0_isLatin1_aae02 cJ0_isLatin1_aae02 1 (some .boolean) 0 := ⟨⟨bg_of 273 (by decide +kernel) rfl, bg_of 274 (by decide +kernel) rfl, bg_of 275 (by decide +kernel) rfl, bg_of 56 (by decide +kernel) rfl, bg_of 276 (by decide +kernel) rfl⟩, ⟨by decide +kernel, by decide +kernel, by decide +kernel⟩, by decide⟩
theorem cv_J0_505 : CV RJ0 505 yJ0_length_8abf5 cJ0_length_8abf5 1 (some .int) 0 := ⟨⟨bg_of 279 (by decide +kernel) rfl, bg_of 280 (by decide +kernel) rfl, bg_of 281 (by decide +kernel) rfl, bg_of 56 (by decide +kernel) rfl, bg_of 282 (by decide +kernel) rfl⟩, ⟨by decide +kernel, by decide +kernel, by decide +kernel⟩, by decide⟩
theorem cv_J0_335 : CV RJ0 335 yJ0_coder_7d493 cJ0_coder_7d493 1 (some .byte) 0 := ⟨⟨bg_of 283 (by decide +kernel) rfl, bg_of 284 (by decide +kernel) rfl, bg_of 285 (by decide +kernel) rfl, bg_of 56 (by decide +kernel) rfl, bg_of 286 (by decide +kernel) rfl⟩, ⟨by decide +kernel, by decide +kernel, by decide +kernel⟩, by decide⟩
theorem cs_J0_637 : CS RJ0 637 yJ1_indexOf_4cfef cJ1_indexOf_4cfef 4 (some .int) 4 := ⟨⟨bg_of 287 (by decide +kernel) rfl, bg_of 288 (by decide +kernel) rfl, bg_of 57 (by decide +kernel) rfl, bg_of 289 (by decide +kernel) rfl⟩, ⟨by decide +kernel, by decide +kernel, by decide +kernel⟩, by decide⟩
theorem cs_J1_88 : CS RJ1 88 yJ1_canEncode_9a6ad cJ1_canEncode_9a6ad 1 (some .boolean) 1 := ⟨⟨bg_of 290 (by decide +kernel) rfl, bg_of 291 (by decide +kernel) rfl, bg_of 57 (by decide +kernel) rfl, bg_of 292 (by decide +kernel) rfl⟩, ⟨by decide +kernel, by decide +kernel, by decide +kernel⟩, by decide⟩
theorem cs_J1_92 : CS RJ1 92 yJ9_max_7cf53 cJ9_max_7cf53 2 (some .int) 2 := ⟨⟨bg_of 293 (by decide +kernel) rfl, bg_of 294 (by decide +kernel) rfl, bg_of 58 (by decide +kernel) rfl, bg_of 295 (by decide +kernel) rfl⟩, ⟨by decide +kernel, by decide +kernel, by decide +kernel⟩, by decide⟩
theorem cs_J1_38 : CS RJ1 38 yJ9_min_7cf53 cJ9_min_7cf53 2 (some .int) 2 := ⟨⟨bg_of 296 (by decide +kernel) rfl, bg_of 297 (by decide +kernel) rfl, bg_of 58 (by decide +kernel) rfl, bg_of 298 (by decide +kernel) rfl⟩, ⟨by decide +kernel, by decide +kernel, by decide +kernel⟩, by decide⟩
theorem cs_J1_95 : CS RJ1 95 yJ1_indexOfChar_4cfef cJ1_indexOfChar_4cfef 6 (some .int) 4 := ⟨⟨bg_of 299 (by decide +kernel) rfl, bg_of 300 (by decide +kernel) rfl, bg_of 57 (by decide +kernel) rfl, bg_of 301 (by decide +kernel) rfl⟩, ⟨by decide +kernel, by decide +kernel, by decide +kernel⟩, by decide⟩
theorem cs_J0_640 : CS RJ0 640 yJ2_indexOf_4cfef cJ2_indexOf_4cfef 4 (some .int) 4 := ⟨⟨bg_of 302 (by decide +kernel) rfl, bg_of 303 (by decide +kernel) rfl, bg_of 59 (by decide +kernel) rfl, bg_of 304 (by decide +kernel) rfl⟩, ⟨by decide +kernel, by decide +kernel, by decide +kernel⟩, by decide⟩
theorem cs_J2_224 : CS RJ2 224 yJ9_max_7cf53 cJ9_max_7cf53 2 (some .int) 2 := ⟨⟨bg_of 305 (by decide +kernel) rfl, bg_of 294 (by decide +kernel) rfl, bg_of 58 (by decide +kernel) rfl, bg_of 295 (by decide +kernel) rfl⟩, ⟨by decide +kernel, by decide +kernel, by decide +kernel⟩, by decide⟩
theorem cs_J2_183 : CS RJ2 183 yJ9_min_7cf53 cJ9_min_7cf53 2 (some .int) 2 := ⟨⟨bg_of 306 (by decide +kernel) rfl, bg_of 297 (by decide +kernel) rfl, bg_of 58 (by decide +kernel) rfl, bg_of 298 (by decide +kernel) rfl⟩, ⟨by decide +kernel, by decide +kernel, by decide +kernel⟩, by decide⟩
theorem cs_J2_228 : CS RJ2 228 yJ2_indexOfChar_4cfef cJ2_indexOfChar_4cfef 4 (some .int) 4 := ⟨⟨bg_of 308 (by decide +kernel) rfl, bg_of 309 (by decide +kernel) rfl, bg_of 59 (by decide +kernel) rfl, bg_of 310 (by decide +kernel) rfl⟩, ⟨by decide +kernel, by decide +kernel, by decide +kernel⟩, by decide⟩
theorem cs_J2_96 : CS RJ2 96 yJ2_checkBoundsBeginEnd_d044e cJ2_checkBoundsBeginEnd_d044e 3 none 3 := ⟨⟨bg_of 311 (by decide +kernel) rfl, bg_of 312 (by decide +kernel) rfl, bg_of 59 (by decide +kernel) rfl, bg_of 313 (by decide +kernel) rfl⟩, ⟨by decide +kernel, by decide +kernel, by decide +kernel⟩, by decide⟩
theorem cs_J2_48 : CS RJ2 48 yJ2_length_9d52b cJ2_length_9d52b 1 (some .int) 1 := ⟨⟨bg_of 314 (by decide +kernel) rfl, bg_of 315 (by decide +kernel) rfl, bg_of 59 (by decide +kernel) rfl, bg_of 316 (by decide +kernel) rfl⟩, ⟨by decide +kernel, by decide +kernel, by decide +kernel⟩, by decide⟩
theorem cs_J2_241 : CS RJ2 241 yJ0_checkBoundsBeginEnd_23922 cJ0_checkBoundsBeginEnd_23922 3 none 3 := ⟨⟨bg_of 317 (by decide +kernel) rfl, bg_of 318 (by decide +kernel) rfl, bg_of 56 (by decide +kernel) rfl, bg_of 319 (by decide +kernel) rfl⟩, ⟨by decide +kernel, by decide +kernel, by decide +kernel⟩, by decide⟩
theorem cs_J0_1062 : CS RJ0 1062 yJ3_checkFromToIndex_8c36e cJ3_checkFromToIndex_8c36e 4 (some .int) 4 := ⟨⟨bg_of 322 (by decide +kernel) rfl, bg_of 323 (by decide +kernel) rfl, bg_of 60 (by decide +kernel) rfl, bg_of 324 (by decide +kernel) rfl⟩, ⟨by decide +kernel, by decide +kernel, by decide +kernel⟩, by decide⟩
theorem cs_J2_244 : CS RJ2 244 yJ2_indexOfCharUnsafe_4cfef cJ2_indexOfCharUnsafe_4cfef 5 (some .int) 4 := ⟨⟨bg_of 325 (by decide +kernel) rfl, bg_of 326 (by decide +kernel) rfl, bg_of 59 (by decide +kernel) rfl, bg_of 327 (by decide +kernel) rfl⟩, ⟨by decide +kernel, by decide +kernel, by decide +kernel⟩, by decide⟩
theorem cs_J2_71 : CS RJ2 71 yJ2_getChar_3b067 cJ2_getChar_3b067 2 (some .char) 2 := ⟨⟨bg_of 328 (by decide +kernel) rfl, bg_of 329 (by decide +kernel) rfl, bg_of 59 (by decide +kernel) rfl, bg_of 330 (by decide +kernel) rfl⟩, ⟨by decide +kernel, by decide +kernel, by decide +kernel⟩, by decide⟩
theorem cs_J2_232 : CS RJ2 232 yJ2_indexOfSupplementary_4cfef cJ2_indexOfSupplementary_4cfef 7 (some .int) 4 := ⟨⟨bg_of 337 (by decide +kernel) rfl, bg_of 338 (by decide +kernel) rfl, bg_of 59 (by decide +kernel) rfl, bg_of 339 (by decide +kernel) rfl⟩, ⟨by decide +kernel, by decide +kernel, by decide +kernel⟩, by decide⟩
theorem cs_J2_164 : CS RJ2 164 yJ11_isValidCodePoint_9a6ad cJ11_isValidCodePoint_9a6ad 2 (some .boolean) 1 := ⟨⟨bg_of 340 (by decide +kernel) rfl, bg_of 341 (by decide +kernel) rfl, bg_of 61 (by decide +kernel) rfl, bg_of 342 (by decide +kernel) rfl⟩, ⟨by decide +kernel, by decide +kernel, by decide +kernel⟩, by decide⟩
theorem cs_J2_157 : CS RJ2 157 yJ11_highSurrogate_5068e cJ11_highSurrogate_5068e 1 (some .char) 1 := ⟨⟨bg_of 343 (by decide +kernel) rfl, bg_of 344 (by decide +kernel) rfl, bg_of 61 (by decide +kernel) rfl, bg_of 345 (by decide +kernel) rfl⟩, ⟨by decide +kernel, by decide +kernel, by decide +kernel⟩, by decide⟩
theorem cs_J2_161 : CS RJ2 161 yJ11_lowSurrogate_5068e cJ11_lowSurrogate_5068e 1 (some .char) 1 := ⟨⟨bg_of 347 (by decide +kernel) rfl, bg_of 348 (by decide +kernel) rfl, bg_of 61 (by decide +kernel) rfl, bg_of 349 (by decide +kernel) rfl⟩, ⟨by decide +kernel, by decide +kernel, by decide +kernel⟩, by decide⟩
theorem cv_X3_44 : CV RX3 44 yX3_goOn cX3_goOn 5 (some .boolean) 2 := ⟨⟨bg_of 351 (by decide +kernel) rfl, bg_of 353 (by decide +kernel) rfl, bg_of 6 (by decide +kernel) rfl, bg_of 53 (by decide +kernel) rfl, bg_of 354 (by decide +kernel) rfl⟩, ⟨by decide +kernel, by decide +kernel, by decide +kernel⟩, by decide⟩
theorem cv_X4_67 : CV RX4 67 yX4_putDraft cX4_putDraft 2 (some .int) 1 := ⟨⟨bg_of 356 (by decide +kernel) rfl, bg_of 358 (by decide +kernel) rfl, bg_of 7 (by decide +kernel) rfl, bg_of 50 (by decide +kernel) rfl, bg_of 359 (by decide +kernel) rfl⟩, ⟨by decide +kernel, by decide +kernel, by decide +kernel⟩, by decide⟩
theorem cv_X4_176 : CV RX4 176 yX1_copyFrom cX1_copyFrom 3 none 1 := ⟨⟨bg_of 360 (by decide +kernel) rfl, bg_of 361 (by decide +kernel) rfl, bg_of 362 (by decide +kernel) rfl, bg_of 52 (by decide +kernel) rfl, bg_of 363 (by decide +kernel) rfl⟩, ⟨by decide +kernel, by decide +kernel, by decide +kernel⟩, by decide⟩
theorem cv_L_27 : CV RL 27 yX4_fault cX4_fault 1 (some .int) 0 := ⟨⟨bg_of 365 (by decide +kernel) rfl, bg_of 366 (by decide +kernel) rfl, bg_of 367 (by decide +kernel) rfl, bg_of 50 (by decide +kernel) rfl, bg_of 368 (by decide +kernel) rfl⟩, ⟨by decide +kernel, by decide +kernel, by decide +kernel⟩, by decide⟩
theorem cv_L_31 : CV RL 31 yX4_make cX4_make 5 (some .int) 4 := ⟨⟨bg_of 369 (by decide +kernel) rfl, bg_of 370 (by decide +kernel) rfl, bg_of 371 (by decide +kernel) rfl, bg_of 50 (by decide +kernel) rfl, bg_of 372 (by decide +kernel) rfl⟩, ⟨by decide +kernel, by decide +kernel, by decide +kernel⟩, by decide⟩
theorem cv_X4_71 : CV RX4 71 yX4_isEmpty cX4_isEmpty 2 (some .boolean) 1 := ⟨⟨bg_of 373 (by decide +kernel) rfl, bg_of 375 (by decide +kernel) rfl, bg_of 8 (by decide +kernel) rfl, bg_of 50 (by decide +kernel) rfl, bg_of 376 (by decide +kernel) rfl⟩, ⟨by decide +kernel, by decide +kernel, by decide +kernel⟩, by decide⟩
theorem cv_X4_78 : CV RX4 78 yX1_becomePair cX1_becomePair 5 none 3 := ⟨⟨bg_of 377 (by decide +kernel) rfl, bg_of 378 (by decide +kernel) rfl, bg_of 379 (by decide +kernel) rfl, bg_of 52 (by decide +kernel) rfl, bg_of 380 (by decide +kernel) rfl⟩, ⟨by decide +kernel, by decide +kernel, by decide +kernel⟩, by decide⟩
theorem cv_X1_54 : CV RX1 54 yX1_copyFrom cX1_copyFrom 3 none 1 := ⟨⟨bg_of 381 (by decide +kernel) rfl, bg_of 361 (by decide +kernel) rfl, bg_of 362 (by decide +kernel) rfl, bg_of 52 (by decide +kernel) rfl, bg_of 363 (by decide +kernel) rfl⟩, ⟨by decide +kernel, by decide +kernel, by decide +kernel⟩, by decide⟩
theorem cv_X1_58 : CV RX1 58 yX1_add cX1_add 5 (some .int) 3 := ⟨⟨bg_of 382 (by decide +kernel) rfl, bg_of 242 (by decide +kernel) rfl, bg_of 243 (by decide +kernel) rfl, bg_of 52 (by decide +kernel) rfl, bg_of 244 (by decide +kernel) rfl⟩, ⟨by decide +kernel, by decide +kernel, by decide +kernel⟩, by decide⟩
theorem cv_X1_61 : CV RX1 61 yX1_root cX1_root 1 (some .int) 0 := ⟨⟨bg_of 383 (by decide +kernel) rfl, bg_of 384 (by decide +kernel) rfl, bg_of 385 (by decide +kernel) rfl, bg_of 52 (by decide +kernel) rfl, bg_of 386 (by decide +kernel) rfl⟩, ⟨by decide +kernel, by decide +kernel, by decide +kernel⟩, by decide⟩
theorem cv_L_36 : CV RL 36 yX4_part cX4_part 4 (some .int) 3 := ⟨⟨bg_of 387 (by decide +kernel) rfl, bg_of 388 (by decide +kernel) rfl, bg_of 389 (by decide +kernel) rfl, bg_of 50 (by decide +kernel) rfl, bg_of 390 (by decide +kernel) rfl⟩, ⟨by decide +kernel, by decide +kernel, by decide +kernel⟩, by decide⟩
theorem cv_X4_82 : CV RX4 82 yX1_hasPart cX1_hasPart 2 (some .boolean) 1 := ⟨⟨bg_of 391 (by decide +kernel) rfl, bg_of 392 (by decide +kernel) rfl, bg_of 393 (by decide +kernel) rfl, bg_of 52 (by decide +kernel) rfl, bg_of 394 (by decide +kernel) rfl⟩, ⟨by decide +kernel, by decide +kernel, by decide +kernel⟩, by decide⟩
theorem cv_X4_85 : CV RX4 85 yX1_becomePart cX1_becomePart 4 none 2 := ⟨⟨bg_of 395 (by decide +kernel) rfl, bg_of 396 (by decide +kernel) rfl, bg_of 397 (by decide +kernel) rfl, bg_of 52 (by decide +kernel) rfl, bg_of 398 (by decide +kernel) rfl⟩, ⟨by decide +kernel, by decide +kernel, by decide +kernel⟩, by decide⟩
theorem cv_X1_65 : CV RX1 65 yX1_clear cX1_clear 1 none 0 := ⟨⟨bg_of 399 (by decide +kernel) rfl, bg_of 230 (by decide +kernel) rfl, bg_of 231 (by decide +kernel) rfl, bg_of 52 (by decide +kernel) rfl, bg_of 232 (by decide +kernel) rfl⟩, ⟨by decide +kernel, by decide +kernel, by decide +kernel⟩, by decide⟩
theorem cv_X1_68 : CV RX1 68 yX1_addPart cX1_addPart 6 (some .int) 3 := ⟨⟨bg_of 400 (by decide +kernel) rfl, bg_of 402 (by decide +kernel) rfl, bg_of 9 (by decide +kernel) rfl, bg_of 52 (by decide +kernel) rfl, bg_of 403 (by decide +kernel) rfl⟩, ⟨by decide +kernel, by decide +kernel, by decide +kernel⟩, by decide⟩
theorem cv_L_41 : CV RL 41 yX4_sign cX4_sign 4 (some .int) 2 := ⟨⟨bg_of 404 (by decide +kernel) rfl, bg_of 405 (by decide +kernel) rfl, bg_of 406 (by decide +kernel) rfl, bg_of 50 (by decide +kernel) rfl, bg_of 407 (by decide +kernel) rfl⟩, ⟨by decide +kernel, by decide +kernel, by decide +kernel⟩, by decide⟩
theorem cv_X4_89 : CV RX4 89 yX1_signs cX1_signs 1 (some .int) 0 := ⟨⟨bg_of 408 (by decide +kernel) rfl, bg_of 409 (by decide +kernel) rfl, bg_of 410 (by decide +kernel) rfl, bg_of 52 (by decide +kernel) rfl, bg_of 411 (by decide +kernel) rfl⟩, ⟨by decide +kernel, by decide +kernel, by decide +kernel⟩, by decide⟩
theorem cv_X4_93 : CV RX4 93 yX1_signAt cX1_signAt 7 (some .int) 1 := ⟨⟨bg_of 412 (by decide +kernel) rfl, bg_of 413 (by decide +kernel) rfl, bg_of 414 (by decide +kernel) rfl, bg_of 52 (by decide +kernel) rfl, bg_of 415 (by decide +kernel) rfl⟩, ⟨by decide +kernel, by decide +kernel, by decide +kernel⟩, by decide⟩
theorem cv_X1_72 : CV RX1 72 yX1_signs cX1_signs 1 (some .int) 0 := ⟨⟨bg_of 416 (by decide +kernel) rfl, bg_of 409 (by decide +kernel) rfl, bg_of 410 (by decide +kernel) rfl, bg_of 52 (by decide +kernel) rfl, bg_of 411 (by decide +kernel) rfl⟩, ⟨by decide +kernel, by decide +kernel, by decide +kernel⟩, by decide⟩
theorem cv_X1_77 : CV RX1 77 yJ0_charAt_5068e cJ0_charAt_5068e 2 (some .char) 1 := ⟨⟨bg_of 418 (by decide +kernel) rfl, bg_of 419 (by decide +kernel) rfl, bg_of 420 (by decide +kernel) rfl, bg_of 56 (by decide +kernel) rfl, bg_of 421 (by decide +kernel) rfl⟩, ⟨by decide +kernel, by decide +kernel, by decide +kernel⟩, by decide⟩
theorem cs_J0_495 : CS RJ0 495 yJ1_charAt_3b067 cJ1_charAt_3b067 2 (some .char) 2 := ⟨⟨bg_of 422 (by decide +kernel) rfl, bg_of 423 (by decide +kernel) rfl, bg_of 57 (by decide +kernel) rfl, bg_of 424 (by decide +kernel) rfl⟩, ⟨by decide +kernel, by decide +kernel, by decide +kernel⟩, by decide⟩
theorem cs_J1_9 : CS RJ1 9 yJ0_checkIndex_df160 cJ0_checkIndex_df160 2 none 2 := ⟨⟨bg_of 425 (by decide +kernel) rfl, bg_of 426 (by decide +kernel) rfl, bg_of 56 (by decide +kernel) rfl, bg_of 427 (by decide +kernel) rfl⟩, ⟨by decide +kernel, by decide +kernel, by decide +kernel⟩, by decide⟩
theorem cs_J0_1059 : CS RJ0 1059 yJ3_checkIndex_8e157 cJ3_checkIndex_8e157 3 (some .int) 3 := ⟨⟨bg_of 428 (by decide +kernel) rfl, bg_of 429 (by decide +kernel) rfl, bg_of 60 (by decide +kernel) rfl, bg_of 430 (by decide +kernel) rfl⟩, ⟨by decide +kernel, by decide +kernel, by decide +kernel⟩, by decide⟩
theorem cs_J0_498 : CS RJ0 498 yJ2_charAt_3b067 cJ2_charAt_3b067 2 (some .char) 2 := ⟨⟨bg_of 431 (by decide +kernel) rfl, bg_of 432 (by decide +kernel) rfl, bg_of 59 (by decide +kernel) rfl, bg_of 433 (by decide +kernel) rfl⟩, ⟨by decide +kernel, by decide +kernel, by decide +kernel⟩, by decide⟩
theorem cs_J2_67 : CS RJ2 67 yJ2_checkIndex_2214a cJ2_checkIndex_2214a 2 none 2 := ⟨⟨bg_of 434 (by decide +kernel) rfl, bg_of 435 (by decide +kernel) rfl, bg_of 59 (by decide +kernel) rfl, bg_of 436 (by decide +kernel) rfl⟩, ⟨by decide +kernel, by decide +kernel, by decide +kernel⟩, by decide⟩
theorem cs_J2_414 : CS RJ2 414 yJ0_checkIndex_df160 cJ0_checkIndex_df160 2 none 2 := ⟨⟨bg_of 437 (by decide +kernel) rfl, bg_of 426 (by decide +kernel) rfl, bg_of 56 (by decide +kernel) rfl, bg_of 427 (by decide +kernel) rfl⟩, ⟨by decide +kernel, by decide +kernel, by decide +kernel⟩, by decide⟩
theorem cv_L_46 : CV RL 46 yX4_told cX4_told 5 (some .int) 3 := ⟨⟨bg_of 439 (by decide +kernel) rfl, bg_of 440 (by decide +kernel) rfl, bg_of 441 (by decide +kernel) rfl, bg_of 50 (by decide +kernel) rfl, bg_of 442 (by decide +kernel) rfl⟩, ⟨by decide +kernel, by decide +kernel, by decide +kernel⟩, by decide⟩
theorem cv_L_50 : CV RL 50 yX4_drop cX4_drop 3 (some .int) 1 := ⟨⟨bg_of 443 (by decide +kernel) rfl, bg_of 444 (by decide +kernel) rfl, bg_of 445 (by decide +kernel) rfl, bg_of 50 (by decide +kernel) rfl, bg_of 446 (by decide +kernel) rfl⟩, ⟨by decide +kernel, by decide +kernel, by decide +kernel⟩, by decide⟩
theorem cv_X4_106 : CV RX4 106 yX1_clear cX1_clear 1 none 0 := ⟨⟨bg_of 447 (by decide +kernel) rfl, bg_of 230 (by decide +kernel) rfl, bg_of 231 (by decide +kernel) rfl, bg_of 52 (by decide +kernel) rfl, bg_of 232 (by decide +kernel) rfl⟩, ⟨by decide +kernel, by decide +kernel, by decide +kernel⟩, by decide⟩
theorem cv_L_54 : CV RL 54 yX4_plain cX4_plain 2 (some .int) 1 := ⟨⟨bg_of 448 (by decide +kernel) rfl, bg_of 449 (by decide +kernel) rfl, bg_of 450 (by decide +kernel) rfl, bg_of 50 (by decide +kernel) rfl, bg_of 451 (by decide +kernel) rfl⟩, ⟨by decide +kernel, by decide +kernel, by decide +kernel⟩, by decide⟩
theorem cv_X4_109 : CV RX4 109 yX4_isPlain cX4_isPlain 2 (some .boolean) 1 := ⟨⟨bg_of 452 (by decide +kernel) rfl, bg_of 454 (by decide +kernel) rfl, bg_of 10 (by decide +kernel) rfl, bg_of 50 (by decide +kernel) rfl, bg_of 455 (by decide +kernel) rfl⟩, ⟨by decide +kernel, by decide +kernel, by decide +kernel⟩, by decide⟩
theorem cv_X4_113 : CV RX4 113 yX1_isTrueByRows cX1_isTrueByRows 1 (some .boolean) 0 := ⟨⟨bg_of 456 (by decide +kernel) rfl, bg_of 457 (by decide +kernel) rfl, bg_of 458 (by decide +kernel) rfl, bg_of 52 (by decide +kernel) rfl, bg_of 459 (by decide +kernel) rfl⟩, ⟨by decide +kernel, by decide +kernel, by decide +kernel⟩, by decide⟩
theorem cv_X4_120 : CV RX4 120 yX0_turnTo cX0_turnTo 3 none 1 := ⟨⟨bg_of 460 (by decide +kernel) rfl, bg_of 461 (by decide +kernel) rfl, bg_of 462 (by decide +kernel) rfl, bg_of 54 (by decide +kernel) rfl, bg_of 463 (by decide +kernel) rfl⟩, ⟨by decide +kernel, by decide +kernel, by decide +kernel⟩, by decide⟩
theorem cv_X0_35 : CV RX0 35 yX1_sameAs cX1_sameAs 3 (some .boolean) 1 := ⟨⟨bg_of 464 (by decide +kernel) rfl, bg_of 465 (by decide +kernel) rfl, bg_of 466 (by decide +kernel) rfl, bg_of 52 (by decide +kernel) rfl, bg_of 467 (by decide +kernel) rfl⟩, ⟨by decide +kernel, by decide +kernel, by decide +kernel⟩, by decide⟩
theorem cv_X0_39 : CV RX0 39 yX1_copyFrom cX1_copyFrom 3 none 1 := ⟨⟨bg_of 468 (by decide +kernel) rfl, bg_of 361 (by decide +kernel) rfl, bg_of 362 (by decide +kernel) rfl, bg_of 52 (by decide +kernel) rfl, bg_of 363 (by decide +kernel) rfl⟩, ⟨by decide +kernel, by decide +kernel, by decide +kernel⟩, by decide⟩
theorem cv_X0_46 : CV RX0 46 yX0_decide cX0_decide 7 none 1 := ⟨⟨bg_of 469 (by decide +kernel) rfl, bg_of 471 (by decide +kernel) rfl, bg_of 11 (by decide +kernel) rfl, bg_of 54 (by decide +kernel) rfl, bg_of 472 (by decide +kernel) rfl⟩, ⟨by decide +kernel, by decide +kernel, by decide +kernel⟩, by decide⟩
theorem cv_X0_53 : CV RX0 53 yX0_waysOf cX0_waysOf 5 (some .int) 2 := ⟨⟨bg_of 473 (by decide +kernel) rfl, bg_of 475 (by decide +kernel) rfl, bg_of 12 (by decide +kernel) rfl, bg_of 54 (by decide +kernel) rfl, bg_of 476 (by decide +kernel) rfl⟩, ⟨by decide +kernel, by decide +kernel, by decide +kernel⟩, by decide⟩
theorem cv_X0_50 : CV RX0 50 yX0_sift cX0_sift 3 none 0 := ⟨⟨bg_of 483 (by decide +kernel) rfl, bg_of 485 (by decide +kernel) rfl, bg_of 13 (by decide +kernel) rfl, bg_of 54 (by decide +kernel) rfl, bg_of 486 (by decide +kernel) rfl⟩, ⟨by decide +kernel, by decide +kernel, by decide +kernel⟩, by decide⟩
theorem cv_X0_76 : CV RX0 76 yX0_implications cX0_implications 3 (some .int) 0 := ⟨⟨bg_of 487 (by decide +kernel) rfl, bg_of 489 (by decide +kernel) rfl, bg_of 14 (by decide +kernel) rfl, bg_of 54 (by decide +kernel) rfl, bg_of 490 (by decide +kernel) rfl⟩, ⟨by decide +kernel, by decide +kernel, by decide +kernel⟩, by decide⟩
theorem cv_X0_80 : CV RX0 80 yX0_consider cX0_consider 7 none 2 := ⟨⟨bg_of 491 (by decide +kernel) rfl, bg_of 493 (by decide +kernel) rfl, bg_of 15 (by decide +kernel) rfl, bg_of 54 (by decide +kernel) rfl, bg_of 494 (by decide +kernel) rfl⟩, ⟨by decide +kernel, by decide +kernel, by decide +kernel⟩, by decide⟩
theorem cv_X0_84 : CV RX0 84 yX0_deniedBy cX0_deniedBy 5 (some .int) 2 := ⟨⟨bg_of 495 (by decide +kernel) rfl, bg_of 497 (by decide +kernel) rfl, bg_of 16 (by decide +kernel) rfl, bg_of 54 (by decide +kernel) rfl, bg_of 498 (by decide +kernel) rfl⟩, ⟨by decide +kernel, by decide +kernel, by decide +kernel⟩, by decide⟩
theorem cs_X0_87 : CS RX0 87 yJ9_max_7cf53 cJ9_max_7cf53 2 (some .int) 2 := ⟨⟨bg_of 499 (by decide +kernel) rfl, bg_of 294 (by decide +kernel) rfl, bg_of 58 (by decide +kernel) rfl, bg_of 295 (by decide +kernel) rfl⟩, ⟨by decide +kernel, by decide +kernel, by decide +kernel⟩, by decide⟩
theorem cv_X4_130 : CV RX4 130 yX0_refuting cX0_refuting 3 (some .int) 0 := ⟨⟨bg_of 500 (by decide +kernel) rfl, bg_of 501 (by decide +kernel) rfl, bg_of 502 (by decide +kernel) rfl, bg_of 54 (by decide +kernel) rfl, bg_of 503 (by decide +kernel) rfl⟩, ⟨by decide +kernel, by decide +kernel, by decide +kernel⟩, by decide⟩
theorem cv_X0_96 : CV RX0 96 yX1_root cX1_root 1 (some .int) 0 := ⟨⟨bg_of 504 (by decide +kernel) rfl, bg_of 384 (by decide +kernel) rfl, bg_of 385 (by decide +kernel) rfl, bg_of 52 (by decide +kernel) rfl, bg_of 386 (by decide +kernel) rfl⟩, ⟨by decide +kernel, by decide +kernel, by decide +kernel⟩, by decide⟩
theorem cv_L_58 : CV RL 58 yX4_rows cX4_rows 2 (some .int) 1 := ⟨⟨bg_of 505 (by decide +kernel) rfl, bg_of 506 (by decide +kernel) rfl, bg_of 507 (by decide +kernel) rfl, bg_of 50 (by decide +kernel) rfl, bg_of 508 (by decide +kernel) rfl⟩, ⟨by decide +kernel, by decide +kernel, by decide +kernel⟩, by decide⟩
theorem cv_L_62 : CV RL 62 yX4_follows cX4_follows 3 (some .int) 2 := ⟨⟨bg_of 509 (by decide +kernel) rfl, bg_of 510 (by decide +kernel) rfl, bg_of 511 (by decide +kernel) rfl, bg_of 50 (by decide +kernel) rfl, bg_of 512 (by decide +kernel) rfl⟩, ⟨by decide +kernel, by decide +kernel, by decide +kernel⟩, by decide⟩
theorem cv_L_66 : CV RL 66 yX4_from cX4_from 5 (some .int) 3 := ⟨⟨bg_of 513 (by decide +kernel) rfl, bg_of 514 (by decide +kernel) rfl, bg_of 515 (by decide +kernel) rfl, bg_of 50 (by decide +kernel) rfl, bg_of 516 (by decide +kernel) rfl⟩, ⟨by decide +kernel, by decide +kernel, by decide +kernel⟩, by decide⟩
theorem cv_X4_124 : CV RX4 124 yX0_forces cX0_forces 4 (some .boolean) 2 := ⟨⟨bg_of 517 (by decide +kernel) rfl, bg_of 518 (by decide +kernel) rfl, bg_of 519 (by decide +kernel) rfl, bg_of 54 (by decide +kernel) rfl, bg_of 520 (by decide +kernel) rfl⟩, ⟨by decide +kernel, by decide +kernel, by decide +kernel⟩, by decide⟩
theorem cv_L_70 : CV RL 70 yX4_worlds cX4_worlds 3 (some .int) 2 := ⟨⟨bg_of 521 (by decide +kernel) rfl, bg_of 522 (by decide +kernel) rfl, bg_of 523 (by decide +kernel) rfl, bg_of 50 (by decide +kernel) rfl, bg_of 524 (by decide +kernel) rfl⟩, ⟨by decide +kernel, by decide +kernel, by decide +kernel⟩, by decide⟩
theorem cv_X4_128 : CV RX4 128 yX0_size cX0_size 1 (some .int) 0 := ⟨⟨bg_of 525 (by decide +kernel) rfl, bg_of 526 (by decide +kernel) rfl, bg_of 527 (by decide +kernel) rfl, bg_of 54 (by decide +kernel) rfl, bg_of 528 (by decide +kernel) rfl⟩, ⟨by decide +kernel, by decide +kernel, by decide +kernel⟩, by decide⟩
theorem cv_X4_133 : CV RX4 133 yX0_leastRefuting cX0_leastRefuting 1 (some .int) 0 := ⟨⟨bg_of 529 (by decide +kernel) rfl, bg_of 530 (by decide +kernel) rfl, bg_of 531 (by decide +kernel) rfl, bg_of 54 (by decide +kernel) rfl, bg_of 532 (by decide +kernel) rfl⟩, ⟨by decide +kernel, by decide +kernel, by decide +kernel⟩, by decide⟩
theorem cv_X4_136 : CV RX4 136 yX0_highest cX0_highest 3 (some .int) 0 := ⟨⟨bg_of 533 (by decide +kernel) rfl, bg_of 534 (by decide +kernel) rfl, bg_of 535 (by decide +kernel) rfl, bg_of 54 (by decide +kernel) rfl, bg_of 536 (by decide +kernel) rfl⟩, ⟨by decide +kernel, by decide +kernel, by decide +kernel⟩, by decide⟩
theorem cv_X4_139 : CV RX4 139 yX0_greatestHeight cX0_greatestHeight 3 (some .int) 0 := ⟨⟨bg_of 537 (by decide +kernel) rfl, bg_of 538 (by decide +kernel) rfl, bg_of 539 (by decide +kernel) rfl, bg_of 54 (by decide +kernel) rfl, bg_of 540 (by decide +kernel) rfl⟩, ⟨by decide +kernel, by decide +kernel, by decide +kernel⟩, by decide⟩
theorem cv_X4_142 : CV RX4 142 yX0_lowest cX0_lowest 3 (some .int) 0 := ⟨⟨bg_of 541 (by decide +kernel) rfl, bg_of 542 (by decide +kernel) rfl, bg_of 543 (by decide +kernel) rfl, bg_of 54 (by decide +kernel) rfl, bg_of 544 (by decide +kernel) rfl⟩, ⟨by decide +kernel, by decide +kernel, by decide +kernel⟩, by decide⟩
theorem cv_X0_99 : CV RX0 99 yX0_isAboveAny cX0_isAboveAny 3 (some .boolean) 1 := ⟨⟨bg_of 545 (by decide +kernel) rfl, bg_of 547 (by decide +kernel) rfl, bg_of 17 (by decide +kernel) rfl, bg_of 54 (by decide +kernel) rfl, bg_of 548 (by decide +kernel) rfl⟩, ⟨by decide +kernel, by decide +kernel, by decide +kernel⟩, by decide⟩
theorem cv_L_74 : CV RL 74 yX4_world cX4_world 4 (some .int) 3 := ⟨⟨bg_of 549 (by decide +kernel) rfl, bg_of 550 (by decide +kernel) rfl, bg_of 551 (by decide +kernel) rfl, bg_of 50 (by decide +kernel) rfl, bg_of 552 (by decide +kernel) rfl⟩, ⟨by decide +kernel, by decide +kernel, by decide +kernel⟩, by decide⟩
theorem cv_X4_145 : CV RX4 145 yX0_setAt cX0_setAt 2 (some .int) 1 := ⟨⟨bg_of 553 (by decide +kernel) rfl, bg_of 554 (by decide +kernel) rfl, bg_of 555 (by decide +kernel) rfl, bg_of 54 (by decide +kernel) rfl, bg_of 556 (by decide +kernel) rfl⟩, ⟨by decide +kernel, by decide +kernel, by decide +kernel⟩, by decide⟩
theorem cv_X4_148 : CV RX4 148 yX0_above cX0_above 5 (some .int) 1 := ⟨⟨bg_of 557 (by decide +kernel) rfl, bg_of 558 (by decide +kernel) rfl, bg_of 559 (by decide +kernel) rfl, bg_of 54 (by decide +kernel) rfl, bg_of 560 (by decide +kernel) rfl⟩, ⟨by decide +kernel, by decide +kernel, by decide +kernel⟩, by decide⟩
theorem cv_X0_92 : CV RX0 92 yX0_setAt cX0_setAt 2 (some .int) 1 := ⟨⟨bg_of 561 (by decide +kernel) rfl, bg_of 554 (by decide +kernel) rfl, bg_of 555 (by decide +kernel) rfl, bg_of 54 (by decide +kernel) rfl, bg_of 556 (by decide +kernel) rfl⟩, ⟨by decide +kernel, by decide +kernel, by decide +kernel⟩, by decide⟩
theorem cv_X4_151 : CV RX4 151 yX0_heightAt cX0_heightAt 2 (some .int) 1 := ⟨⟨bg_of 562 (by decide +kernel) rfl, bg_of 563 (by decide +kernel) rfl, bg_of 564 (by decide +kernel) rfl, bg_of 54 (by decide +kernel) rfl, bg_of 565 (by decide +kernel) rfl⟩, ⟨by decide +kernel, by decide +kernel, by decide +kernel⟩, by decide⟩
theorem cv_L_78 : CV RL 78 yX4_image cX4_image 2 (some .int) 1 := ⟨⟨bg_of 566 (by decide +kernel) rfl, bg_of 567 (by decide +kernel) rfl, bg_of 568 (by decide +kernel) rfl, bg_of 50 (by decide +kernel) rfl, bg_of 569 (by decide +kernel) rfl⟩, ⟨by decide +kernel, by decide +kernel, by decide +kernel⟩, by decide⟩
theorem cs_X4_154 : CS RX4 154 yX4_isImage cX4_isImage 1 (some .boolean) 1 := ⟨⟨bg_of 570 (by decide +kernel) rfl, bg_of 571 (by decide +kernel) rfl, bg_of 50 (by decide +kernel) rfl, bg_of 572 (by decide +kernel) rfl⟩, ⟨by decide +kernel, by decide +kernel, by decide +kernel⟩, by decide⟩
theorem cv_X4_157 : CV RX4 157 yX2_copyFrom cX2_copyFrom 3 none 1 := ⟨⟨bg_of 573 (by decide +kernel) rfl, bg_of 574 (by decide +kernel) rfl, bg_of 575 (by decide +kernel) rfl, bg_of 51 (by decide +kernel) rfl, bg_of 576 (by decide +kernel) rfl⟩, ⟨by decide +kernel, by decide +kernel, by decide +kernel⟩, by decide⟩
theorem cv_X2_18 : CV RX2 18 yX1_copyFrom cX1_copyFrom 3 none 1 := ⟨⟨bg_of 577 (by decide +kernel) rfl, bg_of 361 (by decide +kernel) rfl, bg_of 362 (by decide +kernel) rfl, bg_of 52 (by decide +kernel) rfl, bg_of 363 (by decide +kernel) rfl⟩, ⟨by decide +kernel, by decide +kernel, by decide +kernel⟩, by decide⟩
theorem cv_L_82 : CV RL 82 yX4_restore cX4_restore 2 (some .int) 1 := ⟨⟨bg_of 578 (by decide +kernel) rfl, bg_of 579 (by decide +kernel) rfl, bg_of 580 (by decide +kernel) rfl, bg_of 50 (by decide +kernel) rfl, bg_of 581 (by decide +kernel) rfl⟩, ⟨by decide +kernel, by decide +kernel, by decide +kernel⟩, by decide⟩
theorem cs_X4_161 : CS RX4 161 yX4_has cX4_has 2 (some .boolean) 2 := ⟨⟨bg_of 582 (by decide +kernel) rfl, bg_of 478 (by decide +kernel) rfl, bg_of 50 (by decide +kernel) rfl, bg_of 479 (by decide +kernel) rfl⟩, ⟨by decide +kernel, by decide +kernel, by decide +kernel⟩, by decide⟩
theorem cv_L_86 : CV RL 86 yX4_count cX4_count 2 (some .int) 1 := ⟨⟨bg_of 583 (by decide +kernel) rfl, bg_of 584 (by decide +kernel) rfl, bg_of 585 (by decide +kernel) rfl, bg_of 50 (by decide +kernel) rfl, bg_of 586 (by decide +kernel) rfl⟩, ⟨by decide +kernel, by decide +kernel, by decide +kernel⟩, by decide⟩
theorem cv_X4_164 : CV RX4 164 yX4_countHeld cX4_countHeld 3 (some .int) 0 := ⟨⟨bg_of 587 (by decide +kernel) rfl, bg_of 589 (by decide +kernel) rfl, bg_of 18 (by decide +kernel) rfl, bg_of 50 (by decide +kernel) rfl, bg_of 590 (by decide +kernel) rfl⟩, ⟨by decide +kernel, by decide +kernel, by decide +kernel⟩, by decide⟩
theorem cv_X4_167 : CV RX4 167 yX4_countPlain cX4_countPlain 3 (some .int) 0 := ⟨⟨bg_of 591 (by decide +kernel) rfl, bg_of 593 (by decide +kernel) rfl, bg_of 19 (by decide +kernel) rfl, bg_of 50 (by decide +kernel) rfl, bg_of 594 (by decide +kernel) rfl⟩, ⟨by decide +kernel, by decide +kernel, by decide +kernel⟩, by decide⟩
theorem cv_X4_170 : CV RX4 170 yX4_countTrueByRows cX4_countTrueByRows 3 (some .int) 0 := ⟨⟨bg_of 595 (by decide +kernel) rfl, bg_of 597 (by decide +kernel) rfl, bg_of 20 (by decide +kernel) rfl, bg_of 50 (by decide +kernel) rfl, bg_of 598 (by decide +kernel) rfl⟩, ⟨by decide +kernel, by decide +kernel, by decide +kernel⟩, by decide⟩
theorem cv_X4_173 : CV RX4 173 yX2_countUnlike cX2_countUnlike 3 (some .int) 0 := ⟨⟨bg_of 599 (by decide +kernel) rfl, bg_of 600 (by decide +kernel) rfl, bg_of 601 (by decide +kernel) rfl, bg_of 51 (by decide +kernel) rfl, bg_of 602 (by decide +kernel) rfl⟩, ⟨by decide +kernel, by decide +kernel, by decide +kernel⟩, by decide⟩
theorem cv_X2_26 : CV RX2 26 yX2_standsBefore cX2_standsBefore 3 (some .boolean) 1 := ⟨⟨bg_of 603 (by decide +kernel) rfl, bg_of 605 (by decide +kernel) rfl, bg_of 21 (by decide +kernel) rfl, bg_of 51 (by decide +kernel) rfl, bg_of 606 (by decide +kernel) rfl⟩, ⟨by decide +kernel, by decide +kernel, by decide +kernel⟩, by decide⟩
theorem cv_X2_30 : CV RX2 30 yX1_sameAs cX1_sameAs 3 (some .boolean) 1 := ⟨⟨bg_of 607 (by decide +kernel) rfl, bg_of 465 (by decide +kernel) rfl, bg_of 466 (by decide +kernel) rfl, bg_of 52 (by decide +kernel) rfl, bg_of 467 (by decide +kernel) rfl⟩, ⟨by decide +kernel, by decide +kernel, by decide +kernel⟩, by decide⟩
theorem cv_L_17 : CV RL 17 yX5_say cX5_say 2 (some .int) 1 := ⟨⟨bg_of 691 (by decide +kernel) rfl, bg_of 692 (by decide +kernel) rfl, bg_of 693 (by decide +kernel) rfl, bg_of 55 (by decide +kernel) rfl, bg_of 694 (by decide +kernel) rfl⟩, ⟨by decide +kernel, by decide +kernel, by decide +kernel⟩, by decide⟩
theorem cs_X5_69 : CS RX5 69 yX5_in cX5_in 3 (some .boolean) 3 := ⟨⟨bg_of 695 (by decide +kernel) rfl, bg_of 696 (by decide +kernel) rfl, bg_of 55 (by decide +kernel) rfl, bg_of 697 (by decide +kernel) rfl⟩, ⟨by decide +kernel, by decide +kernel, by decide +kernel⟩, by decide⟩
theorem cv_L_22 : CV RL 22 yX5_wipe cX5_wipe 2 (some .int) 0 := ⟨⟨bg_of 698 (by decide +kernel) rfl, bg_of 699 (by decide +kernel) rfl, bg_of 700 (by decide +kernel) rfl, bg_of 55 (by decide +kernel) rfl, bg_of 701 (by decide +kernel) rfl⟩, ⟨by decide +kernel, by decide +kernel, by decide +kernel⟩, by decide⟩
theorem cv_L_26 : CV RL 26 yX5_read cX5_read 3 (some .int) 1 := ⟨⟨bg_of 702 (by decide +kernel) rfl, bg_of 703 (by decide +kernel) rfl, bg_of 704 (by decide +kernel) rfl, bg_of 55 (by decide +kernel) rfl, bg_of 705 (by decide +kernel) rfl⟩, ⟨by decide +kernel, by decide +kernel, by decide +kernel⟩, by decide⟩
theorem cs_X5_106 : CS RX5 106 yX5_isSlot cX5_isSlot 1 (some .boolean) 1 := ⟨⟨bg_of 706 (by decide +kernel) rfl, bg_of 707 (by decide +kernel) rfl, bg_of 55 (by decide +kernel) rfl, bg_of 708 (by decide +kernel) rfl⟩, ⟨by decide +kernel, by decide +kernel, by decide +kernel⟩, by decide⟩
theorem cv_X5_109 : CV RX5 109 yX5_readText cX5_readText 2 (some .int) 0 := ⟨⟨bg_of 709 (by decide +kernel) rfl, bg_of 711 (by decide +kernel) rfl, bg_of 22 (by decide +kernel) rfl, bg_of 55 (by decide +kernel) rfl, bg_of 712 (by decide +kernel) rfl⟩, ⟨by decide +kernel, by decide +kernel, by decide +kernel⟩, by decide⟩
theorem cv_X5_93 : CV RX5 93 yX5_push cX5_push 2 none 1 := ⟨⟨bg_of 713 (by decide +kernel) rfl, bg_of 715 (by decide +kernel) rfl, bg_of 23 (by decide +kernel) rfl, bg_of 55 (by decide +kernel) rfl, bg_of 716 (by decide +kernel) rfl⟩, ⟨by decide +kernel, by decide +kernel, by decide +kernel⟩, by decide⟩
theorem cv_X5_103 : CV RX5 103 yX5_reads cX5_reads 3 (some .boolean) 1 := ⟨⟨bg_of 717 (by decide +kernel) rfl, bg_of 719 (by decide +kernel) rfl, bg_of 24 (by decide +kernel) rfl, bg_of 55 (by decide +kernel) rfl, bg_of 720 (by decide +kernel) rfl⟩, ⟨by decide +kernel, by decide +kernel, by decide +kernel⟩, by decide⟩
theorem cv_X5_96 : CV RX5 96 yX5_begins cX5_begins 2 (some .boolean) 1 := ⟨⟨bg_of 721 (by decide +kernel) rfl, bg_of 723 (by decide +kernel) rfl, bg_of 25 (by decide +kernel) rfl, bg_of 55 (by decide +kernel) rfl, bg_of 724 (by decide +kernel) rfl⟩, ⟨by decide +kernel, by decide +kernel, by decide +kernel⟩, by decide⟩
theorem cv_X5_82 : CV RX5 82 yX5_partOf cX5_partOf 5 (some .int) 3 := ⟨⟨bg_of 725 (by decide +kernel) rfl, bg_of 727 (by decide +kernel) rfl, bg_of 26 (by decide +kernel) rfl, bg_of 55 (by decide +kernel) rfl, bg_of 728 (by decide +kernel) rfl⟩, ⟨by decide +kernel, by decide +kernel, by decide +kernel⟩, by decide⟩
theorem cv_X5_89 : CV RX5 89 yX5_complete cX5_complete 3 none 1 := ⟨⟨bg_of 729 (by decide +kernel) rfl, bg_of 731 (by decide +kernel) rfl, bg_of 27 (by decide +kernel) rfl, bg_of 55 (by decide +kernel) rfl, bg_of 732 (by decide +kernel) rfl⟩, ⟨by decide +kernel, by decide +kernel, by decide +kernel⟩, by decide⟩
theorem cv_X5_113 : CV RX5 113 yX5_keep cX5_keep 3 (some .int) 1 := ⟨⟨bg_of 733 (by decide +kernel) rfl, bg_of 735 (by decide +kernel) rfl, bg_of 28 (by decide +kernel) rfl, bg_of 55 (by decide +kernel) rfl, bg_of 736 (by decide +kernel) rfl⟩, ⟨by decide +kernel, by decide +kernel, by decide +kernel⟩, by decide⟩
theorem cv_L_30 : CV RL 30 yX5_fault cX5_fault 1 (some .int) 0 := ⟨⟨bg_of 737 (by decide +kernel) rfl, bg_of 738 (by decide +kernel) rfl, bg_of 739 (by decide +kernel) rfl, bg_of 55 (by decide +kernel) rfl, bg_of 740 (by decide +kernel) rfl⟩, ⟨by decide +kernel, by decide +kernel, by decide +kernel⟩, by decide⟩
theorem cv_L_35 : CV RL 35 yX5_make cX5_make 5 (some .int) 4 := ⟨⟨bg_of 741 (by decide +kernel) rfl, bg_of 742 (by decide +kernel) rfl, bg_of 743 (by decide +kernel) rfl, bg_of 55 (by decide +kernel) rfl, bg_of 744 (by decide +kernel) rfl⟩, ⟨by decide +kernel, by decide +kernel, by decide +kernel⟩, by decide⟩
theorem cv_X5_120 : CV RX5 120 yX5_isEmpty cX5_isEmpty 2 (some .boolean) 1 := ⟨⟨bg_of 745 (by decide +kernel) rfl, bg_of 747 (by decide +kernel) rfl, bg_of 29 (by decide +kernel) rfl, bg_of 55 (by decide +kernel) rfl, bg_of 748 (by decide +kernel) rfl⟩, ⟨by decide +kernel, by decide +kernel, by decide +kernel⟩, by decide⟩
theorem cv_X5_123 : CV RX5 123 yX5_put cX5_put 8 none 3 := ⟨⟨bg_of 749 (by decide +kernel) rfl, bg_of 751 (by decide +kernel) rfl, bg_of 30 (by decide +kernel) rfl, bg_of 55 (by decide +kernel) rfl, bg_of 752 (by decide +kernel) rfl⟩, ⟨by decide +kernel, by decide +kernel, by decide +kernel⟩, by decide⟩
theorem cv_X5_117 : CV RX5 117 yX5_look cX5_look 3 none 1 := ⟨⟨bg_of 753 (by decide +kernel) rfl, bg_of 755 (by decide +kernel) rfl, bg_of 31 (by decide +kernel) rfl, bg_of 55 (by decide +kernel) rfl, bg_of 756 (by decide +kernel) rfl⟩, ⟨by decide +kernel, by decide +kernel, by decide +kernel⟩, by decide⟩
theorem cv_L_40 : CV RL 40 yX5_part cX5_part 4 (some .int) 3 := ⟨⟨bg_of 757 (by decide +kernel) rfl, bg_of 758 (by decide +kernel) rfl, bg_of 759 (by decide +kernel) rfl, bg_of 55 (by decide +kernel) rfl, bg_of 760 (by decide +kernel) rfl⟩, ⟨by decide +kernel, by decide +kernel, by decide +kernel⟩, by decide⟩
theorem cv_X5_127 : CV RX5 127 yX5_cut cX5_cut 7 none 2 := ⟨⟨bg_of 761 (by decide +kernel) rfl, bg_of 763 (by decide +kernel) rfl, bg_of 32 (by decide +kernel) rfl, bg_of 55 (by decide +kernel) rfl, bg_of 764 (by decide +kernel) rfl⟩, ⟨by decide +kernel, by decide +kernel, by decide +kernel⟩, by decide⟩
theorem cv_L_45 : CV RL 45 yX5_sign cX5_sign 4 (some .int) 2 := ⟨⟨bg_of 765 (by decide +kernel) rfl, bg_of 766 (by decide +kernel) rfl, bg_of 767 (by decide +kernel) rfl, bg_of 55 (by decide +kernel) rfl, bg_of 768 (by decide +kernel) rfl⟩, ⟨by decide +kernel, by decide +kernel, by decide +kernel⟩, by decide⟩
theorem cv_X5_131 : CV RX5 131 yX5_signAt cX5_signAt 6 (some .int) 1 := ⟨⟨bg_of 769 (by decide +kernel) rfl, bg_of 771 (by decide +kernel) rfl, bg_of 33 (by decide +kernel) rfl, bg_of 55 (by decide +kernel) rfl, bg_of 772 (by decide +kernel) rfl⟩, ⟨by decide +kernel, by decide +kernel, by decide +kernel⟩, by decide⟩
theorem cv_L_49 : CV RL 49 yX5_told cX5_told 5 (some .int) 3 := ⟨⟨bg_of 773 (by decide +kernel) rfl, bg_of 774 (by decide +kernel) rfl, bg_of 775 (by decide +kernel) rfl, bg_of 55 (by decide +kernel) rfl, bg_of 776 (by decide +kernel) rfl⟩, ⟨by decide +kernel, by decide +kernel, by decide +kernel⟩, by decide⟩
theorem cv_L_53 : CV RL 53 yX5_drop cX5_drop 3 (some .int) 1 := ⟨⟨bg_of 777 (by decide +kernel) rfl, bg_of 778 (by decide +kernel) rfl, bg_of 779 (by decide +kernel) rfl, bg_of 55 (by decide +kernel) rfl, bg_of 780 (by decide +kernel) rfl⟩, ⟨by decide +kernel, by decide +kernel, by decide +kernel⟩, by decide⟩
theorem cv_L_57 : CV RL 57 yX5_plain cX5_plain 2 (some .int) 1 := ⟨⟨bg_of 781 (by decide +kernel) rfl, bg_of 782 (by decide +kernel) rfl, bg_of 783 (by decide +kernel) rfl, bg_of 55 (by decide +kernel) rfl, bg_of 784 (by decide +kernel) rfl⟩, ⟨by decide +kernel, by decide +kernel, by decide +kernel⟩, by decide⟩
theorem cv_X5_153 : CV RX5 153 yX5_isPlain cX5_isPlain 2 (some .boolean) 1 := ⟨⟨bg_of 785 (by decide +kernel) rfl, bg_of 787 (by decide +kernel) rfl, bg_of 34 (by decide +kernel) rfl, bg_of 55 (by decide +kernel) rfl, bg_of 788 (by decide +kernel) rfl⟩, ⟨by decide +kernel, by decide +kernel, by decide +kernel⟩, by decide⟩
theorem cv_X5_150 : CV RX5 150 yX5_isInAll cX5_isInAll 5 (some .boolean) 2 := ⟨⟨bg_of 789 (by decide +kernel) rfl, bg_of 791 (by decide +kernel) rfl, bg_of 35 (by decide +kernel) rfl, bg_of 55 (by decide +kernel) rfl, bg_of 792 (by decide +kernel) rfl⟩, ⟨by decide +kernel, by decide +kernel, by decide +kernel⟩, by decide⟩
theorem cv_X5_147 : CV RX5 147 yX5_layWorlds cX5_layWorlds 4 none 0 := ⟨⟨bg_of 793 (by decide +kernel) rfl, bg_of 795 (by decide +kernel) rfl, bg_of 36 (by decide +kernel) rfl, bg_of 55 (by decide +kernel) rfl, bg_of 796 (by decide +kernel) rfl⟩, ⟨by decide +kernel, by decide +kernel, by decide +kernel⟩, by decide⟩
theorem cv_X5_141 : CV RX5 141 yX5_isClosed cX5_isClosed 8 (some .boolean) 1 := ⟨⟨bg_of 797 (by decide +kernel) rfl, bg_of 799 (by decide +kernel) rfl, bg_of 37 (by decide +kernel) rfl, bg_of 55 (by decide +kernel) rfl, bg_of 800 (by decide +kernel) rfl⟩, ⟨by decide +kernel, by decide +kernel, by decide +kernel⟩, by decide⟩
theorem cs_X5_134 : CS RX5 134 yX5_has cX5_has 2 (some .boolean) 2 := ⟨⟨bg_of 801 (by decide +kernel) rfl, bg_of 802 (by decide +kernel) rfl, bg_of 55 (by decide +kernel) rfl, bg_of 803 (by decide +kernel) rfl⟩, ⟨by decide +kernel, by decide +kernel, by decide +kernel⟩, by decide⟩
theorem cv_X5_144 : CV RX5 144 yX5_isNeeded cX5_isNeeded 5 (some .boolean) 1 := ⟨⟨bg_of 804 (by decide +kernel) rfl, bg_of 806 (by decide +kernel) rfl, bg_of 38 (by decide +kernel) rfl, bg_of 55 (by decide +kernel) rfl, bg_of 807 (by decide +kernel) rfl⟩, ⟨by decide +kernel, by decide +kernel, by decide +kernel⟩, by decide⟩
theorem cv_L_61 : CV RL 61 yX5_rows cX5_rows 2 (some .int) 1 := ⟨⟨bg_of 808 (by decide +kernel) rfl, bg_of 809 (by decide +kernel) rfl, bg_of 810 (by decide +kernel) rfl, bg_of 55 (by decide +kernel) rfl, bg_of 811 (by decide +kernel) rfl⟩, ⟨by decide +kernel, by decide +kernel, by decide +kernel⟩, by decide⟩
theorem cv_X5_159 : CV RX5 159 yX5_isTrueByRows cX5_isTrueByRows 4 (some .boolean) 1 := ⟨⟨bg_of 812 (by decide +kernel) rfl, bg_of 814 (by decide +kernel) rfl, bg_of 39 (by decide +kernel) rfl, bg_of 55 (by decide +kernel) rfl, bg_of 815 (by decide +kernel) rfl⟩, ⟨by decide +kernel, by decide +kernel, by decide +kernel⟩, by decide⟩
theorem cv_X5_156 : CV RX5 156 yX5_isTrue cX5_isTrue 7 (some .boolean) 1 := ⟨⟨bg_of 816 (by decide +kernel) rfl, bg_of 818 (by decide +kernel) rfl, bg_of 40 (by decide +kernel) rfl, bg_of 55 (by decide +kernel) rfl, bg_of 819 (by decide +kernel) rfl⟩, ⟨by decide +kernel, by decide +kernel, by decide +kernel⟩, by decide⟩
theorem cv_L_65 : CV RL 65 yX5_follows cX5_follows 3 (some .int) 2 := ⟨⟨bg_of 820 (by decide +kernel) rfl, bg_of 821 (by decide +kernel) rfl, bg_of 822 (by decide +kernel) rfl, bg_of 55 (by decide +kernel) rfl, bg_of 823 (by decide +kernel) rfl⟩, ⟨by decide +kernel, by decide +kernel, by decide +kernel⟩, by decide⟩
theorem cv_L_69 : CV RL 69 yX5_from cX5_from 4 (some .int) 3 := ⟨⟨bg_of 824 (by decide +kernel) rfl, bg_of 825 (by decide +kernel) rfl, bg_of 826 (by decide +kernel) rfl, bg_of 55 (by decide +kernel) rfl, bg_of 827 (by decide +kernel) rfl⟩, ⟨by decide +kernel, by decide +kernel, by decide +kernel⟩, by decide⟩
theorem cv_L_73 : CV RL 73 yX5_worlds cX5_worlds 10 (some .int) 2 := ⟨⟨bg_of 828 (by decide +kernel) rfl, bg_of 829 (by decide +kernel) rfl, bg_of 830 (by decide +kernel) rfl, bg_of 55 (by decide +kernel) rfl, bg_of 831 (by decide +kernel) rfl⟩, ⟨by decide +kernel, by decide +kernel, by decide +kernel⟩, by decide⟩
theorem cv_X5_165 : CV RX5 165 yX5_layHeights cX5_layHeights 3 none 0 := ⟨⟨bg_of 832 (by decide +kernel) rfl, bg_of 834 (by decide +kernel) rfl, bg_of 41 (by decide +kernel) rfl, bg_of 55 (by decide +kernel) rfl, bg_of 835 (by decide +kernel) rfl⟩, ⟨by decide +kernel, by decide +kernel, by decide +kernel⟩, by decide⟩
theorem cv_X5_162 : CV RX5 162 yX5_isAbove cX5_isAbove 3 (some .boolean) 2 := ⟨⟨bg_of 836 (by decide +kernel) rfl, bg_of 838 (by decide +kernel) rfl, bg_of 42 (by decide +kernel) rfl, bg_of 55 (by decide +kernel) rfl, bg_of 839 (by decide +kernel) rfl⟩, ⟨by decide +kernel, by decide +kernel, by decide +kernel⟩, by decide⟩
theorem cv_X5_168 : CV RX5 168 yX5_aboveOf cX5_aboveOf 4 (some .int) 1 := ⟨⟨bg_of 840 (by decide +kernel) rfl, bg_of 842 (by decide +kernel) rfl, bg_of 43 (by decide +kernel) rfl, bg_of 55 (by decide +kernel) rfl, bg_of 843 (by decide +kernel) rfl⟩, ⟨by decide +kernel, by decide +kernel, by decide +kernel⟩, by decide⟩
theorem cv_X5_171 : CV RX5 171 yX5_belowOf cX5_belowOf 4 (some .int) 1 := ⟨⟨bg_of 844 (by decide +kernel) rfl, bg_of 846 (by decide +kernel) rfl, bg_of 44 (by decide +kernel) rfl, bg_of 55 (by decide +kernel) rfl, bg_of 847 (by decide +kernel) rfl⟩, ⟨by decide +kernel, by decide +kernel, by decide +kernel⟩, by decide⟩
theorem cv_L_77 : CV RL 77 yX5_world cX5_world 4 (some .int) 3 := ⟨⟨bg_of 848 (by decide +kernel) rfl, bg_of 849 (by decide +kernel) rfl, bg_of 850 (by decide +kernel) rfl, bg_of 55 (by decide +kernel) rfl, bg_of 851 (by decide +kernel) rfl⟩, ⟨by decide +kernel, by decide +kernel, by decide +kernel⟩, by decide⟩
theorem cv_L_81 : CV RL 81 yX5_image cX5_image 3 (some .int) 1 := ⟨⟨bg_of 852 (by decide +kernel) rfl, bg_of 853 (by decide +kernel) rfl, bg_of 854 (by decide +kernel) rfl, bg_of 55 (by decide +kernel) rfl, bg_of 855 (by decide +kernel) rfl⟩, ⟨by decide +kernel, by decide +kernel, by decide +kernel⟩, by decide⟩
theorem cv_X5_174 : CV RX5 174 yX5_copy cX5_copy 3 none 2 := ⟨⟨bg_of 856 (by decide +kernel) rfl, bg_of 858 (by decide +kernel) rfl, bg_of 45 (by decide +kernel) rfl, bg_of 55 (by decide +kernel) rfl, bg_of 859 (by decide +kernel) rfl⟩, ⟨by decide +kernel, by decide +kernel, by decide +kernel⟩, by decide⟩
theorem cv_L_85 : CV RL 85 yX5_restore cX5_restore 3 (some .int) 1 := ⟨⟨bg_of 860 (by decide +kernel) rfl, bg_of 861 (by decide +kernel) rfl, bg_of 862 (by decide +kernel) rfl, bg_of 55 (by decide +kernel) rfl, bg_of 863 (by decide +kernel) rfl⟩, ⟨by decide +kernel, by decide +kernel, by decide +kernel⟩, by decide⟩
theorem cv_L_89 : CV RL 89 yX5_count cX5_count 4 (some .int) 1 := ⟨⟨bg_of 864 (by decide +kernel) rfl, bg_of 865 (by decide +kernel) rfl, bg_of 866 (by decide +kernel) rfl, bg_of 55 (by decide +kernel) rfl, bg_of 867 (by decide +kernel) rfl⟩, ⟨by decide +kernel, by decide +kernel, by decide +kernel⟩, by decide⟩
theorem cv_X5_183 : CV RX5 183 yX5_counts cX5_counts 3 (some .boolean) 2 := ⟨⟨bg_of 868 (by decide +kernel) rfl, bg_of 870 (by decide +kernel) rfl, bg_of 46 (by decide +kernel) rfl, bg_of 55 (by decide +kernel) rfl, bg_of 871 (by decide +kernel) rfl⟩, ⟨by decide +kernel, by decide +kernel, by decide +kernel⟩, by decide⟩
theorem cv_X5_180 : CV RX5 180 yX5_isFirst cX5_isFirst 4 (some .boolean) 1 := ⟨⟨bg_of 872 (by decide +kernel) rfl, bg_of 874 (by decide +kernel) rfl, bg_of 47 (by decide +kernel) rfl, bg_of 55 (by decide +kernel) rfl, bg_of 875 (by decide +kernel) rfl⟩, ⟨by decide +kernel, by decide +kernel, by decide +kernel⟩, by decide⟩
theorem cv_X5_177 : CV RX5 177 yX5_areSame cX5_areSame 7 (some .boolean) 2 := ⟨⟨bg_of 876 (by decide +kernel) rfl, bg_of 878 (by decide +kernel) rfl, bg_of 48 (by decide +kernel) rfl, bg_of 55 (by decide +kernel) rfl, bg_of 879 (by decide +kernel) rfl⟩, ⟨by decide +kernel, by decide +kernel, by decide +kernel⟩, by decide⟩
theorem ck_X1_53 : Cond.constant RX1 53 65535 ∈ BG := bg_of 259 (by decide +kernel) rfl
theorem ck_J2_227 : Cond.constant RJ2 227 65536 ∈ BG := bg_of 307 (by decide +kernel) rfl
theorem ck_J11_110 : Cond.constant RJ11 110 55232 ∈ BG := bg_of 346 (by decide +kernel) rfl
theorem ck_J11_76 : Cond.constant RJ11 76 56320 ∈ BG := bg_of 350 (by decide +kernel) rfl
theorem fs_X1_50 : Cond.fieldLink RX1 50 "StrictSentences$Sentence" "ATOM_ROWS" "[I" ∈ BG := bg_of 253 (by decide +kernel) rfl
end
section
theorem Tf_sen {j : Nat} (hj : j < 20) : Tf (7 * j) = .inr (.inr (1, [none, none, some (7 * j + 1), some (7 * j + 2), some (7 * j + 3), some (7 * j + 4), some (7 * j + 5), some (7 * j + 6)])) := by
  unfold Tf; rw [if_pos (by omega), if_pos (by omega)]
theorem Tf_arr {j q : Nat} (hj : j < 20) (h1 : 1 ≤ q) (h2 : q < 7) : Tf (7 * j + q) = .inl (0, 11) := by
  unfold Tf; rw [if_pos (by omega), if_neg (by omega)]
theorem Tf_she {j : Nat} (hj : j < 3) : Tf (j + 140) = .inr (.inr (2, [some (j + 143)])) := by
  unfold Tf; rw [if_neg (by omega), if_pos (by omega)]
theorem Tf_hel {j : Nat} (hj : j < 3) : Tf (j + 143) = .inr (.inl (2, 6, fun k => 7 * (6 * j + k))) := by
  unfold Tf; rw [if_neg (by omega), if_neg (by omega), if_pos (by omega)]
  simp only [Nat.add_sub_cancel]
theorem obX1 {j : Nat} (hj : j < 20) : oC (7 * j) 1 := ⟨by show _ < 175; omega, _, Tf_sen hj⟩
theorem obX2 {j : Nat} (hj : j < 3) : oC (j + 140) 2 := ⟨by show _ < 175; omega, _, Tf_she hj⟩
theorem obX0 : oC 151 0 := ⟨by decide, _, rfl⟩
theorem obX3 : oC 147 3 := ⟨by decide, _, rfl⟩
theorem obX4 : oC 155 4 := ⟨by decide, _, rfl⟩
theorem obX5 : oC 156 5 := ⟨by decide, _, rfl⟩
theorem shX1_0 {j : Nat} (hj : j < 20) : fI (7 * j) 1 0 := ⟨by show _ < 175; omega, _, Tf_sen hj, rfl⟩
theorem shX1_1 {j : Nat} (hj : j < 20) : fI (7 * j) 1 1 := ⟨by show _ < 175; omega, _, Tf_sen hj, rfl⟩
theorem shX1_2 {j : Nat} (hj : j < 20) : fR (7 * j) 1 2 (7 * j + 1) := ⟨by show _ < 175; omega, _, Tf_sen hj, rfl⟩
theorem arX1_2 {j : Nat} (hj : j < 20) : aI (7 * j + 1) 11 := ⟨by show _ < 175; omega, Tf_arr hj (by decide) (by decide)⟩
theorem shX1_3 {j : Nat} (hj : j < 20) : fR (7 * j) 1 3 (7 * j + 2) := ⟨by show _ < 175; omega, _, Tf_sen hj, rfl⟩
theorem arX1_3 {j : Nat} (hj : j < 20) : aI (7 * j + 2) 11 := ⟨by show _ < 175; omega, Tf_arr hj (by decide) (by decide)⟩
theorem shX1_4 {j : Nat} (hj : j < 20) : fR (7 * j) 1 4 (7 * j + 3) := ⟨by show _ < 175; omega, _, Tf_sen hj, rfl⟩
theorem arX1_4 {j : Nat} (hj : j < 20) : aI (7 * j + 3) 11 := ⟨by show _ < 175; omega, Tf_arr hj (by decide) (by decide)⟩
theorem shX1_5 {j : Nat} (hj : j < 20) : fR (7 * j) 1 5 (7 * j + 4) := ⟨by show _ < 175; omega, _, Tf_sen hj, rfl⟩
theorem arX1_5 {j : Nat} (hj : j < 20) : aI (7 * j + 4) 11 := ⟨by show _ < 175; omega, Tf_arr hj (by decide) (by decide)⟩
theorem shX1_6 {j : Nat} (hj : j < 20) : fR (7 * j) 1 6 (7 * j + 5) := ⟨by show _ < 175; omega, _, Tf_sen hj, rfl⟩
theorem arX1_6 {j : Nat} (hj : j < 20) : aI (7 * j + 5) 11 := ⟨by show _ < 175; omega, Tf_arr hj (by decide) (by decide)⟩
theorem shX1_7 {j : Nat} (hj : j < 20) : fR (7 * j) 1 7 (7 * j + 6) := ⟨by show _ < 175; omega, _, Tf_sen hj, rfl⟩
theorem arX1_7 {j : Nat} (hj : j < 20) : aI (7 * j + 6) 11 := ⟨by show _ < 175; omega, Tf_arr hj (by decide) (by decide)⟩
theorem shX2_0 {j : Nat} (hj : j < 3) : fR (j + 140) 2 0 (j + 143) := ⟨by show _ < 175; omega, _, Tf_she hj, rfl⟩
theorem arX2_0 {j : Nat} (hj : j < 3) : aR (j + 143) 2 6 (fun k => 7 * (6 * j + k)) := ⟨by show _ < 175; omega, Tf_hel hj⟩
theorem arX4_1 : aR 146 3 2 (fun k => k + 1 + 140) := ⟨by decide, rfl⟩
theorem shX0_0 : fR 151 0 0 (7 * 19) := ⟨by decide, _, rfl, rfl⟩
theorem shX0_1 : fR 151 0 1 (152) := ⟨by decide, _, rfl, rfl⟩
theorem arX0_1 : aI 152 2048 := ⟨by decide, rfl⟩
theorem shX0_2 : fR 151 0 2 (153) := ⟨by decide, _, rfl, rfl⟩
theorem arX0_2 : aI 153 2048 := ⟨by decide, rfl⟩
theorem shX0_3 : fR 151 0 3 (154) := ⟨by decide, _, rfl, rfl⟩
theorem arX0_3 : aI 154 2048 := ⟨by decide, rfl⟩
theorem shX0_4 : fI 151 0 4 := ⟨by decide, _, rfl, rfl⟩
theorem shX0_5 : fI 151 0 5 := ⟨by decide, _, rfl, rfl⟩
theorem shX3_0 : fI 147 3 0 := ⟨by decide, _, rfl, rfl⟩
theorem shX3_1 : fR 147 3 1 (148) := ⟨by decide, _, rfl, rfl⟩
theorem arX3_1 : aI 148 40 := ⟨by decide, rfl⟩
theorem shX3_2 : fR 147 3 2 (149) := ⟨by decide, _, rfl, rfl⟩
theorem arX3_2 : aI 149 40 := ⟨by decide, rfl⟩
theorem shX3_3 : fR 147 3 3 (150) := ⟨by decide, _, rfl, rfl⟩
theorem arX3_3 : aI 150 40 := ⟨by decide, rfl⟩
theorem shX3_4 : fI 147 3 4 := ⟨by decide, _, rfl, rfl⟩
theorem shX3_5 : fI 147 3 5 := ⟨by decide, _, rfl, rfl⟩
theorem shX3_6 : fI 147 3 6 := ⟨by decide, _, rfl, rfl⟩
theorem shX4_0 : fR 155 4 0 (140) := ⟨by decide, _, rfl, rfl⟩
theorem shX4_1 : fR 155 4 1 (146) := ⟨by decide, _, rfl, rfl⟩
theorem shX4_2 : fI 155 4 2 := ⟨by decide, _, rfl, rfl⟩
theorem shX4_3 : fR 155 4 3 (147) := ⟨by decide, _, rfl, rfl⟩
theorem shX4_4 : fI 155 4 4 := ⟨by decide, _, rfl, rfl⟩
theorem shX4_5 : fR 155 4 5 (7 * 18) := ⟨by decide, _, rfl, rfl⟩
theorem shX4_6 : fR 155 4 6 (151) := ⟨by decide, _, rfl, rfl⟩
theorem shX5_0 : fR 156 5 0 (157) := ⟨by decide, _, rfl, rfl⟩
theorem arX5_0 : aI 157 18 := ⟨by decide, rfl⟩
theorem shX5_1 : fR 156 5 1 (158) := ⟨by decide, _, rfl, rfl⟩
theorem arX5_1 : aI 158 198 := ⟨by decide, rfl⟩
theorem shX5_2 : fR 156 5 2 (159) := ⟨by decide, _, rfl, rfl⟩
theorem arX5_2 : aI 159 198 := ⟨by decide, rfl⟩
theorem shX5_3 : fR 156 5 3 (160) := ⟨by decide, _, rfl, rfl⟩
theorem arX5_3 : aI 160 198 := ⟨by decide, rfl⟩
theorem shX5_4 : fR 156 5 4 (161) := ⟨by decide, _, rfl, rfl⟩
theorem arX5_4 : aI 161 40 := ⟨by decide, rfl⟩
theorem shX5_5 : fI 156 5 5 := ⟨by decide, _, rfl, rfl⟩
theorem shX5_6 : fI 156 5 6 := ⟨by decide, _, rfl, rfl⟩
theorem shX5_7 : fI 156 5 7 := ⟨by decide, _, rfl, rfl⟩
theorem shX5_8 : fR 156 5 8 (162) := ⟨by decide, _, rfl, rfl⟩
theorem arX5_8 : aI 162 128 := ⟨by decide, rfl⟩
theorem shX5_9 : fR 156 5 9 (163) := ⟨by decide, _, rfl, rfl⟩
theorem arX5_9 : aI 163 128 := ⟨by decide, rfl⟩
theorem shX5_10 : fR 156 5 10 (164) := ⟨by decide, _, rfl, rfl⟩
theorem arX5_10 : aI 164 128 := ⟨by decide, rfl⟩
theorem shX5_11 : fR 156 5 11 (165) := ⟨by decide, _, rfl, rfl⟩
theorem arX5_11 : aI 165 64 := ⟨by decide, rfl⟩
theorem shX5_12 : fR 156 5 12 (166) := ⟨by decide, _, rfl, rfl⟩
theorem arX5_12 : aI 166 64 := ⟨by decide, rfl⟩
theorem shX5_13 : fR 156 5 13 (167) := ⟨by decide, _, rfl, rfl⟩
theorem arX5_13 : aI 167 64 := ⟨by decide, rfl⟩
theorem shX5_14 : fI 156 5 14 := ⟨by decide, _, rfl, rfl⟩
theorem shX5_15 : fI 156 5 15 := ⟨by decide, _, rfl, rfl⟩
theorem shX5_16 : fI 156 5 16 := ⟨by decide, _, rfl, rfl⟩
theorem shX5_17 : fR 156 5 17 (168) := ⟨by decide, _, rfl, rfl⟩
theorem arX5_17 : aI 168 16 := ⟨by decide, rfl⟩
theorem shX5_18 : fR 156 5 18 (169) := ⟨by decide, _, rfl, rfl⟩
theorem arX5_18 : aI 169 64 := ⟨by decide, rfl⟩
theorem shX5_19 : fR 156 5 19 (170) := ⟨by decide, _, rfl, rfl⟩
theorem arX5_19 : aI 170 16 := ⟨by decide, rfl⟩
theorem shX5_20 : fR 156 5 20 (171) := ⟨by decide, _, rfl, rfl⟩
theorem arX5_20 : aI 171 2048 := ⟨by decide, rfl⟩
theorem shX5_21 : fR 156 5 21 (172) := ⟨by decide, _, rfl, rfl⟩
theorem arX5_21 : aZ 172 2048 := ⟨by decide, rfl⟩
theorem shX5_22 : fI 156 5 22 := ⟨by decide, _, rfl, rfl⟩
theorem shX5_23 : fR 156 5 23 (173) := ⟨by decide, _, rfl, rfl⟩
theorem arX5_23 : aI 173 2048 := ⟨by decide, rfl⟩
theorem shX5_24 : fR 156 5 24 (174) := ⟨by decide, _, rfl, rfl⟩
theorem arX5_24 : aZ 174 2 := ⟨by decide, rfl⟩
end
section
/-! SENTENCES as lists of parts: kind (0 atom, 1 F, 2 &, 3 |, 4 >) and two numbers -/
abbrev Pt : Type := Nat × Nat × Nat
abbrev Sen : Type := List Pt
def pK (p : Pt) : Int32 := nI p.1
def pA (p : Pt) : Int32 := if p.1 = 1 then -6 else nI p.2.1
def pB (p : Pt) : Int32 := if p.1 < 2 then -6 else nI p.2.2
def okp (k : Nat) (p : Pt) : Prop := (p.1 = 0 ∧ p.2.1 < 4 ∧ p.2.2 = 0) ∨ (p.1 = 1 ∧ p.2.1 = 0 ∧ p.2.2 = 0) ∨ (2 ≤ p.1 ∧ p.1 ≤ 4 ∧ p.2.1 < k ∧ p.2.2 < k)
def wf (P : Sen) : Prop := ∀ (k : Nat) (p : Pt), P[k]? = some p → okp k p
theorem okp.mono {k k' : Nat} {p : Pt} (h : okp k p) (hk : k ≤ k') : okp k' p := by
  rcases h with h | h | ⟨h1, h2, h3, h4⟩
  · exact Or.inl h
  · exact Or.inr (Or.inl h)
  · exact Or.inr (Or.inr ⟨h1, h2, by omega, by omega⟩)
theorem okp.k4 {k : Nat} {p : Pt} (h : okp k p) : p.1 ≤ 4 := by
  rcases h with h | h | h <;> omega
theorem nI_m6 {a : Nat} (h : a < 2 ^ 31) : nI a ≠ -6 := by
  intro e
  have h1 := congrArg Int32.toInt e
  rw [nI_toInt h] at h1
  have : (-6 : Int32).toInt = -6 := by decide
  omega
theorem pt_eq {k : Nat} {p q : Pt} (hp : okp k p) (hq : okp k q) (hk : k < 2 ^ 30) : (pK p = pK q ∧ pA p = pA q ∧ pB p = pB q) ↔ p = q := by
  constructor
  · rintro ⟨h1, h2, h3⟩
    obtain ⟨pk, pa, pb⟩ := p
    obtain ⟨qk, qa, qb⟩ := q
    have a1 := hp.k4
    have a2 := hq.k4
    simp only [pK, pA, pB, okp] at *
    have e1 : pk = qk := (nI_eq (by omega) (by omega)).mp h1
    subst e1
    rcases hp with ⟨rfl, g1, rfl⟩ | ⟨rfl, rfl, rfl⟩ | ⟨g1, g2, g3, g4⟩
    · rcases hq with ⟨-, f1, rfl⟩ | ⟨f0, -⟩ | ⟨f0, -⟩
      · have e2 : pa = qa := (nI_eq (by omega) (by omega)).mp (by simpa using h2)
        rw [e2]
      · omega
      · omega
    · rcases hq with ⟨f0, -⟩ | ⟨-, rfl, rfl⟩ | ⟨f0, -⟩
      · omega
      · rfl
      · omega
    · rcases hq with ⟨f0, -⟩ | ⟨f0, -⟩ | ⟨f1, f2, f3, f4⟩
      · omega
      · omega
      · rw [if_neg (by omega), if_neg (by omega)] at h2 h3
        have e2 : pa = qa := (nI_eq (by omega) (by omega)).mp h2
        have e3 : pb = qb := (nI_eq (by omega) (by omega)).mp h3
        rw [e2, e3]
  · rintro rfl
    exact ⟨rfl, rfl, rfl⟩
/-- a part is added, if it is not there yet -/
def addP (P : Sen) (q : Pt) : Sen := if q ∈ P then P else P ++ [q]
theorem addP_in {P : Sen} {q : Pt} (h : q ∈ P) : addP P q = P := if_pos h
theorem addP_new {P : Sen} {q : Pt} (h : q ∉ P) : addP P q = P ++ [q] := if_neg h
theorem addP_le (P : Sen) (q : Pt) : P.length ≤ (addP P q).length := by
  unfold addP; split <;> simp
theorem addP_le1 (P : Sen) (q : Pt) : (addP P q).length ≤ P.length + 1 := by
  unfold addP; split <;> simp
theorem idx_lt (P : Sen) (q : Pt) : (addP P q).idxOf q < (addP P q).length := by
  apply List.idxOf_lt_length_of_mem
  unfold addP; split
  · assumption
  · simp
theorem idx_new {P : Sen} {q : Pt} (h : q ∉ P) : (P ++ [q]).idxOf q = P.length := by
  rw [List.idxOf_append, if_neg h]; simp
theorem wf_addP {P : Sen} {q : Pt} (hP : wf P) (hq : okp P.length q) : wf (addP P q) := by
  unfold addP
  split
  · exact hP
  · intro k p hk
    rw [List.getElem?_append] at hk
    split at hk
    · exact hP k p hk
    · have : k - P.length = 0 := by
        rcases Nat.eq_zero_or_pos (k - P.length) with h | h
        · exact h
        · rw [List.getElem?_eq_none (by simp; omega)] at hk; cases hk
      rw [this] at hk
      have hk : q = p := by simpa using hk
      subst hk
      exact hq.mono (by omega)
/-- lengths of the parts, written out -/
def lnS (acc : List Nat) (p : Pt) : List Nat := acc ++ [if p.1 < 2 then 1 else acc.getD p.2.1 0 + acc.getD p.2.2 0 + 3]
def lnL (P : Sen) : List Nat := P.foldl lnS []
theorem lnL_app (P : Sen) (q : Pt) : lnL (P ++ [q]) = lnS (lnL P) q := by simp [lnL, List.foldl_append]
theorem foldl_len {α β : Type} (f : List β → α → List β) (hf : ∀ l a, (f l a).length = l.length + 1) : ∀ (P : List α) (l : List β), (P.foldl f l).length = l.length + P.length
  | [], l => by simp
  | a :: P, l => by rw [List.foldl_cons, foldl_len f hf P, hf]; simp; omega
theorem lnL_len (P : Sen) : (lnL P).length = P.length := by
  have := foldl_len lnS (fun l a => by simp [lnS]) P []
  simpa [lnL] using this
/-- rows of true and false of the parts, as 16 bits -/
def rwV (acc : List Int32) (p : Pt) : Int32 :=
  if p.1 = 0 then arow p.2.1 else if p.1 = 2 then acc.getD p.2.1 0 &&& acc.getD p.2.2 0 else if p.1 = 3 then acc.getD p.2.1 0 ||| acc.getD p.2.2 0 else if p.1 = 4 then ((acc.getD p.2.1 0 ^^^ (-1)) &&& 65535) ||| acc.getD p.2.2 0 else 0
def rwS (acc : List Int32) (p : Pt) : List Int32 := acc ++ [rwV acc p]
def rwL (P : Sen) : List Int32 := P.foldl rwS []
theorem rwL_app (P : Sen) (q : Pt) : rwL (P ++ [q]) = rwS (rwL P) q := by simp [rwL, List.foldl_append]
theorem rwL_len (P : Sen) : (rwL P).length = P.length := by
  have := foldl_len rwS (fun l a => by simp [rwS]) P []
  simpa [rwL] using this
/-! SENTENCE j of the class holds the parts P -/
def hk (σ : Sg) (j : Nat) (P : Sen) : Prop := ∀ (k : Nat) (p : Pt), P[k]? = some p → σ (7 * j + 1) k = pK p ∧ σ (7 * j + 2) k = pA p ∧ σ (7 * j + 3) k = pB p
def hs (σ : Sg) (j : Nat) (P : Sen) : Prop := P.length ≤ 11 ∧ wf P ∧ σ (7 * j) 0 = nI P.length ∧ hk σ j P ∧ ∀ k, k < P.length → σ (7 * j + 4) k = nI ((lnL P).getD k 0) ∧ σ (7 * j + 5) k = (rwL P).getD k 0
/-- cells off Sentence j are as they were -/
def offS (j : Nat) (σ τ : Sg) : Prop := ∀ i, (i < 7 * j ∨ 7 * j + 7 ≤ i) → τ i = σ i
theorem hs_cong {σ τ : Sg} {j : Nat} {P : Sen} (h : hs σ j P) (h0 : τ (7 * j) 0 = σ (7 * j) 0) (h1 : ∀ q, 1 ≤ q → q ≤ 5 → τ (7 * j + q) = σ (7 * j + q)) : hs τ j P := by
  obtain ⟨a1, a2, a3, a4, a5⟩ := h
  refine ⟨a1, a2, by rw [h0]; exact a3, fun k p hk => ?_, fun k hk => ?_⟩
  · rw [h1 1 (by decide) (by decide), h1 2 (by decide) (by decide), h1 3 (by decide) (by decide)]
    exact a4 k p hk
  · rw [h1 4 (by decide) (by decide), h1 5 (by decide) (by decide)]
    exact a5 k hk
theorem hs_off {σ τ : Sg} {j i : Nat} {P : Sen} (h : hs σ i P) (ho : offS j σ τ) (hij : i ≠ j) : hs τ i P := by
  have key : ∀ q, q < 7 → τ (7 * i + q) = σ (7 * i + q) := fun q hq => ho _ (by omega)
  exact hs_cong h (by have := key 0 (by decide); rw [Nat.add_zero] at this; rw [this]) (fun q h1 h2 => key q (by omega))
theorem offS.rfl {j : Nat} {σ : Sg} : offS j σ σ := fun _ _ => by rfl
theorem offS.trans {j : Nat} {σ τ υ : Sg} (h1 : offS j σ τ) (h2 : offS j τ υ) : offS j σ υ := fun i hi => (h2 i hi).trans (h1 i hi)
theorem offS.s2 {j : Nat} {σ τ : Sg} {i k : Nat} {x : Int32} (h : offS j σ τ) (h1 : 7 * j ≤ i) (h2 : i < 7 * j + 7) : offS j σ (s2 τ i k x) := fun q hq => by
  rw [s2_nc (by omega)]; exact h q hq
end
section
/-! rows with places as naturals; truths -/
def bI (b : Bool) : Int32 := if b then 1 else 0
theorem bI_t {P : Prop} [Decidable P] (h : P) : nI 1 = bI (decide P) := by simp [bI, h]; rfl
theorem bI_f {P : Prop} [Decidable P] (h : ¬ P) : nI 0 = bI (decide P) := by simp [bI, h]; rfl
theorem nI_inc (k : Nat) : nI k + Int32.ofInt 1 = nI (k + 1) := nI_1 k
theorem nI_dec {k : Nat} (h : 0 < k) : nI k + Int32.ofInt (-1) = nI (k - 1) := by
  obtain ⟨j, rfl⟩ : ∃ j, k = j + 1 := ⟨k - 1, by omega⟩
  exact pk_m1 j
theorem nI_s1 {k : Nat} (h : 0 < k) : nI k - nI 1 = nI (k - 1) := pk_sub h
theorem nI_lem {a b : Nat} (ha : a < 2 ^ 31) (hb : b < 2 ^ 31) (h : nI a ≤ nI b) : a ≤ b := (nI_leI ha hb).mp h
theorem nI_len {a b : Nat} (ha : a < 2 ^ 31) (hb : b < 2 ^ 31) (h : ¬ nI a ≤ nI b) : b < a := by
  have := mt (nI_leI ha hb).mpr h; omega
theorem nI_ltm {a b : Nat} (ha : a < 2 ^ 31) (hb : b < 2 ^ 31) (h : nI a < nI b) : a < b := (nI_ltI ha hb).mp h
theorem nI_ltn {a b : Nat} (ha : a < 2 ^ 31) (hb : b < 2 ^ 31) (h : ¬ nI a < nI b) : b ≤ a := by
  have := mt (nI_ltI ha hb).mpr h; omega
theorem nI_eqm {a b : Nat} (ha : a < 2 ^ 31) (hb : b < 2 ^ 31) (h : nI a = nI b) : a = b := (nI_eq ha hb).mp h
theorem nI_eqn {a b : Nat} (ha : a < 2 ^ 31) (hb : b < 2 ^ 31) (h : ¬ nI a = nI b) : a ≠ b := fun e => h (by rw [e])
theorem nI_l0 {a : Nat} (ha : a < 2 ^ 31) (h : nI a ≤ 0) : a = 0 := by
  have := nI_lem ha (b := 0) (by decide) h; omega
theorem nI_n0 {a : Nat} (ha : a < 2 ^ 31) (h : ¬ nI a ≤ 0) : 0 < a := nI_len ha (b := 0) (by decide) h
theorem bI_1 : nI 1 = bI true := rfl
theorem bI_0 : nI 0 = bI false := rfl
theorem bI_z {b : Bool} : bI b = 0 ↔ b = false := by cases b <;> decide
theorem bI_nz {b : Bool} : ¬ bI b = 0 ↔ b = true := by cases b <;> decide
theorem bI_nar (b : Bool) : narrow .boolean (.int (bI b)) = .int (bI b) := by cases b <;> rfl
theorem ca0 : ∀ v ∈ ([] : List Value), v.category = 1 := fun _ h => absurd h List.not_mem_nil
theorem ca1 {v : Value} {l : List Value} (h : v.category = 1) (t : ∀ u ∈ l, u.category = 1) : ∀ u ∈ v :: l, u.category = 1 := List.forall_mem_cons.mpr ⟨h, t⟩
section VROWS2
variable {G : GT} {own : String} {cc : ByteArray} {lev : Nat} {Z : ZT} {σ : Sg} {pc : Nat} {lo : List (Option Value)} {st : List Value}
theorem v_ialdE {i n k : Nat} {j : Int32} (X : Cx G own cc lev Z) (ha : aI i n) (e : j = nI k) (hk : k < n) (d : decode cc pc = .ok (.iaload, 1)) (kk : V G Z σ (pc + 1) lo (.int (σ i k) :: st)) (hn : n ≤ 2048 := by decide) : V G Z σ pc lo (.int j :: .ref (G.2.2.1 i) :: st) := by
  subst e
  have h := v_iald X ha (vp_in_nI hk (by omega)) d (σ := σ) (lo := lo) (st := st)
  rw [nI_clamp (by omega)] at h
  exact h kk
theorem v_zaldE {i n k : Nat} {j : Int32} (X : Cx G own cc lev Z) (ha : aZ i n) (e : j = nI k) (hk : k < n) (d : decode cc pc = .ok (.baload, 1)) (kk : V G Z σ (pc + 1) lo (.int (σ i k) :: st)) (hn : n ≤ 2048 := by decide) : V G Z σ pc lo (.int j :: .ref (G.2.2.1 i) :: st) := by
  subst e
  have h := v_zald X ha (vp_in_nI hk (by omega)) d (σ := σ) (lo := lo) (st := st)
  rw [nI_clamp (by omega)] at h
  exact h kk
theorem v_iastE {i n k : Nat} {j x : Int32} (X : Cx G own cc lev Z) (ha : aI i n) (e : j = nI k) (hk : k < n) (d : decode cc pc = .ok (.iastore, 1)) (kk : V G Z (s2 σ i k x) (pc + 1) lo st) (hn : n ≤ 2048 := by decide) : V G Z σ pc lo (.int x :: .int j :: .ref (G.2.2.1 i) :: st) := by
  subst e
  have h := v_iast (x := x) X ha (vp_in_nI hk (by omega)) d (σ := σ) (lo := lo) (st := st)
  rw [nI_clamp (by omega)] at h
  exact h kk
theorem v_zastE {i n k : Nat} {j x : Int32} (X : Cx G own cc lev Z) (ha : aZ i n) (e : j = nI k) (hk : k < n) (d : decode cc pc = .ok (.bastore, 1)) (hx : vp_nar .boolean x = x) (kk : V G Z (s2 σ i k x) (pc + 1) lo st) (hn : n ≤ 2048 := by decide) : V G Z σ pc lo (.int x :: .int j :: .ref (G.2.2.1 i) :: st) := by
  subst e
  have h := v_zast (x := x) X ha (vp_in_nI hk (by omega)) d hx (σ := σ) (lo := lo) (st := st)
  rw [nI_clamp (by omega)] at h
  exact h kk
theorem v_aaldE {i t n k : Nat} {r : Nat → Nat} {j : Int32} (X : Cx G own cc lev Z) (ha : aR i t n r) (ht : t = 2 ∨ t = 3) (e : j = nI k) (hk : k < n) (d : decode cc pc = .ok (.aaload, 1)) (kk : V G Z σ (pc + 1) lo (.ref (G.2.2.1 (r k)) :: st)) (hn : n ≤ 2048 := by decide) : V G Z σ pc lo (.int j :: .ref (G.2.2.1 i) :: st) := by
  subst e
  have h := v_aald X ha ht (vp_in_nI hk (by omega)) d (σ := σ) (lo := lo) (st := st)
  rw [nI_clamp (by omega)] at h
  exact h kk
theorem v_taldE {k : Nat} {j : Int32} (X : Cx G own cc lev Z) (e : j = nI k) (hk : k < 4) (d : decode cc pc = .ok (.iaload, 1)) (kk : V G Z σ (pc + 1) lo (.int (arow k) :: st)) : V G Z σ pc lo (.int j :: .ref (G.2.2.2 0) :: st) := by
  subst e
  have h := v_tald X (vp_in_nI hk (by omega)) d (σ := σ) (lo := lo) (st := st)
  rw [nI_clamp (by omega)] at h
  exact h kk
theorem v_iincE {k : Nat} {n : Int} {x y : Int32} (X : Cx G own cc lev Z) (d : decode cc pc = .ok (.iinc k n, 3)) (h : lo[k]? = some (some (.int x))) (e : x + Int32.ofInt n = y) (kk : V G Z σ (pc + 3) (lo.set k (some (.int y))) st) : V G Z σ pc lo st := by
  subst e; exact v_iinc X d h kk
theorem v_eq {τ : Sg} (e : σ = τ) (h : V G Z τ pc lo st) : V G Z σ pc lo st := e ▸ h
theorem v_top {x y : Int32} (e : x = y) (h : V G Z σ pc lo (.int y :: st)) : V G Z σ pc lo (.int x :: st) := e ▸ h
theorem v_eqn {a b : Nat} {A B : Prop} (ha : a < 2 ^ 31) (hb : b < 2 ^ 31) (f : a = b → A) : nI a = nI b → A := fun h => f ((nI_eq ha hb).mp h)
end VROWS2
end
section
set_option maxHeartbeats 4000000 in
set_option maxRecDepth 100000 in
theorem c_isAt (G : GT) {σ : Sg} {j : Nat} (hj : j < 20) {k : Nat} (hk : k < 11) (kd a b : Int32) : MC G yX1_isAt cX1_isAt 5 .boolean 0 [.ref (G.2.2.1 (7 * j)), .int (nI k), .int kd, .int a, .int b] σ (fun r τ => τ = σ ∧ r = bI (decide (σ (7 * j + 1) k = kd ∧ σ (7 * j + 2) k = a ∧ σ (7 * j + 3) k = b))) := by
  refine MC_of (by decide) (ca1 rfl (ca1 rfl (ca1 rfl (ca1 rfl (ca1 rfl ca0))))) (Nat.le_of_ble_eq_true rfl) ?_
  intro Z X hR
  show V G Z σ 0 [some (.ref (G.2.2.1 (7 * j))), some (.int (nI k)), some (.int kd), some (.int a), some (.int b)] []
  refine v_aload_n X dX1_isAt_0 rfl ?_
  refine v_getr X fl_X1_19 (shX1_2 (by first | assumption | omega)) dX1_isAt_1 ?_
  refine v_iload_n X dX1_isAt_4 rfl ?_
  refine v_ialdE X (arX1_2 (by first | assumption | omega)) rfl (by first | assumption | omega) dX1_isAt_5 ?_
  refine v_iload_n X dX1_isAt_6 rfl ?_
  refine v_icmp_ne (tgt := 35) X dX1_isAt_7 (by decide) (fun h7 => ?_) (fun h7 => ?_)
  · skip
    refine v_iconst (v := nI 0) X dX1_isAt_35 (by decide) ?_
    refine v_ret X hR dX1_isAt_36 rfl ?_
    exact ⟨rfl, bI_f (fun q => h7 q.1)⟩
  · skip
    refine v_aload_n X dX1_isAt_10 rfl ?_
    refine v_getr X fl_X1_23 (shX1_3 (by first | assumption | omega)) dX1_isAt_11 ?_
    refine v_iload_n X dX1_isAt_14 rfl ?_
    refine v_ialdE X (arX1_3 (by first | assumption | omega)) rfl (by first | assumption | omega) dX1_isAt_15 ?_
    refine v_iload_n X dX1_isAt_16 rfl ?_
    refine v_icmp_ne (tgt := 35) X dX1_isAt_17 (by decide) (fun h17 => ?_) (fun h17 => ?_)
    · skip
      refine v_iconst (v := nI 0) X dX1_isAt_35 (by decide) ?_
      refine v_ret X hR dX1_isAt_36 rfl ?_
      exact ⟨rfl, bI_f (fun q => h17 q.2.1)⟩
    · skip
      refine v_aload_n X dX1_isAt_20 rfl ?_
      refine v_getr X fl_X1_26 (shX1_4 (by first | assumption | omega)) dX1_isAt_21 ?_
      refine v_iload_n X dX1_isAt_24 rfl ?_
      refine v_ialdE X (arX1_4 (by first | assumption | omega)) rfl (by first | assumption | omega) dX1_isAt_25 ?_
      refine v_iload X dX1_isAt_26 rfl ?_
      refine v_icmp_ne (tgt := 35) X dX1_isAt_28 (by decide) (fun h28 => ?_) (fun h28 => ?_)
      · skip
        refine v_iconst (v := nI 0) X dX1_isAt_35 (by decide) ?_
        refine v_ret X hR dX1_isAt_36 rfl ?_
        exact ⟨rfl, bI_f (fun q => h28 q.2.2)⟩
      · skip
        refine v_iconst (v := nI 1) X dX1_isAt_31 (by decide) ?_
        refine v_goto (tgt := 36) X dX1_isAt_32 (by decide) ?_
        refine v_ret X hR dX1_isAt_36 rfl ?_
        exact ⟨rfl, bI_t ⟨h7, h17, h28⟩⟩

set_option maxHeartbeats 4000000 in
set_option maxRecDepth 100000 in
theorem c_hasPart (G : GT) {σ : Sg} {j : Nat} (hj : j < 20) (k : Int32) : MC G yX1_hasPart cX1_hasPart 2 .boolean 0 [.ref (G.2.2.1 (7 * j)), .int k] σ (fun r τ => τ = σ ∧ r = bI (decide (¬ k < 0 ∧ ¬ σ (7 * j) 0 ≤ k))) := by
  refine MC_of (by decide) (ca1 rfl (ca1 rfl ca0)) (Nat.le_of_ble_eq_true rfl) ?_
  intro Z X hR
  show V G Z σ 0 [some (.ref (G.2.2.1 (7 * j))), some (.int k)] []
  refine v_iload_n X dX1_hasPart_0 rfl ?_
  refine v_if_lt (tgt := 16) X dX1_hasPart_1 (by decide) (fun h1 => ?_) (fun h1 => ?_)
  · skip
    refine v_iconst (v := nI 0) X dX1_hasPart_16 (by decide) ?_
    refine v_ret X hR dX1_hasPart_17 rfl ?_
    exact ⟨rfl, bI_f (fun q => q.1 h1)⟩
  · skip
    refine v_iload_n X dX1_hasPart_4 rfl ?_
    refine v_aload_n X dX1_hasPart_5 rfl ?_
    refine v_geti X fl_X1_9 (shX1_0 (by first | assumption | omega)) dX1_hasPart_6 ?_
    refine v_icmp_ge (tgt := 16) X dX1_hasPart_9 (by decide) (fun h9 => ?_) (fun h9 => ?_)
    · skip
      refine v_iconst (v := nI 0) X dX1_hasPart_16 (by decide) ?_
      refine v_ret X hR dX1_hasPart_17 rfl ?_
      exact ⟨rfl, bI_f (fun q => q.2 h9)⟩
    · skip
      refine v_iconst (v := nI 1) X dX1_hasPart_12 (by decide) ?_
      refine v_goto (tgt := 17) X dX1_hasPart_13 (by decide) ?_
      refine v_ret X hR dX1_hasPart_17 rfl ?_
      exact ⟨rfl, bI_t ⟨h1, h9⟩⟩

set_option maxHeartbeats 4000000 in
set_option maxRecDepth 100000 in
theorem c_root (G : GT) {σ : Sg} {j : Nat} (hj : j < 20) : MC G yX1_root cX1_root 1 .int 0 [.ref (G.2.2.1 (7 * j))] σ (fun r τ => τ = σ ∧ r = σ (7 * j) 0 - nI 1) := by
  refine MC_of (by decide) (ca1 rfl ca0) (Nat.le_of_ble_eq_true rfl) ?_
  intro Z X hR
  show V G Z σ 0 [some (.ref (G.2.2.1 (7 * j)))] []
  refine v_aload_n X dX1_root_0 rfl ?_
  refine v_geti X fl_X1_9 (shX1_0 (by first | assumption | omega)) dX1_root_1 ?_
  refine v_iconst (v := nI 1) X dX1_root_4 (by decide) ?_
  refine v_isub X dX1_root_5 ?_
  refine v_ret X hR dX1_root_6 rfl ?_
  exact ⟨rfl, rfl⟩

set_option maxHeartbeats 4000000 in
set_option maxRecDepth 100000 in
theorem c_clear (G : GT) {σ : Sg} {j : Nat} (hj : j < 20) : MV G yX1_clear cX1_clear 1 0 [.ref (G.2.2.1 (7 * j))] σ (fun τ => τ = s2 (s2 σ (7 * j) 0 (nI 0)) (7 * j) 1 (nI 0)) := by
  refine MV_of (by decide) (ca1 rfl ca0) (Nat.le_of_ble_eq_true rfl) ?_
  intro Z X hR
  show V G Z σ 0 [some (.ref (G.2.2.1 (7 * j)))] []
  refine v_aload_n X dX1_clear_0 rfl ?_
  refine v_iconst (v := nI 0) X dX1_clear_1 (by decide) ?_
  refine v_puti X fw_X1_9 (shX1_0 (by first | assumption | omega)) dX1_clear_2 rfl rfl ?_
  refine v_aload_n X dX1_clear_5 rfl ?_
  refine v_iconst (v := nI 0) X dX1_clear_6 (by decide) ?_
  refine v_puti X fw_X1_15 (shX1_1 (by first | assumption | omega)) dX1_clear_7 rfl rfl ?_
  refine v_vret X hR dX1_clear_10 ?_
  rfl
end
section
set_option maxHeartbeats 4000000 in
set_option maxRecDepth 100000 in
theorem c_sameAs (G : GT) {σ : Sg} {j i : Nat} (hj : j < 20) (hi : i < 20) {P Q : Sen} (hP : hs σ j P) (hQ : hs σ i Q) : MC G yX1_sameAs cX1_sameAs 3 .boolean 1 [.ref (G.2.2.1 (7 * j)), .ref (G.2.2.1 (7 * i))] σ (fun r τ => τ = σ ∧ r = bI (decide (P = Q))) := by
  refine MC_of (by decide) (ca1 rfl (ca1 rfl ca0)) (Nat.le_of_ble_eq_true rfl) ?_
  intro Z X hR
  show V G Z σ 0 [some (.ref (G.2.2.1 (7 * j))), some (.ref (G.2.2.1 (7 * i))), none] []
  obtain ⟨p1, p2, p3, p4, -⟩ := hP
  obtain ⟨q1, q2, q3, q4, -⟩ := hQ
  have loop : ∀ (n k : Nat), P.length - k < n → k ≤ P.length → P.length = Q.length → (∀ x, x < k → P[x]? = Q[x]?) → V G Z σ 15 [some (.ref (G.2.2.1 (7 * j))), some (.ref (G.2.2.1 (7 * i))), some (.int (nI k))] [] := by
    intro n
    induction n with
    | zero => intro k h; omega
    | succ n ih =>
      intro k hn hkl hpq hin
      refine v_iload_n X dX1_sameAs_15 rfl ?_
      refine v_aload_n X dX1_sameAs_16 rfl ?_
      refine v_geti X fl_X1_9 (shX1_0 (by first | assumption | omega)) dX1_sameAs_17 ?_
      refine v_top p3 ?_
      refine v_icmp_ge (tgt := 57) X dX1_sameAs_20 (by decide) (fun h20 => ?_) (fun h20 => ?_)
      · skip
        have hk := nI_lem (by omega) (by omega) h20
        refine v_iconst (v := nI 1) X dX1_sameAs_57 (by decide) ?_
        refine v_ret X hR dX1_sameAs_58 rfl ?_
        refine ⟨rfl, bI_t (List.ext_getElem? (fun x => ?_))⟩
        rcases Nat.lt_or_ge x k with h | h
        · exact hin x h
        · rw [List.getElem?_eq_none (by omega), List.getElem?_eq_none (by omega)]
      · skip
        have hk := nI_len (by omega) (by omega) h20
        have hk11 : k < 11 := by omega
        refine v_aload_n X dX1_sameAs_23 rfl ?_
        refine v_iload_n X dX1_sameAs_24 rfl ?_
        refine v_aload_n X dX1_sameAs_25 rfl ?_
        refine v_getr X fl_X1_19 (shX1_2 (by first | assumption | omega)) dX1_sameAs_26 ?_
        refine v_iload_n X dX1_sameAs_29 rfl ?_
        refine v_ialdE X (arX1_2 (by first | assumption | omega)) rfl (by first | assumption | omega) dX1_sameAs_30 ?_
        refine v_aload_n X dX1_sameAs_31 rfl ?_
        refine v_getr X fl_X1_23 (shX1_3 (by first | assumption | omega)) dX1_sameAs_32 ?_
        refine v_iload_n X dX1_sameAs_35 rfl ?_
        refine v_ialdE X (arX1_3 (by first | assumption | omega)) rfl (by first | assumption | omega) dX1_sameAs_36 ?_
        refine v_aload_n X dX1_sameAs_37 rfl ?_
        refine v_getr X fl_X1_26 (shX1_4 (by first | assumption | omega)) dX1_sameAs_38 ?_
        refine v_iload_n X dX1_sameAs_41 rfl ?_
        refine v_ialdE X (arX1_4 (by first | assumption | omega)) rfl (by first | assumption | omega) dX1_sameAs_42 ?_
        refine v_cali X (c_isAt G hj hk11 _ _ _) cv_X1_38 (obX1 (by first | assumption | omega)) rfl (by decide) rfl (by rfl) (Nat.le_of_ble_eq_true rfl) dX1_sameAs_43 (fun r τ hp => ?_)
        obtain ⟨rfl, rfl⟩ := hp
        obtain ⟨p, hp⟩ : ∃ p, P[k]? = some p := ⟨P[k], List.getElem?_eq_getElem hk⟩
        obtain ⟨q, hq⟩ : ∃ q, Q[k]? = some q := ⟨Q[k]'(by omega), List.getElem?_eq_getElem (by omega)⟩
        obtain ⟨a1, a2, a3⟩ := p4 k p hp
        obtain ⟨b1, b2, b3⟩ := q4 k q hq
        rw [a1, a2, a3, b1, b2, b3]
        have hpe := pt_eq (p2 k p hp) (q2 k q hq) (by omega)
        refine v_if_ne (tgt := 51) X dX1_sameAs_46 (by decide) (fun h46 => ?_) (fun h46 => ?_)
        · skip
          have e : p = q := by
            have := bI_nz.mp h46
            exact hpe.mp (of_decide_eq_true this)
          refine v_iincE X dX1_sameAs_51 rfl (nI_inc k) ?_
          show V G Z _ 54 [_, _, _] _
          refine v_goto (tgt := 15) X dX1_sameAs_54 (by decide) ?_
          exact ih (k + 1) (by omega) (by omega) hpq (fun x hx => by
            rcases Nat.lt_or_ge x k with h | h
            · exact hin x h
            · rw [show x = k by omega, hp, hq, e])
        · skip
          have e : ¬ p = q := by
            have := bI_z.mp h46
            exact fun z => of_decide_eq_false this (hpe.mpr z)
          refine v_iconst (v := nI 0) X dX1_sameAs_49 (by decide) ?_
          refine v_ret X hR dX1_sameAs_50 rfl ?_
          refine ⟨rfl, bI_f (fun z => e ?_)⟩
          rw [z, hq] at hp
          exact (Option.some.inj hp).symm
  refine v_aload_n X dX1_sameAs_0 rfl ?_
  refine v_geti X fl_X1_9 (shX1_0 (by first | assumption | omega)) dX1_sameAs_1 ?_
  refine v_aload_n X dX1_sameAs_4 rfl ?_
  refine v_geti X fl_X1_9 (shX1_0 (by first | assumption | omega)) dX1_sameAs_5 ?_
  refine v_top q3 ?_
  rw [p3]
  refine v_icmp_eq (tgt := 13) X dX1_sameAs_8 (by decide) (fun h8 => ?_) (fun h8 => ?_)
  · skip
    have hl := nI_eqm (by omega) (by omega) h8
    refine v_iconst (v := nI 0) X dX1_sameAs_13 (by decide) ?_
    refine v_istore_n X dX1_sameAs_14 (Nat.le_of_ble_eq_true rfl) ?_
    show V G Z _ 15 [_, _, _] _
    exact loop (P.length + 1) 0 (by omega) (by omega) hl (fun x h => by omega)
  · skip
    have hl := nI_eqn (by omega) (by omega) h8
    refine v_iconst (v := nI 0) X dX1_sameAs_11 (by decide) ?_
    refine v_ret X hR dX1_sameAs_12 rfl ?_
    exact ⟨rfl, bI_f (fun e => hl (by rw [e]))⟩
end
section
theorem bI_fit (b : Bool) : fits .boolean (.int (bI b)) = true := by cases b <;> rfl
theorem idx_first {P : Sen} {q : Pt} : ∀ {k : Nat}, P[k]? = some q → (∀ x, x < k → P[x]? ≠ some q) → P.idxOf q = k := by
  induction P with
  | nil => intro k h; simp at h
  | cons p P ih =>
    intro k h hn
    cases k with
    | zero =>
      have : p = q := by simpa using h
      simp [this, List.idxOf_cons]
    | succ k =>
      have hpq : ¬ p = q := by
        have := hn 0 (by omega)
        simpa using this
      rw [List.getElem?_cons_succ] at h
      have := ih h (fun x hx => by
        have := hn (x + 1) (by omega)
        rwa [List.getElem?_cons_succ] at this)
      rw [List.idxOf_cons, this, beq_false_of_ne hpq]
      rfl
theorem not_mem_of {P : Sen} {q : Pt} (h : ∀ x, x < P.length → P[x]? ≠ some q) : q ∉ P := by
  intro hm
  obtain ⟨k, hk⟩ := List.getElem?_of_mem hm
  exact h k (List.getElem?_eq_some_iff.mp hk).1 hk
set_option maxHeartbeats 4000000 in
set_option maxRecDepth 100000 in
theorem c_copyFrom (G : GT) {σ : Sg} {j i : Nat} (hj : j < 20) (hi : i < 20) (hij : i ≠ j) {P : Sen} (hP : hs σ i P) {lg : Bool} (hl : σ (7 * i) 1 = bI lg) : MV G yX1_copyFrom cX1_copyFrom 3 0 [.ref (G.2.2.1 (7 * j)), .ref (G.2.2.1 (7 * i))] σ (fun τ => offS j σ τ ∧ hs τ j P ∧ τ (7 * j) 1 = bI lg ∧ τ (7 * j + 6) = σ (7 * j + 6)) := by
  refine MV_of (by decide) (ca1 rfl (ca1 rfl ca0)) (Nat.le_of_ble_eq_true rfl) ?_
  intro Z X hR
  show V G Z σ 0 [some (.ref (G.2.2.1 (7 * j))), some (.ref (G.2.2.1 (7 * i))), none] []
  obtain ⟨p1, p2, p3, p4, p5⟩ := hP
  have loop : ∀ (n k : Nat) (τ : Sg), P.length - k < n → k ≤ P.length → (offS j σ τ ∧ τ (7 * j) 0 = nI P.length ∧ τ (7 * j) 1 = σ (7 * i) 1 ∧ τ (7 * j + 6) = σ (7 * j + 6) ∧ ∀ x, x < k → τ (7 * j + 1) x = σ (7 * i + 1) x ∧ τ (7 * j + 2) x = σ (7 * i + 2) x ∧ τ (7 * j + 3) x = σ (7 * i + 3) x ∧ τ (7 * j + 4) x = σ (7 * i + 4) x ∧ τ (7 * j + 5) x = σ (7 * i + 5) x) → V G Z τ 18 [some (.ref (G.2.2.1 (7 * j))), some (.ref (G.2.2.1 (7 * i))), some (.int (nI k))] [] := by
    intro n
    induction n with
    | zero => intro k τ h; omega
    | succ n ih =>
      intro k τ hn hkl hinv
      obtain ⟨i1, i2, i3, i4, i5⟩ := hinv
      have rd : ∀ q, q < 7 → τ (7 * i + q) = σ (7 * i + q) := fun q hq => i1 _ (by omega)
      have rd0 : τ (7 * i) 0 = nI P.length := by rw [i1 (7 * i) (by omega)]; exact p3
      refine v_iload_n X dX1_copyFrom_18 rfl ?_
      refine v_aload_n X dX1_copyFrom_19 rfl ?_
      refine v_geti X fl_X1_9 (shX1_0 (by first | assumption | omega)) dX1_copyFrom_20 ?_
      refine v_top rd0 ?_
      refine v_icmp_ge (tgt := 92) X dX1_copyFrom_23 (by decide) (fun h23 => ?_) (fun h23 => ?_)
      · skip
        have hk := nI_lem (by omega) (by omega) h23
        refine v_vret X hR dX1_copyFrom_92 ?_
        refine ⟨i1, ⟨p1, p2, i2, fun x p hx => ?_, fun x hx => ?_⟩, by rw [i3]; exact hl, i4⟩
        · obtain ⟨a1, a2, a3, -⟩ := i5 x (by have := (List.getElem?_eq_some_iff.mp hx).1; omega)
          rw [a1, a2, a3]
          exact p4 x p hx
        · obtain ⟨-, -, -, a4, a5⟩ := i5 x (by omega)
          rw [a4, a5]
          exact p5 x hx
      · skip
        have hk := nI_len (by omega) (by omega) h23
        refine v_aload_n X dX1_copyFrom_26 rfl ?_
        refine v_getr X fl_X1_19 (shX1_2 (by first | assumption | omega)) dX1_copyFrom_27 ?_
        refine v_iload_n X dX1_copyFrom_30 rfl ?_
        refine v_aload_n X dX1_copyFrom_31 rfl ?_
        refine v_getr X fl_X1_19 (shX1_2 (by first | assumption | omega)) dX1_copyFrom_32 ?_
        refine v_iload_n X dX1_copyFrom_35 rfl ?_
        refine v_ialdE X (arX1_2 (by first | assumption | omega)) rfl (by first | assumption | omega) dX1_copyFrom_36 ?_
        refine v_top (y := σ (7 * i + 1) k) (by (repeat rw [s2_nc (by omega)]); rw [rd 1 (by decide)]) ?_
        refine v_iastE X (arX1_2 (by first | assumption | omega)) rfl (by first | assumption | omega) dX1_copyFrom_37 ?_
        refine v_aload_n X dX1_copyFrom_38 rfl ?_
        refine v_getr X fl_X1_23 (shX1_3 (by first | assumption | omega)) dX1_copyFrom_39 ?_
        refine v_iload_n X dX1_copyFrom_42 rfl ?_
        refine v_aload_n X dX1_copyFrom_43 rfl ?_
        refine v_getr X fl_X1_23 (shX1_3 (by first | assumption | omega)) dX1_copyFrom_44 ?_
        refine v_iload_n X dX1_copyFrom_47 rfl ?_
        refine v_ialdE X (arX1_3 (by first | assumption | omega)) rfl (by first | assumption | omega) dX1_copyFrom_48 ?_
        refine v_top (y := σ (7 * i + 2) k) (by (repeat rw [s2_nc (by omega)]); rw [rd 2 (by decide)]) ?_
        refine v_iastE X (arX1_3 (by first | assumption | omega)) rfl (by first | assumption | omega) dX1_copyFrom_49 ?_
        refine v_aload_n X dX1_copyFrom_50 rfl ?_
        refine v_getr X fl_X1_26 (shX1_4 (by first | assumption | omega)) dX1_copyFrom_51 ?_
        refine v_iload_n X dX1_copyFrom_54 rfl ?_
        refine v_aload_n X dX1_copyFrom_55 rfl ?_
        refine v_getr X fl_X1_26 (shX1_4 (by first | assumption | omega)) dX1_copyFrom_56 ?_
        refine v_iload_n X dX1_copyFrom_59 rfl ?_
        refine v_ialdE X (arX1_4 (by first | assumption | omega)) rfl (by first | assumption | omega) dX1_copyFrom_60 ?_
        refine v_top (y := σ (7 * i + 3) k) (by (repeat rw [s2_nc (by omega)]); rw [rd 3 (by decide)]) ?_
        refine v_iastE X (arX1_4 (by first | assumption | omega)) rfl (by first | assumption | omega) dX1_copyFrom_61 ?_
        refine v_aload_n X dX1_copyFrom_62 rfl ?_
        refine v_getr X fl_X1_29 (shX1_5 (by first | assumption | omega)) dX1_copyFrom_63 ?_
        refine v_iload_n X dX1_copyFrom_66 rfl ?_
        refine v_aload_n X dX1_copyFrom_67 rfl ?_
        refine v_getr X fl_X1_29 (shX1_5 (by first | assumption | omega)) dX1_copyFrom_68 ?_
        refine v_iload_n X dX1_copyFrom_71 rfl ?_
        refine v_ialdE X (arX1_5 (by first | assumption | omega)) rfl (by first | assumption | omega) dX1_copyFrom_72 ?_
        refine v_top (y := σ (7 * i + 4) k) (by (repeat rw [s2_nc (by omega)]); rw [rd 4 (by decide)]) ?_
        refine v_iastE X (arX1_5 (by first | assumption | omega)) rfl (by first | assumption | omega) dX1_copyFrom_73 ?_
        refine v_aload_n X dX1_copyFrom_74 rfl ?_
        refine v_getr X fl_X1_32 (shX1_6 (by first | assumption | omega)) dX1_copyFrom_75 ?_
        refine v_iload_n X dX1_copyFrom_78 rfl ?_
        refine v_aload_n X dX1_copyFrom_79 rfl ?_
        refine v_getr X fl_X1_32 (shX1_6 (by first | assumption | omega)) dX1_copyFrom_80 ?_
        refine v_iload_n X dX1_copyFrom_83 rfl ?_
        refine v_ialdE X (arX1_6 (by first | assumption | omega)) rfl (by first | assumption | omega) dX1_copyFrom_84 ?_
        refine v_top (y := σ (7 * i + 5) k) (by (repeat rw [s2_nc (by omega)]); rw [rd 5 (by decide)]) ?_
        refine v_iastE X (arX1_6 (by first | assumption | omega)) rfl (by first | assumption | omega) dX1_copyFrom_85 ?_
        refine v_iincE X dX1_copyFrom_86 rfl (nI_inc k) ?_
        show V G Z _ 89 [_, _, _] _
        refine v_goto (tgt := 18) X dX1_copyFrom_89 (by decide) ?_
        refine ih (k + 1) _ (by omega) (by omega) ⟨?_, ?_, ?_, ?_, ?_⟩
        · exact ((((i1.s2 (by omega) (by omega)).s2 (by omega) (by omega)).s2 (by omega) (by omega)).s2 (by omega) (by omega)).s2 (by omega) (by omega)
        · repeat rw [s2_nc (by omega)]
          exact i2
        · repeat rw [s2_nc (by omega)]
          exact i3
        · repeat rw [s2_nc (by omega)]
          exact i4
        · intro x hx
          simp only [s2_ap]
          rcases Nat.lt_or_ge x k with h | h
          · have hne : x ≠ k := by omega
            simp only [hne, and_false, if_false]
            exact i5 x h
          · have he : x = k := by omega
            subst he
            refine ⟨?_, ?_, ?_, ?_, ?_⟩ <;> simp
  refine v_aload_n X dX1_copyFrom_0 rfl ?_
  refine v_aload_n X dX1_copyFrom_1 rfl ?_
  refine v_geti X fl_X1_9 (shX1_0 (by first | assumption | omega)) dX1_copyFrom_2 ?_
  refine v_top p3 ?_
  refine v_puti X fw_X1_9 (shX1_0 (by first | assumption | omega)) dX1_copyFrom_5 rfl rfl ?_
  refine v_aload_n X dX1_copyFrom_8 rfl ?_
  refine v_aload_n X dX1_copyFrom_9 rfl ?_
  refine v_geti X fl_X1_15 (shX1_1 (by first | assumption | omega)) dX1_copyFrom_10 ?_
  refine v_top (y := bI lg) (by rw [s2_nc (by omega)]; exact hl) ?_
  refine v_puti X fw_X1_15 (shX1_1 (by first | assumption | omega)) dX1_copyFrom_13 (bI_nar lg) (bI_fit lg) ?_
  refine v_iconst (v := nI 0) X dX1_copyFrom_16 (by decide) ?_
  refine v_istore_n X dX1_copyFrom_17 (Nat.le_of_ble_eq_true rfl) ?_
  show V G Z _ 18 [_, _, _] _
  refine loop (P.length + 1) 0 _ (by omega) (by omega) ⟨?_, ?_, ?_, ?_, fun x h => by omega⟩
  · exact ((offS.rfl.s2 (by omega) (by omega)).s2 (by omega) (by omega))
  · simp [s2_ap]
  · rw [s2_at, hl]
  · repeat rw [s2_nc (by omega)]
set_option maxHeartbeats 4000000 in
set_option maxRecDepth 100000 in
theorem c_canStand (G : GT) {σ : Sg} {j : Nat} (hj : j < 20) {n : Nat} (hn : n ≤ 11) (hz : σ (7 * j) 0 = nI n) {q : Pt} (hq : okp n q) : MC G yX1_canStand cX1_canStand 4 .boolean 0 [.ref (G.2.2.1 (7 * j)), .int (pK q), .int (pA q), .int (pB q)] σ (fun r τ => τ = σ ∧ r = nI 1) := by
  refine MC_of (by decide) (ca1 rfl (ca1 rfl (ca1 rfl (ca1 rfl ca0)))) (Nat.le_of_ble_eq_true rfl) ?_
  intro Z X hR
  show V G Z σ 0 [some (.ref (G.2.2.1 (7 * j))), some (.int (pK q)), some (.int (pA q)), some (.int (pB q))] []
  obtain ⟨t, a, b⟩ := q
  rcases hq with ⟨h0, ha, hb⟩ | ⟨h0, ha, hb⟩ | ⟨h1, h2, ha, hb⟩
  · simp only at h0 ha hb
    subst h0; subst hb
    show V G Z σ 0 [some (.ref (G.2.2.1 (7 * j))), some (.int (nI 0)), some (.int (nI a)), some (.int (-6))] []
    refine v_iload_n X dX1_canStand_0 rfl ?_
    refine v_lookup (off := 27) (tgt := 28) X dX1_canStand_1 (by decide) (by decide) (by decide) ?_
    refine v_iload_n X dX1_canStand_28 rfl ?_
    refine v_if_lt (tgt := 44) X dX1_canStand_29 (by decide) (fun h29 => ?_) (fun h29 => ?_)
    · skip
      exact absurd h29 (nI_pos (by omega))
    · skip
      refine v_iload_n X dX1_canStand_32 rfl ?_
      refine v_atoms X fs_X1_50 dX1_canStand_33 ?_
      refine v_tlen X dX1_canStand_36 ?_
      refine v_icmp_ge (tgt := 44) X dX1_canStand_37 (by decide) (fun h37 => ?_) (fun h37 => ?_)
      · skip
        exact absurd (nI_lem (a := 4) (by decide) (by omega) h37) (by omega)
      · skip
        refine v_iconst (v := nI 1) X dX1_canStand_40 (by decide) ?_
        refine v_goto (tgt := 45) X dX1_canStand_41 (by decide) ?_
        refine v_ret X hR dX1_canStand_45 rfl ?_
        exact ⟨rfl, rfl⟩
  · simp only at h0 ha hb
    subst h0; subst ha; subst hb
    show V G Z σ 0 [some (.ref (G.2.2.1 (7 * j))), some (.int (nI 1)), some (.int (-6)), some (.int (-6))] []
    refine v_iload_n X dX1_canStand_0 rfl ?_
    refine v_lookup (off := 45) (tgt := 46) X dX1_canStand_1 (by decide) (by decide) (by decide) ?_
    refine v_iconst (v := nI 1) X dX1_canStand_46 (by decide) ?_
    refine v_ret X hR dX1_canStand_47 rfl ?_
    exact ⟨rfl, rfl⟩
  · simp only at h1 h2 ha hb
    have e1 : pA (t, a, b) = nI a := if_neg (show ¬ t = 1 by omega)
    have e2 : pB (t, a, b) = nI b := if_neg (show ¬ t < 2 by omega)
    have e0 : pK (t, a, b) = nI t := rfl
    rw [e0, e1, e2]
    have ht : t = 2 ∨ t = 3 ∨ t = 4 := by omega
    refine v_iload_n X dX1_canStand_0 rfl ?_
    refine v_lookup (off := 47) (tgt := 48) X dX1_canStand_1 (by decide) (by rcases ht with rfl | rfl | rfl <;> decide) (by decide) ?_
    refine v_iload_n X dX1_canStand_48 rfl ?_
    refine v_if_lt (tgt := 76) X dX1_canStand_49 (by decide) (fun h49 => ?_) (fun h49 => ?_)
    · skip
      exact absurd h49 (nI_pos (by omega))
    · skip
      refine v_iload_n X dX1_canStand_52 rfl ?_
      refine v_aload_n X dX1_canStand_53 rfl ?_
      refine v_geti X fl_X1_9 (shX1_0 (by first | assumption | omega)) dX1_canStand_54 ?_
      refine v_top hz ?_
      refine v_icmp_ge (tgt := 76) X dX1_canStand_57 (by decide) (fun h57 => ?_) (fun h57 => ?_)
      · skip
        exact absurd (nI_lem (by omega) (by omega) h57) (by omega)
      · skip
        refine v_iload_n X dX1_canStand_60 rfl ?_
        refine v_if_lt (tgt := 76) X dX1_canStand_61 (by decide) (fun h61 => ?_) (fun h61 => ?_)
        · skip
          exact absurd h61 (nI_pos (by omega))
        · skip
          refine v_iload_n X dX1_canStand_64 rfl ?_
          refine v_aload_n X dX1_canStand_65 rfl ?_
          refine v_geti X fl_X1_9 (shX1_0 (by first | assumption | omega)) dX1_canStand_66 ?_
          refine v_top hz ?_
          refine v_icmp_ge (tgt := 76) X dX1_canStand_69 (by decide) (fun h69 => ?_) (fun h69 => ?_)
          · skip
            exact absurd (nI_lem (by omega) (by omega) h69) (by omega)
          · skip
            refine v_iconst (v := nI 1) X dX1_canStand_72 (by decide) ?_
            refine v_goto (tgt := 77) X dX1_canStand_73 (by decide) ?_
            refine v_ret X hR dX1_canStand_77 rfl ?_
            exact ⟨rfl, rfl⟩
end
section
set_option maxHeartbeats 4000000 in
set_option maxRecDepth 100000 in
theorem c_rowsOf (G : GT) {σ : Sg} {j : Nat} (hj : j < 20) {P : Sen} (hP : hs σ j P) {q : Pt} (hq : okp P.length q) : MC G yX1_rowsOf cX1_rowsOf 4 .int 0 [.ref (G.2.2.1 (7 * j)), .int (pK q), .int (pA q), .int (pB q)] σ (fun r τ => τ = σ ∧ r = rwV (rwL P) q) := by
  refine MC_of (by decide) (ca1 rfl (ca1 rfl (ca1 rfl (ca1 rfl ca0)))) (Nat.le_of_ble_eq_true rfl) ?_
  intro Z X hR
  show V G Z σ 0 [some (.ref (G.2.2.1 (7 * j))), some (.int (pK q)), some (.int (pA q)), some (.int (pB q))] []
  obtain ⟨p1, p2, p3, p4, p5⟩ := hP
  obtain ⟨t, a, b⟩ := q
  rcases hq with ⟨h0, ha, hb⟩ | ⟨h0, ha, hb⟩ | ⟨h1, h2, ha, hb⟩
  · simp only at h0 ha hb
    subst h0; subst hb
    show V G Z σ 0 [some (.ref (G.2.2.1 (7 * j))), some (.int (nI 0)), some (.int (nI a)), some (.int (-6))] []
    refine v_iload_n X dX1_rowsOf_0 rfl ?_
    refine v_tabIn (off := 35) (tgt := 36) X dX1_rowsOf_1 (by decide) (by decide) (by decide) (by decide) ?_
    refine v_atoms X fs_X1_50 dX1_rowsOf_36 ?_
    refine v_iload_n X dX1_rowsOf_39 rfl ?_
    refine v_taldE X rfl (by first | assumption | omega) dX1_rowsOf_40 ?_
    refine v_ret X hR dX1_rowsOf_41 rfl ?_
    exact ⟨rfl, rfl⟩
  · simp only at h0 ha hb
    subst h0; subst ha; subst hb
    show V G Z σ 0 [some (.ref (G.2.2.1 (7 * j))), some (.int (nI 1)), some (.int (-6)), some (.int (-6))] []
    refine v_iload_n X dX1_rowsOf_0 rfl ?_
    refine v_tabIn (off := 88) (tgt := 89) X dX1_rowsOf_1 (by decide) (by decide) (by decide) (by decide) ?_
    refine v_iconst (v := nI 0) X dX1_rowsOf_89 (by decide) ?_
    refine v_ret X hR dX1_rowsOf_90 rfl ?_
    exact ⟨rfl, rfl⟩
  · simp only at h1 h2 ha hb
    have e1 : pA (t, a, b) = nI a := if_neg (show ¬ t = 1 by omega)
    have e2 : pB (t, a, b) = nI b := if_neg (show ¬ t < 2 by omega)
    have e0 : pK (t, a, b) = nI t := rfl
    rw [e0, e1, e2]
    have ra := (p5 a ha).2
    have rb := (p5 b hb).2
    have ht : t = 2 ∨ t = 3 ∨ t = 4 := by omega
    rcases ht with rfl | rfl | rfl
    · skip
      refine v_iload_n X dX1_rowsOf_0 rfl ?_
      refine v_tabIn (off := 41) (tgt := 42) X dX1_rowsOf_1 (by decide) (by decide) (by decide) (by decide) ?_
      refine v_aload_n X dX1_rowsOf_42 rfl ?_
      refine v_getr X fl_X1_32 (shX1_6 (by first | assumption | omega)) dX1_rowsOf_43 ?_
      refine v_iload_n X dX1_rowsOf_46 rfl ?_
      refine v_ialdE X (arX1_6 (by first | assumption | omega)) rfl (by first | assumption | omega) dX1_rowsOf_47 ?_
      refine v_aload_n X dX1_rowsOf_48 rfl ?_
      refine v_getr X fl_X1_32 (shX1_6 (by first | assumption | omega)) dX1_rowsOf_49 ?_
      refine v_iload_n X dX1_rowsOf_52 rfl ?_
      refine v_ialdE X (arX1_6 (by first | assumption | omega)) rfl (by first | assumption | omega) dX1_rowsOf_53 ?_
      refine v_iand X dX1_rowsOf_54 ?_
      refine v_ret X hR dX1_rowsOf_55 rfl ?_
      exact ⟨rfl, by rw [ra, rb]; rfl⟩
    · skip
      refine v_iload_n X dX1_rowsOf_0 rfl ?_
      refine v_tabIn (off := 55) (tgt := 56) X dX1_rowsOf_1 (by decide) (by decide) (by decide) (by decide) ?_
      refine v_aload_n X dX1_rowsOf_56 rfl ?_
      refine v_getr X fl_X1_32 (shX1_6 (by first | assumption | omega)) dX1_rowsOf_57 ?_
      refine v_iload_n X dX1_rowsOf_60 rfl ?_
      refine v_ialdE X (arX1_6 (by first | assumption | omega)) rfl (by first | assumption | omega) dX1_rowsOf_61 ?_
      refine v_aload_n X dX1_rowsOf_62 rfl ?_
      refine v_getr X fl_X1_32 (shX1_6 (by first | assumption | omega)) dX1_rowsOf_63 ?_
      refine v_iload_n X dX1_rowsOf_66 rfl ?_
      refine v_ialdE X (arX1_6 (by first | assumption | omega)) rfl (by first | assumption | omega) dX1_rowsOf_67 ?_
      refine v_ior X dX1_rowsOf_68 ?_
      refine v_ret X hR dX1_rowsOf_69 rfl ?_
      exact ⟨rfl, by rw [ra, rb]; rfl⟩
    · skip
      refine v_iload_n X dX1_rowsOf_0 rfl ?_
      refine v_tabIn (off := 69) (tgt := 70) X dX1_rowsOf_1 (by decide) (by decide) (by decide) (by decide) ?_
      refine v_aload_n X dX1_rowsOf_70 rfl ?_
      refine v_getr X fl_X1_32 (shX1_6 (by first | assumption | omega)) dX1_rowsOf_71 ?_
      refine v_iload_n X dX1_rowsOf_74 rfl ?_
      refine v_ialdE X (arX1_6 (by first | assumption | omega)) rfl (by first | assumption | omega) dX1_rowsOf_75 ?_
      refine v_iconst (v := (-1)) X dX1_rowsOf_76 (by decide) ?_
      refine v_ixor X dX1_rowsOf_77 ?_
      refine v_ldci X ck_X1_53 dX1_rowsOf_78 ?_
      refine v_iand X dX1_rowsOf_80 ?_
      refine v_aload_n X dX1_rowsOf_81 rfl ?_
      refine v_getr X fl_X1_32 (shX1_6 (by first | assumption | omega)) dX1_rowsOf_82 ?_
      refine v_iload_n X dX1_rowsOf_85 rfl ?_
      refine v_ialdE X (arX1_6 (by first | assumption | omega)) rfl (by first | assumption | omega) dX1_rowsOf_86 ?_
      refine v_ior X dX1_rowsOf_87 ?_
      refine v_ret X hR dX1_rowsOf_88 rfl ?_
      exact ⟨rfl, by rw [ra, rb]; rfl⟩
theorem hs_snoc {σ τ : Sg} {j : Nat} {P : Sen} {q : Pt} (hP : hs σ j P) (hl : P.length < 11) (hq : okp P.length q) (h0 : τ (7 * j) 0 = nI (P.length + 1))
    (hx : ∀ x, x < P.length → τ (7 * j + 1) x = σ (7 * j + 1) x ∧ τ (7 * j + 2) x = σ (7 * j + 2) x ∧ τ (7 * j + 3) x = σ (7 * j + 3) x ∧ τ (7 * j + 4) x = σ (7 * j + 4) x ∧ τ (7 * j + 5) x = σ (7 * j + 5) x)
    (h1 : τ (7 * j + 1) P.length = pK q) (h2 : τ (7 * j + 2) P.length = pA q) (h3 : τ (7 * j + 3) P.length = pB q) (h4 : τ (7 * j + 4) P.length = nI (if q.1 < 2 then 1 else (lnL P).getD q.2.1 0 + (lnL P).getD q.2.2 0 + 3)) (h5 : τ (7 * j + 5) P.length = rwV (rwL P) q) : hs τ j (P ++ [q]) := by
  obtain ⟨p1, p2, p3, p4, p5⟩ := hP
  have hlen : (P ++ [q]).length = P.length + 1 := by simp
  refine ⟨by omega, ?_, by rw [hlen]; exact h0, fun k p hk => ?_, fun k hk => ?_⟩
  · have := wf_addP p2 hq
    by_cases hm : q ∈ P
    · intro k p hk
      rw [List.getElem?_append] at hk
      split at hk
      · exact p2 k p hk
      · have : k - P.length = 0 := by
          rcases Nat.eq_zero_or_pos (k - P.length) with h | h
          · exact h
          · rw [List.getElem?_eq_none (by simp; omega)] at hk; cases hk
        rw [this] at hk
        have hk : q = p := by simpa using hk
        subst hk
        exact hq.mono (by omega)
    · rw [addP_new hm] at this; exact this
  · rw [List.getElem?_append] at hk
    split at hk
    · rename_i hlt
      obtain ⟨a1, a2, a3, -⟩ := hx k hlt
      rw [a1, a2, a3]
      exact p4 k p hk
    · have : k - P.length = 0 := by
        rcases Nat.eq_zero_or_pos (k - P.length) with h | h
        · exact h
        · rw [List.getElem?_eq_none (by simp; omega)] at hk; cases hk
      rw [this] at hk
      have hk : q = p := by simpa using hk
      subst hk
      have e : k = P.length := by omega
      subst e
      exact ⟨h1, h2, h3⟩
  · rw [hlen] at hk
    rw [lnL_app, rwL_app]
    unfold lnS rwS
    rcases Nat.lt_or_ge k P.length with h | h
    · obtain ⟨-, -, -, a4, a5⟩ := hx k h
      rw [a4, a5]
      simp only [List.getD_eq_getElem?_getD]
      rw [List.getElem?_append_left (by rw [lnL_len]; exact h), List.getElem?_append_left (by rw [rwL_len]; exact h)]
      have := p5 k h
      simpa only [List.getD_eq_getElem?_getD] using this
    · have e : k = P.length := by omega
      subst e
      rw [h4, h5]
      simp only [List.getD_eq_getElem?_getD]
      rw [List.getElem?_append_right (by rw [lnL_len]; exact Nat.le_refl _), List.getElem?_append_right (by rw [rwL_len]; exact Nat.le_refl _), lnL_len, rwL_len, Nat.sub_self]
      simp
set_option maxHeartbeats 4000000 in
set_option maxRecDepth 100000 in
theorem c_add (G : GT) {σ : Sg} {j : Nat} (hj : j < 20) {P : Sen} (hP : hs σ j P) {q : Pt} (hq : okp P.length q) : MC G yX1_add cX1_add 5 .int 1 [.ref (G.2.2.1 (7 * j)), .int (pK q), .int (pA q), .int (pB q)] σ (fun r τ => offS j σ τ ∧ τ (7 * j + 6) = σ (7 * j + 6) ∧ ((q ∈ P ∧ τ = σ ∧ r = nI (P.idxOf q)) ∨ (q ∉ P ∧ P.length = 11 ∧ τ = s2 σ (7 * j) 1 (nI 1) ∧ r = nI 0) ∨ (q ∉ P ∧ P.length < 11 ∧ hs τ j (P ++ [q]) ∧ τ (7 * j) 1 = σ (7 * j) 1 ∧ r = nI P.length))) := by
  refine MC_of (by decide) (ca1 rfl (ca1 rfl (ca1 rfl (ca1 rfl ca0)))) (Nat.le_of_ble_eq_true rfl) ?_
  intro Z X hR
  show V G Z σ 0 [some (.ref (G.2.2.1 (7 * j))), some (.int (pK q)), some (.int (pA q)), some (.int (pB q)), none] []
  have hP0 := hP
  obtain ⟨p1, p2, p3, p4, p5⟩ := hP
  have big : q ∉ P → P.length = 11 → ∀ lo, V G Z σ 52 [some (.ref (G.2.2.1 (7 * j))), some (.int (pK q)), some (.int (pA q)), some (.int (pB q)), lo] [] := by
    intro hm hl lo
    refine v_aload_n X dX1_add_52 rfl ?_
    refine v_iconst (v := nI 1) X dX1_add_53 (by decide) ?_
    refine v_puti X fw_X1_15 (shX1_1 (by first | assumption | omega)) dX1_add_54 rfl rfl ?_
    refine v_iconst (v := nI 0) X dX1_add_57 (by decide) ?_
    refine v_ret X hR dX1_add_58 rfl ?_
    exact ⟨offS.rfl.s2 (by omega) (by omega), by rw [s2_nc (by omega)], Or.inr (Or.inl ⟨hm, hl, rfl, rfl⟩)⟩
  have loop : ∀ (n k : Nat), P.length - k < n → k ≤ P.length → (∀ x, x < k → P[x]? ≠ some q) → V G Z σ 3 [some (.ref (G.2.2.1 (7 * j))), some (.int (pK q)), some (.int (pA q)), some (.int (pB q)), some (.int (nI k))] [] := by
    intro n
    induction n with
    | zero => intro k h; omega
    | succ n ih =>
      intro k hn hkl hin
      refine v_iload X dX1_add_3 rfl ?_
      refine v_aload_n X dX1_add_5 rfl ?_
      refine v_geti X fl_X1_9 (shX1_0 (by first | assumption | omega)) dX1_add_6 ?_
      refine v_top p3 ?_
      refine v_icmp_ge (tgt := 33) X dX1_add_9 (by decide) (fun h9 => ?_) (fun h9 => ?_)
      · skip
        have hk := nI_lem (by omega) (by omega) h9
        have hnm : q ∉ P := not_mem_of (fun x hx => hin x (by omega))
        refine v_aload_n X dX1_add_33 rfl ?_
        refine v_geti X fl_X1_9 (shX1_0 (by first | assumption | omega)) dX1_add_34 ?_
        refine v_bipush (v := nI 11) X dX1_add_37 (by decide) ?_
        rw [p3]
        refine v_icmp_ge (tgt := 52) X dX1_add_39 (by decide) (fun h39 => ?_) (fun h39 => ?_)
        · skip
          exact big hnm (by have := nI_lem (a := 11) (by decide) (by omega) h39; omega) _
        · skip
          have hl11 : P.length < 11 := nI_len (a := 11) (by decide) (by omega) h39
          refine v_aload_n X dX1_add_42 rfl ?_
          refine v_iload_n X dX1_add_43 rfl ?_
          refine v_iload_n X dX1_add_44 rfl ?_
          refine v_iload_n X dX1_add_45 rfl ?_
          refine v_cali X (c_canStand G hj p1 p3 hq) cv_X1_42 (obX1 (by first | assumption | omega)) rfl (by decide) rfl (by rfl) (Nat.le_of_ble_eq_true rfl) dX1_add_46 (fun r τ hp => ?_)
          obtain ⟨rfl, rfl⟩ := hp
          refine v_if_ne (tgt := 59) X dX1_add_49 (by decide) (fun h49 => ?_) (fun h49 => ?_)
          · skip
            refine v_aload_n X dX1_add_59 rfl ?_
            refine v_getr X fl_X1_19 (shX1_2 (by first | assumption | omega)) dX1_add_60 ?_
            refine v_aload_n X dX1_add_63 rfl ?_
            refine v_geti X fl_X1_9 (shX1_0 (by first | assumption | omega)) dX1_add_64 ?_
            refine v_iload_n X dX1_add_67 rfl ?_
            refine v_iastE X (arX1_2 (by first | assumption | omega)) p3 hl11 dX1_add_68 ?_
            refine v_aload_n X dX1_add_69 rfl ?_
            refine v_getr X fl_X1_23 (shX1_3 (by first | assumption | omega)) dX1_add_70 ?_
            refine v_aload_n X dX1_add_73 rfl ?_
            refine v_geti X fl_X1_9 (shX1_0 (by first | assumption | omega)) dX1_add_74 ?_
            refine v_iload_n X dX1_add_77 rfl ?_
            rw [s2_nc (by omega)]
            refine v_iastE X (arX1_3 (by first | assumption | omega)) p3 hl11 dX1_add_78 ?_
            refine v_aload_n X dX1_add_79 rfl ?_
            refine v_getr X fl_X1_26 (shX1_4 (by first | assumption | omega)) dX1_add_80 ?_
            refine v_aload_n X dX1_add_83 rfl ?_
            refine v_geti X fl_X1_9 (shX1_0 (by first | assumption | omega)) dX1_add_84 ?_
            refine v_iload_n X dX1_add_87 rfl ?_
            repeat rw [s2_nc (by omega)]
            refine v_iastE X (arX1_4 (by first | assumption | omega)) p3 hl11 dX1_add_88 ?_
            refine v_aload_n X dX1_add_89 rfl ?_
            refine v_getr X fl_X1_29 (shX1_5 (by first | assumption | omega)) dX1_add_90 ?_
            refine v_aload_n X dX1_add_93 rfl ?_
            refine v_geti X fl_X1_9 (shX1_0 (by first | assumption | omega)) dX1_add_94 ?_
            have e0 : ∀ x, (s2 (s2 (s2 τ (7 * j + 1) P.length (pK q)) (7 * j + 2) P.length (pA q)) (7 * j + 3) P.length (pB q)) (7 * j) x = τ (7 * j) x := fun x => by repeat rw [s2_nc (by omega)]
            rw [e0, p3]
            have mid : ∀ v : Int32, v = nI (if q.1 < 2 then 1 else (lnL P).getD q.2.1 0 + (lnL P).getD q.2.2 0 + 3) → V G Z (s2 (s2 (s2 τ (7 * j + 1) P.length (pK q)) (7 * j + 2) P.length (pA q)) (7 * j + 3) P.length (pB q)) 121 [some (.ref (G.2.2.1 (7 * j))), some (.int (pK q)), some (.int (pA q)), some (.int (pB q)), some (.int (nI k))] [.int v, .int (nI P.length), .ref (G.2.2.1 (7 * j + 4))] := by
              intro v hv
              refine v_iastE X (arX1_5 (by first | assumption | omega)) rfl hl11 dX1_add_121 ?_
              refine v_aload_n X dX1_add_122 rfl ?_
              refine v_getr X fl_X1_32 (shX1_6 (by first | assumption | omega)) dX1_add_123 ?_
              refine v_aload_n X dX1_add_126 rfl ?_
              refine v_geti X fl_X1_9 (shX1_0 (by first | assumption | omega)) dX1_add_127 ?_
              rw [s2_nc (by omega), e0, p3]
              have hP4 : hs (s2 (s2 (s2 (s2 τ (7 * j + 1) P.length (pK q)) (7 * j + 2) P.length (pA q)) (7 * j + 3) P.length (pB q)) (7 * j + 4) P.length v) j P := by
                refine ⟨p1, p2, by rw [s2_nc (by omega), e0]; exact p3, fun x p hx => ?_, fun x hx => ?_⟩
                · have hxl : x ≠ P.length := by have := (List.getElem?_eq_some_iff.mp hx).1; omega
                  simp only [s2_ap, hxl, and_false, if_false]
                  exact p4 x p hx
                · have hxl : x ≠ P.length := by omega
                  simp only [s2_ap, hxl, and_false, if_false]
                  exact p5 x hx
              refine v_aload_n X dX1_add_130 rfl ?_
              refine v_iload_n X dX1_add_131 rfl ?_
              refine v_iload_n X dX1_add_132 rfl ?_
              refine v_iload_n X dX1_add_133 rfl ?_
              refine v_cali X (c_rowsOf G hj hP4 hq) cv_X1_46 (obX1 (by first | assumption | omega)) rfl (by decide) rfl (by rfl) (Nat.le_of_ble_eq_true rfl) dX1_add_134 (fun r υ hp => ?_)
              obtain ⟨rfl, rfl⟩ := hp
              refine v_iastE X (arX1_6 (by first | assumption | omega)) rfl hl11 dX1_add_137 ?_
              refine v_aload_n X dX1_add_138 rfl ?_
              refine v_dup X dX1_add_139 rfl ?_
              refine v_geti X fl_X1_9 (shX1_0 (by first | assumption | omega)) dX1_add_140 ?_
              rw [s2_nc (by omega), s2_nc (by omega), e0, p3]
              refine v_iconst (v := nI 1) X dX1_add_143 (by decide) ?_
              refine v_iadd X dX1_add_144 ?_
              refine v_top (nI_add P.length 1) ?_
              refine v_puti X fw_X1_9 (shX1_0 (by first | assumption | omega)) dX1_add_145 rfl rfl ?_
              refine v_aload_n X dX1_add_148 rfl ?_
              refine v_geti X fl_X1_9 (shX1_0 (by first | assumption | omega)) dX1_add_149 ?_
              refine v_top (s2_at _ _ _ _) ?_
              refine v_iconst (v := nI 1) X dX1_add_152 (by decide) ?_
              refine v_isub X dX1_add_153 ?_
              refine v_top (y := nI P.length) (by rw [nI_s1 (by omega)]; rfl) ?_
              refine v_ret X hR dX1_add_154 rfl ?_
              refine ⟨((((((offS.rfl.s2 (by omega) (by omega)).s2 (by omega) (by omega)).s2 (by omega) (by omega)).s2 (by omega) (by omega)).s2 (by omega) (by omega)).s2 (by omega) (by omega)), by repeat rw [s2_nc (by omega)], Or.inr (Or.inr ⟨hnm, hl11, ?_, ?_, rfl⟩)⟩
              · refine hs_snoc hP0 hl11 hq (s2_at _ _ _ _) (fun x hx => ?_) ?_ ?_ ?_ ?_ ?_
                · have hxl : x ≠ P.length := by omega
                  simp [s2_ap, hxl]
                · simp [s2_ap]
                · simp [s2_ap]
                · simp [s2_ap]
                · simp [s2_ap]; exact hv
                · simp [s2_ap]
              · simp [s2_ap]
            refine v_iload_n X dX1_add_97 rfl ?_
            refine v_iconst (v := nI 2) X dX1_add_98 (by decide) ?_
            refine v_icmp_ge (tgt := 106) X dX1_add_99 (by decide) (fun h99 => ?_) (fun h99 => ?_)
            · skip
              have h2 : ¬ q.1 < 2 := by have := nI_lem (a := 2) (by decide) (by have := hq.k4; omega) h99; omega
              obtain ⟨t, a, b⟩ := q
              rcases hq with ⟨z, -⟩ | ⟨z, -⟩ | ⟨g1, g2, ga, gb⟩
              · simp only at z h2; omega
              · simp only at z h2; omega
              simp only at g1 g2 ga gb h2
              have e1 : pA (t, a, b) = nI a := if_neg (show ¬ t = 1 by omega)
              have e2 : pB (t, a, b) = nI b := if_neg (show ¬ t < 2 by omega)
              refine v_aload_n X dX1_add_106 rfl ?_
              refine v_getr X fl_X1_29 (shX1_5 (by first | assumption | omega)) dX1_add_107 ?_
              refine v_iload_n X dX1_add_110 rfl ?_
              refine v_ialdE X (arX1_5 (by first | assumption | omega)) e1 (show a < 11 by omega) dX1_add_111 ?_
              refine v_aload_n X dX1_add_112 rfl ?_
              refine v_getr X fl_X1_29 (shX1_5 (by first | assumption | omega)) dX1_add_113 ?_
              refine v_iload_n X dX1_add_116 rfl ?_
              refine v_ialdE X (arX1_5 (by first | assumption | omega)) e2 (show b < 11 by omega) dX1_add_117 ?_
              refine v_iadd X dX1_add_118 ?_
              refine v_iconst (v := nI 3) X dX1_add_119 (by decide) ?_
              refine v_iadd X dX1_add_120 ?_
              refine mid _ ?_
              rw [if_neg h2]
              have r4 : ∀ x, (s2 (s2 (s2 τ (7 * j + 1) P.length (pK (t, a, b))) (7 * j + 2) P.length (pA (t, a, b))) (7 * j + 3) P.length (pB (t, a, b))) (7 * j + 4) x = τ (7 * j + 4) x := fun x => by repeat rw [s2_nc (by omega)]
              rw [r4, r4, (p5 a ga).1, (p5 b gb).1, nI_add, nI_add]
            · skip
              have h2 : q.1 < 2 := nI_len (a := 2) (by decide) (by have := hq.k4; omega) h99
              refine v_iconst (v := nI 1) X dX1_add_102 (by decide) ?_
              refine v_goto (tgt := 121) X dX1_add_103 (by decide) ?_
              exact mid _ (by rw [if_pos h2])
          · skip
            exact absurd h49 (by decide)
      · skip
        have hk := nI_len (by omega) (by omega) h9
        have hk11 : k < 11 := by omega
        refine v_aload_n X dX1_add_12 rfl ?_
        refine v_iload X dX1_add_13 rfl ?_
        refine v_iload_n X dX1_add_15 rfl ?_
        refine v_iload_n X dX1_add_16 rfl ?_
        refine v_iload_n X dX1_add_17 rfl ?_
        refine v_cali X (c_isAt G hj hk11 _ _ _) cv_X1_38 (obX1 (by first | assumption | omega)) rfl (by decide) rfl (by rfl) (Nat.le_of_ble_eq_true rfl) dX1_add_18 (fun r τ hp => ?_)
        obtain ⟨rfl, rfl⟩ := hp
        obtain ⟨p, hp⟩ : ∃ p, P[k]? = some p := ⟨P[k], List.getElem?_eq_getElem hk⟩
        obtain ⟨a1, a2, a3⟩ := p4 k p hp
        rw [a1, a2, a3]
        have hpe := pt_eq ((p2 k p hp).mono (k' := P.length) (by omega)) hq (by omega)
        refine v_if_eq (tgt := 27) X dX1_add_21 (by decide) (fun h21 => ?_) (fun h21 => ?_)
        · skip
          have e : ¬ p = q := fun z => of_decide_eq_false (bI_z.mp h21) (hpe.mpr z)
          refine v_iincE X dX1_add_27 rfl (nI_inc k) ?_
          show V G Z _ 30 [_, _, _, _, _] _
          refine v_goto (tgt := 3) X dX1_add_30 (by decide) ?_
          exact ih (k + 1) (by omega) (by omega) (fun x hx => by
            rcases Nat.lt_or_ge x k with h | h
            · exact hin x h
            · rw [show x = k by omega, hp]; exact fun z => e (Option.some.inj z))
        · skip
          have e : p = q := hpe.mp (of_decide_eq_true (bI_nz.mp h21))
          subst e
          refine v_iload X dX1_add_24 rfl ?_
          refine v_ret X hR dX1_add_26 rfl ?_
          exact ⟨offS.rfl, rfl, Or.inl ⟨List.mem_of_getElem? hp, rfl, by rw [idx_first hp hin]⟩⟩
  refine v_iconst (v := nI 0) X dX1_add_0 (by decide) ?_
  refine v_istore X dX1_add_1 (Nat.le_of_ble_eq_true rfl) ?_
  show V G Z _ 3 [_, _, _, _, _] _
  exact loop (P.length + 1) 0 (by omega) (by omega) (fun x h => by omega)
end
section
section VSTRI
variable {G : GT} {own : String} {cc : ByteArray} {lev : Nat} {Z : ZT} {σ : Sg} {pc : Nat} {lo : List (Option Value)} {st : List Value}
theorem v_coder {i idx : Nat} (X : Cx G own cc lev Z) (hi : i < 4) (hw : Cond.fieldLink own idx "java/lang/String" "coder" "B" ∈ BG) (d : decode cc pc = .ok (.getfield idx, 3)) (k : V G Z σ (pc + 3) lo (.int 0 :: st)) : V G Z σ pc lo (.ref (G.2.2.2 (1 + i)) :: st) := by
  obtain ⟨p, l, e, R, s, m, args, below, meth, c, cs, sl, Q⟩ := Z
  obtain ⟨hx, hb, ho, ht, hK, hG, hS0, hr, hlk⟩ := X
  intro H locs ls hP hS hl
  obtain ⟨-, -, -, -, -, h5⟩ := hS0
  exact vk_getf hx hb (h5 i hi).2.2.1 hS ho (ht _ hw) (fun _ h => h) d (k H locs ls hP hS hl)
theorem v_value {i idx : Nat} (X : Cx G own cc lev Z) (hi : i < 4) (hw : Cond.fieldLink own idx "java/lang/String" "value" "[B" ∈ BG) (d : decode cc pc = .ok (.getfield idx, 3)) (k : V G Z σ (pc + 3) lo (.ref (G.2.2.2 (5 + i)) :: st)) : V G Z σ pc lo (.ref (G.2.2.2 (1 + i)) :: st) := by
  obtain ⟨p, l, e, R, s, m, args, below, meth, c, cs, sl, Q⟩ := Z
  obtain ⟨hx, hb, ho, ht, hK, hG, hS0, hr, hlk⟩ := X
  intro H locs ls hP hS hl
  obtain ⟨-, -, -, -, -, h5⟩ := hS0
  exact vk_getf hx hb (h5 i hi).2.2.2.1 hS ho (ht _ hw) (fun _ h => h) d (k H locs ls hP hS hl)
theorem v_slen {i : Nat} (X : Cx G own cc lev Z) (hi : i < 4) (d : decode cc pc = .ok (.arraylength, 1)) (k : V G Z σ (pc + 1) lo (.int (nI (strI i).2.2.2.length) :: st)) : V G Z σ pc lo (.ref (G.2.2.2 (5 + i)) :: st) := by
  obtain ⟨p, l, e, R, s, m, args, below, meth, c, cs, sl, Q⟩ := Z
  obtain ⟨hx, hb, ho, ht, hK, hG, hS0, hr, hlk⟩ := X
  intro H locs ls hP hS hl
  obtain ⟨-, -, -, -, -, h5⟩ := hS0
  exact va_tlen hx hb (h5 i hi).2.2.2.2 hS rfl d (k H locs ls hP hS hl)
theorem str_len : ∀ i, i < 4 → (strI i).2.2.2.length ≤ 4 := by decide
theorem v_sald {i k : Nat} {j : Int32} (X : Cx G own cc lev Z) (hi : i < 4) (e' : j = nI k) (hk : k < (strI i).2.2.2.length) (d : decode cc pc = .ok (.baload, 1)) (kk : V G Z σ (pc + 1) lo (.int ((strI i).2.2.2.getD k 0) :: st)) : V G Z σ pc lo (.int j :: .ref (G.2.2.2 (5 + i)) :: st) := by
  subst e'
  have hle := str_len i hi
  obtain ⟨p, l, e, R, s, m, args, below, meth, c, cs, sl, Q⟩ := Z
  obtain ⟨hx, hb, ho, ht, hK, hG, hS0, hr, hlk⟩ := X
  intro H locs ls hP hS hl
  obtain ⟨-, -, -, -, -, h5⟩ := hS0
  exact va_tb hx hb (h5 i hi).2.2.2.2 hS (vp_in_nI hk (by omega)) (v := .int ((strI i).2.2.2.getD k 0)) (by rw [nI_clamp (by omega)]) d (kk H locs ls hP hS hl)
theorem v_compact {idx : Nat} (X : Cx G own cc lev Z) (hw : Cond.fieldLink own idx "java/lang/String" "COMPACT_STRINGS" "Z" ∈ BG) (d : decode cc pc = .ok (.getstatic idx, 3)) (k : V G Z σ (pc + 3) lo (.int 1 :: st)) : V G Z σ pc lo st := by
  obtain ⟨p, l, e, R, s, m, args, below, meth, c, cs, sl, Q⟩ := Z
  obtain ⟨hx, hb, ho, ht, hK, hG, hS0, hr, hlk⟩ := X
  intro H locs ls hP hS hl
  exact va_gets hx hb hS0.2.2.1 hS ho (ht _ hw) (fun _ h => h) d (k H locs ls hP hS hl)
theorem v_fmt {idx : Nat} (X : Cx G own cc lev Z) (hw : Cond.fieldLink own idx "jdk/internal/util/Preconditions" "SIOOBE_FORMATTER" "Ljava/util/function/BiFunction;" ∈ BG) (d : decode cc pc = .ok (.getstatic idx, 3)) (k : ∀ f : Value, f.category = 1 → V G Z σ (pc + 3) lo (f :: st)) : V G Z σ pc lo st := by
  obtain ⟨p, l, e, R, s, m, args, below, meth, c, cs, sl, Q⟩ := Z
  obtain ⟨hx, hb, ho, ht, hK, hG, hS0, hr, hlk⟩ := X
  intro H locs ls hP hS hl
  rcases hS0.2.2.2.1 with h | ⟨t, h⟩
  · exact va_gets hx hb h hS ho (ht _ hw) (fun _ h => h) d (k .null rfl H locs ls hP hS hl)
  · exact va_gets hx hb h hS ho (ht _ hw) (fun _ h => h) d (k (.ref t) rfl H locs ls hP hS hl)
theorem v_calz {idx n na lev' i : Nat} {y : MethodName} {bc : ByteArray} {ty : FieldType} {post : Int32 → Sg → Prop} {As rest : List Value} (X : Cx G own cc lev Z) (hi : i < 4) (hM : MC G y bc n ty lev' (.ref (G.2.2.2 (1 + i)) :: As) σ post) (hC : CV own idx y bc n (some ty) na) (hy : y.cls = "java/lang/String") (hlev : lev' < lev) (hna : As.length = na) (hst : st = As.reverse ++ .ref (G.2.2.2 (1 + i)) :: rest) (hcat : (rest.map fun v => v.category).sum ≤ 8) (d : decode cc pc = .ok (.invokevirtual idx, 3))
    (kk : ∀ (r : Int32) (τ : Sg), post r τ → V G Z τ (pc + 3) lo (.int r :: rest)) : V G Z σ pc lo st := by
  subst hst
  obtain ⟨p, l, e, R, s, m, args, below, meth, c, cs, sl, Q⟩ := Z
  obtain ⟨hx, hb, ho, ht, hK, hG, hS0, hr, hlk⟩ := X
  intro H locs ls hP hS hl
  obtain ⟨⟨w1, w2, w3, w4, w5⟩, w6, w7⟩ := hC
  have hrec : ∃ cell : Cell, H[G.2.2.2 (1 + i)]? = some cell ∧ cell.vm.isStatics = false ∧ s.vm.findClass y.cls = some cell.cls := by
    obtain ⟨-, -, -, -, -, h5⟩ := hS0
    obtain ⟨cell, h1, h2, h3, -⟩ := (h5 i hi).2.1.kept hS.2.1
    exact ⟨cell, h1, h2, by rw [hy]; exact h3⟩
  have hT := (rml_ok hlev w7 ⟨hr.1, hr.2.1⟩)
  have cw : CallW R s args own y.cls idx y bc n (some ty) (.code y bc n (some ty) :: BG) (rml lev') 0 0 na := ⟨callB_of na ht (good_cons w5) rfl rfl rfl (ht _ w4) (ht _ w1) w6 hT, ht _ w2, ht _ w3⟩
  refine va_calli (va_runV (As := As) (rest := rest) ⟨hx, hb, rfl, ho, ht⟩ (hM l) cw ⟨wd_blind G σ _, hrec, fun U hU hW => ⟨rfl, hG, by rw [hU]; exact hP, va_K.moved hW.alike hK, ?_⟩⟩ rfl hna hl.2.2.1 rfl (lv_room hcat) d ⟨hr.2.2.1, hr.2.2.2⟩) hS (fun q _ h => h) (fun q h => h) (fun r u t H1 locs1 ht1 hvm hw hB hz1 hk1 hS1 => ?_)
  · rw [hU]; exact St.warm hW (hS0.kept (fun a h1 h2 => hS.2.1 a h1 h2))
  · exact kk r u hw H1 locs1 ls (by rw [← ht1]; exact hB) hS1 hl
theorem v_calsv {idx n na lev' : Nat} {y : MethodName} {bc : ByteArray} {post : Sg → Prop} {As rest : List Value} (X : Cx G own cc lev Z) (hM : MV G y bc n lev' As σ post) (hC : CS own idx y bc n none na) (hlev : lev' < lev) (hna : As.length = na) (hst : st = As.reverse ++ rest) (hcat : (rest.map fun v => v.category).sum ≤ 8) (d : decode cc pc = .ok (.invokestatic idx, 3))
    (kk : ∀ (τ : Sg), post τ → V G Z τ (pc + 3) lo rest) : V G Z σ pc lo st := by
  subst hst
  obtain ⟨p, l, e, R, s, m, args, below, meth, c, cs, sl, Q⟩ := Z
  obtain ⟨hx, hb, ho, ht, hK, hG, hS0, hr, hlk⟩ := X
  intro H locs ls hP hS hl
  obtain ⟨⟨w1, w2, w4, w5⟩, w6, w7⟩ := hC
  have hT := (rml_ok hlev w7 ⟨hr.1, hr.2.1⟩)
  have cw : CallB R s args own idx y bc n none (.code y bc n none :: BG) (rml lev') 0 0 na ∧ (Cond.static y).before args s = true := ⟨callB_of na ht (good_cons w5) rfl rfl rfl (ht _ w4) (ht _ w1) w6 hT, ht _ w2⟩
  refine va_callv (va_runS (As := As) (rest := rest) ⟨hx, hb, rfl, ho, ht⟩ (hM l) cw ⟨wd_blind G σ _, fun U hU hW => ⟨rfl, hG, by rw [hU]; exact hP, va_K.moved hW.alike hK, ?_⟩⟩ rfl hna hl.2.2.1 rfl (lv_room hcat) d ⟨hr.2.2.1, hr.2.2.2⟩) hS (fun q _ h => h) (fun q h => h) (fun u t H1 locs1 ht1 hvm hw hB hz1 hk1 hS1 => ?_)
  · rw [hU]; exact St.warm hW (hS0.kept (fun a h1 h2 => hS.2.1 a h1 h2))
  · exact kk u hw H1 locs1 ls (by rw [← ht1]; exact hB) hS1 hl
theorem v_mmax {x y : Int32} {idx : Nat} {rest : List Value} (X : Cx G own cc lev Z) (h0 : 0 < lev) (hC : CS own idx Lib.Math.max.name Lib.Math.max.code 2 (some .int) 2) (hcat : (rest.map fun v => v.category).sum ≤ 8) (d : decode cc pc = .ok (.invokestatic idx, 3)) (k : V G Z σ (pc + 3) lo (.int (if x < y then y else x) :: rest)) : V G Z σ pc lo (.int y :: .int x :: rest) := by
  obtain ⟨p, l, e, R, s, m, args, below, meth, c, cs, sl, Q⟩ := Z
  obtain ⟨hx, hb, ho, ht, hK, hG, hS0, hr, hlk⟩ := X
  intro H locs ls hP hS hl
  obtain ⟨⟨w1, w2, w4, w5⟩, w6, w7⟩ := hC
  have hr1 := hr.1
  have hr2 := hr.2.1
  simp only [lcl] at hr2
  exact va_mmax hx hb hl.2.2.1.symm ho (ht _ w1) (ht _ w2) (ht _ w4) (ht _ w5) (by omega) (by omega) hr.2.2.1 hr.2.2.2 d (k H locs ls hP hS hl)
theorem v_mmin {x y : Int32} {idx : Nat} {rest : List Value} (X : Cx G own cc lev Z) (h0 : 0 < lev) (hC : CS own idx Lib.Math.min.name Lib.Math.min.code 2 (some .int) 2) (hcat : (rest.map fun v => v.category).sum ≤ 8) (d : decode cc pc = .ok (.invokestatic idx, 3)) (k : V G Z σ (pc + 3) lo (.int (if y < x then y else x) :: rest)) : V G Z σ pc lo (.int y :: .int x :: rest) := by
  obtain ⟨p, l, e, R, s, m, args, below, meth, c, cs, sl, Q⟩ := Z
  obtain ⟨hx, hb, ho, ht, hK, hG, hS0, hr, hlk⟩ := X
  intro H locs ls hP hS hl
  obtain ⟨⟨w1, w2, w4, w5⟩, w6, w7⟩ := hC
  have hr1 := hr.1
  have hr2 := hr.2.1
  simp only [lcl] at hr2
  exact va_mmin hx hb hl.2.2.1.symm ho (ht _ w1) (ht _ w2) (ht _ w4) (ht _ w5) (by omega) (by omega) hr.2.2.1 hr.2.2.2 d (k H locs ls hP hS hl)
end VSTRI
theorem fs_J0_38 : Cond.fieldLink RJ0 38 "java/lang/String" "COMPACT_STRINGS" "Z" ∈ BG := bg_of 277 (by decide +kernel) rfl
theorem fs_J0_1053 : Cond.fieldLink RJ0 1053 "jdk/internal/util/Preconditions" "SIOOBE_FORMATTER" "Ljava/util/function/BiFunction;" ∈ BG := bg_of 320 (by decide +kernel) rfl
theorem fs_J0_15 : Cond.fieldLink RJ0 15 "java/lang/String" "coder" "B" ∈ BG := bg_of 880 (by decide +kernel) rfl
theorem fs_J0_9 : Cond.fieldLink RJ0 9 "java/lang/String" "value" "[B" ∈ BG := bg_of 881 (by decide +kernel) rfl
set_option maxHeartbeats 4000000 in
set_option maxRecDepth 100000 in
theorem c_jcheck3 (G : GT) {σ : Sg} {k m : Nat} (hkm : k < m) (hm : m < 2 ^ 31) (f : Value) (hf : f.category = 1) : MC G yJ3_checkIndex_8e157 cJ3_checkIndex_8e157 3 .int 0 [.int (nI k), .int (nI m), f] σ (fun r τ => τ = σ ∧ r = nI k) := by
  refine MC_of (by decide) (ca1 rfl (ca1 rfl (ca1 hf ca0))) (Nat.le_of_ble_eq_true rfl) ?_
  intro Z X hR
  show V G Z σ 0 [some (.int (nI k)), some (.int (nI m)), some (f)] []
  refine v_iload_n X dJ3_checkIndex_8e157_0 rfl ?_
  refine v_if_lt (tgt := 9) X dJ3_checkIndex_8e157_1 (by decide) (fun h1 => ?_) (fun h1 => ?_)
  · skip
    exact absurd h1 (nI_pos (by omega))
  · skip
    refine v_iload_n X dJ3_checkIndex_8e157_4 rfl ?_
    refine v_iload_n X dJ3_checkIndex_8e157_5 rfl ?_
    refine v_icmp_lt (tgt := 16) X dJ3_checkIndex_8e157_6 (by decide) (fun h6 => ?_) (fun h6 => ?_)
    · skip
      refine v_iload_n X dJ3_checkIndex_8e157_16 rfl ?_
      refine v_ret X hR dJ3_checkIndex_8e157_17 rfl ?_
      exact ⟨rfl, rfl⟩
    · skip
      exact absurd (nI_lt hkm hm) h6

set_option maxHeartbeats 4000000 in
set_option maxRecDepth 100000 in
theorem c_jcheck0 (G : GT) {σ : Sg} {k m : Nat} (hkm : k < m) (hm : m < 2 ^ 31) : MV G yJ0_checkIndex_df160 cJ0_checkIndex_df160 2 1 [.int (nI k), .int (nI m)] σ (fun τ => τ = σ) := by
  refine MV_of (by decide) (ca1 rfl (ca1 rfl ca0)) (Nat.le_of_ble_eq_true rfl) ?_
  intro Z X hR
  show V G Z σ 0 [some (.int (nI k)), some (.int (nI m))] []
  refine v_iload_n X dJ0_checkIndex_df160_0 rfl ?_
  refine v_iload_n X dJ0_checkIndex_df160_1 rfl ?_
  refine v_fmt X fs_J0_1053 dJ0_checkIndex_df160_2 (fun f hf => ?_)
  refine v_cals X (c_jcheck3 G hkm hm f hf) cs_J0_1059 (by decide) rfl (by rfl) (Nat.le_of_ble_eq_true rfl) dJ0_checkIndex_df160_5 (fun r τ hp => ?_)
  obtain ⟨rfl, rfl⟩ := hp
  refine v_pop X dJ0_checkIndex_df160_8 rfl ?_
  refine v_vret X hR dJ0_checkIndex_df160_9 ?_
  rfl

theorem str_byte : ∀ i, i < 4 → ∀ k, k < (strI i).2.2.2.length → (((strI i).2.2.2.getD k 0 &&& nI 255).toUInt32 % 65536).toInt32 = (strI i).2.2.2.getD k 0 ∧ narrow .char (.int ((strI i).2.2.2.getD k 0)) = .int ((strI i).2.2.2.getD k 0) := by decide
set_option maxHeartbeats 4000000 in
set_option maxRecDepth 100000 in
theorem c_j1charAt (G : GT) {σ : Sg} {i k : Nat} (hi : i < 4) (hk : k < (strI i).2.2.2.length) : MC G yJ1_charAt_3b067 cJ1_charAt_3b067 2 .char 2 [.ref (G.2.2.2 (5 + i)), .int (nI k)] σ (fun r τ => τ = σ ∧ r = (strI i).2.2.2.getD k 0) := by
  refine MC_of (by decide) (ca1 rfl (ca1 rfl ca0)) (Nat.le_of_ble_eq_true rfl) ?_
  intro Z X hR
  show V G Z σ 0 [some (.ref (G.2.2.2 (5 + i))), some (.int (nI k))] []
  refine v_iload_n X dJ1_charAt_3b067_0 rfl ?_
  refine v_aload_n X dJ1_charAt_3b067_1 rfl ?_
  refine v_slen X hi dJ1_charAt_3b067_2 ?_
  refine v_calsv X (c_jcheck0 G hk (by have := str_len i hi; omega)) cs_J1_9 (by decide) rfl (by rfl) (Nat.le_of_ble_eq_true rfl) dJ1_charAt_3b067_3 (fun τ hp => ?_)
  subst hp
  refine v_aload_n X dJ1_charAt_3b067_6 rfl ?_
  refine v_iload_n X dJ1_charAt_3b067_7 rfl ?_
  refine v_sald X hi rfl hk dJ1_charAt_3b067_8 ?_
  refine v_sipush (v := nI 255) X dJ1_charAt_3b067_9 (by decide) ?_
  refine v_iand X dJ1_charAt_3b067_12 ?_
  refine v_i2c X dJ1_charAt_3b067_13 ?_
  refine v_top (str_byte i hi k hk).1 ?_
  refine v_ret X hR dJ1_charAt_3b067_14 (str_byte i hi k hk).2 ?_
  exact ⟨rfl, rfl⟩

set_option maxHeartbeats 4000000 in
set_option maxRecDepth 100000 in
theorem c_isLatin1 (G : GT) {σ : Sg} {i : Nat} (hi : i < 4) : MC G yJ0_isLatin1_aae02 cJ0_isLatin1_aae02 1 .boolean 0 [.ref (G.2.2.2 (1 + i))] σ (fun r τ => τ = σ ∧ r = nI 1) := by
  refine MC_of (by decide) (ca1 rfl ca0) (Nat.le_of_ble_eq_true rfl) ?_
  intro Z X hR
  show V G Z σ 0 [some (.ref (G.2.2.2 (1 + i)))] []
  refine v_compact X fs_J0_38 dJ0_isLatin1_aae02_0 ?_
  refine v_if_eq (tgt := 17) X dJ0_isLatin1_aae02_3 (by decide) (fun h3 => ?_) (fun h3 => ?_)
  · skip
    exact absurd h3 (by decide)
  · skip
    refine v_aload_n X dJ0_isLatin1_aae02_6 rfl ?_
    refine v_coder X hi fs_J0_15 dJ0_isLatin1_aae02_7 ?_
    refine v_if_ne (tgt := 17) X dJ0_isLatin1_aae02_10 (by decide) (fun h10 => ?_) (fun h10 => ?_)
    · skip
      exact absurd rfl h10
    · skip
      refine v_iconst (v := nI 1) X dJ0_isLatin1_aae02_13 (by decide) ?_
      refine v_goto (tgt := 18) X dJ0_isLatin1_aae02_14 (by decide) ?_
      refine v_ret X hR dJ0_isLatin1_aae02_18 rfl ?_
      exact ⟨rfl, rfl⟩

set_option maxHeartbeats 4000000 in
set_option maxRecDepth 100000 in
theorem c_charAt (G : GT) {σ : Sg} {i k : Nat} (hi : i < 4) (hk : k < (strI i).2.2.2.length) : MC G yJ0_charAt_5068e cJ0_charAt_5068e 2 .char 3 [.ref (G.2.2.2 (1 + i)), .int (nI k)] σ (fun r τ => τ = σ ∧ r = (strI i).2.2.2.getD k 0) := by
  refine MC_of (by decide) (ca1 rfl (ca1 rfl ca0)) (Nat.le_of_ble_eq_true rfl) ?_
  intro Z X hR
  show V G Z σ 0 [some (.ref (G.2.2.2 (1 + i))), some (.int (nI k))] []
  refine v_aload_n X dJ0_charAt_5068e_0 rfl ?_
  refine v_calz X hi (c_isLatin1 G hi) cv_J0_492 rfl (by decide) rfl (by rfl) (Nat.le_of_ble_eq_true rfl) dJ0_charAt_5068e_1 (fun r τ hp => ?_)
  obtain ⟨rfl, rfl⟩ := hp
  refine v_if_eq (tgt := 16) X dJ0_charAt_5068e_4 (by decide) (fun h4 => ?_) (fun h4 => ?_)
  · skip
    exact absurd h4 (by decide)
  · skip
    refine v_aload_n X dJ0_charAt_5068e_7 rfl ?_
    refine v_value X hi fs_J0_9 dJ0_charAt_5068e_8 ?_
    refine v_iload_n X dJ0_charAt_5068e_11 rfl ?_
    refine v_cals X (c_j1charAt G hi hk) cs_J0_495 (by decide) rfl (by rfl) (Nat.le_of_ble_eq_true rfl) dJ0_charAt_5068e_12 (fun r τ hp => ?_)
    obtain ⟨rfl, rfl⟩ := hp
    refine v_ret X hR dJ0_charAt_5068e_15 (str_byte i hi k hk).2 ?_
    exact ⟨rfl, rfl⟩

set_option maxHeartbeats 4000000 in
set_option maxRecDepth 100000 in
theorem c_coder (G : GT) {σ : Sg} {i : Nat} (hi : i < 4) : MC G yJ0_coder_7d493 cJ0_coder_7d493 1 .byte 0 [.ref (G.2.2.2 (1 + i))] σ (fun r τ => τ = σ ∧ r = 0) := by
  refine MC_of (by decide) (ca1 rfl ca0) (Nat.le_of_ble_eq_true rfl) ?_
  intro Z X hR
  show V G Z σ 0 [some (.ref (G.2.2.2 (1 + i)))] []
  refine v_compact X fs_J0_38 dJ0_coder_7d493_0 ?_
  refine v_if_eq (tgt := 13) X dJ0_coder_7d493_3 (by decide) (fun h3 => ?_) (fun h3 => ?_)
  · skip
    exact absurd h3 (by decide)
  · skip
    refine v_aload_n X dJ0_coder_7d493_6 rfl ?_
    refine v_coder X hi fs_J0_15 dJ0_coder_7d493_7 ?_
    refine v_goto (tgt := 14) X dJ0_coder_7d493_10 (by decide) ?_
    refine v_ret X hR dJ0_coder_7d493_14 rfl ?_
    exact ⟨rfl, rfl⟩

set_option maxHeartbeats 4000000 in
set_option maxRecDepth 100000 in
theorem c_jlength (G : GT) {σ : Sg} {i : Nat} (hi : i < 4) : MC G yJ0_length_8abf5 cJ0_length_8abf5 1 .int 1 [.ref (G.2.2.2 (1 + i))] σ (fun r τ => τ = σ ∧ r = nI (strI i).2.2.2.length) := by
  refine MC_of (by decide) (ca1 rfl ca0) (Nat.le_of_ble_eq_true rfl) ?_
  intro Z X hR
  show V G Z σ 0 [some (.ref (G.2.2.2 (1 + i)))] []
  refine v_aload_n X dJ0_length_8abf5_0 rfl ?_
  refine v_value X hi fs_J0_9 dJ0_length_8abf5_1 ?_
  refine v_slen X hi dJ0_length_8abf5_4 ?_
  refine v_aload_n X dJ0_length_8abf5_5 rfl ?_
  refine v_calz X hi (c_coder G hi) cv_J0_335 rfl (by decide) rfl (by rfl) (Nat.le_of_ble_eq_true rfl) dJ0_length_8abf5_6 (fun r τ hp => ?_)
  obtain ⟨rfl, rfl⟩ := hp
  refine v_ishr X dJ0_length_8abf5_9 ?_
  refine v_top (sb_shr0 _) ?_
  refine v_ret X hR dJ0_length_8abf5_10 rfl ?_
  exact ⟨rfl, rfl⟩

set_option maxHeartbeats 4000000 in
set_option maxRecDepth 100000 in
theorem c_canEncode (G : GT) {σ : Sg} (c : Int32) : MC G yJ1_canEncode_9a6ad cJ1_canEncode_9a6ad 1 .boolean 0 [.int c] σ (fun r τ => τ = σ ∧ r = bI (decide (¬ c < 0 ∧ ¬ nI 255 < c))) := by
  refine MC_of (by decide) (ca1 rfl ca0) (Nat.le_of_ble_eq_true rfl) ?_
  intro Z X hR
  show V G Z σ 0 [some (.int c)] []
  refine v_iload_n X dJ1_canEncode_9a6ad_0 rfl ?_
  refine v_if_lt (tgt := 15) X dJ1_canEncode_9a6ad_1 (by decide) (fun h1 => ?_) (fun h1 => ?_)
  · skip
    refine v_iconst (v := nI 0) X dJ1_canEncode_9a6ad_15 (by decide) ?_
    refine v_ret X hR dJ1_canEncode_9a6ad_16 rfl ?_
    exact ⟨rfl, bI_f (fun q => q.1 h1)⟩
  · skip
    refine v_iload_n X dJ1_canEncode_9a6ad_4 rfl ?_
    refine v_sipush (v := nI 255) X dJ1_canEncode_9a6ad_5 (by decide) ?_
    refine v_icmp_gt (tgt := 15) X dJ1_canEncode_9a6ad_8 (by decide) (fun h8 => ?_) (fun h8 => ?_)
    · skip
      refine v_iconst (v := nI 0) X dJ1_canEncode_9a6ad_15 (by decide) ?_
      refine v_ret X hR dJ1_canEncode_9a6ad_16 rfl ?_
      exact ⟨rfl, bI_f (fun q => q.2 h8)⟩
    · skip
      refine v_iconst (v := nI 1) X dJ1_canEncode_9a6ad_11 (by decide) ?_
      refine v_goto (tgt := 16) X dJ1_canEncode_9a6ad_12 (by decide) ?_
      refine v_ret X hR dJ1_canEncode_9a6ad_16 rfl ?_
      exact ⟨rfl, bI_t ⟨h1, h8⟩⟩

set_option maxHeartbeats 4000000 in
set_option maxRecDepth 100000 in
theorem c_indexOfChar (G : GT) {σ : Sg} {i c : Nat} (hi : i < 4) (hc : c < 128) : MC G yJ1_indexOfChar_4cfef cJ1_indexOfChar_4cfef 6 .int 0 [.ref (G.2.2.2 (5 + i)), .int (nI c), .int (nI 0), .int (nI (strI i).2.2.2.length)] σ (fun r τ => τ = σ ∧ ((∃ k, k < (strI i).2.2.2.length ∧ (strI i).2.2.2.getD k 0 = nI c ∧ r = nI k) ∨ ((∀ k, k < (strI i).2.2.2.length → (strI i).2.2.2.getD k 0 ≠ nI c) ∧ r = -1))) := by
  refine MC_of (by decide) (ca1 rfl (ca1 rfl (ca1 rfl (ca1 rfl ca0)))) (Nat.le_of_ble_eq_true rfl) ?_
  intro Z X hR
  show V G Z σ 0 [some (.ref (G.2.2.2 (5 + i))), some (.int (nI c)), some (.int (nI 0)), some (.int (nI (strI i).2.2.2.length)), none, none] []
  have hle := str_len i hi
  have loop : ∀ (n k : Nat), (strI i).2.2.2.length - k < n → k ≤ (strI i).2.2.2.length → (∀ x, x < k → (strI i).2.2.2.getD x 0 ≠ nI c) → V G Z σ 7 [some (.ref (G.2.2.2 (5 + i))), some (.int (nI c)), some (.int (nI 0)), some (.int (nI (strI i).2.2.2.length)), some (.int (nI c)), some (.int (nI k))] [] := by
    intro n
    induction n with
    | zero => intro k h; omega
    | succ n ih =>
      intro k hn hkl hin
      refine v_iload X dJ1_indexOfChar_4cfef_7 rfl ?_
      refine v_iload_n X dJ1_indexOfChar_4cfef_9 rfl ?_
      refine v_icmp_ge (tgt := 31) X dJ1_indexOfChar_4cfef_10 (by decide) (fun h10 => ?_) (fun h10 => ?_)
      · skip
        have hk := nI_lem (by omega) (by omega) h10
        refine v_iconst (v := (-1)) X dJ1_indexOfChar_4cfef_31 (by decide) ?_
        refine v_ret X hR dJ1_indexOfChar_4cfef_32 rfl ?_
        exact ⟨rfl, Or.inr ⟨fun x hx => hin x (by omega), rfl⟩⟩
      · skip
        have hk := nI_len (by omega) (by omega) h10
        refine v_aload_n X dJ1_indexOfChar_4cfef_13 rfl ?_
        refine v_iload X dJ1_indexOfChar_4cfef_14 rfl ?_
        refine v_sald X hi rfl hk dJ1_indexOfChar_4cfef_16 ?_
        refine v_iload X dJ1_indexOfChar_4cfef_17 rfl ?_
        refine v_icmp_ne (tgt := 25) X dJ1_indexOfChar_4cfef_19 (by decide) (fun h19 => ?_) (fun h19 => ?_)
        · skip
          refine v_iincE X dJ1_indexOfChar_4cfef_25 rfl (nI_inc k) ?_
          show V G Z _ 28 [_, _, _, _, _, _] _
          refine v_goto (tgt := 7) X dJ1_indexOfChar_4cfef_28 (by decide) ?_
          exact ih (k + 1) (by omega) (by omega) (fun x hx => by
            rcases Nat.lt_or_ge x k with h | h
            · exact hin x h
            · rw [show x = k by omega]; exact h19)
        · skip
          refine v_iload X dJ1_indexOfChar_4cfef_22 rfl ?_
          refine v_ret X hR dJ1_indexOfChar_4cfef_24 rfl ?_
          exact ⟨rfl, Or.inl ⟨k, hk, h19, rfl⟩⟩
  refine v_iload_n X dJ1_indexOfChar_4cfef_0 rfl ?_
  refine v_i2b X dJ1_indexOfChar_4cfef_1 ?_
  refine v_top (y := nI c) (by
    have h3 : ∀ n, n < 128 → (nI n).toInt8.toInt32 = nI n := by decide
    exact h3 c hc) ?_
  refine v_istore X dJ1_indexOfChar_4cfef_2 (Nat.le_of_ble_eq_true rfl) ?_
  show V G Z _ 4 [_, _, _, _, _, _] _
  refine v_iload_n X dJ1_indexOfChar_4cfef_4 rfl ?_
  refine v_istore X dJ1_indexOfChar_4cfef_5 (Nat.le_of_ble_eq_true rfl) ?_
  show V G Z _ 7 [_, _, _, _, _, _] _
  exact loop ((strI i).2.2.2.length + 1) 0 (by omega) (by omega) (fun x h => by omega)
set_option maxHeartbeats 4000000 in
set_option maxRecDepth 100000 in
theorem c_indexOf1 (G : GT) {σ : Sg} {i c : Nat} (hi : i < 4) (hc : c < 128) : MC G yJ1_indexOf_4cfef cJ1_indexOf_4cfef 4 .int 1 [.ref (G.2.2.2 (5 + i)), .int (nI c), .int (nI 0), .int (nI (strI i).2.2.2.length)] σ (fun r τ => τ = σ ∧ ((∃ k, k < (strI i).2.2.2.length ∧ (strI i).2.2.2.getD k 0 = nI c ∧ r = nI k) ∨ ((∀ k, k < (strI i).2.2.2.length → (strI i).2.2.2.getD k 0 ≠ nI c) ∧ r = -1))) := by
  refine MC_of (by decide) (ca1 rfl (ca1 rfl (ca1 rfl (ca1 rfl ca0)))) (Nat.le_of_ble_eq_true rfl) ?_
  intro Z X hR
  show V G Z σ 0 [some (.ref (G.2.2.2 (5 + i))), some (.int (nI c)), some (.int (nI 0)), some (.int (nI (strI i).2.2.2.length))] []
  have hle := str_len i hi
  have hpos : 0 < (strI i).2.2.2.length := by
    have : ∀ i, i < 4 → 0 < (strI i).2.2.2.length := by decide
    exact this i hi
  refine v_iload_n X dJ1_indexOf_4cfef_0 rfl ?_
  refine v_cals X (c_canEncode G _) cs_J1_88 (by decide) rfl (by rfl) (Nat.le_of_ble_eq_true rfl) dJ1_indexOf_4cfef_1 (fun r τ hp => ?_)
  obtain ⟨rfl, rfl⟩ := hp
  have hen : decide (¬ nI c < 0 ∧ ¬ nI 255 < nI c) = true := decide_eq_true ⟨nI_pos (by omega), nI_nlt (by omega) (by omega)⟩
  rw [hen]
  refine v_if_ne (tgt := 9) X dJ1_indexOf_4cfef_4 (by decide) (fun h4 => ?_) (fun h4 => ?_)
  · skip
    refine v_iload_n X dJ1_indexOf_4cfef_9 rfl ?_
    refine v_iconst (v := nI 0) X dJ1_indexOf_4cfef_10 (by decide) ?_
    refine v_mmax X (by decide) cs_J1_92 (Nat.le_of_ble_eq_true rfl) dJ1_indexOf_4cfef_11 ?_
    refine v_top (y := nI 0) (by decide) ?_
    refine v_istore_n X dJ1_indexOf_4cfef_14 (Nat.le_of_ble_eq_true rfl) ?_
    show V G Z _ 15 [_, _, _, _] _
    refine v_iload_n X dJ1_indexOf_4cfef_15 rfl ?_
    refine v_aload_n X dJ1_indexOf_4cfef_16 rfl ?_
    refine v_slen X hi dJ1_indexOf_4cfef_17 ?_
    refine v_mmin X (by decide) cs_J1_38 (Nat.le_of_ble_eq_true rfl) dJ1_indexOf_4cfef_18 ?_
    refine v_top (y := nI (strI i).2.2.2.length) (by simp) ?_
    refine v_istore_n X dJ1_indexOf_4cfef_21 (Nat.le_of_ble_eq_true rfl) ?_
    show V G Z _ 22 [_, _, _, _] _
    refine v_iload_n X dJ1_indexOf_4cfef_22 rfl ?_
    refine v_iload_n X dJ1_indexOf_4cfef_23 rfl ?_
    refine v_icmp_lt (tgt := 29) X dJ1_indexOf_4cfef_24 (by decide) (fun h24 => ?_) (fun h24 => ?_)
    · skip
      refine v_aload_n X dJ1_indexOf_4cfef_29 rfl ?_
      refine v_iload_n X dJ1_indexOf_4cfef_30 rfl ?_
      refine v_iload_n X dJ1_indexOf_4cfef_31 rfl ?_
      refine v_iload_n X dJ1_indexOf_4cfef_32 rfl ?_
      refine v_cals X (c_indexOfChar G hi hc) cs_J1_95 (by decide) rfl (by rfl) (Nat.le_of_ble_eq_true rfl) dJ1_indexOf_4cfef_33 (fun r τ hp => ?_)
      obtain ⟨rfl, hp⟩ := hp
      refine v_ret X hR dJ1_indexOf_4cfef_36 rfl ?_
      exact ⟨rfl, hp⟩
    · skip
      exact absurd (nI_ltn (by omega) (by omega) h24) (by omega)
  · skip
    exact absurd h4 (by decide)

set_option maxHeartbeats 4000000 in
set_option maxRecDepth 100000 in
theorem c_indexOf2 (G : GT) {σ : Sg} {i c : Nat} (hi : i < 4) (hc : c < 128) : MC G yJ0_indexOf_7cf53 cJ0_indexOf_7cf53 3 .int 2 [.ref (G.2.2.2 (1 + i)), .int (nI c), .int (nI 0)] σ (fun r τ => τ = σ ∧ ((∃ k, k < (strI i).2.2.2.length ∧ (strI i).2.2.2.getD k 0 = nI c ∧ r = nI k) ∨ ((∀ k, k < (strI i).2.2.2.length → (strI i).2.2.2.getD k 0 ≠ nI c) ∧ r = -1))) := by
  refine MC_of (by decide) (ca1 rfl (ca1 rfl (ca1 rfl ca0))) (Nat.le_of_ble_eq_true rfl) ?_
  intro Z X hR
  show V G Z σ 0 [some (.ref (G.2.2.2 (1 + i))), some (.int (nI c)), some (.int (nI 0))] []
  refine v_aload_n X dJ0_indexOf_7cf53_0 rfl ?_
  refine v_calz X hi (c_isLatin1 G hi) cv_J0_492 rfl (by decide) rfl (by rfl) (Nat.le_of_ble_eq_true rfl) dJ0_indexOf_7cf53_1 (fun r τ hp => ?_)
  obtain ⟨rfl, rfl⟩ := hp
  refine v_if_eq (tgt := 23) X dJ0_indexOf_7cf53_4 (by decide) (fun h4 => ?_) (fun h4 => ?_)
  · skip
    exact absurd h4 (by decide)
  · skip
    refine v_aload_n X dJ0_indexOf_7cf53_7 rfl ?_
    refine v_value X hi fs_J0_9 dJ0_indexOf_7cf53_8 ?_
    refine v_iload_n X dJ0_indexOf_7cf53_11 rfl ?_
    refine v_iload_n X dJ0_indexOf_7cf53_12 rfl ?_
    refine v_aload_n X dJ0_indexOf_7cf53_13 rfl ?_
    refine v_calz X hi (c_jlength G hi) cv_J0_505 rfl (by decide) rfl (by rfl) (Nat.le_of_ble_eq_true rfl) dJ0_indexOf_7cf53_14 (fun r τ hp => ?_)
    obtain ⟨rfl, rfl⟩ := hp
    refine v_cals X (c_indexOf1 G hi hc) cs_J0_637 (by decide) rfl (by rfl) (Nat.le_of_ble_eq_true rfl) dJ0_indexOf_7cf53_17 (fun r τ hp => ?_)
    obtain ⟨rfl, hp⟩ := hp
    refine v_goto (tgt := 36) X dJ0_indexOf_7cf53_20 (by decide) ?_
    refine v_ret X hR dJ0_indexOf_7cf53_36 rfl ?_
    exact ⟨rfl, hp⟩

set_option maxHeartbeats 4000000 in
set_option maxRecDepth 100000 in
theorem c_indexOf (G : GT) {σ : Sg} {i c : Nat} (hi : i < 4) (hc : c < 128) : MC G yJ0_indexOf_0f7a4 cJ0_indexOf_0f7a4 2 .int 3 [.ref (G.2.2.2 (1 + i)), .int (nI c)] σ (fun r τ => τ = σ ∧ ((∃ k, k < (strI i).2.2.2.length ∧ (strI i).2.2.2.getD k 0 = nI c ∧ r = nI k) ∨ ((∀ k, k < (strI i).2.2.2.length → (strI i).2.2.2.getD k 0 ≠ nI c) ∧ r = -1))) := by
  refine MC_of (by decide) (ca1 rfl (ca1 rfl ca0)) (Nat.le_of_ble_eq_true rfl) ?_
  intro Z X hR
  show V G Z σ 0 [some (.ref (G.2.2.2 (1 + i))), some (.int (nI c))] []
  refine v_aload_n X dJ0_indexOf_0f7a4_0 rfl ?_
  refine v_iload_n X dJ0_indexOf_0f7a4_1 rfl ?_
  refine v_iconst (v := nI 0) X dJ0_indexOf_0f7a4_2 (by decide) ?_
  refine v_calz X hi (c_indexOf2 G hi hc) cv_J0_633 rfl (by decide) rfl (by rfl) (Nat.le_of_ble_eq_true rfl) dJ0_indexOf_0f7a4_3 (fun r τ hp => ?_)
  obtain ⟨rfl, hp⟩ := hp
  refine v_ret X hR dJ0_indexOf_0f7a4_6 rfl ?_
  exact ⟨rfl, hp⟩
end
section
/-! what is computed along a list, part by part -/
section ACCU
variable {α β : Type} (g : List β → α → β)
theorem ac_len : ∀ (Q : List α) (l : List β), (Q.foldl (fun acc a => acc ++ [g acc a]) l).length = l.length + Q.length
  | [], l => by simp
  | a :: Q, l => by rw [List.foldl_cons, ac_len Q]; simp; omega
theorem ac_pre0 : ∀ (Q : List α) (l : List β) (i : Nat), i < l.length → (Q.foldl (fun acc a => acc ++ [g acc a]) l)[i]? = l[i]?
  | [], l, i, _ => rfl
  | a :: Q, l, i, h => by
    rw [List.foldl_cons, ac_pre0 Q _ i (by simp; omega), List.getElem?_append_left h]
theorem ac_pre {P : List α} {k i : Nat} (hi : i < k) (hk : k ≤ P.length) : (P.foldl (fun acc a => acc ++ [g acc a]) [])[i]? = ((P.take k).foldl (fun acc a => acc ++ [g acc a]) [])[i]? := by
  rw (occs := .pos [1]) [← List.take_append_drop k P]
  rw [List.foldl_append]
  apply ac_pre0
  rw [ac_len]; simp; omega
theorem ac_at {P : List α} {k : Nat} {p : α} (hp : P[k]? = some p) : (P.foldl (fun acc a => acc ++ [g acc a]) [])[k]? = some (g ((P.take k).foldl (fun acc a => acc ++ [g acc a]) []) p) := by
  have hk := (List.getElem?_eq_some_iff.mp hp).1
  have he : P = P.take k ++ p :: P.drop (k + 1) := by
    have h1 := List.take_append_drop k P
    have h2 : P.drop k = p :: P.drop (k + 1) := by
      have := List.drop_eq_getElem_cons hk
      rw [(List.getElem?_eq_some_iff.mp hp).2] at this
      exact this
    rw [h2] at h1
    exact h1.symm
  have hl : ((P.take k).foldl (fun acc a => acc ++ [g acc a]) []).length = k := by rw [ac_len]; simp; omega
  rw (occs := .pos [1]) [he]
  rw [List.foldl_append, List.foldl_cons, ac_pre0 g _ _ k (by simp [hl])]
  rw [List.getElem?_append_right (by omega), hl]
  simp
end ACCU
theorem lnL_rec {P : Sen} {k : Nat} {p : Pt} (hw : wf P) (hp : P[k]? = some p) : (lnL P).getD k 0 = if p.1 < 2 then 1 else (lnL P).getD p.2.1 0 + (lnL P).getD p.2.2 0 + 3 := by
  have hk := (List.getElem?_eq_some_iff.mp hp).1
  have h := ac_at (fun (acc : List Nat) (p : Pt) => if p.1 < 2 then 1 else acc.getD p.2.1 0 + acc.getD p.2.2 0 + 3) hp
  have hpre := fun i (hi : i < k) => ac_pre (fun (acc : List Nat) (p : Pt) => if p.1 < 2 then 1 else acc.getD p.2.1 0 + acc.getD p.2.2 0 + 3) (P := P) hi (Nat.le_of_lt hk)
  have e : ∀ Q : Sen, lnL Q = Q.foldl (fun acc a => acc ++ [(fun (acc : List Nat) (p : Pt) => if p.1 < 2 then 1 else acc.getD p.2.1 0 + acc.getD p.2.2 0 + 3) acc a]) [] := fun Q => rfl
  rw [← e, ← e] at h
  simp only [← e] at hpre
  rw [List.getD_eq_getElem?_getD, h]
  simp only [Option.getD_some]
  by_cases h2 : p.1 < 2
  · rw [if_pos h2, if_pos h2]
  · rw [if_neg h2, if_neg h2]
    rcases hw k p hp with ⟨z, -⟩ | ⟨z, -⟩ | ⟨-, -, ha, hb⟩
    · omega
    · omega
    · simp only [List.getD_eq_getElem?_getD]
      rw [hpre _ ha, hpre _ hb]
theorem rwL_rec {P : Sen} {k : Nat} {p : Pt} (hw : wf P) (hp : P[k]? = some p) : (rwL P).getD k 0 = rwV (rwL P) p := by
  have hk := (List.getElem?_eq_some_iff.mp hp).1
  have h := ac_at rwV hp
  have hpre := fun i (hi : i < k) => ac_pre rwV (P := P) hi (Nat.le_of_lt hk)
  have e : ∀ Q : Sen, rwL Q = Q.foldl (fun acc a => acc ++ [rwV acc a]) [] := fun Q => rfl
  rw [← e, ← e] at h
  simp only [← e] at hpre
  rw [List.getD_eq_getElem?_getD, h]
  simp only [Option.getD_some]
  unfold rwV
  rcases hw k p hp with ⟨z, -⟩ | ⟨z, -⟩ | ⟨z, -, ha, hb⟩
  · rw [if_pos z, if_pos z]
  · rw [if_neg (by omega), if_neg (by omega), if_neg (by omega), if_neg (by omega), if_neg (by omega), if_neg (by omega), if_neg (by omega), if_neg (by omega)]
  · simp only [List.getD_eq_getElem?_getD]
    rw [hpre _ ha, hpre _ hb]
theorem lnL_le {P : Sen} (hw : wf P) : ∀ (k : Nat), k < P.length → (lnL P).getD k 0 + 3 ≤ 4 * 2 ^ k := by
  intro k
  induction k using Nat.strongRecOn with
  | _ k ih =>
    intro hk
    obtain ⟨p, hp⟩ : ∃ p, P[k]? = some p := ⟨P[k], List.getElem?_eq_getElem hk⟩
    rw [lnL_rec hw hp]
    have hpos : 1 ≤ 2 ^ k := Nat.one_le_two_pow
    by_cases h2 : p.1 < 2
    · rw [if_pos h2]; omega
    · rw [if_neg h2]
      rcases hw k p hp with ⟨z, -⟩ | ⟨z, -⟩ | ⟨-, -, ha, hb⟩
      · omega
      · omega
      · have h1 := ih _ ha (by omega)
        have h3 := ih _ hb (by omega)
        have e1 : 2 ^ p.2.1 ≤ 2 ^ (k - 1) := Nat.pow_le_pow_right (by decide) (by omega)
        have e2 : 2 ^ p.2.2 ≤ 2 ^ (k - 1) := Nat.pow_le_pow_right (by decide) (by omega)
        have e3 : 2 ^ k = 2 * 2 ^ (k - 1) := by
          obtain ⟨j, rfl⟩ : ∃ j, k = j + 1 := ⟨k - 1, by omega⟩
          rw [Nat.pow_succ]; simp; omega
        omega
theorem lnL_lt {P : Sen} (hw : wf P) (hl : P.length ≤ 11) {k : Nat} (hk : k < P.length) : (lnL P).getD k 0 < 4096 := by
  have h := lnL_le hw k hk
  have : 2 ^ k ≤ 2 ^ 10 := Nat.pow_le_pow_right (by decide) (by omega)
  omega
/-- the sign at place a of part k, written out -/
def sgA (P : Sen) : Nat → Nat → Nat → Int32
  | 0, _, _ => 70
  | f + 1, k, a => if (P.getD k (1, 0, 0)).1 < 2 then (if (P.getD k (1, 0, 0)).1 = 0 then nI (112 + (P.getD k (1, 0, 0)).2.1) else 70)
    else if a = 0 then 40 else if a = (lnL P).getD (P.getD k (1, 0, 0)).2.1 0 + 1 then (if (P.getD k (1, 0, 0)).1 = 2 then 38 else if (P.getD k (1, 0, 0)).1 = 3 then 124 else 62)
    else if a = (lnL P).getD (P.getD k (1, 0, 0)).2.1 0 + (lnL P).getD (P.getD k (1, 0, 0)).2.2 0 + 2 then 41
    else if a ≤ (lnL P).getD (P.getD k (1, 0, 0)).2.1 0 then sgA P f (P.getD k (1, 0, 0)).2.1 (a - 1) else sgA P f (P.getD k (1, 0, 0)).2.2 (a - (lnL P).getD (P.getD k (1, 0, 0)).2.1 0 - 2)
/-- how many signs a Sentence has, written out -/
def sgN (P : Sen) : Nat := if 0 < P.length then (lnL P).getD (P.length - 1) 0 else 0
end
section
set_option maxHeartbeats 4000000 in
set_option maxRecDepth 100000 in
theorem c_isTrueByRows (G : GT) {σ : Sg} {j : Nat} (hj : j < 20) {P : Sen} (hP : hs σ j P) : MC G yX1_isTrueByRows cX1_isTrueByRows 1 .boolean 1 [.ref (G.2.2.1 (7 * j))] σ (fun r τ => τ = σ ∧ r = bI (decide (0 < P.length ∧ (rwL P).getD (P.length - 1) 0 = 65535))) := by
  refine MC_of (by decide) (ca1 rfl ca0) (Nat.le_of_ble_eq_true rfl) ?_
  intro Z X hR
  show V G Z σ 0 [some (.ref (G.2.2.1 (7 * j)))] []
  obtain ⟨p1, p2, p3, p4, p5⟩ := hP
  refine v_aload_n X dX1_isTrueByRows_0 rfl ?_
  refine v_geti X fl_X1_9 (shX1_0 (by first | assumption | omega)) dX1_isTrueByRows_1 ?_
  refine v_top p3 ?_
  refine v_if_le (tgt := 25) X dX1_isTrueByRows_4 (by decide) (fun h4 => ?_) (fun h4 => ?_)
  · skip
    have h0 := nI_l0 (by omega) h4
    refine v_iconst (v := nI 0) X dX1_isTrueByRows_25 (by decide) ?_
    refine v_ret X hR dX1_isTrueByRows_26 rfl ?_
    exact ⟨rfl, bI_f (fun q => by omega)⟩
  · skip
    have h0 := nI_n0 (by omega) h4
    refine v_aload_n X dX1_isTrueByRows_7 rfl ?_
    refine v_getr X fl_X1_32 (shX1_6 (by first | assumption | omega)) dX1_isTrueByRows_8 ?_
    refine v_aload_n X dX1_isTrueByRows_11 rfl ?_
    refine v_cali X (c_root G hj) cv_X1_61 (obX1 (by first | assumption | omega)) rfl (by decide) rfl (by rfl) (Nat.le_of_ble_eq_true rfl) dX1_isTrueByRows_12 (fun r τ hp => ?_)
    obtain ⟨rfl, rfl⟩ := hp
    refine v_ialdE X (arX1_6 (by first | assumption | omega)) (by rw [p3, nI_s1 h0]) (show P.length - 1 < 11 by omega) dX1_isTrueByRows_15 ?_
    refine v_ldci X ck_X1_53 dX1_isTrueByRows_16 ?_
    rw [(p5 (P.length - 1) (by omega)).2]
    refine v_icmp_ne (tgt := 25) X dX1_isTrueByRows_18 (by decide) (fun h18 => ?_) (fun h18 => ?_)
    · skip
      refine v_iconst (v := nI 0) X dX1_isTrueByRows_25 (by decide) ?_
      refine v_ret X hR dX1_isTrueByRows_26 rfl ?_
      exact ⟨rfl, bI_f (fun q => h18 q.2)⟩
    · skip
      refine v_iconst (v := nI 1) X dX1_isTrueByRows_21 (by decide) ?_
      refine v_goto (tgt := 26) X dX1_isTrueByRows_22 (by decide) ?_
      refine v_ret X hR dX1_isTrueByRows_26 rfl ?_
      exact ⟨rfl, bI_t ⟨h0, h18⟩⟩

set_option maxHeartbeats 4000000 in
set_option maxRecDepth 100000 in
theorem c_signs (G : GT) {σ : Sg} {j : Nat} (hj : j < 20) {P : Sen} (hP : hs σ j P) : MC G yX1_signs cX1_signs 1 .int 1 [.ref (G.2.2.1 (7 * j))] σ (fun r τ => τ = σ ∧ r = nI (sgN P)) := by
  refine MC_of (by decide) (ca1 rfl ca0) (Nat.le_of_ble_eq_true rfl) ?_
  intro Z X hR
  show V G Z σ 0 [some (.ref (G.2.2.1 (7 * j)))] []
  obtain ⟨p1, p2, p3, p4, p5⟩ := hP
  refine v_aload_n X dX1_signs_0 rfl ?_
  refine v_geti X fl_X1_9 (shX1_0 (by first | assumption | omega)) dX1_signs_1 ?_
  refine v_top p3 ?_
  refine v_if_le (tgt := 19) X dX1_signs_4 (by decide) (fun h4 => ?_) (fun h4 => ?_)
  · skip
    have h0 := nI_l0 (by omega) h4
    refine v_iconst (v := nI 0) X dX1_signs_19 (by decide) ?_
    refine v_ret X hR dX1_signs_20 rfl ?_
    exact ⟨rfl, by rw [sgN, if_neg (by omega)]⟩
  · skip
    have h0 := nI_n0 (by omega) h4
    refine v_aload_n X dX1_signs_7 rfl ?_
    refine v_getr X fl_X1_29 (shX1_5 (by first | assumption | omega)) dX1_signs_8 ?_
    refine v_aload_n X dX1_signs_11 rfl ?_
    refine v_cali X (c_root G hj) cv_X1_61 (obX1 (by first | assumption | omega)) rfl (by decide) rfl (by rfl) (Nat.le_of_ble_eq_true rfl) dX1_signs_12 (fun r τ hp => ?_)
    obtain ⟨rfl, rfl⟩ := hp
    refine v_ialdE X (arX1_5 (by first | assumption | omega)) (by rw [p3, nI_s1 h0]) (show P.length - 1 < 11 by omega) dX1_signs_15 ?_
    refine v_goto (tgt := 20) X dX1_signs_16 (by decide) ?_
    refine v_ret X hR dX1_signs_20 rfl ?_
    exact ⟨rfl, by rw [sgN, if_pos h0, (p5 (P.length - 1) (by omega)).1]⟩

theorem str_3 : ∀ a, a < 4 → (strI 3).2.2.2.getD a 0 = nI (112 + a) := by decide
theorem str_0 : ∀ a, a < 4 → (strI 0).2.2.2.getD a 0 = nI (112 + a) := by decide
theorem str_2 : ∀ t, t < 5 → 2 ≤ t → (strI 2).2.2.2.getD (t - 2) 0 = if t = 2 then 38 else if t = 3 then 124 else 62 := by decide
set_option maxHeartbeats 4000000 in
set_option maxRecDepth 100000 in
theorem c_signAt (G : GT) {σ : Sg} {j : Nat} (hj : j < 20) {P : Sen} (hP : hs σ j P) (h0 : 0 < P.length) (place : Int32) : MC G yX1_signAt cX1_signAt 7 .int 4 [.ref (G.2.2.1 (7 * j)), .int place] σ (fun r τ => τ = σ ∧ ((place < 0 ∧ r = -6) ∨ (nI (sgN P) ≤ place ∧ r = -6) ∨ ∃ a, a < sgN P ∧ place = nI a ∧ r = sgA P 11 (P.length - 1) a)) := by
  refine MC_of (by decide) (ca1 rfl (ca1 rfl ca0)) (Nat.le_of_ble_eq_true rfl) ?_
  intro Z X hR
  show V G Z σ 0 [some (.ref (G.2.2.1 (7 * j))), some (.int place), none, none, none, none, none] []
  have hP0 := hP
  obtain ⟨p1, p2, p3, p4, p5⟩ := hP
  have loop : ∀ (f k a d : Nat) (l5 l6 : Option Value) (a0 : Nat), d + f = 11 → k < f → k < P.length → a < (lnL P).getD k 0 → (a0 < sgN P ∧ place = nI a0 ∧ sgA P f k a = sgA P 11 (P.length - 1) a0) → V G Z σ 25 [some (.ref (G.2.2.1 (7 * j))), some (.int place), some (.int (nI k)), some (.int (nI a)), some (.int (nI d)), l5, l6] [] := by
    intro f
    induction f with
    | zero => intro k a d l5 l6 a0 h1 h2; omega
    | succ f ih =>
      intro k a d l5 l6 a0 hd hkf hk ha hres
      obtain ⟨r1, r2, r3⟩ := hres
      obtain ⟨p, hp⟩ : ∃ p, P[k]? = some p := ⟨P[k], List.getElem?_eq_getElem hk⟩
      have hD : P.getD k (1, 0, 0) = p := by rw [List.getD_eq_getElem?_getD, hp]; rfl
      have hok := p2 k p hp
      have hrec := lnL_rec p2 hp
      have hlt := lnL_lt p2 p1 hk
      obtain ⟨e1, e2, e3⟩ := p4 k p hp
      have e1 : σ (7 * j + 1) k = nI p.1 := e1
      have hk4 := hok.k4
      have out : p.1 < 2 → V G Z σ 150 [some (.ref (G.2.2.1 (7 * j))), some (.int place), some (.int (nI k)), some (.int (nI a)), some (.int (nI d)), l5, l6] [] := by
        intro h2
        rw [sgA, hD, if_pos h2] at r3
        refine v_aload_n X dX1_signAt_150 rfl ?_
        refine v_getr X fl_X1_19 (shX1_2 (by first | assumption | omega)) dX1_signAt_151 ?_
        refine v_iload_n X dX1_signAt_154 rfl ?_
        refine v_ialdE X (arX1_2 (by first | assumption | omega)) rfl (by first | assumption | omega) dX1_signAt_155 ?_
        rw [e1]
        refine v_if_ne (tgt := 173) X dX1_signAt_156 (by decide) (fun h156 => ?_) (fun h156 => ?_)
        · skip
          have z : ¬ p.1 = 0 := fun z => h156 (by rw [z]; rfl)
          rw [if_neg z] at r3
          refine v_bipush (v := nI 70) X dX1_signAt_173 (by decide) ?_
          refine v_ret X hR dX1_signAt_175 rfl ?_
          exact ⟨rfl, Or.inr (Or.inr ⟨a0, r1, r2, r3⟩)⟩
        · skip
          have z : p.1 = 0 := nI_eqm (b := 0) (by omega) (by omega) h156
          rw [if_pos z] at r3
          have ha4 : p.2.1 < 4 := by
            rcases hok with ⟨-, q, -⟩ | ⟨q, -⟩ | ⟨q, -⟩ <;> omega
          have e2 : σ (7 * j + 2) k = nI p.2.1 := by rw [e2, pA, if_neg (by omega)]
          refine v_ldcs (i := 3) X (by decide) rfl rfl dX1_signAt_159 ?_
          refine v_aload_n X dX1_signAt_161 rfl ?_
          refine v_getr X fl_X1_23 (shX1_3 (by first | assumption | omega)) dX1_signAt_162 ?_
          refine v_iload_n X dX1_signAt_165 rfl ?_
          refine v_ialdE X (arX1_3 (by first | assumption | omega)) rfl (by first | assumption | omega) dX1_signAt_166 ?_
          rw [e2]
          refine v_calz X (i := 3) (by decide) (c_charAt G (k := p.2.1) (by decide) ha4) cv_X1_77 rfl (by decide) rfl (by rfl) (Nat.le_of_ble_eq_true rfl) dX1_signAt_167 (fun r τ hp => ?_)
          obtain ⟨rfl, rfl⟩ := hp
          rw [str_3 _ ha4]
          refine v_goto (tgt := 175) X dX1_signAt_170 (by decide) ?_
          refine v_ret X hR dX1_signAt_175 rfl ?_
          exact ⟨rfl, Or.inr (Or.inr ⟨a0, r1, r2, r3⟩)⟩
      refine v_iload X dX1_signAt_25 rfl ?_
      refine v_bipush (v := nI 11) X dX1_signAt_27 (by decide) ?_
      refine v_icmp_ge (tgt := 150) X dX1_signAt_29 (by decide) (fun h29 => ?_) (fun h29 => ?_)
      · skip
        exact absurd (nI_lem (a := 11) (by decide) (by omega) h29) (by omega)
      · skip
        refine v_aload_n X dX1_signAt_32 rfl ?_
        refine v_getr X fl_X1_19 (shX1_2 (by first | assumption | omega)) dX1_signAt_33 ?_
        refine v_iload_n X dX1_signAt_36 rfl ?_
        refine v_ialdE X (arX1_2 (by first | assumption | omega)) rfl (by first | assumption | omega) dX1_signAt_37 ?_
        refine v_iconst (v := nI 2) X dX1_signAt_38 (by decide) ?_
        rw [e1]
        refine v_icmp_lt (tgt := 150) X dX1_signAt_39 (by decide) (fun h39 => ?_) (fun h39 => ?_)
        · skip
          exact out (nI_ltm (b := 2) (by omega) (by decide) h39)
        · skip
          have h2 : ¬ p.1 < 2 := by have := nI_ltn (b := 2) (by omega) (by decide) h39; omega
          rw [if_neg h2] at hrec
          rw [sgA, hD, if_neg h2] at r3
          have hab : p.2.1 < k ∧ p.2.2 < k := by
            rcases hok with ⟨q, -⟩ | ⟨q, -⟩ | ⟨-, -, q1, q2⟩
            · omega
            · omega
            · exact ⟨q1, q2⟩
          have e2 : σ (7 * j + 2) k = nI p.2.1 := by rw [e2, pA, if_neg (by omega)]
          have e3 : σ (7 * j + 3) k = nI p.2.2 := by rw [e3, pB, if_neg h2]
          have la := (p5 p.2.1 (by omega)).1
          have lb := (p5 p.2.2 (by omega)).1
          refine v_aload_n X dX1_signAt_42 rfl ?_
          refine v_getr X fl_X1_29 (shX1_5 (by first | assumption | omega)) dX1_signAt_43 ?_
          refine v_aload_n X dX1_signAt_46 rfl ?_
          refine v_getr X fl_X1_23 (shX1_3 (by first | assumption | omega)) dX1_signAt_47 ?_
          refine v_iload_n X dX1_signAt_50 rfl ?_
          refine v_ialdE X (arX1_3 (by first | assumption | omega)) rfl (by first | assumption | omega) dX1_signAt_51 ?_
          refine v_ialdE X (arX1_5 (by first | assumption | omega)) e2 (show p.2.1 < 11 by omega) dX1_signAt_52 ?_
          rw [la]
          refine v_iconst (v := nI 1) X dX1_signAt_53 (by decide) ?_
          refine v_iadd X dX1_signAt_54 ?_
          refine v_top (nI_add _ _) ?_
          refine v_istore X dX1_signAt_55 (Nat.le_of_ble_eq_true rfl) ?_
          show V G Z _ 57 [_, _, _, _, _, _, _] _
          refine v_iload X dX1_signAt_57 rfl ?_
          refine v_aload_n X dX1_signAt_59 rfl ?_
          refine v_getr X fl_X1_29 (shX1_5 (by first | assumption | omega)) dX1_signAt_60 ?_
          refine v_aload_n X dX1_signAt_63 rfl ?_
          refine v_getr X fl_X1_26 (shX1_4 (by first | assumption | omega)) dX1_signAt_64 ?_
          refine v_iload_n X dX1_signAt_67 rfl ?_
          refine v_ialdE X (arX1_4 (by first | assumption | omega)) rfl (by first | assumption | omega) dX1_signAt_68 ?_
          refine v_ialdE X (arX1_5 (by first | assumption | omega)) e3 (show p.2.2 < 11 by omega) dX1_signAt_69 ?_
          rw [lb]
          refine v_iadd X dX1_signAt_70 ?_
          refine v_top (nI_add _ _) ?_
          refine v_iconst (v := nI 1) X dX1_signAt_71 (by decide) ?_
          refine v_iadd X dX1_signAt_72 ?_
          refine v_top (nI_add _ _) ?_
          refine v_istore X dX1_signAt_73 (Nat.le_of_ble_eq_true rfl) ?_
          show V G Z _ 75 [_, _, _, _, _, _, _] _
          refine v_iload_n X dX1_signAt_75 rfl ?_
          refine v_if_ne (tgt := 82) X dX1_signAt_76 (by decide) (fun h76 => ?_) (fun h76 => ?_)
          · skip
            have za : ¬ a = 0 := fun z => h76 (by rw [z]; rfl)
            rw [if_neg za] at r3
            refine v_iload_n X dX1_signAt_82 rfl ?_
            refine v_iload X dX1_signAt_83 rfl ?_
            refine v_icmp_ne (tgt := 102) X dX1_signAt_85 (by decide) (fun h85 => ?_) (fun h85 => ?_)
            · skip
              have zb := nI_eqn (by omega) (by omega) h85
              rw [if_neg zb] at r3
              refine v_iload_n X dX1_signAt_102 rfl ?_
              refine v_iload X dX1_signAt_103 rfl ?_
              refine v_icmp_ne (tgt := 111) X dX1_signAt_105 (by decide) (fun h105 => ?_) (fun h105 => ?_)
              · skip
                have zc := nI_eqn (by omega) (by omega) h105
                rw [if_neg (by omega)] at r3
                refine v_iload_n X dX1_signAt_111 rfl ?_
                refine v_iload X dX1_signAt_112 rfl ?_
                refine v_icmp_ge (tgt := 130) X dX1_signAt_114 (by decide) (fun h114 => ?_) (fun h114 => ?_)
                · skip
                  have zd := nI_lem (by omega) (by omega) h114
                  rw [if_neg (by omega)] at r3
                  refine v_iload_n X dX1_signAt_130 rfl ?_
                  refine v_iload X dX1_signAt_131 rfl ?_
                  refine v_iconst (v := nI 1) X dX1_signAt_133 (by decide) ?_
                  refine v_iadd X dX1_signAt_134 ?_
                  refine v_top (nI_add _ _) ?_
                  refine v_isub X dX1_signAt_135 ?_
                  refine v_top (pk_sub (by omega)) ?_
                  refine v_istore_n X dX1_signAt_136 (Nat.le_of_ble_eq_true rfl) ?_
                  show V G Z _ 137 [_, _, _, _, _, _, _] _
                  refine v_aload_n X dX1_signAt_137 rfl ?_
                  refine v_getr X fl_X1_26 (shX1_4 (by first | assumption | omega)) dX1_signAt_138 ?_
                  refine v_iload_n X dX1_signAt_141 rfl ?_
                  refine v_ialdE X (arX1_4 (by first | assumption | omega)) rfl (by first | assumption | omega) dX1_signAt_142 ?_
                  rw [e3]
                  refine v_istore_n X dX1_signAt_143 (Nat.le_of_ble_eq_true rfl) ?_
                  show V G Z _ 144 [_, _, _, _, _, _, _] _
                  refine v_iincE X dX1_signAt_144 rfl (nI_inc d) ?_
                  show V G Z _ 147 [_, _, _, _, _, _, _] _
                  refine v_goto (tgt := 25) X dX1_signAt_147 (by decide) ?_
                  refine ih p.2.2 _ (d + 1) _ _ a0 (by omega) (by omega) (by omega) (by omega) ⟨r1, r2, ?_⟩
                  rw [show ∀ x y : Nat, a - (x + 1 + 1) = a - x - 2 from fun x y => by omega] <;> first | exact r3 | exact 0
                · skip
                  have zd := nI_len (by omega) (by omega) h114
                  rw [if_pos (by omega)] at r3
                  refine v_iincE X dX1_signAt_117 rfl (nI_dec (by omega)) ?_
                  show V G Z _ 120 [_, _, _, _, _, _, _] _
                  refine v_aload_n X dX1_signAt_120 rfl ?_
                  refine v_getr X fl_X1_23 (shX1_3 (by first | assumption | omega)) dX1_signAt_121 ?_
                  refine v_iload_n X dX1_signAt_124 rfl ?_
                  refine v_ialdE X (arX1_3 (by first | assumption | omega)) rfl (by first | assumption | omega) dX1_signAt_125 ?_
                  rw [e2]
                  refine v_istore_n X dX1_signAt_126 (Nat.le_of_ble_eq_true rfl) ?_
                  show V G Z _ 127 [_, _, _, _, _, _, _] _
                  refine v_goto (tgt := 144) X dX1_signAt_127 (by decide) ?_
                  refine v_iincE X dX1_signAt_144 rfl (nI_inc d) ?_
                  show V G Z _ 147 [_, _, _, _, _, _, _] _
                  refine v_goto (tgt := 25) X dX1_signAt_147 (by decide) ?_
                  exact ih p.2.1 (a - 1) (d + 1) _ _ a0 (by omega) (by omega) (by omega) (by omega) ⟨r1, r2, r3⟩
              · skip
                have zc := nI_eqm (by omega) (by omega) h105
                rw [if_pos (by omega)] at r3
                refine v_bipush (v := nI 41) X dX1_signAt_108 (by decide) ?_
                refine v_ret X hR dX1_signAt_110 rfl ?_
                exact ⟨rfl, Or.inr (Or.inr ⟨a0, r1, r2, r3⟩)⟩
            · skip
              have zb := nI_eqm (by omega) (by omega) h85
              rw [if_pos zb] at r3
              refine v_ldcs (i := 2) X (by decide) rfl rfl dX1_signAt_88 ?_
              refine v_aload_n X dX1_signAt_90 rfl ?_
              refine v_getr X fl_X1_19 (shX1_2 (by first | assumption | omega)) dX1_signAt_91 ?_
              refine v_iload_n X dX1_signAt_94 rfl ?_
              refine v_ialdE X (arX1_2 (by first | assumption | omega)) rfl (by first | assumption | omega) dX1_signAt_95 ?_
              refine v_iconst (v := nI 2) X dX1_signAt_96 (by decide) ?_
              refine v_isub X dX1_signAt_97 ?_
              refine v_top (y := nI (p.1 - 2)) (by rw [e1, pk_sub (by omega)]) ?_
              refine v_calz X (i := 2) (by decide) (c_charAt G (k := p.1 - 2) (by decide) (show p.1 - 2 < 3 by omega)) cv_X1_77 rfl (by decide) rfl (by rfl) (Nat.le_of_ble_eq_true rfl) dX1_signAt_98 (fun r τ hp => ?_)
              obtain ⟨rfl, rfl⟩ := hp
              rw [str_2 _ (by omega) (by omega)]
              refine v_ret X hR dX1_signAt_101 rfl ?_
              exact ⟨rfl, Or.inr (Or.inr ⟨a0, r1, r2, r3⟩)⟩
          · skip
            have za : a = 0 := nI_eqm (b := 0) (by omega) (by decide) h76
            rw [if_pos za] at r3
            refine v_bipush (v := nI 40) X dX1_signAt_79 (by decide) ?_
            refine v_ret X hR dX1_signAt_81 rfl ?_
            exact ⟨rfl, Or.inr (Or.inr ⟨a0, r1, r2, r3⟩)⟩
  refine v_iload_n X dX1_signAt_0 rfl ?_
  refine v_if_lt (tgt := 12) X dX1_signAt_1 (by decide) (fun h1 => ?_) (fun h1 => ?_)
  · skip
    refine v_bipush (v := (-6)) X dX1_signAt_12 (by decide) ?_
    refine v_ret X hR dX1_signAt_14 rfl ?_
    exact ⟨rfl, Or.inl ⟨h1, rfl⟩⟩
  · skip
    refine v_iload_n X dX1_signAt_4 rfl ?_
    refine v_aload_n X dX1_signAt_5 rfl ?_
    refine v_cali X (c_signs G hj hP0) cv_X1_72 (obX1 (by first | assumption | omega)) rfl (by decide) rfl (by rfl) (Nat.le_of_ble_eq_true rfl) dX1_signAt_6 (fun r τ hp => ?_)
    obtain ⟨rfl, rfl⟩ := hp
    refine v_icmp_lt (tgt := 15) X dX1_signAt_9 (by decide) (fun h9 => ?_) (fun h9 => ?_)
    · skip
      have hb : sgN P < 4096 := by rw [sgN, if_pos h0]; exact lnL_lt p2 p1 (by omega)
      obtain ⟨a, ha⟩ : ∃ a, a < sgN P ∧ place = nI a := by
        rcases pk_ix place (n := sgN P) (by omega) with z | z | ⟨a, z1, z2⟩
        · exact absurd z h1
        · exact absurd h9 (Int32.not_lt.mpr z)
        · exact ⟨a, z1, z2⟩
      refine v_aload_n X dX1_signAt_15 rfl ?_
      refine v_cali X (c_root G hj) cv_X1_61 (obX1 (by first | assumption | omega)) rfl (by decide) rfl (by rfl) (Nat.le_of_ble_eq_true rfl) dX1_signAt_16 (fun r τ hp => ?_)
      obtain ⟨rfl, rfl⟩ := hp
      refine v_top (y := nI (P.length - 1)) (by rw [p3, nI_s1 h0]) ?_
      refine v_istore_n X dX1_signAt_19 (Nat.le_of_ble_eq_true rfl) ?_
      show V G Z _ 20 [_, _, _, _, _, _, _] _
      refine v_iload_n X dX1_signAt_20 rfl ?_
      refine v_istore_n X dX1_signAt_21 (Nat.le_of_ble_eq_true rfl) ?_
      show V G Z _ 22 [_, _, _, _, _, _, _] _
      refine v_iconst (v := nI 0) X dX1_signAt_22 (by decide) ?_
      refine v_istore X dX1_signAt_23 (Nat.le_of_ble_eq_true rfl) ?_
      show V G Z _ 25 [_, _, _, _, _, _, _] _
      obtain ⟨ha1, rfl⟩ := ha
      exact loop 11 (P.length - 1) a 0 _ _ a (by omega) (by omega) (by omega) (by rw [sgN, if_pos h0] at ha1; exact ha1) ⟨ha1, rfl, rfl⟩
    · skip
      refine v_bipush (v := (-6)) X dX1_signAt_12 (by decide) ?_
      refine v_ret X hR dX1_signAt_14 rfl ?_
      exact ⟨rfl, Or.inr (Or.inl ⟨Int32.not_lt.mp h9, rfl⟩)⟩
end
section
/-! a draft that may be too large: S is what it would be, D what it holds -/
def dS (τ : Sg) (j : Nat) (S D : Sen) (lg : Bool) : Prop := hs τ j D ∧ τ (7 * j) 1 = bI lg ∧ ((lg = false ∧ D = S) ∨ (lg = true ∧ D.length = 11 ∧ 11 < S.length))
def addQ (σ τ : Sg) (j : Nat) (P : Sen) (q : Pt) (r : Int32) : Prop := offS j σ τ ∧ τ (7 * j + 6) = σ (7 * j + 6) ∧ ((q ∈ P ∧ τ = σ ∧ r = nI (P.idxOf q)) ∨ (q ∉ P ∧ P.length = 11 ∧ τ = s2 σ (7 * j) 1 (nI 1) ∧ r = nI 0) ∨ (q ∉ P ∧ P.length < 11 ∧ hs τ j (P ++ [q]) ∧ τ (7 * j) 1 = σ (7 * j) 1 ∧ r = nI P.length))
theorem add_step {σ τ : Sg} {j : Nat} {S D : Sen} {lg : Bool} {q q' : Pt} {r : Int32} (h : dS σ j S D lg) (he : lg = false → q' = q) (hp : addQ σ τ j D q' r) : offS j σ τ ∧ τ (7 * j + 6) = σ (7 * j + 6) ∧ ∃ (D' : Sen) (lg' : Bool) (x : Nat), dS τ j (addP S q) D' lg' ∧ D.length ≤ D'.length ∧ x < D'.length ∧ r = nI x ∧ (lg' = false → lg = false ∧ x = (addP S q).idxOf q) ∧ (lg = true → lg' = true) := by
  obtain ⟨h1, h2, h3⟩ := h
  obtain ⟨g1, g2, g3⟩ := hp
  refine ⟨g1, g2, ?_⟩
  have hflag : τ = s2 σ (7 * j) 1 (nI 1) → hs τ j D ∧ τ (7 * j) 1 = bI true := by
    rintro rfl
    refine ⟨hs_cong h1 ?_ (fun q q1 q2 => ?_), s2_at _ _ _ _⟩
    · rw [s2_ap, if_neg (by simp)]
    · rw [s2_nc (by omega)]
  rcases h3 with ⟨rfl, rfl⟩ | ⟨rfl, k1, k2⟩
  · have hqq := he rfl
    subst hqq
    rcases g3 with ⟨a1, rfl, a3⟩ | ⟨a1, a2, a3, a4⟩ | ⟨a1, a2, a3, a4, a5⟩
    · refine ⟨D, false, D.idxOf q', ?_, Nat.le_refl _, List.idxOf_lt_length_of_mem a1, a3, fun _ => ⟨rfl, ?_⟩, fun z => by cases z⟩
      · rw [addP_in a1]; exact ⟨h1, h2, Or.inl ⟨rfl, rfl⟩⟩
      · rw [addP_in a1]
    · obtain ⟨f1, f2⟩ := hflag a3
      refine ⟨D, true, 0, ?_, Nat.le_refl _, by omega, a4, (fun z => by cases z), fun _ => rfl⟩
      rw [addP_new a1]
      exact ⟨f1, f2, Or.inr ⟨rfl, a2, by simp; omega⟩⟩
    · refine ⟨D ++ [q'], false, D.length, ?_, by simp, by simp, a5, fun _ => ⟨rfl, ?_⟩, fun z => by cases z⟩
      · rw [addP_new a1]; exact ⟨a3, by rw [a4]; exact h2, Or.inl ⟨rfl, rfl⟩⟩
      · rw [addP_new a1, idx_new a1]
  · have hS : 11 < (addP S q).length := Nat.lt_of_lt_of_le k2 (addP_le S q)
    rcases g3 with ⟨a1, rfl, a3⟩ | ⟨a1, a2, a3, a4⟩ | ⟨a1, a2, a3, a4, a5⟩
    · exact ⟨D, true, D.idxOf q', ⟨h1, h2, Or.inr ⟨rfl, k1, hS⟩⟩, Nat.le_refl _, List.idxOf_lt_length_of_mem a1, a3, fun z => (by cases z), fun _ => rfl⟩
    · obtain ⟨f1, f2⟩ := hflag a3
      exact ⟨D, true, 0, ⟨f1, f2, Or.inr ⟨rfl, k1, hS⟩⟩, Nat.le_refl _, by omega, a4, fun z => (by cases z), fun _ => rfl⟩
    · omega
theorem dS_cong {σ τ : Sg} {j : Nat} {S D : Sen} {lg : Bool} (h : dS σ j S D lg) (h0 : τ (7 * j) = σ (7 * j)) (h1 : ∀ q, 1 ≤ q → q ≤ 5 → τ (7 * j + q) = σ (7 * j + q)) : dS τ j S D lg := ⟨hs_cong h.1 (by rw [h0]) h1, by rw [h0]; exact h.2.1, h.2.2⟩
/-! two sentences put together -/
def plc (pl : List Nat) (p : Pt) : Pt := if p.1 < 2 then p else (p.1, pl.getD p.2.1 0, pl.getD p.2.2 0)
def prS (st : Sen × List Nat) (p : Pt) : Sen × List Nat := (addP st.1 (plc st.2 p), st.2 ++ [(addP st.1 (plc st.2 p)).idxOf (plc st.2 p)])
def prK (A B : Sen) (k : Nat) : Sen × List Nat := (B.take k).foldl prS (A, [])
def prP (A B : Sen) (t : Nat) : Sen := addP (prK A B B.length).1 (t, A.length - 1, (prK A B B.length).2.getD (B.length - 1) 0)
theorem prK_0 (A B : Sen) : prK A B 0 = (A, []) := rfl
theorem prK_succ {A B : Sen} {k : Nat} {p : Pt} (h : B[k]? = some p) : prK A B (k + 1) = prS (prK A B k) p := by
  unfold prK
  rw [List.take_succ, h, List.foldl_append]
  rfl
theorem prK_len (A B : Sen) : ∀ k, k ≤ B.length → (prK A B k).2.length = k
  | 0, _ => rfl
  | k + 1, h => by
    obtain ⟨p, hp⟩ : ∃ p, B[k]? = some p := ⟨B[k], List.getElem?_eq_getElem (by omega)⟩
    rw [prK_succ hp]
    simp [prS, prK_len A B k (by omega)]
def bpI (σ τ : Sg) (j : Nat) (A B : Sen) (k : Nat) : Prop := offS j σ τ ∧ ∃ (D : Sen) (lg : Bool), dS τ j (prK A B k).1 D lg ∧ A.length ≤ D.length ∧ ∀ x, x < k → ∃ y, y < D.length ∧ τ (7 * j + 6) x = nI y ∧ (lg = false → y = (prK A B k).2.getD x 0)
theorem bp_next {σ τ τ' : Sg} {j : Nat} {A B D D' : Sen} {lg lg' : Bool} {k x : Nat} {p : Pt} (hk : B[k]? = some p) (h1 : offS j σ τ) (h4 : ∀ x, x < k → ∃ y, y < D.length ∧ τ (7 * j + 6) x = nI y ∧ (lg = false → y = (prK A B k).2.getD x 0))
    (hAD : A.length ≤ D.length) (o1 : offS j τ τ') (o2 : τ' (7 * j + 6) = τ (7 * j + 6)) (d : dS τ' j (addP (prK A B k).1 (plc (prK A B k).2 p)) D' lg') (hDD : D.length ≤ D'.length) (hx : x < D'.length) (hf : lg' = false → lg = false ∧ x = (addP (prK A B k).1 (plc (prK A B k).2 p)).idxOf (plc (prK A B k).2 p)) : bpI σ (s2 τ' (7 * j + 6) k (nI x)) j A B (k + 1) := by
  have hkl := (List.getElem?_eq_some_iff.mp hk).1
  refine ⟨(h1.trans o1).s2 (by omega) (by omega), D', lg', ?_, by omega, fun z hz => ?_⟩
  · rw [prK_succ hk]
    exact dS_cong d (s2_nc (by omega)) (fun q q1 q2 => s2_nc (by omega))
  · rw [prK_succ hk]
    have hl := prK_len A B k (by omega)
    rcases Nat.lt_or_ge z k with h | h
    · obtain ⟨y, y1, y2, y3⟩ := h4 z h
      refine ⟨y, by omega, ?_, fun e => ?_⟩
      · rw [s2_ap, if_neg (by omega), o2]; exact y2
      · rw [y3 (hf e).1]
        simp only [prS, List.getD_eq_getElem?_getD]
        rw [List.getElem?_append_left (by omega)]
    · have hzk : z = k := by omega
      subst hzk
      refine ⟨x, hx, s2_at _ _ _ _, fun e => ?_⟩
      rw [(hf e).2]
      simp only [prS, List.getD_eq_getElem?_getD]
      rw [List.getElem?_append_right (by omega), hl, Nat.sub_self]
      rfl
set_option maxHeartbeats 4000000 in
set_option maxRecDepth 100000 in
theorem c_becomePair (G : GT) {σ : Sg} {j ia ib : Nat} (hj : j < 20) (hia : ia < 20) (hib : ib < 20) (ha : ia ≠ j) (hb : ib ≠ j) {A B : Sen} (hA : hs σ ia A) (hlA : σ (7 * ia) 1 = bI false) (hB : hs σ ib B) (hA0 : 0 < A.length) (hB0 : 0 < B.length) {t : Nat} (ht : 2 ≤ t ∧ t ≤ 4) : MV G yX1_becomePair cX1_becomePair 5 2 [.ref (G.2.2.1 (7 * j)), .int (nI t), .ref (G.2.2.1 (7 * ia)), .ref (G.2.2.1 (7 * ib))] σ (fun τ => offS j σ τ ∧ ∃ (D : Sen) (lg : Bool), dS τ j (prP A B t) D lg) := by
  refine MV_of (by decide) (ca1 rfl (ca1 rfl (ca1 rfl (ca1 rfl ca0)))) (Nat.le_of_ble_eq_true rfl) ?_
  intro Z X hR
  show V G Z σ 0 [some (.ref (G.2.2.1 (7 * j))), some (.int (nI t)), some (.ref (G.2.2.1 (7 * ia))), some (.ref (G.2.2.1 (7 * ib))), none] []
  obtain ⟨b1, b2, b3, b4, b5⟩ := hB
  have loop : ∀ (n k : Nat) (τ : Sg), B.length - k < n → k ≤ B.length → bpI σ τ j A B k → V G Z τ 8 [some (.ref (G.2.2.1 (7 * j))), some (.int (nI t)), some (.ref (G.2.2.1 (7 * ia))), some (.ref (G.2.2.1 (7 * ib))), some (.int (nI k))] [] := by
    intro n
    induction n with
    | zero => intro k τ h; omega
    | succ n ih =>
      intro k τ hn hkl hinv
      obtain ⟨i1, D, lg, i2, i3, i4⟩ := hinv
      have rb : ∀ q, q < 7 → τ (7 * ib + q) = σ (7 * ib + q) := fun q hq => i1 _ (by omega)
      have rb0 : τ (7 * ib) 0 = nI B.length := by rw [i1 (7 * ib) (by omega)]; exact b3
      have ra0 : τ (7 * ia) 0 = nI A.length := by rw [i1 (7 * ia) (by omega)]; exact hA.2.2.1
      have hD11 : D.length ≤ 11 := i2.1.1
      refine v_iload X dX1_becomePair_8 rfl ?_
      refine v_aload_n X dX1_becomePair_10 rfl ?_
      refine v_geti X fl_X1_9 (shX1_0 (by first | assumption | omega)) dX1_becomePair_11 ?_
      refine v_top rb0 ?_
      refine v_icmp_ge (tgt := 104) X dX1_becomePair_14 (by decide) (fun h14 => ?_) (fun h14 => ?_)
      · skip
        have hk := nI_lem (by omega) (by omega) h14
        have hk : k = B.length := by omega
        subst hk
        refine v_aload_n X dX1_becomePair_104 rfl ?_
        refine v_iload_n X dX1_becomePair_105 rfl ?_
        refine v_aload_n X dX1_becomePair_106 rfl ?_
        refine v_cali X (c_root G hia) cv_X1_61 (obX1 (by first | assumption | omega)) rfl (by decide) rfl (by rfl) (Nat.le_of_ble_eq_true rfl) dX1_becomePair_107 (fun r τ1 hp => ?_)
        obtain ⟨rfl, rfl⟩ := hp
        refine v_aload_n X dX1_becomePair_110 rfl ?_
        refine v_getr X fl_X1_35 (shX1_7 (by first | assumption | omega)) dX1_becomePair_111 ?_
        refine v_aload_n X dX1_becomePair_114 rfl ?_
        refine v_cali X (c_root G hib) cv_X1_61 (obX1 (by first | assumption | omega)) rfl (by decide) rfl (by rfl) (Nat.le_of_ble_eq_true rfl) dX1_becomePair_115 (fun r τ1 hp => ?_)
        obtain ⟨rfl, rfl⟩ := hp
        obtain ⟨y, y1, y2, y3⟩ := i4 (B.length - 1) (by omega)
        refine v_ialdE X (arX1_7 (by first | assumption | omega)) (by rw [rb0, nI_s1 hB0]) (show B.length - 1 < 11 by omega) dX1_becomePair_118 ?_
        rw [y2, ra0, nI_s1 hA0]
        have hq' : okp D.length (t, A.length - 1, y) := Or.inr (Or.inr ⟨ht.1, ht.2, by show A.length - 1 < D.length; omega, y1⟩)
        have he : lg = false → (t, A.length - 1, y) = (t, A.length - 1, (prK A B B.length).2.getD (B.length - 1) 0) := fun e => by rw [y3 e]
        have q1 : pA (t, A.length - 1, y) = nI (A.length - 1) := if_neg (show ¬ t = 1 by omega)
        have q2 : pB (t, A.length - 1, y) = nI y := if_neg (show ¬ t < 2 by omega)
        rw [← q1, ← q2]
        show V G Z _ 119 _ [_, _, .int (pK (t, A.length - 1, y)), _]
        refine v_cali X (c_add G hj i2.1 hq') cv_X1_58 (obX1 (by first | assumption | omega)) rfl (by decide) rfl (by rfl) (Nat.le_of_ble_eq_true rfl) dX1_becomePair_119 (fun r τ' hp => ?_)
        obtain ⟨o1, o2, D', lg', x, s1, s2', s3, s4, s5, -⟩ := add_step i2 he hp
        subst s4
        refine v_pop X dX1_becomePair_122 rfl ?_
        refine v_vret X hR dX1_becomePair_123 ?_
        exact ⟨i1.trans o1, D', lg', s1⟩
      · skip
        have hk := nI_len (by omega) (by omega) h14
        obtain ⟨p, hpk⟩ : ∃ p, B[k]? = some p := ⟨B[k], List.getElem?_eq_getElem hk⟩
        obtain ⟨e1, e2, e3⟩ := b4 k p hpk
        have e1 : τ (7 * ib + 1) k = pK p := by rw [rb 1 (by decide)]; exact e1
        have e2 : τ (7 * ib + 2) k = pA p := by rw [rb 2 (by decide)]; exact e2
        have e3 : τ (7 * ib + 3) k = pB p := by rw [rb 3 (by decide)]; exact e3
        have hok := b2 k p hpk
        have hk4 := hok.k4
        refine v_aload_n X dX1_becomePair_17 rfl ?_
        refine v_getr X fl_X1_35 (shX1_7 (by first | assumption | omega)) dX1_becomePair_18 ?_
        refine v_iload X dX1_becomePair_21 rfl ?_
        refine v_aload_n X dX1_becomePair_23 rfl ?_
        refine v_getr X fl_X1_19 (shX1_2 (by first | assumption | omega)) dX1_becomePair_24 ?_
        refine v_iload X dX1_becomePair_27 rfl ?_
        refine v_ialdE X (arX1_2 (by first | assumption | omega)) rfl (by first | assumption | omega) dX1_becomePair_29 ?_
        refine v_iconst (v := nI 2) X dX1_becomePair_30 (by decide) ?_
        rw [e1]
        refine v_icmp_ge (tgt := 62) X dX1_becomePair_31 (by decide) (fun h31 => ?_) (fun h31 => ?_)
        · skip
          have h2 : ¬ p.1 < 2 := by have := nI_lem (a := 2) (b := p.1) (by decide) (by omega) h31; omega
          have hab : p.2.1 < k ∧ p.2.2 < k := by
            rcases hok with ⟨q, -⟩ | ⟨q, -⟩ | ⟨-, -, q1, q2⟩
            · omega
            · omega
            · exact ⟨q1, q2⟩
          obtain ⟨ya, ya1, ya2, ya3⟩ := i4 p.2.1 hab.1
          obtain ⟨yb, yb1, yb2, yb3⟩ := i4 p.2.2 hab.2
          have e2 : τ (7 * ib + 2) k = nI p.2.1 := by rw [e2, pA, if_neg (by omega)]
          have e3 : τ (7 * ib + 3) k = nI p.2.2 := by rw [e3, pB, if_neg h2]
          have hq' : okp D.length (p.1, ya, yb) := Or.inr (Or.inr ⟨by show 2 ≤ p.1; omega, hk4, ya1, yb1⟩)
          have he : lg = false → (p.1, ya, yb) = plc (prK A B k).2 p := fun e => by rw [plc, if_neg h2, ya3 e, yb3 e]
          have q1 : pA (p.1, ya, yb) = nI ya := if_neg (show ¬ p.1 = 1 by omega)
          have q2 : pB (p.1, ya, yb) = nI yb := if_neg (show ¬ p.1 < 2 by omega)
          refine v_aload_n X dX1_becomePair_62 rfl ?_
          refine v_aload_n X dX1_becomePair_63 rfl ?_
          refine v_getr X fl_X1_19 (shX1_2 (by first | assumption | omega)) dX1_becomePair_64 ?_
          refine v_iload X dX1_becomePair_67 rfl ?_
          refine v_ialdE X (arX1_2 (by first | assumption | omega)) rfl (by first | assumption | omega) dX1_becomePair_69 ?_
          refine v_aload_n X dX1_becomePair_70 rfl ?_
          refine v_getr X fl_X1_35 (shX1_7 (by first | assumption | omega)) dX1_becomePair_71 ?_
          refine v_aload_n X dX1_becomePair_74 rfl ?_
          refine v_getr X fl_X1_23 (shX1_3 (by first | assumption | omega)) dX1_becomePair_75 ?_
          refine v_iload X dX1_becomePair_78 rfl ?_
          refine v_ialdE X (arX1_3 (by first | assumption | omega)) rfl (by first | assumption | omega) dX1_becomePair_80 ?_
          refine v_ialdE X (arX1_7 (by first | assumption | omega)) e2 (show p.2.1 < 11 by omega) dX1_becomePair_81 ?_
          refine v_aload_n X dX1_becomePair_82 rfl ?_
          refine v_getr X fl_X1_35 (shX1_7 (by first | assumption | omega)) dX1_becomePair_83 ?_
          refine v_aload_n X dX1_becomePair_86 rfl ?_
          refine v_getr X fl_X1_26 (shX1_4 (by first | assumption | omega)) dX1_becomePair_87 ?_
          refine v_iload X dX1_becomePair_90 rfl ?_
          refine v_ialdE X (arX1_4 (by first | assumption | omega)) rfl (by first | assumption | omega) dX1_becomePair_92 ?_
          refine v_ialdE X (arX1_7 (by first | assumption | omega)) e3 (show p.2.2 < 11 by omega) dX1_becomePair_93 ?_
          rw [e1, ya2, yb2, ← q1, ← q2]
          show V G Z τ 94 _ [_, _, .int (pK (p.1, ya, yb)), _, _, _]
          refine v_cali X (c_add G hj i2.1 hq') cv_X1_58 (obX1 (by first | assumption | omega)) rfl (by decide) rfl (by rfl) (Nat.le_of_ble_eq_true rfl) dX1_becomePair_94 (fun r τ' hp => ?_)
          obtain ⟨o1, o2, D', lg', x, s1, s2', s3, s4, s5, -⟩ := add_step i2 he hp
          subst s4
          refine v_iastE X (arX1_7 (by first | assumption | omega)) rfl (show k < 11 by omega) dX1_becomePair_97 ?_
          refine v_iincE X dX1_becomePair_98 rfl (nI_inc k) ?_
          show V G Z _ 101 [_, _, _, _, _] _
          refine v_goto (tgt := 8) X dX1_becomePair_101 (by decide) ?_
          exact ih (k + 1) _ (by omega) (by omega) (bp_next hpk i1 i4 i3 o1 o2 s1 s2' s3 s5)
        · skip
          have h2 : p.1 < 2 := nI_len (a := 2) (b := p.1) (by decide) (by omega) h31
          have hq' : okp D.length p := by
            rcases hok with q | q | ⟨q, -⟩
            · exact Or.inl q
            · exact Or.inr (Or.inl q)
            · omega
          have he : lg = false → p = plc (prK A B k).2 p := fun e => by rw [plc, if_pos h2]
          refine v_aload_n X dX1_becomePair_34 rfl ?_
          refine v_aload_n X dX1_becomePair_35 rfl ?_
          refine v_getr X fl_X1_19 (shX1_2 (by first | assumption | omega)) dX1_becomePair_36 ?_
          refine v_iload X dX1_becomePair_39 rfl ?_
          refine v_ialdE X (arX1_2 (by first | assumption | omega)) rfl (by first | assumption | omega) dX1_becomePair_41 ?_
          refine v_aload_n X dX1_becomePair_42 rfl ?_
          refine v_getr X fl_X1_23 (shX1_3 (by first | assumption | omega)) dX1_becomePair_43 ?_
          refine v_iload X dX1_becomePair_46 rfl ?_
          refine v_ialdE X (arX1_3 (by first | assumption | omega)) rfl (by first | assumption | omega) dX1_becomePair_48 ?_
          refine v_aload_n X dX1_becomePair_49 rfl ?_
          refine v_getr X fl_X1_26 (shX1_4 (by first | assumption | omega)) dX1_becomePair_50 ?_
          refine v_iload X dX1_becomePair_53 rfl ?_
          refine v_ialdE X (arX1_4 (by first | assumption | omega)) rfl (by first | assumption | omega) dX1_becomePair_55 ?_
          rw [e1, e2, e3]
          refine v_cali X (c_add G hj i2.1 hq') cv_X1_58 (obX1 (by first | assumption | omega)) rfl (by decide) rfl (by rfl) (Nat.le_of_ble_eq_true rfl) dX1_becomePair_56 (fun r τ' hp => ?_)
          obtain ⟨o1, o2, D', lg', x, s1, s2', s3, s4, s5, -⟩ := add_step i2 he hp
          subst s4
          refine v_goto (tgt := 97) X dX1_becomePair_59 (by decide) ?_
          refine v_iastE X (arX1_7 (by first | assumption | omega)) rfl (show k < 11 by omega) dX1_becomePair_97 ?_
          refine v_iincE X dX1_becomePair_98 rfl (nI_inc k) ?_
          show V G Z _ 101 [_, _, _, _, _] _
          refine v_goto (tgt := 8) X dX1_becomePair_101 (by decide) ?_
          exact ih (k + 1) _ (by omega) (by omega) (bp_next hpk i1 i4 i3 o1 o2 s1 s2' s3 s5)
  refine v_aload_n X dX1_becomePair_0 rfl ?_
  refine v_aload_n X dX1_becomePair_1 rfl ?_
  refine v_calv X (c_copyFrom G hj hia ha hA hlA) cv_X1_54 (obX1 (by first | assumption | omega)) rfl (by decide) rfl (by rfl) (Nat.le_of_ble_eq_true rfl) dX1_becomePair_2 (fun τ hp => ?_)
  obtain ⟨a1, a2, a3, a4⟩ := hp
  refine v_iconst (v := nI 0) X dX1_becomePair_5 (by decide) ?_
  refine v_istore X dX1_becomePair_6 (Nat.le_of_ble_eq_true rfl) ?_
  show V G Z _ 8 [_, _, _, _, _] _
  exact loop (B.length + 1) 0 _ (by omega) (by omega) ⟨a1, A, false, ⟨a2, a3, Or.inl ⟨rfl, rfl⟩⟩, Nat.le_refl _, fun x h => by omega⟩
end
section
/-! one part of a sentence, its own parts numbered as they are first whole -/
abbrev Mm : Type := Sen × (Nat → Option Nat)
def sbP (k : Nat) (q : Pt) (st : Mm) : Mm := (addP st.1 q, fun x => if x = k then some ((addP st.1 q).idxOf q) else st.2 x)
def sbR (P : Sen) : Nat → Nat → Mm → Mm
  | 0, _, st => st
  | f + 1, k, st => match st.2 k with
    | some _ => st
    | none => if (P.getD k (1, 0, 0)).1 < 2 then sbP k (P.getD k (1, 0, 0)) st else
      sbP k ((P.getD k (1, 0, 0)).1, ((sbR P f (P.getD k (1, 0, 0)).2.2 (sbR P f (P.getD k (1, 0, 0)).2.1 st)).2 (P.getD k (1, 0, 0)).2.1).getD 0, ((sbR P f (P.getD k (1, 0, 0)).2.2 (sbR P f (P.getD k (1, 0, 0)).2.1 st)).2 (P.getD k (1, 0, 0)).2.2).getD 0) (sbR P f (P.getD k (1, 0, 0)).2.2 (sbR P f (P.getD k (1, 0, 0)).2.1 st))
def subP (P : Sen) (k : Nat) : Sen := (sbR P 11 k ([], fun _ => none)).1
theorem getD_of {P : Sen} {k : Nat} {p : Pt} (hp : P[k]? = some p) : P.getD k (1, 0, 0) = p := by rw [List.getD_eq_getElem?_getD, hp]; rfl
theorem sbR_some {P : Sen} {f k v : Nat} {st : Mm} (h : st.2 k = some v) : sbR P (f + 1) k st = st := by rw [sbR, h]
theorem sbR_leaf {P : Sen} {f k : Nat} {st : Mm} {p : Pt} (hp : P[k]? = some p) (h : st.2 k = none) (h2 : p.1 < 2) : sbR P (f + 1) k st = sbP k p st := by
  rw [sbR, h]; simp only [getD_of hp]; rw [if_pos h2]
theorem sbR_pair {P : Sen} {f k : Nat} {st : Mm} {p : Pt} (hp : P[k]? = some p) (h : st.2 k = none) (h2 : ¬ p.1 < 2) : sbR P (f + 1) k st = sbP k (p.1, ((sbR P f p.2.2 (sbR P f p.2.1 st)).2 p.2.1).getD 0, ((sbR P f p.2.2 (sbR P f p.2.1 st)).2 p.2.2).getD 0) (sbR P f p.2.2 (sbR P f p.2.1 st)) := by
  rw [sbR, h]; simp only [getD_of hp]; rw [if_neg h2]
theorem wf_pair {P : Sen} (hw : wf P) {k : Nat} {p : Pt} (hp : P[k]? = some p) (h2 : ¬ p.1 < 2) : p.2.1 < k ∧ p.2.2 < k ∧ p.1 ≤ 4 := by
  rcases hw k p hp with ⟨q, -⟩ | ⟨q, -⟩ | ⟨-, q0, q1, q2⟩
  · omega
  · omega
  · exact ⟨q1, q2, q0⟩
theorem sbR_hi {P : Sen} (hw : wf P) : ∀ (f k : Nat) (st : Mm) (x : Nat), k < P.length → k < x → (sbR P f k st).2 x = st.2 x
  | 0, _, _, _, _, _ => rfl
  | f + 1, k, st, x, hk, hx => by
    obtain ⟨p, hp⟩ : ∃ p, P[k]? = some p := ⟨P[k], List.getElem?_eq_getElem hk⟩
    cases h : st.2 k with
    | some v => rw [sbR_some h]
    | none =>
      by_cases h2 : p.1 < 2
      · rw [sbR_leaf hp h h2]; simp [sbP]; omega
      · rw [sbR_pair hp h h2]
        obtain ⟨ha, hb, -⟩ := wf_pair hw hp h2
        simp only [sbP]
        rw [if_neg (by omega), sbR_hi hw f p.2.2 _ x (by omega) (by omega), sbR_hi hw f p.2.1 _ x (by omega) (by omega)]
theorem sbR_set {P : Sen} (hw : wf P) : ∀ (f k : Nat) (st : Mm), k < P.length → k < f → ∃ v, (sbR P f k st).2 k = some v
  | 0, _, _, _, h => absurd h (Nat.not_lt_zero _)
  | f + 1, k, st, hk, hf => by
    obtain ⟨p, hp⟩ : ∃ p, P[k]? = some p := ⟨P[k], List.getElem?_eq_getElem hk⟩
    cases h : st.2 k with
    | some v => exact ⟨v, by rw [sbR_some h]; exact h⟩
    | none =>
      by_cases h2 : p.1 < 2
      · rw [sbR_leaf hp h h2]; exact ⟨_, if_pos rfl⟩
      · rw [sbR_pair hp h h2]; exact ⟨_, if_pos rfl⟩
theorem sbR_keep {P : Sen} (hw : wf P) : ∀ (f k : Nat) (st : Mm) (x v : Nat), k < P.length → st.2 x = some v → (sbR P f k st).2 x = some v
  | 0, _, _, _, _, _, h => h
  | f + 1, k, st, x, v, hk, hx => by
    obtain ⟨p, hp⟩ : ∃ p, P[k]? = some p := ⟨P[k], List.getElem?_eq_getElem hk⟩
    cases h : st.2 k with
    | some v => rw [sbR_some h]; exact hx
    | none =>
      have hne : x ≠ k := fun e => by rw [e, h] at hx; cases hx
      by_cases h2 : p.1 < 2
      · rw [sbR_leaf hp h h2]; simp only [sbP]; rw [if_neg hne]; exact hx
      · rw [sbR_pair hp h h2]
        obtain ⟨ha, hb, -⟩ := wf_pair hw hp h2
        simp only [sbP]
        rw [if_neg hne]
        exact sbR_keep hw f p.2.2 _ x v (by omega) (sbR_keep hw f p.2.1 _ x v (by omega) hx)
/-- how many are numbered -/
def ctN (num : Nat → Option Nat) : Nat → Nat
  | 0 => 0
  | n + 1 => ctN num n + (if (num n).isSome then 1 else 0)
theorem ctN_le (num : Nat → Option Nat) : ∀ n, ctN num n ≤ n
  | 0 => Nat.le_refl _
  | n + 1 => by have := ctN_le num n; rw [ctN]; split <;> omega
theorem ctN_lt {num : Nat → Option Nat} {k : Nat} (h : num k = none) : ∀ {n}, k < n → ctN num n < n
  | 0, hk => absurd hk (Nat.not_lt_zero _)
  | n + 1, hk => by
    rw [ctN]
    by_cases e : k = n
    · subst e
      rw [h]; have := ctN_le num k; simp; omega
    · have := ctN_lt h (n := n) (by omega)
      split <;> omega
theorem ctN_up {num : Nat → Option Nat} {k v : Nat} (h : num k = none) : ∀ {n}, (k < n → ctN (fun x => if x = k then some v else num x) n = ctN num n + 1) ∧ (n ≤ k → ctN (fun x => if x = k then some v else num x) n = ctN num n)
  | 0 => ⟨fun hk => absurd hk (Nat.not_lt_zero _), fun _ => rfl⟩
  | n + 1 => by
    obtain ⟨i1, i2⟩ := ctN_up (v := v) h (n := n)
    constructor
    · intro hk
      rw [ctN, ctN]
      by_cases e : k = n
      · subst e
        rw [i2 (Nat.le_refl _), h]; simp
      · rw [i1 (by omega), if_neg (Ne.symm e)]; omega
    · intro hk
      rw [ctN, ctN, i2 (by omega), if_neg (show ¬ n = k by omega)]
def enc (v : Option Nat) : Int32 := match v with
  | none => -6
  | some v => nI v
def sbI (τ : Sg) (j : Nat) (P : Sen) (st : Mm) : Prop := hs τ j st.1 ∧ τ (7 * j) 1 = bI false ∧ (∀ x, x < 11 → τ (7 * j + 6) x = enc (st.2 x)) ∧ (∀ x v, st.2 x = some v → v < st.1.length) ∧ st.1.length ≤ ctN st.2 P.length
set_option maxHeartbeats 4000000 in
set_option maxRecDepth 100000 in
theorem c_addPart (G : GT) {i j : Nat} (hj : j < 20) (hi : i < 20) (hij : i ≠ j) {P : Sen} : ∀ (f k d : Nat) (σ : Sg) (st : Mm), hs σ i P → k < f → k < P.length → d + k ≤ 10 → sbI σ j P st → MC G yX1_addPart cX1_addPart 6 .int (f + 1) [.ref (G.2.2.1 (7 * j)), .ref (G.2.2.1 (7 * i)), .int (nI k), .int (nI d)] σ (fun r τ => offS j σ τ ∧ sbI τ j P (sbR P f k st) ∧ r = nI (((sbR P f k st).2 k).getD 0)) := by
  intro f
  induction f with
  | zero => intro k d σ st h0 h1; omega
  | succ f ihf =>
  intro k d σ st hP hkf hk hd hI
  refine MC_of (by decide) (ca1 rfl (ca1 rfl (ca1 rfl (ca1 rfl ca0)))) (Nat.le_of_ble_eq_true rfl) ?_
  intro Z X hR
  show V G Z σ 0 [some (.ref (G.2.2.1 (7 * j))), some (.ref (G.2.2.1 (7 * i))), some (.int (nI k)), some (.int (nI d)), none, none] []
  have hP0 := hP
  obtain ⟨p1, p2, p3, p4, p5⟩ := hP
  have hI0 := hI
  obtain ⟨i1, i2, i3, i4, i5⟩ := hI
  obtain ⟨p, hp⟩ : ∃ p, P[k]? = some p := ⟨P[k], List.getElem?_eq_getElem hk⟩
  obtain ⟨e1, e2, e3⟩ := p4 k p hp
  have hok := p2 k p hp
  have tail : ∀ (τ : Sg) (s2' : Mm) (q : Pt), offS j σ τ → sbI τ j P s2' → s2'.2 k = none → okp s2'.1.length q → q.1 = p.1 → sbR P (f + 1) k st = sbP k q s2' → V G Z τ 74 [some (.ref (G.2.2.1 (7 * j))), some (.ref (G.2.2.1 (7 * i))), some (.int (nI k)), some (.int (nI d)), some (.int (pA q)), some (.int (pB q))] [] := by
    intro τ s2' q o1 hs2 hnone hokq hqp hfin
    obtain ⟨j1, j2, j3, j4, j5⟩ := hs2
    have hct := ctN_lt hnone hk
    have ek : τ (7 * i + 1) k = pK q := by rw [o1 (7 * i + 1) (by omega), e1, pK, pK, hqp]
    refine v_aload_n X dX1_addPart_74 rfl ?_
    refine v_getr X fl_X1_35 (shX1_7 (by first | assumption | omega)) dX1_addPart_75 ?_
    refine v_iload_n X dX1_addPart_78 rfl ?_
    refine v_aload_n X dX1_addPart_79 rfl ?_
    refine v_aload_n X dX1_addPart_80 rfl ?_
    refine v_getr X fl_X1_19 (shX1_2 (by first | assumption | omega)) dX1_addPart_81 ?_
    refine v_iload_n X dX1_addPart_84 rfl ?_
    refine v_ialdE X (arX1_2 (by first | assumption | omega)) rfl (by first | assumption | omega) dX1_addPart_85 ?_
    rw [ek]
    refine v_iload X dX1_addPart_86 rfl ?_
    refine v_iload X dX1_addPart_88 rfl ?_
    refine v_cali X (c_add G hj j1 hokq) cv_X1_58 (obX1 (by first | assumption | omega)) rfl (by omega) rfl (by rfl) (Nat.le_of_ble_eq_true rfl) dX1_addPart_90 (fun r τ' hp => ?_)
    obtain ⟨a1, a2, a3⟩ := hp
    have key : hs τ' j (addP s2'.1 q) ∧ τ' (7 * j) 1 = bI false ∧ r = nI ((addP s2'.1 q).idxOf q) := by
      rcases a3 with ⟨b1, rfl, b3⟩ | ⟨b1, b2, b3, b4⟩ | ⟨b1, b2, b3, b4, b5⟩
      · rw [addP_in b1]; exact ⟨j1, j2, b3⟩
      · omega
      · rw [addP_new b1, idx_new b1]; exact ⟨b3, by rw [b4]; exact j2, b5⟩
    obtain ⟨c1, c2, rfl⟩ := key
    refine v_iastE X (arX1_7 (by first | assumption | omega)) rfl (show k < 11 by omega) dX1_addPart_93 ?_
    refine v_aload_n X dX1_addPart_94 rfl ?_
    refine v_getr X fl_X1_35 (shX1_7 (by first | assumption | omega)) dX1_addPart_95 ?_
    refine v_iload_n X dX1_addPart_98 rfl ?_
    refine v_ialdE X (arX1_7 (by first | assumption | omega)) rfl (show k < 11 by omega) dX1_addPart_99 ?_
    refine v_top (s2_at _ _ _ _) ?_
    refine v_ret X hR dX1_addPart_100 rfl ?_
    refine ⟨(o1.trans a1).s2 (by omega) (by omega), ?_, ?_⟩
    · rw [hfin]
      refine ⟨hs_cong c1 (by rw [s2_nc (by omega)]) (fun q q1 q2 => by rw [s2_nc (by omega)]), by rw [s2_nc (by omega)]; exact c2, fun x hx => ?_, fun x v hv => ?_, ?_⟩
      · rw [s2_ap]
        simp only [sbP]
        by_cases hxk : x = k
        · subst hxk
          rw [if_pos ⟨trivial, rfl⟩, if_pos rfl]; rfl
        · rw [if_neg (fun z => hxk z.2), if_neg hxk, a2]; exact j3 x hx
      · simp only [sbP] at hv ⊢
        by_cases hxk : x = k
        · rw [if_pos hxk] at hv
          cases hv
          exact idx_lt _ _
        · rw [if_neg hxk] at hv
          exact Nat.lt_of_lt_of_le (j4 x v hv) (addP_le _ _)
      · simp only [sbP]
        rw [(ctN_up hnone).1 hk]
        have := addP_le1 s2'.1 q
        omega
    · rw [hfin]
      simp [sbP]
  refine v_aload_n X dX1_addPart_0 rfl ?_
  refine v_getr X fl_X1_35 (shX1_7 (by first | assumption | omega)) dX1_addPart_1 ?_
  refine v_iload_n X dX1_addPart_4 rfl ?_
  refine v_ialdE X (arX1_7 (by first | assumption | omega)) rfl (show k < 11 by omega) dX1_addPart_5 ?_
  rw [i3 k (by omega)]
  refine v_bipush (v := (-6)) X dX1_addPart_6 (by decide) ?_
  refine v_icmp_ne (tgt := 17) X dX1_addPart_8 (by decide) (fun h8 => ?_) (fun h8 => ?_)
  · skip
    obtain ⟨v, hv⟩ : ∃ v, st.2 k = some v := by
      cases h : st.2 k with
      | none => rw [h] at h8; exact absurd rfl h8
      | some v => exact ⟨v, rfl⟩
    refine v_aload_n X dX1_addPart_17 rfl ?_
    refine v_getr X fl_X1_35 (shX1_7 (by first | assumption | omega)) dX1_addPart_18 ?_
    refine v_iload_n X dX1_addPart_21 rfl ?_
    refine v_ialdE X (arX1_7 (by first | assumption | omega)) rfl (show k < 11 by omega) dX1_addPart_22 ?_
    refine v_top (y := nI v) (by rw [i3 k (by omega), hv]; rfl) ?_
    refine v_ret X hR dX1_addPart_23 rfl ?_
    exact ⟨offS.rfl, by rw [sbR_some hv]; exact hI0, by rw [sbR_some hv, hv]; rfl⟩
  · skip
    have hnone : st.2 k = none := by
      cases h : st.2 k with
      | none => rfl
      | some v =>
        rw [h] at h8
        exact absurd h8 (nI_m6 (by have := i4 k v h; have := i1.1; omega))
    refine v_iload_n X dX1_addPart_11 rfl ?_
    refine v_bipush (v := nI 11) X dX1_addPart_12 (by decide) ?_
    refine v_icmp_lt (tgt := 24) X dX1_addPart_14 (by decide) (fun h14 => ?_) (fun h14 => ?_)
    · skip
      refine v_aload_n X dX1_addPart_24 rfl ?_
      refine v_getr X fl_X1_23 (shX1_3 (by first | assumption | omega)) dX1_addPart_25 ?_
      refine v_iload_n X dX1_addPart_28 rfl ?_
      refine v_ialdE X (arX1_3 (by first | assumption | omega)) rfl (show k < 11 by omega) dX1_addPart_29 ?_
      rw [e2]
      refine v_istore X dX1_addPart_30 (Nat.le_of_ble_eq_true rfl) ?_
      show V G Z _ 32 [_, _, _, _, _, _] _
      refine v_aload_n X dX1_addPart_32 rfl ?_
      refine v_getr X fl_X1_26 (shX1_4 (by first | assumption | omega)) dX1_addPart_33 ?_
      refine v_iload_n X dX1_addPart_36 rfl ?_
      refine v_ialdE X (arX1_4 (by first | assumption | omega)) rfl (show k < 11 by omega) dX1_addPart_37 ?_
      rw [e3]
      refine v_istore X dX1_addPart_38 (Nat.le_of_ble_eq_true rfl) ?_
      show V G Z _ 40 [_, _, _, _, _, _] _
      refine v_aload_n X dX1_addPart_40 rfl ?_
      refine v_getr X fl_X1_19 (shX1_2 (by first | assumption | omega)) dX1_addPart_41 ?_
      refine v_iload_n X dX1_addPart_44 rfl ?_
      refine v_ialdE X (arX1_2 (by first | assumption | omega)) rfl (show k < 11 by omega) dX1_addPart_45 ?_
      refine v_iconst (v := nI 2) X dX1_addPart_46 (by decide) ?_
      rw [e1]
      refine v_icmp_lt (tgt := 74) X dX1_addPart_47 (by decide) (fun h47 => ?_) (fun h47 => ?_)
      · skip
        have h2 : p.1 < 2 := nI_ltm (b := 2) (by have := hok.k4; omega) (by decide) h47
        refine tail σ st p offS.rfl hI0 hnone ?_ rfl (sbR_leaf hp hnone h2)
        rcases hok with q | q | ⟨q, -⟩
        · exact Or.inl q
        · exact Or.inr (Or.inl q)
        · omega
      · skip
        have h2 : ¬ p.1 < 2 := by have := nI_ltn (b := 2) (by have := hok.k4; omega) (by decide) h47; omega
        obtain ⟨ha, hb, hk4⟩ := wf_pair p2 hp h2
        have q2 : pA p = nI p.2.1 := if_neg (show ¬ p.1 = 1 by omega)
        have q3 : pB p = nI p.2.2 := if_neg h2
        rw [q2, q3]
        refine v_aload_n X dX1_addPart_50 rfl ?_
        refine v_aload_n X dX1_addPart_51 rfl ?_
        refine v_iload X dX1_addPart_52 rfl ?_
        refine v_iload_n X dX1_addPart_54 rfl ?_
        refine v_iconst (v := nI 1) X dX1_addPart_55 (by decide) ?_
        refine v_iadd X dX1_addPart_56 ?_
        refine v_top (nI_add d 1) ?_
        refine v_cali X (ihf p.2.1 (d + 1) σ st hP0 (by omega) (by omega) (by omega) hI0) cv_X1_68 (obX1 (by first | assumption | omega)) rfl (by omega) rfl (by rfl) (Nat.le_of_ble_eq_true rfl) dX1_addPart_57 (fun r τ1 hq => ?_)
        obtain ⟨o1, hI1, rfl⟩ := hq
        refine v_istore X dX1_addPart_60 (Nat.le_of_ble_eq_true rfl) ?_
        show V G Z _ 62 [_, _, _, _, _, _] _
        refine v_aload_n X dX1_addPart_62 rfl ?_
        refine v_aload_n X dX1_addPart_63 rfl ?_
        refine v_iload X dX1_addPart_64 rfl ?_
        refine v_iload_n X dX1_addPart_66 rfl ?_
        refine v_iconst (v := nI 1) X dX1_addPart_67 (by decide) ?_
        refine v_iadd X dX1_addPart_68 ?_
        refine v_top (nI_add d 1) ?_
        refine v_cali X (ihf p.2.2 (d + 1) τ1 (sbR P f p.2.1 st) (hs_off hP0 o1 hij) (by omega) (by omega) (by omega) hI1) cv_X1_68 (obX1 (by first | assumption | omega)) rfl (by omega) rfl (by rfl) (Nat.le_of_ble_eq_true rfl) dX1_addPart_69 (fun r τ2 hq => ?_)
        obtain ⟨o2, hI2, rfl⟩ := hq
        refine v_istore X dX1_addPart_72 (Nat.le_of_ble_eq_true rfl) ?_
        show V G Z _ 74 [_, _, _, _, _, _] _
        obtain ⟨va, hva⟩ := sbR_set p2 f p.2.1 st (by omega) (by omega)
        have hva2 := sbR_keep p2 f p.2.2 (sbR P f p.2.1 st) p.2.1 va (by omega) hva
        obtain ⟨vb, hvb⟩ := sbR_set p2 f p.2.2 (sbR P f p.2.1 st) (by omega) (by omega)
        have hfin := sbR_pair (f := f) hp hnone h2
        rw [hva2, hvb] at hfin
        rw [hva, hvb]
        have hok2 : okp (sbR P f p.2.2 (sbR P f p.2.1 st)).1.length (p.1, va, vb) := Or.inr (Or.inr ⟨by show 2 ≤ p.1; omega, hk4, hI2.2.2.2.1 _ _ hva2, hI2.2.2.2.1 _ _ hvb⟩)
        have z1 : pA (p.1, va, vb) = nI va := if_neg (show ¬ p.1 = 1 by omega)
        have z2 : pB (p.1, va, vb) = nI vb := if_neg h2
        have ht := tail τ2 _ (p.1, va, vb) (o1.trans o2) hI2 (by rw [sbR_hi p2 f p.2.2 _ k (by omega) hb, sbR_hi p2 f p.2.1 _ k (by omega) ha]; exact hnone) hok2 rfl hfin
        rw [z1, z2] at ht
        exact ht
    · skip
      exact absurd (nI_ltn (b := 11) (by omega) (by decide) h14) (by omega)
set_option maxHeartbeats 4000000 in
set_option maxRecDepth 100000 in
theorem c_becomePart (G : GT) {σ : Sg} {i j : Nat} (hj : j < 20) (hi : i < 20) (hij : i ≠ j) {P : Sen} (hP : hs σ i P) {k : Nat} (hk : k < P.length) : MV G yX1_becomePart cX1_becomePart 4 13 [.ref (G.2.2.1 (7 * j)), .ref (G.2.2.1 (7 * i)), .int (nI k)] σ (fun τ => offS j σ τ ∧ hs τ j (subP P k) ∧ τ (7 * j) 1 = bI false) := by
  refine MV_of (by decide) (ca1 rfl (ca1 rfl (ca1 rfl ca0))) (Nat.le_of_ble_eq_true rfl) ?_
  intro Z X hR
  show V G Z σ 0 [some (.ref (G.2.2.1 (7 * j))), some (.ref (G.2.2.1 (7 * i))), some (.int (nI k)), none] []
  have loop : ∀ (n x : Nat) (τ : Sg), 11 - x < n → x ≤ 11 → (offS j σ τ ∧ τ (7 * j) 0 = nI 0 ∧ τ (7 * j) 1 = bI false ∧ ∀ y, y < x → τ (7 * j + 6) y = -6) → V G Z τ 6 [some (.ref (G.2.2.1 (7 * j))), some (.ref (G.2.2.1 (7 * i))), some (.int (nI k)), some (.int (nI x))] [] := by
    intro n
    induction n with
    | zero => intro x τ h; omega
    | succ n ih =>
      intro x τ hn hxl hinv
      obtain ⟨i1, i2, i3, i4⟩ := hinv
      refine v_iload_n X dX1_becomePart_6 rfl ?_
      refine v_bipush (v := nI 11) X dX1_becomePart_7 (by decide) ?_
      refine v_icmp_ge (tgt := 26) X dX1_becomePart_9 (by decide) (fun h9 => ?_) (fun h9 => ?_)
      · skip
        have hx := nI_lem (a := 11) (by decide) (by omega) h9
        refine v_aload_n X dX1_becomePart_26 rfl ?_
        refine v_aload_n X dX1_becomePart_27 rfl ?_
        refine v_iload_n X dX1_becomePart_28 rfl ?_
        refine v_iconst (v := nI 0) X dX1_becomePart_29 (by decide) ?_
        have hI : sbI τ j P ([], fun _ => none) := by
          refine ⟨⟨Nat.zero_le _, fun q p h => by simp at h, i2, fun q p h => by simp at h, fun q h => absurd h (Nat.not_lt_zero _)⟩, i3, fun y hy => i4 y (by omega), fun y v h => by simp at h, Nat.zero_le _⟩
        refine v_cali X (c_addPart G hj hi hij 11 k 0 τ _ (hs_off hP i1 hij) (by have := hP.1; omega) hk (by have := hP.1; omega) hI) cv_X1_68 (obX1 (by first | assumption | omega)) rfl (by decide) rfl (by rfl) (Nat.le_of_ble_eq_true rfl) dX1_becomePart_30 (fun r τ' hp => ?_)
        obtain ⟨o1, hI1, rfl⟩ := hp
        refine v_pop X dX1_becomePart_33 rfl ?_
        refine v_vret X hR dX1_becomePart_34 ?_
        exact ⟨i1.trans o1, hI1.1, hI1.2.1⟩
      · skip
        have hx := nI_len (a := 11) (by decide) (by omega) h9
        refine v_aload_n X dX1_becomePart_12 rfl ?_
        refine v_getr X fl_X1_35 (shX1_7 (by first | assumption | omega)) dX1_becomePart_13 ?_
        refine v_iload_n X dX1_becomePart_16 rfl ?_
        refine v_bipush (v := (-6)) X dX1_becomePart_17 (by decide) ?_
        refine v_iastE X (arX1_7 (by first | assumption | omega)) rfl (by first | assumption | omega) dX1_becomePart_19 ?_
        refine v_iincE X dX1_becomePart_20 rfl (nI_inc x) ?_
        show V G Z _ 23 [_, _, _, _] _
        refine v_goto (tgt := 6) X dX1_becomePart_23 (by decide) ?_
        refine ih (x + 1) _ (by omega) (by omega) ⟨i1.s2 (by omega) (by omega), by rw [s2_nc (by omega)]; exact i2, by rw [s2_nc (by omega)]; exact i3, fun y hy => ?_⟩
        rw [s2_ap]
        by_cases hyx : y = x
        · rw [if_pos ⟨rfl, hyx⟩]
        · rw [if_neg (fun z => hyx z.2)]; exact i4 y (by omega)
  refine v_aload_n X dX1_becomePart_0 rfl ?_
  refine v_calv X (c_clear G hj) cv_X1_65 (obX1 (by first | assumption | omega)) rfl (by decide) rfl (by rfl) (Nat.le_of_ble_eq_true rfl) dX1_becomePart_1 (fun τ hp => ?_)
  subst hp
  refine v_iconst (v := nI 0) X dX1_becomePart_4 (by decide) ?_
  refine v_istore_n X dX1_becomePart_5 (Nat.le_of_ble_eq_true rfl) ?_
  show V G Z _ 6 [_, _, _, _] _
  refine loop 12 0 _ (by omega) (by omega) ⟨(offS.rfl.s2 (by omega) (by omega)).s2 (by omega) (by omega), ?_, s2_at _ _ _ _, fun y h => by omega⟩
  rw [s2_ap, if_neg (by simp), s2_at]
end
section
/-! SHELVES -/
def offR (lo hi : Nat) (σ τ : Sg) : Prop := ∀ i, (i < lo ∨ hi ≤ i) → τ i = σ i
theorem offR.rfl {lo hi : Nat} {σ : Sg} : offR lo hi σ σ := fun _ _ => by rfl
theorem offR.S {lo hi j : Nat} {σ τ υ : Sg} (h : offR lo hi σ τ) (h2 : offS j τ υ) (h3 : lo ≤ 7 * j) (h4 : 7 * j + 7 ≤ hi) : offR lo hi σ υ := fun i hi' => (h2 i (by omega)).trans (h i hi')
/-- sentence j is whole: it holds P, and is not too large -/
def hz (σ : Sg) (j : Nat) (P : Sen) : Prop := hs σ j P ∧ σ (7 * j) 1 = bI false
theorem hz_off {σ τ : Sg} {j i : Nat} {P : Sen} (h : hz σ i P) (ho : offS j σ τ) (hij : i ≠ j) : hz τ i P := ⟨hs_off h.1 ho hij, by rw [ho (7 * i) (by omega)]; exact h.2⟩
theorem hz_offR {lo hi : Nat} {σ τ : Sg} {i : Nat} {P : Sen} (h : hz σ i P) (ho : offR lo hi σ τ) (hi : 7 * i + 7 ≤ lo ∨ hi ≤ 7 * i) : hz τ i P := by
  have key : ∀ q, q < 7 → τ (7 * i + q) = σ (7 * i + q) := fun q hq => ho _ (by omega)
  have k0 : τ (7 * i) = σ (7 * i) := ho _ (by omega)
  exact ⟨hs_cong h.1 (by rw [k0]) (fun q h1 h2 => key q (by omega)), by rw [k0]; exact h.2⟩
def ctB (f : Nat → Bool) : Nat → Nat
  | 0 => 0
  | n + 1 => ctB f n + (if f n then 1 else 0)
theorem ctB_le (f : Nat → Bool) : ∀ n, ctB f n ≤ n
  | 0 => Nat.le_refl _
  | n + 1 => by have := ctB_le f n; rw [ctB]; split <;> omega
theorem ctB_cong {f g : Nat → Bool} : ∀ {n : Nat}, (∀ k, k < n → f k = g k) → ctB f n = ctB g n
  | 0, _ => rfl
  | n + 1, h => by rw [ctB, ctB, ctB_cong (fun k hk => h k (by omega)), h n (by omega)]
/-- whether one before s holds the same -/
def sbf (PS : Nat → Sen) (s : Nat) : Bool := (List.range s).any (fun t => decide (PS t = PS s))
theorem sbf_t {PS : Nat → Sen} {s t : Nat} (h : t < s) (e : PS t = PS s) : sbf PS s = true := List.any_eq_true.mpr ⟨t, List.mem_range.mpr h, decide_eq_true e⟩
theorem sbf_f {PS : Nat → Sen} {s : Nat} (h : ∀ t, t < s → ¬ PS t = PS s) : sbf PS s = false := by
  rw [sbf, List.any_eq_false]
  intro t ht
  simp [h t (List.mem_range.mp ht)]
set_option maxHeartbeats 4000000 in
set_option maxRecDepth 100000 in
theorem c_shelfCopy (G : GT) {σ : Sg} {a b : Nat} (ha : a < 3) (hb : b < 3) (hab : a ≠ b) {PS : Nat → Sen} (hP : ∀ x, x < 6 → hz σ (6 * b + x) (PS x)) : MV G yX2_copyFrom cX2_copyFrom 3 1 [.ref (G.2.2.1 (a + 140)), .ref (G.2.2.1 (b + 140))] σ (fun τ => offR (42 * a) (42 * a + 42) σ τ ∧ ∀ x, x < 6 → hz τ (6 * a + x) (PS x)) := by
  refine MV_of (by decide) (ca1 rfl (ca1 rfl ca0)) (Nat.le_of_ble_eq_true rfl) ?_
  intro Z X hR
  show V G Z σ 0 [some (.ref (G.2.2.1 (a + 140))), some (.ref (G.2.2.1 (b + 140))), none] []
  have loop : ∀ (n k : Nat) (τ : Sg), 6 - k < n → k ≤ 6 → (offR (42 * a) (42 * a + 42) σ τ ∧ ∀ x, x < k → hz τ (6 * a + x) (PS x)) → V G Z τ 2 [some (.ref (G.2.2.1 (a + 140))), some (.ref (G.2.2.1 (b + 140))), some (.int (nI k))] [] := by
    intro n
    induction n with
    | zero => intro k τ h; omega
    | succ n ih =>
      intro k τ hn hkl hinv
      obtain ⟨i1, i2⟩ := hinv
      refine v_iload_n X dX2_copyFrom_2 rfl ?_
      refine v_bipush (v := nI 6) X dX2_copyFrom_3 (by decide) ?_
      refine v_icmp_ge (tgt := 29) X dX2_copyFrom_5 (by decide) (fun h5 => ?_) (fun h5 => ?_)
      · skip
        have hk := nI_lem (a := 6) (by decide) (by omega) h5
        refine v_vret X hR dX2_copyFrom_29 ?_
        exact ⟨i1, fun x hx => i2 x (by omega)⟩
      · skip
        have hk := nI_len (a := 6) (by decide) (by omega) h5
        have hQ : hz τ (6 * b + k) (PS k) := hz_offR (hP k hk) i1 (by omega)
        refine v_aload_n X dX2_copyFrom_8 rfl ?_
        refine v_getr X fl_X2_11 (shX2_0 (by first | assumption | omega)) dX2_copyFrom_9 ?_
        refine v_iload_n X dX2_copyFrom_12 rfl ?_
        refine v_aaldE X (arX2_0 (by first | assumption | omega)) (Or.inl rfl) rfl (by first | assumption | omega) dX2_copyFrom_13 ?_
        refine v_aload_n X dX2_copyFrom_14 rfl ?_
        refine v_getr X fl_X2_11 (shX2_0 (by first | assumption | omega)) dX2_copyFrom_15 ?_
        refine v_iload_n X dX2_copyFrom_18 rfl ?_
        refine v_aaldE X (arX2_0 (by first | assumption | omega)) (Or.inl rfl) rfl (by first | assumption | omega) dX2_copyFrom_19 ?_
        refine v_calv X (c_copyFrom G (j := 6 * a + k) (i := 6 * b + k) (by omega) (by omega) (by omega) hQ.1 hQ.2) cv_X2_18 (obX1 (by first | assumption | omega)) rfl (by decide) rfl (by rfl) (Nat.le_of_ble_eq_true rfl) dX2_copyFrom_20 (fun τ' hp => ?_)
        obtain ⟨g1, g2, g3, g4⟩ := hp
        refine v_iincE X dX2_copyFrom_23 rfl (nI_inc k) ?_
        show V G Z _ 26 [_, _, _] _
        refine v_goto (tgt := 2) X dX2_copyFrom_26 (by decide) ?_
        refine ih (k + 1) _ (by omega) (by omega) ⟨i1.S g1 (by omega) (by omega), fun x hx => ?_⟩
        rcases Nat.lt_or_ge x k with h | h
        · exact hz_off (i2 x h) g1 (by omega)
        · rw [show x = k by omega]; exact ⟨g2, g3⟩
  refine v_iconst (v := nI 0) X dX2_copyFrom_0 (by decide) ?_
  refine v_istore_n X dX2_copyFrom_1 (Nat.le_of_ble_eq_true rfl) ?_
  show V G Z _ 2 [_, _, _] _
  exact loop 7 0 _ (by omega) (by omega) ⟨offR.rfl, fun x h => by omega⟩
set_option maxHeartbeats 4000000 in
set_option maxRecDepth 100000 in
theorem c_standsBefore (G : GT) {σ : Sg} {a : Nat} (ha : a < 3) {PS : Nat → Sen} (hP : ∀ x, x < 6 → hs σ (6 * a + x) (PS x)) {s : Nat} (hs6 : s < 6) : MC G yX2_standsBefore cX2_standsBefore 3 .boolean 2 [.ref (G.2.2.1 (a + 140)), .int (nI s)] σ (fun r τ => τ = σ ∧ r = bI (sbf PS s)) := by
  refine MC_of (by decide) (ca1 rfl (ca1 rfl ca0)) (Nat.le_of_ble_eq_true rfl) ?_
  intro Z X hR
  show V G Z σ 0 [some (.ref (G.2.2.1 (a + 140))), some (.int (nI s)), none] []
  have loop : ∀ (n k : Nat), s - k < n → k ≤ s → (∀ t, t < k → ¬ PS t = PS s) → V G Z σ 2 [some (.ref (G.2.2.1 (a + 140))), some (.int (nI s)), some (.int (nI k))] [] := by
    intro n
    induction n with
    | zero => intro k h; omega
    | succ n ih =>
      intro k hn hkl hin
      refine v_iload_n X dX2_standsBefore_2 rfl ?_
      refine v_iload_n X dX2_standsBefore_3 rfl ?_
      refine v_icmp_ge (tgt := 33) X dX2_standsBefore_4 (by decide) (fun h4 => ?_) (fun h4 => ?_)
      · skip
        have hk := nI_lem (by omega) (by omega) h4
        refine v_iconst (v := nI 0) X dX2_standsBefore_33 (by decide) ?_
        refine v_ret X hR dX2_standsBefore_34 rfl ?_
        exact ⟨rfl, by rw [sbf_f (fun t ht => hin t (by omega))]; rfl⟩
      · skip
        have hk := nI_len (by omega) (by omega) h4
        refine v_aload_n X dX2_standsBefore_7 rfl ?_
        refine v_getr X fl_X2_11 (shX2_0 (by first | assumption | omega)) dX2_standsBefore_8 ?_
        refine v_iload_n X dX2_standsBefore_11 rfl ?_
        refine v_aaldE X (arX2_0 (by first | assumption | omega)) (Or.inl rfl) rfl (by first | assumption | omega) dX2_standsBefore_12 ?_
        refine v_aload_n X dX2_standsBefore_13 rfl ?_
        refine v_getr X fl_X2_11 (shX2_0 (by first | assumption | omega)) dX2_standsBefore_14 ?_
        refine v_iload_n X dX2_standsBefore_17 rfl ?_
        refine v_aaldE X (arX2_0 (by first | assumption | omega)) (Or.inl rfl) rfl (by first | assumption | omega) dX2_standsBefore_18 ?_
        refine v_cali X (c_sameAs G (j := 6 * a + k) (i := 6 * a + s) (by omega) (by omega) (hP k (by omega)) (hP s hs6)) cv_X2_30 (obX1 (by first | assumption | omega)) rfl (by decide) rfl (by rfl) (Nat.le_of_ble_eq_true rfl) dX2_standsBefore_19 (fun r τ hp => ?_)
        obtain ⟨rfl, rfl⟩ := hp
        refine v_if_eq (tgt := 27) X dX2_standsBefore_22 (by decide) (fun h22 => ?_) (fun h22 => ?_)
        · skip
          have e := of_decide_eq_false (bI_z.mp h22)
          refine v_iincE X dX2_standsBefore_27 rfl (nI_inc k) ?_
          show V G Z _ 30 [_, _, _] _
          refine v_goto (tgt := 2) X dX2_standsBefore_30 (by decide) ?_
          exact ih (k + 1) (by omega) (by omega) (fun t ht => by
            rcases Nat.lt_or_ge t k with h | h
            · exact hin t h
            · rw [show t = k by omega]; exact e)
        · skip
          have e := of_decide_eq_true (bI_nz.mp h22)
          refine v_iconst (v := nI 1) X dX2_standsBefore_25 (by decide) ?_
          refine v_ret X hR dX2_standsBefore_26 rfl ?_
          exact ⟨rfl, by rw [sbf_t hk e]; rfl⟩
  refine v_iconst (v := nI 0) X dX2_standsBefore_0 (by decide) ?_
  refine v_istore_n X dX2_standsBefore_1 (Nat.le_of_ble_eq_true rfl) ?_
  show V G Z _ 2 [_, _, _] _
  exact loop (s + 1) 0 (by omega) (by omega) (fun t h => by omega)
set_option maxHeartbeats 4000000 in
set_option maxRecDepth 100000 in
theorem c_countUnlike (G : GT) {σ : Sg} {a : Nat} (ha : a < 3) {PS : Nat → Sen} (hP : ∀ x, x < 6 → hs σ (6 * a + x) (PS x)) : MC G yX2_countUnlike cX2_countUnlike 3 .int 3 [.ref (G.2.2.1 (a + 140))] σ (fun r τ => τ = σ ∧ r = nI (ctB (fun k => decide (0 < (PS k).length) && !sbf PS k) 6)) := by
  refine MC_of (by decide) (ca1 rfl ca0) (Nat.le_of_ble_eq_true rfl) ?_
  intro Z X hR
  show V G Z σ 0 [some (.ref (G.2.2.1 (a + 140))), none, none] []
  have loop : ∀ (n k : Nat), 6 - k < n → k ≤ 6 → V G Z σ 4 [some (.ref (G.2.2.1 (a + 140))), some (.int (nI (ctB (fun k => decide (0 < (PS k).length) && !sbf PS k) k))), some (.int (nI k))] [] := by
    intro n
    induction n with
    | zero => intro k h; omega
    | succ n ih =>
      intro k hn hkl
      refine v_iload_n X dX2_countUnlike_4 rfl ?_
      refine v_bipush (v := nI 6) X dX2_countUnlike_5 (by decide) ?_
      refine v_icmp_ge (tgt := 39) X dX2_countUnlike_7 (by decide) (fun h7 => ?_) (fun h7 => ?_)
      · skip
        have hk := nI_lem (a := 6) (by decide) (by omega) h7
        have hk : k = 6 := by omega
        subst hk
        refine v_iload_n X dX2_countUnlike_39 rfl ?_
        refine v_ret X hR dX2_countUnlike_40 rfl ?_
        exact ⟨rfl, rfl⟩
      · skip
        have hk := nI_len (a := 6) (by decide) (by omega) h7
        have hz0 := (hP k hk).2.2.1
        have hl0 := (hP k hk).1
        refine v_aload_n X dX2_countUnlike_10 rfl ?_
        refine v_getr X fl_X2_11 (shX2_0 (by first | assumption | omega)) dX2_countUnlike_11 ?_
        refine v_iload_n X dX2_countUnlike_14 rfl ?_
        refine v_aaldE X (arX2_0 (by first | assumption | omega)) (Or.inl rfl) rfl (by first | assumption | omega) dX2_countUnlike_15 ?_
        refine v_geti X fl_X2_22 (shX1_0 (by first | assumption | omega)) dX2_countUnlike_16 ?_
        refine v_top hz0 ?_
        refine v_if_le (tgt := 33) X dX2_countUnlike_19 (by decide) (fun h19 => ?_) (fun h19 => ?_)
        · skip
          have h0 := nI_l0 (by omega) h19
          refine v_iincE X dX2_countUnlike_33 rfl (nI_inc k) ?_
          show V G Z _ 36 [_, _, _] _
          refine v_goto (tgt := 4) X dX2_countUnlike_36 (by decide) ?_
          have := ih (k + 1) (by omega) (by omega)
          rw [ctB, show (decide (0 < (PS k).length) && !sbf PS k) = false from by rw [decide_eq_false (by omega)]; rfl] at this
          exact this
        · skip
          have h0 := nI_n0 (by omega) h19
          refine v_aload_n X dX2_countUnlike_22 rfl ?_
          refine v_iload_n X dX2_countUnlike_23 rfl ?_
          refine v_cali X (c_standsBefore G ha hP hk) cv_X2_26 (obX2 (by first | assumption | omega)) rfl (by decide) rfl (by rfl) (Nat.le_of_ble_eq_true rfl) dX2_countUnlike_24 (fun r τ hp => ?_)
          obtain ⟨rfl, rfl⟩ := hp
          refine v_if_ne (tgt := 33) X dX2_countUnlike_27 (by decide) (fun h27 => ?_) (fun h27 => ?_)
          · skip
            have e := bI_nz.mp h27
            refine v_iincE X dX2_countUnlike_33 rfl (nI_inc k) ?_
            show V G Z _ 36 [_, _, _] _
            refine v_goto (tgt := 4) X dX2_countUnlike_36 (by decide) ?_
            have := ih (k + 1) (by omega) (by omega)
            rw [ctB, show (decide (0 < (PS k).length) && !sbf PS k) = false from by rw [e]; simp] at this
            exact this
          · skip
            have e := bI_z.mp h27
            refine v_iincE X dX2_countUnlike_30 rfl (nI_inc _) ?_
            show V G Z _ 33 [_, _, _] _
            refine v_iincE X dX2_countUnlike_33 rfl (nI_inc k) ?_
            show V G Z _ 36 [_, _, _] _
            refine v_goto (tgt := 4) X dX2_countUnlike_36 (by decide) ?_
            have := ih (k + 1) (by omega) (by omega)
            rw [ctB, show (decide (0 < (PS k).length) && !sbf PS k) = true from by rw [e, decide_eq_true h0]; rfl] at this
            exact this
  refine v_iconst (v := nI 0) X dX2_countUnlike_0 (by decide) ?_
  refine v_istore_n X dX2_countUnlike_1 (Nat.le_of_ble_eq_true rfl) ?_
  show V G Z _ 2 [_, _, _] _
  refine v_iconst (v := nI 0) X dX2_countUnlike_2 (by decide) ?_
  refine v_istore_n X dX2_countUnlike_3 (Nat.le_of_ble_eq_true rfl) ?_
  show V G Z _ 4 [_, _, _] _
  exact loop 7 0 (by omega) (by omega)
end
section
/-! THE PARSER, as it should go: parts, what is open (the last first; 0: -, 1: a pair, 2 to 4: behind its sign, with the number of A), whether a sentence must begin, the number of the one that is just whole -/
abbrev Stk : Type := List (Nat × Nat)
def fnA : Stk → Sen → Nat → Sen × Stk × Nat
  | [], P, l => (P, [], l)
  | (t, a) :: r, P, l => if t = 0 then fnA r (addP (addP P (1, 0, 0)) (4, l, (addP P (1, 0, 0)).idxOf (1, 0, 0))) ((addP (addP P (1, 0, 0)) (4, l, (addP P (1, 0, 0)).idxOf (1, 0, 0))).idxOf (4, l, (addP P (1, 0, 0)).idxOf (1, 0, 0))) else (P, (t, a) :: r, l)
abbrev PS : Type := Sen × Stk × Bool × Nat
def fnS (stk : Stk) (P : Sen) (q : Pt) : PS := ((fnA stk (addP P q) ((addP P q).idxOf q)).1, (fnA stk (addP P q) ((addP P q).idxOf q)).2.1, false, (fnA stk (addP P q) ((addP P q).idxOf q)).2.2)
def bgA (s : Nat) (P : Sen) (stk : Stk) (l : Nat) : Option PS :=
  if s = 40 then some (P, (1, 0) :: stk, true, l) else if s = 45 then some (P, (0, 0) :: stk, true, l) else if s = 70 then some (fnS stk P (1, 0, 0)) else if 112 ≤ s ∧ s ≤ 115 then some (fnS stk P (0, s - 112, 0)) else none
def goA (s : Nat) (P : Sen) (stk : Stk) (l : Nat) : Option PS := match stk with
  | [] => none
  | (t, a) :: r => if t = 1 then (if s = 38 then some (P, (2, l) :: r, true, l) else if s = 124 then some (P, (3, l) :: r, true, l) else if s = 62 then some (P, (4, l) :: r, true, l) else none)
    else if s = 41 then some (fnS r P (t, a, l)) else none
def stA (s : Nat) (st : PS) : Option PS := if st.2.2.1 then bgA s st.1 st.2.1 st.2.2.2 else goA s st.1 st.2.1 st.2.2.2
/-- the class's rows of what is open -/
def skA (τ : Sg) : Stk → Prop
  | [] => True
  | e :: r => τ 149 r.length = nI e.1 ∧ (2 ≤ e.1 → τ 150 r.length = nI e.2) ∧ skA τ r
def skR (n : Nat) (lg : Bool) : Stk → Stk → Prop
  | [], [] => True
  | e :: r, e' :: r' => e.1 = e'.1 ∧ e.1 ≤ 4 ∧ (2 ≤ e.1 → e'.2 < n ∧ (lg = false → e'.2 = e.2)) ∧ skR n lg r r'
  | _, _ => False
theorem skA_cong {σ τ : Sg} (n : Nat) (h1 : ∀ x, x < n → τ 149 x = σ 149 x) (h2 : ∀ x, x < n → τ 150 x = σ 150 x) : ∀ (r : Stk), r.length ≤ n → skA σ r → skA τ r
  | [], _, _ => trivial
  | e :: r, hl, ⟨a1, a2, a3⟩ => by
    have hl : r.length < n := hl
    exact ⟨by rw [h1 _ hl]; exact a1, fun z => by rw [h2 _ hl]; exact a2 z, skA_cong n h1 h2 r (by omega) a3⟩
theorem skR_mono {n m : Nat} {lg lg' : Bool} (hn : n ≤ m) (hl : lg' = false → lg = false) : ∀ (a b : Stk), skR n lg a b → skR m lg' a b
  | [], [], _ => trivial
  | e :: r, e' :: r', ⟨a1, a2, a3, a4⟩ => ⟨a1, a2, fun z => ⟨by have := (a3 z).1; omega, fun y => (a3 z).2 (hl y)⟩, skR_mono hn hl r r' a4⟩
  | [], _ :: _, h => h.elim
  | _ :: _, [], h => h.elim
theorem skR_len {n : Nat} {lg : Bool} : ∀ (a b : Stk), skR n lg a b → a.length = b.length
  | [], [], _ => rfl
  | e :: r, e' :: r', ⟨_, _, _, h⟩ => by simp [skR_len r r' h]
  | [], _ :: _, h => h.elim
  | _ :: _, [], h => h.elim
/-- only the draft, and the Text's own rows, may change -/
def tR (σ τ : Sg) : Prop := (∀ i, (i < 126 ∨ 133 ≤ i) → i ≠ 147 → i ≠ 149 → i ≠ 150 → τ i = σ i) ∧ τ 147 0 = σ 147 0
theorem tR.rfl {σ : Sg} : tR σ σ := ⟨fun _ _ _ _ _ => by rfl, by rfl⟩
theorem tR.trans {σ τ υ : Sg} (h1 : tR σ τ) (h2 : tR τ υ) : tR σ υ := ⟨fun i a b c d => (h2.1 i a b c d).trans (h1.1 i a b c d), h2.2.trans h1.2⟩
theorem tR.S {σ τ υ : Sg} (h1 : tR σ τ) (h2 : offS 18 τ υ) : tR σ υ := ⟨fun i a b c d => (h2 i (by omega)).trans (h1.1 i a b c d), by rw [h2 147 (by omega)]; exact h1.2⟩
theorem tR.s2 {σ τ : Sg} {i k : Nat} {x : Int32} (h : tR σ τ) (hi : (i = 147 ∧ k ≠ 0) ∨ i = 149 ∨ i = 150) : tR σ (s2 τ i k x) := by
  refine ⟨fun q a b c d => ?_, ?_⟩
  · rw [s2_nc (by omega)]; exact h.1 q a b c d
  · rw [s2_ap, if_neg (by omega)]; exact h.2
def tI (τ : Sg) (P : Sen) (stk : Stk) (D : Sen) (lg : Bool) (cst : Stk) : Prop := dS τ 18 P D lg ∧ τ 147 4 = nI cst.length ∧ skA τ cst ∧ skR D.length lg stk cst
def lI (τ : Sg) (D : Sen) (lg : Bool) (l : Nat) : Prop := ∃ y, τ 147 6 = nI y ∧ y < D.length ∧ (lg = false → y = l)
theorem dS_off {σ τ : Sg} {S D : Sen} {lg : Bool} (h : dS σ 18 S D lg) (h0 : ∀ i, 126 ≤ i → i < 133 → τ i = σ i) : dS τ 18 S D lg := dS_cong h (h0 _ (by omega) (by omega)) (fun q _ _ => h0 _ (by omega) (by omega))
set_option maxHeartbeats 4000000 in
set_option maxRecDepth 100000 in
theorem c_finish (G : GT) {σ : Sg} {P D : Sen} {stk cst : Stk} {lg : Bool} {k l : Nat} (h : tI σ P stk D lg cst) (hc : cst.length ≤ 40) (hk : k < D.length) (hkl : lg = false → k = l) : MV G yX3_finish cX3_finish 3 2 [.ref (G.2.2.1 147), .ref (G.2.2.1 (7 * 18)), .int (nI k)] σ (fun τ => tR σ τ ∧ ∃ (D' : Sen) (lg' : Bool) (cst' : Stk), tI τ (fnA stk P l).1 (fnA stk P l).2.1 D' lg' cst' ∧ lI τ D' lg' (fnA stk P l).2.2 ∧ τ 147 5 = bI false ∧ cst'.length ≤ cst.length) := by
  refine MV_of (by decide) (ca1 rfl (ca1 rfl (ca1 rfl ca0))) (Nat.le_of_ble_eq_true rfl) ?_
  intro Z X hR
  show V G Z σ 0 [some (.ref (G.2.2.1 147)), some (.ref (G.2.2.1 (7 * 18))), some (.int (nI k))] []
  have loop : ∀ (stk2 cst2 : Stk) (τ : Sg) (P2 D2 : Sen) (lg2 : Bool) (l2 : Nat), tR σ τ → tI τ P2 stk2 D2 lg2 cst2 → lI τ D2 lg2 l2 → τ 147 5 = bI false → cst2.length ≤ cst.length → fnA stk2 P2 l2 = fnA stk P l → V G Z τ 10 [some (.ref (G.2.2.1 147)), some (.ref (G.2.2.1 (7 * 18))), some (.int (nI k))] [] := by
    intro stk2
    induction stk2 with
    | nil =>
      intro cst2 τ P2 D2 lg2 l2 g1 g2 g3 g4 g5 g6
      have ho : V G Z τ 66 [some (.ref (G.2.2.1 147)), some (.ref (G.2.2.1 (7 * 18))), some (.int (nI k))] [] := by
        refine v_vret X hR dX3_finish_66 ?_
        rw [← g6]
        exact ⟨g1, D2, lg2, cst2, g2, g3, g4, g5⟩
      obtain ⟨a1, a2, a3, a4⟩ := g2
      cases cst2 with
      | cons e r => exact a4.elim
      | nil =>
        refine v_aload_n X dX3_finish_10 rfl ?_
        refine v_geti X fl_X3_25 shX3_4 dX3_finish_11 ?_
        refine v_top a2 ?_
        refine v_if_le (tgt := 66) X dX3_finish_14 (by decide) (fun h14 => ?_) (fun h14 => ?_)
        · skip
          exact ho
        · skip
          exact absurd (show nI 0 ≤ 0 from by decide) h14
    | cons e r ih =>
      intro cst2 τ P2 D2 lg2 l2 g1 g2 g3 g4 g5 g6
      have ho : ¬ e.1 = 0 → V G Z τ 66 [some (.ref (G.2.2.1 147)), some (.ref (G.2.2.1 (7 * 18))), some (.int (nI k))] [] := by
        intro he
        obtain ⟨t, a⟩ := e
        rw [fnA, if_neg he] at g6
        refine v_vret X hR dX3_finish_66 ?_
        rw [← g6]
        exact ⟨g1, D2, lg2, cst2, g2, g3, g4, g5⟩
      have g2' := g2
      obtain ⟨a1, a2, a3, a4⟩ := g2
      cases cst2 with
      | nil => exact a4.elim
      | cons e' r' =>
        obtain ⟨b1, b2, b3, b4⟩ := a4
        obtain ⟨c1, c2, c3⟩ := a3
        simp only [List.length_cons] at a2 g5
        refine v_aload_n X dX3_finish_10 rfl ?_
        refine v_geti X fl_X3_25 shX3_4 dX3_finish_11 ?_
        refine v_top a2 ?_
        refine v_if_le (tgt := 66) X dX3_finish_14 (by decide) (fun h14 => ?_) (fun h14 => ?_)
        · skip
          exact absurd h14 (nI_nle (by omega) (by omega))
        · skip
          refine v_aload_n X dX3_finish_17 rfl ?_
          refine v_getr X fl_X3_19 shX3_2 dX3_finish_18 ?_
          refine v_aload_n X dX3_finish_21 rfl ?_
          refine v_geti X fl_X3_25 shX3_4 dX3_finish_22 ?_
          refine v_iconst (v := nI 1) X dX3_finish_25 (by decide) ?_
          refine v_isub X dX3_finish_26 ?_
          refine v_top (y := nI r'.length) (by rw [a2, nI_s1 (by omega)]; rfl) ?_
          refine v_ialdE X arX3_2 rfl (show r'.length < 40 by omega) dX3_finish_27 ?_
          rw [c1]
          refine v_if_ne (tgt := 66) X dX3_finish_28 (by decide) (fun h28 => ?_) (fun h28 => ?_)
          · skip
            exact ho (fun z => h28 (by rw [← b1, z]; rfl))
          · skip
            have he : e.1 = 0 := by rw [b1]; exact nI_eqm (b := 0) (by omega) (by decide) h28
            obtain ⟨t, a⟩ := e
            simp only at he
            subst he
            rw [fnA, if_pos rfl] at g6
            refine v_aload_n X dX3_finish_31 rfl ?_
            refine v_dup X dX3_finish_32 rfl ?_
            refine v_geti X fl_X3_25 shX3_4 dX3_finish_33 ?_
            refine v_iconst (v := nI 1) X dX3_finish_36 (by decide) ?_
            refine v_isub X dX3_finish_37 ?_
            refine v_top (y := nI r'.length) (by rw [a2, nI_s1 (by omega)]; rfl) ?_
            refine v_puti X fw_X3_25 shX3_4 dX3_finish_38 rfl rfl ?_
            refine v_aload_n X dX3_finish_41 rfl ?_
            refine v_aload_n X dX3_finish_42 rfl ?_
            refine v_iconst (v := nI 4) X dX3_finish_43 (by decide) ?_
            refine v_aload_n X dX3_finish_44 rfl ?_
            have d1 : dS (s2 τ 147 4 (nI r'.length)) 18 P2 D2 lg2 := dS_off a1 (fun i _ _ => s2_nc (by omega))
            have hD2 : D2.length ≤ 11 := a1.1.1
            refine v_geti X fl_X3_32 shX3_6 dX3_finish_45 ?_
            rw [s2_ap, if_neg (by decide)]
            obtain ⟨y, y1, y2, y3⟩ := g3
            rw [y1]
            refine v_aload_n X dX3_finish_48 rfl ?_
            refine v_iconst (v := nI 1) X dX3_finish_49 (by decide) ?_
            refine v_bipush (v := (-6)) X dX3_finish_50 (by decide) ?_
            refine v_bipush (v := (-6)) X dX3_finish_52 (by decide) ?_
            have hq1 : okp D2.length (1, 0, 0) := Or.inr (Or.inl ⟨rfl, rfl, rfl⟩)
            refine v_cali X (c_add G (j := 18) (by decide) d1.1 hq1) cv_X3_51 (obX1 (by first | assumption | omega)) rfl (by decide) rfl (by rfl) (Nat.le_of_ble_eq_true rfl) dX3_finish_54 (fun r1 τ1 hp1 => ?_)
            obtain ⟨o1, -, D3, lg3, x1, s1, s2', s3, s4, s5, s6⟩ := add_step (q := (1, 0, 0)) d1 (fun _ => rfl) hp1
            subst s4
            have hq2 : okp D3.length (4, y, x1) := Or.inr (Or.inr ⟨by show 2 ≤ 4; decide, by show 4 ≤ 4; decide, by show y < D3.length; omega, s3⟩)
            show V G Z τ1 57 _ [.int (pB (4, y, x1)), .int (pA (4, y, x1)), .int (pK (4, y, x1)), _, _]
            refine v_cali X (c_add G (j := 18) (by decide) s1.1 hq2) cv_X3_51 (obX1 (by first | assumption | omega)) rfl (by decide) rfl (by rfl) (Nat.le_of_ble_eq_true rfl) dX3_finish_57 (fun r2 τ2 hp2 => ?_)
            obtain ⟨o2, -, D4, lg4, x2, t1, t2, t3, t4, t5, t6⟩ := add_step (q := (4, l2, (addP P2 (1, 0, 0)).idxOf (1, 0, 0))) s1 (fun z => by rw [y3 (s5 z).1, (s5 z).2]) hp2
            subst t4
            refine v_puti X fw_X3_32 shX3_6 dX3_finish_60 rfl rfl ?_
            refine v_goto (tgt := 10) X dX3_finish_63 (by decide) ?_
            refine ih r' _ _ D4 lg4 _ ?_ ?_ ⟨x2, s2_at _ _ _ _, t3, fun z => (t5 z).2⟩ ?_ (by omega) g6
            · exact (((g1.s2 (by decide)).S o1).S o2).s2 (by decide)
            · refine ⟨dS_off t1 (fun i _ _ => s2_nc (by omega)), ?_, ?_, ?_⟩
              · rw [s2_ap, if_neg (by decide), o2 147 (by omega), o1 147 (by omega), s2_at]
              · exact skA_cong (σ := τ) r'.length (fun x _ => by rw [s2_nc (by decide), o2 149 (by omega), o1 149 (by omega), s2_nc (by decide)]) (fun x _ => by rw [s2_nc (by decide), o2 150 (by omega), o1 150 (by omega), s2_nc (by decide)]) r' (Nat.le_refl _) c3
              · exact skR_mono (by omega) (fun z => (s5 (t5 z).1).1) _ _ b4
            · rw [s2_ap, if_neg (by decide), o2 147 (by omega), o1 147 (by omega), s2_ap, if_neg (by decide)]
              exact g4
  refine v_aload_n X dX3_finish_0 rfl ?_
  refine v_iload_n X dX3_finish_1 rfl ?_
  refine v_puti X fw_X3_32 shX3_6 dX3_finish_2 rfl rfl ?_
  refine v_aload_n X dX3_finish_5 rfl ?_
  refine v_iconst (v := nI 0) X dX3_finish_6 (by decide) ?_
  refine v_puti X fw_X3_28 shX3_5 dX3_finish_7 rfl rfl ?_
  obtain ⟨a1, a2, a3, a4⟩ := h
  refine loop stk cst _ P D lg l ((tR.rfl.s2 (by decide)).s2 (by decide)) ⟨dS_off a1 (fun i _ _ => ?_), ?_, ?_, a4⟩ ⟨k, ?_, hk, hkl⟩ (s2_at _ _ _ _) (Nat.le_refl _) rfl
  · rw [s2_nc (by omega), s2_nc (by omega)]
  · rw [s2_ap, if_neg (by decide), s2_ap, if_neg (by decide)]; exact a2
  · exact skA_cong (σ := σ) cst.length (fun x _ => by rw [s2_nc (by decide), s2_nc (by decide)]) (fun x _ => by rw [s2_nc (by decide), s2_nc (by decide)]) cst (Nat.le_refl _) a3
  · rw [s2_ap, if_neg (by decide), s2_at]
end
section
theorem goA_cons (s : Nat) (P : Sen) (t a : Nat) (r : Stk) (l : Nat) : goA s P ((t, a) :: r) l = if t = 1 then (if s = 38 then some (P, (2, l) :: r, true, l) else if s = 124 then some (P, (3, l) :: r, true, l) else if s = 62 then some (P, (4, l) :: r, true, l) else none) else if s = 41 then some (fnS r P (t, a, l)) else none := rfl
theorem i2c_n {s : Nat} (h : s < 65536) : ((nI s).toUInt32 % 65536).toInt32 = nI s := by
  rw [pk_char, pk_tn (by omega), Nat.mod_eq_of_lt h]
/-- the parser's state, as the class holds it -/
def pI (τ : Sg) (st : PS) (n : Nat) : Prop := ∃ (D : Sen) (lg : Bool) (cst : Stk), tI τ st.1 st.2.1 D lg cst ∧ τ 147 5 = bI st.2.2.1 ∧ (st.2.2.1 = false → lI τ D lg st.2.2.2) ∧ cst.length ≤ n
theorem pI_fin {τ : Sg} {P D' : Sen} {stk cst' : Stk} {q : Pt} {lg' : Bool} {n : Nat} (h1 : tI τ (fnA stk (addP P q) ((addP P q).idxOf q)).1 (fnA stk (addP P q) ((addP P q).idxOf q)).2.1 D' lg' cst') (h2 : lI τ D' lg' (fnA stk (addP P q) ((addP P q).idxOf q)).2.2) (h3 : τ 147 5 = bI false) (h4 : cst'.length ≤ n) : pI τ (fnS stk P q) n := ⟨D', lg', cst', h1, h3, fun _ => h2, h4⟩
theorem tI_add {σ τ : Sg} {P D D' : Sen} {stk cst : Stk} {lg lg' : Bool} {q : Pt} (h : tI σ P stk D lg cst) (o : offS 18 σ τ) (d : dS τ 18 (addP P q) D' lg') (hD : D.length ≤ D'.length) (hl : lg' = false → lg = false) : tI τ (addP P q) stk D' lg' cst := by
  obtain ⟨a1, a2, a3, a4⟩ := h
  exact ⟨d, by rw [o 147 (by omega)]; exact a2, skA_cong (σ := σ) cst.length (fun x _ => by rw [o 149 (by omega)]) (fun x _ => by rw [o 150 (by omega)]) cst (Nat.le_refl _) a3, skR_mono hD hl _ _ a4⟩
set_option maxHeartbeats 4000000 in
set_option maxRecDepth 100000 in
theorem c_open (G : GT) {σ : Sg} {n t : Nat} (hn : n < 40) (hd : σ 147 4 = nI n) : MC G yX3_open cX3_open 2 .boolean 0 [.ref (G.2.2.1 147), .int (nI t)] σ (fun r τ => r = nI 1 ∧ τ = s2 (s2 σ 149 n (nI t)) 147 4 (nI (n + 1))) := by
  refine MC_of (by decide) (ca1 rfl (ca1 rfl ca0)) (Nat.le_of_ble_eq_true rfl) ?_
  intro Z X hR
  show V G Z σ 0 [some (.ref (G.2.2.1 147)), some (.int (nI t))] []
  refine v_aload_n X dX3_open_0 rfl ?_
  refine v_geti X fl_X3_25 shX3_4 dX3_open_1 ?_
  refine v_bipush (v := nI 40) X dX3_open_4 (by decide) ?_
  rw [hd]
  refine v_icmp_lt (tgt := 11) X dX3_open_6 (by decide) (fun h6 => ?_) (fun h6 => ?_)
  · skip
    refine v_aload_n X dX3_open_11 rfl ?_
    refine v_getr X fl_X3_19 shX3_2 dX3_open_12 ?_
    refine v_aload_n X dX3_open_15 rfl ?_
    refine v_geti X fl_X3_25 shX3_4 dX3_open_16 ?_
    refine v_iload_n X dX3_open_19 rfl ?_
    refine v_iastE X arX3_2 hd hn dX3_open_20 ?_
    refine v_aload_n X dX3_open_21 rfl ?_
    refine v_dup X dX3_open_22 rfl ?_
    refine v_geti X fl_X3_25 shX3_4 dX3_open_23 ?_
    rw [s2_nc (by decide), hd]
    refine v_iconst (v := nI 1) X dX3_open_26 (by decide) ?_
    refine v_iadd X dX3_open_27 ?_
    refine v_top (nI_add n 1) ?_
    refine v_puti X fw_X3_25 shX3_4 dX3_open_28 rfl rfl ?_
    refine v_iconst (v := nI 1) X dX3_open_31 (by decide) ?_
    refine v_ret X hR dX3_open_32 rfl ?_
    exact ⟨rfl, rfl⟩
  · skip
    exact absurd (nI_ltn (b := 40) (by omega) (by decide) h6) (by omega)

set_option maxHeartbeats 4000000 in
set_option maxRecDepth 100000 in
theorem c_textAdd (G : GT) {σ : Sg} {n : Nat} (hn : n < 40) (hd : σ 147 0 = nI n) (s : Int32) : MV G yX3_add cX3_add 2 0 [.ref (G.2.2.1 147), .int s] σ (fun τ => τ = s2 (s2 σ 148 n s) 147 0 (nI (n + 1))) := by
  refine MV_of (by decide) (ca1 rfl (ca1 rfl ca0)) (Nat.le_of_ble_eq_true rfl) ?_
  intro Z X hR
  show V G Z σ 0 [some (.ref (G.2.2.1 147)), some (.int s)] []
  refine v_aload_n X dX3_add_0 rfl ?_
  refine v_geti X fl_X3_9 shX3_0 dX3_add_1 ?_
  refine v_bipush (v := nI 40) X dX3_add_4 (by decide) ?_
  rw [hd]
  refine v_icmp_ge (tgt := 29) X dX3_add_6 (by decide) (fun h6 => ?_) (fun h6 => ?_)
  · skip
    exact absurd (nI_lem (a := 40) (by decide) (by omega) h6) (by omega)
  · skip
    refine v_aload_n X dX3_add_9 rfl ?_
    refine v_getr X fl_X3_15 shX3_1 dX3_add_10 ?_
    refine v_aload_n X dX3_add_13 rfl ?_
    refine v_geti X fl_X3_9 shX3_0 dX3_add_14 ?_
    refine v_iload_n X dX3_add_17 rfl ?_
    refine v_iastE X arX3_1 hd hn dX3_add_18 ?_
    refine v_aload_n X dX3_add_19 rfl ?_
    refine v_dup X dX3_add_20 rfl ?_
    refine v_geti X fl_X3_9 shX3_0 dX3_add_21 ?_
    rw [s2_nc (by decide), hd]
    refine v_iconst (v := nI 1) X dX3_add_24 (by decide) ?_
    refine v_iadd X dX3_add_25 ?_
    refine v_top (nI_add n 1) ?_
    refine v_puti X fw_X3_9 shX3_0 dX3_add_26 rfl rfl ?_
    refine v_vret X hR dX3_add_29 ?_
    rfl

set_option maxHeartbeats 4000000 in
set_option maxRecDepth 100000 in
theorem c_begin (G : GT) {σ : Sg} {P D : Sen} {stk cst : Stk} {lg : Bool} {l s : Nat} (h : tI σ P stk D lg cst) (hw : σ 147 5 = bI true) (hc : cst.length < 40) (hs7 : s < 127) : MC G yX3_begin cX3_begin 4 .boolean 4 [.ref (G.2.2.1 147), .ref (G.2.2.1 (7 * 18)), .int (nI s)] σ (fun r τ => tR σ τ ∧ ((bgA s P stk l = none ∧ r = nI 0) ∨ ∃ st', bgA s P stk l = some st' ∧ r = nI 1 ∧ pI τ st' (cst.length + 1))) := by
  refine MC_of (by decide) (ca1 rfl (ca1 rfl (ca1 rfl ca0))) (Nat.le_of_ble_eq_true rfl) ?_
  intro Z X hR
  show V G Z σ 0 [some (.ref (G.2.2.1 147)), some (.ref (G.2.2.1 (7 * 18))), some (.int (nI s)), none] []
  refine v_iload_n X dX3_begin_0 rfl ?_
  refine v_bipush (v := nI 40) X dX3_begin_1 (by decide) ?_
  refine v_icmp_ne (tgt := 12) X dX3_begin_3 (by decide) (fun h3 => ?_) (fun h3 => ?_)
  · skip
    have n1 := nI_eqn (by omega) (by omega) h3
    refine v_iload_n X dX3_begin_12 rfl ?_
    refine v_bipush (v := nI 45) X dX3_begin_13 (by decide) ?_
    refine v_icmp_ne (tgt := 24) X dX3_begin_15 (by decide) (fun h15 => ?_) (fun h15 => ?_)
    · skip
      have n2 := nI_eqn (by omega) (by omega) h15
      refine v_iload_n X dX3_begin_24 rfl ?_
      refine v_bipush (v := nI 70) X dX3_begin_25 (by decide) ?_
      refine v_icmp_ne (tgt := 46) X dX3_begin_27 (by decide) (fun h27 => ?_) (fun h27 => ?_)
      · skip
        have n3 := nI_eqn (by omega) (by omega) h27
        refine v_ldcs (i := 0) X (by decide) rfl rfl dX3_begin_46 ?_
        refine v_iload_n X dX3_begin_48 rfl ?_
        refine v_i2c X dX3_begin_49 ?_
        refine v_top (i2c_n (by omega)) ?_
        refine v_calz X (i := 0) (by decide) (c_indexOf G (c := s) (by decide) (by omega)) cv_X3_61 rfl (by decide) rfl (by rfl) (Nat.le_of_ble_eq_true rfl) dX3_begin_50 (fun r τ hp => ?_)
        obtain ⟨rfl, hp⟩ := hp
        refine v_istore_n X dX3_begin_53 (Nat.le_of_ble_eq_true rfl) ?_
        show V G Z _ 54 [_, _, _, _] _
        refine v_iload_n X dX3_begin_54 rfl ?_
        refine v_if_ge (tgt := 60) X dX3_begin_55 (by decide) (fun h55 => ?_) (fun h55 => ?_)
        · skip
          obtain ⟨k, k1, k2, rfl⟩ : ∃ k, k < 4 ∧ s = 112 + k ∧ r = nI k := by
            rcases hp with ⟨k, k1, k2, k3⟩ | ⟨-, k3⟩
            · have k1 : k < 4 := k1
              rw [str_0 k k1] at k2
              exact ⟨k, k1, (nI_eqm (by omega) (by omega) k2).symm, k3⟩
            · rw [k3] at h55; exact absurd h55 (by decide)
          refine v_aload_n X dX3_begin_60 rfl ?_
          refine v_aload_n X dX3_begin_61 rfl ?_
          refine v_aload_n X dX3_begin_62 rfl ?_
          refine v_iconst (v := nI 0) X dX3_begin_63 (by decide) ?_
          refine v_iload_n X dX3_begin_64 rfl ?_
          refine v_bipush (v := (-6)) X dX3_begin_65 (by decide) ?_
          refine v_cali X (c_add G (j := 18) (q := (0, k, 0)) (by decide) h.1.1 (Or.inl ⟨rfl, k1, rfl⟩)) cv_X3_51 (obX1 (by first | assumption | omega)) rfl (by decide) rfl (by rfl) (Nat.le_of_ble_eq_true rfl) dX3_begin_67 (fun r1 τ1 hp1 => ?_)
          obtain ⟨o1, -, D1, lg1, x1, a1, a2, a3, a4, a5, a6⟩ := add_step (q := (0, k, 0)) h.1 (fun _ => rfl) hp1
          subst a4
          have ht := tI_add h o1 a1 a2 (fun z => (a5 z).1)
          refine v_calv X (c_finish G ht (by omega) a3 (fun z => (a5 z).2)) cv_X3_55 obX3 rfl (by decide) rfl (by rfl) (Nat.le_of_ble_eq_true rfl) dX3_begin_70 (fun τ2 hp2 => ?_)
          obtain ⟨g1, D2, lg2, cst2, g2, g3, g4, g5⟩ := hp2
          refine v_iconst (v := nI 1) X dX3_begin_73 (by decide) ?_
          refine v_ret X hR dX3_begin_74 rfl ?_
          exact ⟨(tR.rfl.S o1).trans g1, Or.inr ⟨_, by rw [bgA]; rw [if_neg n1, if_neg n2, if_neg n3, if_pos (by omega), show s - 112 = k by omega], rfl, pI_fin g2 g3 g4 (by omega)⟩⟩
        · skip
          have hno : ¬ (112 ≤ s ∧ s ≤ 115) := by
            intro z
            rcases hp with ⟨k, k1, k2, rfl⟩ | ⟨k2, -⟩
            · exact h55 (nI_pos' (by have : k < 4 := k1; omega))
            · have := k2 (s - 112) (show s - 112 < 4 by omega)
              rw [str_0 _ (by omega)] at this
              exact this (by rw [show 112 + (s - 112) = s by omega])
          refine v_iconst (v := nI 0) X dX3_begin_58 (by decide) ?_
          refine v_ret X hR dX3_begin_59 rfl ?_
          exact ⟨tR.rfl, Or.inl ⟨by rw [bgA, if_neg n1, if_neg n2, if_neg n3, if_neg hno], rfl⟩⟩
      · skip
        have n3 := nI_eqm (by omega) (by omega) h27
        subst n3
        refine v_aload_n X dX3_begin_30 rfl ?_
        refine v_aload_n X dX3_begin_31 rfl ?_
        refine v_aload_n X dX3_begin_32 rfl ?_
        refine v_iconst (v := nI 1) X dX3_begin_33 (by decide) ?_
        refine v_bipush (v := (-6)) X dX3_begin_34 (by decide) ?_
        refine v_bipush (v := (-6)) X dX3_begin_36 (by decide) ?_
        refine v_cali X (c_add G (j := 18) (q := (1, 0, 0)) (by decide) h.1.1 (Or.inr (Or.inl ⟨rfl, rfl, rfl⟩))) cv_X3_51 (obX1 (by first | assumption | omega)) rfl (by decide) rfl (by rfl) (Nat.le_of_ble_eq_true rfl) dX3_begin_38 (fun r1 τ1 hp1 => ?_)
        obtain ⟨o1, -, D1, lg1, x1, a1, a2, a3, a4, a5, a6⟩ := add_step (q := (1, 0, 0)) h.1 (fun _ => rfl) hp1
        subst a4
        have ht := tI_add h o1 a1 a2 (fun z => (a5 z).1)
        refine v_calv X (c_finish G ht (by omega) a3 (fun z => (a5 z).2)) cv_X3_55 obX3 rfl (by decide) rfl (by rfl) (Nat.le_of_ble_eq_true rfl) dX3_begin_41 (fun τ2 hp2 => ?_)
        obtain ⟨g1, D2, lg2, cst2, g2, g3, g4, g5⟩ := hp2
        refine v_iconst (v := nI 1) X dX3_begin_44 (by decide) ?_
        refine v_ret X hR dX3_begin_45 rfl ?_
        exact ⟨(tR.rfl.S o1).trans g1, Or.inr ⟨_, by rw [bgA]; rw [if_neg (by decide), if_neg (by decide)]; exact if_pos rfl, rfl, pI_fin g2 g3 g4 (by omega)⟩⟩
    · skip
      have n2 := nI_eqm (by omega) (by omega) h15
      subst n2
      refine v_aload_n X dX3_begin_18 rfl ?_
      refine v_iconst (v := nI 0) X dX3_begin_19 (by decide) ?_
      refine v_cali X (c_open G (t := 0) hc h.2.1) cv_X3_47 obX3 rfl (by decide) rfl (by rfl) (Nat.le_of_ble_eq_true rfl) dX3_begin_20 (fun r τ hp => ?_)
      obtain ⟨rfl, rfl⟩ := hp
      refine v_ret X hR dX3_begin_23 rfl ?_
      refine ⟨(tR.rfl.s2 (by omega)).s2 (by omega), Or.inr ⟨(P, (0, 0) :: stk, true, l), by rw [bgA]; rw [if_neg (by decide)]; exact if_pos rfl, rfl, D, lg, (0, 0) :: cst, ⟨dS_off h.1 (fun i _ _ => by rw [s2_nc (by omega), s2_nc (by omega)]), s2_at _ _ _ _, ?_, ?_⟩, ?_, (fun z => by cases z), Nat.le_refl _⟩⟩
      · refine ⟨by rw [s2_nc (by decide), s2_at], fun z => absurd z (by decide), skA_cong (σ := σ) cst.length (fun x hx => ?_) (fun x _ => by rw [s2_nc (by decide), s2_nc (by decide)]) cst (Nat.le_refl _) h.2.2.1⟩
        rw [s2_nc (by decide), s2_ap, if_neg (by omega)]
      · exact ⟨rfl, by decide, fun z => absurd z (by decide), h.2.2.2⟩
      · rw [s2_ap, if_neg (by decide), s2_nc (by decide)]; exact hw
  · skip
    have n1 := nI_eqm (by omega) (by omega) h3
    subst n1
    refine v_aload_n X dX3_begin_6 rfl ?_
    refine v_iconst (v := nI 1) X dX3_begin_7 (by decide) ?_
    refine v_cali X (c_open G (t := 1) hc h.2.1) cv_X3_47 obX3 rfl (by decide) rfl (by rfl) (Nat.le_of_ble_eq_true rfl) dX3_begin_8 (fun r τ hp => ?_)
    obtain ⟨rfl, rfl⟩ := hp
    refine v_ret X hR dX3_begin_11 rfl ?_
    refine ⟨(tR.rfl.s2 (by omega)).s2 (by omega), Or.inr ⟨(P, (1, 0) :: stk, true, l), by rw [bgA]; exact if_pos rfl, rfl, D, lg, (1, 0) :: cst, ⟨dS_off h.1 (fun i _ _ => by rw [s2_nc (by omega), s2_nc (by omega)]), s2_at _ _ _ _, ?_, ?_⟩, ?_, (fun z => by cases z), Nat.le_refl _⟩⟩
    · refine ⟨by rw [s2_nc (by decide), s2_at], fun z => absurd z (by decide), skA_cong (σ := σ) cst.length (fun x hx => ?_) (fun x _ => by rw [s2_nc (by decide), s2_nc (by decide)]) cst (Nat.le_refl _) h.2.2.1⟩
      rw [s2_nc (by decide), s2_ap, if_neg (by omega)]
    · exact ⟨rfl, by decide, fun z => absurd z (by decide), h.2.2.2⟩
    · rw [s2_ap, if_neg (by decide), s2_nc (by decide)]; exact hw

set_option maxHeartbeats 4000000 in
set_option maxRecDepth 100000 in
theorem c_goOn (G : GT) {σ : Sg} {P D : Sen} {stk cst : Stk} {lg : Bool} {l s : Nat} (h : tI σ P stk D lg cst) (hl : lI σ D lg l) (hn0 : ∀ e r, stk = e :: r → ¬ e.1 = 0) (hc : cst.length ≤ 40) (hs7 : s < 127) : MC G yX3_goOn cX3_goOn 5 .boolean 4 [.ref (G.2.2.1 147), .ref (G.2.2.1 (7 * 18)), .int (nI s)] σ (fun r τ => tR σ τ ∧ ((goA s P stk l = none ∧ r = nI 0) ∨ ∃ st', goA s P stk l = some st' ∧ r = nI 1 ∧ pI τ st' cst.length)) := by
  refine MC_of (by decide) (ca1 rfl (ca1 rfl (ca1 rfl ca0))) (Nat.le_of_ble_eq_true rfl) ?_
  intro Z X hR
  show V G Z σ 0 [some (.ref (G.2.2.1 147)), some (.ref (G.2.2.1 (7 * 18))), some (.int (nI s)), none, none] []
  have h' := h
  obtain ⟨a1, a2, a3, a4⟩ := h
  obtain ⟨y, y1, y2, y3⟩ := hl
  cases stk with
  | nil =>
    cases cst with
    | cons e r => exact a4.elim
    | nil =>
      refine v_aload_n X dX3_goOn_0 rfl ?_
      refine v_geti X fl_X3_25 shX3_4 dX3_goOn_1 ?_
      rw [a2]
      refine v_if_ne (tgt := 9) X dX3_goOn_4 (by decide) (fun h4 => ?_) (fun h4 => ?_)
      · skip
        exact absurd rfl h4
      · skip
        refine v_iconst (v := nI 0) X dX3_goOn_7 (by decide) ?_
        refine v_ret X hR dX3_goOn_8 rfl ?_
        exact ⟨tR.rfl, Or.inl ⟨rfl, rfl⟩⟩
  | cons e r =>
    cases cst with
    | nil => exact a4.elim
    | cons e' r' =>
      obtain ⟨b1, b2, b3, b4⟩ := a4
      obtain ⟨c1, c2, c3⟩ := a3
      simp only [List.length_cons] at a2 hc
      obtain ⟨t, a⟩ := e
      simp only at b1 b2 b3
      have hn0 := hn0 (t, a) r rfl
      simp only at hn0
      have hst1 : ∀ k, k < 3 → (strI 1).2.2.2.getD k 0 = nI (if k = 0 then 38 else if k = 1 then 124 else 62) := by decide
      refine v_aload_n X dX3_goOn_0 rfl ?_
      refine v_geti X fl_X3_25 shX3_4 dX3_goOn_1 ?_
      rw [a2]
      refine v_if_ne (tgt := 9) X dX3_goOn_4 (by decide) (fun h4 => ?_) (fun h4 => ?_)
      · skip
        refine v_aload_n X dX3_goOn_9 rfl ?_
        refine v_geti X fl_X3_25 shX3_4 dX3_goOn_10 ?_
        refine v_iconst (v := nI 1) X dX3_goOn_13 (by decide) ?_
        refine v_isub X dX3_goOn_14 ?_
        refine v_top (y := nI r'.length) (by rw [a2, nI_s1 (by omega)]; rfl) ?_
        refine v_istore_n X dX3_goOn_15 (Nat.le_of_ble_eq_true rfl) ?_
        show V G Z _ 16 [_, _, _, _, _] _
        refine v_aload_n X dX3_goOn_16 rfl ?_
        refine v_getr X fl_X3_19 shX3_2 dX3_goOn_17 ?_
        refine v_iload_n X dX3_goOn_20 rfl ?_
        refine v_ialdE X arX3_2 rfl (show r'.length < 40 by omega) dX3_goOn_21 ?_
        rw [c1]
        refine v_iconst (v := nI 1) X dX3_goOn_22 (by decide) ?_
        refine v_icmp_ne (tgt := 69) X dX3_goOn_23 (by decide) (fun h23 => ?_) (fun h23 => ?_)
        · skip
          have ht1 : ¬ t = 1 := fun z => h23 (by rw [← b1, z])
          refine v_iload_n X dX3_goOn_69 rfl ?_
          refine v_bipush (v := nI 41) X dX3_goOn_70 (by decide) ?_
          refine v_icmp_eq (tgt := 77) X dX3_goOn_72 (by decide) (fun h72 => ?_) (fun h72 => ?_)
          · skip
            have hs41 := nI_eqm (by omega) (by decide) h72
            subst hs41
            refine v_aload_n X dX3_goOn_77 rfl ?_
            refine v_iload_n X dX3_goOn_78 rfl ?_
            refine v_puti X fw_X3_25 shX3_4 dX3_goOn_79 rfl rfl ?_
            refine v_aload_n X dX3_goOn_82 rfl ?_
            refine v_aload_n X dX3_goOn_83 rfl ?_
            refine v_aload_n X dX3_goOn_84 rfl ?_
            refine v_aload_n X dX3_goOn_85 rfl ?_
            refine v_getr X fl_X3_19 shX3_2 dX3_goOn_86 ?_
            refine v_iload_n X dX3_goOn_89 rfl ?_
            refine v_ialdE X arX3_2 rfl (show r'.length < 40 by omega) dX3_goOn_90 ?_
            refine v_aload_n X dX3_goOn_91 rfl ?_
            refine v_getr X fl_X3_22 shX3_3 dX3_goOn_92 ?_
            refine v_iload_n X dX3_goOn_95 rfl ?_
            refine v_ialdE X arX3_3 rfl (show r'.length < 40 by omega) dX3_goOn_96 ?_
            refine v_aload_n X dX3_goOn_97 rfl ?_
            refine v_geti X fl_X3_32 shX3_6 dX3_goOn_98 ?_
            have ht2 : 2 ≤ t := by omega
            have b3' := b3 ht2
            have q0 : s2 σ 147 4 (nI r'.length) 149 r'.length = nI t := by rw [s2_nc (by decide), c1, b1]
            have q1 : s2 σ 147 4 (nI r'.length) 150 r'.length = nI e'.2 := by rw [s2_nc (by decide)]; exact c2 (by omega)
            have q2 : s2 σ 147 4 (nI r'.length) 147 6 = nI y := by rw [s2_ap, if_neg (by decide)]; exact y1
            have z1 : pA (t, e'.2, y) = nI e'.2 := if_neg (show ¬ t = 1 by omega)
            have z2 : pB (t, e'.2, y) = nI y := if_neg (show ¬ t < 2 by omega)
            rw [q0, q1, q2, ← z1, ← z2]
            show V G Z _ 101 _ [_, _, .int (pK (t, e'.2, y)), _, _, _]
            have hT : tI (s2 σ 147 4 (nI r'.length)) P r D lg r' := ⟨dS_off a1 (fun i _ _ => s2_nc (by omega)), s2_at _ _ _ _, skA_cong (σ := σ) r'.length (fun x _ => by rw [s2_nc (by decide)]) (fun x _ => by rw [s2_nc (by decide)]) r' (Nat.le_refl _) c3, b4⟩
            refine v_cali X (c_add G (j := 18) (q := (t, e'.2, y)) (by decide) hT.1.1 (Or.inr (Or.inr ⟨ht2, b2, b3'.1, y2⟩))) cv_X3_51 (obX1 (by first | assumption | omega)) rfl (by decide) rfl (by rfl) (Nat.le_of_ble_eq_true rfl) dX3_goOn_101 (fun r1 τ1 hp1 => ?_)
            obtain ⟨o1, -, D1, lg1, x1, f1, f2, f3, f4, f5, f6⟩ := add_step (q := (t, a, l)) hT.1 (fun z => by rw [b3'.2 z, y3 z]) hp1
            subst f4
            have hT1 := tI_add hT o1 f1 f2 (fun z => (f5 z).1)
            refine v_calv X (c_finish G hT1 (by omega) f3 (fun z => (f5 z).2)) cv_X3_55 obX3 rfl (by decide) rfl (by rfl) (Nat.le_of_ble_eq_true rfl) dX3_goOn_104 (fun τ2 hp2 => ?_)
            obtain ⟨g1, D2, lg2, cst2, g2, g3, g4, g5⟩ := hp2
            refine v_iconst (v := nI 1) X dX3_goOn_107 (by decide) ?_
            refine v_ret X hR dX3_goOn_108 rfl ?_
            exact ⟨((tR.rfl.s2 (by omega)).S o1).trans g1, Or.inr ⟨_, by rw [goA_cons, if_neg ht1, if_pos rfl], rfl, pI_fin g2 g3 g4 (by simp only [List.length_cons]; omega)⟩⟩
          · skip
            have hs41 := nI_eqn (by omega) (by decide) h72
            refine v_iconst (v := nI 0) X dX3_goOn_75 (by decide) ?_
            refine v_ret X hR dX3_goOn_76 rfl ?_
            exact ⟨tR.rfl, Or.inl ⟨by rw [goA_cons, if_neg ht1, if_neg hs41], rfl⟩⟩
        · skip
          have ht1 : t = 1 := by rw [b1]; exact nI_eqm (by omega) (by decide) h23
          refine v_ldcs (i := 1) X (by decide) rfl rfl dX3_goOn_26 ?_
          refine v_iload_n X dX3_goOn_28 rfl ?_
          refine v_i2c X dX3_goOn_29 ?_
          refine v_top (i2c_n (by omega)) ?_
          refine v_calz X (i := 1) (by decide) (c_indexOf G (c := s) (by decide) (by omega)) cv_X3_61 rfl (by decide) rfl (by rfl) (Nat.le_of_ble_eq_true rfl) dX3_goOn_30 (fun r9 τ hp => ?_)
          obtain ⟨rfl, hp⟩ := hp
          refine v_istore X dX3_goOn_33 (Nat.le_of_ble_eq_true rfl) ?_
          show V G Z _ 35 [_, _, _, _, _] _
          refine v_iload X dX3_goOn_35 rfl ?_
          refine v_if_ge (tgt := 42) X dX3_goOn_37 (by decide) (fun h37 => ?_) (fun h37 => ?_)
          · skip
            obtain ⟨k, k1, k2, rfl⟩ : ∃ k, k < 3 ∧ s = (if k = 0 then 38 else if k = 1 then 124 else 62) ∧ r9 = nI k := by
              rcases hp with ⟨k, k1, k2, k3⟩ | ⟨-, k3⟩
              · have k1 : k < 3 := k1
                rw [hst1 k k1] at k2
                exact ⟨k, k1, (nI_eqm (by split <;> (try split) <;> omega) (by omega) k2).symm, k3⟩
              · rw [k3] at h37; exact absurd h37 (by decide)
            refine v_aload_n X dX3_goOn_42 rfl ?_
            refine v_getr X fl_X3_19 shX3_2 dX3_goOn_43 ?_
            refine v_iload_n X dX3_goOn_46 rfl ?_
            refine v_iconst (v := nI 2) X dX3_goOn_47 (by decide) ?_
            refine v_iload X dX3_goOn_48 rfl ?_
            refine v_iadd X dX3_goOn_50 ?_
            refine v_top (nI_add 2 k) ?_
            refine v_iastE X arX3_2 rfl (show r'.length < 40 by omega) dX3_goOn_51 ?_
            refine v_aload_n X dX3_goOn_52 rfl ?_
            refine v_getr X fl_X3_22 shX3_3 dX3_goOn_53 ?_
            refine v_iload_n X dX3_goOn_56 rfl ?_
            refine v_aload_n X dX3_goOn_57 rfl ?_
            refine v_geti X fl_X3_32 shX3_6 dX3_goOn_58 ?_
            refine v_top (y := nI y) (by rw [s2_nc (by decide)]; exact y1) ?_
            refine v_iastE X arX3_3 rfl (show r'.length < 40 by omega) dX3_goOn_61 ?_
            refine v_aload_n X dX3_goOn_62 rfl ?_
            refine v_iconst (v := nI 1) X dX3_goOn_63 (by decide) ?_
            refine v_puti X fw_X3_28 shX3_5 dX3_goOn_64 rfl rfl ?_
            refine v_iconst (v := nI 1) X dX3_goOn_67 (by decide) ?_
            refine v_ret X hR dX3_goOn_68 rfl ?_
            refine ⟨((tR.rfl.s2 (by omega)).s2 (by omega)).s2 (by omega), Or.inr ⟨(P, (2 + k, l) :: r, true, l), ?_, rfl, D, lg, (2 + k, y) :: r', ⟨dS_off a1 (fun i _ _ => by rw [s2_nc (by omega), s2_nc (by omega), s2_nc (by omega)]), ?_, ?_, ?_⟩, s2_at _ _ _ _, (fun z => by cases z), Nat.le_refl _⟩⟩
            · rw [goA_cons, if_pos ht1]
              rcases (show k = 0 ∨ k = 1 ∨ k = 2 by omega) with rfl | rfl | rfl
              · have k2 : s = 38 := k2
                rw [if_pos k2]
              · have k2 : s = 124 := k2
                rw [if_neg (by omega), if_pos k2]
              · have k2 : s = 62 := k2
                rw [if_neg (by omega), if_neg (by omega), if_pos k2]
            · rw [s2_ap, if_neg (by decide), s2_nc (by decide), s2_nc (by decide)]; exact a2
            · refine ⟨by rw [s2_nc (by decide), s2_nc (by decide), s2_at], fun _ => by rw [s2_nc (by decide), s2_at], skA_cong (σ := _) r'.length (fun x hx => ?_) (fun x hx => ?_) r' (Nat.le_refl _) c3⟩
              · rw [s2_nc (by decide), s2_nc (by decide), s2_ap, if_neg (by omega)]
              · rw [s2_nc (by decide), s2_ap, if_neg (by omega), s2_nc (by decide)]
            · exact ⟨rfl, by show 2 + k ≤ 4; omega, fun _ => ⟨y2, y3⟩, b4⟩
          · skip
            have hno : s ≠ 38 ∧ s ≠ 124 ∧ s ≠ 62 := by
              have hall : ∀ k, k < 3 → s ≠ (if k = 0 then 38 else if k = 1 then 124 else 62) := by
                intro k hk z
                rcases hp with ⟨k', k1, k2, rfl⟩ | ⟨k2, -⟩
                · exact h37 (nI_pos' (by have : k' < 3 := k1; omega))
                · have := k2 k hk
                  rw [hst1 k hk] at this
                  exact this (by rw [z])
              exact ⟨hall 0 (by decide), hall 1 (by decide), hall 2 (by decide)⟩
            refine v_iconst (v := nI 0) X dX3_goOn_40 (by decide) ?_
            refine v_ret X hR dX3_goOn_41 rfl ?_
            exact ⟨tR.rfl, Or.inl ⟨by rw [goA_cons, if_pos ht1, if_neg hno.1, if_neg hno.2.1, if_neg hno.2.2], rfl⟩⟩
      · skip
        exact absurd h4 (nI_ne0 (by omega) (by omega))
end
section
/-- the text is read: the place of the fault, or the parts -/
def psL : List Nat → Nat → PS → Nat ⊕ PS
  | [], _, st => .inr st
  | s :: r, i, st => match stA s st with
    | none => .inl i
    | some st' => psL r (i + 1) st'
def prs (tx : List Nat) : Nat ⊕ Sen := match psL tx 0 ([], [], true, 0) with
  | .inl i => .inl i
  | .inr st => if st.2.2.1 = true ∨ st.2.1 ≠ [] then .inl tx.length else .inr st.1
/-- a sentence is whole: what is open is no - -/
def nzS (st : PS) : Prop := st.2.2.1 = false → ∀ e r, st.2.1 = e :: r → ¬ e.1 = 0
theorem fnA_nz : ∀ (stk : Stk) (P : Sen) (l : Nat), ∀ e r, (fnA stk P l).2.1 = e :: r → ¬ e.1 = 0
  | [], P, l, e, r, h => by simp [fnA] at h
  | (t, a) :: r', P, l, e, r, h => by
    rw [fnA] at h
    by_cases ht : t = 0
    · rw [if_pos ht] at h
      exact fnA_nz r' _ _ e r h
    · rw [if_neg ht] at h
      simp only [List.cons.injEq] at h
      rw [← h.1]; exact ht
theorem fnS_nz (stk : Stk) (P : Sen) (q : Pt) : nzS (fnS stk P q) := fun _ e r h => fnA_nz stk _ _ e r h
theorem stA_nz {s : Nat} {st st' : PS} (h : stA s st = some st') : nzS st' := by
  unfold stA at h
  by_cases hw : st.2.2.1 = true
  · rw [if_pos hw] at h
    unfold bgA at h
    split at h
    · cases h; intro z; cases z
    · split at h
      · cases h; intro z; cases z
      · split at h
        · cases h; exact fnS_nz _ _ _
        · split at h
          · cases h; exact fnS_nz _ _ _
          · cases h
  · rw [if_neg hw] at h
    unfold goA at h
    split at h
    · cases h
    · split at h
      · split at h
        · cases h; intro z; cases z
        · split at h
          · cases h; intro z; cases z
          · split at h
            · cases h; intro z; cases z
            · cases h
      · split at h
        · cases h; exact fnS_nz _ _ _
        · cases h
/-- THE TEXT of the class -/
def tX (σ : Sg) (tx : List Nat) : Prop := tx.length ≤ 40 ∧ σ 147 0 = nI tx.length ∧ ∀ i s, tx[i]? = some s → s < 127 ∧ σ 148 i = nI s
set_option maxHeartbeats 4000000 in
set_option maxRecDepth 100000 in
theorem c_parseInto (G : GT) {σ : Sg} {tx : List Nat} (ht : tX σ tx) : MC G yX3_parseInto cX3_parseInto 4 .int 5 [.ref (G.2.2.1 147), .ref (G.2.2.1 (7 * 18))] σ (fun r τ => tR σ τ ∧ ((∃ i, prs tx = .inl i ∧ r = nI i) ∨ ∃ (S D : Sen) (lg : Bool), prs tx = .inr S ∧ r = -6 ∧ dS τ 18 S D lg)) := by
  refine MC_of (by decide) (ca1 rfl (ca1 rfl ca0)) (Nat.le_of_ble_eq_true rfl) ?_
  intro Z X hR
  show V G Z σ 0 [some (.ref (G.2.2.1 147)), some (.ref (G.2.2.1 (7 * 18))), none, none] []
  obtain ⟨t1, t2, t3⟩ := ht
  have loop : ∀ (n i : Nat) (τ : Sg) (st : PS) (l3 : Option Value), tx.length - i < n → i ≤ tx.length → tR σ τ → pI τ st i → nzS st → psL tx 0 ([], [], true, 0) = psL (tx.drop i) i st → V G Z τ 16 [some (.ref (G.2.2.1 147)), some (.ref (G.2.2.1 (7 * 18))), some (.int (nI i)), l3] [] := by
    intro n
    induction n with
    | zero => intro i τ st l3 h; omega
    | succ n ih =>
      intro i τ st l3 hn hil g1 g2 g3 g4
      obtain ⟨D, lg, cst, d1, d2, d3, d4⟩ := g2
      have e0 : τ 147 0 = nI tx.length := by rw [g1.2]; exact t2
      have rest : i < tx.length → ∀ (r : Int32) (υ : Sg) (s : Nat), tx[i]? = some s → tR τ υ → ((stA s st = none ∧ r = nI 0) ∨ ∃ st', stA s st = some st' ∧ r = nI 1 ∧ pI υ st' (i + 1)) → V G Z υ 56 [some (.ref (G.2.2.1 147)), some (.ref (G.2.2.1 (7 * 18))), some (.int (nI i)), l3] [.int r] := by
        intro hi r υ s hs o1 hr
        have hdrop : tx.drop i = s :: tx.drop (i + 1) := by
          have := List.drop_eq_getElem_cons hi
          rw [(List.getElem?_eq_some_iff.mp hs).2] at this
          exact this
        rw [hdrop, psL] at g4
        refine v_istore_n X dX3_parseInto_56 (Nat.le_of_ble_eq_true rfl) ?_
        show V G Z _ 57 [_, _, _, _] _
        refine v_iload_n X dX3_parseInto_57 rfl ?_
        refine v_if_ne (tgt := 63) X dX3_parseInto_58 (by decide) (fun h58 => ?_) (fun h58 => ?_)
        · skip
          obtain ⟨st', h1, h2⟩ : ∃ st', stA s st = some st' ∧ pI υ st' (i + 1) := by
            rcases hr with ⟨-, z⟩ | ⟨st', z1, -, z2⟩
            · exact absurd z h58
            · exact ⟨st', z1, z2⟩
          rw [h1] at g4
          refine v_iincE X dX3_parseInto_63 rfl (nI_inc i) ?_
          show V G Z _ 66 [_, _, _, _] _
          refine v_goto (tgt := 16) X dX3_parseInto_66 (by decide) ?_
          exact ih (i + 1) υ st' _ (by omega) (by omega) (g1.trans o1) h2 (stA_nz h1) g4
        · skip
          have h1 : stA s st = none := by
            rcases hr with ⟨z, -⟩ | ⟨st', z1, z2, -⟩
            · exact z
            · rw [z2] at h58; exact absurd h58 (by decide)
          rw [h1] at g4
          refine v_iload_n X dX3_parseInto_61 rfl ?_
          refine v_ret X hR dX3_parseInto_62 rfl ?_
          refine ⟨g1.trans o1, Or.inl ⟨i, ?_, rfl⟩⟩
          rw [prs, g4]
      refine v_iload_n X dX3_parseInto_16 rfl ?_
      refine v_aload_n X dX3_parseInto_17 rfl ?_
      refine v_geti X fl_X3_9 shX3_0 dX3_parseInto_18 ?_
      rw [e0]
      refine v_icmp_ge (tgt := 69) X dX3_parseInto_21 (by decide) (fun h21 => ?_) (fun h21 => ?_)
      · skip
        have hi := nI_lem (by omega) (by omega) h21
        have hi : i = tx.length := by omega
        subst hi
        rw [List.drop_length] at g4
        refine v_aload_n X dX3_parseInto_69 rfl ?_
        refine v_geti X fl_X3_28 shX3_5 dX3_parseInto_70 ?_
        rw [d2]
        refine v_if_ne (tgt := 83) X dX3_parseInto_73 (by decide) (fun h73 => ?_) (fun h73 => ?_)
        · skip
          have hw := bI_nz.mp h73
          refine v_aload_n X dX3_parseInto_83 rfl ?_
          refine v_geti X fl_X3_9 shX3_0 dX3_parseInto_84 ?_
          rw [e0]
          refine v_goto (tgt := 92) X dX3_parseInto_87 (by decide) ?_
          refine v_ret X hR dX3_parseInto_92 rfl ?_
          refine ⟨g1, Or.inl ⟨tx.length, ?_, rfl⟩⟩
          rw [prs, g4]
          exact if_pos (Or.inl hw)
        · skip
          have hw := bI_z.mp h73
          refine v_aload_n X dX3_parseInto_76 rfl ?_
          refine v_geti X fl_X3_25 shX3_4 dX3_parseInto_77 ?_
          rw [d1.2.1]
          refine v_if_le (tgt := 90) X dX3_parseInto_80 (by decide) (fun h80 => ?_) (fun h80 => ?_)
          · skip
            refine v_bipush (v := (-6)) X dX3_parseInto_90 (by decide) ?_
            refine v_ret X hR dX3_parseInto_92 rfl ?_
            refine ⟨g1, Or.inr ⟨st.1, D, lg, ?_, rfl, d1.1⟩⟩
            rw [prs, g4]
            refine if_neg (fun z => ?_)
            rcases z with z | z
            · rw [hw] at z; cases z
            · have h0 := nI_l0 (by omega) h80
              have := skR_len _ _ d1.2.2.2
              exact z (List.length_eq_zero_iff.mp (by omega))
          · skip
            refine v_aload_n X dX3_parseInto_83 rfl ?_
            refine v_geti X fl_X3_9 shX3_0 dX3_parseInto_84 ?_
            rw [e0]
            refine v_goto (tgt := 92) X dX3_parseInto_87 (by decide) ?_
            refine v_ret X hR dX3_parseInto_92 rfl ?_
            refine ⟨g1, Or.inl ⟨tx.length, ?_, rfl⟩⟩
            rw [prs, g4]
            refine if_pos (Or.inr (fun z => ?_))
            have := skR_len _ _ d1.2.2.2
            rw [z] at this
            rw [← this] at h80
            exact h80 (by decide)
      · skip
        have hi := nI_len (by omega) (by omega) h21
        obtain ⟨s, hs⟩ : ∃ s, tx[i]? = some s := ⟨tx[i], List.getElem?_eq_getElem hi⟩
        obtain ⟨s1, s2⟩ := t3 i s hs
        have es : τ 148 i = nI s := by rw [g1.1 148 (by omega) (by decide) (by decide) (by decide)]; exact s2
        refine v_aload_n X dX3_parseInto_24 rfl ?_
        refine v_geti X fl_X3_28 shX3_5 dX3_parseInto_25 ?_
        rw [d2]
        refine v_if_eq (tgt := 45) X dX3_parseInto_28 (by decide) (fun h28 => ?_) (fun h28 => ?_)
        · skip
          have hw := bI_z.mp h28
          refine v_aload_n X dX3_parseInto_45 rfl ?_
          refine v_aload_n X dX3_parseInto_46 rfl ?_
          refine v_aload_n X dX3_parseInto_47 rfl ?_
          refine v_getr X fl_X3_15 shX3_1 dX3_parseInto_48 ?_
          refine v_iload_n X dX3_parseInto_51 rfl ?_
          refine v_ialdE X arX3_1 rfl (by first | assumption | omega) dX3_parseInto_52 ?_
          rw [es]
          refine v_cali X (c_goOn G (l := st.2.2.2) d1 (d3 hw) (g3 hw) (by omega) s1) cv_X3_44 obX3 rfl (by decide) rfl (by rfl) (Nat.le_of_ble_eq_true rfl) dX3_parseInto_53 (fun r υ hp => ?_)
          obtain ⟨o1, hp⟩ := hp
          refine rest hi r υ s hs o1 ?_
          rw [stA, if_neg (by rw [hw]; decide)]
          rcases hp with z | ⟨st', z1, z2, D', lg', cst', z3, z4, z5, z6⟩
          · exact Or.inl z
          · exact Or.inr ⟨st', z1, z2, D', lg', cst', z3, z4, z5, by omega⟩
        · skip
          have hw := bI_nz.mp h28
          refine v_aload_n X dX3_parseInto_31 rfl ?_
          refine v_aload_n X dX3_parseInto_32 rfl ?_
          refine v_aload_n X dX3_parseInto_33 rfl ?_
          refine v_getr X fl_X3_15 shX3_1 dX3_parseInto_34 ?_
          refine v_iload_n X dX3_parseInto_37 rfl ?_
          refine v_ialdE X arX3_1 rfl (by first | assumption | omega) dX3_parseInto_38 ?_
          rw [es]
          refine v_cali X (c_begin G (l := st.2.2.2) d1 (by rw [d2, hw]) (by omega) s1) cv_X3_40 obX3 rfl (by decide) rfl (by rfl) (Nat.le_of_ble_eq_true rfl) dX3_parseInto_39 (fun r υ hp => ?_)
          obtain ⟨o1, hp⟩ := hp
          refine v_goto (tgt := 56) X dX3_parseInto_42 (by decide) ?_
          refine rest hi r υ s hs o1 ?_
          rw [stA, if_pos hw]
          rcases hp with z | ⟨st', z1, z2, D', lg', cst', z3, z4, z5, z6⟩
          · exact Or.inl z
          · exact Or.inr ⟨st', z1, z2, D', lg', cst', z3, z4, z5, by omega⟩
  refine v_aload_n X dX3_parseInto_0 rfl ?_
  refine v_calv X (c_clear G (j := 18) (by decide)) cv_X3_35 (obX1 (by first | assumption | omega)) rfl (by decide) rfl (by rfl) (Nat.le_of_ble_eq_true rfl) dX3_parseInto_1 (fun τ hp => ?_)
  subst hp
  refine v_aload_n X dX3_parseInto_4 rfl ?_
  refine v_iconst (v := nI 0) X dX3_parseInto_5 (by decide) ?_
  refine v_puti X fw_X3_25 shX3_4 dX3_parseInto_6 rfl rfl ?_
  refine v_aload_n X dX3_parseInto_9 rfl ?_
  refine v_iconst (v := nI 1) X dX3_parseInto_10 (by decide) ?_
  refine v_puti X fw_X3_28 shX3_5 dX3_parseInto_11 rfl rfl ?_
  refine v_iconst (v := nI 0) X dX3_parseInto_14 (by decide) ?_
  refine v_istore_n X dX3_parseInto_15 (Nat.le_of_ble_eq_true rfl) ?_
  show V G Z _ 16 [_, _, _, _] _
  refine loop (tx.length + 1) 0 _ ([], [], true, 0) _ (by omega) (by omega) ?_ ?_ (fun z => by cases z) rfl
  · refine ((tR.S tR.rfl ?_).s2 (by omega)).s2 (by omega)
    exact (offS.rfl.s2 (by omega) (by omega)).s2 (by omega) (by omega)
  · refine ⟨[], false, [], ⟨⟨⟨Nat.zero_le _, fun q p h => by simp at h, ?_, fun q p h => by simp at h, fun q h => absurd h (Nat.not_lt_zero _)⟩, ?_, Or.inl ⟨rfl, rfl⟩⟩, ?_, trivial, trivial⟩, s2_at _ _ _ _, (fun z => by cases z), Nat.le_refl _⟩
    · rw [s2_nc (by omega), s2_nc (by omega), s2_ap, if_neg (by decide), s2_at]; rfl
    · rw [s2_nc (by omega), s2_nc (by omega), s2_at]; rfl
    · rw [s2_ap, if_neg (by decide), s2_at]; rfl
end
section
def bt (x : Int32) (i : Nat) : Bool := x.toBitVec.getLsbD i
theorem b_ext {x y : Int32} (h : ∀ i, i < 32 → bt x i = bt y i) : x = y := Int32.toBitVec_inj.mp (BitVec.eq_of_getLsbD_eq (fun i hi => h i hi))
theorem b_or (x y : Int32) (i : Nat) : bt (x ||| y) i = (bt x i || bt y i) := by unfold bt; rw [Int32.toBitVec_or, BitVec.getLsbD_or]
theorem b_and (x y : Int32) (i : Nat) : bt (x &&& y) i = (bt x i && bt y i) := by unfold bt; rw [Int32.toBitVec_and, BitVec.getLsbD_and]
theorem b_xor (x y : Int32) (i : Nat) : bt (x ^^^ y) i = (bt x i ^^ bt y i) := by unfold bt; rw [Int32.toBitVec_xor, BitVec.getLsbD_xor]
theorem b_big {x : Int32} {i : Nat} (h : 32 ≤ i) : bt x i = false := BitVec.getLsbD_of_ge _ _ h
theorem b_m1 : ∀ i, i < 32 → bt (-1) i = true := by decide +kernel
theorem b_0 (i : Nat) : bt 0 i = false := BitVec.getLsbD_zero
theorem s_l : ∀ n, n < 32 → ((nI n &&& 31).toBitVec.smod 32).toNat = n := by decide +kernel
theorem s_u : ∀ n, n < 32 → (((nI n).toUInt32 &&& Int32.toUInt32 31).toBitVec % 32).toNat = n := by decide +kernel
theorem b_shl (n : Nat) (hn : n < 32) (x : Int32) {i : Nat} (hi : i < 32) : bt (x <<< (nI n &&& 31)) i = (decide (n ≤ i) && bt x (i - n)) := by
  unfold bt
  rw [Int32.toBitVec_shiftLeft]
  show (x.toBitVec <<< ((nI n &&& 31).toBitVec.smod 32).toNat).getLsbD i = _
  rw [s_l n hn, BitVec.getLsbD_shiftLeft]
  rcases Nat.lt_or_ge i n with h | h
  · simp [h, Nat.not_le.mpr h]
  · simp [hi, h, Nat.not_lt.mpr h]
theorem b_ushr (n : Nat) (hn : n < 32) (x : Int32) (i : Nat) : bt ((x.toUInt32 >>> ((nI n).toUInt32 &&& Int32.toUInt32 31)).toInt32) i = bt x (n + i) := by
  show (x.toUInt32 >>> ((nI n).toUInt32 &&& Int32.toUInt32 31)).toBitVec.getLsbD i = x.toUInt32.toBitVec.getLsbD (n + i)
  rw [UInt32.toBitVec_shiftRight]
  show (x.toUInt32.toBitVec >>> (((nI n).toUInt32 &&& Int32.toUInt32 31).toBitVec % 32).toNat).getLsbD i = _
  rw [s_u n hn, BitVec.getLsbD_ushiftRight]
theorem b_sshr (n : Nat) (hn : n < 32) (x : Int32) {i : Nat} (hi : i < 32) : bt (x >>> (nI n &&& 31)) i = if n + i < 32 then bt x (n + i) else bt x 31 := by
  unfold bt
  rw [Int32.toBitVec_shiftRight]
  show (x.toBitVec.sshiftRight ((nI n &&& 31).toBitVec.smod 32).toNat).getLsbD i = _
  rw [s_l n hn, BitVec.getLsbD_sshiftRight, BitVec.msb_eq_getLsbD_last]
  simp [hi]
theorem nx_and (a b : Nat) : nI a &&& nI b = nI (a &&& b) := by
  apply Int32.toBitVec_inj.1
  show BitVec.ofNat 32 a &&& BitVec.ofNat 32 b = BitVec.ofNat 32 (a &&& b)
  apply BitVec.eq_of_getLsbD_eq
  intro i hi
  simp [hi]
theorem bt_nI {w i : Nat} (h : i < 32) : bt (nI w) i = w.testBit i := by
  unfold bt
  show (BitVec.ofNat 32 w).getLsbD i = _
  rw [BitVec.getLsbD_ofNat]
  simp [h]
theorem nb_or (a b : Nat) : nI a ||| nI b = nI (a ||| b) := b_ext (fun i hi => by rw [b_or, bt_nI hi, bt_nI hi, bt_nI hi, Nat.testBit_or])
theorem nb_and (a b : Nat) : nI a &&& nI b = nI (a &&& b) := b_ext (fun i hi => by rw [b_and, bt_nI hi, bt_nI hi, bt_nI hi, Nat.testBit_and])
/-- what is in a and not in b -/
def dif (a b : Nat) : Nat := a ^^^ (a &&& b)
theorem dif_bit (a b i : Nat) : (dif a b).testBit i = (a.testBit i && !b.testBit i) := by
  rw [dif, Nat.testBit_xor, Nat.testBit_and]
  cases a.testBit i <;> cases b.testBit i <;> rfl
theorem nb_not (a b : Nat) : nI a &&& (nI b ^^^ (-1)) = nI (dif a b) := b_ext (fun i hi => by
  rw [b_and, b_xor, b_m1 i hi, bt_nI hi, bt_nI hi, bt_nI hi, dif_bit]
  cases a.testBit i <;> cases b.testBit i <;> rfl)
theorem bt_1 {i : Nat} (hi : i < 32) : bt (nI 1) i = decide (i = 0) := by
  have h : ∀ i, i < 32 → bt (nI 1) i = decide (i = 0) := by decide +kernel
  exact h i hi
theorem nb_shl {k : Nat} (hk : k < 31) : nI 1 <<< (nI k &&& 31) = nI (2 ^ k) := b_ext (fun i hi => by
  rw [b_shl k (by omega) _ hi, bt_1 (by omega), bt_nI hi, Nat.testBit_two_pow]
  rw [← Bool.decide_and]
  congr 1
  apply propext
  omega)
theorem bt_bI (b : Bool) {i : Nat} (hi : i < 32) : bt (bI b) i = (b && decide (i = 0)) := by
  cases b
  · show bt 0 i = _
    rw [show bt 0 i = false from BitVec.getLsbD_zero]; rfl
  · show bt (nI 1) i = _
    rw [bt_1 hi]; rfl
theorem nb_has (w : Nat) {k : Nat} (hk : k < 32) : ((nI w).toUInt32 >>> ((nI k).toUInt32 &&& Int32.toUInt32 31)).toInt32 &&& nI 1 = bI (w.testBit k) := b_ext (fun i hi => by
  rw [b_and, b_ushr k hk, bt_1 hi, bt_bI _ hi]
  by_cases h : i = 0
  · subst h; rw [Nat.add_zero, bt_nI hk]
  · simp [h])
theorem nb_hasS (w : Nat) {k : Nat} (hk : k < 32) : (nI w >>> (nI k &&& 31)) &&& nI 1 = bI (w.testBit k) := b_ext (fun i hi => by
  rw [b_and, b_sshr k hk _ hi, bt_1 hi, bt_bI _ hi]
  by_cases h : i = 0
  · subst h; rw [if_pos (by omega), Nat.add_zero, bt_nI hk]
  · simp [h])
theorem nb_two (m s : Nat) {k l : Nat} (hk : k < 32) (hl : l < 32) : (((nI m).toUInt32 >>> ((nI k).toUInt32 &&& Int32.toUInt32 31)).toInt32 &&& ((nI s).toUInt32 >>> ((nI l).toUInt32 &&& Int32.toUInt32 31)).toInt32) &&& nI 1 = bI (m.testBit k && s.testBit l) := b_ext (fun i hi => by
  rw [b_and, b_and, b_ushr k hk, b_ushr l hl, bt_1 hi, bt_bI _ hi]
  by_cases h : i = 0
  · subst h; rw [Nat.add_zero, Nat.add_zero, bt_nI hk, bt_nI hl]
  · simp [h])
theorem nb_zero {m : Nat} (x : Int32) {k : Nat} (hk : k < 32) (h0 : m.testBit k = false) : (((nI m).toUInt32 >>> ((nI k).toUInt32 &&& Int32.toUInt32 31)).toInt32 &&& x) &&& nI 1 = 0 := b_ext (fun i hi => by
  rw [b_and, b_and, b_ushr k hk, bt_1 hi, show bt 0 i = false from BitVec.getLsbD_zero]
  by_cases h : i = 0
  · subst h; rw [Nat.add_zero, bt_nI hk, h0]; rfl
  · simp [h])
/-- a is within b -/
def sbs (a b : Nat) : Bool := b &&& a == a
theorem sbs_iff {a b : Nat} : sbs a b = true ↔ ∀ i, a.testBit i = true → b.testBit i = true := by
  unfold sbs
  rw [beq_iff_eq]
  constructor
  · intro h i hi
    rw [← h, Nat.testBit_and] at hi
    exact (Bool.and_eq_true _ _ |>.mp hi).1
  · intro h
    apply Nat.eq_of_testBit_eq
    intro i
    rw [Nat.testBit_and]
    cases ha : a.testBit i with
    | false => simp
    | true => rw [h i ha]; rfl
theorem sbs_le {a b : Nat} (h : sbs a b = true) : a ≤ b := by
  unfold sbs at h
  rw [beq_iff_eq] at h
  rw [← h]
  exact Nat.and_le_left
theorem nb_lt {a n : Nat} (h : a < 2 ^ n) {i : Nat} (hi : n ≤ i) : a.testBit i = false := Nat.testBit_lt_two_pow (Nat.lt_of_lt_of_le h (Nat.pow_le_pow_right (by decide) hi))
/-! WHICH SETS OF PARTS ARE CLOSED BY THEIR SIGNS -/
def cl1 (p : Pt) (k w : Nat) : Bool := if p.1 = 0 then true else if p.1 = 1 then !w.testBit k else if p.1 = 2 then w.testBit k == (w.testBit p.2.1 && w.testBit p.2.2) else if p.1 = 3 then w.testBit k == (w.testBit p.2.1 || w.testBit p.2.2) else w.testBit k == (w.testBit p.2.2 || (w.testBit k && !w.testBit p.2.1))
def clP (P : Sen) (k w : Nat) : Bool := (List.range k).all (fun i => cl1 (P.getD i (1, 0, 0)) i w)
def clL (P : Sen) (k : Nat) : List Nat := (List.range (2 ^ k)).filter (clP P k)
def wyO (p : Pt) (w : Nat) : Bool := if p.1 = 0 then true else if p.1 = 1 then true else if p.1 = 2 then !(w.testBit p.2.1 && w.testBit p.2.2) else if p.1 = 3 then !(w.testBit p.2.1 || w.testBit p.2.2) else !w.testBit p.2.2
def wyI (p : Pt) (w : Nat) : Bool := if p.1 = 0 then true else if p.1 = 1 then false else if p.1 = 2 then (w.testBit p.2.1 && w.testBit p.2.2) else if p.1 = 3 then (w.testBit p.2.1 || w.testBit p.2.2) else (w.testBit p.2.2 || !w.testBit p.2.1)
theorem clP_succ (P : Sen) (k w : Nat) : clP P (k + 1) w = (clP P k w && cl1 (P.getD k (1, 0, 0)) k w) := by
  unfold clP
  rw [List.range_succ, List.all_append]
  simp
theorem add_bit {w k i : Nat} (hw : w < 2 ^ k) (hi : i < k) : (2 ^ k + w).testBit i = w.testBit i := Nat.testBit_two_pow_add_gt hi w
theorem add_bitk {w k : Nat} (hw : w < 2 ^ k) : (2 ^ k + w).testBit k = true := by
  rw [Nat.testBit_two_pow_add_eq, nb_lt hw (Nat.le_refl k)]; rfl
theorem cl1_hi {P : Sen} (hw : wf P) {i k w : Nat} (hi : i < k) (hk : k ≤ P.length) (h : w < 2 ^ k) : cl1 (P.getD i (1, 0, 0)) i (2 ^ k + w) = cl1 (P.getD i (1, 0, 0)) i w := by
  obtain ⟨p, hp⟩ : ∃ p, P[i]? = some p := ⟨P[i]'(by omega), List.getElem?_eq_getElem (by omega)⟩
  rw [getD_of hp]
  unfold cl1
  rw [add_bit h hi]
  rcases hw i p hp with ⟨z, -⟩ | ⟨z, -⟩ | ⟨z1, z2, z3, z4⟩
  · simp [z]
  · simp [z]
  · rw [add_bit h (show p.2.1 < k by omega), add_bit h (show p.2.2 < k by omega)]
theorem clP_hi {P : Sen} (hw : wf P) {k w : Nat} (hk : k ≤ P.length) (h : w < 2 ^ k) : ∀ j, j ≤ k → clP P j (2 ^ k + w) = clP P j w
  | 0, _ => rfl
  | j + 1, hj => by rw [clP_succ, clP_succ, clP_hi hw hk h j (by omega), cl1_hi hw (by omega) hk h]
theorem cl1_out {p : Pt} {k w : Nat} (h : w < 2 ^ k) (hp : okp k p) : cl1 p k w = wyO p w := by
  unfold cl1 wyO
  rw [nb_lt h (Nat.le_refl k)]
  have := hp.k4
  split
  · rfl
  · split
    · rfl
    · split
      · cases w.testBit p.2.1 <;> cases w.testBit p.2.2 <;> rfl
      · split
        · cases w.testBit p.2.1 <;> cases w.testBit p.2.2 <;> rfl
        · cases w.testBit p.2.1 <;> cases w.testBit p.2.2 <;> rfl
theorem cl1_in {p : Pt} {k w : Nat} (h : w < 2 ^ k) (hp : okp k p) : cl1 p k (2 ^ k + w) = wyI p w := by
  unfold cl1 wyI
  rw [add_bitk h]
  rcases hp with ⟨z, -⟩ | ⟨z, -⟩ | ⟨z1, z2, z3, z4⟩
  · simp [z]
  · simp [z]
  · rw [add_bit h z3, add_bit h z4]
    rcases (show p.1 = 2 ∨ p.1 = 3 ∨ p.1 = 4 by omega) with z | z | z
    · simp only [z]
      cases w.testBit p.2.1 <;> cases w.testBit p.2.2 <;> rfl
    · simp only [z]
      cases w.testBit p.2.1 <;> cases w.testBit p.2.2 <;> rfl
    · simp only [z]
      cases w.testBit p.2.1 <;> cases w.testBit p.2.2 <;> rfl
theorem clL_succ {P : Sen} (hw : wf P) {k : Nat} {p : Pt} (hp : P[k]? = some p) : clL P (k + 1) = (clL P k).filter (wyO p) ++ ((clL P k).filter (wyI p)).map (fun w => 2 ^ k + w) := by
  have hk := (List.getElem?_eq_some_iff.mp hp).1
  unfold clL
  rw [show 2 ^ (k + 1) = 2 ^ k + 2 ^ k by rw [Nat.pow_succ]; omega, List.range_add, List.filter_append, List.filter_map, List.filter_filter, List.filter_filter]
  congr 1
  · apply List.filter_congr
    intro w hm
    rw [clP_succ, getD_of hp, cl1_out (List.mem_range.mp hm) (hw k p hp), Bool.and_comm]
  · congr 1
    apply List.filter_congr
    intro w hm
    have h := List.mem_range.mp hm
    simp only [Function.comp_apply]
    rw [clP_succ, getD_of hp, clP_hi hw (by omega) h k (Nat.le_refl k), cl1_in h (hw k p hp), Bool.and_comm]
theorem clL_lt {P : Sen} {k w : Nat} (h : w ∈ clL P k) : w < 2 ^ k := List.mem_range.mp (List.mem_filter.mp h).1
theorem clL_len (P : Sen) (k : Nat) : (clL P k).length ≤ 2 ^ k := by
  have := List.length_filter_le (clP P k) (List.range (2 ^ k))
  rw [List.length_range] at this
  exact this
end
section
set_option maxHeartbeats 4000000 in
set_option maxRecDepth 100000 in
theorem c_has (G : GT) {σ : Sg} (w : Nat) {k : Nat} (hk : k < 32) : MC G yX4_has cX4_has 2 .boolean 0 [.int (nI w), .int (nI k)] σ (fun r τ => τ = σ ∧ r = bI (w.testBit k)) := by
  refine MC_of (by decide) (ca1 rfl (ca1 rfl ca0)) (Nat.le_of_ble_eq_true rfl) ?_
  intro Z X hR
  show V G Z σ 0 [some (.int (nI w)), some (.int (nI k))] []
  refine v_iload_n X dX4_has_0 rfl ?_
  refine v_iload_n X dX4_has_1 rfl ?_
  refine v_iushr X dX4_has_2 ?_
  refine v_iconst (v := nI 1) X dX4_has_3 (by decide) ?_
  refine v_iand X dX4_has_4 ?_
  refine v_top (nb_has w hk) ?_
  refine v_if_eq (tgt := 12) X dX4_has_5 (by decide) (fun h5 => ?_) (fun h5 => ?_)
  · skip
    have e := bI_z.mp h5
    refine v_iconst (v := nI 0) X dX4_has_12 (by decide) ?_
    refine v_ret X hR dX4_has_13 rfl ?_
    exact ⟨rfl, by rw [e]; rfl⟩
  · skip
    have e := bI_nz.mp h5
    refine v_iconst (v := nI 1) X dX4_has_8 (by decide) ?_
    refine v_goto (tgt := 13) X dX4_has_9 (by decide) ?_
    refine v_ret X hR dX4_has_13 rfl ?_
    exact ⟨rfl, by rw [e]; rfl⟩

section VFRAME
variable {G : GT} {own : String} {cc : ByteArray} {lev : Nat} {Z : ZT} {σ : Sg} {pc : Nat} {lo : List (Option Value)} {st : List Value}
theorem wd_has1 : Cond.static yX4_has ∈ BG := bg_of 478 (by decide +kernel) rfl
theorem wd_has2 : Cond.code yX4_has cX4_has 2 (some .boolean) ∈ BG := bg_of 479 (by decide +kernel) rfl
theorem wd_has3 : Cond.initialized yX4_has.cls ∈ BG := cs_X4_161.1.2.2.1
theorem v_hasN {w k : Nat} {rest : List Value} (X : Cx G RX0 cc lev Z) (h0 : 0 < lev) (hk : k < 32) (hcat : (rest.map fun v => v.category).sum ≤ 8) (d : decode cc pc = .ok (.invokestatic 72, 3)) (kk : V G Z σ (pc + 3) lo (.int (bI (w.testBit k)) :: rest)) : V G Z σ pc lo (.int (nI k) :: .int (nI w) :: rest) := by
  have hM : MC G yX4_has cX4_has 2 .boolean 0 [.int (nI w), .int (nI k)] σ (fun r τ => τ = σ ∧ r = bI (w.testBit k)) := c_has G w hk
  obtain ⟨p, l, e, R, s, m, args, below, meth, c, cs, sl, Q⟩ := Z
  obtain ⟨hx, hb, ho, ht, hK, hG, hS0, hr, hlk⟩ := X
  intro H locs ls hP hS hl
  have hT := (rml_ok (n := 2) h0 (by decide) ⟨hr.1, hr.2.1⟩)
  have cw : va_CN R s args RX0 72 yX4_has "StrictSentences" cX4_has 2 (some .boolean) (.code yX4_has cX4_has 2 (some .boolean) :: BG) (rml 0) 0 0 2 ∧ (Cond.static yX4_has).before args s = true ∧ True := ⟨va_cnB 2 ht (good_cons wd_has2) rfl rfl rfl hS0.2.2.2.2.1 (ht _ wd_has3) ⟨by decide +kernel, by decide +kernel, by decide +kernel⟩ hT, ht _ wd_has1, trivial⟩
  refine va_calli (va_runSN (As := [.int (nI w), .int (nI k)]) (rest := rest) ⟨hx, hb, rfl, ho, ht⟩ (hM l) cw ⟨wd_blind G σ _, fun U hU hW => ⟨rfl, hG, by rw [hU]; exact hP, va_K.moved hW.alike hK, ?_⟩⟩ rfl rfl hl.2.2.1 rfl (lv_room hcat) d ⟨hr.2.2.1, hr.2.2.2⟩) hS (fun q _ h => h) (fun q h => h) (fun r u t H1 locs1 ht1 hvm hw hB hz1 hk1 hS1 => ?_)
  · rw [hU]; exact St.warm hW (hS0.kept (fun a h1 h2 => hS.2.1 a h1 h2))
  · obtain ⟨rfl, rfl⟩ := hw
    exact kk H1 locs1 ls (by rw [← ht1]; exact hB) hS1 hl
theorem wd_cp1 : Cond.methodLink RX0 57 arraycopyName ∈ BG := bg_of 480 (by decide +kernel) rfl
theorem wd_cp2 : Cond.static arraycopyName ∈ BG := bg_of 481 (by decide +kernel) rfl
theorem wd_cp3 : Cond.native arraycopyName ∈ BG := bg_of 482 (by decide +kernel) rfl
theorem wd_cp4 : Cond.initialized "java/lang/System" ∈ BG := bg_of 62 (by decide +kernel) rfl
theorem nf_words : nativeFrameWords "java/lang/System" "arraycopy" 5 + 11 + 8 ≤ 60 := by decide +kernel
theorem v_copyi {i0 i1 n0 n1 sp dp n : Nat} {rest : List Value} (X : Cx G RX0 cc lev Z) (h0 : 0 < lev) (ha0 : aI i0 n0) (ha1 : aI i1 n1) (h1 : sp + n ≤ n0) (h2 : dp + n ≤ n1) (hn0 : n0 ≤ 2048) (hn1 : n1 ≤ 2048) (hcat : (rest.map fun v => v.category).sum ≤ 8) (d : decode cc pc = .ok (.invokestatic 57, 3)) (kk : V G Z (s1 σ i1 (va_cpy (σ i0) (σ i1) sp dp n)) (pc + 3) lo rest) : V G Z σ pc lo (.int (nI n) :: .int (nI dp) :: .ref (G.2.2.1 i1) :: .int (nI sp) :: .ref (G.2.2.1 i0) :: rest) := by
  obtain ⟨p, l, e, R, s, m, args, below, meth, c, cs, sl, Q⟩ := Z
  obtain ⟨hx, hb, ho, ht, hK, hG, hS0, hr, hlk⟩ := X
  intro H locs ls hP hS hl
  obtain ⟨hi0, e0⟩ := ha0
  obtain ⟨hi1, e1⟩ := ha1
  have he0 := wl_at G σ hi0
  have he1 := wl_at G σ hi1
  rw [e0] at he0
  rw [e1] at he1
  have c1 : (nI sp).toNatClampNeg = sp := nI_clamp (by omega)
  have c2 : (nI dp).toNatClampNeg = dp := nI_clamp (by omega)
  have c3 : (nI n).toNatClampNeg = n := nI_clamp (by omega)
  have hr1 := hr.1
  have hr2 := hr.2.1
  simp only [lcl] at hr2
  have hnf := nf_words
  refine va_copyi hx hb hl.2.2.1.symm ho (ht _ wd_cp1) (ht _ wd_cp3) (ht _ wd_cp2) (ht _ wd_cp4) hK hP (wl_D hG σ) hS i0 i1 0 0 he0 he1 rfl rfl rfl (nI_pos (by omega)) (nI_pos (by omega)) (nI_pos (by omega)) (by rw [c1, c3]; exact h1) (by rw [c2, c3]; exact h2) (fun _ _ => rfl) (by omega) (by omega) d (fun H1 locs1 hP1 _ hS1 => ?_)
  rw [c1, c2, c3] at hP1
  have hw := wl_set G σ hi1 (va_cpy (σ i0) (σ i1) sp dp n)
  rw [e1] at hw
  rw [show (Sum.inl (G.2.1 0, n1, Sum.inl (va_cpy (σ i0) (σ i1) sp dp n)) : va_E) = ce G (.inl (0, n1)) (va_cpy (σ i0) (σ i1) sp dp n) from rfl, hw] at hP1
  exact kk H1 locs1 ls hP1 hS1 hl
end VFRAME
def arr (f : Nat → Int32) (L : List Nat) : Prop := ∀ x w, L[x]? = some w → f x = nI w
theorem arr_snoc {f : Nat → Int32} {L : List Nat} {w : Nat} (h : arr f L) : arr (upd f L.length (nI w)) (L ++ [w]) := by
  intro x v hx
  rw [List.getElem?_append] at hx
  split at hx
  · rename_i hlt
    rw [upd, if_neg (by omega)]; exact h x v hx
  · have : x - L.length = 0 := by
      rcases Nat.eq_zero_or_pos (x - L.length) with z | z
      · exact z
      · rw [List.getElem?_eq_none (by simp; omega)] at hx; cases hx
    rw [this] at hx
    have hx : w = v := by simpa using hx
    subst hx
    rw [upd, if_pos (by omega)]
theorem arr_upd {f : Nat → Int32} {L : List Nat} {k : Nat} {v : Int32} (h : arr f L) (hk : L.length ≤ k) : arr (upd f k v) L := by
  intro x w hx
  have := (List.getElem?_eq_some_iff.mp hx).1
  rw [upd, if_neg (by omega)]; exact h x w hx
theorem s2_c (σ : Sg) (i k : Nat) (x : Int32) : s2 σ i k x i = upd (σ i) k x := by simp [s2, s1]
theorem or_add {w k : Nat} (h : w < 2 ^ k) : w ||| 2 ^ k = 2 ^ k + w := by
  have := Nat.two_pow_add_eq_or_of_lt h 1
  rw [Nat.mul_one] at this
  rw [this, Nat.or_comm]
set_option maxHeartbeats 4000000 in
set_option maxRecDepth 100000 in
theorem c_waysOf (G : GT) {σ : Sg} {P : Sen} (hP : hs σ 19 P) {k : Nat} {p : Pt} (hp : P[k]? = some p) (w : Nat) : MC G yX0_waysOf cX0_waysOf 5 .int 1 [.ref (G.2.2.1 151), .int (nI k), .int (nI w)] σ (fun r τ => τ = σ ∧ r = nI ((if wyI p w then 2 else 0) + (if wyO p w then 1 else 0))) := by
  refine MC_of (by decide) (ca1 rfl (ca1 rfl (ca1 rfl ca0))) (Nat.le_of_ble_eq_true rfl) ?_
  intro Z X hR
  show V G Z σ 0 [some (.ref (G.2.2.1 151)), some (.int (nI k)), some (.int (nI w)), none, none] []
  obtain ⟨p1, p2, p3, p4, p5⟩ := hP
  have hk := (List.getElem?_eq_some_iff.mp hp).1
  obtain ⟨e1, e2, e3⟩ := p4 k p hp
  have hok := p2 k p hp
  have hk4 := hok.k4
  refine v_aload_n X dX0_waysOf_0 rfl ?_
  refine v_getr X fl_X0_12 shX0_0 dX0_waysOf_1 ?_
  refine v_getr X fl_X0_63 (shX1_3 (by first | assumption | omega)) dX0_waysOf_4 ?_
  refine v_iload_n X dX0_waysOf_7 rfl ?_
  refine v_ialdE X (arX1_3 (by first | assumption | omega)) rfl (show k < 11 by omega) dX0_waysOf_8 ?_
  rw [e2]
  refine v_istore_n X dX0_waysOf_9 (Nat.le_of_ble_eq_true rfl) ?_
  show V G Z _ 10 [_, _, _, _, _] _
  refine v_aload_n X dX0_waysOf_10 rfl ?_
  refine v_getr X fl_X0_12 shX0_0 dX0_waysOf_11 ?_
  refine v_getr X fl_X0_66 (shX1_4 (by first | assumption | omega)) dX0_waysOf_14 ?_
  refine v_iload_n X dX0_waysOf_17 rfl ?_
  refine v_ialdE X (arX1_4 (by first | assumption | omega)) rfl (show k < 11 by omega) dX0_waysOf_18 ?_
  rw [e3]
  refine v_istore X dX0_waysOf_19 (Nat.le_of_ble_eq_true rfl) ?_
  show V G Z _ 21 [_, _, _, _, _] _
  refine v_aload_n X dX0_waysOf_21 rfl ?_
  refine v_getr X fl_X0_12 shX0_0 dX0_waysOf_22 ?_
  refine v_getr X fl_X0_69 (shX1_2 (by first | assumption | omega)) dX0_waysOf_25 ?_
  refine v_iload_n X dX0_waysOf_28 rfl ?_
  refine v_ialdE X (arX1_2 (by first | assumption | omega)) rfl (show k < 11 by omega) dX0_waysOf_29 ?_
  rw [e1]
  rcases (show p.1 = 0 ∨ p.1 = 1 ∨ p.1 = 2 ∨ p.1 = 3 ∨ p.1 = 4 by omega) with z | z | z | z | z
  · rw [show pK p = nI 0 from by rw [pK, z]]
    refine v_tabIn (off := 34) (tgt := 64) X dX0_waysOf_30 (by decide) (by decide) (by decide) (by decide) ?_
    refine v_iconst (v := nI 3) X dX0_waysOf_64 (by decide) ?_
    refine v_ret X hR dX0_waysOf_65 rfl ?_
    exact ⟨rfl, by simp [wyI, wyO, z]⟩
  · rw [show pK p = nI 1 from by rw [pK, z]]
    refine v_tabIn (off := 109) (tgt := 139) X dX0_waysOf_30 (by decide) (by decide) (by decide) (by decide) ?_
    refine v_iconst (v := nI 1) X dX0_waysOf_139 (by decide) ?_
    refine v_ret X hR dX0_waysOf_140 rfl ?_
    exact ⟨rfl, by simp [wyI, wyO, z]⟩
  · rw [show pK p = nI 2 from by rw [pK, z]]
    refine v_tabIn (off := 36) (tgt := 66) X dX0_waysOf_30 (by decide) (by decide) (by decide) (by decide) ?_
    rw [show pA p = nI p.2.1 from if_neg (by omega), show pB p = nI p.2.2 from if_neg (by omega)]
    have hab : p.2.1 < k ∧ p.2.2 < k := by
      rcases hok with ⟨q, -⟩ | ⟨q, -⟩ | ⟨-, -, q1, q2⟩
      · omega
      · omega
      · exact ⟨q1, q2⟩
    refine v_iload_n X dX0_waysOf_66 rfl ?_
    refine v_iload_n X dX0_waysOf_67 rfl ?_
    refine v_hasN X (by decide) (by omega) (Nat.le_of_ble_eq_true rfl) dX0_waysOf_68 ?_
    refine v_if_eq (tgt := 87) X dX0_waysOf_71 (by decide) (fun h71 => ?_) (fun h71 => ?_)
    · skip
      have ha := bI_z.mp h71
      refine v_iconst (v := nI 1) X dX0_waysOf_87 (by decide) ?_
      refine v_ret X hR dX0_waysOf_88 rfl ?_
      exact ⟨rfl, by simp [wyI, wyO, z, ha]⟩
    · skip
      have ha := bI_nz.mp h71
      refine v_iload_n X dX0_waysOf_74 rfl ?_
      refine v_iload X dX0_waysOf_75 rfl ?_
      refine v_hasN X (by decide) (by omega) (Nat.le_of_ble_eq_true rfl) dX0_waysOf_77 ?_
      refine v_if_eq (tgt := 87) X dX0_waysOf_80 (by decide) (fun h80 => ?_) (fun h80 => ?_)
      · skip
        have hb := bI_z.mp h80
        refine v_iconst (v := nI 1) X dX0_waysOf_87 (by decide) ?_
        refine v_ret X hR dX0_waysOf_88 rfl ?_
        exact ⟨rfl, by simp [wyI, wyO, z, ha, hb]⟩
      · skip
        have hb := bI_nz.mp h80
        refine v_iconst (v := nI 2) X dX0_waysOf_83 (by decide) ?_
        refine v_goto (tgt := 88) X dX0_waysOf_84 (by decide) ?_
        refine v_ret X hR dX0_waysOf_88 rfl ?_
        exact ⟨rfl, by simp [wyI, wyO, z, ha, hb]⟩
  · rw [show pK p = nI 3 from by rw [pK, z]]
    refine v_tabIn (off := 59) (tgt := 89) X dX0_waysOf_30 (by decide) (by decide) (by decide) (by decide) ?_
    rw [show pA p = nI p.2.1 from if_neg (by omega), show pB p = nI p.2.2 from if_neg (by omega)]
    have hab : p.2.1 < k ∧ p.2.2 < k := by
      rcases hok with ⟨q, -⟩ | ⟨q, -⟩ | ⟨-, -, q1, q2⟩
      · omega
      · omega
      · exact ⟨q1, q2⟩
    refine v_iload_n X dX0_waysOf_89 rfl ?_
    refine v_iload_n X dX0_waysOf_90 rfl ?_
    refine v_hasN X (by decide) (by omega) (Nat.le_of_ble_eq_true rfl) dX0_waysOf_91 ?_
    refine v_if_ne (tgt := 106) X dX0_waysOf_94 (by decide) (fun h94 => ?_) (fun h94 => ?_)
    · skip
      have ha := bI_nz.mp h94
      refine v_iconst (v := nI 2) X dX0_waysOf_106 (by decide) ?_
      refine v_goto (tgt := 111) X dX0_waysOf_107 (by decide) ?_
      refine v_ret X hR dX0_waysOf_111 rfl ?_
      exact ⟨rfl, by simp [wyI, wyO, z, ha]⟩
    · skip
      have ha := bI_z.mp h94
      refine v_iload_n X dX0_waysOf_97 rfl ?_
      refine v_iload X dX0_waysOf_98 rfl ?_
      refine v_hasN X (by decide) (by omega) (Nat.le_of_ble_eq_true rfl) dX0_waysOf_100 ?_
      refine v_if_eq (tgt := 110) X dX0_waysOf_103 (by decide) (fun h103 => ?_) (fun h103 => ?_)
      · skip
        have hb := bI_z.mp h103
        refine v_iconst (v := nI 1) X dX0_waysOf_110 (by decide) ?_
        refine v_ret X hR dX0_waysOf_111 rfl ?_
        exact ⟨rfl, by simp [wyI, wyO, z, ha, hb]⟩
      · skip
        have hb := bI_nz.mp h103
        refine v_iconst (v := nI 2) X dX0_waysOf_106 (by decide) ?_
        refine v_goto (tgt := 111) X dX0_waysOf_107 (by decide) ?_
        refine v_ret X hR dX0_waysOf_111 rfl ?_
        exact ⟨rfl, by simp [wyI, wyO, z, ha, hb]⟩
  · rw [show pK p = nI 4 from by rw [pK, z]]
    refine v_tabIn (off := 82) (tgt := 112) X dX0_waysOf_30 (by decide) (by decide) (by decide) (by decide) ?_
    rw [show pA p = nI p.2.1 from if_neg (by omega), show pB p = nI p.2.2 from if_neg (by omega)]
    have hab : p.2.1 < k ∧ p.2.2 < k := by
      rcases hok with ⟨q, -⟩ | ⟨q, -⟩ | ⟨-, -, q1, q2⟩
      · omega
      · omega
      · exact ⟨q1, q2⟩
    refine v_iload_n X dX0_waysOf_112 rfl ?_
    refine v_iload X dX0_waysOf_113 rfl ?_
    refine v_hasN X (by decide) (by omega) (Nat.le_of_ble_eq_true rfl) dX0_waysOf_115 ?_
    refine v_if_eq (tgt := 125) X dX0_waysOf_118 (by decide) (fun h118 => ?_) (fun h118 => ?_)
    · skip
      have ha := bI_z.mp h118
      refine v_iload_n X dX0_waysOf_125 rfl ?_
      refine v_iload_n X dX0_waysOf_126 rfl ?_
      refine v_hasN X (by decide) (by omega) (Nat.le_of_ble_eq_true rfl) dX0_waysOf_127 ?_
      refine v_if_eq (tgt := 137) X dX0_waysOf_130 (by decide) (fun h130 => ?_) (fun h130 => ?_)
      · skip
        have hb := bI_z.mp h130
        refine v_iconst (v := nI 3) X dX0_waysOf_137 (by decide) ?_
        refine v_ret X hR dX0_waysOf_138 rfl ?_
        exact ⟨rfl, by simp [wyI, wyO, z, ha, hb]⟩
      · skip
        have hb := bI_nz.mp h130
        refine v_iconst (v := nI 1) X dX0_waysOf_133 (by decide) ?_
        refine v_goto (tgt := 138) X dX0_waysOf_134 (by decide) ?_
        refine v_ret X hR dX0_waysOf_138 rfl ?_
        exact ⟨rfl, by simp [wyI, wyO, z, ha, hb]⟩
    · skip
      have ha := bI_nz.mp h118
      refine v_iconst (v := nI 2) X dX0_waysOf_121 (by decide) ?_
      refine v_goto (tgt := 138) X dX0_waysOf_122 (by decide) ?_
      refine v_ret X hR dX0_waysOf_138 rfl ?_
      exact ⟨rfl, by simp [wyI, wyO, z, ha]⟩
end
section
/-- of the Frame only its own rows may change -/
def fO (σ τ : Sg) : Prop := ∀ i, (i < 151 ∨ 155 ≤ i) → τ i = σ i
theorem fO.rfl {σ : Sg} : fO σ σ := fun _ _ => by rfl
theorem fO.trans {σ τ υ : Sg} (h1 : fO σ τ) (h2 : fO τ υ) : fO σ υ := fun i h => (h2 i h).trans (h1 i h)
theorem fO.s2 {σ τ : Sg} {i k : Nat} {x : Int32} (h : fO σ τ) (h1 : 151 ≤ i) (h2 : i < 155) : fO σ (s2 τ i k x) := fun q hq => by rw [s2_nc (by omega)]; exact h q hq
theorem fO.s1 {σ τ : Sg} {i : Nat} {f : Nat → Int32} (h : fO σ τ) (h1 : 151 ≤ i) (h2 : i < 155) : fO σ (s1 τ i f) := fun q hq => by
  show (if q = i then f else τ q) = σ q
  rw [if_neg (by omega)]; exact h q hq
theorem hs_fO {σ τ : Sg} {j : Nat} {P : Sen} (h : hs σ j P) (ho : fO σ τ) (hj : j < 20) : hs τ j P := hs_cong h (by rw [ho _ (by omega)]) (fun q _ _ => ho _ (by omega))
def dcI (σ τ : Sg) (L : List Nat) (k : Nat) (p : Pt) (i : Nat) : Prop := (∀ c, c ≠ 152 → c ≠ 153 → τ c = σ c) ∧ (∀ x w, i ≤ x → L[x]? = some w → τ 152 x = nI w) ∧ arr (τ 152) ((L.take i).filter (wyO p)) ∧ arr (τ 153) (((L.take i).filter (wyI p)).map (fun w => 2 ^ k + w))
theorem flen (L : List Nat) (f : Nat → Bool) (i : Nat) (hi : i ≤ L.length) : ((L.take i).filter f).length ≤ i := by
  have := List.length_filter_le f (L.take i)
  rw [List.length_take] at this
  omega
theorem take_s {L : List Nat} {i w : Nat} (h : L[i]? = some w) : L.take (i + 1) = L.take i ++ [w] := by
  rw [List.take_succ, h]; rfl
theorem fil_s {L : List Nat} {i w : Nat} (f : Nat → Bool) (h : L[i]? = some w) : (L.take (i + 1)).filter f = (L.take i).filter f ++ (if f w then [w] else []) := by
  rw [take_s h, List.filter_append]
  simp [List.filter_cons]
set_option maxHeartbeats 4000000 in
set_option maxRecDepth 100000 in
theorem c_decide (G : GT) {σ : Sg} {P : Sen} (hP : hs σ 19 P) {k : Nat} {p : Pt} (hp : P[k]? = some p) (he : σ 151 5 = nI (clL P k).length) (hL : arr (σ 152) (clL P k)) : MV G yX0_decide cX0_decide 7 2 [.ref (G.2.2.1 151), .int (nI k)] σ (fun τ => fO σ τ ∧ τ 151 5 = nI (clL P (k + 1)).length ∧ arr (τ 152) (clL P (k + 1))) := by
  refine MV_of (by decide) (ca1 rfl (ca1 rfl ca0)) (Nat.le_of_ble_eq_true rfl) ?_
  intro Z X hR
  show V G Z σ 0 [some (.ref (G.2.2.1 151)), some (.int (nI k)), none, none, none, none, none] []
  have hk := (List.getElem?_eq_some_iff.mp hp).1
  have hP11 := hP.1
  have hlen : (clL P k).length ≤ 1024 := Nat.le_trans (clL_len P k) (Nat.le_trans (Nat.pow_le_pow_right (by decide) (show k ≤ 10 by omega)) (by decide))
  have loop : ∀ (n i : Nat) (τ : Sg) (wo wi : Nat) (l5 l6 : Option Value), (clL P k).length - i < n → i ≤ (clL P k).length → wo = (((clL P k).take i).filter (wyO p)).length → wi = (((clL P k).take i).filter (wyI p)).length → dcI σ τ (clL P k) k p i → V G Z τ 7 [some (.ref (G.2.2.1 151)), some (.int (nI k)), some (.int (nI wo)), some (.int (nI wi)), some (.int (nI i)), l5, l6] [] := by
    intro n
    induction n with
    | zero => intro i τ wo wi l5 l6 h; omega
    | succ n ih =>
      intro i τ wo wi l5 l6 hn hil hwo hwi hinv
      obtain ⟨i1, i2, i3, i4⟩ := hinv
      have e5 : τ 151 5 = nI (clL P k).length := by rw [i1 151 (by decide) (by decide)]; exact he
      have hT : hs τ 19 P := hs_cong hP (by rw [i1 _ (by decide) (by decide)]) (fun q _ _ => i1 _ (by omega) (by omega))
      have bo : wo ≤ i := by rw [hwo]; exact flen _ _ _ hil
      have bi : wi ≤ i := by rw [hwi]; exact flen _ _ _ hil
      refine v_iload X dX0_decide_7 rfl ?_
      refine v_aload_n X dX0_decide_9 rfl ?_
      refine v_geti X fl_X0_32 shX0_5 dX0_decide_10 ?_
      rw [e5]
      refine v_icmp_ge (tgt := 80) X dX0_decide_13 (by decide) (fun h13 => ?_) (fun h13 => ?_)
      · skip
        have hi := nI_lem (by omega) (by omega) h13
        have hi : i = (clL P k).length := by omega
        subst hi
        rw [List.take_length] at hwo hwi i3 i4
        refine v_aload_n X dX0_decide_80 rfl ?_
        refine v_getr X fl_X0_22 shX0_2 dX0_decide_81 ?_
        refine v_iconst (v := nI 0) X dX0_decide_84 (by decide) ?_
        refine v_aload_n X dX0_decide_85 rfl ?_
        refine v_getr X fl_X0_18 shX0_1 dX0_decide_86 ?_
        refine v_iload_n X dX0_decide_89 rfl ?_
        refine v_iload_n X dX0_decide_90 rfl ?_
        refine v_copyi X (by decide) arX0_2 arX0_1 (by omega) (by omega) (by decide) (by decide) (Nat.le_of_ble_eq_true rfl) dX0_decide_91 ?_
        refine v_aload_n X dX0_decide_94 rfl ?_
        refine v_iload_n X dX0_decide_95 rfl ?_
        refine v_iload_n X dX0_decide_96 rfl ?_
        refine v_iadd X dX0_decide_97 ?_
        refine v_top (nI_add wo wi) ?_
        refine v_puti X fw_X0_32 shX0_5 dX0_decide_98 rfl rfl ?_
        refine v_vret X hR dX0_decide_101 ?_
        have es := clL_succ hP.2.1 hp
        refine ⟨?_, ?_, ?_⟩
        · have hf : fO σ τ := fun c hc => i1 c (by omega) (by omega)
          exact (hf.s1 (by decide) (by decide)).s2 (by decide) (by decide)
        · rw [s2_at, es, List.length_append, List.length_map, ← hwo, ← hwi]
        · rw [s2_nc (by decide), es]
          intro x v hx
          show (if (152 : Nat) = 152 then va_cpy (τ 153) (τ 152) 0 wo wi else τ 152) x = nI v
          rw [if_pos rfl]
          rw [List.getElem?_append] at hx
          split at hx
          · rename_i hlt
            rw [pk_cpy_out (by omega)]
            exact i3 x v hx
          · rename_i hge
            have hlt := (List.getElem?_eq_some_iff.mp hx).1
            rw [List.length_map] at hlt
            rw [pk_cpy_in (by omega) (by omega), hwo, Nat.zero_add]
            exact i4 _ v hx
      · skip
        have hi := nI_len (by omega) (by omega) h13
        obtain ⟨w, hw⟩ : ∃ w, (clL P k)[i]? = some w := ⟨(clL P k)[i], List.getElem?_eq_getElem hi⟩
        have hwk : w < 2 ^ k := clL_lt (List.mem_of_getElem? hw)
        have fo := fil_s (wyO p) hw
        have fi := fil_s (wyI p) hw
        refine v_aload_n X dX0_decide_16 rfl ?_
        refine v_getr X fl_X0_18 shX0_1 dX0_decide_17 ?_
        refine v_iload X dX0_decide_20 rfl ?_
        refine v_ialdE X arX0_1 rfl (show i < 2048 by omega) dX0_decide_22 ?_
        rw [i2 i w (Nat.le_refl i) hw]
        refine v_istore X dX0_decide_23 (Nat.le_of_ble_eq_true rfl) ?_
        show V G Z _ 25 [_, _, _, _, _, _, _] _
        refine v_aload_n X dX0_decide_25 rfl ?_
        refine v_iload_n X dX0_decide_26 rfl ?_
        refine v_iload X dX0_decide_27 rfl ?_
        refine v_cali X (c_waysOf G hT hp w) cv_X0_53 obX0 rfl (by decide) rfl (by rfl) (Nat.le_of_ble_eq_true rfl) dX0_decide_29 (fun r τ9 hq => ?_)
        obtain ⟨e9, rfl⟩ := hq
        rw [e9]
        have mid : ∀ (υ : Sg) (wi2 : Nat), wi2 = (((clL P k).take (i + 1)).filter (wyI p)).length → (∀ c, c ≠ 153 → υ c = τ c) → arr (υ 153) ((((clL P k).take (i + 1)).filter (wyI p)).map (fun w => 2 ^ k + w)) → V G Z υ 56 [some (.ref (G.2.2.1 151)), some (.int (nI k)), some (.int (nI wo)), some (.int (nI wi2)), some (.int (nI i)), some (.int (nI w)), some (.int (nI ((if wyI p w then 2 else 0) + (if wyO p w then 1 else 0))))] [] := by
          intro υ wi2 m1 m2 m3
          refine v_iload X dX0_decide_56 rfl ?_
          refine v_iconst (v := nI 1) X dX0_decide_58 (by decide) ?_
          refine v_iand X dX0_decide_59 ?_
          refine v_top (y := bI (wyO p w)) (by cases wyI p w <;> cases wyO p w <;> decide) ?_
          refine v_if_eq (tgt := 74) X dX0_decide_60 (by decide) (fun h60 => ?_) (fun h60 => ?_)
          · skip
            have eo := bI_z.mp h60
            rw [eo] at fo
            refine v_iincE X dX0_decide_74 rfl (nI_inc i) ?_
            show V G Z _ 77 [_, _, _, _, _, _, _] _
            refine v_goto (tgt := 7) X dX0_decide_77 (by decide) ?_
            refine ih (i + 1) _ _ _ _ _ (by omega) (by omega) (by rw [fo, List.length_append, ← hwo]; rfl) m1 ⟨fun c c1 c2 => ?_, fun x v hx hv => ?_, ?_, m3⟩
            · rw [m2 c c2]; exact i1 c c1 c2
            · rw [m2 152 (by decide)]; exact i2 x v (by omega) hv
            · rw [m2 152 (by decide), fo]; simpa using i3
          · skip
            have eo := bI_nz.mp h60
            rw [eo] at fo
            refine v_aload_n X dX0_decide_63 rfl ?_
            refine v_getr X fl_X0_18 shX0_1 dX0_decide_64 ?_
            refine v_iload_n X dX0_decide_67 rfl ?_
            refine v_iload X dX0_decide_68 rfl ?_
            refine v_iastE X arX0_1 rfl (show wo < 2048 by omega) dX0_decide_70 ?_
            refine v_iincE X dX0_decide_71 rfl (nI_inc wo) ?_
            show V G Z _ 74 [_, _, _, _, _, _, _] _
            refine v_iincE X dX0_decide_74 rfl (nI_inc i) ?_
            show V G Z _ 77 [_, _, _, _, _, _, _] _
            refine v_goto (tgt := 7) X dX0_decide_77 (by decide) ?_
            refine ih (i + 1) _ _ _ _ _ (by omega) (by omega) (by rw [fo, List.length_append, ← hwo]; rfl) m1 ⟨fun c c1 c2 => ?_, fun x v hx hv => ?_, ?_, ?_⟩
            · rw [s2_nc c1, m2 c c2]; exact i1 c c1 c2
            · rw [s2_ap, if_neg (by omega), m2 152 (by decide)]; exact i2 x v (by omega) hv
            · rw [s2_c, m2 152 (by decide), fo, hwo]; exact arr_snoc i3
            · rw [s2_nc (by decide)]; exact m3
        refine v_istore X dX0_decide_32 (Nat.le_of_ble_eq_true rfl) ?_
        show V G Z _ 34 [_, _, _, _, _, _, _] _
        refine v_iload X dX0_decide_34 rfl ?_
        refine v_iconst (v := nI 2) X dX0_decide_36 (by decide) ?_
        refine v_iand X dX0_decide_37 ?_
        refine v_top (y := if wyI p w then 2 else 0) (by cases wyI p w <;> cases wyO p w <;> decide) ?_
        refine v_if_eq (tgt := 56) X dX0_decide_38 (by decide) (fun h38 => ?_) (fun h38 => ?_)
        · skip
          have ei : wyI p w = false := by
            cases h : wyI p w with
            | false => rfl
            | true => rw [h] at h38; exact absurd h38 (by decide)
          rw [ei] at fi
          refine mid τ wi ?_ (fun _ _ => rfl) ?_
          · rw [fi, hwi]; simp
          · rw [fi]; simpa using i4
        · skip
          have ei : wyI p w = true := by
            cases h : wyI p w with
            | true => rfl
            | false => rw [h] at h38; exact absurd rfl h38
          rw [ei] at fi
          refine v_aload_n X dX0_decide_41 rfl ?_
          refine v_getr X fl_X0_22 shX0_2 dX0_decide_42 ?_
          refine v_iload_n X dX0_decide_45 rfl ?_
          refine v_iload X dX0_decide_46 rfl ?_
          refine v_iconst (v := nI 1) X dX0_decide_48 (by decide) ?_
          refine v_iload_n X dX0_decide_49 rfl ?_
          refine v_ishl X dX0_decide_50 ?_
          refine v_top (nb_shl (by omega)) ?_
          refine v_ior X dX0_decide_51 ?_
          refine v_top (y := nI (2 ^ k + w)) (by rw [nb_or, or_add hwk]) ?_
          refine v_iastE X arX0_2 rfl (show wi < 2048 by omega) dX0_decide_52 ?_
          refine v_iincE X dX0_decide_53 rfl (nI_inc wi) ?_
          show V G Z _ 56 [_, _, _, _, _, _, _] _
          refine mid _ (wi + 1) ?_ (fun c hc => s2_nc hc) ?_
          · rw [fi, List.length_append, ← hwi]; rfl
          · rw [s2_c, fi, List.map_append]
            have := arr_snoc (w := 2 ^ k + w) i4
            rw [List.length_map, ← hwi] at this
            exact this
  refine v_iconst (v := nI 0) X dX0_decide_0 (by decide) ?_
  refine v_istore_n X dX0_decide_1 (Nat.le_of_ble_eq_true rfl) ?_
  show V G Z _ 2 [_, _, _, _, _, _, _] _
  refine v_iconst (v := nI 0) X dX0_decide_2 (by decide) ?_
  refine v_istore_n X dX0_decide_3 (Nat.le_of_ble_eq_true rfl) ?_
  show V G Z _ 4 [_, _, _, _, _, _, _] _
  refine v_iconst (v := nI 0) X dX0_decide_4 (by decide) ?_
  refine v_istore X dX0_decide_5 (Nat.le_of_ble_eq_true rfl) ?_
  show V G Z _ 7 [_, _, _, _, _, _, _] _
  refine loop ((clL P k).length + 1) 0 σ 0 0 _ _ (by omega) (by omega) rfl rfl ⟨fun _ _ _ => rfl, fun x w _ h => hL x w h, fun x w h => by simp at h, fun x w h => by simp at h⟩
end
section
/-! WHICH CLOSED SETS ARE WORLDS: from the greatest on, those of which each missing ( A > B ) is denied, by itself or by a world above -/
def impK (P : Sen) : Nat → Nat
  | 0 => 0
  | k + 1 => if (P.getD k (1, 0, 0)).1 = 4 then impK P k ||| 2 ^ k else impK P k
def imp (P : Sen) : Nat := impK P P.length
def denK (P : Sen) (m w : Nat) : Nat → Nat
  | 0 => 0
  | k + 1 => if m.testBit k && w.testBit (P.getD k (1, 0, 0)).2.1 then denK P m w k ||| 2 ^ k else denK P m w k
def den (P : Sen) (w : Nat) : Nat := denK P (dif (imp P) w) w P.length
abbrev Kw : Type := List (Nat × Nat × Nat)
def opS (w : Nat) (acc : Nat × Nat) (e : Nat × Nat × Nat) : Nat × Nat := if sbs w e.1 then (dif acc.1 e.2.1, max acc.2 (e.2.2 + 1)) else acc
def opF (P : Sen) (w : Nat) (K : Kw) : Nat × Nat := K.foldl (opS w) (dif (dif (imp P) w) (den P w), 0)
def csd (P : Sen) (w : Nat) (K : Kw) : Kw := if (opF P w K).1 = 0 then (w, den P w, (opF P w K).2) :: K else K
def sfL (P : Sen) : List Nat → Kw
  | [] => []
  | w :: l => csd P w (sfL P l)
def wlK (P : Sen) : Kw := sfL P (clL P P.length)
theorem impK_bit (P : Sen) : ∀ (n i : Nat), (impK P n).testBit i = (decide (i < n) && decide ((P.getD i (1, 0, 0)).1 = 4))
  | 0, i => by simp [impK]
  | n + 1, i => by
    rw [impK]
    by_cases h4 : (P.getD n (1, 0, 0)).1 = 4
    · rw [if_pos h4, Nat.testBit_or, impK_bit P n i, Nat.testBit_two_pow]
      by_cases hi : i = n
      · subst hi; rw [decide_eq_true h4]; simp
      · have h1 : decide (i < n + 1) = decide (i < n) := by rw [decide_eq_decide]; omega
        rw [h1]; simp [Ne.symm hi]
    · rw [if_neg h4, impK_bit P n i]
      by_cases hi : i = n
      · subst hi; rw [decide_eq_false h4]; simp
      · have h1 : decide (i < n + 1) = decide (i < n) := by rw [decide_eq_decide]; omega
        rw [h1]
theorem mis_4 {P : Sen} {w k : Nat} (h : (dif (imp P) w).testBit k = true) : (P.getD k (1, 0, 0)).1 = 4 := by
  rw [dif_bit, imp, impK_bit] at h
  simp at h
  simpa using h.1.2
theorem dif_le (a b : Nat) : dif a b ≤ a := by
  have h : sbs (dif a b) a = true := sbs_iff.mpr (fun i hi => by
    rw [dif_bit] at hi
    exact ((Bool.and_eq_true _ _).mp hi).1)
  exact sbs_le h
theorem imp_lt (P : Sen) : imp P < 2 ^ P.length := by
  apply Nat.lt_pow_two_of_testBit
  intro i hi
  rw [imp, impK_bit]
  simp; intro z; omega
theorem sbs_eq {v w : Nat} (hw : w < 2 ^ 31) : nI v &&& nI w = nI w ↔ sbs w v = true := by
  rw [nb_and, nI_eq (Nat.lt_of_le_of_lt Nat.and_le_right hw) hw, sbs, beq_iff_eq]
/-- the Frame's rows hold K from place f on to below e -/
def kI (τ : Sg) (K : Kw) (f e : Nat) : Prop := f + K.length = e ∧ τ 151 4 = nI f ∧ τ 151 5 = nI e ∧ ∀ y q, K[y]? = some q → τ 152 (f + y) = nI q.1 ∧ τ 153 (f + y) = nI q.2.1 ∧ τ 154 (f + y) = nI q.2.2 ∧ q.2.2 + y + 1 ≤ K.length
theorem opS_le (w : Nat) : ∀ (K : Kw) (acc : Nat × Nat) (B : Nat), acc.2 ≤ B → (∀ q ∈ K, q.2.2 + 1 ≤ B) → (K.foldl (opS w) acc).2 ≤ B
  | [], acc, B, h, _ => h
  | e :: K, acc, B, h, hK => by
    rw [List.foldl_cons]
    refine opS_le w K _ B ?_ (fun q hq => hK q (List.mem_cons_of_mem _ hq))
    unfold opS
    split
    · have := hK e List.mem_cons_self
      exact Nat.max_le.mpr ⟨h, this⟩
    · exact h
theorem mx_nI {a b : Nat} (ha : a < 2 ^ 31) (hb : b < 2 ^ 31) : (if nI a < nI b then nI b else nI a) = nI (max a b) := by
  by_cases h : a < b
  · rw [if_pos (nI_lt h hb), Nat.max_eq_right (by omega)]
  · rw [if_neg (nI_nlt (by omega) ha), Nat.max_eq_left (by omega)]
set_option maxHeartbeats 4000000 in
set_option maxRecDepth 100000 in
theorem c_implications (G : GT) {σ : Sg} {P : Sen} (hP : hs σ 19 P) : MC G yX0_implications cX0_implications 3 .int 0 [.ref (G.2.2.1 151)] σ (fun r τ => τ = σ ∧ r = nI (imp P)) := by
  refine MC_of (by decide) (ca1 rfl ca0) (Nat.le_of_ble_eq_true rfl) ?_
  intro Z X hR
  show V G Z σ 0 [some (.ref (G.2.2.1 151)), none, none] []
  obtain ⟨p1, p2, p3, p4, p5⟩ := hP
  have loop : ∀ (n k : Nat), P.length - k < n → k ≤ P.length → V G Z σ 4 [some (.ref (G.2.2.1 151)), some (.int (nI (impK P k))), some (.int (nI k))] [] := by
    intro n
    induction n with
    | zero => intro k h; omega
    | succ n ih =>
      intro k hn hkl
      refine v_iload_n X dX0_implications_4 rfl ?_
      refine v_aload_n X dX0_implications_5 rfl ?_
      refine v_getr X fl_X0_12 shX0_0 dX0_implications_6 ?_
      refine v_geti X fl_X0_43 (shX1_0 (by first | assumption | omega)) dX0_implications_9 ?_
      rw [p3]
      refine v_icmp_ge (tgt := 40) X dX0_implications_12 (by decide) (fun h12 => ?_) (fun h12 => ?_)
      · skip
        have hk := nI_lem (by omega) (by omega) h12
        have hk : k = P.length := by omega
        subst hk
        refine v_iload_n X dX0_implications_40 rfl ?_
        refine v_ret X hR dX0_implications_41 rfl ?_
        exact ⟨rfl, rfl⟩
      · skip
        have hk := nI_len (by omega) (by omega) h12
        obtain ⟨p, hp⟩ : ∃ p, P[k]? = some p := ⟨P[k], List.getElem?_eq_getElem hk⟩
        have e1 := (p4 k p hp).1
        have hk4 := (p2 k p hp).k4
        have ihk := ih (k + 1) (by omega) (by omega)
        rw [impK, getD_of hp] at ihk
        refine v_aload_n X dX0_implications_15 rfl ?_
        refine v_getr X fl_X0_12 shX0_0 dX0_implications_16 ?_
        refine v_getr X fl_X0_69 (shX1_2 (by first | assumption | omega)) dX0_implications_19 ?_
        refine v_iload_n X dX0_implications_22 rfl ?_
        refine v_ialdE X (arX1_2 (by first | assumption | omega)) rfl (show k < 11 by omega) dX0_implications_23 ?_
        refine v_iconst (v := nI 4) X dX0_implications_24 (by decide) ?_
        rw [e1]
        refine v_icmp_ne (tgt := 34) X dX0_implications_25 (by decide) (fun h25 => ?_) (fun h25 => ?_)
        · skip
          have h4 : ¬ p.1 = 4 := fun z => h25 (by rw [pK, z])
          rw [if_neg h4] at ihk
          refine v_iincE X dX0_implications_34 rfl (nI_inc k) ?_
          show V G Z _ 37 [_, _, _] _
          refine v_goto (tgt := 4) X dX0_implications_37 (by decide) ?_
          exact ihk
        · skip
          have h4 : p.1 = 4 := nI_eqm (by omega) (by decide) h25
          rw [if_pos h4] at ihk
          refine v_iload_n X dX0_implications_28 rfl ?_
          refine v_iconst (v := nI 1) X dX0_implications_29 (by decide) ?_
          refine v_iload_n X dX0_implications_30 rfl ?_
          refine v_ishl X dX0_implications_31 ?_
          refine v_top (nb_shl (by omega)) ?_
          refine v_ior X dX0_implications_32 ?_
          refine v_top (nb_or _ _) ?_
          refine v_istore_n X dX0_implications_33 (Nat.le_of_ble_eq_true rfl) ?_
          show V G Z _ 34 [_, _, _] _
          refine v_iincE X dX0_implications_34 rfl (nI_inc k) ?_
          show V G Z _ 37 [_, _, _] _
          refine v_goto (tgt := 4) X dX0_implications_37 (by decide) ?_
          exact ihk
  refine v_iconst (v := nI 0) X dX0_implications_0 (by decide) ?_
  refine v_istore_n X dX0_implications_1 (Nat.le_of_ble_eq_true rfl) ?_
  show V G Z _ 2 [_, _, _] _
  refine v_iconst (v := nI 0) X dX0_implications_2 (by decide) ?_
  refine v_istore_n X dX0_implications_3 (Nat.le_of_ble_eq_true rfl) ?_
  show V G Z _ 4 [_, _, _] _
  exact loop (P.length + 1) 0 (by omega) (by omega)
set_option maxHeartbeats 4000000 in
set_option maxRecDepth 100000 in
theorem c_deniedBy (G : GT) {σ : Sg} {P : Sen} (hP : hs σ 19 P) (w m : Nat) (hm : ∀ k, m.testBit k = true → (P.getD k (1, 0, 0)).1 = 4) : MC G yX0_deniedBy cX0_deniedBy 5 .int 0 [.ref (G.2.2.1 151), .int (nI w), .int (nI m)] σ (fun r τ => τ = σ ∧ r = nI (denK P m w P.length)) := by
  refine MC_of (by decide) (ca1 rfl (ca1 rfl (ca1 rfl ca0))) (Nat.le_of_ble_eq_true rfl) ?_
  intro Z X hR
  show V G Z σ 0 [some (.ref (G.2.2.1 151)), some (.int (nI w)), some (.int (nI m)), none, none] []
  obtain ⟨p1, p2, p3, p4, p5⟩ := hP
  have loop : ∀ (n k : Nat), P.length - k < n → k ≤ P.length → V G Z σ 5 [some (.ref (G.2.2.1 151)), some (.int (nI w)), some (.int (nI m)), some (.int (nI (denK P m w k))), some (.int (nI k))] [] := by
    intro n
    induction n with
    | zero => intro k h; omega
    | succ n ih =>
      intro k hn hkl
      refine v_iload X dX0_deniedBy_5 rfl ?_
      refine v_aload_n X dX0_deniedBy_7 rfl ?_
      refine v_getr X fl_X0_12 shX0_0 dX0_deniedBy_8 ?_
      refine v_geti X fl_X0_43 (shX1_0 (by first | assumption | omega)) dX0_deniedBy_11 ?_
      rw [p3]
      refine v_icmp_ge (tgt := 52) X dX0_deniedBy_14 (by decide) (fun h14 => ?_) (fun h14 => ?_)
      · skip
        have hk := nI_lem (by omega) (by omega) h14
        have hk : k = P.length := by omega
        subst hk
        refine v_iload_n X dX0_deniedBy_52 rfl ?_
        refine v_ret X hR dX0_deniedBy_53 rfl ?_
        exact ⟨rfl, rfl⟩
      · skip
        have hk := nI_len (by omega) (by omega) h14
        obtain ⟨p, hp⟩ : ∃ p, P[k]? = some p := ⟨P[k], List.getElem?_eq_getElem hk⟩
        have e2 := (p4 k p hp).2.1
        have ihk := ih (k + 1) (by omega) (by omega)
        rw [denK, getD_of hp] at ihk
        refine v_iload_n X dX0_deniedBy_17 rfl ?_
        refine v_iload X dX0_deniedBy_18 rfl ?_
        refine v_iushr X dX0_deniedBy_20 ?_
        refine v_iload_n X dX0_deniedBy_21 rfl ?_
        refine v_aload_n X dX0_deniedBy_22 rfl ?_
        refine v_getr X fl_X0_12 shX0_0 dX0_deniedBy_23 ?_
        refine v_getr X fl_X0_63 (shX1_3 (by first | assumption | omega)) dX0_deniedBy_26 ?_
        refine v_iload X dX0_deniedBy_29 rfl ?_
        refine v_ialdE X (arX1_3 (by first | assumption | omega)) rfl (show k < 11 by omega) dX0_deniedBy_31 ?_
        refine v_iushr X dX0_deniedBy_32 ?_
        refine v_iand X dX0_deniedBy_33 ?_
        refine v_iconst (v := nI 1) X dX0_deniedBy_34 (by decide) ?_
        refine v_iand X dX0_deniedBy_35 ?_
        refine v_top (y := bI (m.testBit k && w.testBit p.2.1)) (by
          rw [e2]
          cases hmk : m.testBit k with
          | false => rw [nb_zero _ (by omega) hmk]; rfl
          | true =>
            have h4 := hm k hmk
            rw [getD_of hp] at h4
            have hab : p.2.1 < k := by
              rcases p2 k p hp with ⟨q, -⟩ | ⟨q, -⟩ | ⟨-, -, q1, q2⟩
              · omega
              · omega
              · exact q1
            rw [show pA p = nI p.2.1 from if_neg (by omega), nb_two m w (by omega) (by omega), hmk]) ?_
        refine v_if_eq (tgt := 46) X dX0_deniedBy_36 (by decide) (fun h36 => ?_) (fun h36 => ?_)
        · skip
          rw [bI_z.mp h36] at ihk
          refine v_iincE X dX0_deniedBy_46 rfl (nI_inc k) ?_
          show V G Z _ 49 [_, _, _, _, _] _
          refine v_goto (tgt := 5) X dX0_deniedBy_49 (by decide) ?_
          exact ihk
        · skip
          rw [bI_nz.mp h36] at ihk
          refine v_iload_n X dX0_deniedBy_39 rfl ?_
          refine v_iconst (v := nI 1) X dX0_deniedBy_40 (by decide) ?_
          refine v_iload X dX0_deniedBy_41 rfl ?_
          refine v_ishl X dX0_deniedBy_43 ?_
          refine v_top (nb_shl (by omega)) ?_
          refine v_ior X dX0_deniedBy_44 ?_
          refine v_top (nb_or _ _) ?_
          refine v_istore_n X dX0_deniedBy_45 (Nat.le_of_ble_eq_true rfl) ?_
          show V G Z _ 46 [_, _, _, _, _] _
          refine v_iincE X dX0_deniedBy_46 rfl (nI_inc k) ?_
          show V G Z _ 49 [_, _, _, _, _] _
          refine v_goto (tgt := 5) X dX0_deniedBy_49 (by decide) ?_
          exact ihk
  refine v_iconst (v := nI 0) X dX0_deniedBy_0 (by decide) ?_
  refine v_istore_n X dX0_deniedBy_1 (Nat.le_of_ble_eq_true rfl) ?_
  show V G Z _ 2 [_, _, _, _, _] _
  refine v_iconst (v := nI 0) X dX0_deniedBy_2 (by decide) ?_
  refine v_istore X dX0_deniedBy_3 (Nat.le_of_ble_eq_true rfl) ?_
  show V G Z _ 5 [_, _, _, _, _] _
  exact loop (P.length + 1) 0 (by omega) (by omega)
theorem kI_cons {σ τ : Sg} {K : Kw} {f e : Nat} {q : Nat × Nat × Nat} (hf : 0 < f) (h : kI σ K f e) (h4 : τ 151 4 = nI (f - 1)) (h5 : τ 151 5 = σ 151 5) (hq : q.2.2 ≤ K.length)
    (e1 : τ 152 (f - 1) = nI q.1) (e2 : τ 153 (f - 1) = nI q.2.1) (e3 : τ 154 (f - 1) = nI q.2.2) (hr : ∀ x, f ≤ x → τ 152 x = σ 152 x ∧ τ 153 x = σ 153 x ∧ τ 154 x = σ 154 x) : kI τ (q :: K) (f - 1) e := by
  obtain ⟨a1, a2, a3, a4⟩ := h
  refine ⟨by simp; omega, h4, by rw [h5]; exact a3, fun y q' hy => ?_⟩
  cases y with
  | zero =>
    have : q = q' := by simpa using hy
    subst this
    exact ⟨e1, e2, e3, by simp; omega⟩
  | succ y =>
    rw [List.getElem?_cons_succ] at hy
    obtain ⟨b1, b2, b3, b4⟩ := a4 y q' hy
    rw [show f - 1 + (y + 1) = f + y by omega]
    obtain ⟨c1, c2, c3⟩ := hr (f + y) (by omega)
    exact ⟨c1.trans b1, c2.trans b2, c3.trans b3, by simp; omega⟩
set_option maxHeartbeats 4000000 in
set_option maxRecDepth 100000 in
theorem c_consider (G : GT) {σ : Sg} {P : Sen} (hP : hs σ 19 P) {K : Kw} {f e : Nat} (hK : kI σ K f e) (he : e ≤ 2048) (hf : 0 < f) {w : Nat} (hw : w < 2 ^ 31) : MV G yX0_consider cX0_consider 7 1 [.ref (G.2.2.1 151), .int (nI w), .int (nI (dif (imp P) w))] σ (fun τ => fO σ τ ∧ (∀ x, x + 1 < f → τ 152 x = σ 152 x) ∧ ∃ f', kI τ (csd P w K) f' e ∧ f ≤ f' + 1 ∧ f' ≤ f) := by
  refine MV_of (by decide) (ca1 rfl (ca1 rfl (ca1 rfl ca0))) (Nat.le_of_ble_eq_true rfl) ?_
  intro Z X hR
  show V G Z σ 0 [some (.ref (G.2.2.1 151)), some (.int (nI w)), some (.int (nI (dif (imp P) w))), none, none, none, none] []
  have hK0 := hK
  obtain ⟨a1, a2, a3, a4⟩ := hK
  have hin : ∀ q ∈ K, q.2.2 + 1 ≤ K.length := fun q hq => by
    obtain ⟨y, hy⟩ := List.getElem?_of_mem hq
    have := (a4 y q hy).2.2.2
    omega
  have loop : ∀ (n y : Nat) (acc : Nat × Nat), K.length - y < n → y ≤ K.length → acc = (K.take y).foldl (opS w) (dif (dif (imp P) w) (den P w), 0) → V G Z σ 23 [some (.ref (G.2.2.1 151)), some (.int (nI w)), some (.int (nI (dif (imp P) w))), some (.int (nI (den P w))), some (.int (nI acc.1)), some (.int (nI acc.2)), some (.int (nI (f + y)))] [] := by
    intro n
    induction n with
    | zero => intro y acc h; omega
    | succ n ih =>
      intro y acc hn hyl hacc
      have hb : acc.2 ≤ K.length := by
        rw [hacc]
        exact opS_le w _ _ _ (Nat.zero_le _) (fun q hq => hin q (List.mem_of_mem_take hq))
      refine v_iload X dX0_consider_23 rfl ?_
      refine v_aload_n X dX0_consider_25 rfl ?_
      refine v_geti X fl_X0_32 shX0_5 dX0_consider_26 ?_
      rw [a3]
      refine v_icmp_ge (tgt := 81) X dX0_consider_29 (by decide) (fun h29 => ?_) (fun h29 => ?_)
      · skip
        have hy := nI_lem (by omega) (by omega) h29
        have hy : y = K.length := by omega
        subst hy
        rw [List.take_length] at hacc
        have hacc : acc = opF P w K := hacc
        refine v_iload X dX0_consider_81 rfl ?_
        refine v_if_ne (tgt := 134) X dX0_consider_83 (by decide) (fun h83 => ?_) (fun h83 => ?_)
        · skip
          have h0 : ¬ (opF P w K).1 = 0 := fun z => h83 (by rw [hacc, z]; rfl)
          refine v_vret X hR dX0_consider_134 ?_
          refine ⟨fO.rfl, fun x _ => rfl, f, ?_, by omega, Nat.le_refl _⟩
          rw [csd, if_neg h0]; exact hK0
        · skip
          have h0 : (opF P w K).1 = 0 := by
            rw [hacc] at h83
            have hlt : (opF P w K).1 < 2 ^ 31 := by
              have hle : ∀ (K : Kw) (acc : Nat × Nat), (K.foldl (opS w) acc).1 ≤ acc.1 := by
                intro K
                induction K with
                | nil => intro acc; exact Nat.le_refl _
                | cons e K ihK =>
                  intro acc
                  rw [List.foldl_cons]
                  refine Nat.le_trans (ihK _) ?_
                  unfold opS
                  split
                  · exact dif_le _ _
                  · exact Nat.le_refl _
              refine Nat.lt_of_le_of_lt (hle _ _) (Nat.lt_of_le_of_lt (dif_le _ _) (Nat.lt_of_le_of_lt (dif_le _ _) ?_))
              exact Nat.lt_of_lt_of_le (imp_lt P) (Nat.pow_le_pow_right (by decide) (by have := hP.1; omega))
            exact nI_eqm (b := 0) hlt (by decide) h83
          refine v_aload_n X dX0_consider_86 rfl ?_
          refine v_geti X fl_X0_28 shX0_4 dX0_consider_87 ?_
          rw [a2]
          refine v_if_le (tgt := 134) X dX0_consider_90 (by decide) (fun h90 => ?_) (fun h90 => ?_)
          · skip
            exact absurd h90 (nI_nle hf (by omega))
          · skip
            refine v_aload_n X dX0_consider_93 rfl ?_
            refine v_dup X dX0_consider_94 rfl ?_
            refine v_geti X fl_X0_28 shX0_4 dX0_consider_95 ?_
            rw [a2]
            refine v_iconst (v := nI 1) X dX0_consider_98 (by decide) ?_
            refine v_isub X dX0_consider_99 ?_
            refine v_top (nI_s1 hf) ?_
            refine v_puti X fw_X0_28 shX0_4 dX0_consider_100 rfl rfl ?_
            refine v_aload_n X dX0_consider_103 rfl ?_
            refine v_getr X fl_X0_18 shX0_1 dX0_consider_104 ?_
            refine v_aload_n X dX0_consider_107 rfl ?_
            refine v_geti X fl_X0_28 shX0_4 dX0_consider_108 ?_
            rw [s2_at]
            refine v_iload_n X dX0_consider_111 rfl ?_
            refine v_iastE X arX0_1 rfl (show f - 1 < 2048 by omega) dX0_consider_112 ?_
            refine v_aload_n X dX0_consider_113 rfl ?_
            refine v_getr X fl_X0_22 shX0_2 dX0_consider_114 ?_
            refine v_aload_n X dX0_consider_117 rfl ?_
            refine v_geti X fl_X0_28 shX0_4 dX0_consider_118 ?_
            rw [s2_nc (by decide), s2_at]
            refine v_iload_n X dX0_consider_121 rfl ?_
            refine v_iastE X arX0_2 rfl (show f - 1 < 2048 by omega) dX0_consider_122 ?_
            refine v_aload_n X dX0_consider_123 rfl ?_
            refine v_getr X fl_X0_25 shX0_3 dX0_consider_124 ?_
            refine v_aload_n X dX0_consider_127 rfl ?_
            refine v_geti X fl_X0_28 shX0_4 dX0_consider_128 ?_
            rw [s2_nc (by decide), s2_nc (by decide), s2_at]
            refine v_iload X dX0_consider_131 rfl ?_
            refine v_iastE X arX0_3 rfl (show f - 1 < 2048 by omega) dX0_consider_133 ?_
            refine v_vret X hR dX0_consider_134 ?_
            refine ⟨(((fO.rfl.s2 (by decide) (by decide)).s2 (by decide) (by decide)).s2 (by decide) (by decide)).s2 (by decide) (by decide), fun x hx => ?_, f - 1, ?_, by omega, by omega⟩
            · rw [s2_nc (by decide), s2_nc (by decide), s2_ap, if_neg (by omega), s2_nc (by decide)]
            · rw [csd, if_pos h0]
              refine kI_cons hf hK0 ?_ ?_ ?_ ?_ ?_ ?_ ?_
              · rw [s2_nc (by decide), s2_nc (by decide), s2_nc (by decide), s2_at]
              · rw [s2_nc (by decide), s2_nc (by decide), s2_nc (by decide), s2_ap, if_neg (by decide)]
              · rw [← hacc]; exact hb
              · rw [s2_nc (by decide), s2_nc (by decide), s2_at]
              · rw [s2_nc (by decide), s2_at]
              · rw [s2_at, hacc]
              · intro x hx
                simp only [s2_ap]
                rw [if_neg (by omega), if_neg (by omega), if_neg (by omega), if_neg (by omega), if_neg (by omega), if_neg (by omega), if_neg (by omega), if_neg (by omega), if_neg (by omega), if_neg (by omega), if_neg (by omega), if_neg (by omega)]
                exact ⟨rfl, rfl, rfl⟩
      · skip
        have hy := nI_len (by omega) (by omega) h29
        obtain ⟨q, hq⟩ : ∃ q, K[y]? = some q := ⟨K[y]'(by omega), List.getElem?_eq_getElem (by omega)⟩
        obtain ⟨b1, b2, b3, b4⟩ := a4 y q hq
        have ihk := ih (y + 1) (opS w acc q) (by omega) (by omega) (by rw [List.take_succ, hq, List.foldl_append, ← hacc]; rfl)
        rw [show f + (y + 1) = f + y + 1 by omega] at ihk
        unfold opS at ihk
        refine v_aload_n X dX0_consider_32 rfl ?_
        refine v_getr X fl_X0_18 shX0_1 dX0_consider_33 ?_
        refine v_iload X dX0_consider_36 rfl ?_
        refine v_ialdE X arX0_1 rfl (show f + y < 2048 by omega) dX0_consider_38 ?_
        refine v_iload_n X dX0_consider_39 rfl ?_
        refine v_iand X dX0_consider_40 ?_
        refine v_iload_n X dX0_consider_41 rfl ?_
        rw [b1]
        refine v_icmp_ne (tgt := 75) X dX0_consider_42 (by decide) (fun h42 => ?_) (fun h42 => ?_)
        · skip
          have hs0 : ¬ sbs w q.1 = true := fun z => h42 ((sbs_eq hw).mpr z)
          rw [if_neg hs0] at ihk
          refine v_iincE X dX0_consider_75 rfl (nI_inc (f + y)) ?_
          show V G Z _ 78 [_, _, _, _, _, _, _] _
          refine v_goto (tgt := 23) X dX0_consider_78 (by decide) ?_
          exact ihk
        · skip
          have hs0 : sbs w q.1 = true := (sbs_eq hw).mp h42
          rw [if_pos hs0] at ihk
          refine v_iload X dX0_consider_45 rfl ?_
          refine v_aload_n X dX0_consider_47 rfl ?_
          refine v_getr X fl_X0_22 shX0_2 dX0_consider_48 ?_
          refine v_iload X dX0_consider_51 rfl ?_
          refine v_ialdE X arX0_2 rfl (show f + y < 2048 by omega) dX0_consider_53 ?_
          rw [b2]
          refine v_iconst (v := (-1)) X dX0_consider_54 (by decide) ?_
          refine v_ixor X dX0_consider_55 ?_
          refine v_iand X dX0_consider_56 ?_
          refine v_top (nb_not _ _) ?_
          refine v_istore X dX0_consider_57 (Nat.le_of_ble_eq_true rfl) ?_
          show V G Z _ 59 [_, _, _, _, _, _, _] _
          refine v_iload X dX0_consider_59 rfl ?_
          refine v_aload_n X dX0_consider_61 rfl ?_
          refine v_getr X fl_X0_25 shX0_3 dX0_consider_62 ?_
          refine v_iload X dX0_consider_65 rfl ?_
          refine v_ialdE X arX0_3 rfl (show f + y < 2048 by omega) dX0_consider_67 ?_
          rw [b3]
          refine v_iconst (v := nI 1) X dX0_consider_68 (by decide) ?_
          refine v_iadd X dX0_consider_69 ?_
          refine v_top (nI_add q.2.2 1) ?_
          refine v_mmax X (by decide) cs_X0_87 (Nat.le_of_ble_eq_true rfl) dX0_consider_70 ?_
          refine v_top (mx_nI (by omega) (by omega)) ?_
          refine v_istore X dX0_consider_73 (Nat.le_of_ble_eq_true rfl) ?_
          show V G Z _ 75 [_, _, _, _, _, _, _] _
          refine v_iincE X dX0_consider_75 rfl (nI_inc (f + y)) ?_
          show V G Z _ 78 [_, _, _, _, _, _, _] _
          refine v_goto (tgt := 23) X dX0_consider_78 (by decide) ?_
          exact ihk
  refine v_aload_n X dX0_consider_0 rfl ?_
  refine v_iload_n X dX0_consider_1 rfl ?_
  refine v_iload_n X dX0_consider_2 rfl ?_
  refine v_cali X (c_deniedBy G hP w (dif (imp P) w) (fun k h => mis_4 h)) cv_X0_84 obX0 rfl (by decide) rfl (by rfl) (Nat.le_of_ble_eq_true rfl) dX0_consider_3 (fun r τ9 hq => ?_)
  obtain ⟨e9, rfl⟩ := hq
  rw [e9]
  rw [show denK P (dif (imp P) w) w P.length = den P w from rfl]
  refine v_istore_n X dX0_consider_6 (Nat.le_of_ble_eq_true rfl) ?_
  show V G Z _ 7 [_, _, _, _, _, _, _] _
  refine v_iload_n X dX0_consider_7 rfl ?_
  refine v_iload_n X dX0_consider_8 rfl ?_
  refine v_iconst (v := (-1)) X dX0_consider_9 (by decide) ?_
  refine v_ixor X dX0_consider_10 ?_
  refine v_iand X dX0_consider_11 ?_
  refine v_top (nb_not _ _) ?_
  refine v_istore X dX0_consider_12 (Nat.le_of_ble_eq_true rfl) ?_
  show V G Z _ 14 [_, _, _, _, _, _, _] _
  refine v_iconst (v := nI 0) X dX0_consider_14 (by decide) ?_
  refine v_istore X dX0_consider_15 (Nat.le_of_ble_eq_true rfl) ?_
  show V G Z _ 17 [_, _, _, _, _, _, _] _
  refine v_aload_n X dX0_consider_17 rfl ?_
  refine v_geti X fl_X0_28 shX0_4 dX0_consider_18 ?_
  rw [a2]
  refine v_istore X dX0_consider_21 (Nat.le_of_ble_eq_true rfl) ?_
  show V G Z _ 23 [_, _, _, _, _, _, _] _
  exact loop (K.length + 1) 0 (dif (dif (imp P) w) (den P w), 0) (by omega) (by omega) rfl
end
section
set_option maxHeartbeats 4000000 in
set_option maxRecDepth 100000 in
theorem c_sift (G : GT) {σ : Sg} {P : Sen} (hP : hs σ 19 P) (he : σ 151 5 = nI (clL P P.length).length) (hL : arr (σ 152) (clL P P.length)) : MV G yX0_sift cX0_sift 3 2 [.ref (G.2.2.1 151)] σ (fun τ => fO σ τ ∧ ∃ f e, kI τ (wlK P) f e ∧ e ≤ 2048) := by
  refine MV_of (by decide) (ca1 rfl ca0) (Nat.le_of_ble_eq_true rfl) ?_
  intro Z X hR
  show V G Z σ 0 [some (.ref (G.2.2.1 151)), none, none] []
  have hP11 := hP.1
  have hlen : (clL P P.length).length ≤ 2048 := Nat.le_trans (clL_len P _) (Nat.le_trans (Nat.pow_le_pow_right (by decide) hP11) (by decide))
  have loop : ∀ (c : Nat) (τ : Sg) (f : Nat) (v : Int32), ((c = 0 ∧ v = -1) ∨ (0 < c ∧ v = nI (c - 1))) → c ≤ f → c ≤ (clL P P.length).length → fO σ τ → (∀ x w, x < c → (clL P P.length)[x]? = some w → τ 152 x = nI w) → kI τ (sfL P ((clL P P.length).drop c)) f (clL P P.length).length → V G Z τ 20 [some (.ref (G.2.2.1 151)), some (.int (nI (imp P))), some (.int v)] [] := by
    intro c
    induction c with
    | zero =>
      intro τ f v hv hcf hcl g1 g2 g3
      have hv : v = -1 := by
        rcases hv with ⟨-, z⟩ | ⟨z, -⟩
        · exact z
        · omega
      subst hv
      refine v_iload_n X dX0_sift_20 rfl ?_
      refine v_if_lt (tgt := 50) X dX0_sift_21 (by decide) (fun h21 => ?_) (fun h21 => ?_)
      · skip
        refine v_vret X hR dX0_sift_50 ?_
        exact ⟨g1, f, _, g3, hlen⟩
      · skip
        exact absurd (by decide) h21
    | succ c ih =>
      intro τ f v hv hcf hcl g1 g2 g3
      have hv : v = nI c := by
        rcases hv with ⟨z, -⟩ | ⟨-, z⟩
        · omega
        · exact z
      subst hv
      obtain ⟨w, hw⟩ : ∃ w, (clL P P.length)[c]? = some w := ⟨(clL P P.length)[c]'(by omega), List.getElem?_eq_getElem (by omega)⟩
      have ew := g2 c w (by omega) hw
      have hwl : w < 2 ^ P.length := clL_lt (List.mem_of_getElem? hw)
      have hw31 : w < 2 ^ 31 := Nat.lt_of_lt_of_le hwl (Nat.pow_le_pow_right (by decide) (by omega))
      have hd : (clL P P.length).drop c = w :: (clL P P.length).drop (c + 1) := by
        have := List.drop_eq_getElem_cons (l := clL P P.length) (i := c) (by omega)
        rw [(List.getElem?_eq_some_iff.mp hw).2] at this
        exact this
      refine v_iload_n X dX0_sift_20 rfl ?_
      refine v_if_lt (tgt := 50) X dX0_sift_21 (by decide) (fun h21 => ?_) (fun h21 => ?_)
      · skip
        exact absurd h21 (nI_pos (by omega))
      · skip
        refine v_aload_n X dX0_sift_24 rfl ?_
        refine v_aload_n X dX0_sift_25 rfl ?_
        refine v_getr X fl_X0_18 shX0_1 dX0_sift_26 ?_
        refine v_iload_n X dX0_sift_29 rfl ?_
        refine v_ialdE X arX0_1 rfl (show c < 2048 by omega) dX0_sift_30 ?_
        rw [ew]
        refine v_iload_n X dX0_sift_31 rfl ?_
        refine v_aload_n X dX0_sift_32 rfl ?_
        refine v_getr X fl_X0_18 shX0_1 dX0_sift_33 ?_
        refine v_iload_n X dX0_sift_36 rfl ?_
        refine v_ialdE X arX0_1 rfl (show c < 2048 by omega) dX0_sift_37 ?_
        rw [ew]
        refine v_iconst (v := (-1)) X dX0_sift_38 (by decide) ?_
        refine v_ixor X dX0_sift_39 ?_
        refine v_iand X dX0_sift_40 ?_
        refine v_top (nb_not _ _) ?_
        refine v_calv X (c_consider G (hs_fO hP g1 (by decide)) g3 hlen (by omega) hw31) cv_X0_80 obX0 rfl (by decide) rfl (by rfl) (Nat.le_of_ble_eq_true rfl) dX0_sift_41 (fun υ hp => ?_)
        obtain ⟨k1, k2, f', k3, k4, k5⟩ := hp
        refine v_iinc X dX0_sift_44 rfl ?_
        show V G Z _ 47 [_, _, _] _
        refine v_goto (tgt := 20) X dX0_sift_47 (by decide) ?_
        refine ih υ f' _ ?_ (by omega) (by omega) (g1.trans k1) (fun x w' hx hx' => ?_) ?_
        · rcases Nat.eq_zero_or_pos c with z | z
          · subst z; exact Or.inl ⟨rfl, by decide⟩
          · exact Or.inr ⟨z, nI_dec z⟩
        · rw [k2 x (by omega)]; exact g2 x w' (by omega) hx'
        · rw [hd]; exact k3
  refine v_aload_n X dX0_sift_0 rfl ?_
  refine v_cali X (c_implications G hP) cv_X0_76 obX0 rfl (by decide) rfl (by rfl) (Nat.le_of_ble_eq_true rfl) dX0_sift_1 (fun r τ9 hq => ?_)
  obtain ⟨e9, rfl⟩ := hq
  rw [e9]
  refine v_istore_n X dX0_sift_4 (Nat.le_of_ble_eq_true rfl) ?_
  show V G Z _ 5 [_, _, _] _
  refine v_aload_n X dX0_sift_5 rfl ?_
  refine v_aload_n X dX0_sift_6 rfl ?_
  refine v_geti X fl_X0_32 shX0_5 dX0_sift_7 ?_
  rw [he]
  refine v_puti X fw_X0_28 shX0_4 dX0_sift_10 rfl rfl ?_
  refine v_aload_n X dX0_sift_13 rfl ?_
  refine v_geti X fl_X0_32 shX0_5 dX0_sift_14 ?_
  rw [s2_ap, if_neg (by decide), he]
  refine v_iconst (v := nI 1) X dX0_sift_17 (by decide) ?_
  refine v_isub X dX0_sift_18 ?_
  refine v_istore_n X dX0_sift_19 (Nat.le_of_ble_eq_true rfl) ?_
  show V G Z _ 20 [_, _, _] _
  refine loop (clL P P.length).length _ (clL P P.length).length _ ?_ (Nat.le_refl _) (Nat.le_refl _) (fO.rfl.s2 (by decide) (by decide)) (fun x w _ h => ?_) ?_
  · rcases Nat.eq_zero_or_pos (clL P P.length).length with z | z
    · rw [z]; exact Or.inl ⟨rfl, by decide⟩
    · exact Or.inr ⟨z, nI_s1 z⟩
  · rw [s2_nc (by decide)]; exact hL x w h
  · rw [List.drop_length]
    exact ⟨rfl, s2_at _ _ _ _, by rw [s2_ap, if_neg (by decide)]; exact he, fun y q h => by simp [sfL] at h⟩
/-- the Frame: turned to P, and its rows hold the worlds of P -/
def frm (τ : Sg) (P : Sen) : Prop := hz τ 19 P ∧ (0 < P.length → ∃ f e, kI τ (wlK P) f e ∧ e ≤ 2048)
def fT (σ τ : Sg) : Prop := ∀ c, (c < 133 ∨ (140 ≤ c ∧ c < 151) ∨ 155 ≤ c) → τ c = σ c
theorem fT.rfl {σ : Sg} : fT σ σ := fun _ _ => by rfl
theorem fT.trans {σ τ υ : Sg} (h1 : fT σ τ) (h2 : fT τ υ) : fT σ υ := fun i h => (h2 i h).trans (h1 i h)
theorem clL_0 (P : Sen) : clL P 0 = [0] := by simp [clL, clP]
set_option maxHeartbeats 4000000 in
set_option maxRecDepth 100000 in
theorem c_turnTo (G : GT) {σ : Sg} {i : Nat} (hi : i < 19) {P Q : Sen} (hF : frm σ P) (hQ : hz σ i Q) (hQ0 : 0 < Q.length) : MV G yX0_turnTo cX0_turnTo 3 3 [.ref (G.2.2.1 151), .ref (G.2.2.1 (7 * i))] σ (fun τ => fT σ τ ∧ frm τ Q) := by
  refine MV_of (by decide) (ca1 rfl (ca1 rfl ca0)) (Nat.le_of_ble_eq_true rfl) ?_
  intro Z X hR
  show V G Z σ 0 [some (.ref (G.2.2.1 151)), some (.ref (G.2.2.1 (7 * i))), none] []
  have loop : ∀ (n k : Nat) (τ : Sg), Q.length - k < n → k ≤ Q.length → fT σ τ → hz τ 19 Q → τ 151 5 = nI (clL Q k).length → arr (τ 152) (clL Q k) → V G Z τ 34 [some (.ref (G.2.2.1 151)), some (.ref (G.2.2.1 (7 * i))), some (.int (nI k))] [] := by
    intro n
    induction n with
    | zero => intro k τ h; omega
    | succ n ih =>
      intro k τ hn hkl g1 g2 g3 g4
      have hQ11 := hQ.1.1
      refine v_iload_n X dX0_turnTo_34 rfl ?_
      refine v_aload_n X dX0_turnTo_35 rfl ?_
      refine v_getr X fl_X0_12 shX0_0 dX0_turnTo_36 ?_
      refine v_geti X fl_X0_43 (shX1_0 (by first | assumption | omega)) dX0_turnTo_39 ?_
      rw [g2.1.2.2.1]
      refine v_icmp_ge (tgt := 56) X dX0_turnTo_42 (by decide) (fun h42 => ?_) (fun h42 => ?_)
      · skip
        have hk := nI_lem (by omega) (by omega) h42
        have hk : k = Q.length := by omega
        subst hk
        refine v_aload_n X dX0_turnTo_56 rfl ?_
        refine v_calv X (c_sift G g2.1 g3 g4) cv_X0_50 obX0 rfl (by decide) rfl (by rfl) (Nat.le_of_ble_eq_true rfl) dX0_turnTo_57 (fun υ hq => ?_)
        obtain ⟨k1, f, e, k2, k3⟩ := hq
        refine v_vret X hR dX0_turnTo_60 ?_
        exact ⟨g1.trans (fun c hc => k1 c (by omega)), ⟨hs_fO g2.1 k1 (by decide), by rw [k1 _ (by omega)]; exact g2.2⟩, fun _ => ⟨f, e, k2, k3⟩⟩
      · skip
        have hk := nI_len (by omega) (by omega) h42
        obtain ⟨p, hp⟩ : ∃ p, Q[k]? = some p := ⟨Q[k], List.getElem?_eq_getElem hk⟩
        refine v_aload_n X dX0_turnTo_45 rfl ?_
        refine v_iload_n X dX0_turnTo_46 rfl ?_
        refine v_calv X (c_decide G g2.1 hp g3 g4) cv_X0_46 obX0 rfl (by decide) rfl (by rfl) (Nat.le_of_ble_eq_true rfl) dX0_turnTo_47 (fun υ hq => ?_)
        obtain ⟨k1, k2, k3⟩ := hq
        refine v_iincE X dX0_turnTo_50 rfl (nI_inc k) ?_
        show V G Z _ 53 [_, _, _] _
        refine v_goto (tgt := 34) X dX0_turnTo_53 (by decide) ?_
        exact ih (k + 1) υ (by omega) (by omega) (g1.trans (fun c hc => k1 c (by omega))) ⟨hs_fO g2.1 k1 (by decide), by rw [k1 _ (by omega)]; exact g2.2⟩ k2 k3
  refine v_aload_n X dX0_turnTo_0 rfl ?_
  refine v_getr X fl_X0_12 shX0_0 dX0_turnTo_1 ?_
  refine v_aload_n X dX0_turnTo_4 rfl ?_
  refine v_cali X (c_sameAs G (j := 19) (i := i) (by decide) (by omega) hF.1.1 hQ.1) cv_X0_35 (obX1 (by first | assumption | omega)) rfl (by decide) rfl (by rfl) (Nat.le_of_ble_eq_true rfl) dX0_turnTo_5 (fun r τ9 hq => ?_)
  obtain ⟨e9, rfl⟩ := hq
  rw [e9]
  refine v_if_eq (tgt := 12) X dX0_turnTo_8 (by decide) (fun h8 => ?_) (fun h8 => ?_)
  · skip
    have hne := of_decide_eq_false (bI_z.mp h8)
    refine v_aload_n X dX0_turnTo_12 rfl ?_
    refine v_getr X fl_X0_12 shX0_0 dX0_turnTo_13 ?_
    refine v_aload_n X dX0_turnTo_16 rfl ?_
    refine v_calv X (c_copyFrom G (j := 19) (i := i) (by decide) (by omega) (by omega) hQ.1 hQ.2) cv_X0_39 (obX1 (by first | assumption | omega)) rfl (by decide) rfl (by rfl) (Nat.le_of_ble_eq_true rfl) dX0_turnTo_17 (fun υ hq => ?_)
    obtain ⟨k1, k2, k3, k4⟩ := hq
    refine v_aload_n X dX0_turnTo_20 rfl ?_
    refine v_getr X fl_X0_18 shX0_1 dX0_turnTo_21 ?_
    refine v_iconst (v := nI 0) X dX0_turnTo_24 (by decide) ?_
    refine v_iconst (v := nI 0) X dX0_turnTo_25 (by decide) ?_
    refine v_iastE X arX0_1 rfl (show 0 < 2048 by decide) dX0_turnTo_26 ?_
    refine v_aload_n X dX0_turnTo_27 rfl ?_
    refine v_iconst (v := nI 1) X dX0_turnTo_28 (by decide) ?_
    refine v_puti X fw_X0_32 shX0_5 dX0_turnTo_29 rfl rfl ?_
    refine v_iconst (v := nI 0) X dX0_turnTo_32 (by decide) ?_
    refine v_istore_n X dX0_turnTo_33 (Nat.le_of_ble_eq_true rfl) ?_
    show V G Z _ 34 [_, _, _] _
    refine loop (Q.length + 1) 0 _ (by omega) (by omega) (fun c hc => ?_) ⟨hs_cong k2 ?_ (fun q _ _ => ?_), ?_⟩ ?_ ?_
    · rw [s2_nc (by omega), s2_nc (by omega)]; exact k1 c (by omega)
    · rw [s2_nc (by decide), s2_nc (by decide)]
    · rw [s2_nc (by omega), s2_nc (by omega)]
    · rw [s2_nc (by decide), s2_nc (by decide)]; exact k3
    · rw [s2_at, clL_0]; rfl
    · rw [s2_nc (by decide), clL_0]
      intro x w hx
      cases x with
      | zero => have : 0 = w := by simpa using hx
                rw [← this, s2_at]
      | succ x => simp at hx
  · skip
    have heq := of_decide_eq_true (bI_nz.mp h8)
    subst heq
    refine v_vret X hR dX0_turnTo_11 ?_
    exact ⟨fT.rfl, hF⟩
end
section
/-! WHAT IS ASKED OF THE WORLDS, by their places -/
def kw (K : Kw) (i : Nat) : Nat := (K.getD i (0, 0, 0)).1
def kh (K : Kw) (i : Nat) : Nat := (K.getD i (0, 0, 0)).2.2
theorem kI_at {σ : Sg} {K : Kw} {f e y : Nat} (h : kI σ K f e) (hy : y < K.length) : σ 152 (f + y) = nI (kw K y) ∧ σ 154 (f + y) = nI (kh K y) ∧ kh K y + y + 1 ≤ K.length := by
  obtain ⟨a1, a2, a3, a4⟩ := h
  obtain ⟨b1, b2, b3, b4⟩ := a4 y K[y] (List.getElem?_eq_getElem hy)
  have e1 : K.getD y (0, 0, 0) = K[y] := by rw [List.getD_eq_getElem?_getD, List.getElem?_eq_getElem hy]; rfl
  rw [kw, kh, e1]
  exact ⟨b1, b3, b4⟩
theorem sbs_eq2 {v w : Nat} (hw : v < 2 ^ 31) : nI v &&& nI w = nI v ↔ sbs v w = true := by
  rw [nb_and, nI_eq (Nat.lt_of_le_of_lt Nat.and_le_left hw) hw, sbs, beq_iff_eq, Nat.and_comm]
def mxB (h : Nat → Nat) : Nat → Nat
  | 0 => 0
  | n + 1 => max (mxB h n) (h n)
theorem mxB_le {h : Nat → Nat} {B : Nat} : ∀ {n}, (∀ i, i < n → h i ≤ B) → mxB h n ≤ B
  | 0, _ => Nat.zero_le _
  | n + 1, hB => Nat.max_le.mpr ⟨mxB_le (fun i hi => hB i (by omega)), hB n (by omega)⟩
def bel (K : Kw) (i : Nat) : Bool := (List.range i).any (fun j => sbs (kw K j) (kw K i))
def frc (K : Kw) (s k : Nat) : Bool := (List.range K.length).all (fun i => !sbs s (kw K i) || (kw K i).testBit k)
def nrf (K : Kw) (r : Nat) : Nat := ctB (fun i => !(kw K i).testBit r) K.length
def lrf (K : Kw) (r : Nat) : Int32 := if 0 < K.length ∧ (kw K 0).testBit r = false then nI (kw K 0) else -6
def nab (K : Kw) (i : Nat) : Nat := ctB (fun j => decide (i < j) && sbs (kw K i) (kw K j)) K.length
theorem ctB_0 {f : Nat → Bool} : ∀ {n}, (∀ i, i < n → f i = false) → ctB f n = 0
  | 0, _ => rfl
  | n + 1, h => by rw [ctB, ctB_0 (fun i hi => h i (by omega)), h n (by omega)]; rfl
set_option maxHeartbeats 4000000 in
set_option maxRecDepth 100000 in
theorem c_fsize (G : GT) {σ : Sg} {K : Kw} {f e : Nat} (hK : kI σ K f e) (he : e ≤ 2048) : MC G yX0_size cX0_size 1 .int 0 [.ref (G.2.2.1 151)] σ (fun r τ => τ = σ ∧ r = nI K.length) := by
  refine MC_of (by decide) (ca1 rfl ca0) (Nat.le_of_ble_eq_true rfl) ?_
  intro Z X hR
  show V G Z σ 0 [some (.ref (G.2.2.1 151))] []
  obtain ⟨a1, a2, a3, -⟩ := id hK
  refine v_aload_n X dX0_size_0 rfl ?_
  refine v_geti X fl_X0_32 shX0_5 dX0_size_1 ?_
  refine v_aload_n X dX0_size_4 rfl ?_
  refine v_geti X fl_X0_28 shX0_4 dX0_size_5 ?_
  rw [a2, a3]
  refine v_isub X dX0_size_8 ?_
  refine v_ret X hR dX0_size_9 rfl ?_
  exact ⟨rfl, by rw [pk_sub (by omega), show e - f = K.length by omega]⟩

set_option maxHeartbeats 4000000 in
set_option maxRecDepth 100000 in
theorem c_setAt (G : GT) {σ : Sg} {K : Kw} {f e : Nat} (hK : kI σ K f e) (he : e ≤ 2048) {i : Nat} (hi : i < K.length) : MC G yX0_setAt cX0_setAt 2 .int 0 [.ref (G.2.2.1 151), .int (nI i)] σ (fun r τ => τ = σ ∧ r = nI (kw K i)) := by
  refine MC_of (by decide) (ca1 rfl (ca1 rfl ca0)) (Nat.le_of_ble_eq_true rfl) ?_
  intro Z X hR
  show V G Z σ 0 [some (.ref (G.2.2.1 151)), some (.int (nI i))] []
  obtain ⟨a1, a2, a3, -⟩ := id hK
  refine v_aload_n X dX0_setAt_0 rfl ?_
  refine v_getr X fl_X0_18 shX0_1 dX0_setAt_1 ?_
  refine v_aload_n X dX0_setAt_4 rfl ?_
  refine v_geti X fl_X0_28 shX0_4 dX0_setAt_5 ?_
  refine v_iload_n X dX0_setAt_8 rfl ?_
  rw [a2]
  refine v_iadd X dX0_setAt_9 ?_
  refine v_ialdE X arX0_1 (nI_add f i) (show f + i < 2048 by omega) dX0_setAt_10 ?_
  refine v_ret X hR dX0_setAt_11 rfl ?_
  exact ⟨rfl, (kI_at hK hi).1⟩

set_option maxHeartbeats 4000000 in
set_option maxRecDepth 100000 in
theorem c_heightAt (G : GT) {σ : Sg} {K : Kw} {f e : Nat} (hK : kI σ K f e) (he : e ≤ 2048) {i : Nat} (hi : i < K.length) : MC G yX0_heightAt cX0_heightAt 2 .int 0 [.ref (G.2.2.1 151), .int (nI i)] σ (fun r τ => τ = σ ∧ r = nI (kh K i)) := by
  refine MC_of (by decide) (ca1 rfl (ca1 rfl ca0)) (Nat.le_of_ble_eq_true rfl) ?_
  intro Z X hR
  show V G Z σ 0 [some (.ref (G.2.2.1 151)), some (.int (nI i))] []
  obtain ⟨a1, a2, a3, -⟩ := id hK
  refine v_aload_n X dX0_heightAt_0 rfl ?_
  refine v_getr X fl_X0_25 shX0_3 dX0_heightAt_1 ?_
  refine v_aload_n X dX0_heightAt_4 rfl ?_
  refine v_geti X fl_X0_28 shX0_4 dX0_heightAt_5 ?_
  refine v_iload_n X dX0_heightAt_8 rfl ?_
  rw [a2]
  refine v_iadd X dX0_heightAt_9 ?_
  refine v_ialdE X arX0_3 (nI_add f i) (show f + i < 2048 by omega) dX0_heightAt_10 ?_
  refine v_ret X hR dX0_heightAt_11 rfl ?_
  exact ⟨rfl, (kI_at hK hi).2.1⟩

set_option maxHeartbeats 4000000 in
set_option maxRecDepth 100000 in
theorem c_forces (G : GT) {σ : Sg} {K : Kw} {f e : Nat} (hK : kI σ K f e) (he : e ≤ 2048) {s k : Nat} (hs : s < 2 ^ 31) (hk : k < 32) : MC G yX0_forces cX0_forces 4 .boolean 1 [.ref (G.2.2.1 151), .int (nI s), .int (nI k)] σ (fun r τ => τ = σ ∧ r = bI (frc K s k)) := by
  refine MC_of (by decide) (ca1 rfl (ca1 rfl (ca1 rfl ca0))) (Nat.le_of_ble_eq_true rfl) ?_
  intro Z X hR
  show V G Z σ 0 [some (.ref (G.2.2.1 151)), some (.int (nI s)), some (.int (nI k)), none] []
  obtain ⟨a1, a2, a3, -⟩ := id hK
  have loop : ∀ (n y : Nat), K.length - y < n → y ≤ K.length → (∀ x, x < y → (!sbs s (kw K x) || (kw K x).testBit k) = true) → V G Z σ 5 [some (.ref (G.2.2.1 151)), some (.int (nI s)), some (.int (nI k)), some (.int (nI (f + y)))] [] := by
    intro n
    induction n with
    | zero => intro y h; omega
    | succ n ih =>
      intro y hn hyl hin
      refine v_iload_n X dX0_forces_5 rfl ?_
      refine v_aload_n X dX0_forces_6 rfl ?_
      refine v_geti X fl_X0_32 shX0_5 dX0_forces_7 ?_
      rw [a3]
      refine v_icmp_ge (tgt := 46) X dX0_forces_10 (by decide) (fun h10 => ?_) (fun h10 => ?_)
      · skip
        have hy := nI_lem (by omega) (by omega) h10
        have hy : y = K.length := by omega
        subst hy
        refine v_iconst (v := nI 1) X dX0_forces_46 (by decide) ?_
        refine v_ret X hR dX0_forces_47 rfl ?_
        refine ⟨rfl, ?_⟩
        have : frc K s k = true := by
          rw [frc, List.all_eq_true]
          exact fun x hx => hin x (List.mem_range.mp hx)
        rw [this]; rfl
      · skip
        have hy := nI_len (by omega) (by omega) h10
        have hyK : y < K.length := by omega
        obtain ⟨b1, b2, b3⟩ := kI_at hK hyK
        refine v_aload_n X dX0_forces_13 rfl ?_
        refine v_getr X fl_X0_18 shX0_1 dX0_forces_14 ?_
        refine v_iload_n X dX0_forces_17 rfl ?_
        refine v_ialdE X arX0_1 rfl (show f + y < 2048 by omega) dX0_forces_18 ?_
        rw [b1]
        refine v_iload_n X dX0_forces_19 rfl ?_
        refine v_iand X dX0_forces_20 ?_
        refine v_iload_n X dX0_forces_21 rfl ?_
        refine v_icmp_ne (tgt := 40) X dX0_forces_22 (by decide) (fun h22 => ?_) (fun h22 => ?_)
        · skip
          have hc : (!sbs s (kw K y) || (kw K y).testBit k) = true := by
            have : sbs s (kw K y) = false := by
              cases h : sbs s (kw K y) with
              | false => rfl
              | true => exact absurd ((sbs_eq hs).mpr h) h22
            rw [this]; rfl
          refine v_iincE X dX0_forces_40 rfl (nI_inc (f + y)) ?_
          show V G Z _ 43 [_, _, _, _] _
          refine v_goto (tgt := 5) X dX0_forces_43 (by decide) ?_
          exact ih (y + 1) (by omega) (by omega) (fun x hx => by
            rcases Nat.lt_or_ge x y with h | h
            · exact hin x h
            · rw [show x = y by omega]; exact hc)
        · skip
          have hsb := (sbs_eq hs).mp h22
          refine v_aload_n X dX0_forces_25 rfl ?_
          refine v_getr X fl_X0_18 shX0_1 dX0_forces_26 ?_
          refine v_iload_n X dX0_forces_29 rfl ?_
          refine v_ialdE X arX0_1 rfl (show f + y < 2048 by omega) dX0_forces_30 ?_
          refine v_iload_n X dX0_forces_31 rfl ?_
          rw [b1]
          refine v_hasN X (by decide) hk (Nat.le_of_ble_eq_true rfl) dX0_forces_32 ?_
          refine v_if_ne (tgt := 40) X dX0_forces_35 (by decide) (fun h35 => ?_) (fun h35 => ?_)
          · skip
            have hc : (!sbs s (kw K y) || (kw K y).testBit k) = true := by rw [bI_nz.mp h35]; simp
            refine v_iincE X dX0_forces_40 rfl (nI_inc (f + y)) ?_
            show V G Z _ 43 [_, _, _, _] _
            refine v_goto (tgt := 5) X dX0_forces_43 (by decide) ?_
            exact ih (y + 1) (by omega) (by omega) (fun x hx => by
              rcases Nat.lt_or_ge x y with h | h
              · exact hin x h
              · rw [show x = y by omega]; exact hc)
          · skip
            have hf := bI_z.mp h35
            refine v_iconst (v := nI 0) X dX0_forces_38 (by decide) ?_
            refine v_ret X hR dX0_forces_39 rfl ?_
            refine ⟨rfl, ?_⟩
            have : frc K s k = false := by
              rw [frc, List.all_eq_false]
              exact ⟨y, List.mem_range.mpr hyK, by rw [hsb, hf]; decide⟩
            rw [this]; rfl
  refine v_aload_n X dX0_forces_0 rfl ?_
  refine v_geti X fl_X0_28 shX0_4 dX0_forces_1 ?_
  rw [a2]
  refine v_istore_n X dX0_forces_4 (Nat.le_of_ble_eq_true rfl) ?_
  show V G Z _ 5 [_, _, _, _] _
  exact loop (K.length + 1) 0 (by omega) (by omega) (fun x h => by omega)
set_option maxHeartbeats 4000000 in
set_option maxRecDepth 100000 in
theorem c_refuting (G : GT) {σ : Sg} {K : Kw} {f e : Nat} (hK : kI σ K f e) (he : e ≤ 2048) {P : Sen} (hP : hs σ 19 P) (h0 : 0 < P.length) : MC G yX0_refuting cX0_refuting 3 .int 1 [.ref (G.2.2.1 151)] σ (fun r τ => τ = σ ∧ r = nI (nrf K (P.length - 1))) := by
  refine MC_of (by decide) (ca1 rfl ca0) (Nat.le_of_ble_eq_true rfl) ?_
  intro Z X hR
  show V G Z σ 0 [some (.ref (G.2.2.1 151)), none, none] []
  obtain ⟨a1, a2, a3, -⟩ := id hK
  have hP11 := hP.1
  have p3 := hP.2.2.1
  have loop : ∀ (n y : Nat), K.length - y < n → y ≤ K.length → V G Z σ 7 [some (.ref (G.2.2.1 151)), some (.int (nI (ctB (fun i => !(kw K i).testBit (P.length - 1)) y))), some (.int (nI (f + y)))] [] := by
    intro n
    induction n with
    | zero => intro y h; omega
    | succ n ih =>
      intro y hn hyl 
      refine v_iload_n X dX0_refuting_7 rfl ?_
      refine v_aload_n X dX0_refuting_8 rfl ?_
      refine v_geti X fl_X0_32 shX0_5 dX0_refuting_9 ?_
      rw [a3]
      refine v_icmp_ge (tgt := 43) X dX0_refuting_12 (by decide) (fun h12 => ?_) (fun h12 => ?_)
      · skip
        have hy := nI_lem (by omega) (by omega) h12
        have hy : y = K.length := by omega
        subst hy
        refine v_iload_n X dX0_refuting_43 rfl ?_
        refine v_ret X hR dX0_refuting_44 rfl ?_
        exact ⟨rfl, rfl⟩
      · skip
        have hy := nI_len (by omega) (by omega) h12
        have hyK : y < K.length := by omega
        obtain ⟨b1, b2, b3⟩ := kI_at hK hyK
        have ihk := ih (y + 1) (by omega) (by omega)
        refine v_aload_n X dX0_refuting_15 rfl ?_
        refine v_getr X fl_X0_18 shX0_1 dX0_refuting_16 ?_
        refine v_iload_n X dX0_refuting_19 rfl ?_
        refine v_ialdE X arX0_1 rfl (show f + y < 2048 by omega) dX0_refuting_20 ?_
        refine v_aload_n X dX0_refuting_21 rfl ?_
        refine v_getr X fl_X0_12 shX0_0 dX0_refuting_22 ?_
        refine v_cali X (c_root G (j := 19) (by decide)) cv_X0_96 (obX1 (by first | assumption | omega)) rfl (by decide) rfl (by rfl) (Nat.le_of_ble_eq_true rfl) dX0_refuting_25 (fun r τ9 hq => ?_)
        obtain ⟨e9, rfl⟩ := hq
        rw [e9]
        rw [b1, p3, nI_s1 h0]
        refine v_hasN X (by decide) (by omega) (Nat.le_of_ble_eq_true rfl) dX0_refuting_28 ?_
        refine v_if_ne (tgt := 37) X dX0_refuting_31 (by decide) (fun h31 => ?_) (fun h31 => ?_)
        · skip
          have hc : (!(kw K y).testBit (P.length - 1)) = false := by rw [bI_nz.mp h31]; rfl
          refine v_iincE X dX0_refuting_37 rfl (nI_inc (f + y)) ?_
          show V G Z _ 40 [_, _, _] _
          refine v_goto (tgt := 7) X dX0_refuting_40 (by decide) ?_
          rw [ctB, hc] at ihk
          exact ihk
        · skip
          have hc : (!(kw K y).testBit (P.length - 1)) = true := by rw [bI_z.mp h31]; rfl
          refine v_iincE X dX0_refuting_34 rfl (nI_inc _) ?_
          show V G Z _ 37 [_, _, _] _
          refine v_iincE X dX0_refuting_37 rfl (nI_inc (f + y)) ?_
          show V G Z _ 40 [_, _, _] _
          refine v_goto (tgt := 7) X dX0_refuting_40 (by decide) ?_
          rw [ctB, hc] at ihk
          exact ihk
  refine v_iconst (v := nI 0) X dX0_refuting_0 (by decide) ?_
  refine v_istore_n X dX0_refuting_1 (Nat.le_of_ble_eq_true rfl) ?_
  show V G Z _ 2 [_, _, _] _
  refine v_aload_n X dX0_refuting_2 rfl ?_
  refine v_geti X fl_X0_28 shX0_4 dX0_refuting_3 ?_
  rw [a2]
  refine v_istore_n X dX0_refuting_6 (Nat.le_of_ble_eq_true rfl) ?_
  show V G Z _ 7 [_, _, _] _
  exact loop (K.length + 1) 0 (by omega) (by omega)
set_option maxHeartbeats 4000000 in
set_option maxRecDepth 100000 in
theorem c_highest (G : GT) {σ : Sg} {K : Kw} {f e : Nat} (hK : kI σ K f e) (he : e ≤ 2048) : MC G yX0_highest cX0_highest 3 .int 0 [.ref (G.2.2.1 151)] σ (fun r τ => τ = σ ∧ r = nI (ctB (fun i => decide (kh K i = 0)) K.length)) := by
  refine MC_of (by decide) (ca1 rfl ca0) (Nat.le_of_ble_eq_true rfl) ?_
  intro Z X hR
  show V G Z σ 0 [some (.ref (G.2.2.1 151)), none, none] []
  obtain ⟨a1, a2, a3, -⟩ := id hK
  have loop : ∀ (n y : Nat), K.length - y < n → y ≤ K.length → V G Z σ 7 [some (.ref (G.2.2.1 151)), some (.int (nI (ctB (fun i => decide (kh K i = 0)) y))), some (.int (nI (f + y)))] [] := by
    intro n
    induction n with
    | zero => intro y h; omega
    | succ n ih =>
      intro y hn hyl 
      refine v_iload_n X dX0_highest_7 rfl ?_
      refine v_aload_n X dX0_highest_8 rfl ?_
      refine v_geti X fl_X0_32 shX0_5 dX0_highest_9 ?_
      rw [a3]
      refine v_icmp_ge (tgt := 33) X dX0_highest_12 (by decide) (fun h12 => ?_) (fun h12 => ?_)
      · skip
        have hy := nI_lem (by omega) (by omega) h12
        have hy : y = K.length := by omega
        subst hy
        refine v_iload_n X dX0_highest_33 rfl ?_
        refine v_ret X hR dX0_highest_34 rfl ?_
        exact ⟨rfl, rfl⟩
      · skip
        have hy := nI_len (by omega) (by omega) h12
        have hyK : y < K.length := by omega
        obtain ⟨b1, b2, b3⟩ := kI_at hK hyK
        have ihk := ih (y + 1) (by omega) (by omega)
        refine v_aload_n X dX0_highest_15 rfl ?_
        refine v_getr X fl_X0_25 shX0_3 dX0_highest_16 ?_
        refine v_iload_n X dX0_highest_19 rfl ?_
        refine v_ialdE X arX0_3 rfl (show f + y < 2048 by omega) dX0_highest_20 ?_
        rw [b2]
        refine v_if_ne (tgt := 27) X dX0_highest_21 (by decide) (fun h21 => ?_) (fun h21 => ?_)
        · skip
          have hc : decide (kh K y = 0) = false := decide_eq_false (fun z => h21 (by rw [z]; rfl))
          refine v_iincE X dX0_highest_27 rfl (nI_inc (f + y)) ?_
          show V G Z _ 30 [_, _, _] _
          refine v_goto (tgt := 7) X dX0_highest_30 (by decide) ?_
          rw [ctB, hc] at ihk
          exact ihk
        · skip
          have hc : decide (kh K y = 0) = true := decide_eq_true (nI_eqm (b := 0) (by omega) (by decide) h21)
          refine v_iincE X dX0_highest_24 rfl (nI_inc _) ?_
          show V G Z _ 27 [_, _, _] _
          refine v_iincE X dX0_highest_27 rfl (nI_inc (f + y)) ?_
          show V G Z _ 30 [_, _, _] _
          refine v_goto (tgt := 7) X dX0_highest_30 (by decide) ?_
          rw [ctB, hc] at ihk
          exact ihk
  refine v_iconst (v := nI 0) X dX0_highest_0 (by decide) ?_
  refine v_istore_n X dX0_highest_1 (Nat.le_of_ble_eq_true rfl) ?_
  show V G Z _ 2 [_, _, _] _
  refine v_aload_n X dX0_highest_2 rfl ?_
  refine v_geti X fl_X0_28 shX0_4 dX0_highest_3 ?_
  rw [a2]
  refine v_istore_n X dX0_highest_6 (Nat.le_of_ble_eq_true rfl) ?_
  show V G Z _ 7 [_, _, _] _
  exact loop (K.length + 1) 0 (by omega) (by omega)
set_option maxHeartbeats 4000000 in
set_option maxRecDepth 100000 in
theorem c_greatestHeight (G : GT) {σ : Sg} {K : Kw} {f e : Nat} (hK : kI σ K f e) (he : e ≤ 2048) : MC G yX0_greatestHeight cX0_greatestHeight 3 .int 1 [.ref (G.2.2.1 151)] σ (fun r τ => τ = σ ∧ r = nI (mxB (kh K) K.length)) := by
  refine MC_of (by decide) (ca1 rfl ca0) (Nat.le_of_ble_eq_true rfl) ?_
  intro Z X hR
  show V G Z σ 0 [some (.ref (G.2.2.1 151)), none, none] []
  obtain ⟨a1, a2, a3, -⟩ := id hK
  have loop : ∀ (n y : Nat), K.length - y < n → y ≤ K.length → V G Z σ 7 [some (.ref (G.2.2.1 151)), some (.int (nI (mxB (kh K) y))), some (.int (nI (f + y)))] [] := by
    intro n
    induction n with
    | zero => intro y h; omega
    | succ n ih =>
      intro y hn hyl 
      refine v_iload_n X dX0_greatestHeight_7 rfl ?_
      refine v_aload_n X dX0_greatestHeight_8 rfl ?_
      refine v_geti X fl_X0_32 shX0_5 dX0_greatestHeight_9 ?_
      rw [a3]
      refine v_icmp_ge (tgt := 32) X dX0_greatestHeight_12 (by decide) (fun h12 => ?_) (fun h12 => ?_)
      · skip
        have hy := nI_lem (by omega) (by omega) h12
        have hy : y = K.length := by omega
        subst hy
        refine v_iload_n X dX0_greatestHeight_32 rfl ?_
        refine v_ret X hR dX0_greatestHeight_33 rfl ?_
        exact ⟨rfl, rfl⟩
      · skip
        have hy := nI_len (by omega) (by omega) h12
        have hyK : y < K.length := by omega
        obtain ⟨b1, b2, b3⟩ := kI_at hK hyK
        have ihk := ih (y + 1) (by omega) (by omega)
        have hm : mxB (kh K) y ≤ 2048 := mxB_le (fun i hi => by have := (kI_at hK (show i < K.length by omega)).2.2; omega)
        refine v_iload_n X dX0_greatestHeight_15 rfl ?_
        refine v_aload_n X dX0_greatestHeight_16 rfl ?_
        refine v_getr X fl_X0_25 shX0_3 dX0_greatestHeight_17 ?_
        refine v_iload_n X dX0_greatestHeight_20 rfl ?_
        refine v_ialdE X arX0_3 rfl (show f + y < 2048 by omega) dX0_greatestHeight_21 ?_
        rw [b2]
        refine v_mmax X (by decide) cs_X0_87 (Nat.le_of_ble_eq_true rfl) dX0_greatestHeight_22 ?_
        refine v_top (mx_nI (by omega) (by omega)) ?_
        refine v_istore_n X dX0_greatestHeight_25 (Nat.le_of_ble_eq_true rfl) ?_
        show V G Z _ 26 [_, _, _] _
        refine v_iincE X dX0_greatestHeight_26 rfl (nI_inc (f + y)) ?_
        show V G Z _ 29 [_, _, _] _
        refine v_goto (tgt := 7) X dX0_greatestHeight_29 (by decide) ?_
        exact ihk
  refine v_iconst (v := nI 0) X dX0_greatestHeight_0 (by decide) ?_
  refine v_istore_n X dX0_greatestHeight_1 (Nat.le_of_ble_eq_true rfl) ?_
  show V G Z _ 2 [_, _, _] _
  refine v_aload_n X dX0_greatestHeight_2 rfl ?_
  refine v_geti X fl_X0_28 shX0_4 dX0_greatestHeight_3 ?_
  rw [a2]
  refine v_istore_n X dX0_greatestHeight_6 (Nat.le_of_ble_eq_true rfl) ?_
  show V G Z _ 7 [_, _, _] _
  exact loop (K.length + 1) 0 (by omega) (by omega)
set_option maxHeartbeats 4000000 in
set_option maxRecDepth 100000 in
theorem c_isAboveAny (G : GT) {σ : Sg} {K : Kw} {f e : Nat} (hK : kI σ K f e) (he : e ≤ 2048) (hb : ∀ i, i < K.length → kw K i < 2 ^ 31) {i : Nat} (hi : i < K.length) : MC G yX0_isAboveAny cX0_isAboveAny 3 .boolean 0 [.ref (G.2.2.1 151), .int (nI (f + i))] σ (fun r τ => τ = σ ∧ r = bI (bel K i)) := by
  refine MC_of (by decide) (ca1 rfl (ca1 rfl ca0)) (Nat.le_of_ble_eq_true rfl) ?_
  intro Z X hR
  show V G Z σ 0 [some (.ref (G.2.2.1 151)), some (.int (nI (f + i))), none] []
  obtain ⟨a1, a2, a3, -⟩ := id hK
  have loop : ∀ (n y : Nat), K.length - y < n → y ≤ K.length → y ≤ i → (∀ x, x < y → sbs (kw K x) (kw K i) = false) → V G Z σ 5 [some (.ref (G.2.2.1 151)), some (.int (nI (f + i))), some (.int (nI (f + y)))] [] := by
    intro n
    induction n with
    | zero => intro y h; omega
    | succ n ih =>
      intro y hn hyl hyi hin
      refine v_iload_n X dX0_isAboveAny_5 rfl ?_
      refine v_iload_n X dX0_isAboveAny_6 rfl ?_
      refine v_icmp_ge (tgt := 40) X dX0_isAboveAny_7 (by decide) (fun h7 => ?_) (fun h7 => ?_)
      · skip
        have hy := nI_lem (by omega) (by omega) h7
        refine v_iconst (v := nI 0) X dX0_isAboveAny_40 (by decide) ?_
        refine v_ret X hR dX0_isAboveAny_41 rfl ?_
        refine ⟨rfl, ?_⟩
        have : bel K i = false := by
          rw [bel, List.any_eq_false]
          exact fun x hx => by rw [hin x (by have := List.mem_range.mp hx; omega)]; decide
        rw [this]; rfl
      · skip
        have hy := nI_len (by omega) (by omega) h7
        obtain ⟨b1, b2, b3⟩ := kI_at hK (show y < K.length by omega)
        obtain ⟨c1, c2, c3⟩ := kI_at hK hi
        refine v_aload_n X dX0_isAboveAny_10 rfl ?_
        refine v_getr X fl_X0_18 shX0_1 dX0_isAboveAny_11 ?_
        refine v_iload_n X dX0_isAboveAny_14 rfl ?_
        refine v_ialdE X arX0_1 rfl (show f + y < 2048 by omega) dX0_isAboveAny_15 ?_
        rw [b1]
        refine v_aload_n X dX0_isAboveAny_16 rfl ?_
        refine v_getr X fl_X0_18 shX0_1 dX0_isAboveAny_17 ?_
        refine v_iload_n X dX0_isAboveAny_20 rfl ?_
        refine v_ialdE X arX0_1 rfl (show f + i < 2048 by omega) dX0_isAboveAny_21 ?_
        rw [c1]
        refine v_iand X dX0_isAboveAny_22 ?_
        refine v_aload_n X dX0_isAboveAny_23 rfl ?_
        refine v_getr X fl_X0_18 shX0_1 dX0_isAboveAny_24 ?_
        refine v_iload_n X dX0_isAboveAny_27 rfl ?_
        refine v_ialdE X arX0_1 rfl (show f + y < 2048 by omega) dX0_isAboveAny_28 ?_
        rw [b1]
        refine v_icmp_ne (tgt := 34) X dX0_isAboveAny_29 (by decide) (fun h29 => ?_) (fun h29 => ?_)
        · skip
          have hc : sbs (kw K y) (kw K i) = false := by
            cases h : sbs (kw K y) (kw K i) with
            | false => rfl
            | true => exact absurd ((sbs_eq2 (hb y (by omega))).mpr h) h29
          refine v_iincE X dX0_isAboveAny_34 rfl (nI_inc (f + y)) ?_
          show V G Z _ 37 [_, _, _] _
          refine v_goto (tgt := 5) X dX0_isAboveAny_37 (by decide) ?_
          exact ih (y + 1) (by omega) (by omega) (by omega) (fun x hx => by
            rcases Nat.lt_or_ge x y with h | h
            · exact hin x h
            · rw [show x = y by omega]; exact hc)
        · skip
          have hc := (sbs_eq2 (hb y (by omega))).mp h29
          refine v_iconst (v := nI 1) X dX0_isAboveAny_32 (by decide) ?_
          refine v_ret X hR dX0_isAboveAny_33 rfl ?_
          refine ⟨rfl, ?_⟩
          have : bel K i = true := List.any_eq_true.mpr ⟨y, List.mem_range.mpr (by omega), hc⟩
          rw [this]; rfl
  refine v_aload_n X dX0_isAboveAny_0 rfl ?_
  refine v_geti X fl_X0_28 shX0_4 dX0_isAboveAny_1 ?_
  rw [a2]
  refine v_istore_n X dX0_isAboveAny_4 (Nat.le_of_ble_eq_true rfl) ?_
  show V G Z _ 5 [_, _, _] _
  exact loop (K.length + 1) 0 (by omega) (by omega) (by omega) (fun x h => by omega)
set_option maxHeartbeats 4000000 in
set_option maxRecDepth 100000 in
theorem c_lowest (G : GT) {σ : Sg} {K : Kw} {f e : Nat} (hK : kI σ K f e) (he : e ≤ 2048) (hb : ∀ i, i < K.length → kw K i < 2 ^ 31) : MC G yX0_lowest cX0_lowest 3 .int 1 [.ref (G.2.2.1 151)] σ (fun r τ => τ = σ ∧ r = nI (ctB (fun i => !bel K i) K.length)) := by
  refine MC_of (by decide) (ca1 rfl ca0) (Nat.le_of_ble_eq_true rfl) ?_
  intro Z X hR
  show V G Z σ 0 [some (.ref (G.2.2.1 151)), none, none] []
  obtain ⟨a1, a2, a3, -⟩ := id hK
  have loop : ∀ (n y : Nat), K.length - y < n → y ≤ K.length → V G Z σ 7 [some (.ref (G.2.2.1 151)), some (.int (nI (ctB (fun i => !bel K i) y))), some (.int (nI (f + y)))] [] := by
    intro n
    induction n with
    | zero => intro y h; omega
    | succ n ih =>
      intro y hn hyl 
      refine v_iload_n X dX0_lowest_7 rfl ?_
      refine v_aload_n X dX0_lowest_8 rfl ?_
      refine v_geti X fl_X0_32 shX0_5 dX0_lowest_9 ?_
      rw [a3]
      refine v_icmp_ge (tgt := 32) X dX0_lowest_12 (by decide) (fun h12 => ?_) (fun h12 => ?_)
      · skip
        have hy := nI_lem (by omega) (by omega) h12
        have hy : y = K.length := by omega
        subst hy
        refine v_iload_n X dX0_lowest_32 rfl ?_
        refine v_ret X hR dX0_lowest_33 rfl ?_
        exact ⟨rfl, rfl⟩
      · skip
        have hy := nI_len (by omega) (by omega) h12
        have hyK : y < K.length := by omega
        obtain ⟨b1, b2, b3⟩ := kI_at hK hyK
        have ihk := ih (y + 1) (by omega) (by omega)
        refine v_aload_n X dX0_lowest_15 rfl ?_
        refine v_iload_n X dX0_lowest_16 rfl ?_
        refine v_cali X (c_isAboveAny G hK he hb hyK) cv_X0_99 obX0 rfl (by decide) rfl (by rfl) (Nat.le_of_ble_eq_true rfl) dX0_lowest_17 (fun r τ9 hq => ?_)
        obtain ⟨e9, rfl⟩ := hq
        rw [e9]
        refine v_if_ne (tgt := 26) X dX0_lowest_20 (by decide) (fun h20 => ?_) (fun h20 => ?_)
        · skip
          have hc : (!bel K y) = false := by rw [bI_nz.mp h20]; rfl
          refine v_iincE X dX0_lowest_26 rfl (nI_inc (f + y)) ?_
          show V G Z _ 29 [_, _, _] _
          refine v_goto (tgt := 7) X dX0_lowest_29 (by decide) ?_
          rw [ctB, hc] at ihk
          exact ihk
        · skip
          have hc : (!bel K y) = true := by rw [bI_z.mp h20]; rfl
          refine v_iincE X dX0_lowest_23 rfl (nI_inc _) ?_
          show V G Z _ 26 [_, _, _] _
          refine v_iincE X dX0_lowest_26 rfl (nI_inc (f + y)) ?_
          show V G Z _ 29 [_, _, _] _
          refine v_goto (tgt := 7) X dX0_lowest_29 (by decide) ?_
          rw [ctB, hc] at ihk
          exact ihk
  refine v_iconst (v := nI 0) X dX0_lowest_0 (by decide) ?_
  refine v_istore_n X dX0_lowest_1 (Nat.le_of_ble_eq_true rfl) ?_
  show V G Z _ 2 [_, _, _] _
  refine v_aload_n X dX0_lowest_2 rfl ?_
  refine v_geti X fl_X0_28 shX0_4 dX0_lowest_3 ?_
  rw [a2]
  refine v_istore_n X dX0_lowest_6 (Nat.le_of_ble_eq_true rfl) ?_
  show V G Z _ 7 [_, _, _] _
  exact loop (K.length + 1) 0 (by omega) (by omega)
set_option maxHeartbeats 4000000 in
set_option maxRecDepth 100000 in
theorem c_leastRefuting (G : GT) {σ : Sg} {K : Kw} {f e : Nat} (hK : kI σ K f e) (he : e ≤ 2048) {P : Sen} (hP : hs σ 19 P) (h0 : 0 < P.length) : MC G yX0_leastRefuting cX0_leastRefuting 1 .int 1 [.ref (G.2.2.1 151)] σ (fun r τ => τ = σ ∧ r = lrf K (P.length - 1)) := by
  refine MC_of (by decide) (ca1 rfl ca0) (Nat.le_of_ble_eq_true rfl) ?_
  intro Z X hR
  show V G Z σ 0 [some (.ref (G.2.2.1 151))] []
  obtain ⟨a1, a2, a3, -⟩ := id hK
  have hP11 := hP.1
  have p3 := hP.2.2.1
  refine v_aload_n X dX0_leastRefuting_0 rfl ?_
  refine v_geti X fl_X0_28 shX0_4 dX0_leastRefuting_1 ?_
  refine v_aload_n X dX0_leastRefuting_4 rfl ?_
  refine v_geti X fl_X0_32 shX0_5 dX0_leastRefuting_5 ?_
  rw [a2, a3]
  refine v_icmp_ge (tgt := 45) X dX0_leastRefuting_8 (by decide) (fun h8 => ?_) (fun h8 => ?_)
  · skip
    have hl := nI_lem (by omega) (by omega) h8
    refine v_bipush (v := (-6)) X dX0_leastRefuting_45 (by decide) ?_
    refine v_ret X hR dX0_leastRefuting_47 rfl ?_
    exact ⟨rfl, by rw [lrf, if_neg (by omega)]⟩
  · skip
    have hl := nI_len (by omega) (by omega) h8
    obtain ⟨b1, b2, b3⟩ := kI_at hK (show 0 < K.length by omega)
    rw [Nat.add_zero] at b1
    refine v_aload_n X dX0_leastRefuting_11 rfl ?_
    refine v_getr X fl_X0_18 shX0_1 dX0_leastRefuting_12 ?_
    refine v_aload_n X dX0_leastRefuting_15 rfl ?_
    refine v_geti X fl_X0_28 shX0_4 dX0_leastRefuting_16 ?_
    refine v_ialdE X arX0_1 a2 (show f < 2048 by omega) dX0_leastRefuting_19 ?_
    refine v_aload_n X dX0_leastRefuting_20 rfl ?_
    refine v_getr X fl_X0_12 shX0_0 dX0_leastRefuting_21 ?_
    refine v_cali X (c_root G (j := 19) (by decide)) cv_X0_96 (obX1 (by first | assumption | omega)) rfl (by decide) rfl (by rfl) (Nat.le_of_ble_eq_true rfl) dX0_leastRefuting_24 (fun r τ9 hq => ?_)
    obtain ⟨e9, rfl⟩ := hq
    rw [e9]
    rw [b1, p3, nI_s1 h0]
    refine v_hasN X (by decide) (by omega) (Nat.le_of_ble_eq_true rfl) dX0_leastRefuting_27 ?_
    refine v_if_ne (tgt := 45) X dX0_leastRefuting_30 (by decide) (fun h30 => ?_) (fun h30 => ?_)
    · skip
      have hc := bI_nz.mp h30
      refine v_bipush (v := (-6)) X dX0_leastRefuting_45 (by decide) ?_
      refine v_ret X hR dX0_leastRefuting_47 rfl ?_
      exact ⟨rfl, by rw [lrf, if_neg (fun z => by rw [hc] at z; cases z.2)]⟩
    · skip
      have hc := bI_z.mp h30
      refine v_aload_n X dX0_leastRefuting_33 rfl ?_
      refine v_getr X fl_X0_18 shX0_1 dX0_leastRefuting_34 ?_
      refine v_aload_n X dX0_leastRefuting_37 rfl ?_
      refine v_geti X fl_X0_28 shX0_4 dX0_leastRefuting_38 ?_
      refine v_ialdE X arX0_1 a2 (show f < 2048 by omega) dX0_leastRefuting_41 ?_
      refine v_goto (tgt := 47) X dX0_leastRefuting_42 (by decide) ?_
      refine v_ret X hR dX0_leastRefuting_47 rfl ?_
      exact ⟨rfl, by rw [lrf, if_pos ⟨by omega, hc⟩, b1]⟩

set_option maxHeartbeats 4000000 in
set_option maxRecDepth 100000 in
theorem c_above (G : GT) {σ : Sg} {K : Kw} {f e : Nat} (hK : kI σ K f e) (he : e ≤ 2048) (hb : ∀ i, i < K.length → kw K i < 2 ^ 31) {i : Nat} (hi : i < K.length) : MC G yX0_above cX0_above 5 .int 1 [.ref (G.2.2.1 151), .int (nI i)] σ (fun r τ => τ = σ ∧ r = nI (nab K i)) := by
  refine MC_of (by decide) (ca1 rfl (ca1 rfl ca0)) (Nat.le_of_ble_eq_true rfl) ?_
  intro Z X hR
  show V G Z σ 0 [some (.ref (G.2.2.1 151)), some (.int (nI i)), none, none, none] []
  obtain ⟨a1, a2, a3, -⟩ := id hK
  have loop : ∀ (n y : Nat), K.length - y < n → y ≤ K.length → i < y → V G Z σ 18 [some (.ref (G.2.2.1 151)), some (.int (nI i)), some (.int (nI (kw K i))), some (.int (nI (ctB (fun j => decide (i < j) && sbs (kw K i) (kw K j)) y))), some (.int (nI (f + y)))] [] := by
    intro n
    induction n with
    | zero => intro y h; omega
    | succ n ih =>
      intro y hn hyl hiy
      refine v_iload X dX0_above_18 rfl ?_
      refine v_aload_n X dX0_above_20 rfl ?_
      refine v_geti X fl_X0_32 shX0_5 dX0_above_21 ?_
      rw [a3]
      refine v_icmp_ge (tgt := 49) X dX0_above_24 (by decide) (fun h24 => ?_) (fun h24 => ?_)
      · skip
        have hy := nI_lem (by omega) (by omega) h24
        have hy : y = K.length := by omega
        subst hy
        refine v_iload_n X dX0_above_49 rfl ?_
        refine v_ret X hR dX0_above_50 rfl ?_
        exact ⟨rfl, rfl⟩
      · skip
        have hy := nI_len (by omega) (by omega) h24
        have hyK : y < K.length := by omega
        obtain ⟨b1, b2, b3⟩ := kI_at hK hyK
        have ihk := ih (y + 1) (by omega) (by omega) (by omega)
        have hd : decide (i < y) = true := decide_eq_true hiy
        refine v_aload_n X dX0_above_27 rfl ?_
        refine v_getr X fl_X0_18 shX0_1 dX0_above_28 ?_
        refine v_iload X dX0_above_31 rfl ?_
        refine v_ialdE X arX0_1 rfl (show f + y < 2048 by omega) dX0_above_33 ?_
        rw [b1]
        refine v_iload_n X dX0_above_34 rfl ?_
        refine v_iand X dX0_above_35 ?_
        refine v_iload_n X dX0_above_36 rfl ?_
        refine v_icmp_ne (tgt := 43) X dX0_above_37 (by decide) (fun h37 => ?_) (fun h37 => ?_)
        · skip
          have hc : (decide (i < y) && sbs (kw K i) (kw K y)) = false := by
            cases h : sbs (kw K i) (kw K y) with
            | false => rw [hd]; rfl
            | true => exact absurd ((sbs_eq (hb i hi)).mpr h) h37
          refine v_iincE X dX0_above_43 rfl (nI_inc (f + y)) ?_
          show V G Z _ 46 [_, _, _, _, _] _
          refine v_goto (tgt := 18) X dX0_above_46 (by decide) ?_
          rw [ctB, hc] at ihk
          exact ihk
        · skip
          have hc : (decide (i < y) && sbs (kw K i) (kw K y)) = true := by rw [hd, (sbs_eq (hb i hi)).mp h37]; rfl
          refine v_iincE X dX0_above_40 rfl (nI_inc _) ?_
          show V G Z _ 43 [_, _, _, _, _] _
          refine v_iincE X dX0_above_43 rfl (nI_inc (f + y)) ?_
          show V G Z _ 46 [_, _, _, _, _] _
          refine v_goto (tgt := 18) X dX0_above_46 (by decide) ?_
          rw [ctB, hc] at ihk
          exact ihk
  refine v_aload_n X dX0_above_0 rfl ?_
  refine v_iload_n X dX0_above_1 rfl ?_
  refine v_cali X (c_setAt G hK he hi) cv_X0_92 obX0 rfl (by decide) rfl (by rfl) (Nat.le_of_ble_eq_true rfl) dX0_above_2 (fun r τ9 hq => ?_)
  obtain ⟨e9, rfl⟩ := hq
  rw [e9]
  refine v_istore_n X dX0_above_5 (Nat.le_of_ble_eq_true rfl) ?_
  show V G Z _ 6 [_, _, _, _, _] _
  refine v_iconst (v := nI 0) X dX0_above_6 (by decide) ?_
  refine v_istore_n X dX0_above_7 (Nat.le_of_ble_eq_true rfl) ?_
  show V G Z _ 8 [_, _, _, _, _] _
  refine v_aload_n X dX0_above_8 rfl ?_
  refine v_geti X fl_X0_28 shX0_4 dX0_above_9 ?_
  rw [a2]
  refine v_iload_n X dX0_above_12 rfl ?_
  refine v_iadd X dX0_above_13 ?_
  refine v_top (nI_add f i) ?_
  refine v_iconst (v := nI 1) X dX0_above_14 (by decide) ?_
  refine v_iadd X dX0_above_15 ?_
  refine v_top (nI_add (f + i) 1) ?_
  refine v_istore X dX0_above_16 (Nat.le_of_ble_eq_true rfl) ?_
  show V G Z _ 18 [_, _, _, _, _] _
  have := loop (K.length + 1) (i + 1) (by omega) (by omega) (by omega)
  rw [ctB_0 (fun j hj => by rw [decide_eq_false (by omega)]; rfl)] at this
  exact this
end
section
theorem v_refe {G : GT} {Z : ZT} {σ : Sg} {pc : Nat} {lo : List (Option Value)} {st : List Value} {i j : Nat} (e : i = j) (h : V G Z σ pc lo (.ref (G.2.2.1 j) :: st)) : V G Z σ pc lo (.ref (G.2.2.1 i) :: st) := e ▸ h
/-! THE STATE of the whole: what the six slots, and the slots of the two images, hold; the text; the place of the fault; which images are kept -/
abbrev ASt : Type := (Nat → Sen) × List Nat × Int32 × Nat
def stS (S : Nat → Sen) (j : Nat) (P : Sen) : Nat → Sen := fun i => if i = j then P else S i
def cR (σ : Sg) (A : ASt) : Prop := (∀ j, j < 18 → hz σ j (A.1 j)) ∧ tX σ A.2.1 ∧ σ 155 4 = A.2.2.1 ∧ σ 155 2 = nI A.2.2.2 ∧ A.2.2.2 < 4 ∧ ∃ P, frm σ P
def mO (σ τ : Sg) : Prop := ∀ i, 156 ≤ i → τ i = σ i
theorem mO.rfl {σ : Sg} : mO σ σ := fun _ _ => by rfl
theorem mO.trans {σ τ υ : Sg} (h1 : mO σ τ) (h2 : mO τ υ) : mO σ υ := fun i h => (h2 i h).trans (h1 i h)
/-- a slot's number -/
def sN (x : Int32) : Option Nat := if 0 ≤ x.toInt ∧ x.toInt < 6 then some x.toInt.toNat else none
theorem sN_nI {j : Nat} (h : j < 6) : sN (nI j) = some j := by
  rw [sN, nI_toInt (by omega), if_pos (by omega)]; rfl
theorem sN_of (x : Int32) : (sN x = none ∧ (x < 0 ∨ nI 6 ≤ x)) ∨ ∃ j, j < 6 ∧ x = nI j ∧ sN x = some j := by
  rcases pk_ix x (n := 6) (by decide) with h | h | ⟨j, hj, rfl⟩
  · refine Or.inl ⟨if_neg (fun z => ?_), Or.inl h⟩
    have := Int32.lt_iff_toInt_lt.mp h
    have e : (0 : Int32).toInt = 0 := by decide
    omega
  · refine Or.inl ⟨if_neg (fun z => ?_), Or.inr h⟩
    have := Int32.le_iff_toInt_le.mp h
    rw [nI_toInt (by decide)] at this
    omega
  · exact Or.inr ⟨j, hj, rfl, sN_nI hj⟩
theorem hz_fT {σ τ : Sg} {j : Nat} {P : Sen} (h : hz σ j P) (ho : fT σ τ) (hj : j < 19) : hz τ j P := by
  have key : ∀ q, q < 7 → τ (7 * j + q) = σ (7 * j + q) := fun q hq => ho _ (by omega)
  have k0 : τ (7 * j) = σ (7 * j) := ho _ (by omega)
  exact ⟨hs_cong h.1 (by rw [k0]) (fun q h1 h2 => key q (by omega)), by rw [k0]; exact h.2⟩
theorem tX_cong {σ τ : Sg} {tx : List Nat} (h : tX σ tx) (h0 : τ 147 0 = σ 147 0) (h1 : τ 148 = σ 148) : tX τ tx := ⟨h.1, by rw [h0]; exact h.2.1, fun i s hs => by rw [h1]; exact h.2.2 i s hs⟩
theorem frm_cong {σ τ : Sg} {P : Sen} (h : frm σ P) (h1 : ∀ i, 133 ≤ i → i < 140 → τ i = σ i) (h2 : ∀ i, 151 ≤ i → i < 155 → τ i = σ i) : frm τ P := by
  obtain ⟨a1, a2⟩ := h
  refine ⟨⟨hs_cong a1.1 (by rw [h1 _ (by decide) (by decide)]) (fun q _ _ => h1 _ (by omega) (by omega)), by rw [h1 _ (by decide) (by decide)]; exact a1.2⟩, fun h0 => ?_⟩
  obtain ⟨f, e, ⟨b1, b2, b3, b4⟩, b5⟩ := a2 h0
  refine ⟨f, e, ⟨b1, by rw [h2 _ (by decide) (by decide)]; exact b2, by rw [h2 _ (by decide) (by decide)]; exact b3, fun y q hy => ?_⟩, b5⟩
  rw [h2 152 (by decide) (by decide), h2 153 (by decide) (by decide), h2 154 (by decide) (by decide)]
  exact b4 y q hy
theorem cR_fT {σ τ : Sg} {A : ASt} {Q : Sen} (h : cR σ A) (ho : fT σ τ) (hf : frm τ Q) : cR τ A := by
  obtain ⟨a1, a2, a3, a4, a5, -⟩ := h
  exact ⟨fun j hj => hz_fT (a1 j hj) ho (by omega), tX_cong a2 (by rw [ho 147 (by omega)]) (ho 148 (by omega)), by rw [ho 155 (by omega)]; exact a3, by rw [ho 155 (by omega)]; exact a4, a5, Q, hf⟩
theorem cR_off {σ τ : Sg} {A : ASt} (h : cR σ A) (ho : offS 18 σ τ) : cR τ A := by
  obtain ⟨a1, a2, a3, a4, a5, P, a6⟩ := h
  exact ⟨fun j hj => hz_off (a1 j hj) ho (by omega), tX_cong a2 (by rw [ho 147 (by omega)]) (ho 148 (by omega)), by rw [ho 155 (by omega)]; exact a3, by rw [ho 155 (by omega)]; exact a4, a5, P, frm_cong a6 (fun i _ _ => ho i (by omega)) (fun i _ _ => ho i (by omega))⟩
theorem cR_tR {σ τ : Sg} {A : ASt} (h : cR σ A) (ho : tR σ τ) : cR τ A := by
  obtain ⟨a1, a2, a3, a4, a5, P, a6⟩ := h
  refine ⟨fun j hj => ?_, tX_cong a2 ho.2 (ho.1 148 (by omega) (by decide) (by decide) (by decide)), by rw [ho.1 155 (by omega) (by decide) (by decide) (by decide)]; exact a3, by rw [ho.1 155 (by omega) (by decide) (by decide) (by decide)]; exact a4, a5, P, frm_cong a6 (fun i _ _ => ho.1 i (by omega) (by omega) (by omega) (by omega)) (fun i _ _ => ho.1 i (by omega) (by omega) (by omega) (by omega))⟩
  have key : ∀ q, q < 7 → τ (7 * j + q) = σ (7 * j + q) := fun q hq => ho.1 _ (by omega) (by omega) (by omega) (by omega)
  have k0 : τ (7 * j) = σ (7 * j) := ho.1 _ (by omega) (by omega) (by omega) (by omega)
  exact ⟨hs_cong (a1 j hj).1 (by rw [k0]) (fun q h1 h2 => key q (by omega)), by rw [k0]; exact (a1 j hj).2⟩
theorem cR_slot {σ τ : Sg} {A : ASt} {t : Nat} {P : Sen} (ht : t < 18) (h : cR σ A) (ho : offS t σ τ) (hP : hz τ t P) : cR τ (stS A.1 t P, A.2) := by
  obtain ⟨a1, a2, a3, a4, a5, Q, a6⟩ := h
  refine ⟨fun j hj => ?_, tX_cong a2 (by rw [ho 147 (by omega)]) (ho 148 (by omega)), by rw [ho 155 (by omega)]; exact a3, by rw [ho 155 (by omega)]; exact a4, a5, Q, frm_cong a6 (fun i _ _ => ho i (by omega)) (fun i _ _ => ho i (by omega))⟩
  show hz τ j (if j = t then P else A.1 j)
  by_cases e : j = t
  · rw [if_pos e, e]; exact hP
  · rw [if_neg e]; exact hz_off (a1 j hj) ho e
/-- true by rows; plain -/
def rowT (P : Sen) : Bool := decide (0 < P.length ∧ (rwL P).getD (P.length - 1) 0 = 65535)
def pln (P : Sen) : Bool := rowT P && decide (nrf (wlK P) (P.length - 1) = 0)
theorem kw_lt {P : Sen} (hl : P.length ≤ 11) : ∀ i, i < (wlK P).length → kw (wlK P) i < 2 ^ 31 := by
  have key : ∀ (l : List Nat), ∀ q ∈ sfL P l, q.1 ∈ l := by
    intro l
    induction l with
    | nil => intro q h; simp [sfL] at h
    | cons w l ih =>
      intro q h
      rw [sfL, csd] at h
      split at h
      · rcases List.mem_cons.mp h with rfl | h
        · exact List.mem_cons_self
        · exact List.mem_cons_of_mem _ (ih q h)
      · exact List.mem_cons_of_mem _ (ih q h)
  intro i hi
  have e1 : (wlK P).getD i (0, 0, 0) = (wlK P)[i] := by rw [List.getD_eq_getElem?_getD, List.getElem?_eq_getElem hi]; rfl
  rw [kw, e1]
  have := clL_lt (key _ _ (List.getElem_mem hi))
  exact Nat.lt_of_lt_of_le this (Nat.pow_le_pow_right (by decide) (by omega))
set_option maxHeartbeats 4000000 in
set_option maxRecDepth 100000 in
theorem c_isSlot (G : GT) {σ : Sg} (x : Int32) : MC G yX4_isSlot cX4_isSlot 1 .boolean 0 [.int x] σ (fun r τ => τ = σ ∧ r = bI (sN x).isSome) := by
  refine MC_of (by decide) (ca1 rfl ca0) (Nat.le_of_ble_eq_true rfl) ?_
  intro Z X hR
  show V G Z σ 0 [some (.int x)] []
  refine v_iload_n X dX4_isSlot_0 rfl ?_
  refine v_if_lt (tgt := 14) X dX4_isSlot_1 (by decide) (fun h1 => ?_) (fun h1 => ?_)
  · skip
    refine v_iconst (v := nI 0) X dX4_isSlot_14 (by decide) ?_
    refine v_ret X hR dX4_isSlot_15 rfl ?_
    refine ⟨rfl, ?_⟩
    rcases sN_of x with ⟨z, -⟩ | ⟨j, hj, rfl, z⟩
    · rw [z]; rfl
    · exact absurd h1 (nI_pos (by omega))
  · skip
    refine v_iload_n X dX4_isSlot_4 rfl ?_
    refine v_bipush (v := nI 6) X dX4_isSlot_5 (by decide) ?_
    refine v_icmp_ge (tgt := 14) X dX4_isSlot_7 (by decide) (fun h7 => ?_) (fun h7 => ?_)
    · skip
      refine v_iconst (v := nI 0) X dX4_isSlot_14 (by decide) ?_
      refine v_ret X hR dX4_isSlot_15 rfl ?_
      refine ⟨rfl, ?_⟩
      rcases sN_of x with ⟨z, -⟩ | ⟨j, hj, rfl, z⟩
      · rw [z]; rfl
      · exact absurd (nI_lem (a := 6) (by decide) (by omega) h7) (by omega)
    · skip
      refine v_iconst (v := nI 1) X dX4_isSlot_10 (by decide) ?_
      refine v_goto (tgt := 15) X dX4_isSlot_11 (by decide) ?_
      refine v_ret X hR dX4_isSlot_15 rfl ?_
      refine ⟨rfl, ?_⟩
      rcases sN_of x with ⟨-, z | z⟩ | ⟨j, hj, rfl, z⟩
      · exact absurd z h1
      · exact absurd z h7
      · rw [z]; rfl

set_option maxHeartbeats 4000000 in
set_option maxRecDepth 100000 in
theorem c_isImage (G : GT) {σ : Sg} (x : Int32) : MC G yX4_isImage cX4_isImage 1 .boolean 0 [.int x] σ (fun r τ => τ = σ ∧ r = bI (decide (¬ x < 0 ∧ ¬ nI 2 ≤ x))) := by
  refine MC_of (by decide) (ca1 rfl ca0) (Nat.le_of_ble_eq_true rfl) ?_
  intro Z X hR
  show V G Z σ 0 [some (.int x)] []
  refine v_iload_n X dX4_isImage_0 rfl ?_
  refine v_if_lt (tgt := 13) X dX4_isImage_1 (by decide) (fun h1 => ?_) (fun h1 => ?_)
  · skip
    refine v_iconst (v := nI 0) X dX4_isImage_13 (by decide) ?_
    refine v_ret X hR dX4_isImage_14 rfl ?_
    exact ⟨rfl, bI_f (fun q => q.1 h1)⟩
  · skip
    refine v_iload_n X dX4_isImage_4 rfl ?_
    refine v_iconst (v := nI 2) X dX4_isImage_5 (by decide) ?_
    refine v_icmp_ge (tgt := 13) X dX4_isImage_6 (by decide) (fun h6 => ?_) (fun h6 => ?_)
    · skip
      refine v_iconst (v := nI 0) X dX4_isImage_13 (by decide) ?_
      refine v_ret X hR dX4_isImage_14 rfl ?_
      exact ⟨rfl, bI_f (fun q => q.2 h6)⟩
    · skip
      refine v_iconst (v := nI 1) X dX4_isImage_9 (by decide) ?_
      refine v_goto (tgt := 14) X dX4_isImage_10 (by decide) ?_
      refine v_ret X hR dX4_isImage_14 rfl ?_
      exact ⟨rfl, bI_t ⟨h1, h6⟩⟩

set_option maxHeartbeats 4000000 in
set_option maxRecDepth 100000 in
theorem c_isEmpty (G : GT) {σ : Sg} {s : Nat} (hs6 : s < 6) {P : Sen} (hP : hz σ s P) : MC G yX4_isEmpty cX4_isEmpty 2 .boolean 0 [.ref (G.2.2.1 155), .int (nI s)] σ (fun r τ => τ = σ ∧ r = bI (decide (P.length = 0))) := by
  refine MC_of (by decide) (ca1 rfl (ca1 rfl ca0)) (Nat.le_of_ble_eq_true rfl) ?_
  intro Z X hR
  show V G Z σ 0 [some (.ref (G.2.2.1 155)), some (.int (nI s))] []
  refine v_aload_n X dX4_isEmpty_0 rfl ?_
  refine v_getr X fl_X4_10 shX4_0 dX4_isEmpty_1 ?_
  refine v_getr X fl_X4_74 (shX2_0 (by first | assumption | omega)) dX4_isEmpty_4 ?_
  refine v_iload_n X dX4_isEmpty_7 rfl ?_
  refine v_aaldE X (arX2_0 (by first | assumption | omega)) (Or.inl rfl) rfl (by first | assumption | omega) dX4_isEmpty_8 ?_
  refine v_refe (show _ = 7 * s from by omega) ?_
  refine v_geti X fl_X4_117 (shX1_0 (by first | assumption | omega)) dX4_isEmpty_9 ?_
  rw [hP.1.2.2.1]
  refine v_if_ne (tgt := 19) X dX4_isEmpty_12 (by decide) (fun h12 => ?_) (fun h12 => ?_)
  · skip
    have h0 : ¬ P.length = 0 := fun z => h12 (by rw [z]; rfl)
    refine v_iconst (v := nI 0) X dX4_isEmpty_19 (by decide) ?_
    refine v_ret X hR dX4_isEmpty_20 rfl ?_
    exact ⟨rfl, bI_f h0⟩
  · skip
    have h0 : P.length = 0 := nI_eqm (b := 0) (by have := hP.1.1; omega) (by decide) h12
    refine v_iconst (v := nI 1) X dX4_isEmpty_15 (by decide) ?_
    refine v_goto (tgt := 20) X dX4_isEmpty_16 (by decide) ?_
    refine v_ret X hR dX4_isEmpty_20 rfl ?_
    exact ⟨rfl, bI_t h0⟩

set_option maxHeartbeats 4000000 in
set_option maxRecDepth 100000 in
theorem c_putDraft (G : GT) {σ : Sg} {t : Nat} (ht : t < 6) {A : ASt} (hA : cR σ A) {P : Sen} (hP : hz σ 18 P) : MC G yX4_putDraft cX4_putDraft 2 .int 1 [.ref (G.2.2.1 155), .int (nI t)] σ (fun r τ => r = nI P.length ∧ cR τ (stS A.1 t P, A.2) ∧ mO σ τ) := by
  refine MC_of (by decide) (ca1 rfl (ca1 rfl ca0)) (Nat.le_of_ble_eq_true rfl) ?_
  intro Z X hR
  show V G Z σ 0 [some (.ref (G.2.2.1 155)), some (.int (nI t))] []
  refine v_aload_n X dX4_putDraft_0 rfl ?_
  refine v_getr X fl_X4_10 shX4_0 dX4_putDraft_1 ?_
  refine v_getr X fl_X4_74 (shX2_0 (by first | assumption | omega)) dX4_putDraft_4 ?_
  refine v_iload_n X dX4_putDraft_7 rfl ?_
  refine v_aaldE X (arX2_0 (by first | assumption | omega)) (Or.inl rfl) rfl (by first | assumption | omega) dX4_putDraft_8 ?_
  refine v_refe (show _ = 7 * t from by omega) ?_
  refine v_aload_n X dX4_putDraft_9 rfl ?_
  refine v_getr X fl_X4_37 shX4_5 dX4_putDraft_10 ?_
  refine v_calv X (c_copyFrom G (j := t) (i := 18) (by omega) (by decide) (by omega) hP.1 hP.2) cv_X4_176 (obX1 (by first | assumption | omega)) rfl (by decide) rfl (by rfl) (Nat.le_of_ble_eq_true rfl) dX4_putDraft_13 (fun τ hp => ?_)
  obtain ⟨a1, a2, a3, a4⟩ := hp
  refine v_aload_n X dX4_putDraft_16 rfl ?_
  refine v_getr X fl_X4_37 shX4_5 dX4_putDraft_17 ?_
  refine v_geti X fl_X4_117 (shX1_0 (by first | assumption | omega)) dX4_putDraft_20 ?_
  rw [(hs_off hP.1 a1 (by omega)).2.2.1]
  refine v_ret X hR dX4_putDraft_23 rfl ?_
  exact ⟨rfl, cR_slot (by omega) hA a1 ⟨a2, a3⟩, fun i hi => a1 i (by omega)⟩

set_option maxHeartbeats 4000000 in
set_option maxRecDepth 100000 in
theorem c_isPlain (G : GT) {σ : Sg} {i : Nat} (hi : i < 19) {A : ASt} (hA : cR σ A) {P : Sen} (hP : hz σ i P) (h0 : 0 < P.length) : MC G yX4_isPlain cX4_isPlain 2 .boolean 4 [.ref (G.2.2.1 155), .ref (G.2.2.1 (7 * i))] σ (fun r τ => r = bI (pln P) ∧ cR τ A ∧ mO σ τ ∧ ∀ j, j < 19 → ∀ Q, hz σ j Q → hz τ j Q) := by
  refine MC_of (by decide) (ca1 rfl (ca1 rfl ca0)) (Nat.le_of_ble_eq_true rfl) ?_
  intro Z X hR
  show V G Z σ 0 [some (.ref (G.2.2.1 155)), some (.ref (G.2.2.1 (7 * i)))] []
  refine v_aload_n X dX4_isPlain_0 rfl ?_
  refine v_cali X (c_isTrueByRows G (j := i) (by omega) hP.1) cv_X4_113 (obX1 (by first | assumption | omega)) rfl (by decide) rfl (by rfl) (Nat.le_of_ble_eq_true rfl) dX4_isPlain_1 (fun r τ hp => ?_)
  obtain ⟨e9, rfl⟩ := hp
  rw [e9]
  refine v_if_ne (tgt := 9) X dX4_isPlain_4 (by decide) (fun h4 => ?_) (fun h4 => ?_)
  · skip
    have hr : rowT P = true := bI_nz.mp h4
    refine v_aload_n X dX4_isPlain_9 rfl ?_
    refine v_getr X fl_X4_44 shX4_6 dX4_isPlain_10 ?_
    refine v_aload_n X dX4_isPlain_13 rfl ?_
    obtain ⟨F, hF⟩ := hA.2.2.2.2.2
    refine v_calv X (c_turnTo G hi hF hP h0) cv_X4_120 obX0 rfl (by decide) rfl (by rfl) (Nat.le_of_ble_eq_true rfl) dX4_isPlain_14 (fun τ1 hp => ?_)
    obtain ⟨b1, b2⟩ := hp
    obtain ⟨f, e, c1, c2⟩ := b2.2 h0
    have hm : mO σ τ1 := fun i hi => b1 i (by omega)
    have hcr := cR_fT hA b1 b2
    refine v_aload_n X dX4_isPlain_17 rfl ?_
    refine v_getr X fl_X4_44 shX4_6 dX4_isPlain_18 ?_
    refine v_cali X (c_refuting G c1 c2 b2.1.1 h0) cv_X4_130 obX0 rfl (by decide) rfl (by rfl) (Nat.le_of_ble_eq_true rfl) dX4_isPlain_21 (fun r τ9 hq => ?_)
    obtain ⟨e9, rfl⟩ := hq
    rw [e9]
    have hle : nrf (wlK P) (P.length - 1) ≤ 2048 := Nat.le_trans (ctB_le _ _) (by have := c1.1; omega)
    refine v_if_ne (tgt := 31) X dX4_isPlain_24 (by decide) (fun h24 => ?_) (fun h24 => ?_)
    · skip
      have hn : ¬ nrf (wlK P) (P.length - 1) = 0 := fun z => h24 (by rw [z]; rfl)
      refine v_iconst (v := nI 0) X dX4_isPlain_31 (by decide) ?_
      refine v_ret X hR dX4_isPlain_32 rfl ?_
      exact ⟨by rw [pln, hr, decide_eq_false hn]; rfl, hcr, hm, fun j hj Q h => hz_fT h b1 hj⟩
    · skip
      have hn : nrf (wlK P) (P.length - 1) = 0 := nI_eqm (b := 0) (by omega) (by decide) h24
      refine v_iconst (v := nI 1) X dX4_isPlain_27 (by decide) ?_
      refine v_goto (tgt := 32) X dX4_isPlain_28 (by decide) ?_
      refine v_ret X hR dX4_isPlain_32 rfl ?_
      exact ⟨by rw [pln, hr, decide_eq_true hn]; rfl, hcr, hm, fun j hj Q h => hz_fT h b1 hj⟩
  · skip
    have hr : rowT P = false := bI_z.mp h4
    refine v_iconst (v := nI 0) X dX4_isPlain_7 (by decide) ?_
    refine v_ret X hR dX4_isPlain_8 rfl ?_
    exact ⟨by rw [pln, hr]; rfl, hA, mO.rfl, fun _ _ _ h => h⟩
end
section
/-! WHAT EACH CALL ANSWERS, AND THE STATE BEHIND IT -/
def sp_say (x : Int32) (A : ASt) : Int32 × ASt := if x < nI 33 ∨ nI 126 < x then (-2, A) else if 40 ≤ A.2.1.length then (-4, A) else (nI (A.2.1.length + 1), (A.1, A.2.1 ++ [x.toInt.toNat], A.2.2))
def sp_wipe (A : ASt) : Int32 × ASt := (nI A.2.1.length, (A.1, [], A.2.2))
def sp_read (to : Int32) (A : ASt) : Int32 × ASt := match sN to with
  | none => (-1, A)
  | some t => match prs A.2.1 with
    | .inl i => (-7, (A.1, A.2.1, nI i, A.2.2.2))
    | .inr P => if 11 < P.length then (-4, A) else (nI P.length, (stS A.1 t P, [], A.2.2))
def sp_fault (A : ASt) : Int32 × ASt := (A.2.2.1, A)
def sp_make (to a b way : Int32) (A : ASt) : Int32 × ASt := match sN to with
  | none => (-1, A)
  | some t => match sN a with
    | none => (-1, A)
    | some a => match sN b with
      | none => (-1, A)
      | some b => if way < 0 ∨ nI 2 < way then (-2, A) else if (A.1 a).length = 0 ∨ (A.1 b).length = 0 then (-3, A) else if 11 < (prP (A.1 a) (A.1 b) (2 + way.toInt.toNat)).length then (-4, A) else (nI (prP (A.1 a) (A.1 b) (2 + way.toInt.toNat)).length, (stS A.1 t (prP (A.1 a) (A.1 b) (2 + way.toInt.toNat)), A.2))
def sp_part (to fr k : Int32) (A : ASt) : Int32 × ASt := match sN to with
  | none => (-1, A)
  | some t => match sN fr with
    | none => (-1, A)
    | some f => if (A.1 f).length = 0 then (-3, A) else if k < 0 ∨ nI (A.1 f).length ≤ k then (-2, A) else (nI (subP (A.1 f) k.toInt.toNat).length, (stS A.1 t (subP (A.1 f) k.toInt.toNat), A.2))
def sp_sign (slot k : Int32) (A : ASt) : Int32 × ASt := match sN slot with
  | none => (-1, A)
  | some s => if k < -1 then (-2, A) else if (A.1 s).length = 0 then (-3, A) else if k = -1 then (nI (sgN (A.1 s)), A) else if nI (sgN (A.1 s)) ≤ k then (-6, A) else (sgA (A.1 s) 11 ((A.1 s).length - 1) k.toInt.toNat, A)
def sp_told (slot k what : Int32) (A : ASt) : Int32 × ASt := match sN slot with
  | none => (-1, A)
  | some s => if (A.1 s).length = 0 then (-3, A) else if k < 0 ∨ nI (A.1 s).length ≤ k ∨ what < 0 ∨ nI 2 < what then (-2, A) else (if what = 0 then pK ((A.1 s).getD k.toInt.toNat (1, 0, 0)) else if what = 1 then pA ((A.1 s).getD k.toInt.toNat (1, 0, 0)) else pB ((A.1 s).getD k.toInt.toNat (1, 0, 0)), A)
def sp_drop (slot : Int32) (A : ASt) : Int32 × ASt := match sN slot with
  | none => (-1, A)
  | some s => (if (A.1 s).length = 0 then nI 0 else nI 1, (stS A.1 s [], A.2))
def sp_plain (slot : Int32) (A : ASt) : Int32 × ASt := match sN slot with
  | none => (-1, A)
  | some s => if (A.1 s).length = 0 then (-3, A) else (bI (pln (A.1 s)), A)
def sp_rows (slot : Int32) (A : ASt) : Int32 × ASt := match sN slot with
  | none => (-1, A)
  | some s => if (A.1 s).length = 0 then (-3, A) else (bI (rowT (A.1 s)), A)
def sp_follows (a b : Int32) (A : ASt) : Int32 × ASt := match sN a with
  | none => (-1, A)
  | some a => match sN b with
    | none => (-1, A)
    | some b => if (A.1 a).length = 0 ∨ (A.1 b).length = 0 then (-3, A) else if 11 < (prP (A.1 a) (A.1 b) 4).length then (-4, A) else (bI (pln (prP (A.1 a) (A.1 b) 4)), A)
def sp_from (slot set k : Int32) (A : ASt) : Int32 × ASt := match sN slot with
  | none => (-1, A)
  | some s => if (A.1 s).length = 0 then (-3, A) else if k < 0 ∨ nI (A.1 s).length ≤ k ∨ set < 0 ∨ nI (2 ^ (A.1 s).length) ≤ set then (-2, A) else (bI (frc (wlK (A.1 s)) set.toInt.toNat k.toInt.toNat), A)
def qry (P : Sen) (what : Int32) : Int32 := if what = 0 then nI (wlK P).length else if what = 1 then nI (nrf (wlK P) (P.length - 1)) else if what = 2 then lrf (wlK P) (P.length - 1) else if what = 3 then nI (ctB (fun i => decide (kh (wlK P) i = 0)) (wlK P).length) else if what = 4 then nI (mxB (kh (wlK P)) (wlK P).length) else nI (ctB (fun i => !bel (wlK P) i) (wlK P).length)
def sp_worlds (slot what : Int32) (A : ASt) : Int32 × ASt := match sN slot with
  | none => (-1, A)
  | some s => if what < 0 ∨ nI 5 < what then (-2, A) else if (A.1 s).length = 0 then (-3, A) else (qry (A.1 s) what, A)
def sp_world (slot i what : Int32) (A : ASt) : Int32 × ASt := match sN slot with
  | none => (-1, A)
  | some s => if what < 0 ∨ nI 2 < what then (-2, A) else if (A.1 s).length = 0 then (-3, A) else if i < 0 ∨ nI (wlK (A.1 s)).length ≤ i then (-6, A) else (if what = 0 then nI (kw (wlK (A.1 s)) i.toInt.toNat) else if what = 1 then nI (nab (wlK (A.1 s)) i.toInt.toNat) else nI (kh (wlK (A.1 s)) i.toInt.toNat), A)
def sp_image (k : Int32) (A : ASt) : Int32 × ASt := if k < 0 ∨ nI 2 ≤ k then (-2, A) else (nI 1, (fun j => if 6 + 6 * k.toInt.toNat ≤ j ∧ j < 12 + 6 * k.toInt.toNat then A.1 (j - (6 + 6 * k.toInt.toNat)) else A.1 j, A.2.1, A.2.2.1, A.2.2.2 ||| 2 ^ k.toInt.toNat))
def sp_restore (k : Int32) (A : ASt) : Int32 × ASt := if k < 0 ∨ nI 2 ≤ k then (-2, A) else if A.2.2.2.testBit k.toInt.toNat = false then (-3, A) else (nI 1, (fun j => if j < 6 then A.1 (6 + 6 * k.toInt.toNat + j) else A.1 j, A.2))
def cnt (S : Nat → Sen) (what : Int32) : Nat := if what = 0 then ctB (fun s => decide (0 < (S s).length)) 6 else if what = 1 then ctB (fun s => decide (0 < (S s).length) && pln (S s)) 6 else if what = 2 then ctB (fun s => decide (0 < (S s).length) && (rowT (S s) && !pln (S s))) 6 else ctB (fun s => decide (0 < (S s).length) && !sbf S s) 6
def sp_count (what : Int32) (A : ASt) : Int32 × ASt := if what = 4 then (nI A.2.1.length, A) else if what = 5 then (nI A.2.2.2, A) else if ¬ (what < nI 10 ∨ nI 15 < what) then (nI (A.1 (what.toInt.toNat - 10)).length, A) else if what < 0 ∨ nI 3 < what then (-2, A) else (nI (cnt A.1 what), A)
theorem slot_t {x : Int32} (h : (sN x).isSome = true) : ∃ j, j < 6 ∧ x = nI j ∧ sN x = some j := by
  rcases sN_of x with ⟨z, -⟩ | z
  · rw [z] at h; cases h
  · exact z
theorem slot_f {x : Int32} (h : (sN x).isSome = false) : sN x = none := by
  rcases sN_of x with ⟨z, -⟩ | ⟨j, -, -, z⟩
  · exact z
  · rw [z] at h; cases h
theorem ix_of {x : Int32} {n : Nat} (hn : n < 2 ^ 31) (h1 : ¬ x < 0) (h2 : ¬ nI n ≤ x) : ∃ j, j < n ∧ x = nI j ∧ x.toInt.toNat = j := by
  rcases pk_ix x hn with z | z | ⟨j, hj, rfl⟩
  · exact absurd z h1
  · exact absurd z h2
  · exact ⟨j, hj, rfl, by rw [nI_toInt (by omega)]; rfl⟩
theorem nl_le {x y : Int32} (h : ¬ x ≤ y) : y < x := Int32.not_le.mp h
theorem le_nl {x y : Int32} (h : x ≤ y) : ¬ y < x := Int32.not_lt.mpr h
theorem lt_nl {x y : Int32} (h : x < y) : ¬ y ≤ x := Int32.not_le.mpr h
theorem nlt_le {x y : Int32} (h : ¬ x < y) : y ≤ x := Int32.not_lt.mp h
theorem stS_same (S : Nat → Sen) (j : Nat) (P : Sen) : stS S j P j = P := if_pos rfl
end
section
set_option maxHeartbeats 4000000 in
set_option maxRecDepth 100000 in
theorem x_say (G : GT) {σ : Sg} {A : ASt} (hA : cR σ A) (x : Int32) : MC G yX4_say cX4_say 2 .int 1 [.ref (G.2.2.1 155), .int x] σ (fun r τ => r = (sp_say x A).1 ∧ cR τ (sp_say x A).2 ∧ mO σ τ) := by
  refine MC_of (by decide) (ca1 rfl (ca1 rfl ca0)) (Nat.le_of_ble_eq_true rfl) ?_
  intro Z X hR
  show V G Z σ 0 [some (.ref (G.2.2.1 155)), some (.int x)] []
  refine v_iload_n X dX4_say_0 rfl ?_
  refine v_bipush (v := nI 33) X dX4_say_1 (by decide) ?_
  refine v_icmp_lt (tgt := 12) X dX4_say_3 (by decide) (fun h3 => ?_) (fun h3 => ?_)
  · skip
    refine v_bipush (v := (-2)) X dX4_say_12 (by decide) ?_
    refine v_ret X hR dX4_say_14 rfl ?_
    have e : sp_say x A = (-2, A) := by rw [sp_say, if_pos (Or.inl h3)]
    rw [e]
    exact ⟨rfl, hA, mO.rfl⟩
  · skip
    refine v_iload_n X dX4_say_6 rfl ?_
    refine v_bipush (v := nI 126) X dX4_say_7 (by decide) ?_
    refine v_icmp_le (tgt := 15) X dX4_say_9 (by decide) (fun h9 => ?_) (fun h9 => ?_)
    · skip
      refine v_aload_n X dX4_say_15 rfl ?_
      refine v_getr X fl_X4_27 shX4_3 dX4_say_16 ?_
      refine v_geti X fl_X4_48 shX3_0 dX4_say_19 ?_
      rw [hA.2.1.2.1]
      have hr : ¬ (x < nI 33 ∨ nI 126 < x) := fun z => z.elim h3 (le_nl h9)
      have hl := hA.2.1.1
      refine v_bipush (v := nI 40) X dX4_say_22 (by decide) ?_
      refine v_icmp_lt (tgt := 30) X dX4_say_24 (by decide) (fun h24 => ?_) (fun h24 => ?_)
      · skip
        have hl2 := nI_ltm (b := 40) (by omega) (by decide) h24
        refine v_aload_n X dX4_say_30 rfl ?_
        refine v_getr X fl_X4_27 shX4_3 dX4_say_31 ?_
        refine v_iload_n X dX4_say_34 rfl ?_
        refine v_calv X (c_textAdd G hl2 hA.2.1.2.1 x) cv_X4_51 obX3 rfl (by decide) rfl (by rfl) (Nat.le_of_ble_eq_true rfl) dX4_say_35 (fun τ hp => ?_)
        subst hp
        refine v_aload_n X dX4_say_38 rfl ?_
        refine v_getr X fl_X4_27 shX4_3 dX4_say_39 ?_
        refine v_geti X fl_X4_48 shX3_0 dX4_say_42 ?_
        rw [s2_at]
        refine v_ret X hR dX4_say_45 rfl ?_
        obtain ⟨j, hj, hxj⟩ : ∃ j, j < 127 ∧ x = nI j := by
          obtain ⟨j, hj, e, -⟩ := ix_of (x := x) (n := 127) (by decide) (fun z => h3 (Int32.lt_of_lt_of_le z (by decide))) (fun z => by
            have h9 : x ≤ nI 126 := h9
            exact absurd (Int32.le_trans z h9) (by decide))
          exact ⟨j, hj, e⟩
        have hxn : x.toInt.toNat = j := by rw [hxj, nI_toInt (by omega)]; rfl
        have e : sp_say x A = (nI (A.2.1.length + 1), (A.1, A.2.1 ++ [j], A.2.2)) := by rw [sp_say, if_neg hr, if_neg (by omega), hxn]
        rw [e]
        obtain ⟨a1, a2, a3, a4, a5, P, a6⟩ := hA
        refine ⟨rfl, ⟨fun k hk => ?_, ⟨?_, ?_, ?_⟩, ?_, ?_, a5, P, ?_⟩, fun i hi => ?_⟩
        · have hS : ∀ i, i < 147 → (s2 (s2 σ 148 A.2.1.length x) 147 0 (nI (A.2.1.length + 1))) i = σ i := fun i hi => by rw [s2_nc (by omega), s2_nc (by omega)]
          exact ⟨hs_cong (a1 k hk).1 (by rw [hS _ (by omega)]) (fun q _ _ => hS _ (by omega)), by rw [hS _ (by omega)]; exact (a1 k hk).2⟩
        · show (A.2.1 ++ [j]).length ≤ 40
          simp; omega
        · show _ = nI (A.2.1 ++ [j]).length
          rw [s2_at]; simp
        · intro i s hs
          rw [s2_nc (by decide)]
          have hs : (A.2.1 ++ [j])[i]? = some s := hs
          rw [List.getElem?_append] at hs
          split at hs
          · rename_i hlt
            have := a2.2.2 i s hs
            rw [s2_ap, if_neg (by omega)]
            exact this
          · have h0 : i - A.2.1.length = 0 := by
              rcases Nat.eq_zero_or_pos (i - A.2.1.length) with z | z
              · exact z
              · rw [List.getElem?_eq_none (by simp; omega)] at hs; cases hs
            rw [h0] at hs
            have hs : j = s := by simpa using hs
            subst hs
            rw [s2_ap, if_pos ⟨rfl, by omega⟩]
            exact ⟨hj, hxj⟩
        · rw [s2_nc (by decide), s2_nc (by decide)]; exact a3
        · rw [s2_nc (by decide), s2_nc (by decide)]; exact a4
        · exact frm_cong a6 (fun i _ _ => by rw [s2_nc (by omega), s2_nc (by omega)]) (fun i _ _ => by rw [s2_nc (by omega), s2_nc (by omega)])
        · rw [s2_nc (by omega), s2_nc (by omega)]
      · skip
        have hl2 := nI_ltn (b := 40) (by omega) (by decide) h24
        refine v_bipush (v := (-4)) X dX4_say_27 (by decide) ?_
        refine v_ret X hR dX4_say_29 rfl ?_
        have e : sp_say x A = (-4, A) := by rw [sp_say, if_neg hr, if_pos hl2]
        rw [e]
        exact ⟨rfl, hA, mO.rfl⟩
    · skip
      refine v_bipush (v := (-2)) X dX4_say_12 (by decide) ?_
      refine v_ret X hR dX4_say_14 rfl ?_
      have e : sp_say x A = (-2, A) := by rw [sp_say, if_pos (Or.inr (nl_le h9))]
      rw [e]
      exact ⟨rfl, hA, mO.rfl⟩

theorem psL_lt : ∀ (tx : List Nat) (i : Nat) (st : PS) (k : Nat), psL tx i st = .inl k → k < i + tx.length
  | [], i, st, k, h => by simp [psL] at h
  | s :: r, i, st, k, h => by
    rw [psL] at h
    cases hs : stA s st with
    | none =>
      rw [hs] at h
      cases h
      simp
    | some st' =>
      rw [hs] at h
      have := psL_lt r (i + 1) st' k h
      simp; omega
theorem prs_lt {tx : List Nat} {k : Nat} (hl : tx.length ≤ 40) (h : prs tx = .inl k) : k < 2 ^ 31 := by
  rw [prs] at h
  cases hp : psL tx 0 ([], [], true, 0) with
  | inl i =>
    rw [hp] at h
    cases h
    have := psL_lt _ _ _ _ hp
    omega
  | inr st =>
    rw [hp] at h
    simp only at h
    split at h
    · cases h; omega
    · cases h
/-- the text is emptied -/
theorem cR_wipe {σ : Sg} {A : ASt} (h : cR σ A) : cR (s2 σ 147 0 (nI 0)) (A.1, [], A.2.2) := by
  obtain ⟨a1, a2, a3, a4, a5, P, a6⟩ := h
  refine ⟨fun k hk => ?_, ⟨Nat.zero_le _, s2_at _ _ _ _, fun i s hs => by simp at hs⟩, by rw [s2_nc (by decide)]; exact a3, by rw [s2_nc (by decide)]; exact a4, a5, P, frm_cong a6 (fun i _ _ => s2_nc (by omega)) (fun i _ _ => s2_nc (by omega))⟩
  exact ⟨hs_cong (a1 k hk).1 (by rw [s2_nc (by omega)]) (fun q _ _ => s2_nc (by omega)), by rw [s2_nc (by omega)]; exact (a1 k hk).2⟩
theorem cR_fault {σ : Sg} {A : ASt} {v : Int32} (h : cR σ A) : cR (s2 σ 155 4 v) (A.1, A.2.1, v, A.2.2.2) := by
  obtain ⟨a1, a2, a3, a4, a5, P, a6⟩ := h
  refine ⟨fun k hk => ?_, tX_cong a2 (by rw [s2_nc (by decide)]) (s2_nc (by decide)), s2_at _ _ _ _, by rw [s2_ap, if_neg (by decide)]; exact a4, a5, P, frm_cong a6 (fun i _ _ => s2_nc (by omega)) (fun i _ _ => s2_nc (by omega))⟩
  exact ⟨hs_cong (a1 k hk).1 (by rw [s2_nc (by omega)]) (fun q _ _ => s2_nc (by omega)), by rw [s2_nc (by omega)]; exact (a1 k hk).2⟩
set_option maxHeartbeats 4000000 in
set_option maxRecDepth 100000 in
theorem x_wipe (G : GT) {σ : Sg} {A : ASt} (hA : cR σ A)  : MC G yX4_wipe cX4_wipe 2 .int 0 [.ref (G.2.2.1 155)] σ (fun r τ => r = (sp_wipe A).1 ∧ cR τ (sp_wipe A).2 ∧ mO σ τ) := by
  refine MC_of (by decide) (ca1 rfl ca0) (Nat.le_of_ble_eq_true rfl) ?_
  intro Z X hR
  show V G Z σ 0 [some (.ref (G.2.2.1 155)), none] []
  refine v_aload_n X dX4_wipe_0 rfl ?_
  refine v_getr X fl_X4_27 shX4_3 dX4_wipe_1 ?_
  refine v_geti X fl_X4_48 shX3_0 dX4_wipe_4 ?_
  rw [hA.2.1.2.1]
  refine v_istore_n X dX4_wipe_7 (Nat.le_of_ble_eq_true rfl) ?_
  show V G Z _ 8 [_, _] _
  refine v_aload_n X dX4_wipe_8 rfl ?_
  refine v_getr X fl_X4_27 shX4_3 dX4_wipe_9 ?_
  refine v_iconst (v := nI 0) X dX4_wipe_12 (by decide) ?_
  refine v_puti X fw_X4_48 shX3_0 dX4_wipe_13 rfl rfl ?_
  refine v_iload_n X dX4_wipe_16 rfl ?_
  refine v_ret X hR dX4_wipe_17 rfl ?_
  exact ⟨rfl, cR_wipe hA, fun i hi => s2_nc (by omega)⟩

set_option maxHeartbeats 4000000 in
set_option maxRecDepth 100000 in
theorem x_fault (G : GT) {σ : Sg} {A : ASt} (hA : cR σ A)  : MC G yX4_fault cX4_fault 1 .int 0 [.ref (G.2.2.1 155)] σ (fun r τ => r = (sp_fault A).1 ∧ cR τ (sp_fault A).2 ∧ mO σ τ) := by
  refine MC_of (by decide) (ca1 rfl ca0) (Nat.le_of_ble_eq_true rfl) ?_
  intro Z X hR
  show V G Z σ 0 [some (.ref (G.2.2.1 155))] []
  refine v_aload_n X dX4_fault_0 rfl ?_
  refine v_geti X fl_X4_31 shX4_4 dX4_fault_1 ?_
  rw [hA.2.2.1]
  refine v_ret X hR dX4_fault_4 rfl ?_
  exact ⟨rfl, hA, mO.rfl⟩

set_option maxHeartbeats 4000000 in
set_option maxRecDepth 100000 in
theorem x_read (G : GT) {σ : Sg} {A : ASt} (hA : cR σ A) (x : Int32) : MC G yX4_read cX4_read 3 .int 6 [.ref (G.2.2.1 155), .int x] σ (fun r τ => r = (sp_read x A).1 ∧ cR τ (sp_read x A).2 ∧ mO σ τ) := by
  refine MC_of (by decide) (ca1 rfl (ca1 rfl ca0)) (Nat.le_of_ble_eq_true rfl) ?_
  intro Z X hR
  show V G Z σ 0 [some (.ref (G.2.2.1 155)), some (.int x), none] []
  refine v_iload_n X dX4_read_0 rfl ?_
  refine v_cals X (c_isSlot G _) cs_X4_55 (by decide) rfl (by rfl) (Nat.le_of_ble_eq_true rfl) dX4_read_1 (fun r τ9 hq => ?_)
  obtain ⟨e9, rfl⟩ := hq
  rw [e9]
  refine v_if_ne (tgt := 9) X dX4_read_4 (by decide) (fun h4 => ?_) (fun h4 => ?_)
  · skip
    obtain ⟨t, t6, rfl, tN⟩ := slot_t (bI_nz.mp h4)
    have tP := hA.1 t (by omega)
    refine v_aload_n X dX4_read_9 rfl ?_
    refine v_getr X fl_X4_27 shX4_3 dX4_read_10 ?_
    refine v_aload_n X dX4_read_13 rfl ?_
    refine v_getr X fl_X4_37 shX4_5 dX4_read_14 ?_
    refine v_cali X (c_parseInto G hA.2.1) cv_X4_59 obX3 rfl (by decide) rfl (by rfl) (Nat.le_of_ble_eq_true rfl) dX4_read_17 (fun r τ hp => ?_)
    obtain ⟨o1, hp⟩ := hp
    have hA1 := cR_tR hA o1
    have hm1 : mO σ τ := fun i hi => o1.1 i (by omega) (by omega) (by omega) (by omega)
    refine v_istore_n X dX4_read_20 (Nat.le_of_ble_eq_true rfl) ?_
    show V G Z _ 21 [_, _, _] _
    refine v_iload_n X dX4_read_21 rfl ?_
    refine v_bipush (v := (-6)) X dX4_read_22 (by decide) ?_
    refine v_icmp_eq (tgt := 35) X dX4_read_24 (by decide) (fun h24 => ?_) (fun h24 => ?_)
    · skip
      obtain ⟨S, D, lg, g1, g2⟩ : ∃ (S D : Sen) (lg : Bool), prs A.2.1 = .inr S ∧ dS τ 18 S D lg := by
        rcases hp with ⟨i, z1, z2⟩ | ⟨S, D, lg, z1, -, z3⟩
        · rw [z2] at h24
          exact absurd h24 (nI_m6 (prs_lt hA.2.1.1 z1))
        · exact ⟨S, D, lg, z1, z3⟩
      refine v_aload_n X dX4_read_35 rfl ?_
      refine v_getr X fl_X4_37 shX4_5 dX4_read_36 ?_
      refine v_geti X fl_X4_63 (shX1_1 (by first | assumption | omega)) dX4_read_39 ?_
      rw [g2.2.1]
      refine v_if_eq (tgt := 48) X dX4_read_42 (by decide) (fun h42 => ?_) (fun h42 => ?_)
      · skip
        have hlg := bI_z.mp h42
        have hDS : D = S := by
          rcases g2.2.2 with z | z
          · exact z.2
          · rw [hlg] at z; cases z.1
        subst hDS
        have hz18 : hz τ 18 D := ⟨g2.1, by rw [g2.2.1, hlg]⟩
        have hle := g2.1.1
        refine v_aload_n X dX4_read_48 rfl ?_
        refine v_getr X fl_X4_27 shX4_3 dX4_read_49 ?_
        refine v_iconst (v := nI 0) X dX4_read_52 (by decide) ?_
        refine v_puti X fw_X4_48 shX3_0 dX4_read_53 rfl rfl ?_
        refine v_aload_n X dX4_read_56 rfl ?_
        refine v_iload_n X dX4_read_57 rfl ?_
        have hz18b : hz (s2 τ 147 0 (nI 0)) 18 D := ⟨hs_cong hz18.1 (by rw [s2_nc (by decide)]) (fun q _ _ => s2_nc (by omega)), by rw [s2_nc (by decide)]; exact hz18.2⟩
        refine v_cali X (c_putDraft G t6 (cR_wipe hA1) hz18b) cv_X4_67 obX4 rfl (by decide) rfl (by rfl) (Nat.le_of_ble_eq_true rfl) dX4_read_58 (fun r τ2 hp2 => ?_)
        obtain ⟨rfl, q1, q2⟩ := hp2
        refine v_ret X hR dX4_read_61 rfl ?_
        have e : sp_read (nI t) A = (nI D.length, (stS A.1 t D, [], A.2.2)) := by simp [sp_read, tN, g1]; omega
        rw [e]
        exact ⟨rfl, q1, (hm1.trans (fun j hj => s2_nc (by omega))).trans q2⟩
      · skip
        have hlg := bI_nz.mp h42
        have hgt : 11 < S.length := by
          rcases g2.2.2 with z | z
          · rw [hlg] at z; cases z.1
          · exact z.2.2
        refine v_bipush (v := (-4)) X dX4_read_45 (by decide) ?_
        refine v_ret X hR dX4_read_47 rfl ?_
        have e : sp_read (nI t) A = (-4, A) := by simp [sp_read, tN, g1, hgt]
        rw [e]
        exact ⟨rfl, hA1, hm1⟩
    · skip
      obtain ⟨i, g1, rfl⟩ : ∃ i, prs A.2.1 = .inl i ∧ r = nI i := by
        rcases hp with z | ⟨S, D, lg, z1, z2, -⟩
        · exact z
        · exact absurd z2 h24
      refine v_aload_n X dX4_read_27 rfl ?_
      refine v_iload_n X dX4_read_28 rfl ?_
      refine v_puti X fw_X4_31 shX4_4 dX4_read_29 rfl rfl ?_
      refine v_bipush (v := (-7)) X dX4_read_32 (by decide) ?_
      refine v_ret X hR dX4_read_34 rfl ?_
      have e : sp_read (nI t) A = (-7, (A.1, A.2.1, nI i, A.2.2.2)) := by simp [sp_read, tN, g1]
      rw [e]
      exact ⟨rfl, cR_fault hA1, hm1.trans (fun j hj => s2_nc (by omega))⟩
  · skip
    have tn := slot_f (bI_z.mp h4)
    refine v_iconst (v := (-1)) X dX4_read_7 (by decide) ?_
    refine v_ret X hR dX4_read_8 rfl ?_
    have e : sp_read x A = (-1, A) := by simp [sp_read, tn]
    rw [e]
    exact ⟨rfl, hA, mO.rfl⟩
end
