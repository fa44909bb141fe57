section
-- ===== PART A: goes FIRST, ahead of the names: the tables' words, and 'selects' of the private methods out of them =====
/-- a private method of a class that the tables say can be made, by its rows of tables_1 -/
def lw_okq (q : MethodName × Nat) : Prop := (q.1.cls ≠ "java/lang/invoke/MethodHandle" ∧ q.1.cls ≠ "java/lang/invoke/VarHandle") ∧ Cond.instantiable q.1.cls q.2 ∈ tables_1 ∧ Cond.privateMethod q.1 ∈ tables_1 ∧ Cond.instanceMethod q.1 ∈ tables_1
theorem lw_p0 : lw_okq (⟨"CountBook", "cycleAt", "(I)LCountBook$Cycle;"⟩, 8) := ⟨⟨by decide +kernel, by decide +kernel⟩, List.mem_of_getElem? (i := 13) (by decide +kernel), List.mem_of_getElem? (i := 179) (by decide +kernel), List.mem_of_getElem? (i := 180) (by decide +kernel)⟩
theorem lw_p1 : lw_okq (⟨"CountBook", "phraseAt", "(I)LCountBook$Phrase;"⟩, 8) := ⟨⟨by decide +kernel, by decide +kernel⟩, List.mem_of_getElem? (i := 13) (by decide +kernel), List.mem_of_getElem? (i := 249) (by decide +kernel), List.mem_of_getElem? (i := 250) (by decide +kernel)⟩
theorem lw_p2 : lw_okq (⟨"CountBook$Tape", "faultPlace", "()I"⟩, 5) := ⟨⟨by decide +kernel, by decide +kernel⟩, List.mem_of_getElem? (i := 27) (by decide +kernel), List.mem_of_getElem? (i := 257) (by decide +kernel), List.mem_of_getElem? (i := 258) (by decide +kernel)⟩
theorem lw_p3 : lw_okq (⟨"CountBook$Tape", "speak", "()I"⟩, 5) := ⟨⟨by decide +kernel, by decide +kernel⟩, List.mem_of_getElem? (i := 27) (by decide +kernel), List.mem_of_getElem? (i := 267) (by decide +kernel), List.mem_of_getElem? (i := 268) (by decide +kernel)⟩
theorem lw_p4 : lw_okq (⟨"CountBook$Tape", "sayAgain", "(III)I"⟩, 5) := ⟨⟨by decide +kernel, by decide +kernel⟩, List.mem_of_getElem? (i := 27) (by decide +kernel), List.mem_of_getElem? (i := 274) (by decide +kernel), List.mem_of_getElem? (i := 275) (by decide +kernel)⟩
theorem lw_p5 : lw_okq (⟨"CountBook", "closingRefusal", "(IIIII)I"⟩, 8) := ⟨⟨by decide +kernel, by decide +kernel⟩, List.mem_of_getElem? (i := 13) (by decide +kernel), List.mem_of_getElem? (i := 302) (by decide +kernel), List.mem_of_getElem? (i := 303) (by decide +kernel)⟩
theorem lw_p6 : lw_okq (⟨"CountBook", "wantingIn", "(IIIII)I"⟩, 8) := ⟨⟨by decide +kernel, by decide +kernel⟩, List.mem_of_getElem? (i := 13) (by decide +kernel), List.mem_of_getElem? (i := 313) (by decide +kernel), List.mem_of_getElem? (i := 314) (by decide +kernel)⟩
theorem lw_p7 : lw_okq (⟨"CountBook", "lengthOf", "(I)I"⟩, 8) := ⟨⟨by decide +kernel, by decide +kernel⟩, List.mem_of_getElem? (i := 13) (by decide +kernel), List.mem_of_getElem? (i := 317) (by decide +kernel), List.mem_of_getElem? (i := 318) (by decide +kernel)⟩
theorem lw_p8 : lw_okq (⟨"CountBook", "gapsFilling", "(II)I"⟩, 8) := ⟨⟨by decide +kernel, by decide +kernel⟩, List.mem_of_getElem? (i := 13) (by decide +kernel), List.mem_of_getElem? (i := 331) (by decide +kernel), List.mem_of_getElem? (i := 332) (by decide +kernel)⟩
theorem lw_p9 : lw_okq (⟨"CountBook", "isLookedAt", "(I)Z"⟩, 8) := ⟨⟨by decide +kernel, by decide +kernel⟩, List.mem_of_getElem? (i := 13) (by decide +kernel), List.mem_of_getElem? (i := 335) (by decide +kernel), List.mem_of_getElem? (i := 336) (by decide +kernel)⟩
theorem lw_p10 : lw_okq (⟨"CountBook", "gapFilling", "(III)I"⟩, 8) := ⟨⟨by decide +kernel, by decide +kernel⟩, List.mem_of_getElem? (i := 13) (by decide +kernel), List.mem_of_getElem? (i := 343) (by decide +kernel), List.mem_of_getElem? (i := 344) (by decide +kernel)⟩
theorem lw_p11 : lw_okq (⟨"CountBook", "shapeRefusal", "(III)I"⟩, 8) := ⟨⟨by decide +kernel, by decide +kernel⟩, List.mem_of_getElem? (i := 13) (by decide +kernel), List.mem_of_getElem? (i := 368) (by decide +kernel), List.mem_of_getElem? (i := 369) (by decide +kernel)⟩
theorem lw_p12 : lw_okq (⟨"CountBook", "turnRefusal", "(II)I"⟩, 8) := ⟨⟨by decide +kernel, by decide +kernel⟩, List.mem_of_getElem? (i := 13) (by decide +kernel), List.mem_of_getElem? (i := 390) (by decide +kernel), List.mem_of_getElem? (i := 391) (by decide +kernel)⟩
theorem lw_p13 : lw_okq (⟨"CountBook", "sheetAt", "(I)LCountBook$Sheet;"⟩, 8) := ⟨⟨by decide +kernel, by decide +kernel⟩, List.mem_of_getElem? (i := 13) (by decide +kernel), List.mem_of_getElem? (i := 394) (by decide +kernel), List.mem_of_getElem? (i := 395) (by decide +kernel)⟩
theorem lw_p14 : lw_okq (⟨"CountBook$Turns", "forgetFits", "()V"⟩, 2) := ⟨⟨by decide +kernel, by decide +kernel⟩, List.mem_of_getElem? (i := 52) (by decide +kernel), List.mem_of_getElem? (i := 407) (by decide +kernel), List.mem_of_getElem? (i := 408) (by decide +kernel)⟩
theorem lw_p15 : lw_okq (⟨"CountBook$Turns", "fitFrom", "(LCountBook$Phrase;I)V"⟩, 2) := ⟨⟨by decide +kernel, by decide +kernel⟩, List.mem_of_getElem? (i := 52) (by decide +kernel), List.mem_of_getElem? (i := 411) (by decide +kernel), List.mem_of_getElem? (i := 412) (by decide +kernel)⟩
def lw_privs_1 : List (MethodName × Nat) := [(⟨"CountBook", "cycleAt", "(I)LCountBook$Cycle;"⟩, 8), (⟨"CountBook", "phraseAt", "(I)LCountBook$Phrase;"⟩, 8), (⟨"CountBook$Tape", "faultPlace", "()I"⟩, 5), (⟨"CountBook$Tape", "speak", "()I"⟩, 5), (⟨"CountBook$Tape", "sayAgain", "(III)I"⟩, 5), (⟨"CountBook", "closingRefusal", "(IIIII)I"⟩, 8), (⟨"CountBook", "wantingIn", "(IIIII)I"⟩, 8), (⟨"CountBook", "lengthOf", "(I)I"⟩, 8), (⟨"CountBook", "gapsFilling", "(II)I"⟩, 8), (⟨"CountBook", "isLookedAt", "(I)Z"⟩, 8), (⟨"CountBook", "gapFilling", "(III)I"⟩, 8), (⟨"CountBook", "shapeRefusal", "(III)I"⟩, 8), (⟨"CountBook", "turnRefusal", "(II)I"⟩, 8), (⟨"CountBook", "sheetAt", "(I)LCountBook$Sheet;"⟩, 8), (⟨"CountBook$Turns", "forgetFits", "()V"⟩, 2), (⟨"CountBook$Turns", "fitFrom", "(LCountBook$Phrase;I)V"⟩, 2)]
theorem lw_r1 : ∀ q ∈ lw_privs_1, lw_okq q := List.forall_mem_cons.mpr ⟨lw_p0, List.forall_mem_cons.mpr ⟨lw_p1, List.forall_mem_cons.mpr ⟨lw_p2, List.forall_mem_cons.mpr ⟨lw_p3, List.forall_mem_cons.mpr ⟨lw_p4, List.forall_mem_cons.mpr ⟨lw_p5, List.forall_mem_cons.mpr ⟨lw_p6, List.forall_mem_cons.mpr ⟨lw_p7, List.forall_mem_cons.mpr ⟨lw_p8, List.forall_mem_cons.mpr ⟨lw_p9, List.forall_mem_cons.mpr ⟨lw_p10, List.forall_mem_cons.mpr ⟨lw_p11, List.forall_mem_cons.mpr ⟨lw_p12, List.forall_mem_cons.mpr ⟨lw_p13, List.forall_mem_cons.mpr ⟨lw_p14, List.forall_mem_cons.mpr ⟨lw_p15, fun _ h => absurd h List.not_mem_nil⟩⟩⟩⟩⟩⟩⟩⟩⟩⟩⟩⟩⟩⟩⟩⟩
theorem lw_p16 : lw_okq (⟨"CountBook$Turns", "waysFrom", "(LCountBook$Phrase;II)J"⟩, 2) := ⟨⟨by decide +kernel, by decide +kernel⟩, List.mem_of_getElem? (i := 52) (by decide +kernel), List.mem_of_getElem? (i := 415) (by decide +kernel), List.mem_of_getElem? (i := 416) (by decide +kernel)⟩
theorem lw_p17 : lw_okq (⟨"CountBook$Hands", "weigh", "(LCountBook$Phrase;)V"⟩, 3) := ⟨⟨by decide +kernel, by decide +kernel⟩, List.mem_of_getElem? (i := 66) (by decide +kernel), List.mem_of_getElem? (i := 456) (by decide +kernel), List.mem_of_getElem? (i := 457) (by decide +kernel)⟩
theorem lw_p18 : lw_okq (⟨"CountBook$Hands", "usedAt", "(LCountBook$Phrase;II)I"⟩, 3) := ⟨⟨by decide +kernel, by decide +kernel⟩, List.mem_of_getElem? (i := 66) (by decide +kernel), List.mem_of_getElem? (i := 460) (by decide +kernel), List.mem_of_getElem? (i := 461) (by decide +kernel)⟩
theorem lw_p19 : lw_okq (⟨"CountBook$Hands", "fewestBehind", "(LCountBook$Phrase;II)I"⟩, 3) := ⟨⟨by decide +kernel, by decide +kernel⟩, List.mem_of_getElem? (i := 66) (by decide +kernel), List.mem_of_getElem? (i := 465) (by decide +kernel), List.mem_of_getElem? (i := 466) (by decide +kernel)⟩
theorem lw_p20 : lw_okq (⟨"CountBook", "limbsInAll", "()I"⟩, 8) := ⟨⟨by decide +kernel, by decide +kernel⟩, List.mem_of_getElem? (i := 13) (by decide +kernel), List.mem_of_getElem? (i := 551) (by decide +kernel), List.mem_of_getElem? (i := 552) (by decide +kernel)⟩
theorem lw_p21 : lw_okq (⟨"CountBook", "phrasesNotEmpty", "()I"⟩, 8) := ⟨⟨by decide +kernel, by decide +kernel⟩, List.mem_of_getElem? (i := 13) (by decide +kernel), List.mem_of_getElem? (i := 555) (by decide +kernel), List.mem_of_getElem? (i := 556) (by decide +kernel)⟩
theorem lw_p22 : lw_okq (⟨"CountBook", "syllablesInAll", "()I"⟩, 8) := ⟨⟨by decide +kernel, by decide +kernel⟩, List.mem_of_getElem? (i := 13) (by decide +kernel), List.mem_of_getElem? (i := 559) (by decide +kernel), List.mem_of_getElem? (i := 560) (by decide +kernel)⟩
theorem lw_p23 : lw_okq (⟨"CountBook", "sheetsNotMissing", "()I"⟩, 8) := ⟨⟨by decide +kernel, by decide +kernel⟩, List.mem_of_getElem? (i := 13) (by decide +kernel), List.mem_of_getElem? (i := 563) (by decide +kernel), List.mem_of_getElem? (i := 564) (by decide +kernel)⟩
theorem lw_p24 : lw_okq (⟨"CountBookModel", "lengthOf", "(I)I"⟩, 21) := ⟨⟨by decide +kernel, by decide +kernel⟩, List.mem_of_getElem? (i := 567) (by decide +kernel), List.mem_of_getElem? (i := 661) (by decide +kernel), List.mem_of_getElem? (i := 662) (by decide +kernel)⟩
theorem lw_p25 : lw_okq (⟨"CountBookModel", "four", "(I)V"⟩, 21) := ⟨⟨by decide +kernel, by decide +kernel⟩, List.mem_of_getElem? (i := 567) (by decide +kernel), List.mem_of_getElem? (i := 674) (by decide +kernel), List.mem_of_getElem? (i := 675) (by decide +kernel)⟩
theorem lw_p26 : lw_okq (⟨"CountBookModel", "row", "(II)I"⟩, 21) := ⟨⟨by decide +kernel, by decide +kernel⟩, List.mem_of_getElem? (i := 567) (by decide +kernel), List.mem_of_getElem? (i := 686) (by decide +kernel), List.mem_of_getElem? (i := 687) (by decide +kernel)⟩
theorem lw_p27 : lw_okq (⟨"CountBookModel", "item", "(II)I"⟩, 21) := ⟨⟨by decide +kernel, by decide +kernel⟩, List.mem_of_getElem? (i := 567) (by decide +kernel), List.mem_of_getElem? (i := 690) (by decide +kernel), List.mem_of_getElem? (i := 691) (by decide +kernel)⟩
theorem lw_p28 : lw_okq (⟨"CountBookModel", "here", "()I"⟩, 21) := ⟨⟨by decide +kernel, by decide +kernel⟩, List.mem_of_getElem? (i := 567) (by decide +kernel), List.mem_of_getElem? (i := 694) (by decide +kernel), List.mem_of_getElem? (i := 695) (by decide +kernel)⟩
theorem lw_p29 : lw_okq (⟨"CountBookModel", "ticksOf", "(II)I"⟩, 21) := ⟨⟨by decide +kernel, by decide +kernel⟩, List.mem_of_getElem? (i := 567) (by decide +kernel), List.mem_of_getElem? (i := 713) (by decide +kernel), List.mem_of_getElem? (i := 714) (by decide +kernel)⟩
theorem lw_p30 : lw_okq (⟨"CountBookModel", "refused", "(III)I"⟩, 21) := ⟨⟨by decide +kernel, by decide +kernel⟩, List.mem_of_getElem? (i := 567) (by decide +kernel), List.mem_of_getElem? (i := 721) (by decide +kernel), List.mem_of_getElem? (i := 722) (by decide +kernel)⟩
theorem lw_p31 : lw_okq (⟨"CountBookModel", "till", "(III)J"⟩, 21) := ⟨⟨by decide +kernel, by decide +kernel⟩, List.mem_of_getElem? (i := 567) (by decide +kernel), List.mem_of_getElem? (i := 725) (by decide +kernel), List.mem_of_getElem? (i := 726) (by decide +kernel)⟩
def lw_privs_2 : List (MethodName × Nat) := [(⟨"CountBook$Turns", "waysFrom", "(LCountBook$Phrase;II)J"⟩, 2), (⟨"CountBook$Hands", "weigh", "(LCountBook$Phrase;)V"⟩, 3), (⟨"CountBook$Hands", "usedAt", "(LCountBook$Phrase;II)I"⟩, 3), (⟨"CountBook$Hands", "fewestBehind", "(LCountBook$Phrase;II)I"⟩, 3), (⟨"CountBook", "limbsInAll", "()I"⟩, 8), (⟨"CountBook", "phrasesNotEmpty", "()I"⟩, 8), (⟨"CountBook", "syllablesInAll", "()I"⟩, 8), (⟨"CountBook", "sheetsNotMissing", "()I"⟩, 8), (⟨"CountBookModel", "lengthOf", "(I)I"⟩, 21), (⟨"CountBookModel", "four", "(I)V"⟩, 21), (⟨"CountBookModel", "row", "(II)I"⟩, 21), (⟨"CountBookModel", "item", "(II)I"⟩, 21), (⟨"CountBookModel", "here", "()I"⟩, 21), (⟨"CountBookModel", "ticksOf", "(II)I"⟩, 21), (⟨"CountBookModel", "refused", "(III)I"⟩, 21), (⟨"CountBookModel", "till", "(III)J"⟩, 21)]
theorem lw_r2 : ∀ q ∈ lw_privs_2, lw_okq q := List.forall_mem_cons.mpr ⟨lw_p16, List.forall_mem_cons.mpr ⟨lw_p17, List.forall_mem_cons.mpr ⟨lw_p18, List.forall_mem_cons.mpr ⟨lw_p19, List.forall_mem_cons.mpr ⟨lw_p20, List.forall_mem_cons.mpr ⟨lw_p21, List.forall_mem_cons.mpr ⟨lw_p22, List.forall_mem_cons.mpr ⟨lw_p23, List.forall_mem_cons.mpr ⟨lw_p24, List.forall_mem_cons.mpr ⟨lw_p25, List.forall_mem_cons.mpr ⟨lw_p26, List.forall_mem_cons.mpr ⟨lw_p27, List.forall_mem_cons.mpr ⟨lw_p28, List.forall_mem_cons.mpr ⟨lw_p29, List.forall_mem_cons.mpr ⟨lw_p30, List.forall_mem_cons.mpr ⟨lw_p31, fun _ h => absurd h List.not_mem_nil⟩⟩⟩⟩⟩⟩⟩⟩⟩⟩⟩⟩⟩⟩⟩⟩
theorem lw_p32 : lw_okq (⟨"CountBookModel", "doesLand", "(IJ)Z"⟩, 21) := ⟨⟨by decide +kernel, by decide +kernel⟩, List.mem_of_getElem? (i := 567) (by decide +kernel), List.mem_of_getElem? (i := 731) (by decide +kernel), List.mem_of_getElem? (i := 732) (by decide +kernel)⟩
theorem lw_p33 : lw_okq (⟨"CountBookModel", "tillDouble", "(IIII)J"⟩, 21) := ⟨⟨by decide +kernel, by decide +kernel⟩, List.mem_of_getElem? (i := 567) (by decide +kernel), List.mem_of_getElem? (i := 751) (by decide +kernel), List.mem_of_getElem? (i := 752) (by decide +kernel)⟩
theorem lw_p34 : lw_okq (⟨"CountBookModel", "rowsOf", "(III)I"⟩, 21) := ⟨⟨by decide +kernel, by decide +kernel⟩, List.mem_of_getElem? (i := 567) (by decide +kernel), List.mem_of_getElem? (i := 772) (by decide +kernel), List.mem_of_getElem? (i := 773) (by decide +kernel)⟩
theorem lw_p35 : lw_okq (⟨"CountBookModel", "rows", "(II)I"⟩, 21) := ⟨⟨by decide +kernel, by decide +kernel⟩, List.mem_of_getElem? (i := 567) (by decide +kernel), List.mem_of_getElem? (i := 776) (by decide +kernel), List.mem_of_getElem? (i := 777) (by decide +kernel)⟩
theorem lw_p36 : lw_okq (⟨"CountBookModel", "rowOf", "(IIII)I"⟩, 21) := ⟨⟨by decide +kernel, by decide +kernel⟩, List.mem_of_getElem? (i := 567) (by decide +kernel), List.mem_of_getElem? (i := 780) (by decide +kernel), List.mem_of_getElem? (i := 781) (by decide +kernel)⟩
theorem lw_p37 : lw_okq (⟨"CountBookModel", "findTurn", "(II)V"⟩, 21) := ⟨⟨by decide +kernel, by decide +kernel⟩, List.mem_of_getElem? (i := 567) (by decide +kernel), List.mem_of_getElem? (i := 796) (by decide +kernel), List.mem_of_getElem? (i := 797) (by decide +kernel)⟩
theorem lw_p38 : lw_okq (⟨"CountBookModel", "standsAt", "(IIII)I"⟩, 21) := ⟨⟨by decide +kernel, by decide +kernel⟩, List.mem_of_getElem? (i := 567) (by decide +kernel), List.mem_of_getElem? (i := 800) (by decide +kernel), List.mem_of_getElem? (i := 801) (by decide +kernel)⟩
theorem lw_p39 : lw_okq (⟨"CountBookModel", "findPlay", "(I)V"⟩, 21) := ⟨⟨by decide +kernel, by decide +kernel⟩, List.mem_of_getElem? (i := 567) (by decide +kernel), List.mem_of_getElem? (i := 817) (by decide +kernel), List.mem_of_getElem? (i := 818) (by decide +kernel)⟩
theorem lw_p40 : lw_okq (⟨"CountBookModel", "mayBe", "(III)Z"⟩, 21) := ⟨⟨by decide +kernel, by decide +kernel⟩, List.mem_of_getElem? (i := 567) (by decide +kernel), List.mem_of_getElem? (i := 821) (by decide +kernel), List.mem_of_getElem? (i := 822) (by decide +kernel)⟩
theorem lw_p41 : lw_okq (⟨"CountBookModel", "handOf", "(II)I"⟩, 21) := ⟨⟨by decide +kernel, by decide +kernel⟩, List.mem_of_getElem? (i := 567) (by decide +kernel), List.mem_of_getElem? (i := 825) (by decide +kernel), List.mem_of_getElem? (i := 826) (by decide +kernel)⟩
theorem lw_p42 : lw_okq (⟨"CountBookModel", "endOf", "(I)I"⟩, 21) := ⟨⟨by decide +kernel, by decide +kernel⟩, List.mem_of_getElem? (i := 567) (by decide +kernel), List.mem_of_getElem? (i := 848) (by decide +kernel), List.mem_of_getElem? (i := 849) (by decide +kernel)⟩
def lw_privs_3 : List (MethodName × Nat) := [(⟨"CountBookModel", "doesLand", "(IJ)Z"⟩, 21), (⟨"CountBookModel", "tillDouble", "(IIII)J"⟩, 21), (⟨"CountBookModel", "rowsOf", "(III)I"⟩, 21), (⟨"CountBookModel", "rows", "(II)I"⟩, 21), (⟨"CountBookModel", "rowOf", "(IIII)I"⟩, 21), (⟨"CountBookModel", "findTurn", "(II)V"⟩, 21), (⟨"CountBookModel", "standsAt", "(IIII)I"⟩, 21), (⟨"CountBookModel", "findPlay", "(I)V"⟩, 21), (⟨"CountBookModel", "mayBe", "(III)Z"⟩, 21), (⟨"CountBookModel", "handOf", "(II)I"⟩, 21), (⟨"CountBookModel", "endOf", "(I)I"⟩, 21)]
theorem lw_r3 : ∀ q ∈ lw_privs_3, lw_okq q := List.forall_mem_cons.mpr ⟨lw_p32, List.forall_mem_cons.mpr ⟨lw_p33, List.forall_mem_cons.mpr ⟨lw_p34, List.forall_mem_cons.mpr ⟨lw_p35, List.forall_mem_cons.mpr ⟨lw_p36, List.forall_mem_cons.mpr ⟨lw_p37, List.forall_mem_cons.mpr ⟨lw_p38, List.forall_mem_cons.mpr ⟨lw_p39, List.forall_mem_cons.mpr ⟨lw_p40, List.forall_mem_cons.mpr ⟨lw_p41, List.forall_mem_cons.mpr ⟨lw_p42, fun _ h => absurd h List.not_mem_nil⟩⟩⟩⟩⟩⟩⟩⟩⟩⟩⟩
def lw_privs : List (MethodName × Nat) := lw_privs_1 ++ (lw_privs_2 ++ (lw_privs_3))
def lw_tbl : List Cond := k2_sels lw_privs ++ tables_1
theorem lw_privs_ok : ∀ q ∈ lw_privs, lw_okq q := by
  show ∀ q ∈ lw_privs_1 ++ (lw_privs_2 ++ (lw_privs_3)), lw_okq q
  exact List.forall_mem_append.mpr ⟨lw_r1, List.forall_mem_append.mpr ⟨lw_r2, lw_r3⟩⟩
end
section
def RX0 : String := "CountBook$Cycle"
def TX0 : u_T := fun k => match k with
  | 0 => ("CountBook$Cycle", "kinds", "[I", true)
  | 1 => ("CountBook$Cycle", "halves", "[I", true)
  | _ => ("CountBook$Cycle", "size", "I", false)
def tyX0 : Nat → FieldType := fun k => match k with
  | 0 => .array .int
  | 1 => .array .int
  | _ => .int
abbrev wsX00 : List Cond := u_ws RX0 TX0 3
theorem nmX0 : ∀ a, a < 3 → ∀ b, b < 3 → a ≠ b → (TX0 a).2.1 ≠ (TX0 b).2.1 := by decide +kernel
theorem tyX0_ok : ∀ k, k < 3 → parseFieldDescriptor (TX0 k).2.2.1 = some (tyX0 k) := by decide +kernel
abbrev cX0_init : ByteArray := prog_2_method_1_code
def yX0_init : MethodName := ⟨RX0, "<init>", "()V"⟩
abbrev cX0_isKind : ByteArray := prog_2_method_2_code
def yX0_isKind : MethodName := ⟨RX0, "isKind", "(I)Z"⟩
abbrev cX0_isUnder : ByteArray := prog_2_method_3_code
def yX0_isUnder : MethodName := ⟨RX0, "isUnder", "(II)Z"⟩
abbrev cX0_take : ByteArray := prog_2_method_4_code
def yX0_take : MethodName := ⟨RX0, "take", "(II)I"⟩
abbrev cX0_limbIs : ByteArray := prog_2_method_5_code
def yX0_limbIs : MethodName := ⟨RX0, "limbIs", "(II)Z"⟩
abbrev cX0_allTicks : ByteArray := prog_2_method_6_code
def yX0_allTicks : MethodName := ⟨RX0, "allTicks", "()I"⟩
abbrev cX0_handlingAt : ByteArray := prog_2_method_7_code
def yX0_handlingAt : MethodName := ⟨RX0, "handlingAt", "(I)I"⟩
abbrev cX0_deedAt : ByteArray := prog_2_method_8_code
def yX0_deedAt : MethodName := ⟨RX0, "deedAt", "(III)I"⟩
def RX1 : String := "CountBook$Hands"
def TX1 : u_T := fun k => match k with
  | 0 => ("CountBook$Hands", "handOf", "[I", true)
  | 1 => ("CountBook$Hands", "fewestByLeft", "[I", true)
  | _ => ("CountBook$Hands", "fewestByRight", "[I", true)
def tyX1 : Nat → FieldType := fun k => match k with
  | 0 => .array .int
  | 1 => .array .int
  | _ => .array .int
abbrev wsX10 : List Cond := u_ws RX1 TX1 3
theorem nmX1 : ∀ a, a < 3 → ∀ b, b < 3 → a ≠ b → (TX1 a).2.1 ≠ (TX1 b).2.1 := by decide +kernel
theorem tyX1_ok : ∀ k, k < 3 → parseFieldDescriptor (TX1 k).2.2.1 = some (tyX1 k) := by decide +kernel
abbrev cX1_init : ByteArray := prog_3_method_1_code
def yX1_init : MethodName := ⟨RX1, "<init>", "()V"⟩
abbrev cX1_change : ByteArray := prog_3_method_2_code
def yX1_change : MethodName := ⟨RX1, "change", "(II)I"⟩
abbrev cX1_fewestStrains : ByteArray := prog_3_method_3_code
def yX1_fewestStrains : MethodName := ⟨RX1, "fewestStrains", "(LCountBook$Phrase;)I"⟩
abbrev cX1_handAt : ByteArray := prog_3_method_4_code
def yX1_handAt : MethodName := ⟨RX1, "handAt", "(LCountBook$Phrase;I)I"⟩
abbrev cX1_weigh : ByteArray := prog_3_method_5_code
def yX1_weigh : MethodName := ⟨RX1, "weigh", "(LCountBook$Phrase;)V"⟩
abbrev cX1_fewestBehind : ByteArray := prog_3_method_6_code
def yX1_fewestBehind : MethodName := ⟨RX1, "fewestBehind", "(LCountBook$Phrase;II)I"⟩
abbrev cX1_usedAt : ByteArray := prog_3_method_7_code
def yX1_usedAt : MethodName := ⟨RX1, "usedAt", "(LCountBook$Phrase;II)I"⟩
abbrev cX1_strainOf : ByteArray := prog_3_method_8_code
def yX1_strainOf : MethodName := ⟨RX1, "strainOf", "(II)I"⟩
def RX2 : String := "CountBook$Phrase"
def TX2 : u_T := fun k => match k with
  | 0 => ("CountBook$Phrase", "row", "[B", true)
  | _ => ("CountBook$Phrase", "size", "I", false)
def tyX2 : Nat → FieldType := fun k => match k with
  | 0 => .array .byte
  | _ => .int
abbrev wsX20 : List Cond := u_ws RX2 TX2 2
theorem nmX2 : ∀ a, a < 2 → ∀ b, b < 2 → a ≠ b → (TX2 a).2.1 ≠ (TX2 b).2.1 := by decide +kernel
theorem tyX2_ok : ∀ k, k < 2 → parseFieldDescriptor (TX2 k).2.2.1 = some (tyX2 k) := by decide +kernel
abbrev cX2_init : ByteArray := prog_4_method_1_code
def yX2_init : MethodName := ⟨RX2, "<init>", "()V"⟩
abbrev cX2_at : ByteArray := prog_4_method_2_code
def yX2_at : MethodName := ⟨RX2, "at", "(I)I"⟩
abbrev cX2_rowsBy : ByteArray := prog_4_method_3_code
def yX2_rowsBy : MethodName := ⟨RX2, "rowsBy", "(I)I"⟩
def RX3 : String := "CountBook$Sheet"
def TX3 : u_T := fun k => match k with
  | 0 => ("CountBook$Sheet", "row", "[B", true)
  | _ => ("CountBook$Sheet", "places", "I", false)
def tyX3 : Nat → FieldType := fun k => match k with
  | 0 => .array .byte
  | _ => .int
abbrev wsX30 : List Cond := u_ws RX3 TX3 2
theorem nmX3 : ∀ a, a < 2 → ∀ b, b < 2 → a ≠ b → (TX3 a).2.1 ≠ (TX3 b).2.1 := by decide +kernel
theorem tyX3_ok : ∀ k, k < 2 → parseFieldDescriptor (TX3 k).2.2.1 = some (tyX3 k) := by decide +kernel
abbrev cX3_init : ByteArray := prog_5_method_1_code
def yX3_init : MethodName := ⟨RX3, "<init>", "()V"⟩
abbrev cX3_isMissing : ByteArray := prog_5_method_2_code
def yX3_isMissing : MethodName := ⟨RX3, "isMissing", "()Z"⟩
abbrev cX3_layOut : ByteArray := prog_5_method_3_code
def yX3_layOut : MethodName := ⟨RX3, "layOut", "(I)V"⟩
abbrev cX3_change : ByteArray := prog_5_method_4_code
def yX3_change : MethodName := ⟨RX3, "change", "(IB)I"⟩
def RX4 : String := "CountBook$Solo"
def TX4 : u_T := fun k => match k with
  | 0 => ("CountBook$Solo", "partTicks", "[I", true)
  | 1 => ("CountBook$Solo", "partGaps", "[I", true)
  | _ => ("CountBook$Solo", "size", "I", false)
def tyX4 : Nat → FieldType := fun k => match k with
  | 0 => .array .int
  | 1 => .array .int
  | _ => .int
abbrev wsX40 : List Cond := u_ws RX4 TX4 3
theorem nmX4 : ∀ a, a < 3 → ∀ b, b < 3 → a ≠ b → (TX4 a).2.1 ≠ (TX4 b).2.1 := by decide +kernel
theorem tyX4_ok : ∀ k, k < 3 → parseFieldDescriptor (TX4 k).2.2.1 = some (tyX4 k) := by decide +kernel
abbrev cX4_init : ByteArray := prog_6_method_1_code
def yX4_init : MethodName := ⟨RX4, "<init>", "()V"⟩
abbrev cX4_take : ByteArray := prog_6_method_2_code
def yX4_take : MethodName := ⟨RX4, "take", "(II)I"⟩
abbrev cX4_endOf : ByteArray := prog_6_method_3_code
def yX4_endOf : MethodName := ⟨RX4, "endOf", "(I)I"⟩
abbrev cX4_endWithoutLastGap : ByteArray := prog_6_method_4_code
def yX4_endWithoutLastGap : MethodName := ⟨RX4, "endWithoutLastGap", "()I"⟩
abbrev cX4_endsAtOne : ByteArray := prog_6_method_5_code
def yX4_endsAtOne : MethodName := ⟨RX4, "endsAtOne", "(I)I"⟩
def RX5 : String := "CountBook$Tape"
def TX5 : u_T := fun k => match k with
  | 0 => ("CountBook$Tape", "bytes", "[B", true)
  | 1 => ("CountBook$Tape", "size", "I", false)
  | 2 => ("CountBook$Tape", "spoken", "[B", true)
  | 3 => ("CountBook$Tape", "openedAt", "[I", true)
  | _ => ("CountBook$Tape", "openedTimes", "[I", true)
def tyX5 : Nat → FieldType := fun k => match k with
  | 0 => .array .byte
  | 1 => .int
  | 2 => .array .byte
  | 3 => .array .int
  | _ => .array .int
abbrev wsX50 : List Cond := u_ws RX5 TX5 5
theorem nmX5 : ∀ a, a < 5 → ∀ b, b < 5 → a ≠ b → (TX5 a).2.1 ≠ (TX5 b).2.1 := by decide +kernel
theorem tyX5_ok : ∀ k, k < 5 → parseFieldDescriptor (TX5 k).2.2.1 = some (tyX5 k) := by decide +kernel
abbrev cX5_init : ByteArray := prog_7_method_1_code
def yX5_init : MethodName := ⟨RX5, "<init>", "()V"⟩
abbrev cX5_hasRoomFor : ByteArray := prog_7_method_2_code
def yX5_hasRoomFor : MethodName := ⟨RX5, "hasRoomFor", "(I)Z"⟩
abbrev cX5_write : ByteArray := prog_7_method_3_code
def yX5_write : MethodName := ⟨RX5, "write", "(I)V"⟩
abbrev cX5_readInto : ByteArray := prog_7_method_4_code
def yX5_readInto : MethodName := ⟨RX5, "readInto", "(LCountBook$Phrase;)I"⟩
abbrev cX5_faultPlace : ByteArray := prog_7_method_5_code
def yX5_faultPlace : MethodName := ⟨RX5, "faultPlace", "()I"⟩
abbrev cX5_speak : ByteArray := prog_7_method_6_code
def yX5_speak : MethodName := ⟨RX5, "speak", "()I"⟩
abbrev cX5_sayAgain : ByteArray := prog_7_method_7_code
def yX5_sayAgain : MethodName := ⟨RX5, "sayAgain", "(III)I"⟩
abbrev cX5_isTimes : ByteArray := prog_7_method_8_code
def yX5_isTimes : MethodName := ⟨RX5, "isTimes", "(I)Z"⟩
abbrev cX5_syllableOf : ByteArray := prog_7_method_9_code
def yX5_syllableOf : MethodName := ⟨RX5, "syllableOf", "(I)I"⟩
def RX6 : String := "CountBook$Turns"
def TX6 : u_T := fun k => match k with
  | 0 => ("CountBook$Turns", "fits", "[I", true)
  | _ => ("CountBook$Turns", "waysBehind", "[J", true)
def tyX6 : Nat → FieldType := fun k => match k with
  | 0 => .array .int
  | _ => .array .long
abbrev wsX60 : List Cond := u_ws RX6 TX6 2
theorem nmX6 : ∀ a, a < 2 → ∀ b, b < 2 → a ≠ b → (TX6 a).2.1 ≠ (TX6 b).2.1 := by decide +kernel
theorem tyX6_ok : ∀ k, k < 2 → parseFieldDescriptor (TX6 k).2.2.1 = some (tyX6 k) := by decide +kernel
abbrev cX6_init : ByteArray := prog_8_method_1_code
def yX6_init : MethodName := ⟨RX6, "<init>", "()V"⟩
abbrev cX6_allWays : ByteArray := prog_8_method_2_code
def yX6_allWays : MethodName := ⟨RX6, "allWays", "(LCountBook$Phrase;LCountBook$Sheet;)I"⟩
abbrev cX6_fewestCuts : ByteArray := prog_8_method_3_code
def yX6_fewestCuts : MethodName := ⟨RX6, "fewestCuts", "(LCountBook$Phrase;LCountBook$Sheet;)I"⟩
abbrev cX6_forgetFits : ByteArray := prog_8_method_4_code
def yX6_forgetFits : MethodName := ⟨RX6, "forgetFits", "()V"⟩
abbrev cX6_fitFrom : ByteArray := prog_8_method_5_code
def yX6_fitFrom : MethodName := ⟨RX6, "fitFrom", "(LCountBook$Phrase;I)V"⟩
abbrev cX6_waysFrom : ByteArray := prog_8_method_6_code
def yX6_waysFrom : MethodName := ⟨RX6, "waysFrom", "(LCountBook$Phrase;II)J"⟩
abbrev cX6_longestCut : ByteArray := prog_8_method_7_code
def yX6_longestCut : MethodName := ⟨RX6, "longestCut", "(LCountBook$Phrase;LCountBook$Sheet;I)I"⟩
def RX7 : String := "CountBook"
def TX7 : u_T := fun k => match k with
  | 0 => ("CountBook", "cycles", "[LCountBook$Cycle;", true)
  | 1 => ("CountBook", "phrases", "[LCountBook$Phrase;", true)
  | 2 => ("CountBook", "sheets", "[LCountBook$Sheet;", true)
  | 3 => ("CountBook", "tape", "LCountBook$Tape;", true)
  | 4 => ("CountBook", "turns", "LCountBook$Turns;", true)
  | 5 => ("CountBook", "hands", "LCountBook$Hands;", true)
  | 6 => ("CountBook", "solo", "LCountBook$Solo;", true)
  | _ => ("CountBook", "gridTicks", "I", false)
def tyX7 : Nat → FieldType := fun k => match k with
  | 0 => .array (.object "CountBook$Cycle")
  | 1 => .array (.object "CountBook$Phrase")
  | 2 => .array (.object "CountBook$Sheet")
  | 3 => .object "CountBook$Tape"
  | 4 => .object "CountBook$Turns"
  | 5 => .object "CountBook$Hands"
  | 6 => .object "CountBook$Solo"
  | _ => .int
abbrev wsX70 : List Cond := u_ws RX7 TX7 8
theorem nmX7 : ∀ a, a < 8 → ∀ b, b < 8 → a ≠ b → (TX7 a).2.1 ≠ (TX7 b).2.1 := by decide +kernel
theorem tyX7_ok : ∀ k, k < 8 → parseFieldDescriptor (TX7 k).2.2.1 = some (tyX7 k) := by decide +kernel
abbrev cX7_init : ByteArray := prog_1_method_1_code
def yX7_init : MethodName := ⟨RX7, "<init>", "()V"⟩
abbrev cX7_limb : ByteArray := prog_1_method_2_code
def yX7_limb : MethodName := ⟨RX7, "limb", "(III)I"⟩
abbrev cX7_isOf : ByteArray := prog_1_method_3_code
def yX7_isOf : MethodName := ⟨RX7, "isOf", "(III)I"⟩
abbrev cX7_clear : ByteArray := prog_1_method_4_code
def yX7_clear : MethodName := ⟨RX7, "clear", "(I)I"⟩
abbrev cX7_length : ByteArray := prog_1_method_5_code
def yX7_length : MethodName := ⟨RX7, "length", "(I)I"⟩
abbrev cX7_handling : ByteArray := prog_1_method_6_code
def yX7_handling : MethodName := ⟨RX7, "handling", "(II)I"⟩
abbrev cX7_feed : ByteArray := prog_1_method_7_code
def yX7_feed : MethodName := ⟨RX7, "feed", "(III)I"⟩
abbrev cX7_trim : ByteArray := prog_1_method_8_code
def yX7_trim : MethodName := ⟨RX7, "trim", "(I)I"⟩
abbrev cX7_phrase : ByteArray := prog_1_method_9_code
def yX7_phrase : MethodName := ⟨RX7, "phrase", "(I)I"⟩
abbrev cX7_syllable : ByteArray := prog_1_method_10_code
def yX7_syllable : MethodName := ⟨RX7, "syllable", "(II)I"⟩
abbrev cX7_ticks : ByteArray := prog_1_method_11_code
def yX7_ticks : MethodName := ⟨RX7, "ticks", "(II)I"⟩
abbrev cX7_lands : ByteArray := prog_1_method_12_code
def yX7_lands : MethodName := ⟨RX7, "lands", "(IIIII)I"⟩
abbrev cX7_gaps : ByteArray := prog_1_method_13_code
def yX7_gaps : MethodName := ⟨RX7, "gaps", "(IIII)I"⟩
abbrev cX7_gap : ByteArray := prog_1_method_14_code
def yX7_gap : MethodName := ⟨RX7, "gap", "(IIIII)I"⟩
abbrev cX7_start : ByteArray := prog_1_method_15_code
def yX7_start : MethodName := ⟨RX7, "start", "(IIII)I"⟩
abbrev cX7_doubles : ByteArray := prog_1_method_16_code
def yX7_doubles : MethodName := ⟨RX7, "doubles", "(IIII)I"⟩
abbrev cX7_least : ByteArray := prog_1_method_17_code
def yX7_least : MethodName := ⟨RX7, "least", "(IIII)I"⟩
abbrev cX7_grid : ByteArray := prog_1_method_18_code
def yX7_grid : MethodName := ⟨RX7, "grid", "(I)I"⟩
abbrev cX7_shape : ByteArray := prog_1_method_19_code
def yX7_shape : MethodName := ⟨RX7, "shape", "(III)I"⟩
abbrev cX7_shaped : ByteArray := prog_1_method_20_code
def yX7_shaped : MethodName := ⟨RX7, "shaped", "(IIII)I"⟩
abbrev cX7_ways : ByteArray := prog_1_method_21_code
def yX7_ways : MethodName := ⟨RX7, "ways", "(II)I"⟩
abbrev cX7_cuts : ByteArray := prog_1_method_22_code
def yX7_cuts : MethodName := ⟨RX7, "cuts", "(II)I"⟩
abbrev cX7_hand : ByteArray := prog_1_method_23_code
def yX7_hand : MethodName := ⟨RX7, "hand", "(II)I"⟩
abbrev cX7_strains : ByteArray := prog_1_method_24_code
def yX7_strains : MethodName := ⟨RX7, "strains", "(I)I"⟩
abbrev cX7_plays : ByteArray := prog_1_method_25_code
def yX7_plays : MethodName := ⟨RX7, "plays", "(II)I"⟩
abbrev cX7_join : ByteArray := prog_1_method_26_code
def yX7_join : MethodName := ⟨RX7, "join", "(IIII)I"⟩
abbrev cX7_drop : ByteArray := prog_1_method_27_code
def yX7_drop : MethodName := ⟨RX7, "drop", "()I"⟩
abbrev cX7_account : ByteArray := prog_1_method_28_code
def yX7_account : MethodName := ⟨RX7, "account", "(II)I"⟩
abbrev cX7_landings : ByteArray := prog_1_method_29_code
def yX7_landings : MethodName := ⟨RX7, "landings", "(I)I"⟩
abbrev cX7_home : ByteArray := prog_1_method_30_code
def yX7_home : MethodName := ⟨RX7, "home", "(I)I"⟩
abbrev cX7_sheet : ByteArray := prog_1_method_31_code
def yX7_sheet : MethodName := ⟨RX7, "sheet", "(II)I"⟩
abbrev cX7_mark : ByteArray := prog_1_method_32_code
def yX7_mark : MethodName := ⟨RX7, "mark", "(III)I"⟩
abbrev cX7_copy : ByteArray := prog_1_method_33_code
def yX7_copy : MethodName := ⟨RX7, "copy", "(IIIII)I"⟩
abbrev cX7_count : ByteArray := prog_1_method_34_code
def yX7_count : MethodName := ⟨RX7, "count", "(I)I"⟩
abbrev cX7_cycleAt : ByteArray := prog_1_method_35_code
def yX7_cycleAt : MethodName := ⟨RX7, "cycleAt", "(I)LCountBook$Cycle;"⟩
abbrev cX7_phraseAt : ByteArray := prog_1_method_36_code
def yX7_phraseAt : MethodName := ⟨RX7, "phraseAt", "(I)LCountBook$Phrase;"⟩
abbrev cX7_sheetAt : ByteArray := prog_1_method_37_code
def yX7_sheetAt : MethodName := ⟨RX7, "sheetAt", "(I)LCountBook$Sheet;"⟩
abbrev cX7_lengthOf : ByteArray := prog_1_method_38_code
def yX7_lengthOf : MethodName := ⟨RX7, "lengthOf", "(I)I"⟩
abbrev cX7_limbsInAll : ByteArray := prog_1_method_39_code
def yX7_limbsInAll : MethodName := ⟨RX7, "limbsInAll", "()I"⟩
abbrev cX7_phrasesNotEmpty : ByteArray := prog_1_method_40_code
def yX7_phrasesNotEmpty : MethodName := ⟨RX7, "phrasesNotEmpty", "()I"⟩
abbrev cX7_syllablesInAll : ByteArray := prog_1_method_41_code
def yX7_syllablesInAll : MethodName := ⟨RX7, "syllablesInAll", "()I"⟩
abbrev cX7_sheetsNotMissing : ByteArray := prog_1_method_42_code
def yX7_sheetsNotMissing : MethodName := ⟨RX7, "sheetsNotMissing", "()I"⟩
abbrev cX7_lieWithin : ByteArray := prog_1_method_43_code
def yX7_lieWithin : MethodName := ⟨RX7, "lieWithin", "(III)Z"⟩
abbrev cX7_ticksOfOne : ByteArray := prog_1_method_44_code
def yX7_ticksOfOne : MethodName := ⟨RX7, "ticksOfOne", "(I)I"⟩
abbrev cX7_isGap : ByteArray := prog_1_method_45_code
def yX7_isGap : MethodName := ⟨RX7, "isGap", "(I)Z"⟩
abbrev cX7_isHow : ByteArray := prog_1_method_46_code
def yX7_isHow : MethodName := ⟨RX7, "isHow", "(I)Z"⟩
abbrev cX7_closingRefusal : ByteArray := prog_1_method_47_code
def yX7_closingRefusal : MethodName := ⟨RX7, "closingRefusal", "(IIIII)I"⟩
abbrev cX7_wantingIn : ByteArray := prog_1_method_48_code
def yX7_wantingIn : MethodName := ⟨RX7, "wantingIn", "(IIIII)I"⟩
abbrev cX7_lessGaps : ByteArray := prog_1_method_49_code
def yX7_lessGaps : MethodName := ⟨RX7, "lessGaps", "(III)I"⟩
abbrev cX7_isLookedAt : ByteArray := prog_1_method_50_code
def yX7_isLookedAt : MethodName := ⟨RX7, "isLookedAt", "(I)Z"⟩
abbrev cX7_gapsFilling : ByteArray := prog_1_method_51_code
def yX7_gapsFilling : MethodName := ⟨RX7, "gapsFilling", "(II)I"⟩
abbrev cX7_gapFilling : ByteArray := prog_1_method_52_code
def yX7_gapFilling : MethodName := ⟨RX7, "gapFilling", "(III)I"⟩
abbrev cX7_shapeRefusal : ByteArray := prog_1_method_53_code
def yX7_shapeRefusal : MethodName := ⟨RX7, "shapeRefusal", "(III)I"⟩
abbrev cX7_shapeRows : ByteArray := prog_1_method_54_code
def yX7_shapeRows : MethodName := ⟨RX7, "shapeRows", "(LCountBook$Phrase;II)I"⟩
abbrev cX7_shapeRowStart : ByteArray := prog_1_method_55_code
def yX7_shapeRowStart : MethodName := ⟨RX7, "shapeRowStart", "(LCountBook$Phrase;III)I"⟩
abbrev cX7_turnRefusal : ByteArray := prog_1_method_56_code
def yX7_turnRefusal : MethodName := ⟨RX7, "turnRefusal", "(II)I"⟩
def RX8 : String := "CountBookModel"
def TX8 : u_T := fun k => match k with
  | 0 => ("CountBookModel", "limbs", "[I", true)
  | 1 => ("CountBookModel", "kind", "[I", true)
  | 2 => ("CountBookModel", "halves", "[I", true)
  | 3 => ("CountBookModel", "sizes", "[I", true)
  | 4 => ("CountBookModel", "said", "[I", true)
  | 5 => ("CountBookModel", "hands", "[I", true)
  | 6 => ("CountBookModel", "grid", "I", false)
  | 7 => ("CountBookModel", "parts", "I", false)
  | 8 => ("CountBookModel", "pTicks", "[I", true)
  | 9 => ("CountBookModel", "pGap", "[I", true)
  | 10 => ("CountBookModel", "tape", "[I", true)
  | 11 => ("CountBookModel", "taped", "I", false)
  | 12 => ("CountBookModel", "places", "[I", true)
  | 13 => ("CountBookModel", "numbers", "[I", true)
  | 14 => ("CountBookModel", "read", "I", false)
  | 15 => ("CountBookModel", "isWrong", "Z", false)
  | 16 => ("CountBookModel", "written", "[I", true)
  | 17 => ("CountBookModel", "wayTo", "[J", true)
  | 18 => ("CountBookModel", "cutsTo", "[I", true)
  | 19 => ("CountBookModel", "fewest", "[I", true)
  | _ => ("CountBookModel", "played", "[I", true)
def tyX8 : Nat → FieldType := fun k => match k with
  | 0 => .array .int
  | 1 => .array .int
  | 2 => .array .int
  | 3 => .array .int
  | 4 => .array .int
  | 5 => .array .int
  | 6 => .int
  | 7 => .int
  | 8 => .array .int
  | 9 => .array .int
  | 10 => .array .int
  | 11 => .int
  | 12 => .array .int
  | 13 => .array .int
  | 14 => .int
  | 15 => .boolean
  | 16 => .array .int
  | 17 => .array .long
  | 18 => .array .int
  | 19 => .array .int
  | _ => .array .int
abbrev wsX80 : List Cond := u_ws RX8 TX8 21
theorem nmX8 : ∀ a, a < 21 → ∀ b, b < 21 → a ≠ b → (TX8 a).2.1 ≠ (TX8 b).2.1 := by decide +kernel
theorem tyX8_ok : ∀ k, k < 21 → parseFieldDescriptor (TX8 k).2.2.1 = some (tyX8 k) := by decide +kernel
abbrev cX8_init : ByteArray := prog_10_method_1_code
def yX8_init : MethodName := ⟨RX8, "<init>", "()V"⟩
abbrev cX8_isIn : ByteArray := prog_10_method_2_code
def yX8_isIn : MethodName := ⟨RX8, "isIn", "(III)Z"⟩
abbrev cX8_isCycle : ByteArray := prog_10_method_3_code
def yX8_isCycle : MethodName := ⟨RX8, "isCycle", "(I)Z"⟩
abbrev cX8_isPhrase : ByteArray := prog_10_method_4_code
def yX8_isPhrase : MethodName := ⟨RX8, "isPhrase", "(I)Z"⟩
abbrev cX8_isSpeed : ByteArray := prog_10_method_5_code
def yX8_isSpeed : MethodName := ⟨RX8, "isSpeed", "(I)Z"⟩
abbrev cX8_limb : ByteArray := prog_10_method_6_code
def yX8_limb : MethodName := ⟨RX8, "limb", "(III)I"⟩
abbrev cX8_isOf : ByteArray := prog_10_method_7_code
def yX8_isOf : MethodName := ⟨RX8, "isOf", "(III)I"⟩
abbrev cX8_clear : ByteArray := prog_10_method_8_code
def yX8_clear : MethodName := ⟨RX8, "clear", "(I)I"⟩
abbrev cX8_lengthOf : ByteArray := prog_10_method_9_code
def yX8_lengthOf : MethodName := ⟨RX8, "lengthOf", "(I)I"⟩
abbrev cX8_length : ByteArray := prog_10_method_10_code
def yX8_length : MethodName := ⟨RX8, "length", "(I)I"⟩
abbrev cX8_handling : ByteArray := prog_10_method_11_code
def yX8_handling : MethodName := ⟨RX8, "handling", "(II)I"⟩
abbrev cX8_four : ByteArray := prog_10_method_12_code
def yX8_four : MethodName := ⟨RX8, "four", "(I)V"⟩
abbrev cX8_feed : ByteArray := prog_10_method_13_code
def yX8_feed : MethodName := ⟨RX8, "feed", "(III)I"⟩
abbrev cX8_trim : ByteArray := prog_10_method_14_code
def yX8_trim : MethodName := ⟨RX8, "trim", "(I)I"⟩
abbrev cX8_here : ByteArray := prog_10_method_15_code
def yX8_here : MethodName := ⟨RX8, "here", "()I"⟩
abbrev cX8_item : ByteArray := prog_10_method_16_code
def yX8_item : MethodName := ⟨RX8, "item", "(II)I"⟩
abbrev cX8_row : ByteArray := prog_10_method_17_code
def yX8_row : MethodName := ⟨RX8, "row", "(II)I"⟩
abbrev cX8_phrase : ByteArray := prog_10_method_18_code
def yX8_phrase : MethodName := ⟨RX8, "phrase", "(I)I"⟩
abbrev cX8_syllable : ByteArray := prog_10_method_19_code
def yX8_syllable : MethodName := ⟨RX8, "syllable", "(II)I"⟩
abbrev cX8_ticksOf : ByteArray := prog_10_method_20_code
def yX8_ticksOf : MethodName := ⟨RX8, "ticksOf", "(II)I"⟩
abbrev cX8_ticks : ByteArray := prog_10_method_21_code
def yX8_ticks : MethodName := ⟨RX8, "ticks", "(II)I"⟩
abbrev cX8_refused : ByteArray := prog_10_method_22_code
def yX8_refused : MethodName := ⟨RX8, "refused", "(III)I"⟩
abbrev cX8_till : ByteArray := prog_10_method_23_code
def yX8_till : MethodName := ⟨RX8, "till", "(III)J"⟩
abbrev cX8_tillDouble : ByteArray := prog_10_method_24_code
def yX8_tillDouble : MethodName := ⟨RX8, "tillDouble", "(IIII)J"⟩
abbrev cX8_doesLand : ByteArray := prog_10_method_25_code
def yX8_doesLand : MethodName := ⟨RX8, "doesLand", "(IJ)Z"⟩
abbrev cX8_lands : ByteArray := prog_10_method_26_code
def yX8_lands : MethodName := ⟨RX8, "lands", "(IIIII)I"⟩
abbrev cX8_gaps : ByteArray := prog_10_method_27_code
def yX8_gaps : MethodName := ⟨RX8, "gaps", "(IIII)I"⟩
abbrev cX8_gap : ByteArray := prog_10_method_28_code
def yX8_gap : MethodName := ⟨RX8, "gap", "(IIIII)I"⟩
abbrev cX8_start : ByteArray := prog_10_method_29_code
def yX8_start : MethodName := ⟨RX8, "start", "(IIII)I"⟩
abbrev cX8_doubles : ByteArray := prog_10_method_30_code
def yX8_doubles : MethodName := ⟨RX8, "doubles", "(IIII)I"⟩
abbrev cX8_least : ByteArray := prog_10_method_31_code
def yX8_least : MethodName := ⟨RX8, "least", "(IIII)I"⟩
abbrev cX8_grid : ByteArray := prog_10_method_32_code
def yX8_grid : MethodName := ⟨RX8, "grid", "(I)I"⟩
abbrev cX8_rows : ByteArray := prog_10_method_33_code
def yX8_rows : MethodName := ⟨RX8, "rows", "(II)I"⟩
abbrev cX8_rowOf : ByteArray := prog_10_method_34_code
def yX8_rowOf : MethodName := ⟨RX8, "rowOf", "(IIII)I"⟩
abbrev cX8_rowsOf : ByteArray := prog_10_method_35_code
def yX8_rowsOf : MethodName := ⟨RX8, "rowsOf", "(III)I"⟩
abbrev cX8_isShape : ByteArray := prog_10_method_36_code
def yX8_isShape : MethodName := ⟨RX8, "isShape", "(III)Z"⟩
abbrev cX8_shape : ByteArray := prog_10_method_37_code
def yX8_shape : MethodName := ⟨RX8, "shape", "(III)I"⟩
abbrev cX8_shaped : ByteArray := prog_10_method_38_code
def yX8_shaped : MethodName := ⟨RX8, "shaped", "(IIII)I"⟩
abbrev cX8_isSheet : ByteArray := prog_10_method_39_code
def yX8_isSheet : MethodName := ⟨RX8, "isSheet", "(I)Z"⟩
abbrev cX8_standsAt : ByteArray := prog_10_method_40_code
def yX8_standsAt : MethodName := ⟨RX8, "standsAt", "(IIII)I"⟩
abbrev cX8_findTurn : ByteArray := prog_10_method_41_code
def yX8_findTurn : MethodName := ⟨RX8, "findTurn", "(II)V"⟩
abbrev cX8_ways : ByteArray := prog_10_method_42_code
def yX8_ways : MethodName := ⟨RX8, "ways", "(II)I"⟩
abbrev cX8_cuts : ByteArray := prog_10_method_43_code
def yX8_cuts : MethodName := ⟨RX8, "cuts", "(II)I"⟩
abbrev cX8_hand : ByteArray := prog_10_method_44_code
def yX8_hand : MethodName := ⟨RX8, "hand", "(II)I"⟩
abbrev cX8_handOf : ByteArray := prog_10_method_45_code
def yX8_handOf : MethodName := ⟨RX8, "handOf", "(II)I"⟩
abbrev cX8_mayBe : ByteArray := prog_10_method_46_code
def yX8_mayBe : MethodName := ⟨RX8, "mayBe", "(III)Z"⟩
abbrev cX8_strain : ByteArray := prog_10_method_47_code
def yX8_strain : MethodName := ⟨RX8, "strain", "(II)I"⟩
abbrev cX8_findPlay : ByteArray := prog_10_method_48_code
def yX8_findPlay : MethodName := ⟨RX8, "findPlay", "(I)V"⟩
abbrev cX8_strains : ByteArray := prog_10_method_49_code
def yX8_strains : MethodName := ⟨RX8, "strains", "(I)I"⟩
abbrev cX8_plays : ByteArray := prog_10_method_50_code
def yX8_plays : MethodName := ⟨RX8, "plays", "(II)I"⟩
abbrev cX8_join : ByteArray := prog_10_method_51_code
def yX8_join : MethodName := ⟨RX8, "join", "(IIII)I"⟩
abbrev cX8_drop : ByteArray := prog_10_method_52_code
def yX8_drop : MethodName := ⟨RX8, "drop", "()I"⟩
abbrev cX8_endOf : ByteArray := prog_10_method_53_code
def yX8_endOf : MethodName := ⟨RX8, "endOf", "(I)I"⟩
abbrev cX8_account : ByteArray := prog_10_method_54_code
def yX8_account : MethodName := ⟨RX8, "account", "(II)I"⟩
abbrev cX8_landings : ByteArray := prog_10_method_55_code
def yX8_landings : MethodName := ⟨RX8, "landings", "(I)I"⟩
abbrev cX8_home : ByteArray := prog_10_method_56_code
def yX8_home : MethodName := ⟨RX8, "home", "(I)I"⟩
abbrev cX8_sheet : ByteArray := prog_10_method_57_code
def yX8_sheet : MethodName := ⟨RX8, "sheet", "(II)I"⟩
abbrev cX8_mark : ByteArray := prog_10_method_58_code
def yX8_mark : MethodName := ⟨RX8, "mark", "(III)I"⟩
abbrev cX8_copy : ByteArray := prog_10_method_59_code
def yX8_copy : MethodName := ⟨RX8, "copy", "(IIIII)I"⟩
abbrev cX8_count : ByteArray := prog_10_method_60_code
def yX8_count : MethodName := ⟨RX8, "count", "(I)I"⟩
def RJ9 : String := "java/lang/Math"
abbrev cJ9_floorMod_7cf53 : ByteArray := prog_11_method_50_code
def yJ9_floorMod_7cf53 : MethodName := ⟨RJ9, "floorMod", "(II)I"⟩
abbrev cJ9_max_7cf53 : ByteArray := prog_11_method_65_code
def yJ9_max_7cf53 : MethodName := ⟨RJ9, "max", "(II)I"⟩
abbrev cJ9_min_7cf53 : ByteArray := prog_11_method_69_code
def yJ9_min_7cf53 : MethodName := ⟨RJ9, "min", "(II)I"⟩
abbrev cJ9_min_f86c9 : ByteArray := prog_11_method_70_code
def yJ9_min_f86c9 : MethodName := ⟨RJ9, "min", "(JJ)J"⟩
def RL : String := "CountBookLaw"
abbrev cL_law : ByteArray := code
def wsL_law_r1 : List Cond := [Cond.classLink RL 7 RX7, Cond.instantiable RX7 8, Cond.initialized RX7, Cond.classLink RL 10 RX8, Cond.instantiable RX8 21, Cond.initialized RX8, Cond.methodLink RL 9 yX7_init, Cond.instanceMethod yX7_init, Cond.code yX7_init cX7_init 2 none, Cond.methodLink RX7 1 objectInit, Cond.instanceMethod objectInit, Cond.code objectInit ⟨#[0xb1]⟩ 1 none, Cond.classLink RX7 7 RX0, Cond.fieldLink RX7 9 "CountBook" "cycles" "[LCountBook$Cycle;", Cond.classLink RX7 15 RX2, Cond.fieldLink RX7 17 "CountBook" "phrases" "[LCountBook$Phrase;", Cond.classLink RX7 21 RX3, Cond.fieldLink RX7 23 "CountBook" "sheets" "[LCountBook$Sheet;", Cond.classLink RX7 27 RX5, Cond.instantiable RX5 5, Cond.initialized RX5, Cond.fieldLink RX7 30 "CountBook" "tape" "LCountBook$Tape;", Cond.classLink RX7 34 RX6, Cond.instantiable RX6 2]
def wsL_law_r2 : List Cond := [Cond.initialized RX6, Cond.fieldLink RX7 37 "CountBook" "turns" "LCountBook$Turns;", Cond.classLink RX7 41 RX1, Cond.instantiable RX1 3, Cond.initialized RX1, Cond.fieldLink RX7 44 "CountBook" "hands" "LCountBook$Hands;", Cond.classLink RX7 48 RX4, Cond.instantiable RX4 3, Cond.initialized RX4, Cond.fieldLink RX7 51 "CountBook" "solo" "LCountBook$Solo;", Cond.fieldLink RX7 55 "CountBook" "gridTicks" "I", Cond.instantiable RX0 3, Cond.initialized RX0, Cond.instantiable RX2 2, Cond.initialized RX2, Cond.instantiable RX3 2, Cond.initialized RX3, Cond.instanceMethod yX5_init, Cond.code yX5_init cX5_init 1 none, Cond.methodLink RX5 3 objectInit, Cond.arrayClass .byte, Cond.fieldLink RX5 11 "CountBook$Tape" "bytes" "[B", Cond.fieldLink RX5 15 "CountBook$Tape" "size" "I", Cond.fieldLink RX5 21 "CountBook$Tape" "spoken" "[B"]
def wsL_law_r3 : List Cond := [Cond.arrayClass .int, Cond.fieldLink RX5 24 "CountBook$Tape" "openedAt" "[I", Cond.fieldLink RX5 28 "CountBook$Tape" "openedTimes" "[I", Cond.instanceMethod yX6_init, Cond.code yX6_init cX6_init 1 none, Cond.methodLink RX6 3 objectInit, Cond.fieldLink RX6 11 "CountBook$Turns" "fits" "[I", Cond.arrayClass .long, Cond.fieldLink RX6 19 "CountBook$Turns" "waysBehind" "[J", Cond.instanceMethod yX1_init, Cond.code yX1_init cX1_init 1 none, Cond.methodLink RX1 3 objectInit, Cond.fieldLink RX1 11 "CountBook$Hands" "handOf" "[I", Cond.fieldLink RX1 17 "CountBook$Hands" "fewestByLeft" "[I", Cond.fieldLink RX1 20 "CountBook$Hands" "fewestByRight" "[I", Cond.instanceMethod yX4_init, Cond.code yX4_init cX4_init 1 none, Cond.methodLink RX4 3 objectInit, Cond.fieldLink RX4 11 "CountBook$Solo" "partTicks" "[I", Cond.fieldLink RX4 15 "CountBook$Solo" "partGaps" "[I", Cond.fieldLink RX4 18 "CountBook$Solo" "size" "I", Cond.instanceMethod yX0_init, Cond.code yX0_init cX0_init 1 none, Cond.methodLink RX0 3 objectInit]
def wsL_law_r4 : List Cond := [Cond.fieldLink RX0 11 "CountBook$Cycle" "kinds" "[I", Cond.fieldLink RX0 15 "CountBook$Cycle" "halves" "[I", Cond.fieldLink RX0 18 "CountBook$Cycle" "size" "I", Cond.instanceMethod yX2_init, Cond.code yX2_init cX2_init 1 none, Cond.methodLink RX2 3 objectInit, Cond.fieldLink RX2 11 "CountBook$Phrase" "row" "[B", Cond.fieldLink RX2 15 "CountBook$Phrase" "size" "I", Cond.instanceMethod yX3_init, Cond.code yX3_init cX3_init 1 none, Cond.methodLink RX3 3 objectInit, Cond.fieldLink RX3 11 "CountBook$Sheet" "row" "[B", Cond.fieldLink RX3 15 "CountBook$Sheet" "places" "I", Cond.methodLink RL 12 yX8_init, Cond.instanceMethod yX8_init, Cond.code yX8_init cX8_init 2 none, Cond.methodLink RX8 1 objectInit, Cond.fieldLink RX8 7 "CountBookModel" "limbs" "[I", Cond.fieldLink RX8 13 "CountBookModel" "kind" "[I", Cond.fieldLink RX8 16 "CountBookModel" "halves" "[I", Cond.fieldLink RX8 19 "CountBookModel" "sizes" "[I", Cond.fieldLink RX8 22 "CountBookModel" "said" "[I", Cond.fieldLink RX8 25 "CountBookModel" "hands" "[I", Cond.fieldLink RX8 28 "CountBookModel" "grid" "I"]
def wsL_law_r5 : List Cond := [Cond.fieldLink RX8 32 "CountBookModel" "pTicks" "[I", Cond.fieldLink RX8 35 "CountBookModel" "pGap" "[I", Cond.fieldLink RX8 38 "CountBookModel" "tape" "[I", Cond.fieldLink RX8 41 "CountBookModel" "places" "[I", Cond.fieldLink RX8 44 "CountBookModel" "numbers" "[I", Cond.fieldLink RX8 47 "CountBookModel" "written" "[I", Cond.fieldLink RX8 50 "CountBookModel" "wayTo" "[J", Cond.fieldLink RX8 54 "CountBookModel" "cutsTo" "[I", Cond.fieldLink RX8 57 "CountBookModel" "fewest" "[I", Cond.fieldLink RX8 60 "CountBookModel" "played" "[I", Cond.methodLink RL 13 yX7_limb, Cond.instanceMethod yX7_limb, Cond.selects RX7 yX7_limb yX7_limb, Cond.code yX7_limb cX7_limb 5 (some .int), Cond.constant RX7 70 (-1000000001), Cond.methodLink RX7 62 yX7_cycleAt, Cond.instanceMethod yX7_cycleAt, Cond.selects RX7 yX7_cycleAt yX7_cycleAt, Cond.code yX7_cycleAt cX7_cycleAt 2 (some (.object "CountBook$Cycle")), Cond.methodLink RX7 66 yX0_isKind, Cond.static yX0_isKind, Cond.code yX0_isKind cX0_isKind 1 (some .boolean), Cond.methodLink RX7 71 yX0_take, Cond.instanceMethod yX0_take]
def wsL_law_r6 : List Cond := [Cond.selects RX0 yX0_take yX0_take, Cond.code yX0_take cX0_take 3 (some .int), Cond.constant RX0 22 (-1000000003), Cond.methodLink RL 17 yX8_limb, Cond.instanceMethod yX8_limb, Cond.selects RX8 yX8_limb yX8_limb, Cond.code yX8_limb cX8_limb 5 (some .int), Cond.constant RX8 71 (-1000000001), Cond.constant RX8 72 (-1000000003), Cond.methodLink RX8 67 yX8_isCycle, Cond.static yX8_isCycle, Cond.code yX8_isCycle cX8_isCycle 1 (some .boolean), Cond.methodLink RX8 63 yX8_isIn, Cond.static yX8_isIn, Cond.code yX8_isIn cX8_isIn 3 (some .boolean), Cond.methodLink RL 18 yX7_isOf, Cond.instanceMethod yX7_isOf, Cond.selects RX7 yX7_isOf yX7_isOf, Cond.code yX7_isOf cX7_isOf 5 (some .int), Cond.fieldLink RX7 75 "CountBook$Cycle" "size" "I", Cond.methodLink RX7 78 yX0_limbIs, Cond.instanceMethod yX0_limbIs, Cond.selects RX0 yX0_limbIs yX0_limbIs, Cond.code yX0_limbIs cX0_limbIs 3 (some .boolean)]
def wsL_law_r7 : List Cond := [Cond.methodLink RX0 23 yX0_isUnder, Cond.static yX0_isUnder, Cond.code yX0_isUnder cX0_isUnder 2 (some .boolean), Cond.methodLink RL 21 yX8_isOf, Cond.instanceMethod yX8_isOf, Cond.selects RX8 yX8_isOf yX8_isOf, Cond.code yX8_isOf cX8_isOf 5 (some .int), Cond.methodLink RL 22 yX7_clear, Cond.instanceMethod yX7_clear, Cond.selects RX7 yX7_clear yX7_clear, Cond.code yX7_clear cX7_clear 4 (some .int), Cond.methodLink RL 26 yX8_clear, Cond.instanceMethod yX8_clear, Cond.selects RX8 yX8_clear yX8_clear, Cond.code yX8_clear cX8_clear 3 (some .int), Cond.methodLink RL 27 yX7_length, Cond.instanceMethod yX7_length, Cond.selects RX7 yX7_length yX7_length, Cond.code yX7_length cX7_length 3 (some .int), Cond.methodLink RX7 82 yX0_allTicks, Cond.instanceMethod yX0_allTicks, Cond.selects RX0 yX0_allTicks yX0_allTicks, Cond.code yX0_allTicks cX0_allTicks 3 (some .int), Cond.methodLink RL 30 yX8_length]
def wsL_law_r8 : List Cond := [Cond.instanceMethod yX8_length, Cond.selects RX8 yX8_length yX8_length, Cond.code yX8_length cX8_length 2 (some .int), Cond.methodLink RX8 73 yX8_lengthOf, Cond.instanceMethod yX8_lengthOf, Cond.selects RX8 yX8_lengthOf yX8_lengthOf, Cond.code yX8_lengthOf cX8_lengthOf 4 (some .int), Cond.methodLink RL 31 yX7_handling, Cond.instanceMethod yX7_handling, Cond.selects RX7 yX7_handling yX7_handling, Cond.code yX7_handling cX7_handling 4 (some .int), Cond.methodLink RX7 86 yX0_handlingAt, Cond.instanceMethod yX0_handlingAt, Cond.selects RX0 yX0_handlingAt yX0_handlingAt, Cond.code yX0_handlingAt cX0_handlingAt 6 (some .int), Cond.constant RX0 31 (-1000000002), Cond.methodLink RX0 27 yX0_allTicks, Cond.methodLink RX0 32 yX0_deedAt, Cond.static yX0_deedAt, Cond.code yX0_deedAt cX0_deedAt 4 (some .int), Cond.methodLink RL 35 yX8_handling, Cond.instanceMethod yX8_handling, Cond.selects RX8 yX8_handling yX8_handling, Cond.code yX8_handling cX8_handling 7 (some .int)]
def wsL_law_r9 : List Cond := [Cond.constant RX8 77 (-1000000002), Cond.methodLink RL 36 yX7_feed, Cond.instanceMethod yX7_feed, Cond.selects RX7 yX7_feed yX7_feed, Cond.code yX7_feed cX7_feed 4 (some .int), Cond.constant RX7 93 (-1000000003), Cond.fieldLink RX7 98 "CountBook$Tape" "size" "I", Cond.methodLink RX7 90 yX5_hasRoomFor, Cond.instanceMethod yX5_hasRoomFor, Cond.selects RX5 yX5_hasRoomFor yX5_hasRoomFor, Cond.code yX5_hasRoomFor cX5_hasRoomFor 2 (some .boolean), Cond.methodLink RX7 94 yX5_write, Cond.instanceMethod yX5_write, Cond.selects RX5 yX5_write yX5_write, Cond.code yX5_write cX5_write 3 none, Cond.methodLink RL 39 yX8_feed, Cond.instanceMethod yX8_feed, Cond.selects RX8 yX8_feed yX8_feed, Cond.code yX8_feed cX8_feed 4 (some .int), Cond.fieldLink RX8 78 "CountBookModel" "taped" "I", Cond.methodLink RX8 81 yX8_four, Cond.instanceMethod yX8_four, Cond.selects RX8 yX8_four yX8_four, Cond.code yX8_four cX8_four 3 none]
def wsL_law_r10 : List Cond := [Cond.methodLink RL 40 yX7_trim, Cond.instanceMethod yX7_trim, Cond.selects RX7 yX7_trim yX7_trim, Cond.code yX7_trim cX7_trim 2 (some .int), Cond.methodLink RL 43 yX8_trim, Cond.instanceMethod yX8_trim, Cond.selects RX8 yX8_trim yX8_trim, Cond.code yX8_trim cX8_trim 2 (some .int), Cond.methodLink RL 44 yX7_phrase, Cond.instanceMethod yX7_phrase, Cond.selects RX7 yX7_phrase yX7_phrase, Cond.code yX7_phrase cX7_phrase 4 (some .int), Cond.methodLink RX7 99 yX7_phraseAt, Cond.instanceMethod yX7_phraseAt, Cond.selects RX7 yX7_phraseAt yX7_phraseAt, Cond.code yX7_phraseAt cX7_phraseAt 2 (some (.object "CountBook$Phrase")), Cond.methodLink RX7 103 yX5_readInto, Cond.instanceMethod yX5_readInto, Cond.selects RX5 yX5_readInto yX5_readInto, Cond.code yX5_readInto cX5_readInto 4 (some .int), Cond.constant RX5 38 (-1000000003), Cond.fieldLink RX5 39 "CountBook$Phrase" "row" "[B", Cond.methodLink RX5 42 arraycopyName, Cond.native arraycopyName]
def wsL_law_r11 : List Cond := [Cond.static arraycopyName, Cond.initialized "java/lang/System", Cond.fieldLink RX5 48 "CountBook$Phrase" "size" "I", Cond.methodLink RX5 31 yX5_faultPlace, Cond.instanceMethod yX5_faultPlace, Cond.selects RX5 yX5_faultPlace yX5_faultPlace, Cond.code yX5_faultPlace cX5_faultPlace 5 (some .int), Cond.methodLink RX5 49 yX5_isTimes, Cond.static yX5_isTimes, Cond.code yX5_isTimes cX5_isTimes 1 (some .boolean), Cond.methodLink RX5 53 yX5_syllableOf, Cond.static yX5_syllableOf, Cond.code yX5_syllableOf cX5_syllableOf 1 (some .int), Cond.methodLink RX5 35 yX5_speak, Cond.instanceMethod yX5_speak, Cond.selects RX5 yX5_speak yX5_speak, Cond.code yX5_speak cX5_speak 6 (some .int), Cond.methodLink RX5 57 Lib.Math.min.name, Cond.static Lib.Math.min.name, Cond.initialized "java/lang/Math", Cond.code Lib.Math.min.name Lib.Math.min.code 2 (some .int), Cond.methodLink RX5 63 yX5_sayAgain, Cond.instanceMethod yX5_sayAgain, Cond.selects RX5 yX5_sayAgain yX5_sayAgain]
def wsL_law_r12 : List Cond := [Cond.code yX5_sayAgain cX5_sayAgain 7 (some .int), Cond.methodLink RL 47 yX8_phrase, Cond.instanceMethod yX8_phrase, Cond.selects RX8 yX8_phrase yX8_phrase, Cond.code yX8_phrase cX8_phrase 6 (some .int), Cond.fieldLink RX8 85 "CountBookModel" "read" "I", Cond.fieldLink RX8 96 "CountBookModel" "isWrong" "Z", Cond.methodLink RX8 92 yX8_row, Cond.instanceMethod yX8_row, Cond.selects RX8 yX8_row yX8_row, Cond.code yX8_row cX8_row 6 (some .int), Cond.methodLink RX8 100 yX8_item, Cond.instanceMethod yX8_item, Cond.selects RX8 yX8_item yX8_item, Cond.methodLink RX8 88 yX8_here, Cond.instanceMethod yX8_here, Cond.selects RX8 yX8_here yX8_here, Cond.code yX8_here cX8_here 1 (some .int), Cond.code yX8_item cX8_item 6 (some .int), Cond.methodLink RX8 103 yX8_isPhrase, Cond.static yX8_isPhrase, Cond.code yX8_isPhrase cX8_isPhrase 1 (some .boolean), Cond.methodLink RL 48 yX7_syllable, Cond.instanceMethod yX7_syllable]
def wsL_law_r13 : List Cond := [Cond.selects RX7 yX7_syllable yX7_syllable, Cond.code yX7_syllable cX7_syllable 4 (some .int), Cond.methodLink RX7 107 yX2_at, Cond.instanceMethod yX2_at, Cond.selects RX2 yX2_at yX2_at, Cond.code yX2_at cX2_at 2 (some .int), Cond.constant RX2 19 (-1000000005), Cond.methodLink RL 51 yX8_syllable, Cond.instanceMethod yX8_syllable, Cond.selects RX8 yX8_syllable yX8_syllable, Cond.code yX8_syllable cX8_syllable 3 (some .int), Cond.constant RX8 106 (-1000000005), Cond.methodLink RL 52 yX7_ticks, Cond.instanceMethod yX7_ticks, Cond.selects RX7 yX7_ticks yX7_ticks, Cond.code yX7_ticks cX7_ticks 5 (some .int), Cond.fieldLink RX7 113 "CountBook$Phrase" "size" "I", Cond.methodLink RX7 110 yX7_ticksOfOne, Cond.static yX7_ticksOfOne, Cond.code yX7_ticksOfOne cX7_ticksOfOne 1 (some .int), Cond.methodLink RL 55 yX8_ticks, Cond.instanceMethod yX8_ticks, Cond.selects RX8 yX8_ticks yX8_ticks, Cond.code yX8_ticks cX8_ticks 3 (some .int)]
def wsL_law_r14 : List Cond := [Cond.methodLink RX8 107 yX8_isSpeed, Cond.static yX8_isSpeed, Cond.code yX8_isSpeed cX8_isSpeed 1 (some .boolean), Cond.methodLink RX8 110 yX8_ticksOf, Cond.instanceMethod yX8_ticksOf, Cond.selects RX8 yX8_ticksOf yX8_ticksOf, Cond.code yX8_ticksOf cX8_ticksOf 3 (some .int), Cond.methodLink RL 56 yX7_lands, Cond.instanceMethod yX7_lands, Cond.selects RX7 yX7_lands yX7_lands, Cond.code yX7_lands cX7_lands 8 (some .int), Cond.methodLink RX7 114 yX7_closingRefusal, Cond.instanceMethod yX7_closingRefusal, Cond.selects RX7 yX7_closingRefusal yX7_closingRefusal, Cond.code yX7_closingRefusal cX7_closingRefusal 8 (some .int), Cond.constant RX7 163 (-1000000002), Cond.methodLink RX7 233 yX7_isHow, Cond.static yX7_isHow, Cond.code yX7_isHow cX7_isHow 1 (some .boolean), Cond.methodLink RX7 171 yX7_isGap, Cond.static yX7_isGap, Cond.code yX7_isGap cX7_isGap 1 (some .boolean), Cond.methodLink RX7 118 yX7_wantingIn, Cond.instanceMethod yX7_wantingIn]
def wsL_law_r15 : List Cond := [Cond.selects RX7 yX7_wantingIn yX7_wantingIn, Cond.code yX7_wantingIn cX7_wantingIn 10 (some .int), Cond.methodLink RX7 121 yX7_lengthOf, Cond.instanceMethod yX7_lengthOf, Cond.selects RX7 yX7_lengthOf yX7_lengthOf, Cond.code yX7_lengthOf cX7_lengthOf 3 (some .int), Cond.methodLink RX7 185 yJ9_floorMod_7cf53, Cond.static yJ9_floorMod_7cf53, Cond.initialized RJ9, Cond.code yJ9_floorMod_7cf53 cJ9_floorMod_7cf53 3 (some .int), Cond.methodLink RX7 124 yX7_lessGaps, Cond.static yX7_lessGaps, Cond.code yX7_lessGaps cX7_lessGaps 3 (some .int), Cond.methodLink RL 60 yX8_lands, Cond.instanceMethod yX8_lands, Cond.selects RX8 yX8_lands yX8_lands, Cond.code yX8_lands cX8_lands 7 (some .int), Cond.methodLink RX8 121 yX8_refused, Cond.instanceMethod yX8_refused, Cond.selects RX8 yX8_refused yX8_refused, Cond.code yX8_refused cX8_refused 4 (some .int), Cond.methodLink RX8 125 yX8_till, Cond.instanceMethod yX8_till, Cond.selects RX8 yX8_till yX8_till]
def wsL_law_r16 : List Cond := [Cond.code yX8_till cX8_till 6 (some .long), Cond.constantLong RX8 113 (3), Cond.constantLong RX8 115 (2), Cond.methodLink RX8 129 yX8_doesLand, Cond.instanceMethod yX8_doesLand, Cond.selects RX8 yX8_doesLand yX8_doesLand, Cond.code yX8_doesLand cX8_doesLand 4 (some .boolean), Cond.methodLink RL 61 yX7_gaps, Cond.instanceMethod yX7_gaps, Cond.selects RX7 yX7_gaps yX7_gaps, Cond.code yX7_gaps cX7_gaps 6 (some .int), Cond.methodLink RX7 128 yX7_gapsFilling, Cond.instanceMethod yX7_gapsFilling, Cond.selects RX7 yX7_gapsFilling yX7_gapsFilling, Cond.code yX7_gapsFilling cX7_gapsFilling 6 (some .int), Cond.methodLink RX7 236 yX7_isLookedAt, Cond.instanceMethod yX7_isLookedAt, Cond.selects RX7 yX7_isLookedAt yX7_isLookedAt, Cond.code yX7_isLookedAt cX7_isLookedAt 2 (some .boolean), Cond.methodLink RL 65 yX8_gaps, Cond.instanceMethod yX8_gaps, Cond.selects RX8 yX8_gaps yX8_gaps, Cond.code yX8_gaps cX8_gaps 8 (some .int), Cond.methodLink RL 66 yX7_gap]
def wsL_law_r17 : List Cond := [Cond.instanceMethod yX7_gap, Cond.selects RX7 yX7_gap yX7_gap, Cond.code yX7_gap cX7_gap 7 (some .int), Cond.methodLink RX7 131 yX7_gapFilling, Cond.instanceMethod yX7_gapFilling, Cond.selects RX7 yX7_gapFilling yX7_gapFilling, Cond.code yX7_gapFilling cX7_gapFilling 7 (some .int), Cond.constant RX7 134 (-1000000005), Cond.methodLink RL 69 yX8_gap, Cond.instanceMethod yX8_gap, Cond.selects RX8 yX8_gap yX8_gap, Cond.code yX8_gap cX8_gap 9 (some .int), Cond.methodLink RL 70 yX7_start, Cond.instanceMethod yX7_start, Cond.selects RX7 yX7_start yX7_start, Cond.code yX7_start cX7_start 7 (some .int), Cond.methodLink RL 73 yX8_start, Cond.instanceMethod yX8_start, Cond.selects RX8 yX8_start yX8_start, Cond.code yX8_start cX8_start 7 (some .int), Cond.methodLink RL 74 yX7_doubles, Cond.instanceMethod yX7_doubles, Cond.selects RX7 yX7_doubles yX7_doubles, Cond.code yX7_doubles cX7_doubles 10 (some .int)]
def wsL_law_r18 : List Cond := [Cond.methodLink RL 77 yX8_doubles, Cond.instanceMethod yX8_doubles, Cond.selects RX8 yX8_doubles yX8_doubles, Cond.code yX8_doubles cX8_doubles 9 (some .int), Cond.methodLink RX8 133 yX8_tillDouble, Cond.instanceMethod yX8_tillDouble, Cond.selects RX8 yX8_tillDouble yX8_tillDouble, Cond.code yX8_tillDouble cX8_tillDouble 7 (some .long), Cond.constantLong RX8 117 (9), Cond.constantLong RX8 119 (6), Cond.methodLink RL 78 yX7_least, Cond.instanceMethod yX7_least, Cond.selects RX7 yX7_least yX7_least, Cond.code yX7_least cX7_least 12 (some .int), Cond.methodLink RL 81 yX8_least, Cond.instanceMethod yX8_least, Cond.selects RX8 yX8_least yX8_least, Cond.code yX8_least cX8_least 10 (some .int), Cond.methodLink RL 82 yX7_grid, Cond.instanceMethod yX7_grid, Cond.selects RX7 yX7_grid yX7_grid, Cond.code yX7_grid cX7_grid 3 (some .int), Cond.methodLink RL 85 yX8_grid, Cond.instanceMethod yX8_grid]
def wsL_law_r19 : List Cond := [Cond.selects RX8 yX8_grid yX8_grid, Cond.code yX8_grid cX8_grid 3 (some .int), Cond.methodLink RL 86 yX7_shape, Cond.instanceMethod yX7_shape, Cond.selects RX7 yX7_shape yX7_shape, Cond.code yX7_shape cX7_shape 9 (some .int), Cond.methodLink RX7 135 yX7_shapeRefusal, Cond.instanceMethod yX7_shapeRefusal, Cond.selects RX7 yX7_shapeRefusal yX7_shapeRefusal, Cond.code yX7_shapeRefusal cX7_shapeRefusal 5 (some .int), Cond.methodLink RX7 138 yX7_shapeRows, Cond.static yX7_shapeRows, Cond.code yX7_shapeRows cX7_shapeRows 4 (some .int), Cond.methodLink RX7 239 yX2_rowsBy, Cond.instanceMethod yX2_rowsBy, Cond.selects RX2 yX2_rowsBy yX2_rowsBy, Cond.code yX2_rowsBy cX2_rowsBy 2 (some .int), Cond.methodLink RX7 142 yX7_shapeRowStart, Cond.static yX7_shapeRowStart, Cond.code yX7_shapeRowStart cX7_shapeRowStart 5 (some .int), Cond.methodLink RL 89 yX8_shape, Cond.instanceMethod yX8_shape, Cond.selects RX8 yX8_shape yX8_shape, Cond.code yX8_shape cX8_shape 6 (some .int)]
def wsL_law_r20 : List Cond := [Cond.methodLink RX8 140 yX8_isShape, Cond.static yX8_isShape, Cond.code yX8_isShape cX8_isShape 3 (some .boolean), Cond.methodLink RX8 143 yX8_rowsOf, Cond.instanceMethod yX8_rowsOf, Cond.selects RX8 yX8_rowsOf yX8_rowsOf, Cond.code yX8_rowsOf cX8_rowsOf 5 (some .int), Cond.methodLink RX8 137 yX8_rows, Cond.instanceMethod yX8_rows, Cond.selects RX8 yX8_rows yX8_rows, Cond.code yX8_rows cX8_rows 3 (some .int), Cond.methodLink RX8 146 yX8_rowOf, Cond.instanceMethod yX8_rowOf, Cond.selects RX8 yX8_rowOf yX8_rowOf, Cond.code yX8_rowOf cX8_rowOf 6 (some .int), Cond.methodLink RL 90 yX7_shaped, Cond.instanceMethod yX7_shaped, Cond.selects RX7 yX7_shaped yX7_shaped, Cond.code yX7_shaped cX7_shaped 11 (some .int), Cond.methodLink RL 93 yX8_shaped, Cond.instanceMethod yX8_shaped, Cond.selects RX8 yX8_shaped yX8_shaped, Cond.code yX8_shaped cX8_shaped 8 (some .int), Cond.methodLink RL 94 yX7_ways]
def wsL_law_r21 : List Cond := [Cond.instanceMethod yX7_ways, Cond.selects RX7 yX7_ways yX7_ways, Cond.code yX7_ways cX7_ways 4 (some .int), Cond.methodLink RX7 146 yX7_turnRefusal, Cond.instanceMethod yX7_turnRefusal, Cond.selects RX7 yX7_turnRefusal yX7_turnRefusal, Cond.code yX7_turnRefusal cX7_turnRefusal 4 (some .int), Cond.constant RX7 198 (-1000000011), Cond.methodLink RX7 149 yX7_sheetAt, Cond.instanceMethod yX7_sheetAt, Cond.selects RX7 yX7_sheetAt yX7_sheetAt, Cond.code yX7_sheetAt cX7_sheetAt 2 (some (.object "CountBook$Sheet")), Cond.methodLink RX7 194 yX3_isMissing, Cond.instanceMethod yX3_isMissing, Cond.selects RX3 yX3_isMissing yX3_isMissing, Cond.code yX3_isMissing cX3_isMissing 1 (some .boolean), Cond.methodLink RX7 153 yX6_allWays, Cond.instanceMethod yX6_allWays, Cond.selects RX6 yX6_allWays yX6_allWays, Cond.code yX6_allWays cX6_allWays 7 (some .int), Cond.fieldLink RX6 23 "CountBook$Sheet" "places" "I", Cond.fieldLink RX6 30 "CountBook$Sheet" "row" "[B", Cond.constantLong RX6 42 (1000000000), Cond.methodLink RX6 44 Lib.MathLoose.min_long.x]
def wsL_law_r22 : List Cond := [Cond.static Lib.MathLoose.min_long.x, Cond.code Lib.MathLoose.min_long.x Lib.MathLoose.min_long.code 4 (some .long), Cond.methodLink RX6 27 yX6_forgetFits, Cond.instanceMethod yX6_forgetFits, Cond.selects RX6 yX6_forgetFits yX6_forgetFits, Cond.code yX6_forgetFits cX6_forgetFits 2 none, Cond.methodLink RX6 34 yX6_fitFrom, Cond.instanceMethod yX6_fitFrom, Cond.selects RX6 yX6_fitFrom yX6_fitFrom, Cond.code yX6_fitFrom cX6_fitFrom 4 none, Cond.fieldLink RX6 55 "CountBook$Phrase" "size" "I", Cond.fieldLink RX6 58 "CountBook$Phrase" "row" "[B", Cond.methodLink RX6 38 yX6_waysFrom, Cond.instanceMethod yX6_waysFrom, Cond.selects RX6 yX6_waysFrom yX6_waysFrom, Cond.code yX6_waysFrom cX6_waysFrom 8 (some .long), Cond.methodLink RX6 59 Lib.Math.min.name, Cond.methodLink RL 97 yX8_ways, Cond.instanceMethod yX8_ways, Cond.selects RX8 yX8_ways yX8_ways, Cond.code yX8_ways cX8_ways 3 (some .int), Cond.constant RX8 158 (-1000000011), Cond.methodLink RX8 155 yX8_isSheet, Cond.static yX8_isSheet]
def wsL_law_r23 : List Cond := [Cond.code yX8_isSheet cX8_isSheet 1 (some .boolean), Cond.methodLink RX8 159 yX8_findTurn, Cond.instanceMethod yX8_findTurn, Cond.selects RX8 yX8_findTurn yX8_findTurn, Cond.code yX8_findTurn cX8_findTurn 7 none, Cond.constantLong RX8 153 (1000000000), Cond.methodLink RX8 150 yX8_standsAt, Cond.instanceMethod yX8_standsAt, Cond.selects RX8 yX8_standsAt yX8_standsAt, Cond.code yX8_standsAt cX8_standsAt 9 (some .int), Cond.methodLink RL 98 yX7_cuts, Cond.instanceMethod yX7_cuts, Cond.selects RX7 yX7_cuts yX7_cuts, Cond.code yX7_cuts cX7_cuts 4 (some .int), Cond.methodLink RX7 157 yX6_fewestCuts, Cond.instanceMethod yX6_fewestCuts, Cond.selects RX6 yX6_fewestCuts yX6_fewestCuts, Cond.code yX6_fewestCuts cX6_fewestCuts 6 (some .int), Cond.constant RX6 50 (-1000000005), Cond.methodLink RX6 51 yX6_longestCut, Cond.static yX6_longestCut, Cond.code yX6_longestCut cX6_longestCut 7 (some .int), Cond.methodLink RX6 62 Lib.Math.max.name, Cond.static Lib.Math.max.name]
def wsL_law_r24 : List Cond := [Cond.code Lib.Math.max.name Lib.Math.max.code 2 (some .int), Cond.methodLink RL 101 yX8_cuts, Cond.instanceMethod yX8_cuts, Cond.selects RX8 yX8_cuts yX8_cuts, Cond.code yX8_cuts cX8_cuts 3 (some .int), Cond.methodLink RL 102 yX7_hand, Cond.instanceMethod yX7_hand, Cond.selects RX7 yX7_hand yX7_hand, Cond.code yX7_hand cX7_hand 3 (some .int), Cond.methodLink RX7 160 yX1_change, Cond.instanceMethod yX1_change, Cond.selects RX1 yX1_change yX1_change, Cond.code yX1_change cX1_change 4 (some .int), Cond.constant RX1 23 (-1000000001), Cond.methodLink RL 105 yX8_hand, Cond.instanceMethod yX8_hand, Cond.selects RX8 yX8_hand yX8_hand, Cond.code yX8_hand cX8_hand 4 (some .int), Cond.methodLink RL 106 yX7_strains, Cond.instanceMethod yX7_strains, Cond.selects RX7 yX7_strains yX7_strains, Cond.code yX7_strains cX7_strains 3 (some .int), Cond.methodLink RX7 164 yX1_fewestStrains, Cond.instanceMethod yX1_fewestStrains]
def wsL_law_r25 : List Cond := [Cond.selects RX1 yX1_fewestStrains yX1_fewestStrains, Cond.code yX1_fewestStrains cX1_fewestStrains 2 (some .int), Cond.methodLink RX1 28 Lib.Math.min.name, Cond.methodLink RX1 24 yX1_weigh, Cond.instanceMethod yX1_weigh, Cond.selects RX1 yX1_weigh yX1_weigh, Cond.code yX1_weigh cX1_weigh 3 none, Cond.fieldLink RX1 34 "CountBook$Phrase" "size" "I", Cond.methodLink RX1 38 yX1_usedAt, Cond.instanceMethod yX1_usedAt, Cond.selects RX1 yX1_usedAt yX1_usedAt, Cond.code yX1_usedAt cX1_usedAt 6 (some .int), Cond.methodLink RX1 49 yX2_at, Cond.methodLink RX1 46 yX1_fewestBehind, Cond.instanceMethod yX1_fewestBehind, Cond.selects RX1 yX1_fewestBehind yX1_fewestBehind, Cond.code yX1_fewestBehind cX1_fewestBehind 7 (some .int), Cond.methodLink RX1 42 yX1_strainOf, Cond.static yX1_strainOf, Cond.code yX1_strainOf cX1_strainOf 2 (some .int), Cond.methodLink RL 109 yX8_strains, Cond.instanceMethod yX8_strains, Cond.selects RX8 yX8_strains yX8_strains, Cond.code yX8_strains cX8_strains 4 (some .int)]
def wsL_law_r26 : List Cond := [Cond.methodLink RX8 172 yX8_findPlay, Cond.instanceMethod yX8_findPlay, Cond.selects RX8 yX8_findPlay yX8_findPlay, Cond.code yX8_findPlay cX8_findPlay 8 none, Cond.methodLink RX8 166 yX8_mayBe, Cond.instanceMethod yX8_mayBe, Cond.selects RX8 yX8_mayBe yX8_mayBe, Cond.code yX8_mayBe cX8_mayBe 5 (some .boolean), Cond.methodLink RX8 163 yX8_handOf, Cond.instanceMethod yX8_handOf, Cond.selects RX8 yX8_handOf yX8_handOf, Cond.code yX8_handOf cX8_handOf 4 (some .int), Cond.methodLink RX8 169 yX8_strain, Cond.static yX8_strain, Cond.code yX8_strain cX8_strain 2 (some .int), Cond.methodLink RL 110 yX7_plays, Cond.instanceMethod yX7_plays, Cond.selects RX7 yX7_plays yX7_plays, Cond.code yX7_plays cX7_plays 4 (some .int), Cond.methodLink RX7 167 yX1_handAt, Cond.instanceMethod yX1_handAt, Cond.selects RX1 yX1_handAt yX1_handAt, Cond.code yX1_handAt cX1_handAt 9 (some .int), Cond.constant RX1 45 (-1000000005)]
def wsL_law_r27 : List Cond := [Cond.methodLink RL 113 yX8_plays, Cond.instanceMethod yX8_plays, Cond.selects RX8 yX8_plays yX8_plays, Cond.code yX8_plays cX8_plays 3 (some .int), Cond.methodLink RL 114 yX7_join, Cond.instanceMethod yX7_join, Cond.selects RX7 yX7_join yX7_join, Cond.code yX7_join cX7_join 7 (some .int), Cond.methodLink RX7 174 yX4_take, Cond.instanceMethod yX4_take, Cond.selects RX4 yX4_take yX4_take, Cond.code yX4_take cX4_take 3 (some .int), Cond.constant RX4 22 (-1000000003), Cond.methodLink RL 117 yX8_join, Cond.instanceMethod yX8_join, Cond.selects RX8 yX8_join yX8_join, Cond.code yX8_join cX8_join 5 (some .int), Cond.fieldLink RX8 175 "CountBookModel" "parts" "I", Cond.methodLink RL 118 yX7_drop, Cond.instanceMethod yX7_drop, Cond.selects RX7 yX7_drop yX7_drop, Cond.code yX7_drop cX7_drop 2 (some .int), Cond.fieldLink RX7 175 "CountBook$Solo" "size" "I", Cond.methodLink RL 122 yX8_drop]
def wsL_law_r28 : List Cond := [Cond.instanceMethod yX8_drop, Cond.selects RX8 yX8_drop yX8_drop, Cond.code yX8_drop cX8_drop 2 (some .int), Cond.methodLink RL 123 yX7_account, Cond.instanceMethod yX7_account, Cond.selects RX7 yX7_account yX7_account, Cond.code yX7_account cX7_account 5 (some .int), Cond.methodLink RX7 176 yX4_endOf, Cond.instanceMethod yX4_endOf, Cond.selects RX4 yX4_endOf yX4_endOf, Cond.code yX4_endOf cX4_endOf 4 (some .int), Cond.methodLink RL 126 yX8_account, Cond.instanceMethod yX8_account, Cond.selects RX8 yX8_account yX8_account, Cond.code yX8_account cX8_account 3 (some .int), Cond.methodLink RX8 178 yX8_endOf, Cond.instanceMethod yX8_endOf, Cond.selects RX8 yX8_endOf yX8_endOf, Cond.code yX8_endOf cX8_endOf 4 (some .int), Cond.methodLink RL 127 yX7_landings, Cond.instanceMethod yX7_landings, Cond.selects RX7 yX7_landings yX7_landings, Cond.code yX7_landings cX7_landings 4 (some .int), Cond.methodLink RX7 179 yX4_endsAtOne]
def wsL_law_r29 : List Cond := [Cond.instanceMethod yX4_endsAtOne, Cond.selects RX4 yX4_endsAtOne yX4_endsAtOne, Cond.code yX4_endsAtOne cX4_endsAtOne 5 (some .int), Cond.methodLink RL 130 yX8_landings, Cond.instanceMethod yX8_landings, Cond.selects RX8 yX8_landings yX8_landings, Cond.code yX8_landings cX8_landings 4 (some .int), Cond.methodLink RL 131 yX7_home, Cond.instanceMethod yX7_home, Cond.selects RX7 yX7_home yX7_home, Cond.code yX7_home cX7_home 4 (some .int), Cond.methodLink RX7 182 yX4_endWithoutLastGap, Cond.instanceMethod yX4_endWithoutLastGap, Cond.selects RX4 yX4_endWithoutLastGap yX4_endWithoutLastGap, Cond.code yX4_endWithoutLastGap cX4_endWithoutLastGap 1 (some .int), Cond.methodLink RX4 23 yX4_endOf, Cond.methodLink RL 134 yX8_home, Cond.instanceMethod yX8_home, Cond.selects RX8 yX8_home yX8_home, Cond.code yX8_home cX8_home 3 (some .int), Cond.methodLink RL 135 yX7_sheet, Cond.instanceMethod yX7_sheet, Cond.selects RX7 yX7_sheet yX7_sheet, Cond.code yX7_sheet cX7_sheet 4 (some .int)]
def wsL_law_r30 : List Cond := [Cond.constant RX7 190 (-1000000014), Cond.methodLink RX7 191 yX3_layOut, Cond.instanceMethod yX3_layOut, Cond.selects RX3 yX3_layOut yX3_layOut, Cond.code yX3_layOut cX3_layOut 3 none, Cond.methodLink RL 138 yX8_sheet, Cond.instanceMethod yX8_sheet, Cond.selects RX8 yX8_sheet yX8_sheet, Cond.code yX8_sheet cX8_sheet 4 (some .int), Cond.constant RX8 181 (-1000000014), Cond.methodLink RL 139 yX7_mark, Cond.instanceMethod yX7_mark, Cond.selects RX7 yX7_mark yX7_mark, Cond.code yX7_mark cX7_mark 5 (some .int), Cond.methodLink RX7 199 yX3_change, Cond.instanceMethod yX3_change, Cond.selects RX3 yX3_change yX3_change, Cond.code yX3_change cX3_change 4 (some .int), Cond.constant RX3 19 (-1000000013), Cond.methodLink RL 142 yX8_mark, Cond.instanceMethod yX8_mark, Cond.selects RX8 yX8_mark yX8_mark, Cond.code yX8_mark cX8_mark 5 (some .int), Cond.constant RX8 182 (-1000000013)]
def wsL_law_r31 : List Cond := [Cond.methodLink RL 143 yX7_copy, Cond.instanceMethod yX7_copy, Cond.selects RX7 yX7_copy yX7_copy, Cond.code yX7_copy cX7_copy 9 (some .int), Cond.fieldLink RX7 206 "CountBook$Sheet" "places" "I", Cond.constant RX7 209 (-1000000013), Cond.fieldLink RX7 210 "CountBook$Phrase" "row" "[B", Cond.fieldLink RX7 214 "CountBook$Sheet" "row" "[B", Cond.methodLink RX7 215 arraycopyName, Cond.methodLink RX7 202 yX7_lieWithin, Cond.static yX7_lieWithin, Cond.code yX7_lieWithin cX7_lieWithin 3 (some .boolean), Cond.methodLink RL 146 yX8_copy, Cond.instanceMethod yX8_copy, Cond.selects RX8 yX8_copy yX8_copy, Cond.code yX8_copy cX8_copy 7 (some .int), Cond.methodLink RL 147 yX7_count, Cond.instanceMethod yX7_count, Cond.selects RX7 yX7_count yX7_count, Cond.code yX7_count cX7_count 2 (some .int), Cond.methodLink RX7 221 yX7_limbsInAll, Cond.instanceMethod yX7_limbsInAll, Cond.selects RX7 yX7_limbsInAll yX7_limbsInAll, Cond.code yX7_limbsInAll cX7_limbsInAll 3 (some .int)]
def wsL_law_r32 : List Cond := [Cond.methodLink RX7 224 yX7_phrasesNotEmpty, Cond.instanceMethod yX7_phrasesNotEmpty, Cond.selects RX7 yX7_phrasesNotEmpty yX7_phrasesNotEmpty, Cond.code yX7_phrasesNotEmpty cX7_phrasesNotEmpty 3 (some .int), Cond.methodLink RX7 227 yX7_syllablesInAll, Cond.instanceMethod yX7_syllablesInAll, Cond.selects RX7 yX7_syllablesInAll yX7_syllablesInAll, Cond.code yX7_syllablesInAll cX7_syllablesInAll 3 (some .int), Cond.methodLink RX7 230 yX7_sheetsNotMissing, Cond.instanceMethod yX7_sheetsNotMissing, Cond.selects RX7 yX7_sheetsNotMissing yX7_sheetsNotMissing, Cond.code yX7_sheetsNotMissing cX7_sheetsNotMissing 3 (some .int), Cond.methodLink RL 150 yX8_count, Cond.instanceMethod yX8_count, Cond.selects RX8 yX8_count yX8_count, Cond.code yX8_count cX8_count 4 (some .int)]
def wsL_law : List Cond := (wsL_law_r1 ++ (wsL_law_r2 ++ (wsL_law_r3 ++ (wsL_law_r4 ++ (wsL_law_r5 ++ (wsL_law_r6 ++ (wsL_law_r7 ++ (wsL_law_r8 ++ (wsL_law_r9 ++ (wsL_law_r10 ++ (wsL_law_r11 ++ (wsL_law_r12 ++ (wsL_law_r13 ++ (wsL_law_r14 ++ (wsL_law_r15 ++ (wsL_law_r16 ++ (wsL_law_r17 ++ (wsL_law_r18 ++ (wsL_law_r19 ++ (wsL_law_r20 ++ (wsL_law_r21 ++ (wsL_law_r22 ++ (wsL_law_r23 ++ (wsL_law_r24 ++ (wsL_law_r25 ++ (wsL_law_r26 ++ (wsL_law_r27 ++ (wsL_law_r28 ++ (wsL_law_r29 ++ (wsL_law_r30 ++ (wsL_law_r31 ++ wsL_law_r32))))))))))))))))))))))))))))))) ++ wsX70 ++ wsX80 ++ wsX50 ++ wsX60 ++ wsX10 ++ wsX40 ++ wsX00 ++ wsX20 ++ wsX30 ++ ([] : List Cond)
abbrev vwCl : List vw_C := [(RX0, TX0, 3), (RX1, TX1, 3), (RX2, TX2, 2), (RX3, TX3, 2), (RX4, TX4, 3), (RX5, TX5, 5), (RX6, TX6, 2), (RX7, TX7, 8), (RX8, TX8, 21)]
end
section
theorem dX0_init_0 : decode cX0_init 0 = .ok (.aload_n 0, 1) := by decide +kernel
theorem dX0_init_1 : decode cX0_init 1 = .ok (.invokespecial 3, 3) := by decide +kernel
theorem dX0_init_4 : decode cX0_init 4 = .ok (.aload_n 0, 1) := by decide +kernel
theorem dX0_init_5 : decode cX0_init 5 = .ok (.bipush 12, 2) := by decide +kernel
theorem dX0_init_7 : decode cX0_init 7 = .ok (.newarray .int, 2) := by decide +kernel
theorem dX0_init_9 : decode cX0_init 9 = .ok (.putfield 11, 3) := by decide +kernel
theorem dX0_init_12 : decode cX0_init 12 = .ok (.aload_n 0, 1) := by decide +kernel
theorem dX0_init_13 : decode cX0_init 13 = .ok (.bipush 12, 2) := by decide +kernel
theorem dX0_init_15 : decode cX0_init 15 = .ok (.newarray .int, 2) := by decide +kernel
theorem dX0_init_17 : decode cX0_init 17 = .ok (.putfield 15, 3) := by decide +kernel
theorem dX0_init_20 : decode cX0_init 20 = .ok (.aload_n 0, 1) := by decide +kernel
theorem dX0_init_21 : decode cX0_init 21 = .ok (.iconst 0, 1) := by decide +kernel
theorem dX0_init_22 : decode cX0_init 22 = .ok (.putfield 18, 3) := by decide +kernel
theorem dX0_init_25 : decode cX0_init 25 = .ok (.return_, 1) := by decide +kernel
theorem dX0_isKind_0 : decode cX0_isKind 0 = .ok (.iload_n 0, 1) := by decide +kernel
theorem dX0_isKind_1 : decode cX0_isKind 1 = .ok (.ifCond .lt 12, 3) := by decide +kernel
theorem dX0_isKind_4 : decode cX0_isKind 4 = .ok (.iload_n 0, 1) := by decide +kernel
theorem dX0_isKind_5 : decode cX0_isKind 5 = .ok (.iconst 3, 1) := by decide +kernel
theorem dX0_isKind_6 : decode cX0_isKind 6 = .ok (.if_icmp .gt 7, 3) := by decide +kernel
theorem dX0_isKind_9 : decode cX0_isKind 9 = .ok (.iconst 1, 1) := by decide +kernel
theorem dX0_isKind_10 : decode cX0_isKind 10 = .ok (.goto 4, 3) := by decide +kernel
theorem dX0_isKind_13 : decode cX0_isKind 13 = .ok (.iconst 0, 1) := by decide +kernel
theorem dX0_isKind_14 : decode cX0_isKind 14 = .ok (.ireturn, 1) := by decide +kernel
theorem dX0_isUnder_0 : decode cX0_isUnder 0 = .ok (.iload_n 0, 1) := by decide +kernel
theorem dX0_isUnder_1 : decode cX0_isUnder 1 = .ok (.iload_n 1, 1) := by decide +kernel
theorem dX0_isUnder_2 : decode cX0_isUnder 2 = .ok (.if_icmp .eq 17, 3) := by decide +kernel
theorem dX0_isUnder_5 : decode cX0_isUnder 5 = .ok (.iload_n 1, 1) := by decide +kernel
theorem dX0_isUnder_6 : decode cX0_isUnder 6 = .ok (.ifCond .eq 13, 3) := by decide +kernel
theorem dX0_isUnder_9 : decode cX0_isUnder 9 = .ok (.iload_n 0, 1) := by decide +kernel
theorem dX0_isUnder_10 : decode cX0_isUnder 10 = .ok (.iconst 3, 1) := by decide +kernel
theorem dX0_isUnder_11 : decode cX0_isUnder 11 = .ok (.if_icmp .ne 12, 3) := by decide +kernel
theorem dX0_isUnder_14 : decode cX0_isUnder 14 = .ok (.iload_n 1, 1) := by decide +kernel
theorem dX0_isUnder_15 : decode cX0_isUnder 15 = .ok (.iconst 1, 1) := by decide +kernel
theorem dX0_isUnder_16 : decode cX0_isUnder 16 = .ok (.if_icmp .ne 7, 3) := by decide +kernel
theorem dX0_isUnder_19 : decode cX0_isUnder 19 = .ok (.iconst 1, 1) := by decide +kernel
theorem dX0_isUnder_20 : decode cX0_isUnder 20 = .ok (.goto 4, 3) := by decide +kernel
theorem dX0_isUnder_23 : decode cX0_isUnder 23 = .ok (.iconst 0, 1) := by decide +kernel
theorem dX0_isUnder_24 : decode cX0_isUnder 24 = .ok (.ireturn, 1) := by decide +kernel
theorem dX0_take_0 : decode cX0_take 0 = .ok (.aload_n 0, 1) := by decide +kernel
theorem dX0_take_1 : decode cX0_take 1 = .ok (.getfield 18, 3) := by decide +kernel
theorem dX0_take_4 : decode cX0_take 4 = .ok (.bipush 12, 2) := by decide +kernel
theorem dX0_take_6 : decode cX0_take 6 = .ok (.if_icmp .lt 6, 3) := by decide +kernel
theorem dX0_take_9 : decode cX0_take 9 = .ok (.ldc 22, 2) := by decide +kernel
theorem dX0_take_11 : decode cX0_take 11 = .ok (.ireturn, 1) := by decide +kernel
theorem dX0_take_12 : decode cX0_take 12 = .ok (.aload_n 0, 1) := by decide +kernel
theorem dX0_take_13 : decode cX0_take 13 = .ok (.getfield 11, 3) := by decide +kernel
theorem dX0_take_16 : decode cX0_take 16 = .ok (.aload_n 0, 1) := by decide +kernel
theorem dX0_take_17 : decode cX0_take 17 = .ok (.getfield 18, 3) := by decide +kernel
theorem dX0_take_20 : decode cX0_take 20 = .ok (.iload_n 1, 1) := by decide +kernel
theorem dX0_take_21 : decode cX0_take 21 = .ok (.iastore, 1) := by decide +kernel
theorem dX0_take_22 : decode cX0_take 22 = .ok (.aload_n 0, 1) := by decide +kernel
theorem dX0_take_23 : decode cX0_take 23 = .ok (.getfield 15, 3) := by decide +kernel
theorem dX0_take_26 : decode cX0_take 26 = .ok (.aload_n 0, 1) := by decide +kernel
theorem dX0_take_27 : decode cX0_take 27 = .ok (.getfield 18, 3) := by decide +kernel
theorem dX0_take_30 : decode cX0_take 30 = .ok (.iload_n 2, 1) := by decide +kernel
theorem dX0_take_31 : decode cX0_take 31 = .ok (.iastore, 1) := by decide +kernel
theorem dX0_take_32 : decode cX0_take 32 = .ok (.aload_n 0, 1) := by decide +kernel
theorem dX0_take_33 : decode cX0_take 33 = .ok (.dup, 1) := by decide +kernel
theorem dX0_take_34 : decode cX0_take 34 = .ok (.getfield 18, 3) := by decide +kernel
theorem dX0_take_37 : decode cX0_take 37 = .ok (.iconst 1, 1) := by decide +kernel
theorem dX0_take_38 : decode cX0_take 38 = .ok (.iadd, 1) := by decide +kernel
theorem dX0_take_39 : decode cX0_take 39 = .ok (.putfield 18, 3) := by decide +kernel
theorem dX0_take_42 : decode cX0_take 42 = .ok (.aload_n 0, 1) := by decide +kernel
theorem dX0_take_43 : decode cX0_take 43 = .ok (.getfield 18, 3) := by decide +kernel
theorem dX0_take_46 : decode cX0_take 46 = .ok (.ireturn, 1) := by decide +kernel
theorem dX0_limbIs_0 : decode cX0_limbIs 0 = .ok (.iload_n 1, 1) := by decide +kernel
theorem dX0_limbIs_1 : decode cX0_limbIs 1 = .ok (.ifCond .lt 28, 3) := by decide +kernel
theorem dX0_limbIs_4 : decode cX0_limbIs 4 = .ok (.iload_n 1, 1) := by decide +kernel
theorem dX0_limbIs_5 : decode cX0_limbIs 5 = .ok (.aload_n 0, 1) := by decide +kernel
theorem dX0_limbIs_6 : decode cX0_limbIs 6 = .ok (.getfield 18, 3) := by decide +kernel
theorem dX0_limbIs_9 : decode cX0_limbIs 9 = .ok (.if_icmp .ge 20, 3) := by decide +kernel
theorem dX0_limbIs_12 : decode cX0_limbIs 12 = .ok (.aload_n 0, 1) := by decide +kernel
theorem dX0_limbIs_13 : decode cX0_limbIs 13 = .ok (.getfield 11, 3) := by decide +kernel
theorem dX0_limbIs_16 : decode cX0_limbIs 16 = .ok (.iload_n 1, 1) := by decide +kernel
theorem dX0_limbIs_17 : decode cX0_limbIs 17 = .ok (.iaload, 1) := by decide +kernel
theorem dX0_limbIs_18 : decode cX0_limbIs 18 = .ok (.iload_n 2, 1) := by decide +kernel
theorem dX0_limbIs_19 : decode cX0_limbIs 19 = .ok (.invokestatic 23, 3) := by decide +kernel
theorem dX0_limbIs_22 : decode cX0_limbIs 22 = .ok (.ifCond .eq 7, 3) := by decide +kernel
theorem dX0_limbIs_25 : decode cX0_limbIs 25 = .ok (.iconst 1, 1) := by decide +kernel
theorem dX0_limbIs_26 : decode cX0_limbIs 26 = .ok (.goto 4, 3) := by decide +kernel
theorem dX0_limbIs_29 : decode cX0_limbIs 29 = .ok (.iconst 0, 1) := by decide +kernel
theorem dX0_limbIs_30 : decode cX0_limbIs 30 = .ok (.ireturn, 1) := by decide +kernel
theorem dX0_allTicks_0 : decode cX0_allTicks 0 = .ok (.iconst 0, 1) := by decide +kernel
theorem dX0_allTicks_1 : decode cX0_allTicks 1 = .ok (.istore_n 1, 1) := by decide +kernel
theorem dX0_allTicks_2 : decode cX0_allTicks 2 = .ok (.iconst 0, 1) := by decide +kernel
theorem dX0_allTicks_3 : decode cX0_allTicks 3 = .ok (.istore_n 2, 1) := by decide +kernel
theorem dX0_allTicks_4 : decode cX0_allTicks 4 = .ok (.iload_n 2, 1) := by decide +kernel
theorem dX0_allTicks_5 : decode cX0_allTicks 5 = .ok (.aload_n 0, 1) := by decide +kernel
theorem dX0_allTicks_6 : decode cX0_allTicks 6 = .ok (.getfield 18, 3) := by decide +kernel
theorem dX0_allTicks_9 : decode cX0_allTicks 9 = .ok (.if_icmp .ge 21, 3) := by decide +kernel
theorem dX0_allTicks_12 : decode cX0_allTicks 12 = .ok (.iload_n 1, 1) := by decide +kernel
theorem dX0_allTicks_13 : decode cX0_allTicks 13 = .ok (.aload_n 0, 1) := by decide +kernel
theorem dX0_allTicks_14 : decode cX0_allTicks 14 = .ok (.getfield 15, 3) := by decide +kernel
theorem dX0_allTicks_17 : decode cX0_allTicks 17 = .ok (.iload_n 2, 1) := by decide +kernel
theorem dX0_allTicks_18 : decode cX0_allTicks 18 = .ok (.iaload, 1) := by decide +kernel
theorem dX0_allTicks_19 : decode cX0_allTicks 19 = .ok (.bipush 12, 2) := by decide +kernel
theorem dX0_allTicks_21 : decode cX0_allTicks 21 = .ok (.imul, 1) := by decide +kernel
theorem dX0_allTicks_22 : decode cX0_allTicks 22 = .ok (.iadd, 1) := by decide +kernel
theorem dX0_allTicks_23 : decode cX0_allTicks 23 = .ok (.istore_n 1, 1) := by decide +kernel
theorem dX0_allTicks_24 : decode cX0_allTicks 24 = .ok (.iinc 2 1, 3) := by decide +kernel
theorem dX0_allTicks_27 : decode cX0_allTicks 27 = .ok (.goto (-23), 3) := by decide +kernel
theorem dX0_allTicks_30 : decode cX0_allTicks 30 = .ok (.iload_n 1, 1) := by decide +kernel
theorem dX0_allTicks_31 : decode cX0_allTicks 31 = .ok (.ireturn, 1) := by decide +kernel
theorem dX0_handlingAt_0 : decode cX0_handlingAt 0 = .ok (.aload_n 0, 1) := by decide +kernel
theorem dX0_handlingAt_1 : decode cX0_handlingAt 1 = .ok (.invokevirtual 27, 3) := by decide +kernel
theorem dX0_handlingAt_4 : decode cX0_handlingAt 4 = .ok (.istore_n 2, 1) := by decide +kernel
theorem dX0_handlingAt_5 : decode cX0_handlingAt 5 = .ok (.iload_n 2, 1) := by decide +kernel
theorem dX0_handlingAt_6 : decode cX0_handlingAt 6 = .ok (.ifCond .gt 6, 3) := by decide +kernel
theorem dX0_handlingAt_9 : decode cX0_handlingAt 9 = .ok (.ldc 31, 2) := by decide +kernel
theorem dX0_handlingAt_11 : decode cX0_handlingAt 11 = .ok (.ireturn, 1) := by decide +kernel
theorem dX0_handlingAt_12 : decode cX0_handlingAt 12 = .ok (.iload_n 1, 1) := by decide +kernel
theorem dX0_handlingAt_13 : decode cX0_handlingAt 13 = .ok (.iload_n 2, 1) := by decide +kernel
theorem dX0_handlingAt_14 : decode cX0_handlingAt 14 = .ok (.irem, 1) := by decide +kernel
theorem dX0_handlingAt_15 : decode cX0_handlingAt 15 = .ok (.istore_n 3, 1) := by decide +kernel
theorem dX0_handlingAt_16 : decode cX0_handlingAt 16 = .ok (.iconst 0, 1) := by decide +kernel
theorem dX0_handlingAt_17 : decode cX0_handlingAt 17 = .ok (.istore 4, 2) := by decide +kernel
theorem dX0_handlingAt_19 : decode cX0_handlingAt 19 = .ok (.iload 4, 2) := by decide +kernel
theorem dX0_handlingAt_21 : decode cX0_handlingAt 21 = .ok (.aload_n 0, 1) := by decide +kernel
theorem dX0_handlingAt_22 : decode cX0_handlingAt 22 = .ok (.getfield 18, 3) := by decide +kernel
theorem dX0_handlingAt_25 : decode cX0_handlingAt 25 = .ok (.if_icmp .ge 52, 3) := by decide +kernel
theorem dX0_handlingAt_28 : decode cX0_handlingAt 28 = .ok (.aload_n 0, 1) := by decide +kernel
theorem dX0_handlingAt_29 : decode cX0_handlingAt 29 = .ok (.getfield 15, 3) := by decide +kernel
theorem dX0_handlingAt_32 : decode cX0_handlingAt 32 = .ok (.iload 4, 2) := by decide +kernel
theorem dX0_handlingAt_34 : decode cX0_handlingAt 34 = .ok (.iaload, 1) := by decide +kernel
theorem dX0_handlingAt_35 : decode cX0_handlingAt 35 = .ok (.bipush 12, 2) := by decide +kernel
theorem dX0_handlingAt_37 : decode cX0_handlingAt 37 = .ok (.imul, 1) := by decide +kernel
theorem dX0_handlingAt_38 : decode cX0_handlingAt 38 = .ok (.istore 5, 2) := by decide +kernel
theorem dX0_handlingAt_40 : decode cX0_handlingAt 40 = .ok (.iload_n 3, 1) := by decide +kernel
theorem dX0_handlingAt_41 : decode cX0_handlingAt 41 = .ok (.iload 5, 2) := by decide +kernel
theorem dX0_handlingAt_43 : decode cX0_handlingAt 43 = .ok (.if_icmp .ge 23, 3) := by decide +kernel
theorem dX0_handlingAt_46 : decode cX0_handlingAt 46 = .ok (.bipush 10, 2) := by decide +kernel
theorem dX0_handlingAt_48 : decode cX0_handlingAt 48 = .ok (.iload 4, 2) := by decide +kernel
theorem dX0_handlingAt_50 : decode cX0_handlingAt 50 = .ok (.imul, 1) := by decide +kernel
theorem dX0_handlingAt_51 : decode cX0_handlingAt 51 = .ok (.aload_n 0, 1) := by decide +kernel
theorem dX0_handlingAt_52 : decode cX0_handlingAt 52 = .ok (.getfield 11, 3) := by decide +kernel
theorem dX0_handlingAt_55 : decode cX0_handlingAt 55 = .ok (.iload 4, 2) := by decide +kernel
theorem dX0_handlingAt_57 : decode cX0_handlingAt 57 = .ok (.iaload, 1) := by decide +kernel
theorem dX0_handlingAt_58 : decode cX0_handlingAt 58 = .ok (.iload_n 3, 1) := by decide +kernel
theorem dX0_handlingAt_59 : decode cX0_handlingAt 59 = .ok (.iload 5, 2) := by decide +kernel
theorem dX0_handlingAt_61 : decode cX0_handlingAt 61 = .ok (.invokestatic 32, 3) := by decide +kernel
theorem dX0_handlingAt_64 : decode cX0_handlingAt 64 = .ok (.iadd, 1) := by decide +kernel
theorem dX0_handlingAt_65 : decode cX0_handlingAt 65 = .ok (.ireturn, 1) := by decide +kernel
theorem dX0_handlingAt_66 : decode cX0_handlingAt 66 = .ok (.iload_n 3, 1) := by decide +kernel
theorem dX0_handlingAt_67 : decode cX0_handlingAt 67 = .ok (.iload 5, 2) := by decide +kernel
theorem dX0_handlingAt_69 : decode cX0_handlingAt 69 = .ok (.isub, 1) := by decide +kernel
theorem dX0_handlingAt_70 : decode cX0_handlingAt 70 = .ok (.istore_n 3, 1) := by decide +kernel
theorem dX0_handlingAt_71 : decode cX0_handlingAt 71 = .ok (.iinc 4 1, 3) := by decide +kernel
theorem dX0_handlingAt_74 : decode cX0_handlingAt 74 = .ok (.goto (-55), 3) := by decide +kernel
theorem dX0_handlingAt_77 : decode cX0_handlingAt 77 = .ok (.ldc 31, 2) := by decide +kernel
theorem dX0_handlingAt_79 : decode cX0_handlingAt 79 = .ok (.ireturn, 1) := by decide +kernel
theorem dX0_deedAt_0 : decode cX0_deedAt 0 = .ok (.iload_n 1, 1) := by decide +kernel
theorem dX0_deedAt_1 : decode cX0_deedAt 1 = .ok (.ifCond .ne 26, 3) := by decide +kernel
theorem dX0_deedAt_4 : decode cX0_deedAt 4 = .ok (.iload_n 0, 1) := by decide +kernel
theorem dX0_deedAt_5 : decode cX0_deedAt 5 = .ok (.iconst 1, 1) := by decide +kernel
theorem dX0_deedAt_6 : decode cX0_deedAt 6 = .ok (.invokestatic 23, 3) := by decide +kernel
theorem dX0_deedAt_9 : decode cX0_deedAt 9 = .ok (.ifCond .eq 7, 3) := by decide +kernel
theorem dX0_deedAt_12 : decode cX0_deedAt 12 = .ok (.iconst 1, 1) := by decide +kernel
theorem dX0_deedAt_13 : decode cX0_deedAt 13 = .ok (.goto 13, 3) := by decide +kernel
theorem dX0_deedAt_16 : decode cX0_deedAt 16 = .ok (.iload_n 0, 1) := by decide +kernel
theorem dX0_deedAt_17 : decode cX0_deedAt 17 = .ok (.iconst 2, 1) := by decide +kernel
theorem dX0_deedAt_18 : decode cX0_deedAt 18 = .ok (.if_icmp .ne 7, 3) := by decide +kernel
theorem dX0_deedAt_21 : decode cX0_deedAt 21 = .ok (.iconst 2, 1) := by decide +kernel
theorem dX0_deedAt_22 : decode cX0_deedAt 22 = .ok (.goto 4, 3) := by decide +kernel
theorem dX0_deedAt_25 : decode cX0_deedAt 25 = .ok (.iconst 0, 1) := by decide +kernel
theorem dX0_deedAt_26 : decode cX0_deedAt 26 = .ok (.ireturn, 1) := by decide +kernel
theorem dX0_deedAt_27 : decode cX0_deedAt 27 = .ok (.iload_n 1, 1) := by decide +kernel
theorem dX0_deedAt_28 : decode cX0_deedAt 28 = .ok (.bipush 24, 2) := by decide +kernel
theorem dX0_deedAt_30 : decode cX0_deedAt 30 = .ok (.irem, 1) := by decide +kernel
theorem dX0_deedAt_31 : decode cX0_deedAt 31 = .ok (.ifCond .ne 15, 3) := by decide +kernel
theorem dX0_deedAt_34 : decode cX0_deedAt 34 = .ok (.iload_n 1, 1) := by decide +kernel
theorem dX0_deedAt_35 : decode cX0_deedAt 35 = .ok (.bipush 24, 2) := by decide +kernel
theorem dX0_deedAt_37 : decode cX0_deedAt 37 = .ok (.iadd, 1) := by decide +kernel
theorem dX0_deedAt_38 : decode cX0_deedAt 38 = .ok (.iload_n 2, 1) := by decide +kernel
theorem dX0_deedAt_39 : decode cX0_deedAt 39 = .ok (.if_icmp .gt 7, 3) := by decide +kernel
theorem dX0_deedAt_42 : decode cX0_deedAt 42 = .ok (.iconst 1, 1) := by decide +kernel
theorem dX0_deedAt_43 : decode cX0_deedAt 43 = .ok (.goto 4, 3) := by decide +kernel
theorem dX0_deedAt_46 : decode cX0_deedAt 46 = .ok (.iconst 0, 1) := by decide +kernel
theorem dX0_deedAt_47 : decode cX0_deedAt 47 = .ok (.istore_n 3, 1) := by decide +kernel
theorem dX0_deedAt_48 : decode cX0_deedAt 48 = .ok (.iload_n 0, 1) := by decide +kernel
theorem dX0_deedAt_49 : decode cX0_deedAt 49 = .ok (.iconst 3, 1) := by decide +kernel
theorem dX0_deedAt_50 : decode cX0_deedAt 50 = .ok (.if_icmp .ne 11, 3) := by decide +kernel
theorem dX0_deedAt_53 : decode cX0_deedAt 53 = .ok (.iload_n 3, 1) := by decide +kernel
theorem dX0_deedAt_54 : decode cX0_deedAt 54 = .ok (.ifCond .eq 7, 3) := by decide +kernel
theorem dX0_deedAt_57 : decode cX0_deedAt 57 = .ok (.iconst 3, 1) := by decide +kernel
theorem dX0_deedAt_58 : decode cX0_deedAt 58 = .ok (.goto 4, 3) := by decide +kernel
theorem dX0_deedAt_61 : decode cX0_deedAt 61 = .ok (.iconst 0, 1) := by decide +kernel
theorem dX0_deedAt_62 : decode cX0_deedAt 62 = .ok (.ireturn, 1) := by decide +kernel
theorem dX1_init_0 : decode cX1_init 0 = .ok (.aload_n 0, 1) := by decide +kernel
theorem dX1_init_1 : decode cX1_init 1 = .ok (.invokespecial 3, 3) := by decide +kernel
theorem dX1_init_4 : decode cX1_init 4 = .ok (.aload_n 0, 1) := by decide +kernel
theorem dX1_init_5 : decode cX1_init 5 = .ok (.bipush 8, 2) := by decide +kernel
theorem dX1_init_7 : decode cX1_init 7 = .ok (.newarray .int, 2) := by decide +kernel
theorem dX1_init_9 : decode cX1_init 9 = .ok (.dup, 1) := by decide +kernel
theorem dX1_init_10 : decode cX1_init 10 = .ok (.iconst 0, 1) := by decide +kernel
theorem dX1_init_11 : decode cX1_init 11 = .ok (.iconst 3, 1) := by decide +kernel
theorem dX1_init_12 : decode cX1_init 12 = .ok (.iastore, 1) := by decide +kernel
theorem dX1_init_13 : decode cX1_init 13 = .ok (.dup, 1) := by decide +kernel
theorem dX1_init_14 : decode cX1_init 14 = .ok (.iconst 1, 1) := by decide +kernel
theorem dX1_init_15 : decode cX1_init 15 = .ok (.iconst 3, 1) := by decide +kernel
theorem dX1_init_16 : decode cX1_init 16 = .ok (.iastore, 1) := by decide +kernel
theorem dX1_init_17 : decode cX1_init 17 = .ok (.dup, 1) := by decide +kernel
theorem dX1_init_18 : decode cX1_init 18 = .ok (.iconst 2, 1) := by decide +kernel
theorem dX1_init_19 : decode cX1_init 19 = .ok (.iconst 3, 1) := by decide +kernel
theorem dX1_init_20 : decode cX1_init 20 = .ok (.iastore, 1) := by decide +kernel
theorem dX1_init_21 : decode cX1_init 21 = .ok (.dup, 1) := by decide +kernel
theorem dX1_init_22 : decode cX1_init 22 = .ok (.iconst 3, 1) := by decide +kernel
theorem dX1_init_23 : decode cX1_init 23 = .ok (.iconst 3, 1) := by decide +kernel
theorem dX1_init_24 : decode cX1_init 24 = .ok (.iastore, 1) := by decide +kernel
theorem dX1_init_25 : decode cX1_init 25 = .ok (.dup, 1) := by decide +kernel
theorem dX1_init_26 : decode cX1_init 26 = .ok (.iconst 4, 1) := by decide +kernel
theorem dX1_init_27 : decode cX1_init 27 = .ok (.iconst 3, 1) := by decide +kernel
theorem dX1_init_28 : decode cX1_init 28 = .ok (.iastore, 1) := by decide +kernel
theorem dX1_init_29 : decode cX1_init 29 = .ok (.dup, 1) := by decide +kernel
theorem dX1_init_30 : decode cX1_init 30 = .ok (.iconst 5, 1) := by decide +kernel
theorem dX1_init_31 : decode cX1_init 31 = .ok (.iconst 3, 1) := by decide +kernel
theorem dX1_init_32 : decode cX1_init 32 = .ok (.iastore, 1) := by decide +kernel
theorem dX1_init_33 : decode cX1_init 33 = .ok (.dup, 1) := by decide +kernel
theorem dX1_init_34 : decode cX1_init 34 = .ok (.bipush 6, 2) := by decide +kernel
theorem dX1_init_36 : decode cX1_init 36 = .ok (.iconst 3, 1) := by decide +kernel
theorem dX1_init_37 : decode cX1_init 37 = .ok (.iastore, 1) := by decide +kernel
theorem dX1_init_38 : decode cX1_init 38 = .ok (.dup, 1) := by decide +kernel
theorem dX1_init_39 : decode cX1_init 39 = .ok (.bipush 7, 2) := by decide +kernel
theorem dX1_init_41 : decode cX1_init 41 = .ok (.iconst 3, 1) := by decide +kernel
theorem dX1_init_42 : decode cX1_init 42 = .ok (.iastore, 1) := by decide +kernel
theorem dX1_init_43 : decode cX1_init 43 = .ok (.putfield 11, 3) := by decide +kernel
theorem dX1_init_46 : decode cX1_init 46 = .ok (.aload_n 0, 1) := by decide +kernel
theorem dX1_init_47 : decode cX1_init 47 = .ok (.bipush 60, 2) := by decide +kernel
theorem dX1_init_49 : decode cX1_init 49 = .ok (.newarray .int, 2) := by decide +kernel
theorem dX1_init_51 : decode cX1_init 51 = .ok (.putfield 17, 3) := by decide +kernel
theorem dX1_init_54 : decode cX1_init 54 = .ok (.aload_n 0, 1) := by decide +kernel
theorem dX1_init_55 : decode cX1_init 55 = .ok (.bipush 60, 2) := by decide +kernel
theorem dX1_init_57 : decode cX1_init 57 = .ok (.newarray .int, 2) := by decide +kernel
theorem dX1_init_59 : decode cX1_init 59 = .ok (.putfield 20, 3) := by decide +kernel
theorem dX1_init_62 : decode cX1_init 62 = .ok (.return_, 1) := by decide +kernel
theorem dX1_change_0 : decode cX1_change 0 = .ok (.iload_n 1, 1) := by decide +kernel
theorem dX1_change_1 : decode cX1_change 1 = .ok (.ifCond .lt 21, 3) := by decide +kernel
theorem dX1_change_4 : decode cX1_change 4 = .ok (.iload_n 1, 1) := by decide +kernel
theorem dX1_change_5 : decode cX1_change 5 = .ok (.aload_n 0, 1) := by decide +kernel
theorem dX1_change_6 : decode cX1_change 6 = .ok (.getfield 11, 3) := by decide +kernel
theorem dX1_change_9 : decode cX1_change 9 = .ok (.arraylength, 1) := by decide +kernel
theorem dX1_change_10 : decode cX1_change 10 = .ok (.if_icmp .ge 12, 3) := by decide +kernel
theorem dX1_change_13 : decode cX1_change 13 = .ok (.iload_n 2, 1) := by decide +kernel
theorem dX1_change_14 : decode cX1_change 14 = .ok (.ifCond .lt 8, 3) := by decide +kernel
theorem dX1_change_17 : decode cX1_change 17 = .ok (.iload_n 2, 1) := by decide +kernel
theorem dX1_change_18 : decode cX1_change 18 = .ok (.iconst 3, 1) := by decide +kernel
theorem dX1_change_19 : decode cX1_change 19 = .ok (.if_icmp .le 6, 3) := by decide +kernel
theorem dX1_change_22 : decode cX1_change 22 = .ok (.ldc 23, 2) := by decide +kernel
theorem dX1_change_24 : decode cX1_change 24 = .ok (.ireturn, 1) := by decide +kernel
theorem dX1_change_25 : decode cX1_change 25 = .ok (.aload_n 0, 1) := by decide +kernel
theorem dX1_change_26 : decode cX1_change 26 = .ok (.getfield 11, 3) := by decide +kernel
theorem dX1_change_29 : decode cX1_change 29 = .ok (.iload_n 1, 1) := by decide +kernel
theorem dX1_change_30 : decode cX1_change 30 = .ok (.iaload, 1) := by decide +kernel
theorem dX1_change_31 : decode cX1_change 31 = .ok (.istore_n 3, 1) := by decide +kernel
theorem dX1_change_32 : decode cX1_change 32 = .ok (.aload_n 0, 1) := by decide +kernel
theorem dX1_change_33 : decode cX1_change 33 = .ok (.getfield 11, 3) := by decide +kernel
theorem dX1_change_36 : decode cX1_change 36 = .ok (.iload_n 1, 1) := by decide +kernel
theorem dX1_change_37 : decode cX1_change 37 = .ok (.iload_n 2, 1) := by decide +kernel
theorem dX1_change_38 : decode cX1_change 38 = .ok (.iastore, 1) := by decide +kernel
theorem dX1_change_39 : decode cX1_change 39 = .ok (.iload_n 3, 1) := by decide +kernel
theorem dX1_change_40 : decode cX1_change 40 = .ok (.ireturn, 1) := by decide +kernel
theorem dX1_fewestStrains_0 : decode cX1_fewestStrains 0 = .ok (.aload_n 0, 1) := by decide +kernel
theorem dX1_fewestStrains_1 : decode cX1_fewestStrains 1 = .ok (.aload_n 1, 1) := by decide +kernel
theorem dX1_fewestStrains_2 : decode cX1_fewestStrains 2 = .ok (.invokevirtual 24, 3) := by decide +kernel
theorem dX1_fewestStrains_5 : decode cX1_fewestStrains 5 = .ok (.aload_n 0, 1) := by decide +kernel
theorem dX1_fewestStrains_6 : decode cX1_fewestStrains 6 = .ok (.getfield 17, 3) := by decide +kernel
theorem dX1_fewestStrains_9 : decode cX1_fewestStrains 9 = .ok (.iconst 0, 1) := by decide +kernel
theorem dX1_fewestStrains_10 : decode cX1_fewestStrains 10 = .ok (.iaload, 1) := by decide +kernel
theorem dX1_fewestStrains_11 : decode cX1_fewestStrains 11 = .ok (.aload_n 0, 1) := by decide +kernel
theorem dX1_fewestStrains_12 : decode cX1_fewestStrains 12 = .ok (.getfield 20, 3) := by decide +kernel
theorem dX1_fewestStrains_15 : decode cX1_fewestStrains 15 = .ok (.iconst 0, 1) := by decide +kernel
theorem dX1_fewestStrains_16 : decode cX1_fewestStrains 16 = .ok (.iaload, 1) := by decide +kernel
theorem dX1_fewestStrains_17 : decode cX1_fewestStrains 17 = .ok (.invokestatic 28, 3) := by decide +kernel
theorem dX1_fewestStrains_20 : decode cX1_fewestStrains 20 = .ok (.ireturn, 1) := by decide +kernel
theorem dX1_handAt_0 : decode cX1_handAt 0 = .ok (.aload_n 0, 1) := by decide +kernel
theorem dX1_handAt_1 : decode cX1_handAt 1 = .ok (.aload_n 1, 1) := by decide +kernel
theorem dX1_handAt_2 : decode cX1_handAt 2 = .ok (.invokevirtual 24, 3) := by decide +kernel
theorem dX1_handAt_5 : decode cX1_handAt 5 = .ok (.iconst 0, 1) := by decide +kernel
theorem dX1_handAt_6 : decode cX1_handAt 6 = .ok (.istore_n 3, 1) := by decide +kernel
theorem dX1_handAt_7 : decode cX1_handAt 7 = .ok (.iconst 0, 1) := by decide +kernel
theorem dX1_handAt_8 : decode cX1_handAt 8 = .ok (.istore 4, 2) := by decide +kernel
theorem dX1_handAt_10 : decode cX1_handAt 10 = .ok (.iload 4, 2) := by decide +kernel
theorem dX1_handAt_12 : decode cX1_handAt 12 = .ok (.iload_n 2, 1) := by decide +kernel
theorem dX1_handAt_13 : decode cX1_handAt 13 = .ok (.if_icmp .gt 85, 3) := by decide +kernel
theorem dX1_handAt_16 : decode cX1_handAt 16 = .ok (.iload 4, 2) := by decide +kernel
theorem dX1_handAt_18 : decode cX1_handAt 18 = .ok (.aload_n 1, 1) := by decide +kernel
theorem dX1_handAt_19 : decode cX1_handAt 19 = .ok (.getfield 34, 3) := by decide +kernel
theorem dX1_handAt_22 : decode cX1_handAt 22 = .ok (.if_icmp .ge 76, 3) := by decide +kernel
theorem dX1_handAt_25 : decode cX1_handAt 25 = .ok (.aload_n 0, 1) := by decide +kernel
theorem dX1_handAt_26 : decode cX1_handAt 26 = .ok (.aload_n 1, 1) := by decide +kernel
theorem dX1_handAt_27 : decode cX1_handAt 27 = .ok (.iload 4, 2) := by decide +kernel
theorem dX1_handAt_29 : decode cX1_handAt 29 = .ok (.iconst 0, 1) := by decide +kernel
theorem dX1_handAt_30 : decode cX1_handAt 30 = .ok (.invokevirtual 38, 3) := by decide +kernel
theorem dX1_handAt_33 : decode cX1_handAt 33 = .ok (.istore 5, 2) := by decide +kernel
theorem dX1_handAt_35 : decode cX1_handAt 35 = .ok (.aload_n 0, 1) := by decide +kernel
theorem dX1_handAt_36 : decode cX1_handAt 36 = .ok (.aload_n 1, 1) := by decide +kernel
theorem dX1_handAt_37 : decode cX1_handAt 37 = .ok (.iload 4, 2) := by decide +kernel
theorem dX1_handAt_39 : decode cX1_handAt 39 = .ok (.iconst 1, 1) := by decide +kernel
theorem dX1_handAt_40 : decode cX1_handAt 40 = .ok (.invokevirtual 38, 3) := by decide +kernel
theorem dX1_handAt_43 : decode cX1_handAt 43 = .ok (.istore 6, 2) := by decide +kernel
theorem dX1_handAt_45 : decode cX1_handAt 45 = .ok (.iload_n 3, 1) := by decide +kernel
theorem dX1_handAt_46 : decode cX1_handAt 46 = .ok (.iload 5, 2) := by decide +kernel
theorem dX1_handAt_48 : decode cX1_handAt 48 = .ok (.invokestatic 42, 3) := by decide +kernel
theorem dX1_handAt_51 : decode cX1_handAt 51 = .ok (.aload_n 0, 1) := by decide +kernel
theorem dX1_handAt_52 : decode cX1_handAt 52 = .ok (.getfield 17, 3) := by decide +kernel
theorem dX1_handAt_55 : decode cX1_handAt 55 = .ok (.iload 4, 2) := by decide +kernel
theorem dX1_handAt_57 : decode cX1_handAt 57 = .ok (.iaload, 1) := by decide +kernel
theorem dX1_handAt_58 : decode cX1_handAt 58 = .ok (.iadd, 1) := by decide +kernel
theorem dX1_handAt_59 : decode cX1_handAt 59 = .ok (.istore 7, 2) := by decide +kernel
theorem dX1_handAt_61 : decode cX1_handAt 61 = .ok (.iload_n 3, 1) := by decide +kernel
theorem dX1_handAt_62 : decode cX1_handAt 62 = .ok (.iload 6, 2) := by decide +kernel
theorem dX1_handAt_64 : decode cX1_handAt 64 = .ok (.invokestatic 42, 3) := by decide +kernel
theorem dX1_handAt_67 : decode cX1_handAt 67 = .ok (.aload_n 0, 1) := by decide +kernel
theorem dX1_handAt_68 : decode cX1_handAt 68 = .ok (.getfield 20, 3) := by decide +kernel
theorem dX1_handAt_71 : decode cX1_handAt 71 = .ok (.iload 4, 2) := by decide +kernel
theorem dX1_handAt_73 : decode cX1_handAt 73 = .ok (.iaload, 1) := by decide +kernel
theorem dX1_handAt_74 : decode cX1_handAt 74 = .ok (.iadd, 1) := by decide +kernel
theorem dX1_handAt_75 : decode cX1_handAt 75 = .ok (.istore 8, 2) := by decide +kernel
theorem dX1_handAt_77 : decode cX1_handAt 77 = .ok (.iload 7, 2) := by decide +kernel
theorem dX1_handAt_79 : decode cX1_handAt 79 = .ok (.iload 8, 2) := by decide +kernel
theorem dX1_handAt_81 : decode cX1_handAt 81 = .ok (.if_icmp .gt 8, 3) := by decide +kernel
theorem dX1_handAt_84 : decode cX1_handAt 84 = .ok (.iload 5, 2) := by decide +kernel
theorem dX1_handAt_86 : decode cX1_handAt 86 = .ok (.goto 5, 3) := by decide +kernel
theorem dX1_handAt_89 : decode cX1_handAt 89 = .ok (.iload 6, 2) := by decide +kernel
theorem dX1_handAt_91 : decode cX1_handAt 91 = .ok (.istore_n 3, 1) := by decide +kernel
theorem dX1_handAt_92 : decode cX1_handAt 92 = .ok (.iinc 4 1, 3) := by decide +kernel
theorem dX1_handAt_95 : decode cX1_handAt 95 = .ok (.goto (-85), 3) := by decide +kernel
theorem dX1_handAt_98 : decode cX1_handAt 98 = .ok (.iload_n 3, 1) := by decide +kernel
theorem dX1_handAt_99 : decode cX1_handAt 99 = .ok (.ifCond .ne 8, 3) := by decide +kernel
theorem dX1_handAt_102 : decode cX1_handAt 102 = .ok (.ldc 45, 2) := by decide +kernel
theorem dX1_handAt_104 : decode cX1_handAt 104 = .ok (.goto 6, 3) := by decide +kernel
theorem dX1_handAt_107 : decode cX1_handAt 107 = .ok (.iload_n 3, 1) := by decide +kernel
theorem dX1_handAt_108 : decode cX1_handAt 108 = .ok (.iconst 1, 1) := by decide +kernel
theorem dX1_handAt_109 : decode cX1_handAt 109 = .ok (.isub, 1) := by decide +kernel
theorem dX1_handAt_110 : decode cX1_handAt 110 = .ok (.ireturn, 1) := by decide +kernel
theorem dX1_weigh_0 : decode cX1_weigh 0 = .ok (.aload_n 1, 1) := by decide +kernel
theorem dX1_weigh_1 : decode cX1_weigh 1 = .ok (.getfield 34, 3) := by decide +kernel
theorem dX1_weigh_4 : decode cX1_weigh 4 = .ok (.iconst 1, 1) := by decide +kernel
theorem dX1_weigh_5 : decode cX1_weigh 5 = .ok (.isub, 1) := by decide +kernel
theorem dX1_weigh_6 : decode cX1_weigh 6 = .ok (.istore_n 2, 1) := by decide +kernel
theorem dX1_weigh_7 : decode cX1_weigh 7 = .ok (.iload_n 2, 1) := by decide +kernel
theorem dX1_weigh_8 : decode cX1_weigh 8 = .ok (.ifCond .lt 47, 3) := by decide +kernel
theorem dX1_weigh_11 : decode cX1_weigh 11 = .ok (.aload_n 0, 1) := by decide +kernel
theorem dX1_weigh_12 : decode cX1_weigh 12 = .ok (.getfield 17, 3) := by decide +kernel
theorem dX1_weigh_15 : decode cX1_weigh 15 = .ok (.iload_n 2, 1) := by decide +kernel
theorem dX1_weigh_16 : decode cX1_weigh 16 = .ok (.aload_n 0, 1) := by decide +kernel
theorem dX1_weigh_17 : decode cX1_weigh 17 = .ok (.aload_n 1, 1) := by decide +kernel
theorem dX1_weigh_18 : decode cX1_weigh 18 = .ok (.iload_n 2, 1) := by decide +kernel
theorem dX1_weigh_19 : decode cX1_weigh 19 = .ok (.aload_n 0, 1) := by decide +kernel
theorem dX1_weigh_20 : decode cX1_weigh 20 = .ok (.aload_n 1, 1) := by decide +kernel
theorem dX1_weigh_21 : decode cX1_weigh 21 = .ok (.iload_n 2, 1) := by decide +kernel
theorem dX1_weigh_22 : decode cX1_weigh 22 = .ok (.iconst 0, 1) := by decide +kernel
theorem dX1_weigh_23 : decode cX1_weigh 23 = .ok (.invokevirtual 38, 3) := by decide +kernel
theorem dX1_weigh_26 : decode cX1_weigh 26 = .ok (.invokevirtual 46, 3) := by decide +kernel
theorem dX1_weigh_29 : decode cX1_weigh 29 = .ok (.iastore, 1) := by decide +kernel
theorem dX1_weigh_30 : decode cX1_weigh 30 = .ok (.aload_n 0, 1) := by decide +kernel
theorem dX1_weigh_31 : decode cX1_weigh 31 = .ok (.getfield 20, 3) := by decide +kernel
theorem dX1_weigh_34 : decode cX1_weigh 34 = .ok (.iload_n 2, 1) := by decide +kernel
theorem dX1_weigh_35 : decode cX1_weigh 35 = .ok (.aload_n 0, 1) := by decide +kernel
theorem dX1_weigh_36 : decode cX1_weigh 36 = .ok (.aload_n 1, 1) := by decide +kernel
theorem dX1_weigh_37 : decode cX1_weigh 37 = .ok (.iload_n 2, 1) := by decide +kernel
theorem dX1_weigh_38 : decode cX1_weigh 38 = .ok (.aload_n 0, 1) := by decide +kernel
theorem dX1_weigh_39 : decode cX1_weigh 39 = .ok (.aload_n 1, 1) := by decide +kernel
theorem dX1_weigh_40 : decode cX1_weigh 40 = .ok (.iload_n 2, 1) := by decide +kernel
theorem dX1_weigh_41 : decode cX1_weigh 41 = .ok (.iconst 1, 1) := by decide +kernel
theorem dX1_weigh_42 : decode cX1_weigh 42 = .ok (.invokevirtual 38, 3) := by decide +kernel
theorem dX1_weigh_45 : decode cX1_weigh 45 = .ok (.invokevirtual 46, 3) := by decide +kernel
theorem dX1_weigh_48 : decode cX1_weigh 48 = .ok (.iastore, 1) := by decide +kernel
theorem dX1_weigh_49 : decode cX1_weigh 49 = .ok (.iinc 2 (-1), 3) := by decide +kernel
theorem dX1_weigh_52 : decode cX1_weigh 52 = .ok (.goto (-45), 3) := by decide +kernel
theorem dX1_weigh_55 : decode cX1_weigh 55 = .ok (.return_, 1) := by decide +kernel
theorem dX1_fewestBehind_0 : decode cX1_fewestBehind 0 = .ok (.iload_n 2, 1) := by decide +kernel
theorem dX1_fewestBehind_1 : decode cX1_fewestBehind 1 = .ok (.iconst 1, 1) := by decide +kernel
theorem dX1_fewestBehind_2 : decode cX1_fewestBehind 2 = .ok (.iadd, 1) := by decide +kernel
theorem dX1_fewestBehind_3 : decode cX1_fewestBehind 3 = .ok (.istore 4, 2) := by decide +kernel
theorem dX1_fewestBehind_5 : decode cX1_fewestBehind 5 = .ok (.iload 4, 2) := by decide +kernel
theorem dX1_fewestBehind_7 : decode cX1_fewestBehind 7 = .ok (.aload_n 1, 1) := by decide +kernel
theorem dX1_fewestBehind_8 : decode cX1_fewestBehind 8 = .ok (.getfield 34, 3) := by decide +kernel
theorem dX1_fewestBehind_11 : decode cX1_fewestBehind 11 = .ok (.if_icmp .lt 5, 3) := by decide +kernel
theorem dX1_fewestBehind_14 : decode cX1_fewestBehind 14 = .ok (.iconst 0, 1) := by decide +kernel
theorem dX1_fewestBehind_15 : decode cX1_fewestBehind 15 = .ok (.ireturn, 1) := by decide +kernel
theorem dX1_fewestBehind_16 : decode cX1_fewestBehind 16 = .ok (.iload_n 3, 1) := by decide +kernel
theorem dX1_fewestBehind_17 : decode cX1_fewestBehind 17 = .ok (.aload_n 0, 1) := by decide +kernel
theorem dX1_fewestBehind_18 : decode cX1_fewestBehind 18 = .ok (.aload_n 1, 1) := by decide +kernel
theorem dX1_fewestBehind_19 : decode cX1_fewestBehind 19 = .ok (.iload 4, 2) := by decide +kernel
theorem dX1_fewestBehind_21 : decode cX1_fewestBehind 21 = .ok (.iconst 0, 1) := by decide +kernel
theorem dX1_fewestBehind_22 : decode cX1_fewestBehind 22 = .ok (.invokevirtual 38, 3) := by decide +kernel
theorem dX1_fewestBehind_25 : decode cX1_fewestBehind 25 = .ok (.invokestatic 42, 3) := by decide +kernel
theorem dX1_fewestBehind_28 : decode cX1_fewestBehind 28 = .ok (.aload_n 0, 1) := by decide +kernel
theorem dX1_fewestBehind_29 : decode cX1_fewestBehind 29 = .ok (.getfield 17, 3) := by decide +kernel
theorem dX1_fewestBehind_32 : decode cX1_fewestBehind 32 = .ok (.iload 4, 2) := by decide +kernel
theorem dX1_fewestBehind_34 : decode cX1_fewestBehind 34 = .ok (.iaload, 1) := by decide +kernel
theorem dX1_fewestBehind_35 : decode cX1_fewestBehind 35 = .ok (.iadd, 1) := by decide +kernel
theorem dX1_fewestBehind_36 : decode cX1_fewestBehind 36 = .ok (.istore 5, 2) := by decide +kernel
theorem dX1_fewestBehind_38 : decode cX1_fewestBehind 38 = .ok (.iload_n 3, 1) := by decide +kernel
theorem dX1_fewestBehind_39 : decode cX1_fewestBehind 39 = .ok (.aload_n 0, 1) := by decide +kernel
theorem dX1_fewestBehind_40 : decode cX1_fewestBehind 40 = .ok (.aload_n 1, 1) := by decide +kernel
theorem dX1_fewestBehind_41 : decode cX1_fewestBehind 41 = .ok (.iload 4, 2) := by decide +kernel
theorem dX1_fewestBehind_43 : decode cX1_fewestBehind 43 = .ok (.iconst 1, 1) := by decide +kernel
theorem dX1_fewestBehind_44 : decode cX1_fewestBehind 44 = .ok (.invokevirtual 38, 3) := by decide +kernel
theorem dX1_fewestBehind_47 : decode cX1_fewestBehind 47 = .ok (.invokestatic 42, 3) := by decide +kernel
theorem dX1_fewestBehind_50 : decode cX1_fewestBehind 50 = .ok (.aload_n 0, 1) := by decide +kernel
theorem dX1_fewestBehind_51 : decode cX1_fewestBehind 51 = .ok (.getfield 20, 3) := by decide +kernel
theorem dX1_fewestBehind_54 : decode cX1_fewestBehind 54 = .ok (.iload 4, 2) := by decide +kernel
theorem dX1_fewestBehind_56 : decode cX1_fewestBehind 56 = .ok (.iaload, 1) := by decide +kernel
theorem dX1_fewestBehind_57 : decode cX1_fewestBehind 57 = .ok (.iadd, 1) := by decide +kernel
theorem dX1_fewestBehind_58 : decode cX1_fewestBehind 58 = .ok (.istore 6, 2) := by decide +kernel
theorem dX1_fewestBehind_60 : decode cX1_fewestBehind 60 = .ok (.iload 5, 2) := by decide +kernel
theorem dX1_fewestBehind_62 : decode cX1_fewestBehind 62 = .ok (.iload 6, 2) := by decide +kernel
theorem dX1_fewestBehind_64 : decode cX1_fewestBehind 64 = .ok (.invokestatic 28, 3) := by decide +kernel
theorem dX1_fewestBehind_67 : decode cX1_fewestBehind 67 = .ok (.ireturn, 1) := by decide +kernel
theorem dX1_usedAt_0 : decode cX1_usedAt 0 = .ok (.aload_n 1, 1) := by decide +kernel
theorem dX1_usedAt_1 : decode cX1_usedAt 1 = .ok (.iload_n 2, 1) := by decide +kernel
theorem dX1_usedAt_2 : decode cX1_usedAt 2 = .ok (.invokevirtual 49, 3) := by decide +kernel
theorem dX1_usedAt_5 : decode cX1_usedAt 5 = .ok (.istore 4, 2) := by decide +kernel
theorem dX1_usedAt_7 : decode cX1_usedAt 7 = .ok (.iload 4, 2) := by decide +kernel
theorem dX1_usedAt_9 : decode cX1_usedAt 9 = .ok (.ifCond .lt 13, 3) := by decide +kernel
theorem dX1_usedAt_12 : decode cX1_usedAt 12 = .ok (.iload 4, 2) := by decide +kernel
theorem dX1_usedAt_14 : decode cX1_usedAt 14 = .ok (.aload_n 0, 1) := by decide +kernel
theorem dX1_usedAt_15 : decode cX1_usedAt 15 = .ok (.getfield 11, 3) := by decide +kernel
theorem dX1_usedAt_18 : decode cX1_usedAt 18 = .ok (.arraylength, 1) := by decide +kernel
theorem dX1_usedAt_19 : decode cX1_usedAt 19 = .ok (.if_icmp .lt 5, 3) := by decide +kernel
theorem dX1_usedAt_22 : decode cX1_usedAt 22 = .ok (.iconst 0, 1) := by decide +kernel
theorem dX1_usedAt_23 : decode cX1_usedAt 23 = .ok (.ireturn, 1) := by decide +kernel
theorem dX1_usedAt_24 : decode cX1_usedAt 24 = .ok (.aload_n 0, 1) := by decide +kernel
theorem dX1_usedAt_25 : decode cX1_usedAt 25 = .ok (.getfield 11, 3) := by decide +kernel
theorem dX1_usedAt_28 : decode cX1_usedAt 28 = .ok (.iload 4, 2) := by decide +kernel
theorem dX1_usedAt_30 : decode cX1_usedAt 30 = .ok (.iaload, 1) := by decide +kernel
theorem dX1_usedAt_31 : decode cX1_usedAt 31 = .ok (.istore 5, 2) := by decide +kernel
theorem dX1_usedAt_33 : decode cX1_usedAt 33 = .ok (.iload 5, 2) := by decide +kernel
theorem dX1_usedAt_35 : decode cX1_usedAt 35 = .ok (.iconst 3, 1) := by decide +kernel
theorem dX1_usedAt_36 : decode cX1_usedAt 36 = .ok (.if_icmp .ne 7, 3) := by decide +kernel
theorem dX1_usedAt_39 : decode cX1_usedAt 39 = .ok (.iload_n 3, 1) := by decide +kernel
theorem dX1_usedAt_40 : decode cX1_usedAt 40 = .ok (.goto 5, 3) := by decide +kernel
theorem dX1_usedAt_43 : decode cX1_usedAt 43 = .ok (.iload 5, 2) := by decide +kernel
theorem dX1_usedAt_45 : decode cX1_usedAt 45 = .ok (.iconst 1, 1) := by decide +kernel
theorem dX1_usedAt_46 : decode cX1_usedAt 46 = .ok (.iadd, 1) := by decide +kernel
theorem dX1_usedAt_47 : decode cX1_usedAt 47 = .ok (.ireturn, 1) := by decide +kernel
theorem dX1_strainOf_0 : decode cX1_strainOf 0 = .ok (.iload_n 0, 1) := by decide +kernel
theorem dX1_strainOf_1 : decode cX1_strainOf 1 = .ok (.iload_n 1, 1) := by decide +kernel
theorem dX1_strainOf_2 : decode cX1_strainOf 2 = .ok (.iand, 1) := by decide +kernel
theorem dX1_strainOf_3 : decode cX1_strainOf 3 = .ok (.ifCond .eq 7, 3) := by decide +kernel
theorem dX1_strainOf_6 : decode cX1_strainOf 6 = .ok (.iconst 1, 1) := by decide +kernel
theorem dX1_strainOf_7 : decode cX1_strainOf 7 = .ok (.goto 4, 3) := by decide +kernel
theorem dX1_strainOf_10 : decode cX1_strainOf 10 = .ok (.iconst 0, 1) := by decide +kernel
theorem dX1_strainOf_11 : decode cX1_strainOf 11 = .ok (.ireturn, 1) := by decide +kernel
theorem dX2_init_0 : decode cX2_init 0 = .ok (.aload_n 0, 1) := by decide +kernel
theorem dX2_init_1 : decode cX2_init 1 = .ok (.invokespecial 3, 3) := by decide +kernel
theorem dX2_init_4 : decode cX2_init 4 = .ok (.aload_n 0, 1) := by decide +kernel
theorem dX2_init_5 : decode cX2_init 5 = .ok (.bipush 60, 2) := by decide +kernel
theorem dX2_init_7 : decode cX2_init 7 = .ok (.newarray .byte, 2) := by decide +kernel
theorem dX2_init_9 : decode cX2_init 9 = .ok (.putfield 11, 3) := by decide +kernel
theorem dX2_init_12 : decode cX2_init 12 = .ok (.aload_n 0, 1) := by decide +kernel
theorem dX2_init_13 : decode cX2_init 13 = .ok (.iconst 0, 1) := by decide +kernel
theorem dX2_init_14 : decode cX2_init 14 = .ok (.putfield 15, 3) := by decide +kernel
theorem dX2_init_17 : decode cX2_init 17 = .ok (.return_, 1) := by decide +kernel
theorem dX2_at_0 : decode cX2_at 0 = .ok (.iload_n 1, 1) := by decide +kernel
theorem dX2_at_1 : decode cX2_at 1 = .ok (.ifCond .lt 20, 3) := by decide +kernel
theorem dX2_at_4 : decode cX2_at 4 = .ok (.iload_n 1, 1) := by decide +kernel
theorem dX2_at_5 : decode cX2_at 5 = .ok (.aload_n 0, 1) := by decide +kernel
theorem dX2_at_6 : decode cX2_at 6 = .ok (.getfield 15, 3) := by decide +kernel
theorem dX2_at_9 : decode cX2_at 9 = .ok (.if_icmp .ge 12, 3) := by decide +kernel
theorem dX2_at_12 : decode cX2_at 12 = .ok (.aload_n 0, 1) := by decide +kernel
theorem dX2_at_13 : decode cX2_at 13 = .ok (.getfield 11, 3) := by decide +kernel
theorem dX2_at_16 : decode cX2_at 16 = .ok (.iload_n 1, 1) := by decide +kernel
theorem dX2_at_17 : decode cX2_at 17 = .ok (.baload, 1) := by decide +kernel
theorem dX2_at_18 : decode cX2_at 18 = .ok (.goto 5, 3) := by decide +kernel
theorem dX2_at_21 : decode cX2_at 21 = .ok (.ldc 19, 2) := by decide +kernel
theorem dX2_at_23 : decode cX2_at 23 = .ok (.ireturn, 1) := by decide +kernel
theorem dX2_rowsBy_0 : decode cX2_rowsBy 0 = .ok (.iload_n 1, 1) := by decide +kernel
theorem dX2_rowsBy_1 : decode cX2_rowsBy 1 = .ok (.ifCond .gt 7, 3) := by decide +kernel
theorem dX2_rowsBy_4 : decode cX2_rowsBy 4 = .ok (.iconst 0, 1) := by decide +kernel
theorem dX2_rowsBy_5 : decode cX2_rowsBy 5 = .ok (.goto 13, 3) := by decide +kernel
theorem dX2_rowsBy_8 : decode cX2_rowsBy 8 = .ok (.aload_n 0, 1) := by decide +kernel
theorem dX2_rowsBy_9 : decode cX2_rowsBy 9 = .ok (.getfield 15, 3) := by decide +kernel
theorem dX2_rowsBy_12 : decode cX2_rowsBy 12 = .ok (.iload_n 1, 1) := by decide +kernel
theorem dX2_rowsBy_13 : decode cX2_rowsBy 13 = .ok (.iadd, 1) := by decide +kernel
theorem dX2_rowsBy_14 : decode cX2_rowsBy 14 = .ok (.iconst 1, 1) := by decide +kernel
theorem dX2_rowsBy_15 : decode cX2_rowsBy 15 = .ok (.isub, 1) := by decide +kernel
theorem dX2_rowsBy_16 : decode cX2_rowsBy 16 = .ok (.iload_n 1, 1) := by decide +kernel
theorem dX2_rowsBy_17 : decode cX2_rowsBy 17 = .ok (.idiv, 1) := by decide +kernel
theorem dX2_rowsBy_18 : decode cX2_rowsBy 18 = .ok (.ireturn, 1) := by decide +kernel
theorem dX3_init_0 : decode cX3_init 0 = .ok (.aload_n 0, 1) := by decide +kernel
theorem dX3_init_1 : decode cX3_init 1 = .ok (.invokespecial 3, 3) := by decide +kernel
theorem dX3_init_4 : decode cX3_init 4 = .ok (.aload_n 0, 1) := by decide +kernel
theorem dX3_init_5 : decode cX3_init 5 = .ok (.bipush 60, 2) := by decide +kernel
theorem dX3_init_7 : decode cX3_init 7 = .ok (.newarray .byte, 2) := by decide +kernel
theorem dX3_init_9 : decode cX3_init 9 = .ok (.putfield 11, 3) := by decide +kernel
theorem dX3_init_12 : decode cX3_init 12 = .ok (.aload_n 0, 1) := by decide +kernel
theorem dX3_init_13 : decode cX3_init 13 = .ok (.iconst (-1), 1) := by decide +kernel
theorem dX3_init_14 : decode cX3_init 14 = .ok (.putfield 15, 3) := by decide +kernel
theorem dX3_init_17 : decode cX3_init 17 = .ok (.return_, 1) := by decide +kernel
theorem dX3_isMissing_0 : decode cX3_isMissing 0 = .ok (.aload_n 0, 1) := by decide +kernel
theorem dX3_isMissing_1 : decode cX3_isMissing 1 = .ok (.getfield 15, 3) := by decide +kernel
theorem dX3_isMissing_4 : decode cX3_isMissing 4 = .ok (.iconst (-1), 1) := by decide +kernel
theorem dX3_isMissing_5 : decode cX3_isMissing 5 = .ok (.if_icmp .ne 7, 3) := by decide +kernel
theorem dX3_isMissing_8 : decode cX3_isMissing 8 = .ok (.iconst 1, 1) := by decide +kernel
theorem dX3_isMissing_9 : decode cX3_isMissing 9 = .ok (.goto 4, 3) := by decide +kernel
theorem dX3_isMissing_12 : decode cX3_isMissing 12 = .ok (.iconst 0, 1) := by decide +kernel
theorem dX3_isMissing_13 : decode cX3_isMissing 13 = .ok (.ireturn, 1) := by decide +kernel
theorem dX3_layOut_0 : decode cX3_layOut 0 = .ok (.iconst 0, 1) := by decide +kernel
theorem dX3_layOut_1 : decode cX3_layOut 1 = .ok (.istore_n 2, 1) := by decide +kernel
theorem dX3_layOut_2 : decode cX3_layOut 2 = .ok (.iload_n 2, 1) := by decide +kernel
theorem dX3_layOut_3 : decode cX3_layOut 3 = .ok (.aload_n 0, 1) := by decide +kernel
theorem dX3_layOut_4 : decode cX3_layOut 4 = .ok (.getfield 11, 3) := by decide +kernel
theorem dX3_layOut_7 : decode cX3_layOut 7 = .ok (.arraylength, 1) := by decide +kernel
theorem dX3_layOut_8 : decode cX3_layOut 8 = .ok (.if_icmp .ge 16, 3) := by decide +kernel
theorem dX3_layOut_11 : decode cX3_layOut 11 = .ok (.aload_n 0, 1) := by decide +kernel
theorem dX3_layOut_12 : decode cX3_layOut 12 = .ok (.getfield 11, 3) := by decide +kernel
theorem dX3_layOut_15 : decode cX3_layOut 15 = .ok (.iload_n 2, 1) := by decide +kernel
theorem dX3_layOut_16 : decode cX3_layOut 16 = .ok (.iconst 0, 1) := by decide +kernel
theorem dX3_layOut_17 : decode cX3_layOut 17 = .ok (.bastore, 1) := by decide +kernel
theorem dX3_layOut_18 : decode cX3_layOut 18 = .ok (.iinc 2 1, 3) := by decide +kernel
theorem dX3_layOut_21 : decode cX3_layOut 21 = .ok (.goto (-19), 3) := by decide +kernel
theorem dX3_layOut_24 : decode cX3_layOut 24 = .ok (.aload_n 0, 1) := by decide +kernel
theorem dX3_layOut_25 : decode cX3_layOut 25 = .ok (.iload_n 1, 1) := by decide +kernel
theorem dX3_layOut_26 : decode cX3_layOut 26 = .ok (.putfield 15, 3) := by decide +kernel
theorem dX3_layOut_29 : decode cX3_layOut 29 = .ok (.return_, 1) := by decide +kernel
theorem dX3_change_0 : decode cX3_change 0 = .ok (.iload_n 1, 1) := by decide +kernel
theorem dX3_change_1 : decode cX3_change 1 = .ok (.ifCond .lt 11, 3) := by decide +kernel
theorem dX3_change_4 : decode cX3_change 4 = .ok (.iload_n 1, 1) := by decide +kernel
theorem dX3_change_5 : decode cX3_change 5 = .ok (.aload_n 0, 1) := by decide +kernel
theorem dX3_change_6 : decode cX3_change 6 = .ok (.getfield 15, 3) := by decide +kernel
theorem dX3_change_9 : decode cX3_change 9 = .ok (.if_icmp .lt 6, 3) := by decide +kernel
theorem dX3_change_12 : decode cX3_change 12 = .ok (.ldc 19, 2) := by decide +kernel
theorem dX3_change_14 : decode cX3_change 14 = .ok (.ireturn, 1) := by decide +kernel
theorem dX3_change_15 : decode cX3_change 15 = .ok (.aload_n 0, 1) := by decide +kernel
theorem dX3_change_16 : decode cX3_change 16 = .ok (.getfield 11, 3) := by decide +kernel
theorem dX3_change_19 : decode cX3_change 19 = .ok (.iload_n 1, 1) := by decide +kernel
theorem dX3_change_20 : decode cX3_change 20 = .ok (.baload, 1) := by decide +kernel
theorem dX3_change_21 : decode cX3_change 21 = .ok (.istore_n 3, 1) := by decide +kernel
theorem dX3_change_22 : decode cX3_change 22 = .ok (.aload_n 0, 1) := by decide +kernel
theorem dX3_change_23 : decode cX3_change 23 = .ok (.getfield 11, 3) := by decide +kernel
theorem dX3_change_26 : decode cX3_change 26 = .ok (.iload_n 1, 1) := by decide +kernel
theorem dX3_change_27 : decode cX3_change 27 = .ok (.iload_n 2, 1) := by decide +kernel
theorem dX3_change_28 : decode cX3_change 28 = .ok (.bastore, 1) := by decide +kernel
theorem dX3_change_29 : decode cX3_change 29 = .ok (.iload_n 3, 1) := by decide +kernel
theorem dX3_change_30 : decode cX3_change 30 = .ok (.ireturn, 1) := by decide +kernel
theorem dX4_init_0 : decode cX4_init 0 = .ok (.aload_n 0, 1) := by decide +kernel
theorem dX4_init_1 : decode cX4_init 1 = .ok (.invokespecial 3, 3) := by decide +kernel
theorem dX4_init_4 : decode cX4_init 4 = .ok (.aload_n 0, 1) := by decide +kernel
theorem dX4_init_5 : decode cX4_init 5 = .ok (.bipush 20, 2) := by decide +kernel
theorem dX4_init_7 : decode cX4_init 7 = .ok (.newarray .int, 2) := by decide +kernel
theorem dX4_init_9 : decode cX4_init 9 = .ok (.putfield 11, 3) := by decide +kernel
theorem dX4_init_12 : decode cX4_init 12 = .ok (.aload_n 0, 1) := by decide +kernel
theorem dX4_init_13 : decode cX4_init 13 = .ok (.bipush 20, 2) := by decide +kernel
theorem dX4_init_15 : decode cX4_init 15 = .ok (.newarray .int, 2) := by decide +kernel
theorem dX4_init_17 : decode cX4_init 17 = .ok (.putfield 15, 3) := by decide +kernel
theorem dX4_init_20 : decode cX4_init 20 = .ok (.aload_n 0, 1) := by decide +kernel
theorem dX4_init_21 : decode cX4_init 21 = .ok (.iconst 0, 1) := by decide +kernel
theorem dX4_init_22 : decode cX4_init 22 = .ok (.putfield 18, 3) := by decide +kernel
theorem dX4_init_25 : decode cX4_init 25 = .ok (.return_, 1) := by decide +kernel
theorem dX4_take_0 : decode cX4_take 0 = .ok (.aload_n 0, 1) := by decide +kernel
theorem dX4_take_1 : decode cX4_take 1 = .ok (.getfield 18, 3) := by decide +kernel
theorem dX4_take_4 : decode cX4_take 4 = .ok (.bipush 20, 2) := by decide +kernel
theorem dX4_take_6 : decode cX4_take 6 = .ok (.if_icmp .lt 6, 3) := by decide +kernel
theorem dX4_take_9 : decode cX4_take 9 = .ok (.ldc 22, 2) := by decide +kernel
theorem dX4_take_11 : decode cX4_take 11 = .ok (.ireturn, 1) := by decide +kernel
theorem dX4_take_12 : decode cX4_take 12 = .ok (.aload_n 0, 1) := by decide +kernel
theorem dX4_take_13 : decode cX4_take 13 = .ok (.getfield 11, 3) := by decide +kernel
theorem dX4_take_16 : decode cX4_take 16 = .ok (.aload_n 0, 1) := by decide +kernel
theorem dX4_take_17 : decode cX4_take 17 = .ok (.getfield 18, 3) := by decide +kernel
theorem dX4_take_20 : decode cX4_take 20 = .ok (.iload_n 1, 1) := by decide +kernel
theorem dX4_take_21 : decode cX4_take 21 = .ok (.iastore, 1) := by decide +kernel
theorem dX4_take_22 : decode cX4_take 22 = .ok (.aload_n 0, 1) := by decide +kernel
theorem dX4_take_23 : decode cX4_take 23 = .ok (.getfield 15, 3) := by decide +kernel
theorem dX4_take_26 : decode cX4_take 26 = .ok (.aload_n 0, 1) := by decide +kernel
theorem dX4_take_27 : decode cX4_take 27 = .ok (.getfield 18, 3) := by decide +kernel
theorem dX4_take_30 : decode cX4_take 30 = .ok (.iload_n 2, 1) := by decide +kernel
theorem dX4_take_31 : decode cX4_take 31 = .ok (.iastore, 1) := by decide +kernel
theorem dX4_take_32 : decode cX4_take 32 = .ok (.aload_n 0, 1) := by decide +kernel
theorem dX4_take_33 : decode cX4_take 33 = .ok (.dup, 1) := by decide +kernel
theorem dX4_take_34 : decode cX4_take 34 = .ok (.getfield 18, 3) := by decide +kernel
theorem dX4_take_37 : decode cX4_take 37 = .ok (.iconst 1, 1) := by decide +kernel
theorem dX4_take_38 : decode cX4_take 38 = .ok (.iadd, 1) := by decide +kernel
theorem dX4_take_39 : decode cX4_take 39 = .ok (.putfield 18, 3) := by decide +kernel
theorem dX4_take_42 : decode cX4_take 42 = .ok (.aload_n 0, 1) := by decide +kernel
theorem dX4_take_43 : decode cX4_take 43 = .ok (.getfield 18, 3) := by decide +kernel
theorem dX4_take_46 : decode cX4_take 46 = .ok (.ireturn, 1) := by decide +kernel
theorem dX4_endOf_0 : decode cX4_endOf 0 = .ok (.iconst 0, 1) := by decide +kernel
theorem dX4_endOf_1 : decode cX4_endOf 1 = .ok (.istore_n 2, 1) := by decide +kernel
theorem dX4_endOf_2 : decode cX4_endOf 2 = .ok (.iconst 0, 1) := by decide +kernel
theorem dX4_endOf_3 : decode cX4_endOf 3 = .ok (.istore_n 3, 1) := by decide +kernel
theorem dX4_endOf_4 : decode cX4_endOf 4 = .ok (.iload_n 3, 1) := by decide +kernel
theorem dX4_endOf_5 : decode cX4_endOf 5 = .ok (.iload_n 1, 1) := by decide +kernel
theorem dX4_endOf_6 : decode cX4_endOf 6 = .ok (.if_icmp .gt 33, 3) := by decide +kernel
theorem dX4_endOf_9 : decode cX4_endOf 9 = .ok (.iload_n 3, 1) := by decide +kernel
theorem dX4_endOf_10 : decode cX4_endOf 10 = .ok (.aload_n 0, 1) := by decide +kernel
theorem dX4_endOf_11 : decode cX4_endOf 11 = .ok (.getfield 18, 3) := by decide +kernel
theorem dX4_endOf_14 : decode cX4_endOf 14 = .ok (.if_icmp .ge 25, 3) := by decide +kernel
theorem dX4_endOf_17 : decode cX4_endOf 17 = .ok (.iload_n 2, 1) := by decide +kernel
theorem dX4_endOf_18 : decode cX4_endOf 18 = .ok (.aload_n 0, 1) := by decide +kernel
theorem dX4_endOf_19 : decode cX4_endOf 19 = .ok (.getfield 11, 3) := by decide +kernel
theorem dX4_endOf_22 : decode cX4_endOf 22 = .ok (.iload_n 3, 1) := by decide +kernel
theorem dX4_endOf_23 : decode cX4_endOf 23 = .ok (.iaload, 1) := by decide +kernel
theorem dX4_endOf_24 : decode cX4_endOf 24 = .ok (.aload_n 0, 1) := by decide +kernel
theorem dX4_endOf_25 : decode cX4_endOf 25 = .ok (.getfield 15, 3) := by decide +kernel
theorem dX4_endOf_28 : decode cX4_endOf 28 = .ok (.iload_n 3, 1) := by decide +kernel
theorem dX4_endOf_29 : decode cX4_endOf 29 = .ok (.iaload, 1) := by decide +kernel
theorem dX4_endOf_30 : decode cX4_endOf 30 = .ok (.iadd, 1) := by decide +kernel
theorem dX4_endOf_31 : decode cX4_endOf 31 = .ok (.iadd, 1) := by decide +kernel
theorem dX4_endOf_32 : decode cX4_endOf 32 = .ok (.istore_n 2, 1) := by decide +kernel
theorem dX4_endOf_33 : decode cX4_endOf 33 = .ok (.iinc 3 1, 3) := by decide +kernel
theorem dX4_endOf_36 : decode cX4_endOf 36 = .ok (.goto (-32), 3) := by decide +kernel
theorem dX4_endOf_39 : decode cX4_endOf 39 = .ok (.iload_n 2, 1) := by decide +kernel
theorem dX4_endOf_40 : decode cX4_endOf 40 = .ok (.ireturn, 1) := by decide +kernel
theorem dX4_endWithoutLastGap_0 : decode cX4_endWithoutLastGap 0 = .ok (.aload_n 0, 1) := by decide +kernel
theorem dX4_endWithoutLastGap_1 : decode cX4_endWithoutLastGap 1 = .ok (.getfield 18, 3) := by decide +kernel
theorem dX4_endWithoutLastGap_4 : decode cX4_endWithoutLastGap 4 = .ok (.ifCond .gt 7, 3) := by decide +kernel
theorem dX4_endWithoutLastGap_7 : decode cX4_endWithoutLastGap 7 = .ok (.iconst 0, 1) := by decide +kernel
theorem dX4_endWithoutLastGap_8 : decode cX4_endWithoutLastGap 8 = .ok (.goto 25, 3) := by decide +kernel
theorem dX4_endWithoutLastGap_11 : decode cX4_endWithoutLastGap 11 = .ok (.aload_n 0, 1) := by decide +kernel
theorem dX4_endWithoutLastGap_12 : decode cX4_endWithoutLastGap 12 = .ok (.aload_n 0, 1) := by decide +kernel
theorem dX4_endWithoutLastGap_13 : decode cX4_endWithoutLastGap 13 = .ok (.getfield 18, 3) := by decide +kernel
theorem dX4_endWithoutLastGap_16 : decode cX4_endWithoutLastGap 16 = .ok (.iconst 1, 1) := by decide +kernel
theorem dX4_endWithoutLastGap_17 : decode cX4_endWithoutLastGap 17 = .ok (.isub, 1) := by decide +kernel
theorem dX4_endWithoutLastGap_18 : decode cX4_endWithoutLastGap 18 = .ok (.invokevirtual 23, 3) := by decide +kernel
theorem dX4_endWithoutLastGap_21 : decode cX4_endWithoutLastGap 21 = .ok (.aload_n 0, 1) := by decide +kernel
theorem dX4_endWithoutLastGap_22 : decode cX4_endWithoutLastGap 22 = .ok (.getfield 15, 3) := by decide +kernel
theorem dX4_endWithoutLastGap_25 : decode cX4_endWithoutLastGap 25 = .ok (.aload_n 0, 1) := by decide +kernel
theorem dX4_endWithoutLastGap_26 : decode cX4_endWithoutLastGap 26 = .ok (.getfield 18, 3) := by decide +kernel
theorem dX4_endWithoutLastGap_29 : decode cX4_endWithoutLastGap 29 = .ok (.iconst 1, 1) := by decide +kernel
theorem dX4_endWithoutLastGap_30 : decode cX4_endWithoutLastGap 30 = .ok (.isub, 1) := by decide +kernel
theorem dX4_endWithoutLastGap_31 : decode cX4_endWithoutLastGap 31 = .ok (.iaload, 1) := by decide +kernel
theorem dX4_endWithoutLastGap_32 : decode cX4_endWithoutLastGap 32 = .ok (.isub, 1) := by decide +kernel
theorem dX4_endWithoutLastGap_33 : decode cX4_endWithoutLastGap 33 = .ok (.ireturn, 1) := by decide +kernel
theorem dX4_endsAtOne_0 : decode cX4_endsAtOne 0 = .ok (.iload_n 1, 1) := by decide +kernel
theorem dX4_endsAtOne_1 : decode cX4_endsAtOne 1 = .ok (.ifCond .gt 5, 3) := by decide +kernel
theorem dX4_endsAtOne_4 : decode cX4_endsAtOne 4 = .ok (.iconst 0, 1) := by decide +kernel
theorem dX4_endsAtOne_5 : decode cX4_endsAtOne 5 = .ok (.ireturn, 1) := by decide +kernel
theorem dX4_endsAtOne_6 : decode cX4_endsAtOne 6 = .ok (.iconst 0, 1) := by decide +kernel
theorem dX4_endsAtOne_7 : decode cX4_endsAtOne 7 = .ok (.istore_n 2, 1) := by decide +kernel
theorem dX4_endsAtOne_8 : decode cX4_endsAtOne 8 = .ok (.iconst 0, 1) := by decide +kernel
theorem dX4_endsAtOne_9 : decode cX4_endsAtOne 9 = .ok (.istore_n 3, 1) := by decide +kernel
theorem dX4_endsAtOne_10 : decode cX4_endsAtOne 10 = .ok (.iconst 0, 1) := by decide +kernel
theorem dX4_endsAtOne_11 : decode cX4_endsAtOne 11 = .ok (.istore 4, 2) := by decide +kernel
theorem dX4_endsAtOne_13 : decode cX4_endsAtOne 13 = .ok (.iload 4, 2) := by decide +kernel
theorem dX4_endsAtOne_15 : decode cX4_endsAtOne 15 = .ok (.aload_n 0, 1) := by decide +kernel
theorem dX4_endsAtOne_16 : decode cX4_endsAtOne 16 = .ok (.getfield 18, 3) := by decide +kernel
theorem dX4_endsAtOne_19 : decode cX4_endsAtOne 19 = .ok (.if_icmp .ge 36, 3) := by decide +kernel
theorem dX4_endsAtOne_22 : decode cX4_endsAtOne 22 = .ok (.iload_n 3, 1) := by decide +kernel
theorem dX4_endsAtOne_23 : decode cX4_endsAtOne 23 = .ok (.aload_n 0, 1) := by decide +kernel
theorem dX4_endsAtOne_24 : decode cX4_endsAtOne 24 = .ok (.getfield 11, 3) := by decide +kernel
theorem dX4_endsAtOne_27 : decode cX4_endsAtOne 27 = .ok (.iload 4, 2) := by decide +kernel
theorem dX4_endsAtOne_29 : decode cX4_endsAtOne 29 = .ok (.iaload, 1) := by decide +kernel
theorem dX4_endsAtOne_30 : decode cX4_endsAtOne 30 = .ok (.aload_n 0, 1) := by decide +kernel
theorem dX4_endsAtOne_31 : decode cX4_endsAtOne 31 = .ok (.getfield 15, 3) := by decide +kernel
theorem dX4_endsAtOne_34 : decode cX4_endsAtOne 34 = .ok (.iload 4, 2) := by decide +kernel
theorem dX4_endsAtOne_36 : decode cX4_endsAtOne 36 = .ok (.iaload, 1) := by decide +kernel
theorem dX4_endsAtOne_37 : decode cX4_endsAtOne 37 = .ok (.iadd, 1) := by decide +kernel
theorem dX4_endsAtOne_38 : decode cX4_endsAtOne 38 = .ok (.iadd, 1) := by decide +kernel
theorem dX4_endsAtOne_39 : decode cX4_endsAtOne 39 = .ok (.istore_n 3, 1) := by decide +kernel
theorem dX4_endsAtOne_40 : decode cX4_endsAtOne 40 = .ok (.iload_n 3, 1) := by decide +kernel
theorem dX4_endsAtOne_41 : decode cX4_endsAtOne 41 = .ok (.iload_n 1, 1) := by decide +kernel
theorem dX4_endsAtOne_42 : decode cX4_endsAtOne 42 = .ok (.irem, 1) := by decide +kernel
theorem dX4_endsAtOne_43 : decode cX4_endsAtOne 43 = .ok (.ifCond .ne 6, 3) := by decide +kernel
theorem dX4_endsAtOne_46 : decode cX4_endsAtOne 46 = .ok (.iinc 2 1, 3) := by decide +kernel
theorem dX4_endsAtOne_49 : decode cX4_endsAtOne 49 = .ok (.iinc 4 1, 3) := by decide +kernel
theorem dX4_endsAtOne_52 : decode cX4_endsAtOne 52 = .ok (.goto (-39), 3) := by decide +kernel
theorem dX4_endsAtOne_55 : decode cX4_endsAtOne 55 = .ok (.iload_n 2, 1) := by decide +kernel
theorem dX4_endsAtOne_56 : decode cX4_endsAtOne 56 = .ok (.ireturn, 1) := by decide +kernel
theorem dX5_init_0 : decode cX5_init 0 = .ok (.aload_n 0, 1) := by decide +kernel
theorem dX5_init_1 : decode cX5_init 1 = .ok (.invokespecial 3, 3) := by decide +kernel
theorem dX5_init_4 : decode cX5_init 4 = .ok (.aload_n 0, 1) := by decide +kernel
theorem dX5_init_5 : decode cX5_init 5 = .ok (.bipush 60, 2) := by decide +kernel
theorem dX5_init_7 : decode cX5_init 7 = .ok (.newarray .byte, 2) := by decide +kernel
theorem dX5_init_9 : decode cX5_init 9 = .ok (.putfield 11, 3) := by decide +kernel
theorem dX5_init_12 : decode cX5_init 12 = .ok (.aload_n 0, 1) := by decide +kernel
theorem dX5_init_13 : decode cX5_init 13 = .ok (.iconst 0, 1) := by decide +kernel
theorem dX5_init_14 : decode cX5_init 14 = .ok (.putfield 15, 3) := by decide +kernel
theorem dX5_init_17 : decode cX5_init 17 = .ok (.aload_n 0, 1) := by decide +kernel
theorem dX5_init_18 : decode cX5_init 18 = .ok (.bipush 60, 2) := by decide +kernel
theorem dX5_init_20 : decode cX5_init 20 = .ok (.newarray .byte, 2) := by decide +kernel
theorem dX5_init_22 : decode cX5_init 22 = .ok (.putfield 21, 3) := by decide +kernel
theorem dX5_init_25 : decode cX5_init 25 = .ok (.aload_n 0, 1) := by decide +kernel
theorem dX5_init_26 : decode cX5_init 26 = .ok (.bipush 6, 2) := by decide +kernel
theorem dX5_init_28 : decode cX5_init 28 = .ok (.newarray .int, 2) := by decide +kernel
theorem dX5_init_30 : decode cX5_init 30 = .ok (.putfield 24, 3) := by decide +kernel
theorem dX5_init_33 : decode cX5_init 33 = .ok (.aload_n 0, 1) := by decide +kernel
theorem dX5_init_34 : decode cX5_init 34 = .ok (.bipush 6, 2) := by decide +kernel
theorem dX5_init_36 : decode cX5_init 36 = .ok (.newarray .int, 2) := by decide +kernel
theorem dX5_init_38 : decode cX5_init 38 = .ok (.putfield 28, 3) := by decide +kernel
theorem dX5_init_41 : decode cX5_init 41 = .ok (.return_, 1) := by decide +kernel
theorem dX5_hasRoomFor_0 : decode cX5_hasRoomFor 0 = .ok (.aload_n 0, 1) := by decide +kernel
theorem dX5_hasRoomFor_1 : decode cX5_hasRoomFor 1 = .ok (.getfield 15, 3) := by decide +kernel
theorem dX5_hasRoomFor_4 : decode cX5_hasRoomFor 4 = .ok (.iload_n 1, 1) := by decide +kernel
theorem dX5_hasRoomFor_5 : decode cX5_hasRoomFor 5 = .ok (.iadd, 1) := by decide +kernel
theorem dX5_hasRoomFor_6 : decode cX5_hasRoomFor 6 = .ok (.bipush 60, 2) := by decide +kernel
theorem dX5_hasRoomFor_8 : decode cX5_hasRoomFor 8 = .ok (.if_icmp .gt 7, 3) := by decide +kernel
theorem dX5_hasRoomFor_11 : decode cX5_hasRoomFor 11 = .ok (.iconst 1, 1) := by decide +kernel
theorem dX5_hasRoomFor_12 : decode cX5_hasRoomFor 12 = .ok (.goto 4, 3) := by decide +kernel
theorem dX5_hasRoomFor_15 : decode cX5_hasRoomFor 15 = .ok (.iconst 0, 1) := by decide +kernel
theorem dX5_hasRoomFor_16 : decode cX5_hasRoomFor 16 = .ok (.ireturn, 1) := by decide +kernel
end
section
theorem dX5_write_0 : decode cX5_write 0 = .ok (.bipush 24, 2) := by decide +kernel
theorem dX5_write_2 : decode cX5_write 2 = .ok (.istore_n 2, 1) := by decide +kernel
theorem dX5_write_3 : decode cX5_write 3 = .ok (.iload_n 2, 1) := by decide +kernel
theorem dX5_write_4 : decode cX5_write 4 = .ok (.ifCond .lt 41, 3) := by decide +kernel
theorem dX5_write_7 : decode cX5_write 7 = .ok (.aload_n 0, 1) := by decide +kernel
theorem dX5_write_8 : decode cX5_write 8 = .ok (.getfield 15, 3) := by decide +kernel
theorem dX5_write_11 : decode cX5_write 11 = .ok (.bipush 60, 2) := by decide +kernel
theorem dX5_write_13 : decode cX5_write 13 = .ok (.if_icmp .ge 26, 3) := by decide +kernel
theorem dX5_write_16 : decode cX5_write 16 = .ok (.aload_n 0, 1) := by decide +kernel
theorem dX5_write_17 : decode cX5_write 17 = .ok (.getfield 11, 3) := by decide +kernel
theorem dX5_write_20 : decode cX5_write 20 = .ok (.aload_n 0, 1) := by decide +kernel
theorem dX5_write_21 : decode cX5_write 21 = .ok (.getfield 15, 3) := by decide +kernel
theorem dX5_write_24 : decode cX5_write 24 = .ok (.iload_n 1, 1) := by decide +kernel
theorem dX5_write_25 : decode cX5_write 25 = .ok (.iload_n 2, 1) := by decide +kernel
theorem dX5_write_26 : decode cX5_write 26 = .ok (.ishr, 1) := by decide +kernel
theorem dX5_write_27 : decode cX5_write 27 = .ok (.i2b, 1) := by decide +kernel
theorem dX5_write_28 : decode cX5_write 28 = .ok (.bastore, 1) := by decide +kernel
theorem dX5_write_29 : decode cX5_write 29 = .ok (.aload_n 0, 1) := by decide +kernel
theorem dX5_write_30 : decode cX5_write 30 = .ok (.dup, 1) := by decide +kernel
theorem dX5_write_31 : decode cX5_write 31 = .ok (.getfield 15, 3) := by decide +kernel
theorem dX5_write_34 : decode cX5_write 34 = .ok (.iconst 1, 1) := by decide +kernel
theorem dX5_write_35 : decode cX5_write 35 = .ok (.iadd, 1) := by decide +kernel
theorem dX5_write_36 : decode cX5_write 36 = .ok (.putfield 15, 3) := by decide +kernel
theorem dX5_write_39 : decode cX5_write 39 = .ok (.iinc 2 (-8), 3) := by decide +kernel
theorem dX5_write_42 : decode cX5_write 42 = .ok (.goto (-39), 3) := by decide +kernel
theorem dX5_write_45 : decode cX5_write 45 = .ok (.return_, 1) := by decide +kernel
theorem dX5_readInto_0 : decode cX5_readInto 0 = .ok (.aload_n 0, 1) := by decide +kernel
theorem dX5_readInto_1 : decode cX5_readInto 1 = .ok (.invokevirtual 31, 3) := by decide +kernel
theorem dX5_readInto_4 : decode cX5_readInto 4 = .ok (.istore_n 2, 1) := by decide +kernel
theorem dX5_readInto_5 : decode cX5_readInto 5 = .ok (.iload_n 2, 1) := by decide +kernel
theorem dX5_readInto_6 : decode cX5_readInto 6 = .ok (.ifCond .lt 8, 3) := by decide +kernel
theorem dX5_readInto_9 : decode cX5_readInto 9 = .ok (.bipush (-100), 2) := by decide +kernel
theorem dX5_readInto_11 : decode cX5_readInto 11 = .ok (.iload_n 2, 1) := by decide +kernel
theorem dX5_readInto_12 : decode cX5_readInto 12 = .ok (.isub, 1) := by decide +kernel
theorem dX5_readInto_13 : decode cX5_readInto 13 = .ok (.ireturn, 1) := by decide +kernel
theorem dX5_readInto_14 : decode cX5_readInto 14 = .ok (.aload_n 0, 1) := by decide +kernel
theorem dX5_readInto_15 : decode cX5_readInto 15 = .ok (.invokevirtual 35, 3) := by decide +kernel
theorem dX5_readInto_18 : decode cX5_readInto 18 = .ok (.istore_n 3, 1) := by decide +kernel
theorem dX5_readInto_19 : decode cX5_readInto 19 = .ok (.iload_n 3, 1) := by decide +kernel
theorem dX5_readInto_20 : decode cX5_readInto 20 = .ok (.ifCond .ge 6, 3) := by decide +kernel
theorem dX5_readInto_23 : decode cX5_readInto 23 = .ok (.ldc 38, 2) := by decide +kernel
theorem dX5_readInto_25 : decode cX5_readInto 25 = .ok (.ireturn, 1) := by decide +kernel
theorem dX5_readInto_26 : decode cX5_readInto 26 = .ok (.aload_n 0, 1) := by decide +kernel
theorem dX5_readInto_27 : decode cX5_readInto 27 = .ok (.getfield 21, 3) := by decide +kernel
theorem dX5_readInto_30 : decode cX5_readInto 30 = .ok (.iconst 0, 1) := by decide +kernel
theorem dX5_readInto_31 : decode cX5_readInto 31 = .ok (.aload_n 1, 1) := by decide +kernel
theorem dX5_readInto_32 : decode cX5_readInto 32 = .ok (.getfield 39, 3) := by decide +kernel
theorem dX5_readInto_35 : decode cX5_readInto 35 = .ok (.iconst 0, 1) := by decide +kernel
theorem dX5_readInto_36 : decode cX5_readInto 36 = .ok (.iload_n 3, 1) := by decide +kernel
theorem dX5_readInto_37 : decode cX5_readInto 37 = .ok (.invokestatic 42, 3) := by decide +kernel
theorem dX5_readInto_40 : decode cX5_readInto 40 = .ok (.aload_n 1, 1) := by decide +kernel
theorem dX5_readInto_41 : decode cX5_readInto 41 = .ok (.iload_n 3, 1) := by decide +kernel
theorem dX5_readInto_42 : decode cX5_readInto 42 = .ok (.putfield 48, 3) := by decide +kernel
theorem dX5_readInto_45 : decode cX5_readInto 45 = .ok (.iload_n 3, 1) := by decide +kernel
theorem dX5_readInto_46 : decode cX5_readInto 46 = .ok (.ireturn, 1) := by decide +kernel
theorem dX5_faultPlace_0 : decode cX5_faultPlace 0 = .ok (.iconst 0, 1) := by decide +kernel
theorem dX5_faultPlace_1 : decode cX5_faultPlace 1 = .ok (.istore_n 1, 1) := by decide +kernel
theorem dX5_faultPlace_2 : decode cX5_faultPlace 2 = .ok (.iconst 1, 1) := by decide +kernel
theorem dX5_faultPlace_3 : decode cX5_faultPlace 3 = .ok (.istore_n 2, 1) := by decide +kernel
theorem dX5_faultPlace_4 : decode cX5_faultPlace 4 = .ok (.iconst 0, 1) := by decide +kernel
theorem dX5_faultPlace_5 : decode cX5_faultPlace 5 = .ok (.istore_n 3, 1) := by decide +kernel
theorem dX5_faultPlace_6 : decode cX5_faultPlace 6 = .ok (.iload_n 3, 1) := by decide +kernel
theorem dX5_faultPlace_7 : decode cX5_faultPlace 7 = .ok (.aload_n 0, 1) := by decide +kernel
theorem dX5_faultPlace_8 : decode cX5_faultPlace 8 = .ok (.getfield 15, 3) := by decide +kernel
theorem dX5_faultPlace_11 : decode cX5_faultPlace 11 = .ok (.if_icmp .ge 91, 3) := by decide +kernel
theorem dX5_faultPlace_14 : decode cX5_faultPlace 14 = .ok (.aload_n 0, 1) := by decide +kernel
theorem dX5_faultPlace_15 : decode cX5_faultPlace 15 = .ok (.getfield 11, 3) := by decide +kernel
theorem dX5_faultPlace_18 : decode cX5_faultPlace 18 = .ok (.iload_n 3, 1) := by decide +kernel
theorem dX5_faultPlace_19 : decode cX5_faultPlace 19 = .ok (.baload, 1) := by decide +kernel
theorem dX5_faultPlace_20 : decode cX5_faultPlace 20 = .ok (.istore 4, 2) := by decide +kernel
theorem dX5_faultPlace_22 : decode cX5_faultPlace 22 = .ok (.iload 4, 2) := by decide +kernel
theorem dX5_faultPlace_24 : decode cX5_faultPlace 24 = .ok (.bipush 40, 2) := by decide +kernel
theorem dX5_faultPlace_26 : decode cX5_faultPlace 26 = .ok (.if_icmp .ne 19, 3) := by decide +kernel
theorem dX5_faultPlace_29 : decode cX5_faultPlace 29 = .ok (.iload_n 1, 1) := by decide +kernel
theorem dX5_faultPlace_30 : decode cX5_faultPlace 30 = .ok (.bipush 6, 2) := by decide +kernel
theorem dX5_faultPlace_32 : decode cX5_faultPlace 32 = .ok (.if_icmp .lt 5, 3) := by decide +kernel
theorem dX5_faultPlace_35 : decode cX5_faultPlace 35 = .ok (.iload_n 3, 1) := by decide +kernel
theorem dX5_faultPlace_36 : decode cX5_faultPlace 36 = .ok (.ireturn, 1) := by decide +kernel
theorem dX5_faultPlace_37 : decode cX5_faultPlace 37 = .ok (.iinc 1 1, 3) := by decide +kernel
theorem dX5_faultPlace_40 : decode cX5_faultPlace 40 = .ok (.iconst 1, 1) := by decide +kernel
theorem dX5_faultPlace_41 : decode cX5_faultPlace 41 = .ok (.istore_n 2, 1) := by decide +kernel
theorem dX5_faultPlace_42 : decode cX5_faultPlace 42 = .ok (.goto 54, 3) := by decide +kernel
theorem dX5_faultPlace_45 : decode cX5_faultPlace 45 = .ok (.iload 4, 2) := by decide +kernel
theorem dX5_faultPlace_47 : decode cX5_faultPlace 47 = .ok (.bipush 41, 2) := by decide +kernel
theorem dX5_faultPlace_49 : decode cX5_faultPlace 49 = .ok (.if_icmp .ne 19, 3) := by decide +kernel
theorem dX5_faultPlace_52 : decode cX5_faultPlace 52 = .ok (.iload_n 2, 1) := by decide +kernel
theorem dX5_faultPlace_53 : decode cX5_faultPlace 53 = .ok (.ifCond .ne 7, 3) := by decide +kernel
theorem dX5_faultPlace_56 : decode cX5_faultPlace 56 = .ok (.iload_n 1, 1) := by decide +kernel
theorem dX5_faultPlace_57 : decode cX5_faultPlace 57 = .ok (.ifCond .ne 5, 3) := by decide +kernel
theorem dX5_faultPlace_60 : decode cX5_faultPlace 60 = .ok (.iload_n 3, 1) := by decide +kernel
theorem dX5_faultPlace_61 : decode cX5_faultPlace 61 = .ok (.ireturn, 1) := by decide +kernel
theorem dX5_faultPlace_62 : decode cX5_faultPlace 62 = .ok (.iinc 1 (-1), 3) := by decide +kernel
theorem dX5_faultPlace_65 : decode cX5_faultPlace 65 = .ok (.goto 31, 3) := by decide +kernel
theorem dX5_faultPlace_68 : decode cX5_faultPlace 68 = .ok (.iload 4, 2) := by decide +kernel
theorem dX5_faultPlace_70 : decode cX5_faultPlace 70 = .ok (.invokestatic 49, 3) := by decide +kernel
theorem dX5_faultPlace_73 : decode cX5_faultPlace 73 = .ok (.ifCond .eq 8, 3) := by decide +kernel
theorem dX5_faultPlace_76 : decode cX5_faultPlace 76 = .ok (.iconst 1, 1) := by decide +kernel
theorem dX5_faultPlace_77 : decode cX5_faultPlace 77 = .ok (.istore_n 2, 1) := by decide +kernel
theorem dX5_faultPlace_78 : decode cX5_faultPlace 78 = .ok (.goto 18, 3) := by decide +kernel
theorem dX5_faultPlace_81 : decode cX5_faultPlace 81 = .ok (.iload 4, 2) := by decide +kernel
theorem dX5_faultPlace_83 : decode cX5_faultPlace 83 = .ok (.invokestatic 53, 3) := by decide +kernel
theorem dX5_faultPlace_86 : decode cX5_faultPlace 86 = .ok (.ifCond .lt 8, 3) := by decide +kernel
theorem dX5_faultPlace_89 : decode cX5_faultPlace 89 = .ok (.iconst 0, 1) := by decide +kernel
theorem dX5_faultPlace_90 : decode cX5_faultPlace 90 = .ok (.istore_n 2, 1) := by decide +kernel
theorem dX5_faultPlace_91 : decode cX5_faultPlace 91 = .ok (.goto 5, 3) := by decide +kernel
theorem dX5_faultPlace_94 : decode cX5_faultPlace 94 = .ok (.iload_n 3, 1) := by decide +kernel
theorem dX5_faultPlace_95 : decode cX5_faultPlace 95 = .ok (.ireturn, 1) := by decide +kernel
theorem dX5_faultPlace_96 : decode cX5_faultPlace 96 = .ok (.iinc 3 1, 3) := by decide +kernel
theorem dX5_faultPlace_99 : decode cX5_faultPlace 99 = .ok (.goto (-93), 3) := by decide +kernel
theorem dX5_faultPlace_102 : decode cX5_faultPlace 102 = .ok (.iload_n 2, 1) := by decide +kernel
theorem dX5_faultPlace_103 : decode cX5_faultPlace 103 = .ok (.ifCond .ne 7, 3) := by decide +kernel
theorem dX5_faultPlace_106 : decode cX5_faultPlace 106 = .ok (.iload_n 1, 1) := by decide +kernel
theorem dX5_faultPlace_107 : decode cX5_faultPlace 107 = .ok (.ifCond .le 10, 3) := by decide +kernel
theorem dX5_faultPlace_110 : decode cX5_faultPlace 110 = .ok (.aload_n 0, 1) := by decide +kernel
theorem dX5_faultPlace_111 : decode cX5_faultPlace 111 = .ok (.getfield 15, 3) := by decide +kernel
theorem dX5_faultPlace_114 : decode cX5_faultPlace 114 = .ok (.goto 4, 3) := by decide +kernel
theorem dX5_faultPlace_117 : decode cX5_faultPlace 117 = .ok (.iconst (-1), 1) := by decide +kernel
theorem dX5_faultPlace_118 : decode cX5_faultPlace 118 = .ok (.ireturn, 1) := by decide +kernel
theorem dX5_speak_0 : decode cX5_speak 0 = .ok (.iconst 0, 1) := by decide +kernel
theorem dX5_speak_1 : decode cX5_speak 1 = .ok (.istore_n 1, 1) := by decide +kernel
theorem dX5_speak_2 : decode cX5_speak 2 = .ok (.iconst 1, 1) := by decide +kernel
theorem dX5_speak_3 : decode cX5_speak 3 = .ok (.istore_n 2, 1) := by decide +kernel
theorem dX5_speak_4 : decode cX5_speak 4 = .ok (.iconst 0, 1) := by decide +kernel
theorem dX5_speak_5 : decode cX5_speak 5 = .ok (.istore_n 3, 1) := by decide +kernel
theorem dX5_speak_6 : decode cX5_speak 6 = .ok (.iconst 0, 1) := by decide +kernel
theorem dX5_speak_7 : decode cX5_speak 7 = .ok (.istore 4, 2) := by decide +kernel
theorem dX5_speak_9 : decode cX5_speak 9 = .ok (.iload 4, 2) := by decide +kernel
theorem dX5_speak_11 : decode cX5_speak 11 = .ok (.aload_n 0, 1) := by decide +kernel
theorem dX5_speak_12 : decode cX5_speak 12 = .ok (.getfield 15, 3) := by decide +kernel
theorem dX5_speak_15 : decode cX5_speak 15 = .ok (.if_icmp .ge 156, 3) := by decide +kernel
theorem dX5_speak_18 : decode cX5_speak 18 = .ok (.aload_n 0, 1) := by decide +kernel
theorem dX5_speak_19 : decode cX5_speak 19 = .ok (.getfield 11, 3) := by decide +kernel
theorem dX5_speak_22 : decode cX5_speak 22 = .ok (.iload 4, 2) := by decide +kernel
theorem dX5_speak_24 : decode cX5_speak 24 = .ok (.baload, 1) := by decide +kernel
theorem dX5_speak_25 : decode cX5_speak 25 = .ok (.istore 5, 2) := by decide +kernel
theorem dX5_speak_27 : decode cX5_speak 27 = .ok (.iload 5, 2) := by decide +kernel
theorem dX5_speak_29 : decode cX5_speak 29 = .ok (.invokestatic 49, 3) := by decide +kernel
theorem dX5_speak_32 : decode cX5_speak 32 = .ok (.ifCond .eq 19, 3) := by decide +kernel
theorem dX5_speak_35 : decode cX5_speak 35 = .ok (.iload_n 2, 1) := by decide +kernel
theorem dX5_speak_36 : decode cX5_speak 36 = .ok (.iload 5, 2) := by decide +kernel
theorem dX5_speak_38 : decode cX5_speak 38 = .ok (.bipush 48, 2) := by decide +kernel
theorem dX5_speak_40 : decode cX5_speak 40 = .ok (.isub, 1) := by decide +kernel
theorem dX5_speak_41 : decode cX5_speak 41 = .ok (.imul, 1) := by decide +kernel
theorem dX5_speak_42 : decode cX5_speak 42 = .ok (.bipush 61, 2) := by decide +kernel
theorem dX5_speak_44 : decode cX5_speak 44 = .ok (.invokestatic 57, 3) := by decide +kernel
theorem dX5_speak_47 : decode cX5_speak 47 = .ok (.istore_n 2, 1) := by decide +kernel
theorem dX5_speak_48 : decode cX5_speak 48 = .ok (.goto 111, 3) := by decide +kernel
theorem dX5_speak_51 : decode cX5_speak 51 = .ok (.iload 5, 2) := by decide +kernel
theorem dX5_speak_53 : decode cX5_speak 53 = .ok (.bipush 40, 2) := by decide +kernel
theorem dX5_speak_55 : decode cX5_speak 55 = .ok (.if_icmp .ne 31, 3) := by decide +kernel
theorem dX5_speak_58 : decode cX5_speak 58 = .ok (.iload_n 3, 1) := by decide +kernel
theorem dX5_speak_59 : decode cX5_speak 59 = .ok (.bipush 6, 2) := by decide +kernel
theorem dX5_speak_61 : decode cX5_speak 61 = .ok (.if_icmp .ge 25, 3) := by decide +kernel
theorem dX5_speak_64 : decode cX5_speak 64 = .ok (.aload_n 0, 1) := by decide +kernel
theorem dX5_speak_65 : decode cX5_speak 65 = .ok (.getfield 24, 3) := by decide +kernel
theorem dX5_speak_68 : decode cX5_speak 68 = .ok (.iload_n 3, 1) := by decide +kernel
theorem dX5_speak_69 : decode cX5_speak 69 = .ok (.iload_n 1, 1) := by decide +kernel
theorem dX5_speak_70 : decode cX5_speak 70 = .ok (.iastore, 1) := by decide +kernel
theorem dX5_speak_71 : decode cX5_speak 71 = .ok (.aload_n 0, 1) := by decide +kernel
theorem dX5_speak_72 : decode cX5_speak 72 = .ok (.getfield 28, 3) := by decide +kernel
theorem dX5_speak_75 : decode cX5_speak 75 = .ok (.iload_n 3, 1) := by decide +kernel
theorem dX5_speak_76 : decode cX5_speak 76 = .ok (.iload_n 2, 1) := by decide +kernel
theorem dX5_speak_77 : decode cX5_speak 77 = .ok (.iastore, 1) := by decide +kernel
theorem dX5_speak_78 : decode cX5_speak 78 = .ok (.iinc 3 1, 3) := by decide +kernel
theorem dX5_speak_81 : decode cX5_speak 81 = .ok (.iconst 1, 1) := by decide +kernel
theorem dX5_speak_82 : decode cX5_speak 82 = .ok (.istore_n 2, 1) := by decide +kernel
theorem dX5_speak_83 : decode cX5_speak 83 = .ok (.goto 76, 3) := by decide +kernel
theorem dX5_speak_86 : decode cX5_speak 86 = .ok (.iload 5, 2) := by decide +kernel
theorem dX5_speak_88 : decode cX5_speak 88 = .ok (.bipush 41, 2) := by decide +kernel
theorem dX5_speak_90 : decode cX5_speak 90 = .ok (.if_icmp .ne 31, 3) := by decide +kernel
theorem dX5_speak_93 : decode cX5_speak 93 = .ok (.iload_n 3, 1) := by decide +kernel
theorem dX5_speak_94 : decode cX5_speak 94 = .ok (.ifCond .le 27, 3) := by decide +kernel
theorem dX5_speak_97 : decode cX5_speak 97 = .ok (.iinc 3 (-1), 3) := by decide +kernel
theorem dX5_speak_100 : decode cX5_speak 100 = .ok (.aload_n 0, 1) := by decide +kernel
theorem dX5_speak_101 : decode cX5_speak 101 = .ok (.aload_n 0, 1) := by decide +kernel
theorem dX5_speak_102 : decode cX5_speak 102 = .ok (.getfield 24, 3) := by decide +kernel
theorem dX5_speak_105 : decode cX5_speak 105 = .ok (.iload_n 3, 1) := by decide +kernel
theorem dX5_speak_106 : decode cX5_speak 106 = .ok (.iaload, 1) := by decide +kernel
theorem dX5_speak_107 : decode cX5_speak 107 = .ok (.iload_n 1, 1) := by decide +kernel
theorem dX5_speak_108 : decode cX5_speak 108 = .ok (.aload_n 0, 1) := by decide +kernel
theorem dX5_speak_109 : decode cX5_speak 109 = .ok (.getfield 28, 3) := by decide +kernel
theorem dX5_speak_112 : decode cX5_speak 112 = .ok (.iload_n 3, 1) := by decide +kernel
theorem dX5_speak_113 : decode cX5_speak 113 = .ok (.iaload, 1) := by decide +kernel
theorem dX5_speak_114 : decode cX5_speak 114 = .ok (.invokevirtual 63, 3) := by decide +kernel
theorem dX5_speak_117 : decode cX5_speak 117 = .ok (.istore_n 1, 1) := by decide +kernel
theorem dX5_speak_118 : decode cX5_speak 118 = .ok (.goto 41, 3) := by decide +kernel
theorem dX5_speak_121 : decode cX5_speak 121 = .ok (.iload_n 1, 1) := by decide +kernel
theorem dX5_speak_122 : decode cX5_speak 122 = .ok (.aload_n 0, 1) := by decide +kernel
theorem dX5_speak_123 : decode cX5_speak 123 = .ok (.getfield 21, 3) := by decide +kernel
theorem dX5_speak_126 : decode cX5_speak 126 = .ok (.arraylength, 1) := by decide +kernel
theorem dX5_speak_127 : decode cX5_speak 127 = .ok (.if_icmp .ge 30, 3) := by decide +kernel
theorem dX5_speak_130 : decode cX5_speak 130 = .ok (.aload_n 0, 1) := by decide +kernel
theorem dX5_speak_131 : decode cX5_speak 131 = .ok (.getfield 21, 3) := by decide +kernel
theorem dX5_speak_134 : decode cX5_speak 134 = .ok (.iload_n 1, 1) := by decide +kernel
theorem dX5_speak_135 : decode cX5_speak 135 = .ok (.iload 5, 2) := by decide +kernel
theorem dX5_speak_137 : decode cX5_speak 137 = .ok (.invokestatic 53, 3) := by decide +kernel
theorem dX5_speak_140 : decode cX5_speak 140 = .ok (.i2b, 1) := by decide +kernel
theorem dX5_speak_141 : decode cX5_speak 141 = .ok (.bastore, 1) := by decide +kernel
theorem dX5_speak_142 : decode cX5_speak 142 = .ok (.aload_n 0, 1) := by decide +kernel
theorem dX5_speak_143 : decode cX5_speak 143 = .ok (.iload_n 1, 1) := by decide +kernel
theorem dX5_speak_144 : decode cX5_speak 144 = .ok (.iload_n 1, 1) := by decide +kernel
theorem dX5_speak_145 : decode cX5_speak 145 = .ok (.iconst 1, 1) := by decide +kernel
theorem dX5_speak_146 : decode cX5_speak 146 = .ok (.iadd, 1) := by decide +kernel
theorem dX5_speak_147 : decode cX5_speak 147 = .ok (.iload_n 2, 1) := by decide +kernel
theorem dX5_speak_148 : decode cX5_speak 148 = .ok (.invokevirtual 63, 3) := by decide +kernel
theorem dX5_speak_151 : decode cX5_speak 151 = .ok (.istore_n 1, 1) := by decide +kernel
theorem dX5_speak_152 : decode cX5_speak 152 = .ok (.iconst 1, 1) := by decide +kernel
theorem dX5_speak_153 : decode cX5_speak 153 = .ok (.istore_n 2, 1) := by decide +kernel
theorem dX5_speak_154 : decode cX5_speak 154 = .ok (.goto 5, 3) := by decide +kernel
theorem dX5_speak_157 : decode cX5_speak 157 = .ok (.iconst (-1), 1) := by decide +kernel
theorem dX5_speak_158 : decode cX5_speak 158 = .ok (.ireturn, 1) := by decide +kernel
theorem dX5_speak_159 : decode cX5_speak 159 = .ok (.iload_n 1, 1) := by decide +kernel
theorem dX5_speak_160 : decode cX5_speak 160 = .ok (.ifCond .ge 5, 3) := by decide +kernel
theorem dX5_speak_163 : decode cX5_speak 163 = .ok (.iconst (-1), 1) := by decide +kernel
theorem dX5_speak_164 : decode cX5_speak 164 = .ok (.ireturn, 1) := by decide +kernel
theorem dX5_speak_165 : decode cX5_speak 165 = .ok (.iinc 4 1, 3) := by decide +kernel
theorem dX5_speak_168 : decode cX5_speak 168 = .ok (.goto (-159), 3) := by decide +kernel
theorem dX5_speak_171 : decode cX5_speak 171 = .ok (.iload_n 1, 1) := by decide +kernel
theorem dX5_speak_172 : decode cX5_speak 172 = .ok (.ireturn, 1) := by decide +kernel
theorem dX5_sayAgain_0 : decode cX5_sayAgain 0 = .ok (.iload_n 2, 1) := by decide +kernel
theorem dX5_sayAgain_1 : decode cX5_sayAgain 1 = .ok (.iload_n 1, 1) := by decide +kernel
theorem dX5_sayAgain_2 : decode cX5_sayAgain 2 = .ok (.isub, 1) := by decide +kernel
theorem dX5_sayAgain_3 : decode cX5_sayAgain 3 = .ok (.istore 4, 2) := by decide +kernel
theorem dX5_sayAgain_5 : decode cX5_sayAgain 5 = .ok (.iload_n 1, 1) := by decide +kernel
theorem dX5_sayAgain_6 : decode cX5_sayAgain 6 = .ok (.iload 4, 2) := by decide +kernel
theorem dX5_sayAgain_8 : decode cX5_sayAgain 8 = .ok (.iload_n 3, 1) := by decide +kernel
theorem dX5_sayAgain_9 : decode cX5_sayAgain 9 = .ok (.imul, 1) := by decide +kernel
theorem dX5_sayAgain_10 : decode cX5_sayAgain 10 = .ok (.iadd, 1) := by decide +kernel
theorem dX5_sayAgain_11 : decode cX5_sayAgain 11 = .ok (.istore 5, 2) := by decide +kernel
theorem dX5_sayAgain_13 : decode cX5_sayAgain 13 = .ok (.iload_n 1, 1) := by decide +kernel
theorem dX5_sayAgain_14 : decode cX5_sayAgain 14 = .ok (.ifCond .lt 18, 3) := by decide +kernel
theorem dX5_sayAgain_17 : decode cX5_sayAgain 17 = .ok (.iload 4, 2) := by decide +kernel
theorem dX5_sayAgain_19 : decode cX5_sayAgain 19 = .ok (.ifCond .le 13, 3) := by decide +kernel
theorem dX5_sayAgain_22 : decode cX5_sayAgain 22 = .ok (.iload 5, 2) := by decide +kernel
theorem dX5_sayAgain_24 : decode cX5_sayAgain 24 = .ok (.aload_n 0, 1) := by decide +kernel
theorem dX5_sayAgain_25 : decode cX5_sayAgain 25 = .ok (.getfield 21, 3) := by decide +kernel
theorem dX5_sayAgain_28 : decode cX5_sayAgain 28 = .ok (.arraylength, 1) := by decide +kernel
theorem dX5_sayAgain_29 : decode cX5_sayAgain 29 = .ok (.if_icmp .le 5, 3) := by decide +kernel
theorem dX5_sayAgain_32 : decode cX5_sayAgain 32 = .ok (.iconst (-1), 1) := by decide +kernel
theorem dX5_sayAgain_33 : decode cX5_sayAgain 33 = .ok (.ireturn, 1) := by decide +kernel
theorem dX5_sayAgain_34 : decode cX5_sayAgain 34 = .ok (.iload_n 2, 1) := by decide +kernel
theorem dX5_sayAgain_35 : decode cX5_sayAgain 35 = .ok (.istore 6, 2) := by decide +kernel
theorem dX5_sayAgain_37 : decode cX5_sayAgain 37 = .ok (.iload 6, 2) := by decide +kernel
theorem dX5_sayAgain_39 : decode cX5_sayAgain 39 = .ok (.iload 5, 2) := by decide +kernel
theorem dX5_sayAgain_41 : decode cX5_sayAgain 41 = .ok (.if_icmp .ge 26, 3) := by decide +kernel
theorem dX5_sayAgain_44 : decode cX5_sayAgain 44 = .ok (.aload_n 0, 1) := by decide +kernel
theorem dX5_sayAgain_45 : decode cX5_sayAgain 45 = .ok (.getfield 21, 3) := by decide +kernel
theorem dX5_sayAgain_48 : decode cX5_sayAgain 48 = .ok (.iload 6, 2) := by decide +kernel
theorem dX5_sayAgain_50 : decode cX5_sayAgain 50 = .ok (.aload_n 0, 1) := by decide +kernel
theorem dX5_sayAgain_51 : decode cX5_sayAgain 51 = .ok (.getfield 21, 3) := by decide +kernel
theorem dX5_sayAgain_54 : decode cX5_sayAgain 54 = .ok (.iload 6, 2) := by decide +kernel
theorem dX5_sayAgain_56 : decode cX5_sayAgain 56 = .ok (.iload 4, 2) := by decide +kernel
theorem dX5_sayAgain_58 : decode cX5_sayAgain 58 = .ok (.isub, 1) := by decide +kernel
theorem dX5_sayAgain_59 : decode cX5_sayAgain 59 = .ok (.baload, 1) := by decide +kernel
theorem dX5_sayAgain_60 : decode cX5_sayAgain 60 = .ok (.bastore, 1) := by decide +kernel
theorem dX5_sayAgain_61 : decode cX5_sayAgain 61 = .ok (.iinc 6 1, 3) := by decide +kernel
theorem dX5_sayAgain_64 : decode cX5_sayAgain 64 = .ok (.goto (-27), 3) := by decide +kernel
theorem dX5_sayAgain_67 : decode cX5_sayAgain 67 = .ok (.iload 5, 2) := by decide +kernel
theorem dX5_sayAgain_69 : decode cX5_sayAgain 69 = .ok (.ireturn, 1) := by decide +kernel
theorem dX5_isTimes_0 : decode cX5_isTimes 0 = .ok (.iload_n 0, 1) := by decide +kernel
theorem dX5_isTimes_1 : decode cX5_isTimes 1 = .ok (.bipush 50, 2) := by decide +kernel
theorem dX5_isTimes_3 : decode cX5_isTimes 3 = .ok (.if_icmp .lt 13, 3) := by decide +kernel
theorem dX5_isTimes_6 : decode cX5_isTimes 6 = .ok (.iload_n 0, 1) := by decide +kernel
theorem dX5_isTimes_7 : decode cX5_isTimes 7 = .ok (.bipush 57, 2) := by decide +kernel
theorem dX5_isTimes_9 : decode cX5_isTimes 9 = .ok (.if_icmp .gt 7, 3) := by decide +kernel
theorem dX5_isTimes_12 : decode cX5_isTimes 12 = .ok (.iconst 1, 1) := by decide +kernel
theorem dX5_isTimes_13 : decode cX5_isTimes 13 = .ok (.goto 4, 3) := by decide +kernel
theorem dX5_isTimes_16 : decode cX5_isTimes 16 = .ok (.iconst 0, 1) := by decide +kernel
theorem dX5_isTimes_17 : decode cX5_isTimes 17 = .ok (.ireturn, 1) := by decide +kernel
theorem dX5_syllableOf_0 : decode cX5_syllableOf 0 = .ok (.iload_n 0, 1) := by decide +kernel
theorem dX5_syllableOf_1 : decode cX5_syllableOf 1 = .ok (.bipush 45, 2) := by decide +kernel
theorem dX5_syllableOf_3 : decode cX5_syllableOf 3 = .ok (.if_icmp .ne 6, 3) := by decide +kernel
theorem dX5_syllableOf_6 : decode cX5_syllableOf 6 = .ok (.bipush 8, 2) := by decide +kernel
theorem dX5_syllableOf_8 : decode cX5_syllableOf 8 = .ok (.ireturn, 1) := by decide +kernel
theorem dX5_syllableOf_9 : decode cX5_syllableOf 9 = .ok (.iload_n 0, 1) := by decide +kernel
theorem dX5_syllableOf_10 : decode cX5_syllableOf 10 = .ok (.bipush 97, 2) := by decide +kernel
theorem dX5_syllableOf_12 : decode cX5_syllableOf 12 = .ok (.if_icmp .lt 16, 3) := by decide +kernel
theorem dX5_syllableOf_15 : decode cX5_syllableOf 15 = .ok (.iload_n 0, 1) := by decide +kernel
theorem dX5_syllableOf_16 : decode cX5_syllableOf 16 = .ok (.bipush 104, 2) := by decide +kernel
theorem dX5_syllableOf_18 : decode cX5_syllableOf 18 = .ok (.if_icmp .gt 10, 3) := by decide +kernel
theorem dX5_syllableOf_21 : decode cX5_syllableOf 21 = .ok (.iload_n 0, 1) := by decide +kernel
theorem dX5_syllableOf_22 : decode cX5_syllableOf 22 = .ok (.bipush 97, 2) := by decide +kernel
theorem dX5_syllableOf_24 : decode cX5_syllableOf 24 = .ok (.isub, 1) := by decide +kernel
theorem dX5_syllableOf_25 : decode cX5_syllableOf 25 = .ok (.goto 4, 3) := by decide +kernel
theorem dX5_syllableOf_28 : decode cX5_syllableOf 28 = .ok (.iconst (-1), 1) := by decide +kernel
theorem dX5_syllableOf_29 : decode cX5_syllableOf 29 = .ok (.ireturn, 1) := by decide +kernel
theorem dX6_init_0 : decode cX6_init 0 = .ok (.aload_n 0, 1) := by decide +kernel
theorem dX6_init_1 : decode cX6_init 1 = .ok (.invokespecial 3, 3) := by decide +kernel
theorem dX6_init_4 : decode cX6_init 4 = .ok (.aload_n 0, 1) := by decide +kernel
theorem dX6_init_5 : decode cX6_init 5 = .ok (.bipush 61, 2) := by decide +kernel
theorem dX6_init_7 : decode cX6_init 7 = .ok (.newarray .int, 2) := by decide +kernel
theorem dX6_init_9 : decode cX6_init 9 = .ok (.putfield 11, 3) := by decide +kernel
theorem dX6_init_12 : decode cX6_init 12 = .ok (.aload_n 0, 1) := by decide +kernel
theorem dX6_init_13 : decode cX6_init 13 = .ok (.bipush 62, 2) := by decide +kernel
theorem dX6_init_15 : decode cX6_init 15 = .ok (.newarray .long, 2) := by decide +kernel
theorem dX6_init_17 : decode cX6_init 17 = .ok (.putfield 19, 3) := by decide +kernel
theorem dX6_init_20 : decode cX6_init 20 = .ok (.return_, 1) := by decide +kernel
theorem dX6_allWays_0 : decode cX6_allWays 0 = .ok (.aload_n 2, 1) := by decide +kernel
theorem dX6_allWays_1 : decode cX6_allWays 1 = .ok (.getfield 23, 3) := by decide +kernel
theorem dX6_allWays_4 : decode cX6_allWays 4 = .ok (.istore_n 3, 1) := by decide +kernel
theorem dX6_allWays_5 : decode cX6_allWays 5 = .ok (.iload_n 3, 1) := by decide +kernel
theorem dX6_allWays_6 : decode cX6_allWays 6 = .ok (.ifCond .le 9, 3) := by decide +kernel
theorem dX6_allWays_9 : decode cX6_allWays 9 = .ok (.iload_n 3, 1) := by decide +kernel
theorem dX6_allWays_10 : decode cX6_allWays 10 = .ok (.bipush 60, 2) := by decide +kernel
theorem dX6_allWays_12 : decode cX6_allWays 12 = .ok (.if_icmp .le 5, 3) := by decide +kernel
theorem dX6_allWays_15 : decode cX6_allWays 15 = .ok (.iconst 0, 1) := by decide +kernel
theorem dX6_allWays_16 : decode cX6_allWays 16 = .ok (.ireturn, 1) := by decide +kernel
theorem dX6_allWays_17 : decode cX6_allWays 17 = .ok (.aload_n 0, 1) := by decide +kernel
theorem dX6_allWays_18 : decode cX6_allWays 18 = .ok (.invokevirtual 27, 3) := by decide +kernel
theorem dX6_allWays_21 : decode cX6_allWays 21 = .ok (.aload_n 0, 1) := by decide +kernel
theorem dX6_allWays_22 : decode cX6_allWays 22 = .ok (.getfield 19, 3) := by decide +kernel
theorem dX6_allWays_25 : decode cX6_allWays 25 = .ok (.iload_n 3, 1) := by decide +kernel
theorem dX6_allWays_26 : decode cX6_allWays 26 = .ok (.iconst 1, 1) := by decide +kernel
theorem dX6_allWays_27 : decode cX6_allWays 27 = .ok (.iadd, 1) := by decide +kernel
theorem dX6_allWays_28 : decode cX6_allWays 28 = .ok (.lconst 0, 1) := by decide +kernel
theorem dX6_allWays_29 : decode cX6_allWays 29 = .ok (.lastore, 1) := by decide +kernel
theorem dX6_allWays_30 : decode cX6_allWays 30 = .ok (.aload_n 0, 1) := by decide +kernel
theorem dX6_allWays_31 : decode cX6_allWays 31 = .ok (.getfield 19, 3) := by decide +kernel
theorem dX6_allWays_34 : decode cX6_allWays 34 = .ok (.iload_n 3, 1) := by decide +kernel
theorem dX6_allWays_35 : decode cX6_allWays 35 = .ok (.lconst 1, 1) := by decide +kernel
theorem dX6_allWays_36 : decode cX6_allWays 36 = .ok (.lastore, 1) := by decide +kernel
theorem dX6_allWays_37 : decode cX6_allWays 37 = .ok (.lconst 0, 1) := by decide +kernel
theorem dX6_allWays_38 : decode cX6_allWays 38 = .ok (.lstore 4, 2) := by decide +kernel
theorem dX6_allWays_40 : decode cX6_allWays 40 = .ok (.iload_n 3, 1) := by decide +kernel
theorem dX6_allWays_41 : decode cX6_allWays 41 = .ok (.iconst 1, 1) := by decide +kernel
theorem dX6_allWays_42 : decode cX6_allWays 42 = .ok (.isub, 1) := by decide +kernel
theorem dX6_allWays_43 : decode cX6_allWays 43 = .ok (.istore 6, 2) := by decide +kernel
theorem dX6_allWays_45 : decode cX6_allWays 45 = .ok (.iload 6, 2) := by decide +kernel
theorem dX6_allWays_47 : decode cX6_allWays 47 = .ok (.ifCond .lt 56, 3) := by decide +kernel
theorem dX6_allWays_50 : decode cX6_allWays 50 = .ok (.aload_n 0, 1) := by decide +kernel
theorem dX6_allWays_51 : decode cX6_allWays 51 = .ok (.aload_n 1, 1) := by decide +kernel
theorem dX6_allWays_52 : decode cX6_allWays 52 = .ok (.aload_n 2, 1) := by decide +kernel
theorem dX6_allWays_53 : decode cX6_allWays 53 = .ok (.getfield 30, 3) := by decide +kernel
theorem dX6_allWays_56 : decode cX6_allWays 56 = .ok (.iload 6, 2) := by decide +kernel
theorem dX6_allWays_58 : decode cX6_allWays 58 = .ok (.baload, 1) := by decide +kernel
theorem dX6_allWays_59 : decode cX6_allWays 59 = .ok (.invokevirtual 34, 3) := by decide +kernel
theorem dX6_allWays_62 : decode cX6_allWays 62 = .ok (.aload_n 0, 1) := by decide +kernel
theorem dX6_allWays_63 : decode cX6_allWays 63 = .ok (.aload_n 1, 1) := by decide +kernel
theorem dX6_allWays_64 : decode cX6_allWays 64 = .ok (.iload 6, 2) := by decide +kernel
theorem dX6_allWays_66 : decode cX6_allWays 66 = .ok (.iload_n 3, 1) := by decide +kernel
theorem dX6_allWays_67 : decode cX6_allWays 67 = .ok (.invokevirtual 38, 3) := by decide +kernel
theorem dX6_allWays_70 : decode cX6_allWays 70 = .ok (.ldc2_w 42, 3) := by decide +kernel
theorem dX6_allWays_73 : decode cX6_allWays 73 = .ok (.invokestatic 44, 3) := by decide +kernel
theorem dX6_allWays_76 : decode cX6_allWays 76 = .ok (.lstore 4, 2) := by decide +kernel
theorem dX6_allWays_78 : decode cX6_allWays 78 = .ok (.aload_n 0, 1) := by decide +kernel
theorem dX6_allWays_79 : decode cX6_allWays 79 = .ok (.getfield 19, 3) := by decide +kernel
theorem dX6_allWays_82 : decode cX6_allWays 82 = .ok (.iload 6, 2) := by decide +kernel
theorem dX6_allWays_84 : decode cX6_allWays 84 = .ok (.aload_n 0, 1) := by decide +kernel
theorem dX6_allWays_85 : decode cX6_allWays 85 = .ok (.getfield 19, 3) := by decide +kernel
theorem dX6_allWays_88 : decode cX6_allWays 88 = .ok (.iload 6, 2) := by decide +kernel
theorem dX6_allWays_90 : decode cX6_allWays 90 = .ok (.iconst 1, 1) := by decide +kernel
theorem dX6_allWays_91 : decode cX6_allWays 91 = .ok (.iadd, 1) := by decide +kernel
theorem dX6_allWays_92 : decode cX6_allWays 92 = .ok (.laload, 1) := by decide +kernel
theorem dX6_allWays_93 : decode cX6_allWays 93 = .ok (.lload 4, 2) := by decide +kernel
theorem dX6_allWays_95 : decode cX6_allWays 95 = .ok (.ladd, 1) := by decide +kernel
theorem dX6_allWays_96 : decode cX6_allWays 96 = .ok (.lastore, 1) := by decide +kernel
theorem dX6_allWays_97 : decode cX6_allWays 97 = .ok (.iinc 6 (-1), 3) := by decide +kernel
theorem dX6_allWays_100 : decode cX6_allWays 100 = .ok (.goto (-55), 3) := by decide +kernel
theorem dX6_allWays_103 : decode cX6_allWays 103 = .ok (.lload 4, 2) := by decide +kernel
theorem dX6_allWays_105 : decode cX6_allWays 105 = .ok (.l2i, 1) := by decide +kernel
theorem dX6_allWays_106 : decode cX6_allWays 106 = .ok (.ireturn, 1) := by decide +kernel
theorem dX6_fewestCuts_0 : decode cX6_fewestCuts 0 = .ok (.aload_n 2, 1) := by decide +kernel
theorem dX6_fewestCuts_1 : decode cX6_fewestCuts 1 = .ok (.getfield 23, 3) := by decide +kernel
theorem dX6_fewestCuts_4 : decode cX6_fewestCuts 4 = .ok (.ifCond .gt 6, 3) := by decide +kernel
theorem dX6_fewestCuts_7 : decode cX6_fewestCuts 7 = .ok (.ldc 50, 2) := by decide +kernel
theorem dX6_fewestCuts_9 : decode cX6_fewestCuts 9 = .ok (.ireturn, 1) := by decide +kernel
theorem dX6_fewestCuts_10 : decode cX6_fewestCuts 10 = .ok (.iconst 0, 1) := by decide +kernel
theorem dX6_fewestCuts_11 : decode cX6_fewestCuts 11 = .ok (.istore_n 3, 1) := by decide +kernel
theorem dX6_fewestCuts_12 : decode cX6_fewestCuts 12 = .ok (.iconst 0, 1) := by decide +kernel
theorem dX6_fewestCuts_13 : decode cX6_fewestCuts 13 = .ok (.istore 4, 2) := by decide +kernel
theorem dX6_fewestCuts_15 : decode cX6_fewestCuts 15 = .ok (.iload 4, 2) := by decide +kernel
theorem dX6_fewestCuts_17 : decode cX6_fewestCuts 17 = .ok (.aload_n 2, 1) := by decide +kernel
theorem dX6_fewestCuts_18 : decode cX6_fewestCuts 18 = .ok (.getfield 23, 3) := by decide +kernel
theorem dX6_fewestCuts_21 : decode cX6_fewestCuts 21 = .ok (.if_icmp .ge 33, 3) := by decide +kernel
theorem dX6_fewestCuts_24 : decode cX6_fewestCuts 24 = .ok (.aload_n 1, 1) := by decide +kernel
theorem dX6_fewestCuts_25 : decode cX6_fewestCuts 25 = .ok (.aload_n 2, 1) := by decide +kernel
theorem dX6_fewestCuts_26 : decode cX6_fewestCuts 26 = .ok (.iload 4, 2) := by decide +kernel
theorem dX6_fewestCuts_28 : decode cX6_fewestCuts 28 = .ok (.invokestatic 51, 3) := by decide +kernel
theorem dX6_fewestCuts_31 : decode cX6_fewestCuts 31 = .ok (.istore 5, 2) := by decide +kernel
theorem dX6_fewestCuts_33 : decode cX6_fewestCuts 33 = .ok (.iload 5, 2) := by decide +kernel
theorem dX6_fewestCuts_35 : decode cX6_fewestCuts 35 = .ok (.ifCond .gt 6, 3) := by decide +kernel
theorem dX6_fewestCuts_38 : decode cX6_fewestCuts 38 = .ok (.ldc 50, 2) := by decide +kernel
theorem dX6_fewestCuts_40 : decode cX6_fewestCuts 40 = .ok (.ireturn, 1) := by decide +kernel
theorem dX6_fewestCuts_41 : decode cX6_fewestCuts 41 = .ok (.iload 4, 2) := by decide +kernel
theorem dX6_fewestCuts_43 : decode cX6_fewestCuts 43 = .ok (.iload 5, 2) := by decide +kernel
theorem dX6_fewestCuts_45 : decode cX6_fewestCuts 45 = .ok (.iadd, 1) := by decide +kernel
theorem dX6_fewestCuts_46 : decode cX6_fewestCuts 46 = .ok (.istore 4, 2) := by decide +kernel
theorem dX6_fewestCuts_48 : decode cX6_fewestCuts 48 = .ok (.iinc 3 1, 3) := by decide +kernel
theorem dX6_fewestCuts_51 : decode cX6_fewestCuts 51 = .ok (.goto (-36), 3) := by decide +kernel
theorem dX6_fewestCuts_54 : decode cX6_fewestCuts 54 = .ok (.iload_n 3, 1) := by decide +kernel
theorem dX6_fewestCuts_55 : decode cX6_fewestCuts 55 = .ok (.ireturn, 1) := by decide +kernel
theorem dX6_forgetFits_0 : decode cX6_forgetFits 0 = .ok (.iconst 0, 1) := by decide +kernel
theorem dX6_forgetFits_1 : decode cX6_forgetFits 1 = .ok (.istore_n 1, 1) := by decide +kernel
theorem dX6_forgetFits_2 : decode cX6_forgetFits 2 = .ok (.iload_n 1, 1) := by decide +kernel
theorem dX6_forgetFits_3 : decode cX6_forgetFits 3 = .ok (.aload_n 0, 1) := by decide +kernel
theorem dX6_forgetFits_4 : decode cX6_forgetFits 4 = .ok (.getfield 11, 3) := by decide +kernel
theorem dX6_forgetFits_7 : decode cX6_forgetFits 7 = .ok (.arraylength, 1) := by decide +kernel
theorem dX6_forgetFits_8 : decode cX6_forgetFits 8 = .ok (.if_icmp .ge 16, 3) := by decide +kernel
theorem dX6_forgetFits_11 : decode cX6_forgetFits 11 = .ok (.aload_n 0, 1) := by decide +kernel
theorem dX6_forgetFits_12 : decode cX6_forgetFits 12 = .ok (.getfield 11, 3) := by decide +kernel
theorem dX6_forgetFits_15 : decode cX6_forgetFits 15 = .ok (.iload_n 1, 1) := by decide +kernel
theorem dX6_forgetFits_16 : decode cX6_forgetFits 16 = .ok (.iconst 0, 1) := by decide +kernel
theorem dX6_forgetFits_17 : decode cX6_forgetFits 17 = .ok (.iastore, 1) := by decide +kernel
theorem dX6_forgetFits_18 : decode cX6_forgetFits 18 = .ok (.iinc 1 1, 3) := by decide +kernel
theorem dX6_forgetFits_21 : decode cX6_forgetFits 21 = .ok (.goto (-19), 3) := by decide +kernel
theorem dX6_forgetFits_24 : decode cX6_forgetFits 24 = .ok (.return_, 1) := by decide +kernel
theorem dX6_fitFrom_0 : decode cX6_fitFrom 0 = .ok (.iconst 0, 1) := by decide +kernel
theorem dX6_fitFrom_1 : decode cX6_fitFrom 1 = .ok (.istore_n 3, 1) := by decide +kernel
theorem dX6_fitFrom_2 : decode cX6_fitFrom 2 = .ok (.iload_n 3, 1) := by decide +kernel
theorem dX6_fitFrom_3 : decode cX6_fitFrom 3 = .ok (.aload_n 1, 1) := by decide +kernel
theorem dX6_fitFrom_4 : decode cX6_fitFrom 4 = .ok (.getfield 55, 3) := by decide +kernel
theorem dX6_fitFrom_7 : decode cX6_fitFrom 7 = .ok (.if_icmp .ge 39, 3) := by decide +kernel
theorem dX6_fitFrom_10 : decode cX6_fitFrom 10 = .ok (.aload_n 0, 1) := by decide +kernel
theorem dX6_fitFrom_11 : decode cX6_fitFrom 11 = .ok (.getfield 11, 3) := by decide +kernel
theorem dX6_fitFrom_14 : decode cX6_fitFrom 14 = .ok (.iload_n 3, 1) := by decide +kernel
theorem dX6_fitFrom_15 : decode cX6_fitFrom 15 = .ok (.aload_n 1, 1) := by decide +kernel
theorem dX6_fitFrom_16 : decode cX6_fitFrom 16 = .ok (.getfield 58, 3) := by decide +kernel
theorem dX6_fitFrom_19 : decode cX6_fitFrom 19 = .ok (.iload_n 3, 1) := by decide +kernel
theorem dX6_fitFrom_20 : decode cX6_fitFrom 20 = .ok (.baload, 1) := by decide +kernel
theorem dX6_fitFrom_21 : decode cX6_fitFrom 21 = .ok (.iload_n 2, 1) := by decide +kernel
theorem dX6_fitFrom_22 : decode cX6_fitFrom 22 = .ok (.if_icmp .ne 16, 3) := by decide +kernel
theorem dX6_fitFrom_25 : decode cX6_fitFrom 25 = .ok (.aload_n 0, 1) := by decide +kernel
theorem dX6_fitFrom_26 : decode cX6_fitFrom 26 = .ok (.getfield 11, 3) := by decide +kernel
theorem dX6_fitFrom_29 : decode cX6_fitFrom 29 = .ok (.iload_n 3, 1) := by decide +kernel
theorem dX6_fitFrom_30 : decode cX6_fitFrom 30 = .ok (.iconst 1, 1) := by decide +kernel
theorem dX6_fitFrom_31 : decode cX6_fitFrom 31 = .ok (.iadd, 1) := by decide +kernel
theorem dX6_fitFrom_32 : decode cX6_fitFrom 32 = .ok (.iaload, 1) := by decide +kernel
theorem dX6_fitFrom_33 : decode cX6_fitFrom 33 = .ok (.iconst 1, 1) := by decide +kernel
theorem dX6_fitFrom_34 : decode cX6_fitFrom 34 = .ok (.iadd, 1) := by decide +kernel
theorem dX6_fitFrom_35 : decode cX6_fitFrom 35 = .ok (.goto 4, 3) := by decide +kernel
theorem dX6_fitFrom_38 : decode cX6_fitFrom 38 = .ok (.iconst 0, 1) := by decide +kernel
theorem dX6_fitFrom_39 : decode cX6_fitFrom 39 = .ok (.iastore, 1) := by decide +kernel
theorem dX6_fitFrom_40 : decode cX6_fitFrom 40 = .ok (.iinc 3 1, 3) := by decide +kernel
theorem dX6_fitFrom_43 : decode cX6_fitFrom 43 = .ok (.goto (-41), 3) := by decide +kernel
theorem dX6_fitFrom_46 : decode cX6_fitFrom 46 = .ok (.return_, 1) := by decide +kernel
theorem dX6_waysFrom_0 : decode cX6_waysFrom 0 = .ok (.lconst 0, 1) := by decide +kernel
theorem dX6_waysFrom_1 : decode cX6_waysFrom 1 = .ok (.lstore 4, 2) := by decide +kernel
theorem dX6_waysFrom_3 : decode cX6_waysFrom 3 = .ok (.iconst 0, 1) := by decide +kernel
theorem dX6_waysFrom_4 : decode cX6_waysFrom 4 = .ok (.istore 6, 2) := by decide +kernel
theorem dX6_waysFrom_6 : decode cX6_waysFrom 6 = .ok (.iload 6, 2) := by decide +kernel
theorem dX6_waysFrom_8 : decode cX6_waysFrom 8 = .ok (.aload_n 1, 1) := by decide +kernel
theorem dX6_waysFrom_9 : decode cX6_waysFrom 9 = .ok (.getfield 55, 3) := by decide +kernel
theorem dX6_waysFrom_12 : decode cX6_waysFrom 12 = .ok (.if_icmp .ge 47, 3) := by decide +kernel
theorem dX6_waysFrom_15 : decode cX6_waysFrom 15 = .ok (.iload_n 2, 1) := by decide +kernel
theorem dX6_waysFrom_16 : decode cX6_waysFrom 16 = .ok (.aload_n 0, 1) := by decide +kernel
theorem dX6_waysFrom_17 : decode cX6_waysFrom 17 = .ok (.getfield 11, 3) := by decide +kernel
theorem dX6_waysFrom_20 : decode cX6_waysFrom 20 = .ok (.iload 6, 2) := by decide +kernel
theorem dX6_waysFrom_22 : decode cX6_waysFrom 22 = .ok (.iaload, 1) := by decide +kernel
theorem dX6_waysFrom_23 : decode cX6_waysFrom 23 = .ok (.iadd, 1) := by decide +kernel
theorem dX6_waysFrom_24 : decode cX6_waysFrom 24 = .ok (.iload_n 3, 1) := by decide +kernel
theorem dX6_waysFrom_25 : decode cX6_waysFrom 25 = .ok (.invokestatic 59, 3) := by decide +kernel
theorem dX6_waysFrom_28 : decode cX6_waysFrom 28 = .ok (.iconst 1, 1) := by decide +kernel
theorem dX6_waysFrom_29 : decode cX6_waysFrom 29 = .ok (.iadd, 1) := by decide +kernel
theorem dX6_waysFrom_30 : decode cX6_waysFrom 30 = .ok (.istore 7, 2) := by decide +kernel
theorem dX6_waysFrom_32 : decode cX6_waysFrom 32 = .ok (.lload 4, 2) := by decide +kernel
theorem dX6_waysFrom_34 : decode cX6_waysFrom 34 = .ok (.aload_n 0, 1) := by decide +kernel
theorem dX6_waysFrom_35 : decode cX6_waysFrom 35 = .ok (.getfield 19, 3) := by decide +kernel
theorem dX6_waysFrom_38 : decode cX6_waysFrom 38 = .ok (.iload_n 2, 1) := by decide +kernel
theorem dX6_waysFrom_39 : decode cX6_waysFrom 39 = .ok (.iconst 1, 1) := by decide +kernel
theorem dX6_waysFrom_40 : decode cX6_waysFrom 40 = .ok (.iadd, 1) := by decide +kernel
theorem dX6_waysFrom_41 : decode cX6_waysFrom 41 = .ok (.laload, 1) := by decide +kernel
theorem dX6_waysFrom_42 : decode cX6_waysFrom 42 = .ok (.aload_n 0, 1) := by decide +kernel
theorem dX6_waysFrom_43 : decode cX6_waysFrom 43 = .ok (.getfield 19, 3) := by decide +kernel
theorem dX6_waysFrom_46 : decode cX6_waysFrom 46 = .ok (.iload 7, 2) := by decide +kernel
theorem dX6_waysFrom_48 : decode cX6_waysFrom 48 = .ok (.laload, 1) := by decide +kernel
theorem dX6_waysFrom_49 : decode cX6_waysFrom 49 = .ok (.lsub, 1) := by decide +kernel
theorem dX6_waysFrom_50 : decode cX6_waysFrom 50 = .ok (.ladd, 1) := by decide +kernel
theorem dX6_waysFrom_51 : decode cX6_waysFrom 51 = .ok (.lstore 4, 2) := by decide +kernel
theorem dX6_waysFrom_53 : decode cX6_waysFrom 53 = .ok (.iinc 6 1, 3) := by decide +kernel
theorem dX6_waysFrom_56 : decode cX6_waysFrom 56 = .ok (.goto (-50), 3) := by decide +kernel
theorem dX6_waysFrom_59 : decode cX6_waysFrom 59 = .ok (.lload 4, 2) := by decide +kernel
theorem dX6_waysFrom_61 : decode cX6_waysFrom 61 = .ok (.lreturn, 1) := by decide +kernel
theorem dX6_longestCut_0 : decode cX6_longestCut 0 = .ok (.iconst 0, 1) := by decide +kernel
theorem dX6_longestCut_1 : decode cX6_longestCut 1 = .ok (.istore_n 3, 1) := by decide +kernel
theorem dX6_longestCut_2 : decode cX6_longestCut 2 = .ok (.iconst 0, 1) := by decide +kernel
theorem dX6_longestCut_3 : decode cX6_longestCut 3 = .ok (.istore 4, 2) := by decide +kernel
theorem dX6_longestCut_5 : decode cX6_longestCut 5 = .ok (.iload 4, 2) := by decide +kernel
theorem dX6_longestCut_7 : decode cX6_longestCut 7 = .ok (.aload_n 0, 1) := by decide +kernel
theorem dX6_longestCut_8 : decode cX6_longestCut 8 = .ok (.getfield 55, 3) := by decide +kernel
theorem dX6_longestCut_11 : decode cX6_longestCut 11 = .ok (.if_icmp .ge 72, 3) := by decide +kernel
theorem dX6_longestCut_14 : decode cX6_longestCut 14 = .ok (.aload_n 0, 1) := by decide +kernel
theorem dX6_longestCut_15 : decode cX6_longestCut 15 = .ok (.getfield 55, 3) := by decide +kernel
theorem dX6_longestCut_18 : decode cX6_longestCut 18 = .ok (.iload 4, 2) := by decide +kernel
theorem dX6_longestCut_20 : decode cX6_longestCut 20 = .ok (.isub, 1) := by decide +kernel
theorem dX6_longestCut_21 : decode cX6_longestCut 21 = .ok (.aload_n 1, 1) := by decide +kernel
theorem dX6_longestCut_22 : decode cX6_longestCut 22 = .ok (.getfield 23, 3) := by decide +kernel
theorem dX6_longestCut_25 : decode cX6_longestCut 25 = .ok (.iload_n 2, 1) := by decide +kernel
theorem dX6_longestCut_26 : decode cX6_longestCut 26 = .ok (.isub, 1) := by decide +kernel
theorem dX6_longestCut_27 : decode cX6_longestCut 27 = .ok (.invokestatic 59, 3) := by decide +kernel
theorem dX6_longestCut_30 : decode cX6_longestCut 30 = .ok (.istore 5, 2) := by decide +kernel
theorem dX6_longestCut_32 : decode cX6_longestCut 32 = .ok (.iconst 0, 1) := by decide +kernel
theorem dX6_longestCut_33 : decode cX6_longestCut 33 = .ok (.istore 6, 2) := by decide +kernel
theorem dX6_longestCut_35 : decode cX6_longestCut 35 = .ok (.iload 6, 2) := by decide +kernel
theorem dX6_longestCut_37 : decode cX6_longestCut 37 = .ok (.iload 5, 2) := by decide +kernel
theorem dX6_longestCut_39 : decode cX6_longestCut 39 = .ok (.if_icmp .ge 31, 3) := by decide +kernel
theorem dX6_longestCut_42 : decode cX6_longestCut 42 = .ok (.aload_n 0, 1) := by decide +kernel
theorem dX6_longestCut_43 : decode cX6_longestCut 43 = .ok (.getfield 58, 3) := by decide +kernel
theorem dX6_longestCut_46 : decode cX6_longestCut 46 = .ok (.iload 4, 2) := by decide +kernel
theorem dX6_longestCut_48 : decode cX6_longestCut 48 = .ok (.iload 6, 2) := by decide +kernel
theorem dX6_longestCut_50 : decode cX6_longestCut 50 = .ok (.iadd, 1) := by decide +kernel
theorem dX6_longestCut_51 : decode cX6_longestCut 51 = .ok (.baload, 1) := by decide +kernel
theorem dX6_longestCut_52 : decode cX6_longestCut 52 = .ok (.aload_n 1, 1) := by decide +kernel
theorem dX6_longestCut_53 : decode cX6_longestCut 53 = .ok (.getfield 30, 3) := by decide +kernel
theorem dX6_longestCut_56 : decode cX6_longestCut 56 = .ok (.iload_n 2, 1) := by decide +kernel
theorem dX6_longestCut_57 : decode cX6_longestCut 57 = .ok (.iload 6, 2) := by decide +kernel
theorem dX6_longestCut_59 : decode cX6_longestCut 59 = .ok (.iadd, 1) := by decide +kernel
theorem dX6_longestCut_60 : decode cX6_longestCut 60 = .ok (.baload, 1) := by decide +kernel
theorem dX6_longestCut_61 : decode cX6_longestCut 61 = .ok (.if_icmp .ne 9, 3) := by decide +kernel
theorem dX6_longestCut_64 : decode cX6_longestCut 64 = .ok (.iinc 6 1, 3) := by decide +kernel
theorem dX6_longestCut_67 : decode cX6_longestCut 67 = .ok (.goto (-32), 3) := by decide +kernel
theorem dX6_longestCut_70 : decode cX6_longestCut 70 = .ok (.iload_n 3, 1) := by decide +kernel
theorem dX6_longestCut_71 : decode cX6_longestCut 71 = .ok (.iload 6, 2) := by decide +kernel
theorem dX6_longestCut_73 : decode cX6_longestCut 73 = .ok (.invokestatic 62, 3) := by decide +kernel
theorem dX6_longestCut_76 : decode cX6_longestCut 76 = .ok (.istore_n 3, 1) := by decide +kernel
theorem dX6_longestCut_77 : decode cX6_longestCut 77 = .ok (.iinc 4 1, 3) := by decide +kernel
theorem dX6_longestCut_80 : decode cX6_longestCut 80 = .ok (.goto (-75), 3) := by decide +kernel
theorem dX6_longestCut_83 : decode cX6_longestCut 83 = .ok (.iload_n 3, 1) := by decide +kernel
theorem dX6_longestCut_84 : decode cX6_longestCut 84 = .ok (.ireturn, 1) := by decide +kernel
theorem dX7_init_0 : decode cX7_init 0 = .ok (.aload_n 0, 1) := by decide +kernel
theorem dX7_init_1 : decode cX7_init 1 = .ok (.invokespecial 1, 3) := by decide +kernel
theorem dX7_init_4 : decode cX7_init 4 = .ok (.aload_n 0, 1) := by decide +kernel
theorem dX7_init_5 : decode cX7_init 5 = .ok (.iconst 4, 1) := by decide +kernel
theorem dX7_init_6 : decode cX7_init 6 = .ok (.anewarray 7, 3) := by decide +kernel
theorem dX7_init_9 : decode cX7_init 9 = .ok (.putfield 9, 3) := by decide +kernel
theorem dX7_init_12 : decode cX7_init 12 = .ok (.aload_n 0, 1) := by decide +kernel
theorem dX7_init_13 : decode cX7_init 13 = .ok (.bipush 6, 2) := by decide +kernel
theorem dX7_init_15 : decode cX7_init 15 = .ok (.anewarray 15, 3) := by decide +kernel
theorem dX7_init_18 : decode cX7_init 18 = .ok (.putfield 17, 3) := by decide +kernel
theorem dX7_init_21 : decode cX7_init 21 = .ok (.aload_n 0, 1) := by decide +kernel
theorem dX7_init_22 : decode cX7_init 22 = .ok (.iconst 2, 1) := by decide +kernel
theorem dX7_init_23 : decode cX7_init 23 = .ok (.anewarray 21, 3) := by decide +kernel
theorem dX7_init_26 : decode cX7_init 26 = .ok (.putfield 23, 3) := by decide +kernel
theorem dX7_init_29 : decode cX7_init 29 = .ok (.aload_n 0, 1) := by decide +kernel
theorem dX7_init_30 : decode cX7_init 30 = .ok (.new 27, 3) := by decide +kernel
theorem dX7_init_33 : decode cX7_init 33 = .ok (.dup, 1) := by decide +kernel
theorem dX7_init_34 : decode cX7_init 34 = .ok (.invokespecial 29, 3) := by decide +kernel
theorem dX7_init_37 : decode cX7_init 37 = .ok (.putfield 30, 3) := by decide +kernel
theorem dX7_init_40 : decode cX7_init 40 = .ok (.aload_n 0, 1) := by decide +kernel
theorem dX7_init_41 : decode cX7_init 41 = .ok (.new 34, 3) := by decide +kernel
theorem dX7_init_44 : decode cX7_init 44 = .ok (.dup, 1) := by decide +kernel
theorem dX7_init_45 : decode cX7_init 45 = .ok (.invokespecial 36, 3) := by decide +kernel
theorem dX7_init_48 : decode cX7_init 48 = .ok (.putfield 37, 3) := by decide +kernel
theorem dX7_init_51 : decode cX7_init 51 = .ok (.aload_n 0, 1) := by decide +kernel
theorem dX7_init_52 : decode cX7_init 52 = .ok (.new 41, 3) := by decide +kernel
theorem dX7_init_55 : decode cX7_init 55 = .ok (.dup, 1) := by decide +kernel
theorem dX7_init_56 : decode cX7_init 56 = .ok (.invokespecial 43, 3) := by decide +kernel
theorem dX7_init_59 : decode cX7_init 59 = .ok (.putfield 44, 3) := by decide +kernel
theorem dX7_init_62 : decode cX7_init 62 = .ok (.aload_n 0, 1) := by decide +kernel
theorem dX7_init_63 : decode cX7_init 63 = .ok (.new 48, 3) := by decide +kernel
theorem dX7_init_66 : decode cX7_init 66 = .ok (.dup, 1) := by decide +kernel
theorem dX7_init_67 : decode cX7_init 67 = .ok (.invokespecial 50, 3) := by decide +kernel
theorem dX7_init_70 : decode cX7_init 70 = .ok (.putfield 51, 3) := by decide +kernel
theorem dX7_init_73 : decode cX7_init 73 = .ok (.aload_n 0, 1) := by decide +kernel
theorem dX7_init_74 : decode cX7_init 74 = .ok (.bipush 6, 2) := by decide +kernel
theorem dX7_init_76 : decode cX7_init 76 = .ok (.putfield 55, 3) := by decide +kernel
theorem dX7_init_79 : decode cX7_init 79 = .ok (.iconst 0, 1) := by decide +kernel
theorem dX7_init_80 : decode cX7_init 80 = .ok (.istore_n 1, 1) := by decide +kernel
theorem dX7_init_81 : decode cX7_init 81 = .ok (.iload_n 1, 1) := by decide +kernel
theorem dX7_init_82 : decode cX7_init 82 = .ok (.aload_n 0, 1) := by decide +kernel
theorem dX7_init_83 : decode cX7_init 83 = .ok (.getfield 9, 3) := by decide +kernel
theorem dX7_init_86 : decode cX7_init 86 = .ok (.arraylength, 1) := by decide +kernel
theorem dX7_init_87 : decode cX7_init 87 = .ok (.if_icmp .ge 22, 3) := by decide +kernel
theorem dX7_init_90 : decode cX7_init 90 = .ok (.aload_n 0, 1) := by decide +kernel
theorem dX7_init_91 : decode cX7_init 91 = .ok (.getfield 9, 3) := by decide +kernel
theorem dX7_init_94 : decode cX7_init 94 = .ok (.iload_n 1, 1) := by decide +kernel
theorem dX7_init_95 : decode cX7_init 95 = .ok (.new 7, 3) := by decide +kernel
theorem dX7_init_98 : decode cX7_init 98 = .ok (.dup, 1) := by decide +kernel
theorem dX7_init_99 : decode cX7_init 99 = .ok (.invokespecial 59, 3) := by decide +kernel
theorem dX7_init_102 : decode cX7_init 102 = .ok (.aastore, 1) := by decide +kernel
theorem dX7_init_103 : decode cX7_init 103 = .ok (.iinc 1 1, 3) := by decide +kernel
theorem dX7_init_106 : decode cX7_init 106 = .ok (.goto (-25), 3) := by decide +kernel
theorem dX7_init_109 : decode cX7_init 109 = .ok (.iconst 0, 1) := by decide +kernel
theorem dX7_init_110 : decode cX7_init 110 = .ok (.istore_n 1, 1) := by decide +kernel
theorem dX7_init_111 : decode cX7_init 111 = .ok (.iload_n 1, 1) := by decide +kernel
theorem dX7_init_112 : decode cX7_init 112 = .ok (.aload_n 0, 1) := by decide +kernel
theorem dX7_init_113 : decode cX7_init 113 = .ok (.getfield 17, 3) := by decide +kernel
theorem dX7_init_116 : decode cX7_init 116 = .ok (.arraylength, 1) := by decide +kernel
theorem dX7_init_117 : decode cX7_init 117 = .ok (.if_icmp .ge 22, 3) := by decide +kernel
theorem dX7_init_120 : decode cX7_init 120 = .ok (.aload_n 0, 1) := by decide +kernel
theorem dX7_init_121 : decode cX7_init 121 = .ok (.getfield 17, 3) := by decide +kernel
theorem dX7_init_124 : decode cX7_init 124 = .ok (.iload_n 1, 1) := by decide +kernel
theorem dX7_init_125 : decode cX7_init 125 = .ok (.new 15, 3) := by decide +kernel
theorem dX7_init_128 : decode cX7_init 128 = .ok (.dup, 1) := by decide +kernel
theorem dX7_init_129 : decode cX7_init 129 = .ok (.invokespecial 60, 3) := by decide +kernel
theorem dX7_init_132 : decode cX7_init 132 = .ok (.aastore, 1) := by decide +kernel
theorem dX7_init_133 : decode cX7_init 133 = .ok (.iinc 1 1, 3) := by decide +kernel
theorem dX7_init_136 : decode cX7_init 136 = .ok (.goto (-25), 3) := by decide +kernel
theorem dX7_init_139 : decode cX7_init 139 = .ok (.iconst 0, 1) := by decide +kernel
theorem dX7_init_140 : decode cX7_init 140 = .ok (.istore_n 1, 1) := by decide +kernel
theorem dX7_init_141 : decode cX7_init 141 = .ok (.iload_n 1, 1) := by decide +kernel
theorem dX7_init_142 : decode cX7_init 142 = .ok (.aload_n 0, 1) := by decide +kernel
theorem dX7_init_143 : decode cX7_init 143 = .ok (.getfield 23, 3) := by decide +kernel
theorem dX7_init_146 : decode cX7_init 146 = .ok (.arraylength, 1) := by decide +kernel
theorem dX7_init_147 : decode cX7_init 147 = .ok (.if_icmp .ge 22, 3) := by decide +kernel
theorem dX7_init_150 : decode cX7_init 150 = .ok (.aload_n 0, 1) := by decide +kernel
theorem dX7_init_151 : decode cX7_init 151 = .ok (.getfield 23, 3) := by decide +kernel
theorem dX7_init_154 : decode cX7_init 154 = .ok (.iload_n 1, 1) := by decide +kernel
theorem dX7_init_155 : decode cX7_init 155 = .ok (.new 21, 3) := by decide +kernel
theorem dX7_init_158 : decode cX7_init 158 = .ok (.dup, 1) := by decide +kernel
theorem dX7_init_159 : decode cX7_init 159 = .ok (.invokespecial 61, 3) := by decide +kernel
theorem dX7_init_162 : decode cX7_init 162 = .ok (.aastore, 1) := by decide +kernel
theorem dX7_init_163 : decode cX7_init 163 = .ok (.iinc 1 1, 3) := by decide +kernel
theorem dX7_init_166 : decode cX7_init 166 = .ok (.goto (-25), 3) := by decide +kernel
theorem dX7_init_169 : decode cX7_init 169 = .ok (.return_, 1) := by decide +kernel
theorem dX7_limb_0 : decode cX7_limb 0 = .ok (.aload_n 0, 1) := by decide +kernel
theorem dX7_limb_1 : decode cX7_limb 1 = .ok (.iload_n 1, 1) := by decide +kernel
theorem dX7_limb_2 : decode cX7_limb 2 = .ok (.invokevirtual 62, 3) := by decide +kernel
theorem dX7_limb_5 : decode cX7_limb 5 = .ok (.astore 4, 2) := by decide +kernel
theorem dX7_limb_7 : decode cX7_limb 7 = .ok (.aload 4, 2) := by decide +kernel
theorem dX7_limb_9 : decode cX7_limb 9 = .ok (.ifnull 21, 3) := by decide +kernel
theorem dX7_limb_12 : decode cX7_limb 12 = .ok (.iload_n 2, 1) := by decide +kernel
theorem dX7_limb_13 : decode cX7_limb 13 = .ok (.invokestatic 66, 3) := by decide +kernel
theorem dX7_limb_16 : decode cX7_limb 16 = .ok (.ifCond .eq 14, 3) := by decide +kernel
theorem dX7_limb_19 : decode cX7_limb 19 = .ok (.iload_n 3, 1) := by decide +kernel
theorem dX7_limb_20 : decode cX7_limb 20 = .ok (.iconst 1, 1) := by decide +kernel
theorem dX7_limb_21 : decode cX7_limb 21 = .ok (.if_icmp .lt 9, 3) := by decide +kernel
theorem dX7_limb_24 : decode cX7_limb 24 = .ok (.iload_n 3, 1) := by decide +kernel
theorem dX7_limb_25 : decode cX7_limb 25 = .ok (.bipush 18, 2) := by decide +kernel
theorem dX7_limb_27 : decode cX7_limb 27 = .ok (.if_icmp .le 6, 3) := by decide +kernel
theorem dX7_limb_30 : decode cX7_limb 30 = .ok (.ldc 70, 2) := by decide +kernel
theorem dX7_limb_32 : decode cX7_limb 32 = .ok (.ireturn, 1) := by decide +kernel
theorem dX7_limb_33 : decode cX7_limb 33 = .ok (.aload 4, 2) := by decide +kernel
theorem dX7_limb_35 : decode cX7_limb 35 = .ok (.iload_n 2, 1) := by decide +kernel
theorem dX7_limb_36 : decode cX7_limb 36 = .ok (.iload_n 3, 1) := by decide +kernel
theorem dX7_limb_37 : decode cX7_limb 37 = .ok (.invokevirtual 71, 3) := by decide +kernel
theorem dX7_limb_40 : decode cX7_limb 40 = .ok (.ireturn, 1) := by decide +kernel
theorem dX7_isOf_0 : decode cX7_isOf 0 = .ok (.aload_n 0, 1) := by decide +kernel
theorem dX7_isOf_1 : decode cX7_isOf 1 = .ok (.iload_n 1, 1) := by decide +kernel
theorem dX7_isOf_2 : decode cX7_isOf 2 = .ok (.invokevirtual 62, 3) := by decide +kernel
theorem dX7_isOf_5 : decode cX7_isOf 5 = .ok (.astore 4, 2) := by decide +kernel
theorem dX7_isOf_7 : decode cX7_isOf 7 = .ok (.aload 4, 2) := by decide +kernel
theorem dX7_isOf_9 : decode cX7_isOf 9 = .ok (.ifnull 23, 3) := by decide +kernel
theorem dX7_isOf_12 : decode cX7_isOf 12 = .ok (.iload_n 2, 1) := by decide +kernel
theorem dX7_isOf_13 : decode cX7_isOf 13 = .ok (.ifCond .lt 19, 3) := by decide +kernel
theorem dX7_isOf_16 : decode cX7_isOf 16 = .ok (.iload_n 2, 1) := by decide +kernel
theorem dX7_isOf_17 : decode cX7_isOf 17 = .ok (.aload 4, 2) := by decide +kernel
theorem dX7_isOf_19 : decode cX7_isOf 19 = .ok (.getfield 75, 3) := by decide +kernel
theorem dX7_isOf_22 : decode cX7_isOf 22 = .ok (.if_icmp .ge 10, 3) := by decide +kernel
theorem dX7_isOf_25 : decode cX7_isOf 25 = .ok (.iload_n 3, 1) := by decide +kernel
theorem dX7_isOf_26 : decode cX7_isOf 26 = .ok (.invokestatic 66, 3) := by decide +kernel
theorem dX7_isOf_29 : decode cX7_isOf 29 = .ok (.ifCond .ne 6, 3) := by decide +kernel
theorem dX7_isOf_32 : decode cX7_isOf 32 = .ok (.ldc 70, 2) := by decide +kernel
theorem dX7_isOf_34 : decode cX7_isOf 34 = .ok (.ireturn, 1) := by decide +kernel
theorem dX7_isOf_35 : decode cX7_isOf 35 = .ok (.aload 4, 2) := by decide +kernel
theorem dX7_isOf_37 : decode cX7_isOf 37 = .ok (.iload_n 2, 1) := by decide +kernel
theorem dX7_isOf_38 : decode cX7_isOf 38 = .ok (.iload_n 3, 1) := by decide +kernel
theorem dX7_isOf_39 : decode cX7_isOf 39 = .ok (.invokevirtual 78, 3) := by decide +kernel
theorem dX7_isOf_42 : decode cX7_isOf 42 = .ok (.ifCond .eq 7, 3) := by decide +kernel
theorem dX7_isOf_45 : decode cX7_isOf 45 = .ok (.iconst 1, 1) := by decide +kernel
theorem dX7_isOf_46 : decode cX7_isOf 46 = .ok (.goto 4, 3) := by decide +kernel
theorem dX7_isOf_49 : decode cX7_isOf 49 = .ok (.iconst 0, 1) := by decide +kernel
theorem dX7_isOf_50 : decode cX7_isOf 50 = .ok (.ireturn, 1) := by decide +kernel
theorem dX7_clear_0 : decode cX7_clear 0 = .ok (.aload_n 0, 1) := by decide +kernel
theorem dX7_clear_1 : decode cX7_clear 1 = .ok (.iload_n 1, 1) := by decide +kernel
theorem dX7_clear_2 : decode cX7_clear 2 = .ok (.invokevirtual 62, 3) := by decide +kernel
theorem dX7_clear_5 : decode cX7_clear 5 = .ok (.astore_n 2, 1) := by decide +kernel
theorem dX7_clear_6 : decode cX7_clear 6 = .ok (.aload_n 2, 1) := by decide +kernel
theorem dX7_clear_7 : decode cX7_clear 7 = .ok (.ifnonnull 6, 3) := by decide +kernel
theorem dX7_clear_10 : decode cX7_clear 10 = .ok (.ldc 70, 2) := by decide +kernel
theorem dX7_clear_12 : decode cX7_clear 12 = .ok (.ireturn, 1) := by decide +kernel
theorem dX7_clear_13 : decode cX7_clear 13 = .ok (.aload_n 2, 1) := by decide +kernel
theorem dX7_clear_14 : decode cX7_clear 14 = .ok (.getfield 75, 3) := by decide +kernel
theorem dX7_clear_17 : decode cX7_clear 17 = .ok (.istore_n 3, 1) := by decide +kernel
theorem dX7_clear_18 : decode cX7_clear 18 = .ok (.aload_n 2, 1) := by decide +kernel
theorem dX7_clear_19 : decode cX7_clear 19 = .ok (.iconst 0, 1) := by decide +kernel
theorem dX7_clear_20 : decode cX7_clear 20 = .ok (.putfield 75, 3) := by decide +kernel
theorem dX7_clear_23 : decode cX7_clear 23 = .ok (.iload_n 3, 1) := by decide +kernel
theorem dX7_clear_24 : decode cX7_clear 24 = .ok (.ireturn, 1) := by decide +kernel
theorem dX7_length_0 : decode cX7_length 0 = .ok (.aload_n 0, 1) := by decide +kernel
theorem dX7_length_1 : decode cX7_length 1 = .ok (.iload_n 1, 1) := by decide +kernel
theorem dX7_length_2 : decode cX7_length 2 = .ok (.invokevirtual 62, 3) := by decide +kernel
theorem dX7_length_5 : decode cX7_length 5 = .ok (.astore_n 2, 1) := by decide +kernel
theorem dX7_length_6 : decode cX7_length 6 = .ok (.aload_n 2, 1) := by decide +kernel
theorem dX7_length_7 : decode cX7_length 7 = .ok (.ifnonnull 8, 3) := by decide +kernel
theorem dX7_length_10 : decode cX7_length 10 = .ok (.ldc 70, 2) := by decide +kernel
theorem dX7_length_12 : decode cX7_length 12 = .ok (.goto 7, 3) := by decide +kernel
theorem dX7_length_15 : decode cX7_length 15 = .ok (.aload_n 2, 1) := by decide +kernel
theorem dX7_length_16 : decode cX7_length 16 = .ok (.invokevirtual 82, 3) := by decide +kernel
theorem dX7_length_19 : decode cX7_length 19 = .ok (.ireturn, 1) := by decide +kernel
theorem dX7_handling_0 : decode cX7_handling 0 = .ok (.aload_n 0, 1) := by decide +kernel
theorem dX7_handling_1 : decode cX7_handling 1 = .ok (.iload_n 1, 1) := by decide +kernel
theorem dX7_handling_2 : decode cX7_handling 2 = .ok (.invokevirtual 62, 3) := by decide +kernel
theorem dX7_handling_5 : decode cX7_handling 5 = .ok (.astore_n 3, 1) := by decide +kernel
theorem dX7_handling_6 : decode cX7_handling 6 = .ok (.aload_n 3, 1) := by decide +kernel
theorem dX7_handling_7 : decode cX7_handling 7 = .ok (.ifnull 7, 3) := by decide +kernel
theorem dX7_handling_10 : decode cX7_handling 10 = .ok (.iload_n 2, 1) := by decide +kernel
theorem dX7_handling_11 : decode cX7_handling 11 = .ok (.ifCond .ge 6, 3) := by decide +kernel
theorem dX7_handling_14 : decode cX7_handling 14 = .ok (.ldc 70, 2) := by decide +kernel
theorem dX7_handling_16 : decode cX7_handling 16 = .ok (.ireturn, 1) := by decide +kernel
theorem dX7_handling_17 : decode cX7_handling 17 = .ok (.aload_n 3, 1) := by decide +kernel
theorem dX7_handling_18 : decode cX7_handling 18 = .ok (.iload_n 2, 1) := by decide +kernel
theorem dX7_handling_19 : decode cX7_handling 19 = .ok (.invokevirtual 86, 3) := by decide +kernel
theorem dX7_handling_22 : decode cX7_handling 22 = .ok (.ireturn, 1) := by decide +kernel
end
section
theorem dX7_feed_0 : decode cX7_feed 0 = .ok (.aload_n 0, 1) := by decide +kernel
theorem dX7_feed_1 : decode cX7_feed 1 = .ok (.getfield 30, 3) := by decide +kernel
theorem dX7_feed_4 : decode cX7_feed 4 = .ok (.bipush 12, 2) := by decide +kernel
theorem dX7_feed_6 : decode cX7_feed 6 = .ok (.invokevirtual 90, 3) := by decide +kernel
theorem dX7_feed_9 : decode cX7_feed 9 = .ok (.ifCond .ne 6, 3) := by decide +kernel
theorem dX7_feed_12 : decode cX7_feed 12 = .ok (.ldc 93, 2) := by decide +kernel
theorem dX7_feed_14 : decode cX7_feed 14 = .ok (.ireturn, 1) := by decide +kernel
theorem dX7_feed_15 : decode cX7_feed 15 = .ok (.aload_n 0, 1) := by decide +kernel
theorem dX7_feed_16 : decode cX7_feed 16 = .ok (.getfield 30, 3) := by decide +kernel
theorem dX7_feed_19 : decode cX7_feed 19 = .ok (.iload_n 1, 1) := by decide +kernel
theorem dX7_feed_20 : decode cX7_feed 20 = .ok (.invokevirtual 94, 3) := by decide +kernel
theorem dX7_feed_23 : decode cX7_feed 23 = .ok (.aload_n 0, 1) := by decide +kernel
theorem dX7_feed_24 : decode cX7_feed 24 = .ok (.getfield 30, 3) := by decide +kernel
theorem dX7_feed_27 : decode cX7_feed 27 = .ok (.iload_n 2, 1) := by decide +kernel
theorem dX7_feed_28 : decode cX7_feed 28 = .ok (.invokevirtual 94, 3) := by decide +kernel
theorem dX7_feed_31 : decode cX7_feed 31 = .ok (.aload_n 0, 1) := by decide +kernel
theorem dX7_feed_32 : decode cX7_feed 32 = .ok (.getfield 30, 3) := by decide +kernel
theorem dX7_feed_35 : decode cX7_feed 35 = .ok (.iload_n 3, 1) := by decide +kernel
theorem dX7_feed_36 : decode cX7_feed 36 = .ok (.invokevirtual 94, 3) := by decide +kernel
theorem dX7_feed_39 : decode cX7_feed 39 = .ok (.aload_n 0, 1) := by decide +kernel
theorem dX7_feed_40 : decode cX7_feed 40 = .ok (.getfield 30, 3) := by decide +kernel
theorem dX7_feed_43 : decode cX7_feed 43 = .ok (.getfield 98, 3) := by decide +kernel
theorem dX7_feed_46 : decode cX7_feed 46 = .ok (.ireturn, 1) := by decide +kernel
theorem dX7_trim_0 : decode cX7_trim 0 = .ok (.iload_n 1, 1) := by decide +kernel
theorem dX7_trim_1 : decode cX7_trim 1 = .ok (.ifCond .lt 14, 3) := by decide +kernel
theorem dX7_trim_4 : decode cX7_trim 4 = .ok (.iload_n 1, 1) := by decide +kernel
theorem dX7_trim_5 : decode cX7_trim 5 = .ok (.aload_n 0, 1) := by decide +kernel
theorem dX7_trim_6 : decode cX7_trim 6 = .ok (.getfield 30, 3) := by decide +kernel
theorem dX7_trim_9 : decode cX7_trim 9 = .ok (.getfield 98, 3) := by decide +kernel
theorem dX7_trim_12 : decode cX7_trim 12 = .ok (.if_icmp .le 6, 3) := by decide +kernel
theorem dX7_trim_15 : decode cX7_trim 15 = .ok (.ldc 70, 2) := by decide +kernel
theorem dX7_trim_17 : decode cX7_trim 17 = .ok (.ireturn, 1) := by decide +kernel
theorem dX7_trim_18 : decode cX7_trim 18 = .ok (.aload_n 0, 1) := by decide +kernel
theorem dX7_trim_19 : decode cX7_trim 19 = .ok (.getfield 30, 3) := by decide +kernel
theorem dX7_trim_22 : decode cX7_trim 22 = .ok (.iload_n 1, 1) := by decide +kernel
theorem dX7_trim_23 : decode cX7_trim 23 = .ok (.putfield 98, 3) := by decide +kernel
theorem dX7_trim_26 : decode cX7_trim 26 = .ok (.iload_n 1, 1) := by decide +kernel
theorem dX7_trim_27 : decode cX7_trim 27 = .ok (.ireturn, 1) := by decide +kernel
theorem dX7_phrase_0 : decode cX7_phrase 0 = .ok (.aload_n 0, 1) := by decide +kernel
theorem dX7_phrase_1 : decode cX7_phrase 1 = .ok (.iload_n 1, 1) := by decide +kernel
theorem dX7_phrase_2 : decode cX7_phrase 2 = .ok (.invokevirtual 99, 3) := by decide +kernel
theorem dX7_phrase_5 : decode cX7_phrase 5 = .ok (.astore_n 2, 1) := by decide +kernel
theorem dX7_phrase_6 : decode cX7_phrase 6 = .ok (.aload_n 2, 1) := by decide +kernel
theorem dX7_phrase_7 : decode cX7_phrase 7 = .ok (.ifnonnull 8, 3) := by decide +kernel
theorem dX7_phrase_10 : decode cX7_phrase 10 = .ok (.ldc 70, 2) := by decide +kernel
theorem dX7_phrase_12 : decode cX7_phrase 12 = .ok (.goto 11, 3) := by decide +kernel
theorem dX7_phrase_15 : decode cX7_phrase 15 = .ok (.aload_n 0, 1) := by decide +kernel
theorem dX7_phrase_16 : decode cX7_phrase 16 = .ok (.getfield 30, 3) := by decide +kernel
theorem dX7_phrase_19 : decode cX7_phrase 19 = .ok (.aload_n 2, 1) := by decide +kernel
theorem dX7_phrase_20 : decode cX7_phrase 20 = .ok (.invokevirtual 103, 3) := by decide +kernel
theorem dX7_phrase_23 : decode cX7_phrase 23 = .ok (.istore_n 3, 1) := by decide +kernel
theorem dX7_phrase_24 : decode cX7_phrase 24 = .ok (.aload_n 0, 1) := by decide +kernel
theorem dX7_phrase_25 : decode cX7_phrase 25 = .ok (.getfield 30, 3) := by decide +kernel
theorem dX7_phrase_28 : decode cX7_phrase 28 = .ok (.iconst 0, 1) := by decide +kernel
theorem dX7_phrase_29 : decode cX7_phrase 29 = .ok (.putfield 98, 3) := by decide +kernel
theorem dX7_phrase_32 : decode cX7_phrase 32 = .ok (.iload_n 3, 1) := by decide +kernel
theorem dX7_phrase_33 : decode cX7_phrase 33 = .ok (.ireturn, 1) := by decide +kernel
theorem dX7_syllable_0 : decode cX7_syllable 0 = .ok (.aload_n 0, 1) := by decide +kernel
theorem dX7_syllable_1 : decode cX7_syllable 1 = .ok (.iload_n 1, 1) := by decide +kernel
theorem dX7_syllable_2 : decode cX7_syllable 2 = .ok (.invokevirtual 99, 3) := by decide +kernel
theorem dX7_syllable_5 : decode cX7_syllable 5 = .ok (.astore_n 3, 1) := by decide +kernel
theorem dX7_syllable_6 : decode cX7_syllable 6 = .ok (.aload_n 3, 1) := by decide +kernel
theorem dX7_syllable_7 : decode cX7_syllable 7 = .ok (.ifnull 7, 3) := by decide +kernel
theorem dX7_syllable_10 : decode cX7_syllable 10 = .ok (.iload_n 2, 1) := by decide +kernel
theorem dX7_syllable_11 : decode cX7_syllable 11 = .ok (.ifCond .ge 6, 3) := by decide +kernel
theorem dX7_syllable_14 : decode cX7_syllable 14 = .ok (.ldc 70, 2) := by decide +kernel
theorem dX7_syllable_16 : decode cX7_syllable 16 = .ok (.ireturn, 1) := by decide +kernel
theorem dX7_syllable_17 : decode cX7_syllable 17 = .ok (.aload_n 3, 1) := by decide +kernel
theorem dX7_syllable_18 : decode cX7_syllable 18 = .ok (.iload_n 2, 1) := by decide +kernel
theorem dX7_syllable_19 : decode cX7_syllable 19 = .ok (.invokevirtual 107, 3) := by decide +kernel
theorem dX7_syllable_22 : decode cX7_syllable 22 = .ok (.ireturn, 1) := by decide +kernel
theorem dX7_ticks_0 : decode cX7_ticks 0 = .ok (.aload_n 0, 1) := by decide +kernel
theorem dX7_ticks_1 : decode cX7_ticks 1 = .ok (.iload_n 1, 1) := by decide +kernel
theorem dX7_ticks_2 : decode cX7_ticks 2 = .ok (.invokevirtual 99, 3) := by decide +kernel
theorem dX7_ticks_5 : decode cX7_ticks 5 = .ok (.astore_n 3, 1) := by decide +kernel
theorem dX7_ticks_6 : decode cX7_ticks 6 = .ok (.iload_n 2, 1) := by decide +kernel
theorem dX7_ticks_7 : decode cX7_ticks 7 = .ok (.invokestatic 110, 3) := by decide +kernel
theorem dX7_ticks_10 : decode cX7_ticks 10 = .ok (.istore 4, 2) := by decide +kernel
theorem dX7_ticks_12 : decode cX7_ticks 12 = .ok (.aload_n 3, 1) := by decide +kernel
theorem dX7_ticks_13 : decode cX7_ticks 13 = .ok (.ifnull 8, 3) := by decide +kernel
theorem dX7_ticks_16 : decode cX7_ticks 16 = .ok (.iload 4, 2) := by decide +kernel
theorem dX7_ticks_18 : decode cX7_ticks 18 = .ok (.ifCond .ne 6, 3) := by decide +kernel
theorem dX7_ticks_21 : decode cX7_ticks 21 = .ok (.ldc 70, 2) := by decide +kernel
theorem dX7_ticks_23 : decode cX7_ticks 23 = .ok (.ireturn, 1) := by decide +kernel
theorem dX7_ticks_24 : decode cX7_ticks 24 = .ok (.aload_n 3, 1) := by decide +kernel
theorem dX7_ticks_25 : decode cX7_ticks 25 = .ok (.getfield 113, 3) := by decide +kernel
theorem dX7_ticks_28 : decode cX7_ticks 28 = .ok (.iload 4, 2) := by decide +kernel
theorem dX7_ticks_30 : decode cX7_ticks 30 = .ok (.imul, 1) := by decide +kernel
theorem dX7_ticks_31 : decode cX7_ticks 31 = .ok (.ireturn, 1) := by decide +kernel
theorem dX7_lands_0 : decode cX7_lands 0 = .ok (.aload_n 0, 1) := by decide +kernel
theorem dX7_lands_1 : decode cX7_lands 1 = .ok (.iload_n 1, 1) := by decide +kernel
theorem dX7_lands_2 : decode cX7_lands 2 = .ok (.iload_n 2, 1) := by decide +kernel
theorem dX7_lands_3 : decode cX7_lands 3 = .ok (.iload_n 3, 1) := by decide +kernel
theorem dX7_lands_4 : decode cX7_lands 4 = .ok (.iload 4, 2) := by decide +kernel
theorem dX7_lands_6 : decode cX7_lands 6 = .ok (.iload 5, 2) := by decide +kernel
theorem dX7_lands_8 : decode cX7_lands 8 = .ok (.invokevirtual 114, 3) := by decide +kernel
theorem dX7_lands_11 : decode cX7_lands 11 = .ok (.istore 6, 2) := by decide +kernel
theorem dX7_lands_13 : decode cX7_lands 13 = .ok (.iload 6, 2) := by decide +kernel
theorem dX7_lands_15 : decode cX7_lands 15 = .ok (.ifCond .eq 6, 3) := by decide +kernel
theorem dX7_lands_18 : decode cX7_lands 18 = .ok (.iload 6, 2) := by decide +kernel
theorem dX7_lands_20 : decode cX7_lands 20 = .ok (.ireturn, 1) := by decide +kernel
theorem dX7_lands_21 : decode cX7_lands 21 = .ok (.aload_n 0, 1) := by decide +kernel
theorem dX7_lands_22 : decode cX7_lands 22 = .ok (.iload_n 1, 1) := by decide +kernel
theorem dX7_lands_23 : decode cX7_lands 23 = .ok (.iload_n 2, 1) := by decide +kernel
theorem dX7_lands_24 : decode cX7_lands 24 = .ok (.iload_n 3, 1) := by decide +kernel
theorem dX7_lands_25 : decode cX7_lands 25 = .ok (.iload 4, 2) := by decide +kernel
theorem dX7_lands_27 : decode cX7_lands 27 = .ok (.iconst 3, 1) := by decide +kernel
theorem dX7_lands_28 : decode cX7_lands 28 = .ok (.invokevirtual 118, 3) := by decide +kernel
theorem dX7_lands_31 : decode cX7_lands 31 = .ok (.istore 7, 2) := by decide +kernel
theorem dX7_lands_33 : decode cX7_lands 33 = .ok (.iload 7, 2) := by decide +kernel
theorem dX7_lands_35 : decode cX7_lands 35 = .ok (.iconst 2, 1) := by decide +kernel
theorem dX7_lands_36 : decode cX7_lands 36 = .ok (.iload 5, 2) := by decide +kernel
theorem dX7_lands_38 : decode cX7_lands 38 = .ok (.imul, 1) := by decide +kernel
theorem dX7_lands_39 : decode cX7_lands 39 = .ok (.aload_n 0, 1) := by decide +kernel
theorem dX7_lands_40 : decode cX7_lands 40 = .ok (.iload_n 1, 1) := by decide +kernel
theorem dX7_lands_41 : decode cX7_lands 41 = .ok (.invokevirtual 121, 3) := by decide +kernel
theorem dX7_lands_44 : decode cX7_lands 44 = .ok (.invokestatic 124, 3) := by decide +kernel
theorem dX7_lands_47 : decode cX7_lands 47 = .ok (.ifCond .ne 7, 3) := by decide +kernel
theorem dX7_lands_50 : decode cX7_lands 50 = .ok (.iconst 1, 1) := by decide +kernel
theorem dX7_lands_51 : decode cX7_lands 51 = .ok (.goto 4, 3) := by decide +kernel
theorem dX7_lands_54 : decode cX7_lands 54 = .ok (.iconst 0, 1) := by decide +kernel
theorem dX7_lands_55 : decode cX7_lands 55 = .ok (.ireturn, 1) := by decide +kernel
theorem dX7_gaps_0 : decode cX7_gaps 0 = .ok (.aload_n 0, 1) := by decide +kernel
theorem dX7_gaps_1 : decode cX7_gaps 1 = .ok (.iload_n 1, 1) := by decide +kernel
theorem dX7_gaps_2 : decode cX7_gaps 2 = .ok (.iload_n 2, 1) := by decide +kernel
theorem dX7_gaps_3 : decode cX7_gaps 3 = .ok (.iload_n 3, 1) := by decide +kernel
theorem dX7_gaps_4 : decode cX7_gaps 4 = .ok (.iload 4, 2) := by decide +kernel
theorem dX7_gaps_6 : decode cX7_gaps 6 = .ok (.iconst 0, 1) := by decide +kernel
theorem dX7_gaps_7 : decode cX7_gaps 7 = .ok (.invokevirtual 114, 3) := by decide +kernel
theorem dX7_gaps_10 : decode cX7_gaps 10 = .ok (.istore 5, 2) := by decide +kernel
theorem dX7_gaps_12 : decode cX7_gaps 12 = .ok (.iload 5, 2) := by decide +kernel
theorem dX7_gaps_14 : decode cX7_gaps 14 = .ok (.ifCond .eq 6, 3) := by decide +kernel
theorem dX7_gaps_17 : decode cX7_gaps 17 = .ok (.iload 5, 2) := by decide +kernel
theorem dX7_gaps_19 : decode cX7_gaps 19 = .ok (.ireturn, 1) := by decide +kernel
theorem dX7_gaps_20 : decode cX7_gaps 20 = .ok (.aload_n 0, 1) := by decide +kernel
theorem dX7_gaps_21 : decode cX7_gaps 21 = .ok (.aload_n 0, 1) := by decide +kernel
theorem dX7_gaps_22 : decode cX7_gaps 22 = .ok (.iload_n 1, 1) := by decide +kernel
theorem dX7_gaps_23 : decode cX7_gaps 23 = .ok (.iload_n 2, 1) := by decide +kernel
theorem dX7_gaps_24 : decode cX7_gaps 24 = .ok (.iload_n 3, 1) := by decide +kernel
theorem dX7_gaps_25 : decode cX7_gaps 25 = .ok (.iload 4, 2) := by decide +kernel
theorem dX7_gaps_27 : decode cX7_gaps 27 = .ok (.iconst 3, 1) := by decide +kernel
theorem dX7_gaps_28 : decode cX7_gaps 28 = .ok (.invokevirtual 118, 3) := by decide +kernel
theorem dX7_gaps_31 : decode cX7_gaps 31 = .ok (.aload_n 0, 1) := by decide +kernel
theorem dX7_gaps_32 : decode cX7_gaps 32 = .ok (.iload_n 1, 1) := by decide +kernel
theorem dX7_gaps_33 : decode cX7_gaps 33 = .ok (.invokevirtual 121, 3) := by decide +kernel
theorem dX7_gaps_36 : decode cX7_gaps 36 = .ok (.invokevirtual 128, 3) := by decide +kernel
theorem dX7_gaps_39 : decode cX7_gaps 39 = .ok (.ireturn, 1) := by decide +kernel
theorem dX7_gap_0 : decode cX7_gap 0 = .ok (.iload 5, 2) := by decide +kernel
theorem dX7_gap_2 : decode cX7_gap 2 = .ok (.ifCond .ge 6, 3) := by decide +kernel
theorem dX7_gap_5 : decode cX7_gap 5 = .ok (.ldc 70, 2) := by decide +kernel
theorem dX7_gap_7 : decode cX7_gap 7 = .ok (.ireturn, 1) := by decide +kernel
theorem dX7_gap_8 : decode cX7_gap 8 = .ok (.aload_n 0, 1) := by decide +kernel
theorem dX7_gap_9 : decode cX7_gap 9 = .ok (.iload_n 1, 1) := by decide +kernel
theorem dX7_gap_10 : decode cX7_gap 10 = .ok (.iload_n 2, 1) := by decide +kernel
theorem dX7_gap_11 : decode cX7_gap 11 = .ok (.iload_n 3, 1) := by decide +kernel
theorem dX7_gap_12 : decode cX7_gap 12 = .ok (.iload 4, 2) := by decide +kernel
theorem dX7_gap_14 : decode cX7_gap 14 = .ok (.iconst 0, 1) := by decide +kernel
theorem dX7_gap_15 : decode cX7_gap 15 = .ok (.invokevirtual 114, 3) := by decide +kernel
theorem dX7_gap_18 : decode cX7_gap 18 = .ok (.istore 6, 2) := by decide +kernel
theorem dX7_gap_20 : decode cX7_gap 20 = .ok (.iload 6, 2) := by decide +kernel
theorem dX7_gap_22 : decode cX7_gap 22 = .ok (.ifCond .eq 6, 3) := by decide +kernel
theorem dX7_gap_25 : decode cX7_gap 25 = .ok (.iload 6, 2) := by decide +kernel
theorem dX7_gap_27 : decode cX7_gap 27 = .ok (.ireturn, 1) := by decide +kernel
theorem dX7_gap_28 : decode cX7_gap 28 = .ok (.aload_n 0, 1) := by decide +kernel
theorem dX7_gap_29 : decode cX7_gap 29 = .ok (.aload_n 0, 1) := by decide +kernel
theorem dX7_gap_30 : decode cX7_gap 30 = .ok (.iload_n 1, 1) := by decide +kernel
theorem dX7_gap_31 : decode cX7_gap 31 = .ok (.iload_n 2, 1) := by decide +kernel
theorem dX7_gap_32 : decode cX7_gap 32 = .ok (.iload_n 3, 1) := by decide +kernel
theorem dX7_gap_33 : decode cX7_gap 33 = .ok (.iload 4, 2) := by decide +kernel
theorem dX7_gap_35 : decode cX7_gap 35 = .ok (.iconst 3, 1) := by decide +kernel
theorem dX7_gap_36 : decode cX7_gap 36 = .ok (.invokevirtual 118, 3) := by decide +kernel
theorem dX7_gap_39 : decode cX7_gap 39 = .ok (.aload_n 0, 1) := by decide +kernel
theorem dX7_gap_40 : decode cX7_gap 40 = .ok (.iload_n 1, 1) := by decide +kernel
theorem dX7_gap_41 : decode cX7_gap 41 = .ok (.invokevirtual 121, 3) := by decide +kernel
theorem dX7_gap_44 : decode cX7_gap 44 = .ok (.iload 5, 2) := by decide +kernel
theorem dX7_gap_46 : decode cX7_gap 46 = .ok (.invokevirtual 131, 3) := by decide +kernel
theorem dX7_gap_49 : decode cX7_gap 49 = .ok (.ireturn, 1) := by decide +kernel
theorem dX7_start_0 : decode cX7_start 0 = .ok (.aload_n 0, 1) := by decide +kernel
theorem dX7_start_1 : decode cX7_start 1 = .ok (.iload_n 1, 1) := by decide +kernel
theorem dX7_start_2 : decode cX7_start 2 = .ok (.iload_n 2, 1) := by decide +kernel
theorem dX7_start_3 : decode cX7_start 3 = .ok (.iload_n 3, 1) := by decide +kernel
theorem dX7_start_4 : decode cX7_start 4 = .ok (.iconst 0, 1) := by decide +kernel
theorem dX7_start_5 : decode cX7_start 5 = .ok (.iload 4, 2) := by decide +kernel
theorem dX7_start_7 : decode cX7_start 7 = .ok (.invokevirtual 114, 3) := by decide +kernel
theorem dX7_start_10 : decode cX7_start 10 = .ok (.istore 5, 2) := by decide +kernel
theorem dX7_start_12 : decode cX7_start 12 = .ok (.iload 5, 2) := by decide +kernel
theorem dX7_start_14 : decode cX7_start 14 = .ok (.ifCond .eq 6, 3) := by decide +kernel
theorem dX7_start_17 : decode cX7_start 17 = .ok (.iload 5, 2) := by decide +kernel
theorem dX7_start_19 : decode cX7_start 19 = .ok (.ireturn, 1) := by decide +kernel
theorem dX7_start_20 : decode cX7_start 20 = .ok (.aload_n 0, 1) := by decide +kernel
theorem dX7_start_21 : decode cX7_start 21 = .ok (.iload_n 1, 1) := by decide +kernel
theorem dX7_start_22 : decode cX7_start 22 = .ok (.iload_n 2, 1) := by decide +kernel
theorem dX7_start_23 : decode cX7_start 23 = .ok (.iload_n 3, 1) := by decide +kernel
theorem dX7_start_24 : decode cX7_start 24 = .ok (.iconst 0, 1) := by decide +kernel
theorem dX7_start_25 : decode cX7_start 25 = .ok (.iconst 3, 1) := by decide +kernel
theorem dX7_start_26 : decode cX7_start 26 = .ok (.invokevirtual 118, 3) := by decide +kernel
theorem dX7_start_29 : decode cX7_start 29 = .ok (.istore 6, 2) := by decide +kernel
theorem dX7_start_31 : decode cX7_start 31 = .ok (.iload 6, 2) := by decide +kernel
theorem dX7_start_33 : decode cX7_start 33 = .ok (.iconst 2, 1) := by decide +kernel
theorem dX7_start_34 : decode cX7_start 34 = .ok (.iload 4, 2) := by decide +kernel
theorem dX7_start_36 : decode cX7_start 36 = .ok (.imul, 1) := by decide +kernel
theorem dX7_start_37 : decode cX7_start 37 = .ok (.aload_n 0, 1) := by decide +kernel
theorem dX7_start_38 : decode cX7_start 38 = .ok (.iload_n 1, 1) := by decide +kernel
theorem dX7_start_39 : decode cX7_start 39 = .ok (.invokevirtual 121, 3) := by decide +kernel
theorem dX7_start_42 : decode cX7_start 42 = .ok (.invokestatic 124, 3) := by decide +kernel
theorem dX7_start_45 : decode cX7_start 45 = .ok (.ireturn, 1) := by decide +kernel
theorem dX7_doubles_0 : decode cX7_doubles 0 = .ok (.aload_n 0, 1) := by decide +kernel
theorem dX7_doubles_1 : decode cX7_doubles 1 = .ok (.iload_n 1, 1) := by decide +kernel
theorem dX7_doubles_2 : decode cX7_doubles 2 = .ok (.iload_n 2, 1) := by decide +kernel
theorem dX7_doubles_3 : decode cX7_doubles 3 = .ok (.iload_n 3, 1) := by decide +kernel
theorem dX7_doubles_4 : decode cX7_doubles 4 = .ok (.iload 4, 2) := by decide +kernel
theorem dX7_doubles_6 : decode cX7_doubles 6 = .ok (.iconst 0, 1) := by decide +kernel
theorem dX7_doubles_7 : decode cX7_doubles 7 = .ok (.invokevirtual 114, 3) := by decide +kernel
theorem dX7_doubles_10 : decode cX7_doubles 10 = .ok (.istore 5, 2) := by decide +kernel
theorem dX7_doubles_12 : decode cX7_doubles 12 = .ok (.iload 5, 2) := by decide +kernel
theorem dX7_doubles_14 : decode cX7_doubles 14 = .ok (.ifCond .eq 6, 3) := by decide +kernel
theorem dX7_doubles_17 : decode cX7_doubles 17 = .ok (.iload 5, 2) := by decide +kernel
theorem dX7_doubles_19 : decode cX7_doubles 19 = .ok (.ireturn, 1) := by decide +kernel
theorem dX7_doubles_20 : decode cX7_doubles 20 = .ok (.aload_n 0, 1) := by decide +kernel
theorem dX7_doubles_21 : decode cX7_doubles 21 = .ok (.iload_n 1, 1) := by decide +kernel
theorem dX7_doubles_22 : decode cX7_doubles 22 = .ok (.iload_n 2, 1) := by decide +kernel
theorem dX7_doubles_23 : decode cX7_doubles 23 = .ok (.iload_n 3, 1) := by decide +kernel
theorem dX7_doubles_24 : decode cX7_doubles 24 = .ok (.iload 4, 2) := by decide +kernel
theorem dX7_doubles_26 : decode cX7_doubles 26 = .ok (.bipush 9, 2) := by decide +kernel
theorem dX7_doubles_28 : decode cX7_doubles 28 = .ok (.invokevirtual 118, 3) := by decide +kernel
theorem dX7_doubles_31 : decode cX7_doubles 31 = .ok (.istore 6, 2) := by decide +kernel
theorem dX7_doubles_33 : decode cX7_doubles 33 = .ok (.aload_n 0, 1) := by decide +kernel
theorem dX7_doubles_34 : decode cX7_doubles 34 = .ok (.iload_n 1, 1) := by decide +kernel
theorem dX7_doubles_35 : decode cX7_doubles 35 = .ok (.invokevirtual 121, 3) := by decide +kernel
theorem dX7_doubles_38 : decode cX7_doubles 38 = .ok (.istore 7, 2) := by decide +kernel
theorem dX7_doubles_40 : decode cX7_doubles 40 = .ok (.iconst 0, 1) := by decide +kernel
theorem dX7_doubles_41 : decode cX7_doubles 41 = .ok (.istore 8, 2) := by decide +kernel
theorem dX7_doubles_43 : decode cX7_doubles 43 = .ok (.iconst 0, 1) := by decide +kernel
theorem dX7_doubles_44 : decode cX7_doubles 44 = .ok (.istore 9, 2) := by decide +kernel
theorem dX7_doubles_46 : decode cX7_doubles 46 = .ok (.iload 9, 2) := by decide +kernel
theorem dX7_doubles_48 : decode cX7_doubles 48 = .ok (.bipush 96, 2) := by decide +kernel
theorem dX7_doubles_50 : decode cX7_doubles 50 = .ok (.if_icmp .gt 38, 3) := by decide +kernel
theorem dX7_doubles_53 : decode cX7_doubles 53 = .ok (.iload 8, 2) := by decide +kernel
theorem dX7_doubles_55 : decode cX7_doubles 55 = .ok (.aload_n 0, 1) := by decide +kernel
theorem dX7_doubles_56 : decode cX7_doubles 56 = .ok (.iload 6, 2) := by decide +kernel
theorem dX7_doubles_58 : decode cX7_doubles 58 = .ok (.bipush 6, 2) := by decide +kernel
theorem dX7_doubles_60 : decode cX7_doubles 60 = .ok (.iload 9, 2) := by decide +kernel
theorem dX7_doubles_62 : decode cX7_doubles 62 = .ok (.imul, 1) := by decide +kernel
theorem dX7_doubles_63 : decode cX7_doubles 63 = .ok (.iload 7, 2) := by decide +kernel
theorem dX7_doubles_65 : decode cX7_doubles 65 = .ok (.invokestatic 124, 3) := by decide +kernel
theorem dX7_doubles_68 : decode cX7_doubles 68 = .ok (.iload 7, 2) := by decide +kernel
theorem dX7_doubles_70 : decode cX7_doubles 70 = .ok (.invokevirtual 128, 3) := by decide +kernel
theorem dX7_doubles_73 : decode cX7_doubles 73 = .ok (.iadd, 1) := by decide +kernel
theorem dX7_doubles_74 : decode cX7_doubles 74 = .ok (.istore 8, 2) := by decide +kernel
theorem dX7_doubles_76 : decode cX7_doubles 76 = .ok (.iload 9, 2) := by decide +kernel
theorem dX7_doubles_78 : decode cX7_doubles 78 = .ok (.aload_n 0, 1) := by decide +kernel
theorem dX7_doubles_79 : decode cX7_doubles 79 = .ok (.getfield 55, 3) := by decide +kernel
theorem dX7_doubles_82 : decode cX7_doubles 82 = .ok (.iadd, 1) := by decide +kernel
theorem dX7_doubles_83 : decode cX7_doubles 83 = .ok (.istore 9, 2) := by decide +kernel
theorem dX7_doubles_85 : decode cX7_doubles 85 = .ok (.goto (-39), 3) := by decide +kernel
theorem dX7_doubles_88 : decode cX7_doubles 88 = .ok (.iload 8, 2) := by decide +kernel
theorem dX7_doubles_90 : decode cX7_doubles 90 = .ok (.ireturn, 1) := by decide +kernel
theorem dX7_least_0 : decode cX7_least 0 = .ok (.aload_n 0, 1) := by decide +kernel
theorem dX7_least_1 : decode cX7_least 1 = .ok (.iload_n 1, 1) := by decide +kernel
theorem dX7_least_2 : decode cX7_least 2 = .ok (.iload_n 2, 1) := by decide +kernel
theorem dX7_least_3 : decode cX7_least 3 = .ok (.iload_n 3, 1) := by decide +kernel
theorem dX7_least_4 : decode cX7_least 4 = .ok (.iload 4, 2) := by decide +kernel
theorem dX7_least_6 : decode cX7_least 6 = .ok (.iconst 0, 1) := by decide +kernel
theorem dX7_least_7 : decode cX7_least 7 = .ok (.invokevirtual 114, 3) := by decide +kernel
theorem dX7_least_10 : decode cX7_least 10 = .ok (.istore 5, 2) := by decide +kernel
theorem dX7_least_12 : decode cX7_least 12 = .ok (.iload 5, 2) := by decide +kernel
theorem dX7_least_14 : decode cX7_least 14 = .ok (.ifCond .eq 6, 3) := by decide +kernel
theorem dX7_least_17 : decode cX7_least 17 = .ok (.iload 5, 2) := by decide +kernel
theorem dX7_least_19 : decode cX7_least 19 = .ok (.ireturn, 1) := by decide +kernel
theorem dX7_least_20 : decode cX7_least 20 = .ok (.aload_n 0, 1) := by decide +kernel
theorem dX7_least_21 : decode cX7_least 21 = .ok (.iload_n 1, 1) := by decide +kernel
theorem dX7_least_22 : decode cX7_least 22 = .ok (.iload_n 2, 1) := by decide +kernel
theorem dX7_least_23 : decode cX7_least 23 = .ok (.iload_n 3, 1) := by decide +kernel
theorem dX7_least_24 : decode cX7_least 24 = .ok (.iload 4, 2) := by decide +kernel
theorem dX7_least_26 : decode cX7_least 26 = .ok (.bipush 9, 2) := by decide +kernel
theorem dX7_least_28 : decode cX7_least 28 = .ok (.invokevirtual 118, 3) := by decide +kernel
theorem dX7_least_31 : decode cX7_least 31 = .ok (.istore 6, 2) := by decide +kernel
theorem dX7_least_33 : decode cX7_least 33 = .ok (.aload_n 0, 1) := by decide +kernel
theorem dX7_least_34 : decode cX7_least 34 = .ok (.iload_n 1, 1) := by decide +kernel
theorem dX7_least_35 : decode cX7_least 35 = .ok (.invokevirtual 121, 3) := by decide +kernel
theorem dX7_least_38 : decode cX7_least 38 = .ok (.istore 7, 2) := by decide +kernel
theorem dX7_least_40 : decode cX7_least 40 = .ok (.ldc 134, 2) := by decide +kernel
theorem dX7_least_42 : decode cX7_least 42 = .ok (.istore 8, 2) := by decide +kernel
theorem dX7_least_44 : decode cX7_least 44 = .ok (.sipush 193, 3) := by decide +kernel
theorem dX7_least_47 : decode cX7_least 47 = .ok (.istore 9, 2) := by decide +kernel
theorem dX7_least_49 : decode cX7_least 49 = .ok (.iconst 0, 1) := by decide +kernel
theorem dX7_least_50 : decode cX7_least 50 = .ok (.istore 10, 2) := by decide +kernel
theorem dX7_least_52 : decode cX7_least 52 = .ok (.iload 10, 2) := by decide +kernel
theorem dX7_least_54 : decode cX7_least 54 = .ok (.bipush 96, 2) := by decide +kernel
theorem dX7_least_56 : decode cX7_least 56 = .ok (.if_icmp .gt 71, 3) := by decide +kernel
theorem dX7_least_59 : decode cX7_least 59 = .ok (.aload_n 0, 1) := by decide +kernel
theorem dX7_least_60 : decode cX7_least 60 = .ok (.iload 6, 2) := by decide +kernel
theorem dX7_least_62 : decode cX7_least 62 = .ok (.bipush 6, 2) := by decide +kernel
theorem dX7_least_64 : decode cX7_least 64 = .ok (.iload 10, 2) := by decide +kernel
theorem dX7_least_66 : decode cX7_least 66 = .ok (.imul, 1) := by decide +kernel
theorem dX7_least_67 : decode cX7_least 67 = .ok (.iload 7, 2) := by decide +kernel
theorem dX7_least_69 : decode cX7_least 69 = .ok (.invokestatic 124, 3) := by decide +kernel
theorem dX7_least_72 : decode cX7_least 72 = .ok (.iload 7, 2) := by decide +kernel
theorem dX7_least_74 : decode cX7_least 74 = .ok (.iconst 0, 1) := by decide +kernel
theorem dX7_least_75 : decode cX7_least 75 = .ok (.invokevirtual 131, 3) := by decide +kernel
theorem dX7_least_78 : decode cX7_least 78 = .ok (.istore 11, 2) := by decide +kernel
theorem dX7_least_80 : decode cX7_least 80 = .ok (.iload 11, 2) := by decide +kernel
theorem dX7_least_82 : decode cX7_least 82 = .ok (.ldc 134, 2) := by decide +kernel
theorem dX7_least_84 : decode cX7_least 84 = .ok (.if_icmp .eq 31, 3) := by decide +kernel
theorem dX7_least_87 : decode cX7_least 87 = .ok (.iload 10, 2) := by decide +kernel
theorem dX7_least_89 : decode cX7_least 89 = .ok (.iload 11, 2) := by decide +kernel
theorem dX7_least_91 : decode cX7_least 91 = .ok (.iadd, 1) := by decide +kernel
theorem dX7_least_92 : decode cX7_least 92 = .ok (.iload 9, 2) := by decide +kernel
theorem dX7_least_94 : decode cX7_least 94 = .ok (.if_icmp .ge 21, 3) := by decide +kernel
theorem dX7_least_97 : decode cX7_least 97 = .ok (.sipush 1000, 3) := by decide +kernel
theorem dX7_least_100 : decode cX7_least 100 = .ok (.iload 10, 2) := by decide +kernel
theorem dX7_least_102 : decode cX7_least 102 = .ok (.imul, 1) := by decide +kernel
theorem dX7_least_103 : decode cX7_least 103 = .ok (.iload 11, 2) := by decide +kernel
theorem dX7_least_105 : decode cX7_least 105 = .ok (.iadd, 1) := by decide +kernel
theorem dX7_least_106 : decode cX7_least 106 = .ok (.istore 8, 2) := by decide +kernel
theorem dX7_least_108 : decode cX7_least 108 = .ok (.iload 10, 2) := by decide +kernel
theorem dX7_least_110 : decode cX7_least 110 = .ok (.iload 11, 2) := by decide +kernel
theorem dX7_least_112 : decode cX7_least 112 = .ok (.iadd, 1) := by decide +kernel
theorem dX7_least_113 : decode cX7_least 113 = .ok (.istore 9, 2) := by decide +kernel
theorem dX7_least_115 : decode cX7_least 115 = .ok (.iload 10, 2) := by decide +kernel
theorem dX7_least_117 : decode cX7_least 117 = .ok (.aload_n 0, 1) := by decide +kernel
theorem dX7_least_118 : decode cX7_least 118 = .ok (.getfield 55, 3) := by decide +kernel
theorem dX7_least_121 : decode cX7_least 121 = .ok (.iadd, 1) := by decide +kernel
theorem dX7_least_122 : decode cX7_least 122 = .ok (.istore 10, 2) := by decide +kernel
theorem dX7_least_124 : decode cX7_least 124 = .ok (.goto (-72), 3) := by decide +kernel
theorem dX7_least_127 : decode cX7_least 127 = .ok (.iload 8, 2) := by decide +kernel
theorem dX7_least_129 : decode cX7_least 129 = .ok (.ireturn, 1) := by decide +kernel
theorem dX7_grid_0 : decode cX7_grid 0 = .ok (.iload_n 1, 1) := by decide +kernel
theorem dX7_grid_1 : decode cX7_grid 1 = .ok (.iconst 1, 1) := by decide +kernel
theorem dX7_grid_2 : decode cX7_grid 2 = .ok (.if_icmp .lt 9, 3) := by decide +kernel
theorem dX7_grid_5 : decode cX7_grid 5 = .ok (.iload_n 1, 1) := by decide +kernel
theorem dX7_grid_6 : decode cX7_grid 6 = .ok (.bipush 24, 2) := by decide +kernel
theorem dX7_grid_8 : decode cX7_grid 8 = .ok (.if_icmp .le 6, 3) := by decide +kernel
theorem dX7_grid_11 : decode cX7_grid 11 = .ok (.ldc 70, 2) := by decide +kernel
theorem dX7_grid_13 : decode cX7_grid 13 = .ok (.ireturn, 1) := by decide +kernel
theorem dX7_grid_14 : decode cX7_grid 14 = .ok (.aload_n 0, 1) := by decide +kernel
theorem dX7_grid_15 : decode cX7_grid 15 = .ok (.getfield 55, 3) := by decide +kernel
theorem dX7_grid_18 : decode cX7_grid 18 = .ok (.istore_n 2, 1) := by decide +kernel
theorem dX7_grid_19 : decode cX7_grid 19 = .ok (.aload_n 0, 1) := by decide +kernel
theorem dX7_grid_20 : decode cX7_grid 20 = .ok (.iload_n 1, 1) := by decide +kernel
theorem dX7_grid_21 : decode cX7_grid 21 = .ok (.putfield 55, 3) := by decide +kernel
theorem dX7_grid_24 : decode cX7_grid 24 = .ok (.iload_n 2, 1) := by decide +kernel
theorem dX7_grid_25 : decode cX7_grid 25 = .ok (.ireturn, 1) := by decide +kernel
theorem dX7_shape_0 : decode cX7_shape 0 = .ok (.aload_n 0, 1) := by decide +kernel
theorem dX7_shape_1 : decode cX7_shape 1 = .ok (.iload_n 1, 1) := by decide +kernel
theorem dX7_shape_2 : decode cX7_shape 2 = .ok (.iload_n 2, 1) := by decide +kernel
theorem dX7_shape_3 : decode cX7_shape 3 = .ok (.iload_n 3, 1) := by decide +kernel
theorem dX7_shape_4 : decode cX7_shape 4 = .ok (.invokevirtual 135, 3) := by decide +kernel
theorem dX7_shape_7 : decode cX7_shape 7 = .ok (.istore 4, 2) := by decide +kernel
theorem dX7_shape_9 : decode cX7_shape 9 = .ok (.iload 4, 2) := by decide +kernel
theorem dX7_shape_11 : decode cX7_shape 11 = .ok (.ifCond .eq 6, 3) := by decide +kernel
theorem dX7_shape_14 : decode cX7_shape 14 = .ok (.iload 4, 2) := by decide +kernel
theorem dX7_shape_16 : decode cX7_shape 16 = .ok (.ireturn, 1) := by decide +kernel
theorem dX7_shape_17 : decode cX7_shape 17 = .ok (.aload_n 0, 1) := by decide +kernel
theorem dX7_shape_18 : decode cX7_shape 18 = .ok (.iload_n 1, 1) := by decide +kernel
theorem dX7_shape_19 : decode cX7_shape 19 = .ok (.invokevirtual 99, 3) := by decide +kernel
theorem dX7_shape_22 : decode cX7_shape 22 = .ok (.astore 5, 2) := by decide +kernel
theorem dX7_shape_24 : decode cX7_shape 24 = .ok (.aload 5, 2) := by decide +kernel
theorem dX7_shape_26 : decode cX7_shape 26 = .ok (.iload_n 2, 1) := by decide +kernel
theorem dX7_shape_27 : decode cX7_shape 27 = .ok (.iload_n 3, 1) := by decide +kernel
theorem dX7_shape_28 : decode cX7_shape 28 = .ok (.invokestatic 138, 3) := by decide +kernel
theorem dX7_shape_31 : decode cX7_shape 31 = .ok (.istore 6, 2) := by decide +kernel
theorem dX7_shape_33 : decode cX7_shape 33 = .ok (.iconst 0, 1) := by decide +kernel
theorem dX7_shape_34 : decode cX7_shape 34 = .ok (.istore 7, 2) := by decide +kernel
theorem dX7_shape_36 : decode cX7_shape 36 = .ok (.iconst 0, 1) := by decide +kernel
theorem dX7_shape_37 : decode cX7_shape 37 = .ok (.istore 8, 2) := by decide +kernel
theorem dX7_shape_39 : decode cX7_shape 39 = .ok (.iload 8, 2) := by decide +kernel
theorem dX7_shape_41 : decode cX7_shape 41 = .ok (.iload 6, 2) := by decide +kernel
theorem dX7_shape_43 : decode cX7_shape 43 = .ok (.if_icmp .ge 29, 3) := by decide +kernel
theorem dX7_shape_46 : decode cX7_shape 46 = .ok (.iload 7, 2) := by decide +kernel
theorem dX7_shape_48 : decode cX7_shape 48 = .ok (.aload 5, 2) := by decide +kernel
theorem dX7_shape_50 : decode cX7_shape 50 = .ok (.getfield 113, 3) := by decide +kernel
theorem dX7_shape_53 : decode cX7_shape 53 = .ok (.aload 5, 2) := by decide +kernel
theorem dX7_shape_55 : decode cX7_shape 55 = .ok (.iload_n 2, 1) := by decide +kernel
theorem dX7_shape_56 : decode cX7_shape 56 = .ok (.iload_n 3, 1) := by decide +kernel
theorem dX7_shape_57 : decode cX7_shape 57 = .ok (.iload 8, 2) := by decide +kernel
theorem dX7_shape_59 : decode cX7_shape 59 = .ok (.invokestatic 142, 3) := by decide +kernel
theorem dX7_shape_62 : decode cX7_shape 62 = .ok (.isub, 1) := by decide +kernel
theorem dX7_shape_63 : decode cX7_shape 63 = .ok (.iadd, 1) := by decide +kernel
theorem dX7_shape_64 : decode cX7_shape 64 = .ok (.istore 7, 2) := by decide +kernel
theorem dX7_shape_66 : decode cX7_shape 66 = .ok (.iinc 8 1, 3) := by decide +kernel
theorem dX7_shape_69 : decode cX7_shape 69 = .ok (.goto (-30), 3) := by decide +kernel
theorem dX7_shape_72 : decode cX7_shape 72 = .ok (.iload 7, 2) := by decide +kernel
theorem dX7_shape_74 : decode cX7_shape 74 = .ok (.ireturn, 1) := by decide +kernel
theorem dX7_shaped_0 : decode cX7_shaped 0 = .ok (.iload 4, 2) := by decide +kernel
theorem dX7_shaped_2 : decode cX7_shaped 2 = .ok (.ifCond .ge 6, 3) := by decide +kernel
theorem dX7_shaped_5 : decode cX7_shaped 5 = .ok (.ldc 70, 2) := by decide +kernel
theorem dX7_shaped_7 : decode cX7_shaped 7 = .ok (.ireturn, 1) := by decide +kernel
theorem dX7_shaped_8 : decode cX7_shaped 8 = .ok (.aload_n 0, 1) := by decide +kernel
theorem dX7_shaped_9 : decode cX7_shaped 9 = .ok (.iload_n 1, 1) := by decide +kernel
theorem dX7_shaped_10 : decode cX7_shaped 10 = .ok (.iload_n 2, 1) := by decide +kernel
theorem dX7_shaped_11 : decode cX7_shaped 11 = .ok (.iload_n 3, 1) := by decide +kernel
theorem dX7_shaped_12 : decode cX7_shaped 12 = .ok (.invokevirtual 135, 3) := by decide +kernel
theorem dX7_shaped_15 : decode cX7_shaped 15 = .ok (.istore 5, 2) := by decide +kernel
theorem dX7_shaped_17 : decode cX7_shaped 17 = .ok (.iload 5, 2) := by decide +kernel
theorem dX7_shaped_19 : decode cX7_shaped 19 = .ok (.ifCond .eq 6, 3) := by decide +kernel
theorem dX7_shaped_22 : decode cX7_shaped 22 = .ok (.iload 5, 2) := by decide +kernel
theorem dX7_shaped_24 : decode cX7_shaped 24 = .ok (.ireturn, 1) := by decide +kernel
theorem dX7_shaped_25 : decode cX7_shaped 25 = .ok (.aload_n 0, 1) := by decide +kernel
theorem dX7_shaped_26 : decode cX7_shaped 26 = .ok (.iload_n 1, 1) := by decide +kernel
theorem dX7_shaped_27 : decode cX7_shaped 27 = .ok (.invokevirtual 99, 3) := by decide +kernel
theorem dX7_shaped_30 : decode cX7_shaped 30 = .ok (.astore 6, 2) := by decide +kernel
theorem dX7_shaped_32 : decode cX7_shaped 32 = .ok (.aload 6, 2) := by decide +kernel
theorem dX7_shaped_34 : decode cX7_shaped 34 = .ok (.iload_n 2, 1) := by decide +kernel
theorem dX7_shaped_35 : decode cX7_shaped 35 = .ok (.iload_n 3, 1) := by decide +kernel
theorem dX7_shaped_36 : decode cX7_shaped 36 = .ok (.invokestatic 138, 3) := by decide +kernel
theorem dX7_shaped_39 : decode cX7_shaped 39 = .ok (.istore 7, 2) := by decide +kernel
theorem dX7_shaped_41 : decode cX7_shaped 41 = .ok (.iload 4, 2) := by decide +kernel
theorem dX7_shaped_43 : decode cX7_shaped 43 = .ok (.istore 8, 2) := by decide +kernel
theorem dX7_shaped_45 : decode cX7_shaped 45 = .ok (.iconst 0, 1) := by decide +kernel
theorem dX7_shaped_46 : decode cX7_shaped 46 = .ok (.istore 9, 2) := by decide +kernel
theorem dX7_shaped_48 : decode cX7_shaped 48 = .ok (.iload 9, 2) := by decide +kernel
theorem dX7_shaped_50 : decode cX7_shaped 50 = .ok (.iload 7, 2) := by decide +kernel
theorem dX7_shaped_52 : decode cX7_shaped 52 = .ok (.if_icmp .ge 57, 3) := by decide +kernel
theorem dX7_shaped_55 : decode cX7_shaped 55 = .ok (.aload 6, 2) := by decide +kernel
theorem dX7_shaped_57 : decode cX7_shaped 57 = .ok (.iload_n 2, 1) := by decide +kernel
theorem dX7_shaped_58 : decode cX7_shaped 58 = .ok (.iload_n 3, 1) := by decide +kernel
theorem dX7_shaped_59 : decode cX7_shaped 59 = .ok (.iload 9, 2) := by decide +kernel
theorem dX7_shaped_61 : decode cX7_shaped 61 = .ok (.invokestatic 142, 3) := by decide +kernel
theorem dX7_shaped_64 : decode cX7_shaped 64 = .ok (.istore 10, 2) := by decide +kernel
theorem dX7_shaped_66 : decode cX7_shaped 66 = .ok (.iload 8, 2) := by decide +kernel
theorem dX7_shaped_68 : decode cX7_shaped 68 = .ok (.aload 6, 2) := by decide +kernel
theorem dX7_shaped_70 : decode cX7_shaped 70 = .ok (.getfield 113, 3) := by decide +kernel
theorem dX7_shaped_73 : decode cX7_shaped 73 = .ok (.iload 10, 2) := by decide +kernel
theorem dX7_shaped_75 : decode cX7_shaped 75 = .ok (.isub, 1) := by decide +kernel
theorem dX7_shaped_76 : decode cX7_shaped 76 = .ok (.if_icmp .ge 14, 3) := by decide +kernel
theorem dX7_shaped_79 : decode cX7_shaped 79 = .ok (.aload 6, 2) := by decide +kernel
theorem dX7_shaped_81 : decode cX7_shaped 81 = .ok (.iload 10, 2) := by decide +kernel
theorem dX7_shaped_83 : decode cX7_shaped 83 = .ok (.iload 8, 2) := by decide +kernel
theorem dX7_shaped_85 : decode cX7_shaped 85 = .ok (.iadd, 1) := by decide +kernel
theorem dX7_shaped_86 : decode cX7_shaped 86 = .ok (.invokevirtual 107, 3) := by decide +kernel
theorem dX7_shaped_89 : decode cX7_shaped 89 = .ok (.ireturn, 1) := by decide +kernel
theorem dX7_shaped_90 : decode cX7_shaped 90 = .ok (.iload 8, 2) := by decide +kernel
theorem dX7_shaped_92 : decode cX7_shaped 92 = .ok (.aload 6, 2) := by decide +kernel
theorem dX7_shaped_94 : decode cX7_shaped 94 = .ok (.getfield 113, 3) := by decide +kernel
theorem dX7_shaped_97 : decode cX7_shaped 97 = .ok (.iload 10, 2) := by decide +kernel
theorem dX7_shaped_99 : decode cX7_shaped 99 = .ok (.isub, 1) := by decide +kernel
theorem dX7_shaped_100 : decode cX7_shaped 100 = .ok (.isub, 1) := by decide +kernel
theorem dX7_shaped_101 : decode cX7_shaped 101 = .ok (.istore 8, 2) := by decide +kernel
theorem dX7_shaped_103 : decode cX7_shaped 103 = .ok (.iinc 9 1, 3) := by decide +kernel
theorem dX7_shaped_106 : decode cX7_shaped 106 = .ok (.goto (-58), 3) := by decide +kernel
theorem dX7_shaped_109 : decode cX7_shaped 109 = .ok (.ldc 134, 2) := by decide +kernel
theorem dX7_shaped_111 : decode cX7_shaped 111 = .ok (.ireturn, 1) := by decide +kernel
theorem dX7_ways_0 : decode cX7_ways 0 = .ok (.aload_n 0, 1) := by decide +kernel
theorem dX7_ways_1 : decode cX7_ways 1 = .ok (.iload_n 1, 1) := by decide +kernel
theorem dX7_ways_2 : decode cX7_ways 2 = .ok (.iload_n 2, 1) := by decide +kernel
theorem dX7_ways_3 : decode cX7_ways 3 = .ok (.invokevirtual 146, 3) := by decide +kernel
theorem dX7_ways_6 : decode cX7_ways 6 = .ok (.istore_n 3, 1) := by decide +kernel
theorem dX7_ways_7 : decode cX7_ways 7 = .ok (.iload_n 3, 1) := by decide +kernel
theorem dX7_ways_8 : decode cX7_ways 8 = .ok (.ifCond .eq 7, 3) := by decide +kernel
theorem dX7_ways_11 : decode cX7_ways 11 = .ok (.iload_n 3, 1) := by decide +kernel
theorem dX7_ways_12 : decode cX7_ways 12 = .ok (.goto 20, 3) := by decide +kernel
theorem dX7_ways_15 : decode cX7_ways 15 = .ok (.aload_n 0, 1) := by decide +kernel
theorem dX7_ways_16 : decode cX7_ways 16 = .ok (.getfield 37, 3) := by decide +kernel
theorem dX7_ways_19 : decode cX7_ways 19 = .ok (.aload_n 0, 1) := by decide +kernel
theorem dX7_ways_20 : decode cX7_ways 20 = .ok (.iload_n 1, 1) := by decide +kernel
theorem dX7_ways_21 : decode cX7_ways 21 = .ok (.invokevirtual 99, 3) := by decide +kernel
theorem dX7_ways_24 : decode cX7_ways 24 = .ok (.aload_n 0, 1) := by decide +kernel
theorem dX7_ways_25 : decode cX7_ways 25 = .ok (.iload_n 2, 1) := by decide +kernel
theorem dX7_ways_26 : decode cX7_ways 26 = .ok (.invokevirtual 149, 3) := by decide +kernel
theorem dX7_ways_29 : decode cX7_ways 29 = .ok (.invokevirtual 153, 3) := by decide +kernel
theorem dX7_ways_32 : decode cX7_ways 32 = .ok (.ireturn, 1) := by decide +kernel
theorem dX7_cuts_0 : decode cX7_cuts 0 = .ok (.aload_n 0, 1) := by decide +kernel
theorem dX7_cuts_1 : decode cX7_cuts 1 = .ok (.iload_n 1, 1) := by decide +kernel
theorem dX7_cuts_2 : decode cX7_cuts 2 = .ok (.iload_n 2, 1) := by decide +kernel
theorem dX7_cuts_3 : decode cX7_cuts 3 = .ok (.invokevirtual 146, 3) := by decide +kernel
theorem dX7_cuts_6 : decode cX7_cuts 6 = .ok (.istore_n 3, 1) := by decide +kernel
theorem dX7_cuts_7 : decode cX7_cuts 7 = .ok (.iload_n 3, 1) := by decide +kernel
theorem dX7_cuts_8 : decode cX7_cuts 8 = .ok (.ifCond .eq 7, 3) := by decide +kernel
theorem dX7_cuts_11 : decode cX7_cuts 11 = .ok (.iload_n 3, 1) := by decide +kernel
theorem dX7_cuts_12 : decode cX7_cuts 12 = .ok (.goto 20, 3) := by decide +kernel
theorem dX7_cuts_15 : decode cX7_cuts 15 = .ok (.aload_n 0, 1) := by decide +kernel
theorem dX7_cuts_16 : decode cX7_cuts 16 = .ok (.getfield 37, 3) := by decide +kernel
theorem dX7_cuts_19 : decode cX7_cuts 19 = .ok (.aload_n 0, 1) := by decide +kernel
theorem dX7_cuts_20 : decode cX7_cuts 20 = .ok (.iload_n 1, 1) := by decide +kernel
theorem dX7_cuts_21 : decode cX7_cuts 21 = .ok (.invokevirtual 99, 3) := by decide +kernel
theorem dX7_cuts_24 : decode cX7_cuts 24 = .ok (.aload_n 0, 1) := by decide +kernel
theorem dX7_cuts_25 : decode cX7_cuts 25 = .ok (.iload_n 2, 1) := by decide +kernel
theorem dX7_cuts_26 : decode cX7_cuts 26 = .ok (.invokevirtual 149, 3) := by decide +kernel
theorem dX7_cuts_29 : decode cX7_cuts 29 = .ok (.invokevirtual 157, 3) := by decide +kernel
theorem dX7_cuts_32 : decode cX7_cuts 32 = .ok (.ireturn, 1) := by decide +kernel
theorem dX7_hand_0 : decode cX7_hand 0 = .ok (.aload_n 0, 1) := by decide +kernel
theorem dX7_hand_1 : decode cX7_hand 1 = .ok (.getfield 44, 3) := by decide +kernel
theorem dX7_hand_4 : decode cX7_hand 4 = .ok (.iload_n 1, 1) := by decide +kernel
theorem dX7_hand_5 : decode cX7_hand 5 = .ok (.iload_n 2, 1) := by decide +kernel
theorem dX7_hand_6 : decode cX7_hand 6 = .ok (.invokevirtual 160, 3) := by decide +kernel
theorem dX7_hand_9 : decode cX7_hand 9 = .ok (.ireturn, 1) := by decide +kernel
theorem dX7_strains_0 : decode cX7_strains 0 = .ok (.aload_n 0, 1) := by decide +kernel
theorem dX7_strains_1 : decode cX7_strains 1 = .ok (.iload_n 1, 1) := by decide +kernel
theorem dX7_strains_2 : decode cX7_strains 2 = .ok (.invokevirtual 99, 3) := by decide +kernel
theorem dX7_strains_5 : decode cX7_strains 5 = .ok (.astore_n 2, 1) := by decide +kernel
theorem dX7_strains_6 : decode cX7_strains 6 = .ok (.aload_n 2, 1) := by decide +kernel
theorem dX7_strains_7 : decode cX7_strains 7 = .ok (.ifnonnull 6, 3) := by decide +kernel
theorem dX7_strains_10 : decode cX7_strains 10 = .ok (.ldc 70, 2) := by decide +kernel
theorem dX7_strains_12 : decode cX7_strains 12 = .ok (.ireturn, 1) := by decide +kernel
theorem dX7_strains_13 : decode cX7_strains 13 = .ok (.aload_n 2, 1) := by decide +kernel
theorem dX7_strains_14 : decode cX7_strains 14 = .ok (.getfield 113, 3) := by decide +kernel
theorem dX7_strains_17 : decode cX7_strains 17 = .ok (.ifCond .ne 8, 3) := by decide +kernel
theorem dX7_strains_20 : decode cX7_strains 20 = .ok (.ldc 163, 2) := by decide +kernel
theorem dX7_strains_22 : decode cX7_strains 22 = .ok (.goto 11, 3) := by decide +kernel
theorem dX7_strains_25 : decode cX7_strains 25 = .ok (.aload_n 0, 1) := by decide +kernel
theorem dX7_strains_26 : decode cX7_strains 26 = .ok (.getfield 44, 3) := by decide +kernel
theorem dX7_strains_29 : decode cX7_strains 29 = .ok (.aload_n 2, 1) := by decide +kernel
theorem dX7_strains_30 : decode cX7_strains 30 = .ok (.invokevirtual 164, 3) := by decide +kernel
theorem dX7_strains_33 : decode cX7_strains 33 = .ok (.ireturn, 1) := by decide +kernel
theorem dX7_plays_0 : decode cX7_plays 0 = .ok (.aload_n 0, 1) := by decide +kernel
theorem dX7_plays_1 : decode cX7_plays 1 = .ok (.iload_n 1, 1) := by decide +kernel
theorem dX7_plays_2 : decode cX7_plays 2 = .ok (.invokevirtual 99, 3) := by decide +kernel
theorem dX7_plays_5 : decode cX7_plays 5 = .ok (.astore_n 3, 1) := by decide +kernel
theorem dX7_plays_6 : decode cX7_plays 6 = .ok (.aload_n 3, 1) := by decide +kernel
theorem dX7_plays_7 : decode cX7_plays 7 = .ok (.ifnull 7, 3) := by decide +kernel
theorem dX7_plays_10 : decode cX7_plays 10 = .ok (.iload_n 2, 1) := by decide +kernel
theorem dX7_plays_11 : decode cX7_plays 11 = .ok (.ifCond .ge 6, 3) := by decide +kernel
theorem dX7_plays_14 : decode cX7_plays 14 = .ok (.ldc 70, 2) := by decide +kernel
theorem dX7_plays_16 : decode cX7_plays 16 = .ok (.ireturn, 1) := by decide +kernel
theorem dX7_plays_17 : decode cX7_plays 17 = .ok (.aload_n 3, 1) := by decide +kernel
theorem dX7_plays_18 : decode cX7_plays 18 = .ok (.getfield 113, 3) := by decide +kernel
theorem dX7_plays_21 : decode cX7_plays 21 = .ok (.ifCond .ne 6, 3) := by decide +kernel
theorem dX7_plays_24 : decode cX7_plays 24 = .ok (.ldc 163, 2) := by decide +kernel
theorem dX7_plays_26 : decode cX7_plays 26 = .ok (.ireturn, 1) := by decide +kernel
theorem dX7_plays_27 : decode cX7_plays 27 = .ok (.iload_n 2, 1) := by decide +kernel
theorem dX7_plays_28 : decode cX7_plays 28 = .ok (.aload_n 3, 1) := by decide +kernel
theorem dX7_plays_29 : decode cX7_plays 29 = .ok (.getfield 113, 3) := by decide +kernel
theorem dX7_plays_32 : decode cX7_plays 32 = .ok (.if_icmp .lt 8, 3) := by decide +kernel
theorem dX7_plays_35 : decode cX7_plays 35 = .ok (.ldc 70, 2) := by decide +kernel
theorem dX7_plays_37 : decode cX7_plays 37 = .ok (.goto 12, 3) := by decide +kernel
theorem dX7_plays_40 : decode cX7_plays 40 = .ok (.aload_n 0, 1) := by decide +kernel
theorem dX7_plays_41 : decode cX7_plays 41 = .ok (.getfield 44, 3) := by decide +kernel
theorem dX7_plays_44 : decode cX7_plays 44 = .ok (.aload_n 3, 1) := by decide +kernel
theorem dX7_plays_45 : decode cX7_plays 45 = .ok (.iload_n 2, 1) := by decide +kernel
theorem dX7_plays_46 : decode cX7_plays 46 = .ok (.invokevirtual 167, 3) := by decide +kernel
theorem dX7_plays_49 : decode cX7_plays 49 = .ok (.ireturn, 1) := by decide +kernel
theorem dX7_join_0 : decode cX7_join 0 = .ok (.aload_n 0, 1) := by decide +kernel
theorem dX7_join_1 : decode cX7_join 1 = .ok (.iload_n 1, 1) := by decide +kernel
theorem dX7_join_2 : decode cX7_join 2 = .ok (.invokevirtual 99, 3) := by decide +kernel
theorem dX7_join_5 : decode cX7_join 5 = .ok (.astore 5, 2) := by decide +kernel
theorem dX7_join_7 : decode cX7_join 7 = .ok (.iload_n 2, 1) := by decide +kernel
theorem dX7_join_8 : decode cX7_join 8 = .ok (.invokestatic 110, 3) := by decide +kernel
theorem dX7_join_11 : decode cX7_join 11 = .ok (.istore 6, 2) := by decide +kernel
theorem dX7_join_13 : decode cX7_join 13 = .ok (.aload 5, 2) := by decide +kernel
theorem dX7_join_15 : decode cX7_join 15 = .ok (.ifnull 27, 3) := by decide +kernel
theorem dX7_join_18 : decode cX7_join 18 = .ok (.iload 6, 2) := by decide +kernel
theorem dX7_join_20 : decode cX7_join 20 = .ok (.ifCond .eq 22, 3) := by decide +kernel
theorem dX7_join_23 : decode cX7_join 23 = .ok (.iload_n 3, 1) := by decide +kernel
theorem dX7_join_24 : decode cX7_join 24 = .ok (.iconst 1, 1) := by decide +kernel
theorem dX7_join_25 : decode cX7_join 25 = .ok (.if_icmp .lt 17, 3) := by decide +kernel
theorem dX7_join_28 : decode cX7_join 28 = .ok (.iload_n 3, 1) := by decide +kernel
theorem dX7_join_29 : decode cX7_join 29 = .ok (.bipush 9, 2) := by decide +kernel
theorem dX7_join_31 : decode cX7_join 31 = .ok (.if_icmp .gt 11, 3) := by decide +kernel
theorem dX7_join_34 : decode cX7_join 34 = .ok (.iload 4, 2) := by decide +kernel
theorem dX7_join_36 : decode cX7_join 36 = .ok (.invokestatic 171, 3) := by decide +kernel
theorem dX7_join_39 : decode cX7_join 39 = .ok (.ifCond .ne 6, 3) := by decide +kernel
theorem dX7_join_42 : decode cX7_join 42 = .ok (.ldc 70, 2) := by decide +kernel
theorem dX7_join_44 : decode cX7_join 44 = .ok (.ireturn, 1) := by decide +kernel
theorem dX7_join_45 : decode cX7_join 45 = .ok (.aload 5, 2) := by decide +kernel
theorem dX7_join_47 : decode cX7_join 47 = .ok (.getfield 113, 3) := by decide +kernel
theorem dX7_join_50 : decode cX7_join 50 = .ok (.ifCond .ne 8, 3) := by decide +kernel
theorem dX7_join_53 : decode cX7_join 53 = .ok (.ldc 163, 2) := by decide +kernel
theorem dX7_join_55 : decode cX7_join 55 = .ok (.goto 22, 3) := by decide +kernel
theorem dX7_join_58 : decode cX7_join 58 = .ok (.aload_n 0, 1) := by decide +kernel
theorem dX7_join_59 : decode cX7_join 59 = .ok (.getfield 51, 3) := by decide +kernel
theorem dX7_join_62 : decode cX7_join 62 = .ok (.aload 5, 2) := by decide +kernel
theorem dX7_join_64 : decode cX7_join 64 = .ok (.getfield 113, 3) := by decide +kernel
theorem dX7_join_67 : decode cX7_join 67 = .ok (.iload 6, 2) := by decide +kernel
theorem dX7_join_69 : decode cX7_join 69 = .ok (.imul, 1) := by decide +kernel
theorem dX7_join_70 : decode cX7_join 70 = .ok (.iload_n 3, 1) := by decide +kernel
theorem dX7_join_71 : decode cX7_join 71 = .ok (.imul, 1) := by decide +kernel
theorem dX7_join_72 : decode cX7_join 72 = .ok (.iload 4, 2) := by decide +kernel
theorem dX7_join_74 : decode cX7_join 74 = .ok (.invokevirtual 174, 3) := by decide +kernel
theorem dX7_join_77 : decode cX7_join 77 = .ok (.ireturn, 1) := by decide +kernel
theorem dX7_drop_0 : decode cX7_drop 0 = .ok (.aload_n 0, 1) := by decide +kernel
theorem dX7_drop_1 : decode cX7_drop 1 = .ok (.getfield 51, 3) := by decide +kernel
theorem dX7_drop_4 : decode cX7_drop 4 = .ok (.getfield 175, 3) := by decide +kernel
theorem dX7_drop_7 : decode cX7_drop 7 = .ok (.istore_n 1, 1) := by decide +kernel
theorem dX7_drop_8 : decode cX7_drop 8 = .ok (.aload_n 0, 1) := by decide +kernel
theorem dX7_drop_9 : decode cX7_drop 9 = .ok (.getfield 51, 3) := by decide +kernel
theorem dX7_drop_12 : decode cX7_drop 12 = .ok (.iconst 0, 1) := by decide +kernel
theorem dX7_drop_13 : decode cX7_drop 13 = .ok (.putfield 175, 3) := by decide +kernel
theorem dX7_drop_16 : decode cX7_drop 16 = .ok (.iload_n 1, 1) := by decide +kernel
theorem dX7_drop_17 : decode cX7_drop 17 = .ok (.ireturn, 1) := by decide +kernel
theorem dX7_account_0 : decode cX7_account 0 = .ok (.aload_n 0, 1) := by decide +kernel
theorem dX7_account_1 : decode cX7_account 1 = .ok (.iload_n 1, 1) := by decide +kernel
theorem dX7_account_2 : decode cX7_account 2 = .ok (.invokevirtual 62, 3) := by decide +kernel
theorem dX7_account_5 : decode cX7_account 5 = .ok (.astore_n 3, 1) := by decide +kernel
theorem dX7_account_6 : decode cX7_account 6 = .ok (.aload_n 3, 1) := by decide +kernel
theorem dX7_account_7 : decode cX7_account 7 = .ok (.ifnull 18, 3) := by decide +kernel
theorem dX7_account_10 : decode cX7_account 10 = .ok (.iload_n 2, 1) := by decide +kernel
theorem dX7_account_11 : decode cX7_account 11 = .ok (.ifCond .lt 14, 3) := by decide +kernel
theorem dX7_account_14 : decode cX7_account 14 = .ok (.iload_n 2, 1) := by decide +kernel
theorem dX7_account_15 : decode cX7_account 15 = .ok (.aload_n 0, 1) := by decide +kernel
theorem dX7_account_16 : decode cX7_account 16 = .ok (.getfield 51, 3) := by decide +kernel
theorem dX7_account_19 : decode cX7_account 19 = .ok (.getfield 175, 3) := by decide +kernel
theorem dX7_account_22 : decode cX7_account 22 = .ok (.if_icmp .lt 6, 3) := by decide +kernel
theorem dX7_account_25 : decode cX7_account 25 = .ok (.ldc 70, 2) := by decide +kernel
theorem dX7_account_27 : decode cX7_account 27 = .ok (.ireturn, 1) := by decide +kernel
theorem dX7_account_28 : decode cX7_account 28 = .ok (.aload_n 3, 1) := by decide +kernel
theorem dX7_account_29 : decode cX7_account 29 = .ok (.invokevirtual 82, 3) := by decide +kernel
theorem dX7_account_32 : decode cX7_account 32 = .ok (.istore 4, 2) := by decide +kernel
theorem dX7_account_34 : decode cX7_account 34 = .ok (.iload 4, 2) := by decide +kernel
theorem dX7_account_36 : decode cX7_account 36 = .ok (.ifCond .gt 8, 3) := by decide +kernel
theorem dX7_account_39 : decode cX7_account 39 = .ok (.ldc 163, 2) := by decide +kernel
theorem dX7_account_41 : decode cX7_account 41 = .ok (.goto 14, 3) := by decide +kernel
theorem dX7_account_44 : decode cX7_account 44 = .ok (.aload_n 0, 1) := by decide +kernel
theorem dX7_account_45 : decode cX7_account 45 = .ok (.getfield 51, 3) := by decide +kernel
theorem dX7_account_48 : decode cX7_account 48 = .ok (.iload_n 2, 1) := by decide +kernel
theorem dX7_account_49 : decode cX7_account 49 = .ok (.invokevirtual 176, 3) := by decide +kernel
theorem dX7_account_52 : decode cX7_account 52 = .ok (.iload 4, 2) := by decide +kernel
theorem dX7_account_54 : decode cX7_account 54 = .ok (.irem, 1) := by decide +kernel
theorem dX7_account_55 : decode cX7_account 55 = .ok (.ireturn, 1) := by decide +kernel
theorem dX7_landings_0 : decode cX7_landings 0 = .ok (.aload_n 0, 1) := by decide +kernel
theorem dX7_landings_1 : decode cX7_landings 1 = .ok (.iload_n 1, 1) := by decide +kernel
theorem dX7_landings_2 : decode cX7_landings 2 = .ok (.invokevirtual 62, 3) := by decide +kernel
theorem dX7_landings_5 : decode cX7_landings 5 = .ok (.astore_n 2, 1) := by decide +kernel
theorem dX7_landings_6 : decode cX7_landings 6 = .ok (.aload_n 2, 1) := by decide +kernel
theorem dX7_landings_7 : decode cX7_landings 7 = .ok (.ifnonnull 6, 3) := by decide +kernel
theorem dX7_landings_10 : decode cX7_landings 10 = .ok (.ldc 70, 2) := by decide +kernel
theorem dX7_landings_12 : decode cX7_landings 12 = .ok (.ireturn, 1) := by decide +kernel
theorem dX7_landings_13 : decode cX7_landings 13 = .ok (.aload_n 2, 1) := by decide +kernel
theorem dX7_landings_14 : decode cX7_landings 14 = .ok (.invokevirtual 82, 3) := by decide +kernel
theorem dX7_landings_17 : decode cX7_landings 17 = .ok (.istore_n 3, 1) := by decide +kernel
theorem dX7_landings_18 : decode cX7_landings 18 = .ok (.iload_n 3, 1) := by decide +kernel
theorem dX7_landings_19 : decode cX7_landings 19 = .ok (.ifCond .gt 8, 3) := by decide +kernel
theorem dX7_landings_22 : decode cX7_landings 22 = .ok (.ldc 163, 2) := by decide +kernel
theorem dX7_landings_24 : decode cX7_landings 24 = .ok (.goto 11, 3) := by decide +kernel
theorem dX7_landings_27 : decode cX7_landings 27 = .ok (.aload_n 0, 1) := by decide +kernel
theorem dX7_landings_28 : decode cX7_landings 28 = .ok (.getfield 51, 3) := by decide +kernel
theorem dX7_landings_31 : decode cX7_landings 31 = .ok (.iload_n 3, 1) := by decide +kernel
theorem dX7_landings_32 : decode cX7_landings 32 = .ok (.invokevirtual 179, 3) := by decide +kernel
theorem dX7_landings_35 : decode cX7_landings 35 = .ok (.ireturn, 1) := by decide +kernel
theorem dX7_home_0 : decode cX7_home 0 = .ok (.aload_n 0, 1) := by decide +kernel
theorem dX7_home_1 : decode cX7_home 1 = .ok (.iload_n 1, 1) := by decide +kernel
theorem dX7_home_2 : decode cX7_home 2 = .ok (.invokevirtual 62, 3) := by decide +kernel
theorem dX7_home_5 : decode cX7_home 5 = .ok (.astore_n 2, 1) := by decide +kernel
theorem dX7_home_6 : decode cX7_home 6 = .ok (.aload_n 2, 1) := by decide +kernel
theorem dX7_home_7 : decode cX7_home 7 = .ok (.ifnonnull 6, 3) := by decide +kernel
theorem dX7_home_10 : decode cX7_home 10 = .ok (.ldc 70, 2) := by decide +kernel
theorem dX7_home_12 : decode cX7_home 12 = .ok (.ireturn, 1) := by decide +kernel
theorem dX7_home_13 : decode cX7_home 13 = .ok (.aload_n 2, 1) := by decide +kernel
theorem dX7_home_14 : decode cX7_home 14 = .ok (.invokevirtual 82, 3) := by decide +kernel
theorem dX7_home_17 : decode cX7_home 17 = .ok (.istore_n 3, 1) := by decide +kernel
theorem dX7_home_18 : decode cX7_home 18 = .ok (.iload_n 3, 1) := by decide +kernel
theorem dX7_home_19 : decode cX7_home 19 = .ok (.ifCond .le 13, 3) := by decide +kernel
theorem dX7_home_22 : decode cX7_home 22 = .ok (.aload_n 0, 1) := by decide +kernel
theorem dX7_home_23 : decode cX7_home 23 = .ok (.getfield 51, 3) := by decide +kernel
theorem dX7_home_26 : decode cX7_home 26 = .ok (.getfield 175, 3) := by decide +kernel
theorem dX7_home_29 : decode cX7_home 29 = .ok (.ifCond .ne 6, 3) := by decide +kernel
theorem dX7_home_32 : decode cX7_home 32 = .ok (.ldc 163, 2) := by decide +kernel
theorem dX7_home_34 : decode cX7_home 34 = .ok (.ireturn, 1) := by decide +kernel
theorem dX7_home_35 : decode cX7_home 35 = .ok (.aload_n 0, 1) := by decide +kernel
theorem dX7_home_36 : decode cX7_home 36 = .ok (.getfield 51, 3) := by decide +kernel
theorem dX7_home_39 : decode cX7_home 39 = .ok (.invokevirtual 182, 3) := by decide +kernel
theorem dX7_home_42 : decode cX7_home 42 = .ok (.ineg, 1) := by decide +kernel
theorem dX7_home_43 : decode cX7_home 43 = .ok (.iload_n 3, 1) := by decide +kernel
theorem dX7_home_44 : decode cX7_home 44 = .ok (.invokestatic 185, 3) := by decide +kernel
theorem dX7_home_47 : decode cX7_home 47 = .ok (.ireturn, 1) := by decide +kernel
theorem dX7_sheet_0 : decode cX7_sheet 0 = .ok (.aload_n 0, 1) := by decide +kernel
theorem dX7_sheet_1 : decode cX7_sheet 1 = .ok (.iload_n 1, 1) := by decide +kernel
theorem dX7_sheet_2 : decode cX7_sheet 2 = .ok (.invokevirtual 149, 3) := by decide +kernel
theorem dX7_sheet_5 : decode cX7_sheet 5 = .ok (.astore_n 3, 1) := by decide +kernel
theorem dX7_sheet_6 : decode cX7_sheet 6 = .ok (.aload_n 3, 1) := by decide +kernel
theorem dX7_sheet_7 : decode cX7_sheet 7 = .ok (.ifnull 9, 3) := by decide +kernel
theorem dX7_sheet_10 : decode cX7_sheet 10 = .ok (.iload_n 2, 1) := by decide +kernel
theorem dX7_sheet_11 : decode cX7_sheet 11 = .ok (.bipush 60, 2) := by decide +kernel
theorem dX7_sheet_13 : decode cX7_sheet 13 = .ok (.if_icmp .le 6, 3) := by decide +kernel
theorem dX7_sheet_16 : decode cX7_sheet 16 = .ok (.ldc 70, 2) := by decide +kernel
theorem dX7_sheet_18 : decode cX7_sheet 18 = .ok (.ireturn, 1) := by decide +kernel
theorem dX7_sheet_19 : decode cX7_sheet 19 = .ok (.iload_n 2, 1) := by decide +kernel
theorem dX7_sheet_20 : decode cX7_sheet 20 = .ok (.ifCond .ge 6, 3) := by decide +kernel
theorem dX7_sheet_23 : decode cX7_sheet 23 = .ok (.ldc 190, 2) := by decide +kernel
theorem dX7_sheet_25 : decode cX7_sheet 25 = .ok (.ireturn, 1) := by decide +kernel
theorem dX7_sheet_26 : decode cX7_sheet 26 = .ok (.aload_n 3, 1) := by decide +kernel
theorem dX7_sheet_27 : decode cX7_sheet 27 = .ok (.iload_n 2, 1) := by decide +kernel
theorem dX7_sheet_28 : decode cX7_sheet 28 = .ok (.invokevirtual 191, 3) := by decide +kernel
theorem dX7_sheet_31 : decode cX7_sheet 31 = .ok (.iload_n 2, 1) := by decide +kernel
theorem dX7_sheet_32 : decode cX7_sheet 32 = .ok (.ireturn, 1) := by decide +kernel
theorem dX7_mark_0 : decode cX7_mark 0 = .ok (.aload_n 0, 1) := by decide +kernel
theorem dX7_mark_1 : decode cX7_mark 1 = .ok (.iload_n 1, 1) := by decide +kernel
theorem dX7_mark_2 : decode cX7_mark 2 = .ok (.invokevirtual 149, 3) := by decide +kernel
theorem dX7_mark_5 : decode cX7_mark 5 = .ok (.astore 4, 2) := by decide +kernel
theorem dX7_mark_7 : decode cX7_mark 7 = .ok (.aload 4, 2) := by decide +kernel
theorem dX7_mark_9 : decode cX7_mark 9 = .ok (.ifnonnull 6, 3) := by decide +kernel
theorem dX7_mark_12 : decode cX7_mark 12 = .ok (.ldc 70, 2) := by decide +kernel
theorem dX7_mark_14 : decode cX7_mark 14 = .ok (.ireturn, 1) := by decide +kernel
theorem dX7_mark_15 : decode cX7_mark 15 = .ok (.aload 4, 2) := by decide +kernel
theorem dX7_mark_17 : decode cX7_mark 17 = .ok (.invokevirtual 194, 3) := by decide +kernel
theorem dX7_mark_20 : decode cX7_mark 20 = .ok (.ifCond .eq 6, 3) := by decide +kernel
theorem dX7_mark_23 : decode cX7_mark 23 = .ok (.ldc 198, 2) := by decide +kernel
theorem dX7_mark_25 : decode cX7_mark 25 = .ok (.ireturn, 1) := by decide +kernel
theorem dX7_mark_26 : decode cX7_mark 26 = .ok (.aload 4, 2) := by decide +kernel
theorem dX7_mark_28 : decode cX7_mark 28 = .ok (.iload_n 2, 1) := by decide +kernel
theorem dX7_mark_29 : decode cX7_mark 29 = .ok (.iload_n 3, 1) := by decide +kernel
theorem dX7_mark_30 : decode cX7_mark 30 = .ok (.i2b, 1) := by decide +kernel
theorem dX7_mark_31 : decode cX7_mark 31 = .ok (.invokevirtual 199, 3) := by decide +kernel
theorem dX7_mark_34 : decode cX7_mark 34 = .ok (.ireturn, 1) := by decide +kernel
end
section
theorem dX7_copy_0 : decode cX7_copy 0 = .ok (.aload_n 0, 1) := by decide +kernel
theorem dX7_copy_1 : decode cX7_copy 1 = .ok (.iload_n 1, 1) := by decide +kernel
theorem dX7_copy_2 : decode cX7_copy 2 = .ok (.iload_n 3, 1) := by decide +kernel
theorem dX7_copy_3 : decode cX7_copy 3 = .ok (.invokevirtual 146, 3) := by decide +kernel
theorem dX7_copy_6 : decode cX7_copy 6 = .ok (.istore 6, 2) := by decide +kernel
theorem dX7_copy_8 : decode cX7_copy 8 = .ok (.iload 6, 2) := by decide +kernel
theorem dX7_copy_10 : decode cX7_copy 10 = .ok (.ifCond .eq 6, 3) := by decide +kernel
theorem dX7_copy_13 : decode cX7_copy 13 = .ok (.iload 6, 2) := by decide +kernel
theorem dX7_copy_15 : decode cX7_copy 15 = .ok (.ireturn, 1) := by decide +kernel
theorem dX7_copy_16 : decode cX7_copy 16 = .ok (.aload_n 0, 1) := by decide +kernel
theorem dX7_copy_17 : decode cX7_copy 17 = .ok (.iload_n 1, 1) := by decide +kernel
theorem dX7_copy_18 : decode cX7_copy 18 = .ok (.invokevirtual 99, 3) := by decide +kernel
theorem dX7_copy_21 : decode cX7_copy 21 = .ok (.astore 7, 2) := by decide +kernel
theorem dX7_copy_23 : decode cX7_copy 23 = .ok (.aload_n 0, 1) := by decide +kernel
theorem dX7_copy_24 : decode cX7_copy 24 = .ok (.iload_n 3, 1) := by decide +kernel
theorem dX7_copy_25 : decode cX7_copy 25 = .ok (.invokevirtual 149, 3) := by decide +kernel
theorem dX7_copy_28 : decode cX7_copy 28 = .ok (.astore 8, 2) := by decide +kernel
theorem dX7_copy_30 : decode cX7_copy 30 = .ok (.iload_n 2, 1) := by decide +kernel
theorem dX7_copy_31 : decode cX7_copy 31 = .ok (.iload 5, 2) := by decide +kernel
theorem dX7_copy_33 : decode cX7_copy 33 = .ok (.aload 7, 2) := by decide +kernel
theorem dX7_copy_35 : decode cX7_copy 35 = .ok (.getfield 113, 3) := by decide +kernel
theorem dX7_copy_38 : decode cX7_copy 38 = .ok (.invokestatic 202, 3) := by decide +kernel
theorem dX7_copy_41 : decode cX7_copy 41 = .ok (.ifCond .eq 18, 3) := by decide +kernel
theorem dX7_copy_44 : decode cX7_copy 44 = .ok (.iload 4, 2) := by decide +kernel
theorem dX7_copy_46 : decode cX7_copy 46 = .ok (.iload 5, 2) := by decide +kernel
theorem dX7_copy_48 : decode cX7_copy 48 = .ok (.aload 8, 2) := by decide +kernel
theorem dX7_copy_50 : decode cX7_copy 50 = .ok (.getfield 206, 3) := by decide +kernel
theorem dX7_copy_53 : decode cX7_copy 53 = .ok (.invokestatic 202, 3) := by decide +kernel
theorem dX7_copy_56 : decode cX7_copy 56 = .ok (.ifCond .ne 6, 3) := by decide +kernel
theorem dX7_copy_59 : decode cX7_copy 59 = .ok (.ldc 209, 2) := by decide +kernel
theorem dX7_copy_61 : decode cX7_copy 61 = .ok (.ireturn, 1) := by decide +kernel
theorem dX7_copy_62 : decode cX7_copy 62 = .ok (.aload 7, 2) := by decide +kernel
theorem dX7_copy_64 : decode cX7_copy 64 = .ok (.getfield 210, 3) := by decide +kernel
theorem dX7_copy_67 : decode cX7_copy 67 = .ok (.iload_n 2, 1) := by decide +kernel
theorem dX7_copy_68 : decode cX7_copy 68 = .ok (.aload 8, 2) := by decide +kernel
theorem dX7_copy_70 : decode cX7_copy 70 = .ok (.getfield 214, 3) := by decide +kernel
theorem dX7_copy_73 : decode cX7_copy 73 = .ok (.iload 4, 2) := by decide +kernel
theorem dX7_copy_75 : decode cX7_copy 75 = .ok (.iload 5, 2) := by decide +kernel
theorem dX7_copy_77 : decode cX7_copy 77 = .ok (.invokestatic 215, 3) := by decide +kernel
theorem dX7_copy_80 : decode cX7_copy 80 = .ok (.iload 5, 2) := by decide +kernel
theorem dX7_copy_82 : decode cX7_copy 82 = .ok (.ireturn, 1) := by decide +kernel
theorem dX7_count_0 : decode cX7_count 0 = .ok (.iload_n 1, 1) := by decide +kernel
theorem dX7_count_1 : decode cX7_count 1 = .ok (.tableswitch 75 0 5 #[39, 44, 49, 54, 62, 70], 39) := by decide +kernel
theorem dX7_count_40 : decode cX7_count 40 = .ok (.aload_n 0, 1) := by decide +kernel
theorem dX7_count_41 : decode cX7_count 41 = .ok (.invokevirtual 221, 3) := by decide +kernel
theorem dX7_count_44 : decode cX7_count 44 = .ok (.ireturn, 1) := by decide +kernel
theorem dX7_count_45 : decode cX7_count 45 = .ok (.aload_n 0, 1) := by decide +kernel
theorem dX7_count_46 : decode cX7_count 46 = .ok (.invokevirtual 224, 3) := by decide +kernel
theorem dX7_count_49 : decode cX7_count 49 = .ok (.ireturn, 1) := by decide +kernel
theorem dX7_count_50 : decode cX7_count 50 = .ok (.aload_n 0, 1) := by decide +kernel
theorem dX7_count_51 : decode cX7_count 51 = .ok (.invokevirtual 227, 3) := by decide +kernel
theorem dX7_count_54 : decode cX7_count 54 = .ok (.ireturn, 1) := by decide +kernel
theorem dX7_count_55 : decode cX7_count 55 = .ok (.aload_n 0, 1) := by decide +kernel
theorem dX7_count_56 : decode cX7_count 56 = .ok (.getfield 51, 3) := by decide +kernel
theorem dX7_count_59 : decode cX7_count 59 = .ok (.getfield 175, 3) := by decide +kernel
theorem dX7_count_62 : decode cX7_count 62 = .ok (.ireturn, 1) := by decide +kernel
theorem dX7_count_63 : decode cX7_count 63 = .ok (.aload_n 0, 1) := by decide +kernel
theorem dX7_count_64 : decode cX7_count 64 = .ok (.getfield 30, 3) := by decide +kernel
theorem dX7_count_67 : decode cX7_count 67 = .ok (.getfield 98, 3) := by decide +kernel
theorem dX7_count_70 : decode cX7_count 70 = .ok (.ireturn, 1) := by decide +kernel
theorem dX7_count_71 : decode cX7_count 71 = .ok (.aload_n 0, 1) := by decide +kernel
theorem dX7_count_72 : decode cX7_count 72 = .ok (.invokevirtual 230, 3) := by decide +kernel
theorem dX7_count_75 : decode cX7_count 75 = .ok (.ireturn, 1) := by decide +kernel
theorem dX7_count_76 : decode cX7_count 76 = .ok (.ldc 70, 2) := by decide +kernel
theorem dX7_count_78 : decode cX7_count 78 = .ok (.ireturn, 1) := by decide +kernel
theorem dX7_cycleAt_0 : decode cX7_cycleAt 0 = .ok (.iload_n 1, 1) := by decide +kernel
theorem dX7_cycleAt_1 : decode cX7_cycleAt 1 = .ok (.ifCond .lt 21, 3) := by decide +kernel
theorem dX7_cycleAt_4 : decode cX7_cycleAt 4 = .ok (.iload_n 1, 1) := by decide +kernel
theorem dX7_cycleAt_5 : decode cX7_cycleAt 5 = .ok (.aload_n 0, 1) := by decide +kernel
theorem dX7_cycleAt_6 : decode cX7_cycleAt 6 = .ok (.getfield 9, 3) := by decide +kernel
theorem dX7_cycleAt_9 : decode cX7_cycleAt 9 = .ok (.arraylength, 1) := by decide +kernel
theorem dX7_cycleAt_10 : decode cX7_cycleAt 10 = .ok (.if_icmp .ge 12, 3) := by decide +kernel
theorem dX7_cycleAt_13 : decode cX7_cycleAt 13 = .ok (.aload_n 0, 1) := by decide +kernel
theorem dX7_cycleAt_14 : decode cX7_cycleAt 14 = .ok (.getfield 9, 3) := by decide +kernel
theorem dX7_cycleAt_17 : decode cX7_cycleAt 17 = .ok (.iload_n 1, 1) := by decide +kernel
theorem dX7_cycleAt_18 : decode cX7_cycleAt 18 = .ok (.aaload, 1) := by decide +kernel
theorem dX7_cycleAt_19 : decode cX7_cycleAt 19 = .ok (.goto 4, 3) := by decide +kernel
theorem dX7_cycleAt_22 : decode cX7_cycleAt 22 = .ok (.aconst_null, 1) := by decide +kernel
theorem dX7_cycleAt_23 : decode cX7_cycleAt 23 = .ok (.areturn, 1) := by decide +kernel
theorem dX7_phraseAt_0 : decode cX7_phraseAt 0 = .ok (.iload_n 1, 1) := by decide +kernel
theorem dX7_phraseAt_1 : decode cX7_phraseAt 1 = .ok (.ifCond .lt 21, 3) := by decide +kernel
theorem dX7_phraseAt_4 : decode cX7_phraseAt 4 = .ok (.iload_n 1, 1) := by decide +kernel
theorem dX7_phraseAt_5 : decode cX7_phraseAt 5 = .ok (.aload_n 0, 1) := by decide +kernel
theorem dX7_phraseAt_6 : decode cX7_phraseAt 6 = .ok (.getfield 17, 3) := by decide +kernel
theorem dX7_phraseAt_9 : decode cX7_phraseAt 9 = .ok (.arraylength, 1) := by decide +kernel
theorem dX7_phraseAt_10 : decode cX7_phraseAt 10 = .ok (.if_icmp .ge 12, 3) := by decide +kernel
theorem dX7_phraseAt_13 : decode cX7_phraseAt 13 = .ok (.aload_n 0, 1) := by decide +kernel
theorem dX7_phraseAt_14 : decode cX7_phraseAt 14 = .ok (.getfield 17, 3) := by decide +kernel
theorem dX7_phraseAt_17 : decode cX7_phraseAt 17 = .ok (.iload_n 1, 1) := by decide +kernel
theorem dX7_phraseAt_18 : decode cX7_phraseAt 18 = .ok (.aaload, 1) := by decide +kernel
theorem dX7_phraseAt_19 : decode cX7_phraseAt 19 = .ok (.goto 4, 3) := by decide +kernel
theorem dX7_phraseAt_22 : decode cX7_phraseAt 22 = .ok (.aconst_null, 1) := by decide +kernel
theorem dX7_phraseAt_23 : decode cX7_phraseAt 23 = .ok (.areturn, 1) := by decide +kernel
theorem dX7_sheetAt_0 : decode cX7_sheetAt 0 = .ok (.iload_n 1, 1) := by decide +kernel
theorem dX7_sheetAt_1 : decode cX7_sheetAt 1 = .ok (.ifCond .lt 21, 3) := by decide +kernel
theorem dX7_sheetAt_4 : decode cX7_sheetAt 4 = .ok (.iload_n 1, 1) := by decide +kernel
theorem dX7_sheetAt_5 : decode cX7_sheetAt 5 = .ok (.aload_n 0, 1) := by decide +kernel
theorem dX7_sheetAt_6 : decode cX7_sheetAt 6 = .ok (.getfield 23, 3) := by decide +kernel
theorem dX7_sheetAt_9 : decode cX7_sheetAt 9 = .ok (.arraylength, 1) := by decide +kernel
theorem dX7_sheetAt_10 : decode cX7_sheetAt 10 = .ok (.if_icmp .ge 12, 3) := by decide +kernel
theorem dX7_sheetAt_13 : decode cX7_sheetAt 13 = .ok (.aload_n 0, 1) := by decide +kernel
theorem dX7_sheetAt_14 : decode cX7_sheetAt 14 = .ok (.getfield 23, 3) := by decide +kernel
theorem dX7_sheetAt_17 : decode cX7_sheetAt 17 = .ok (.iload_n 1, 1) := by decide +kernel
theorem dX7_sheetAt_18 : decode cX7_sheetAt 18 = .ok (.aaload, 1) := by decide +kernel
theorem dX7_sheetAt_19 : decode cX7_sheetAt 19 = .ok (.goto 4, 3) := by decide +kernel
theorem dX7_sheetAt_22 : decode cX7_sheetAt 22 = .ok (.aconst_null, 1) := by decide +kernel
theorem dX7_sheetAt_23 : decode cX7_sheetAt 23 = .ok (.areturn, 1) := by decide +kernel
theorem dX7_lengthOf_0 : decode cX7_lengthOf 0 = .ok (.aload_n 0, 1) := by decide +kernel
theorem dX7_lengthOf_1 : decode cX7_lengthOf 1 = .ok (.iload_n 1, 1) := by decide +kernel
theorem dX7_lengthOf_2 : decode cX7_lengthOf 2 = .ok (.invokevirtual 62, 3) := by decide +kernel
theorem dX7_lengthOf_5 : decode cX7_lengthOf 5 = .ok (.astore_n 2, 1) := by decide +kernel
theorem dX7_lengthOf_6 : decode cX7_lengthOf 6 = .ok (.aload_n 2, 1) := by decide +kernel
theorem dX7_lengthOf_7 : decode cX7_lengthOf 7 = .ok (.ifnonnull 7, 3) := by decide +kernel
theorem dX7_lengthOf_10 : decode cX7_lengthOf 10 = .ok (.iconst 0, 1) := by decide +kernel
theorem dX7_lengthOf_11 : decode cX7_lengthOf 11 = .ok (.goto 7, 3) := by decide +kernel
theorem dX7_lengthOf_14 : decode cX7_lengthOf 14 = .ok (.aload_n 2, 1) := by decide +kernel
theorem dX7_lengthOf_15 : decode cX7_lengthOf 15 = .ok (.invokevirtual 82, 3) := by decide +kernel
theorem dX7_lengthOf_18 : decode cX7_lengthOf 18 = .ok (.ireturn, 1) := by decide +kernel
theorem dX7_limbsInAll_0 : decode cX7_limbsInAll 0 = .ok (.iconst 0, 1) := by decide +kernel
theorem dX7_limbsInAll_1 : decode cX7_limbsInAll 1 = .ok (.istore_n 1, 1) := by decide +kernel
theorem dX7_limbsInAll_2 : decode cX7_limbsInAll 2 = .ok (.iconst 0, 1) := by decide +kernel
theorem dX7_limbsInAll_3 : decode cX7_limbsInAll 3 = .ok (.istore_n 2, 1) := by decide +kernel
theorem dX7_limbsInAll_4 : decode cX7_limbsInAll 4 = .ok (.iload_n 2, 1) := by decide +kernel
theorem dX7_limbsInAll_5 : decode cX7_limbsInAll 5 = .ok (.aload_n 0, 1) := by decide +kernel
theorem dX7_limbsInAll_6 : decode cX7_limbsInAll 6 = .ok (.getfield 9, 3) := by decide +kernel
theorem dX7_limbsInAll_9 : decode cX7_limbsInAll 9 = .ok (.arraylength, 1) := by decide +kernel
theorem dX7_limbsInAll_10 : decode cX7_limbsInAll 10 = .ok (.if_icmp .ge 21, 3) := by decide +kernel
theorem dX7_limbsInAll_13 : decode cX7_limbsInAll 13 = .ok (.iload_n 1, 1) := by decide +kernel
theorem dX7_limbsInAll_14 : decode cX7_limbsInAll 14 = .ok (.aload_n 0, 1) := by decide +kernel
theorem dX7_limbsInAll_15 : decode cX7_limbsInAll 15 = .ok (.getfield 9, 3) := by decide +kernel
theorem dX7_limbsInAll_18 : decode cX7_limbsInAll 18 = .ok (.iload_n 2, 1) := by decide +kernel
theorem dX7_limbsInAll_19 : decode cX7_limbsInAll 19 = .ok (.aaload, 1) := by decide +kernel
theorem dX7_limbsInAll_20 : decode cX7_limbsInAll 20 = .ok (.getfield 75, 3) := by decide +kernel
theorem dX7_limbsInAll_23 : decode cX7_limbsInAll 23 = .ok (.iadd, 1) := by decide +kernel
theorem dX7_limbsInAll_24 : decode cX7_limbsInAll 24 = .ok (.istore_n 1, 1) := by decide +kernel
theorem dX7_limbsInAll_25 : decode cX7_limbsInAll 25 = .ok (.iinc 2 1, 3) := by decide +kernel
theorem dX7_limbsInAll_28 : decode cX7_limbsInAll 28 = .ok (.goto (-24), 3) := by decide +kernel
theorem dX7_limbsInAll_31 : decode cX7_limbsInAll 31 = .ok (.iload_n 1, 1) := by decide +kernel
theorem dX7_limbsInAll_32 : decode cX7_limbsInAll 32 = .ok (.ireturn, 1) := by decide +kernel
theorem dX7_phrasesNotEmpty_0 : decode cX7_phrasesNotEmpty 0 = .ok (.iconst 0, 1) := by decide +kernel
theorem dX7_phrasesNotEmpty_1 : decode cX7_phrasesNotEmpty 1 = .ok (.istore_n 1, 1) := by decide +kernel
theorem dX7_phrasesNotEmpty_2 : decode cX7_phrasesNotEmpty 2 = .ok (.iconst 0, 1) := by decide +kernel
theorem dX7_phrasesNotEmpty_3 : decode cX7_phrasesNotEmpty 3 = .ok (.istore_n 2, 1) := by decide +kernel
theorem dX7_phrasesNotEmpty_4 : decode cX7_phrasesNotEmpty 4 = .ok (.iload_n 2, 1) := by decide +kernel
theorem dX7_phrasesNotEmpty_5 : decode cX7_phrasesNotEmpty 5 = .ok (.aload_n 0, 1) := by decide +kernel
theorem dX7_phrasesNotEmpty_6 : decode cX7_phrasesNotEmpty 6 = .ok (.getfield 17, 3) := by decide +kernel
theorem dX7_phrasesNotEmpty_9 : decode cX7_phrasesNotEmpty 9 = .ok (.arraylength, 1) := by decide +kernel
theorem dX7_phrasesNotEmpty_10 : decode cX7_phrasesNotEmpty 10 = .ok (.if_icmp .ge 24, 3) := by decide +kernel
theorem dX7_phrasesNotEmpty_13 : decode cX7_phrasesNotEmpty 13 = .ok (.aload_n 0, 1) := by decide +kernel
theorem dX7_phrasesNotEmpty_14 : decode cX7_phrasesNotEmpty 14 = .ok (.getfield 17, 3) := by decide +kernel
theorem dX7_phrasesNotEmpty_17 : decode cX7_phrasesNotEmpty 17 = .ok (.iload_n 2, 1) := by decide +kernel
theorem dX7_phrasesNotEmpty_18 : decode cX7_phrasesNotEmpty 18 = .ok (.aaload, 1) := by decide +kernel
theorem dX7_phrasesNotEmpty_19 : decode cX7_phrasesNotEmpty 19 = .ok (.getfield 113, 3) := by decide +kernel
theorem dX7_phrasesNotEmpty_22 : decode cX7_phrasesNotEmpty 22 = .ok (.ifCond .le 6, 3) := by decide +kernel
theorem dX7_phrasesNotEmpty_25 : decode cX7_phrasesNotEmpty 25 = .ok (.iinc 1 1, 3) := by decide +kernel
theorem dX7_phrasesNotEmpty_28 : decode cX7_phrasesNotEmpty 28 = .ok (.iinc 2 1, 3) := by decide +kernel
theorem dX7_phrasesNotEmpty_31 : decode cX7_phrasesNotEmpty 31 = .ok (.goto (-27), 3) := by decide +kernel
theorem dX7_phrasesNotEmpty_34 : decode cX7_phrasesNotEmpty 34 = .ok (.iload_n 1, 1) := by decide +kernel
theorem dX7_phrasesNotEmpty_35 : decode cX7_phrasesNotEmpty 35 = .ok (.ireturn, 1) := by decide +kernel
theorem dX7_syllablesInAll_0 : decode cX7_syllablesInAll 0 = .ok (.iconst 0, 1) := by decide +kernel
theorem dX7_syllablesInAll_1 : decode cX7_syllablesInAll 1 = .ok (.istore_n 1, 1) := by decide +kernel
theorem dX7_syllablesInAll_2 : decode cX7_syllablesInAll 2 = .ok (.iconst 0, 1) := by decide +kernel
theorem dX7_syllablesInAll_3 : decode cX7_syllablesInAll 3 = .ok (.istore_n 2, 1) := by decide +kernel
theorem dX7_syllablesInAll_4 : decode cX7_syllablesInAll 4 = .ok (.iload_n 2, 1) := by decide +kernel
theorem dX7_syllablesInAll_5 : decode cX7_syllablesInAll 5 = .ok (.aload_n 0, 1) := by decide +kernel
theorem dX7_syllablesInAll_6 : decode cX7_syllablesInAll 6 = .ok (.getfield 17, 3) := by decide +kernel
theorem dX7_syllablesInAll_9 : decode cX7_syllablesInAll 9 = .ok (.arraylength, 1) := by decide +kernel
theorem dX7_syllablesInAll_10 : decode cX7_syllablesInAll 10 = .ok (.if_icmp .ge 21, 3) := by decide +kernel
theorem dX7_syllablesInAll_13 : decode cX7_syllablesInAll 13 = .ok (.iload_n 1, 1) := by decide +kernel
theorem dX7_syllablesInAll_14 : decode cX7_syllablesInAll 14 = .ok (.aload_n 0, 1) := by decide +kernel
theorem dX7_syllablesInAll_15 : decode cX7_syllablesInAll 15 = .ok (.getfield 17, 3) := by decide +kernel
theorem dX7_syllablesInAll_18 : decode cX7_syllablesInAll 18 = .ok (.iload_n 2, 1) := by decide +kernel
theorem dX7_syllablesInAll_19 : decode cX7_syllablesInAll 19 = .ok (.aaload, 1) := by decide +kernel
theorem dX7_syllablesInAll_20 : decode cX7_syllablesInAll 20 = .ok (.getfield 113, 3) := by decide +kernel
theorem dX7_syllablesInAll_23 : decode cX7_syllablesInAll 23 = .ok (.iadd, 1) := by decide +kernel
theorem dX7_syllablesInAll_24 : decode cX7_syllablesInAll 24 = .ok (.istore_n 1, 1) := by decide +kernel
theorem dX7_syllablesInAll_25 : decode cX7_syllablesInAll 25 = .ok (.iinc 2 1, 3) := by decide +kernel
theorem dX7_syllablesInAll_28 : decode cX7_syllablesInAll 28 = .ok (.goto (-24), 3) := by decide +kernel
theorem dX7_syllablesInAll_31 : decode cX7_syllablesInAll 31 = .ok (.iload_n 1, 1) := by decide +kernel
theorem dX7_syllablesInAll_32 : decode cX7_syllablesInAll 32 = .ok (.ireturn, 1) := by decide +kernel
theorem dX7_sheetsNotMissing_0 : decode cX7_sheetsNotMissing 0 = .ok (.iconst 0, 1) := by decide +kernel
theorem dX7_sheetsNotMissing_1 : decode cX7_sheetsNotMissing 1 = .ok (.istore_n 1, 1) := by decide +kernel
theorem dX7_sheetsNotMissing_2 : decode cX7_sheetsNotMissing 2 = .ok (.iconst 0, 1) := by decide +kernel
theorem dX7_sheetsNotMissing_3 : decode cX7_sheetsNotMissing 3 = .ok (.istore_n 2, 1) := by decide +kernel
theorem dX7_sheetsNotMissing_4 : decode cX7_sheetsNotMissing 4 = .ok (.iload_n 2, 1) := by decide +kernel
theorem dX7_sheetsNotMissing_5 : decode cX7_sheetsNotMissing 5 = .ok (.aload_n 0, 1) := by decide +kernel
theorem dX7_sheetsNotMissing_6 : decode cX7_sheetsNotMissing 6 = .ok (.getfield 23, 3) := by decide +kernel
theorem dX7_sheetsNotMissing_9 : decode cX7_sheetsNotMissing 9 = .ok (.arraylength, 1) := by decide +kernel
theorem dX7_sheetsNotMissing_10 : decode cX7_sheetsNotMissing 10 = .ok (.if_icmp .ge 24, 3) := by decide +kernel
theorem dX7_sheetsNotMissing_13 : decode cX7_sheetsNotMissing 13 = .ok (.aload_n 0, 1) := by decide +kernel
theorem dX7_sheetsNotMissing_14 : decode cX7_sheetsNotMissing 14 = .ok (.getfield 23, 3) := by decide +kernel
theorem dX7_sheetsNotMissing_17 : decode cX7_sheetsNotMissing 17 = .ok (.iload_n 2, 1) := by decide +kernel
theorem dX7_sheetsNotMissing_18 : decode cX7_sheetsNotMissing 18 = .ok (.aaload, 1) := by decide +kernel
theorem dX7_sheetsNotMissing_19 : decode cX7_sheetsNotMissing 19 = .ok (.invokevirtual 194, 3) := by decide +kernel
theorem dX7_sheetsNotMissing_22 : decode cX7_sheetsNotMissing 22 = .ok (.ifCond .ne 6, 3) := by decide +kernel
theorem dX7_sheetsNotMissing_25 : decode cX7_sheetsNotMissing 25 = .ok (.iinc 1 1, 3) := by decide +kernel
theorem dX7_sheetsNotMissing_28 : decode cX7_sheetsNotMissing 28 = .ok (.iinc 2 1, 3) := by decide +kernel
theorem dX7_sheetsNotMissing_31 : decode cX7_sheetsNotMissing 31 = .ok (.goto (-27), 3) := by decide +kernel
theorem dX7_sheetsNotMissing_34 : decode cX7_sheetsNotMissing 34 = .ok (.iload_n 1, 1) := by decide +kernel
theorem dX7_sheetsNotMissing_35 : decode cX7_sheetsNotMissing 35 = .ok (.ireturn, 1) := by decide +kernel
theorem dX7_lieWithin_0 : decode cX7_lieWithin 0 = .ok (.iload_n 0, 1) := by decide +kernel
theorem dX7_lieWithin_1 : decode cX7_lieWithin 1 = .ok (.ifCond .lt 23, 3) := by decide +kernel
theorem dX7_lieWithin_4 : decode cX7_lieWithin 4 = .ok (.iload_n 1, 1) := by decide +kernel
theorem dX7_lieWithin_5 : decode cX7_lieWithin 5 = .ok (.ifCond .lt 19, 3) := by decide +kernel
theorem dX7_lieWithin_8 : decode cX7_lieWithin 8 = .ok (.iload_n 0, 1) := by decide +kernel
theorem dX7_lieWithin_9 : decode cX7_lieWithin 9 = .ok (.iload_n 2, 1) := by decide +kernel
theorem dX7_lieWithin_10 : decode cX7_lieWithin 10 = .ok (.if_icmp .gt 14, 3) := by decide +kernel
theorem dX7_lieWithin_13 : decode cX7_lieWithin 13 = .ok (.iload_n 1, 1) := by decide +kernel
theorem dX7_lieWithin_14 : decode cX7_lieWithin 14 = .ok (.iload_n 2, 1) := by decide +kernel
theorem dX7_lieWithin_15 : decode cX7_lieWithin 15 = .ok (.iload_n 0, 1) := by decide +kernel
theorem dX7_lieWithin_16 : decode cX7_lieWithin 16 = .ok (.isub, 1) := by decide +kernel
theorem dX7_lieWithin_17 : decode cX7_lieWithin 17 = .ok (.if_icmp .gt 7, 3) := by decide +kernel
theorem dX7_lieWithin_20 : decode cX7_lieWithin 20 = .ok (.iconst 1, 1) := by decide +kernel
theorem dX7_lieWithin_21 : decode cX7_lieWithin 21 = .ok (.goto 4, 3) := by decide +kernel
theorem dX7_lieWithin_24 : decode cX7_lieWithin 24 = .ok (.iconst 0, 1) := by decide +kernel
theorem dX7_lieWithin_25 : decode cX7_lieWithin 25 = .ok (.ireturn, 1) := by decide +kernel
theorem dX7_ticksOfOne_0 : decode cX7_ticksOfOne 0 = .ok (.iload_n 0, 1) := by decide +kernel
theorem dX7_ticksOfOne_1 : decode cX7_ticksOfOne 1 = .ok (.tableswitch 52 1 8 #[47, 47, 47, 47, 52, 47, 52, 47], 47) := by decide +kernel
theorem dX7_ticksOfOne_48 : decode cX7_ticksOfOne 48 = .ok (.bipush 24, 2) := by decide +kernel
theorem dX7_ticksOfOne_50 : decode cX7_ticksOfOne 50 = .ok (.iload_n 0, 1) := by decide +kernel
theorem dX7_ticksOfOne_51 : decode cX7_ticksOfOne 51 = .ok (.idiv, 1) := by decide +kernel
theorem dX7_ticksOfOne_52 : decode cX7_ticksOfOne 52 = .ok (.ireturn, 1) := by decide +kernel
theorem dX7_ticksOfOne_53 : decode cX7_ticksOfOne 53 = .ok (.iconst 0, 1) := by decide +kernel
theorem dX7_ticksOfOne_54 : decode cX7_ticksOfOne 54 = .ok (.ireturn, 1) := by decide +kernel
theorem dX7_isGap_0 : decode cX7_isGap 0 = .ok (.iload_n 0, 1) := by decide +kernel
theorem dX7_isGap_1 : decode cX7_isGap 1 = .ok (.ifCond .lt 13, 3) := by decide +kernel
theorem dX7_isGap_4 : decode cX7_isGap 4 = .ok (.iload_n 0, 1) := by decide +kernel
theorem dX7_isGap_5 : decode cX7_isGap 5 = .ok (.bipush 96, 2) := by decide +kernel
theorem dX7_isGap_7 : decode cX7_isGap 7 = .ok (.if_icmp .gt 7, 3) := by decide +kernel
theorem dX7_isGap_10 : decode cX7_isGap 10 = .ok (.iconst 1, 1) := by decide +kernel
theorem dX7_isGap_11 : decode cX7_isGap 11 = .ok (.goto 4, 3) := by decide +kernel
theorem dX7_isGap_14 : decode cX7_isGap 14 = .ok (.iconst 0, 1) := by decide +kernel
theorem dX7_isGap_15 : decode cX7_isGap 15 = .ok (.ireturn, 1) := by decide +kernel
theorem dX7_isHow_0 : decode cX7_isHow 0 = .ok (.iload_n 0, 1) := by decide +kernel
theorem dX7_isHow_1 : decode cX7_isHow 1 = .ok (.ifCond .lt 25, 3) := by decide +kernel
theorem dX7_isHow_4 : decode cX7_isHow 4 = .ok (.iload_n 0, 1) := by decide +kernel
theorem dX7_isHow_5 : decode cX7_isHow 5 = .ok (.bipush 10, 2) := by decide +kernel
theorem dX7_isHow_7 : decode cX7_isHow 7 = .ok (.irem, 1) := by decide +kernel
theorem dX7_isHow_8 : decode cX7_isHow 8 = .ok (.iconst 1, 1) := by decide +kernel
theorem dX7_isHow_9 : decode cX7_isHow 9 = .ok (.if_icmp .gt 17, 3) := by decide +kernel
theorem dX7_isHow_12 : decode cX7_isHow 12 = .ok (.iload_n 0, 1) := by decide +kernel
theorem dX7_isHow_13 : decode cX7_isHow 13 = .ok (.bipush 10, 2) := by decide +kernel
theorem dX7_isHow_15 : decode cX7_isHow 15 = .ok (.idiv, 1) := by decide +kernel
theorem dX7_isHow_16 : decode cX7_isHow 16 = .ok (.invokestatic 110, 3) := by decide +kernel
theorem dX7_isHow_19 : decode cX7_isHow 19 = .ok (.ifCond .eq 7, 3) := by decide +kernel
theorem dX7_isHow_22 : decode cX7_isHow 22 = .ok (.iconst 1, 1) := by decide +kernel
theorem dX7_isHow_23 : decode cX7_isHow 23 = .ok (.goto 4, 3) := by decide +kernel
theorem dX7_isHow_26 : decode cX7_isHow 26 = .ok (.iconst 0, 1) := by decide +kernel
theorem dX7_isHow_27 : decode cX7_isHow 27 = .ok (.ireturn, 1) := by decide +kernel
theorem dX7_closingRefusal_0 : decode cX7_closingRefusal 0 = .ok (.aload_n 0, 1) := by decide +kernel
theorem dX7_closingRefusal_1 : decode cX7_closingRefusal 1 = .ok (.iload_n 1, 1) := by decide +kernel
theorem dX7_closingRefusal_2 : decode cX7_closingRefusal 2 = .ok (.invokevirtual 62, 3) := by decide +kernel
theorem dX7_closingRefusal_5 : decode cX7_closingRefusal 5 = .ok (.astore 6, 2) := by decide +kernel
theorem dX7_closingRefusal_7 : decode cX7_closingRefusal 7 = .ok (.aload_n 0, 1) := by decide +kernel
theorem dX7_closingRefusal_8 : decode cX7_closingRefusal 8 = .ok (.iload_n 2, 1) := by decide +kernel
theorem dX7_closingRefusal_9 : decode cX7_closingRefusal 9 = .ok (.invokevirtual 99, 3) := by decide +kernel
theorem dX7_closingRefusal_12 : decode cX7_closingRefusal 12 = .ok (.astore 7, 2) := by decide +kernel
theorem dX7_closingRefusal_14 : decode cX7_closingRefusal 14 = .ok (.aload 6, 2) := by decide +kernel
theorem dX7_closingRefusal_16 : decode cX7_closingRefusal 16 = .ok (.ifnull 28, 3) := by decide +kernel
theorem dX7_closingRefusal_19 : decode cX7_closingRefusal 19 = .ok (.aload 7, 2) := by decide +kernel
theorem dX7_closingRefusal_21 : decode cX7_closingRefusal 21 = .ok (.ifnull 23, 3) := by decide +kernel
theorem dX7_closingRefusal_24 : decode cX7_closingRefusal 24 = .ok (.iload_n 3, 1) := by decide +kernel
theorem dX7_closingRefusal_25 : decode cX7_closingRefusal 25 = .ok (.invokestatic 233, 3) := by decide +kernel
theorem dX7_closingRefusal_28 : decode cX7_closingRefusal 28 = .ok (.ifCond .eq 16, 3) := by decide +kernel
theorem dX7_closingRefusal_31 : decode cX7_closingRefusal 31 = .ok (.iload 4, 2) := by decide +kernel
theorem dX7_closingRefusal_33 : decode cX7_closingRefusal 33 = .ok (.ifCond .lt 11, 3) := by decide +kernel
theorem dX7_closingRefusal_36 : decode cX7_closingRefusal 36 = .ok (.iload 5, 2) := by decide +kernel
theorem dX7_closingRefusal_38 : decode cX7_closingRefusal 38 = .ok (.invokestatic 171, 3) := by decide +kernel
theorem dX7_closingRefusal_41 : decode cX7_closingRefusal 41 = .ok (.ifCond .ne 6, 3) := by decide +kernel
theorem dX7_closingRefusal_44 : decode cX7_closingRefusal 44 = .ok (.ldc 70, 2) := by decide +kernel
theorem dX7_closingRefusal_46 : decode cX7_closingRefusal 46 = .ok (.ireturn, 1) := by decide +kernel
theorem dX7_closingRefusal_47 : decode cX7_closingRefusal 47 = .ok (.aload 6, 2) := by decide +kernel
theorem dX7_closingRefusal_49 : decode cX7_closingRefusal 49 = .ok (.getfield 75, 3) := by decide +kernel
theorem dX7_closingRefusal_52 : decode cX7_closingRefusal 52 = .ok (.ifCond .eq 11, 3) := by decide +kernel
theorem dX7_closingRefusal_55 : decode cX7_closingRefusal 55 = .ok (.aload 7, 2) := by decide +kernel
theorem dX7_closingRefusal_57 : decode cX7_closingRefusal 57 = .ok (.getfield 113, 3) := by decide +kernel
theorem dX7_closingRefusal_60 : decode cX7_closingRefusal 60 = .ok (.ifCond .ne 8, 3) := by decide +kernel
theorem dX7_closingRefusal_63 : decode cX7_closingRefusal 63 = .ok (.ldc 163, 2) := by decide +kernel
theorem dX7_closingRefusal_65 : decode cX7_closingRefusal 65 = .ok (.goto 4, 3) := by decide +kernel
theorem dX7_closingRefusal_68 : decode cX7_closingRefusal 68 = .ok (.iconst 0, 1) := by decide +kernel
theorem dX7_closingRefusal_69 : decode cX7_closingRefusal 69 = .ok (.ireturn, 1) := by decide +kernel
theorem dX7_wantingIn_0 : decode cX7_wantingIn 0 = .ok (.aload_n 0, 1) := by decide +kernel
theorem dX7_wantingIn_1 : decode cX7_wantingIn 1 = .ok (.iload_n 1, 1) := by decide +kernel
theorem dX7_wantingIn_2 : decode cX7_wantingIn 2 = .ok (.invokevirtual 121, 3) := by decide +kernel
theorem dX7_wantingIn_5 : decode cX7_wantingIn 5 = .ok (.istore 6, 2) := by decide +kernel
theorem dX7_wantingIn_7 : decode cX7_wantingIn 7 = .ok (.aload_n 0, 1) := by decide +kernel
theorem dX7_wantingIn_8 : decode cX7_wantingIn 8 = .ok (.iload_n 2, 1) := by decide +kernel
theorem dX7_wantingIn_9 : decode cX7_wantingIn 9 = .ok (.invokevirtual 99, 3) := by decide +kernel
theorem dX7_wantingIn_12 : decode cX7_wantingIn 12 = .ok (.astore 7, 2) := by decide +kernel
theorem dX7_wantingIn_14 : decode cX7_wantingIn 14 = .ok (.iload 6, 2) := by decide +kernel
theorem dX7_wantingIn_16 : decode cX7_wantingIn 16 = .ok (.ifCond .le 8, 3) := by decide +kernel
theorem dX7_wantingIn_19 : decode cX7_wantingIn 19 = .ok (.aload 7, 2) := by decide +kernel
theorem dX7_wantingIn_21 : decode cX7_wantingIn 21 = .ok (.ifnonnull 5, 3) := by decide +kernel
theorem dX7_wantingIn_24 : decode cX7_wantingIn 24 = .ok (.iconst 0, 1) := by decide +kernel
theorem dX7_wantingIn_25 : decode cX7_wantingIn 25 = .ok (.ireturn, 1) := by decide +kernel
theorem dX7_wantingIn_26 : decode cX7_wantingIn 26 = .ok (.iload_n 3, 1) := by decide +kernel
theorem dX7_wantingIn_27 : decode cX7_wantingIn 27 = .ok (.bipush 10, 2) := by decide +kernel
theorem dX7_wantingIn_29 : decode cX7_wantingIn 29 = .ok (.irem, 1) := by decide +kernel
theorem dX7_wantingIn_30 : decode cX7_wantingIn 30 = .ok (.istore 8, 2) := by decide +kernel
theorem dX7_wantingIn_32 : decode cX7_wantingIn 32 = .ok (.iload 5, 2) := by decide +kernel
theorem dX7_wantingIn_34 : decode cX7_wantingIn 34 = .ok (.aload 7, 2) := by decide +kernel
theorem dX7_wantingIn_36 : decode cX7_wantingIn 36 = .ok (.getfield 113, 3) := by decide +kernel
theorem dX7_wantingIn_39 : decode cX7_wantingIn 39 = .ok (.imul, 1) := by decide +kernel
theorem dX7_wantingIn_40 : decode cX7_wantingIn 40 = .ok (.iload 8, 2) := by decide +kernel
theorem dX7_wantingIn_42 : decode cX7_wantingIn 42 = .ok (.isub, 1) := by decide +kernel
theorem dX7_wantingIn_43 : decode cX7_wantingIn 43 = .ok (.istore 9, 2) := by decide +kernel
theorem dX7_wantingIn_45 : decode cX7_wantingIn 45 = .ok (.iload 4, 2) := by decide +kernel
theorem dX7_wantingIn_47 : decode cX7_wantingIn 47 = .ok (.iload 6, 2) := by decide +kernel
theorem dX7_wantingIn_49 : decode cX7_wantingIn 49 = .ok (.irem, 1) := by decide +kernel
theorem dX7_wantingIn_50 : decode cX7_wantingIn 50 = .ok (.ineg, 1) := by decide +kernel
theorem dX7_wantingIn_51 : decode cX7_wantingIn 51 = .ok (.iload 9, 2) := by decide +kernel
theorem dX7_wantingIn_53 : decode cX7_wantingIn 53 = .ok (.iload_n 3, 1) := by decide +kernel
theorem dX7_wantingIn_54 : decode cX7_wantingIn 54 = .ok (.bipush 10, 2) := by decide +kernel
theorem dX7_wantingIn_56 : decode cX7_wantingIn 56 = .ok (.idiv, 1) := by decide +kernel
theorem dX7_wantingIn_57 : decode cX7_wantingIn 57 = .ok (.invokestatic 110, 3) := by decide +kernel
theorem dX7_wantingIn_60 : decode cX7_wantingIn 60 = .ok (.imul, 1) := by decide +kernel
theorem dX7_wantingIn_61 : decode cX7_wantingIn 61 = .ok (.isub, 1) := by decide +kernel
theorem dX7_wantingIn_62 : decode cX7_wantingIn 62 = .ok (.iload 6, 2) := by decide +kernel
theorem dX7_wantingIn_64 : decode cX7_wantingIn 64 = .ok (.invokestatic 185, 3) := by decide +kernel
theorem dX7_wantingIn_67 : decode cX7_wantingIn 67 = .ok (.ireturn, 1) := by decide +kernel
theorem dX7_lessGaps_0 : decode cX7_lessGaps 0 = .ok (.iload_n 2, 1) := by decide +kernel
theorem dX7_lessGaps_1 : decode cX7_lessGaps 1 = .ok (.ifCond .gt 7, 3) := by decide +kernel
theorem dX7_lessGaps_4 : decode cX7_lessGaps 4 = .ok (.iconst 0, 1) := by decide +kernel
theorem dX7_lessGaps_5 : decode cX7_lessGaps 5 = .ok (.goto 10, 3) := by decide +kernel
theorem dX7_lessGaps_8 : decode cX7_lessGaps 8 = .ok (.iload_n 0, 1) := by decide +kernel
theorem dX7_lessGaps_9 : decode cX7_lessGaps 9 = .ok (.iload_n 1, 1) := by decide +kernel
theorem dX7_lessGaps_10 : decode cX7_lessGaps 10 = .ok (.isub, 1) := by decide +kernel
theorem dX7_lessGaps_11 : decode cX7_lessGaps 11 = .ok (.iload_n 2, 1) := by decide +kernel
theorem dX7_lessGaps_12 : decode cX7_lessGaps 12 = .ok (.invokestatic 185, 3) := by decide +kernel
theorem dX7_lessGaps_15 : decode cX7_lessGaps 15 = .ok (.ireturn, 1) := by decide +kernel
theorem dX7_isLookedAt_0 : decode cX7_isLookedAt 0 = .ok (.aload_n 0, 1) := by decide +kernel
theorem dX7_isLookedAt_1 : decode cX7_isLookedAt 1 = .ok (.getfield 55, 3) := by decide +kernel
theorem dX7_isLookedAt_4 : decode cX7_isLookedAt 4 = .ok (.ifCond .le 16, 3) := by decide +kernel
theorem dX7_isLookedAt_7 : decode cX7_isLookedAt 7 = .ok (.iload_n 1, 1) := by decide +kernel
theorem dX7_isLookedAt_8 : decode cX7_isLookedAt 8 = .ok (.aload_n 0, 1) := by decide +kernel
theorem dX7_isLookedAt_9 : decode cX7_isLookedAt 9 = .ok (.getfield 55, 3) := by decide +kernel
theorem dX7_isLookedAt_12 : decode cX7_isLookedAt 12 = .ok (.irem, 1) := by decide +kernel
theorem dX7_isLookedAt_13 : decode cX7_isLookedAt 13 = .ok (.ifCond .ne 7, 3) := by decide +kernel
theorem dX7_isLookedAt_16 : decode cX7_isLookedAt 16 = .ok (.iconst 1, 1) := by decide +kernel
theorem dX7_isLookedAt_17 : decode cX7_isLookedAt 17 = .ok (.goto 4, 3) := by decide +kernel
theorem dX7_isLookedAt_20 : decode cX7_isLookedAt 20 = .ok (.iconst 0, 1) := by decide +kernel
theorem dX7_isLookedAt_21 : decode cX7_isLookedAt 21 = .ok (.ireturn, 1) := by decide +kernel
theorem dX7_gapsFilling_0 : decode cX7_gapsFilling 0 = .ok (.iload_n 2, 1) := by decide +kernel
theorem dX7_gapsFilling_1 : decode cX7_gapsFilling 1 = .ok (.iconst 2, 1) := by decide +kernel
theorem dX7_gapsFilling_2 : decode cX7_gapsFilling 2 = .ok (.idiv, 1) := by decide +kernel
theorem dX7_gapsFilling_3 : decode cX7_gapsFilling 3 = .ok (.istore_n 3, 1) := by decide +kernel
theorem dX7_gapsFilling_4 : decode cX7_gapsFilling 4 = .ok (.iload_n 3, 1) := by decide +kernel
theorem dX7_gapsFilling_5 : decode cX7_gapsFilling 5 = .ok (.ifCond .le 9, 3) := by decide +kernel
theorem dX7_gapsFilling_8 : decode cX7_gapsFilling 8 = .ok (.iload_n 1, 1) := by decide +kernel
theorem dX7_gapsFilling_9 : decode cX7_gapsFilling 9 = .ok (.iconst 2, 1) := by decide +kernel
theorem dX7_gapsFilling_10 : decode cX7_gapsFilling 10 = .ok (.irem, 1) := by decide +kernel
theorem dX7_gapsFilling_11 : decode cX7_gapsFilling 11 = .ok (.ifCond .eq 5, 3) := by decide +kernel
theorem dX7_gapsFilling_14 : decode cX7_gapsFilling 14 = .ok (.iconst 0, 1) := by decide +kernel
theorem dX7_gapsFilling_15 : decode cX7_gapsFilling 15 = .ok (.ireturn, 1) := by decide +kernel
theorem dX7_gapsFilling_16 : decode cX7_gapsFilling 16 = .ok (.iconst 0, 1) := by decide +kernel
theorem dX7_gapsFilling_17 : decode cX7_gapsFilling 17 = .ok (.istore 4, 2) := by decide +kernel
theorem dX7_gapsFilling_19 : decode cX7_gapsFilling 19 = .ok (.iload_n 1, 1) := by decide +kernel
theorem dX7_gapsFilling_20 : decode cX7_gapsFilling 20 = .ok (.iconst 2, 1) := by decide +kernel
theorem dX7_gapsFilling_21 : decode cX7_gapsFilling 21 = .ok (.idiv, 1) := by decide +kernel
theorem dX7_gapsFilling_22 : decode cX7_gapsFilling 22 = .ok (.istore 5, 2) := by decide +kernel
theorem dX7_gapsFilling_24 : decode cX7_gapsFilling 24 = .ok (.iload 5, 2) := by decide +kernel
theorem dX7_gapsFilling_26 : decode cX7_gapsFilling 26 = .ok (.bipush 96, 2) := by decide +kernel
theorem dX7_gapsFilling_28 : decode cX7_gapsFilling 28 = .ok (.if_icmp .gt 24, 3) := by decide +kernel
theorem dX7_gapsFilling_31 : decode cX7_gapsFilling 31 = .ok (.aload_n 0, 1) := by decide +kernel
theorem dX7_gapsFilling_32 : decode cX7_gapsFilling 32 = .ok (.iload 5, 2) := by decide +kernel
theorem dX7_gapsFilling_34 : decode cX7_gapsFilling 34 = .ok (.invokevirtual 236, 3) := by decide +kernel
theorem dX7_gapsFilling_37 : decode cX7_gapsFilling 37 = .ok (.ifCond .eq 6, 3) := by decide +kernel
theorem dX7_gapsFilling_40 : decode cX7_gapsFilling 40 = .ok (.iinc 4 1, 3) := by decide +kernel
theorem dX7_gapsFilling_43 : decode cX7_gapsFilling 43 = .ok (.iload 5, 2) := by decide +kernel
theorem dX7_gapsFilling_45 : decode cX7_gapsFilling 45 = .ok (.iload_n 3, 1) := by decide +kernel
theorem dX7_gapsFilling_46 : decode cX7_gapsFilling 46 = .ok (.iadd, 1) := by decide +kernel
theorem dX7_gapsFilling_47 : decode cX7_gapsFilling 47 = .ok (.istore 5, 2) := by decide +kernel
theorem dX7_gapsFilling_49 : decode cX7_gapsFilling 49 = .ok (.goto (-25), 3) := by decide +kernel
theorem dX7_gapsFilling_52 : decode cX7_gapsFilling 52 = .ok (.iload 4, 2) := by decide +kernel
theorem dX7_gapsFilling_54 : decode cX7_gapsFilling 54 = .ok (.ireturn, 1) := by decide +kernel
theorem dX7_gapFilling_0 : decode cX7_gapFilling 0 = .ok (.iload_n 2, 1) := by decide +kernel
theorem dX7_gapFilling_1 : decode cX7_gapFilling 1 = .ok (.iconst 2, 1) := by decide +kernel
theorem dX7_gapFilling_2 : decode cX7_gapFilling 2 = .ok (.idiv, 1) := by decide +kernel
theorem dX7_gapFilling_3 : decode cX7_gapFilling 3 = .ok (.istore 4, 2) := by decide +kernel
theorem dX7_gapFilling_5 : decode cX7_gapFilling 5 = .ok (.iload 4, 2) := by decide +kernel
theorem dX7_gapFilling_7 : decode cX7_gapFilling 7 = .ok (.ifCond .le 9, 3) := by decide +kernel
theorem dX7_gapFilling_10 : decode cX7_gapFilling 10 = .ok (.iload_n 1, 1) := by decide +kernel
theorem dX7_gapFilling_11 : decode cX7_gapFilling 11 = .ok (.iconst 2, 1) := by decide +kernel
theorem dX7_gapFilling_12 : decode cX7_gapFilling 12 = .ok (.irem, 1) := by decide +kernel
theorem dX7_gapFilling_13 : decode cX7_gapFilling 13 = .ok (.ifCond .eq 6, 3) := by decide +kernel
theorem dX7_gapFilling_16 : decode cX7_gapFilling 16 = .ok (.ldc 134, 2) := by decide +kernel
theorem dX7_gapFilling_18 : decode cX7_gapFilling 18 = .ok (.ireturn, 1) := by decide +kernel
theorem dX7_gapFilling_19 : decode cX7_gapFilling 19 = .ok (.iload_n 3, 1) := by decide +kernel
theorem dX7_gapFilling_20 : decode cX7_gapFilling 20 = .ok (.istore 5, 2) := by decide +kernel
theorem dX7_gapFilling_22 : decode cX7_gapFilling 22 = .ok (.iload_n 1, 1) := by decide +kernel
theorem dX7_gapFilling_23 : decode cX7_gapFilling 23 = .ok (.iconst 2, 1) := by decide +kernel
theorem dX7_gapFilling_24 : decode cX7_gapFilling 24 = .ok (.idiv, 1) := by decide +kernel
theorem dX7_gapFilling_25 : decode cX7_gapFilling 25 = .ok (.istore 6, 2) := by decide +kernel
theorem dX7_gapFilling_27 : decode cX7_gapFilling 27 = .ok (.iload 6, 2) := by decide +kernel
theorem dX7_gapFilling_29 : decode cX7_gapFilling 29 = .ok (.bipush 96, 2) := by decide +kernel
theorem dX7_gapFilling_31 : decode cX7_gapFilling 31 = .ok (.if_icmp .gt 33, 3) := by decide +kernel
theorem dX7_gapFilling_34 : decode cX7_gapFilling 34 = .ok (.aload_n 0, 1) := by decide +kernel
theorem dX7_gapFilling_35 : decode cX7_gapFilling 35 = .ok (.iload 6, 2) := by decide +kernel
theorem dX7_gapFilling_37 : decode cX7_gapFilling 37 = .ok (.invokevirtual 236, 3) := by decide +kernel
theorem dX7_gapFilling_40 : decode cX7_gapFilling 40 = .ok (.ifCond .eq 14, 3) := by decide +kernel
theorem dX7_gapFilling_43 : decode cX7_gapFilling 43 = .ok (.iload 5, 2) := by decide +kernel
theorem dX7_gapFilling_45 : decode cX7_gapFilling 45 = .ok (.ifCond .ne 6, 3) := by decide +kernel
theorem dX7_gapFilling_48 : decode cX7_gapFilling 48 = .ok (.iload 6, 2) := by decide +kernel
theorem dX7_gapFilling_50 : decode cX7_gapFilling 50 = .ok (.ireturn, 1) := by decide +kernel
theorem dX7_gapFilling_51 : decode cX7_gapFilling 51 = .ok (.iinc 5 (-1), 3) := by decide +kernel
theorem dX7_gapFilling_54 : decode cX7_gapFilling 54 = .ok (.iload 6, 2) := by decide +kernel
theorem dX7_gapFilling_56 : decode cX7_gapFilling 56 = .ok (.iload 4, 2) := by decide +kernel
theorem dX7_gapFilling_58 : decode cX7_gapFilling 58 = .ok (.iadd, 1) := by decide +kernel
theorem dX7_gapFilling_59 : decode cX7_gapFilling 59 = .ok (.istore 6, 2) := by decide +kernel
theorem dX7_gapFilling_61 : decode cX7_gapFilling 61 = .ok (.goto (-34), 3) := by decide +kernel
theorem dX7_gapFilling_64 : decode cX7_gapFilling 64 = .ok (.ldc 134, 2) := by decide +kernel
theorem dX7_gapFilling_66 : decode cX7_gapFilling 66 = .ok (.ireturn, 1) := by decide +kernel
theorem dX7_shapeRefusal_0 : decode cX7_shapeRefusal 0 = .ok (.aload_n 0, 1) := by decide +kernel
theorem dX7_shapeRefusal_1 : decode cX7_shapeRefusal 1 = .ok (.iload_n 1, 1) := by decide +kernel
theorem dX7_shapeRefusal_2 : decode cX7_shapeRefusal 2 = .ok (.invokevirtual 99, 3) := by decide +kernel
theorem dX7_shapeRefusal_5 : decode cX7_shapeRefusal 5 = .ok (.astore 4, 2) := by decide +kernel
theorem dX7_shapeRefusal_7 : decode cX7_shapeRefusal 7 = .ok (.aload 4, 2) := by decide +kernel
theorem dX7_shapeRefusal_9 : decode cX7_shapeRefusal 9 = .ok (.ifnull 23, 3) := by decide +kernel
theorem dX7_shapeRefusal_12 : decode cX7_shapeRefusal 12 = .ok (.iload_n 2, 1) := by decide +kernel
theorem dX7_shapeRefusal_13 : decode cX7_shapeRefusal 13 = .ok (.iconst 1, 1) := by decide +kernel
theorem dX7_shapeRefusal_14 : decode cX7_shapeRefusal 14 = .ok (.if_icmp .lt 18, 3) := by decide +kernel
theorem dX7_shapeRefusal_17 : decode cX7_shapeRefusal 17 = .ok (.iload_n 2, 1) := by decide +kernel
theorem dX7_shapeRefusal_18 : decode cX7_shapeRefusal 18 = .ok (.bipush 9, 2) := by decide +kernel
theorem dX7_shapeRefusal_20 : decode cX7_shapeRefusal 20 = .ok (.if_icmp .gt 12, 3) := by decide +kernel
theorem dX7_shapeRefusal_23 : decode cX7_shapeRefusal 23 = .ok (.iload_n 3, 1) := by decide +kernel
theorem dX7_shapeRefusal_24 : decode cX7_shapeRefusal 24 = .ok (.ifCond .lt 8, 3) := by decide +kernel
theorem dX7_shapeRefusal_27 : decode cX7_shapeRefusal 27 = .ok (.iload_n 3, 1) := by decide +kernel
theorem dX7_shapeRefusal_28 : decode cX7_shapeRefusal 28 = .ok (.iconst 2, 1) := by decide +kernel
theorem dX7_shapeRefusal_29 : decode cX7_shapeRefusal 29 = .ok (.if_icmp .le 6, 3) := by decide +kernel
theorem dX7_shapeRefusal_32 : decode cX7_shapeRefusal 32 = .ok (.ldc 70, 2) := by decide +kernel
theorem dX7_shapeRefusal_34 : decode cX7_shapeRefusal 34 = .ok (.ireturn, 1) := by decide +kernel
theorem dX7_shapeRefusal_35 : decode cX7_shapeRefusal 35 = .ok (.aload 4, 2) := by decide +kernel
theorem dX7_shapeRefusal_37 : decode cX7_shapeRefusal 37 = .ok (.getfield 113, 3) := by decide +kernel
theorem dX7_shapeRefusal_40 : decode cX7_shapeRefusal 40 = .ok (.ifCond .ne 8, 3) := by decide +kernel
theorem dX7_shapeRefusal_43 : decode cX7_shapeRefusal 43 = .ok (.ldc 163, 2) := by decide +kernel
theorem dX7_shapeRefusal_45 : decode cX7_shapeRefusal 45 = .ok (.goto 4, 3) := by decide +kernel
theorem dX7_shapeRefusal_48 : decode cX7_shapeRefusal 48 = .ok (.iconst 0, 1) := by decide +kernel
theorem dX7_shapeRefusal_49 : decode cX7_shapeRefusal 49 = .ok (.ireturn, 1) := by decide +kernel
theorem dX7_shapeRows_0 : decode cX7_shapeRows 0 = .ok (.aload_n 0, 1) := by decide +kernel
theorem dX7_shapeRows_1 : decode cX7_shapeRows 1 = .ok (.iload_n 1, 1) := by decide +kernel
theorem dX7_shapeRows_2 : decode cX7_shapeRows 2 = .ok (.invokevirtual 239, 3) := by decide +kernel
theorem dX7_shapeRows_5 : decode cX7_shapeRows 5 = .ok (.istore_n 3, 1) := by decide +kernel
theorem dX7_shapeRows_6 : decode cX7_shapeRows 6 = .ok (.iload_n 2, 1) := by decide +kernel
theorem dX7_shapeRows_7 : decode cX7_shapeRows 7 = .ok (.iconst 2, 1) := by decide +kernel
theorem dX7_shapeRows_8 : decode cX7_shapeRows 8 = .ok (.if_icmp .ne 11, 3) := by decide +kernel
theorem dX7_shapeRows_11 : decode cX7_shapeRows 11 = .ok (.iconst 2, 1) := by decide +kernel
theorem dX7_shapeRows_12 : decode cX7_shapeRows 12 = .ok (.iload_n 3, 1) := by decide +kernel
theorem dX7_shapeRows_13 : decode cX7_shapeRows 13 = .ok (.imul, 1) := by decide +kernel
theorem dX7_shapeRows_14 : decode cX7_shapeRows 14 = .ok (.iconst 1, 1) := by decide +kernel
theorem dX7_shapeRows_15 : decode cX7_shapeRows 15 = .ok (.isub, 1) := by decide +kernel
theorem dX7_shapeRows_16 : decode cX7_shapeRows 16 = .ok (.goto 4, 3) := by decide +kernel
theorem dX7_shapeRows_19 : decode cX7_shapeRows 19 = .ok (.iload_n 3, 1) := by decide +kernel
theorem dX7_shapeRows_20 : decode cX7_shapeRows 20 = .ok (.ireturn, 1) := by decide +kernel
theorem dX7_shapeRowStart_0 : decode cX7_shapeRowStart 0 = .ok (.aload_n 0, 1) := by decide +kernel
theorem dX7_shapeRowStart_1 : decode cX7_shapeRowStart 1 = .ok (.iload_n 1, 1) := by decide +kernel
theorem dX7_shapeRowStart_2 : decode cX7_shapeRowStart 2 = .ok (.invokevirtual 239, 3) := by decide +kernel
theorem dX7_shapeRowStart_5 : decode cX7_shapeRowStart 5 = .ok (.iconst 1, 1) := by decide +kernel
theorem dX7_shapeRowStart_6 : decode cX7_shapeRowStart 6 = .ok (.isub, 1) := by decide +kernel
theorem dX7_shapeRowStart_7 : decode cX7_shapeRowStart 7 = .ok (.istore 4, 2) := by decide +kernel
theorem dX7_shapeRowStart_9 : decode cX7_shapeRowStart 9 = .ok (.iload_n 2, 1) := by decide +kernel
theorem dX7_shapeRowStart_10 : decode cX7_shapeRowStart 10 = .ok (.iconst 1, 1) := by decide +kernel
theorem dX7_shapeRowStart_11 : decode cX7_shapeRowStart 11 = .ok (.if_icmp .ne 10, 3) := by decide +kernel
theorem dX7_shapeRowStart_14 : decode cX7_shapeRowStart 14 = .ok (.iload 4, 2) := by decide +kernel
theorem dX7_shapeRowStart_16 : decode cX7_shapeRowStart 16 = .ok (.iload_n 3, 1) := by decide +kernel
theorem dX7_shapeRowStart_17 : decode cX7_shapeRowStart 17 = .ok (.isub, 1) := by decide +kernel
theorem dX7_shapeRowStart_18 : decode cX7_shapeRowStart 18 = .ok (.iload_n 1, 1) := by decide +kernel
theorem dX7_shapeRowStart_19 : decode cX7_shapeRowStart 19 = .ok (.imul, 1) := by decide +kernel
theorem dX7_shapeRowStart_20 : decode cX7_shapeRowStart 20 = .ok (.ireturn, 1) := by decide +kernel
theorem dX7_shapeRowStart_21 : decode cX7_shapeRowStart 21 = .ok (.iload_n 3, 1) := by decide +kernel
theorem dX7_shapeRowStart_22 : decode cX7_shapeRowStart 22 = .ok (.iload 4, 2) := by decide +kernel
theorem dX7_shapeRowStart_24 : decode cX7_shapeRowStart 24 = .ok (.if_icmp .gt 9, 3) := by decide +kernel
theorem dX7_shapeRowStart_27 : decode cX7_shapeRowStart 27 = .ok (.iload_n 3, 1) := by decide +kernel
theorem dX7_shapeRowStart_28 : decode cX7_shapeRowStart 28 = .ok (.iload_n 1, 1) := by decide +kernel
theorem dX7_shapeRowStart_29 : decode cX7_shapeRowStart 29 = .ok (.imul, 1) := by decide +kernel
theorem dX7_shapeRowStart_30 : decode cX7_shapeRowStart 30 = .ok (.goto 11, 3) := by decide +kernel
theorem dX7_shapeRowStart_33 : decode cX7_shapeRowStart 33 = .ok (.iconst 2, 1) := by decide +kernel
theorem dX7_shapeRowStart_34 : decode cX7_shapeRowStart 34 = .ok (.iload 4, 2) := by decide +kernel
theorem dX7_shapeRowStart_36 : decode cX7_shapeRowStart 36 = .ok (.imul, 1) := by decide +kernel
theorem dX7_shapeRowStart_37 : decode cX7_shapeRowStart 37 = .ok (.iload_n 3, 1) := by decide +kernel
theorem dX7_shapeRowStart_38 : decode cX7_shapeRowStart 38 = .ok (.isub, 1) := by decide +kernel
theorem dX7_shapeRowStart_39 : decode cX7_shapeRowStart 39 = .ok (.iload_n 1, 1) := by decide +kernel
theorem dX7_shapeRowStart_40 : decode cX7_shapeRowStart 40 = .ok (.imul, 1) := by decide +kernel
theorem dX7_shapeRowStart_41 : decode cX7_shapeRowStart 41 = .ok (.ireturn, 1) := by decide +kernel
theorem dX7_turnRefusal_0 : decode cX7_turnRefusal 0 = .ok (.aload_n 0, 1) := by decide +kernel
theorem dX7_turnRefusal_1 : decode cX7_turnRefusal 1 = .ok (.iload_n 2, 1) := by decide +kernel
theorem dX7_turnRefusal_2 : decode cX7_turnRefusal 2 = .ok (.invokevirtual 149, 3) := by decide +kernel
theorem dX7_turnRefusal_5 : decode cX7_turnRefusal 5 = .ok (.astore_n 3, 1) := by decide +kernel
theorem dX7_turnRefusal_6 : decode cX7_turnRefusal 6 = .ok (.aload_n 0, 1) := by decide +kernel
theorem dX7_turnRefusal_7 : decode cX7_turnRefusal 7 = .ok (.iload_n 1, 1) := by decide +kernel
theorem dX7_turnRefusal_8 : decode cX7_turnRefusal 8 = .ok (.invokevirtual 99, 3) := by decide +kernel
theorem dX7_turnRefusal_11 : decode cX7_turnRefusal 11 = .ok (.ifnull 7, 3) := by decide +kernel
theorem dX7_turnRefusal_14 : decode cX7_turnRefusal 14 = .ok (.aload_n 3, 1) := by decide +kernel
theorem dX7_turnRefusal_15 : decode cX7_turnRefusal 15 = .ok (.ifnonnull 6, 3) := by decide +kernel
theorem dX7_turnRefusal_18 : decode cX7_turnRefusal 18 = .ok (.ldc 70, 2) := by decide +kernel
theorem dX7_turnRefusal_20 : decode cX7_turnRefusal 20 = .ok (.ireturn, 1) := by decide +kernel
theorem dX7_turnRefusal_21 : decode cX7_turnRefusal 21 = .ok (.aload_n 3, 1) := by decide +kernel
theorem dX7_turnRefusal_22 : decode cX7_turnRefusal 22 = .ok (.invokevirtual 194, 3) := by decide +kernel
theorem dX7_turnRefusal_25 : decode cX7_turnRefusal 25 = .ok (.ifCond .eq 8, 3) := by decide +kernel
theorem dX7_turnRefusal_28 : decode cX7_turnRefusal 28 = .ok (.ldc 198, 2) := by decide +kernel
theorem dX7_turnRefusal_30 : decode cX7_turnRefusal 30 = .ok (.goto 4, 3) := by decide +kernel
theorem dX7_turnRefusal_33 : decode cX7_turnRefusal 33 = .ok (.iconst 0, 1) := by decide +kernel
theorem dX7_turnRefusal_34 : decode cX7_turnRefusal 34 = .ok (.ireturn, 1) := by decide +kernel
theorem dX8_init_0 : decode cX8_init 0 = .ok (.aload_n 0, 1) := by decide +kernel
theorem dX8_init_1 : decode cX8_init 1 = .ok (.invokespecial 1, 3) := by decide +kernel
theorem dX8_init_4 : decode cX8_init 4 = .ok (.aload_n 0, 1) := by decide +kernel
theorem dX8_init_5 : decode cX8_init 5 = .ok (.iconst 4, 1) := by decide +kernel
theorem dX8_init_6 : decode cX8_init 6 = .ok (.newarray .int, 2) := by decide +kernel
theorem dX8_init_8 : decode cX8_init 8 = .ok (.putfield 7, 3) := by decide +kernel
theorem dX8_init_11 : decode cX8_init 11 = .ok (.aload_n 0, 1) := by decide +kernel
theorem dX8_init_12 : decode cX8_init 12 = .ok (.bipush 48, 2) := by decide +kernel
theorem dX8_init_14 : decode cX8_init 14 = .ok (.newarray .int, 2) := by decide +kernel
theorem dX8_init_16 : decode cX8_init 16 = .ok (.putfield 13, 3) := by decide +kernel
theorem dX8_init_19 : decode cX8_init 19 = .ok (.aload_n 0, 1) := by decide +kernel
theorem dX8_init_20 : decode cX8_init 20 = .ok (.bipush 48, 2) := by decide +kernel
theorem dX8_init_22 : decode cX8_init 22 = .ok (.newarray .int, 2) := by decide +kernel
theorem dX8_init_24 : decode cX8_init 24 = .ok (.putfield 16, 3) := by decide +kernel
theorem dX8_init_27 : decode cX8_init 27 = .ok (.aload_n 0, 1) := by decide +kernel
theorem dX8_init_28 : decode cX8_init 28 = .ok (.bipush 6, 2) := by decide +kernel
theorem dX8_init_30 : decode cX8_init 30 = .ok (.newarray .int, 2) := by decide +kernel
theorem dX8_init_32 : decode cX8_init 32 = .ok (.putfield 19, 3) := by decide +kernel
theorem dX8_init_35 : decode cX8_init 35 = .ok (.aload_n 0, 1) := by decide +kernel
theorem dX8_init_36 : decode cX8_init 36 = .ok (.sipush 360, 3) := by decide +kernel
theorem dX8_init_39 : decode cX8_init 39 = .ok (.newarray .int, 2) := by decide +kernel
theorem dX8_init_41 : decode cX8_init 41 = .ok (.putfield 22, 3) := by decide +kernel
theorem dX8_init_44 : decode cX8_init 44 = .ok (.aload_n 0, 1) := by decide +kernel
theorem dX8_init_45 : decode cX8_init 45 = .ok (.bipush 8, 2) := by decide +kernel
theorem dX8_init_47 : decode cX8_init 47 = .ok (.newarray .int, 2) := by decide +kernel
theorem dX8_init_49 : decode cX8_init 49 = .ok (.putfield 25, 3) := by decide +kernel
theorem dX8_init_52 : decode cX8_init 52 = .ok (.aload_n 0, 1) := by decide +kernel
theorem dX8_init_53 : decode cX8_init 53 = .ok (.bipush 6, 2) := by decide +kernel
theorem dX8_init_55 : decode cX8_init 55 = .ok (.putfield 28, 3) := by decide +kernel
theorem dX8_init_58 : decode cX8_init 58 = .ok (.aload_n 0, 1) := by decide +kernel
theorem dX8_init_59 : decode cX8_init 59 = .ok (.bipush 20, 2) := by decide +kernel
theorem dX8_init_61 : decode cX8_init 61 = .ok (.newarray .int, 2) := by decide +kernel
theorem dX8_init_63 : decode cX8_init 63 = .ok (.putfield 32, 3) := by decide +kernel
theorem dX8_init_66 : decode cX8_init 66 = .ok (.aload_n 0, 1) := by decide +kernel
theorem dX8_init_67 : decode cX8_init 67 = .ok (.bipush 20, 2) := by decide +kernel
theorem dX8_init_69 : decode cX8_init 69 = .ok (.newarray .int, 2) := by decide +kernel
theorem dX8_init_71 : decode cX8_init 71 = .ok (.putfield 35, 3) := by decide +kernel
theorem dX8_init_74 : decode cX8_init 74 = .ok (.aload_n 0, 1) := by decide +kernel
theorem dX8_init_75 : decode cX8_init 75 = .ok (.bipush 60, 2) := by decide +kernel
theorem dX8_init_77 : decode cX8_init 77 = .ok (.newarray .int, 2) := by decide +kernel
theorem dX8_init_79 : decode cX8_init 79 = .ok (.putfield 38, 3) := by decide +kernel
theorem dX8_init_82 : decode cX8_init 82 = .ok (.aload_n 0, 1) := by decide +kernel
theorem dX8_init_83 : decode cX8_init 83 = .ok (.iconst 2, 1) := by decide +kernel
theorem dX8_init_84 : decode cX8_init 84 = .ok (.newarray .int, 2) := by decide +kernel
theorem dX8_init_86 : decode cX8_init 86 = .ok (.putfield 41, 3) := by decide +kernel
theorem dX8_init_89 : decode cX8_init 89 = .ok (.aload_n 0, 1) := by decide +kernel
theorem dX8_init_90 : decode cX8_init 90 = .ok (.bipush 120, 2) := by decide +kernel
theorem dX8_init_92 : decode cX8_init 92 = .ok (.newarray .int, 2) := by decide +kernel
theorem dX8_init_94 : decode cX8_init 94 = .ok (.putfield 44, 3) := by decide +kernel
theorem dX8_init_97 : decode cX8_init 97 = .ok (.aload_n 0, 1) := by decide +kernel
theorem dX8_init_98 : decode cX8_init 98 = .ok (.bipush 60, 2) := by decide +kernel
theorem dX8_init_100 : decode cX8_init 100 = .ok (.newarray .int, 2) := by decide +kernel
theorem dX8_init_102 : decode cX8_init 102 = .ok (.putfield 47, 3) := by decide +kernel
theorem dX8_init_105 : decode cX8_init 105 = .ok (.aload_n 0, 1) := by decide +kernel
theorem dX8_init_106 : decode cX8_init 106 = .ok (.bipush 61, 2) := by decide +kernel
theorem dX8_init_108 : decode cX8_init 108 = .ok (.newarray .long, 2) := by decide +kernel
theorem dX8_init_110 : decode cX8_init 110 = .ok (.putfield 50, 3) := by decide +kernel
theorem dX8_init_113 : decode cX8_init 113 = .ok (.aload_n 0, 1) := by decide +kernel
theorem dX8_init_114 : decode cX8_init 114 = .ok (.bipush 61, 2) := by decide +kernel
theorem dX8_init_116 : decode cX8_init 116 = .ok (.newarray .int, 2) := by decide +kernel
theorem dX8_init_118 : decode cX8_init 118 = .ok (.putfield 54, 3) := by decide +kernel
theorem dX8_init_121 : decode cX8_init 121 = .ok (.aload_n 0, 1) := by decide +kernel
theorem dX8_init_122 : decode cX8_init 122 = .ok (.sipush 300, 3) := by decide +kernel
theorem dX8_init_125 : decode cX8_init 125 = .ok (.newarray .int, 2) := by decide +kernel
theorem dX8_init_127 : decode cX8_init 127 = .ok (.putfield 57, 3) := by decide +kernel
theorem dX8_init_130 : decode cX8_init 130 = .ok (.aload_n 0, 1) := by decide +kernel
theorem dX8_init_131 : decode cX8_init 131 = .ok (.bipush 60, 2) := by decide +kernel
theorem dX8_init_133 : decode cX8_init 133 = .ok (.newarray .int, 2) := by decide +kernel
theorem dX8_init_135 : decode cX8_init 135 = .ok (.putfield 60, 3) := by decide +kernel
theorem dX8_init_138 : decode cX8_init 138 = .ok (.iconst 0, 1) := by decide +kernel
theorem dX8_init_139 : decode cX8_init 139 = .ok (.istore_n 1, 1) := by decide +kernel
theorem dX8_init_140 : decode cX8_init 140 = .ok (.iload_n 1, 1) := by decide +kernel
theorem dX8_init_141 : decode cX8_init 141 = .ok (.bipush 8, 2) := by decide +kernel
theorem dX8_init_143 : decode cX8_init 143 = .ok (.if_icmp .ge 16, 3) := by decide +kernel
theorem dX8_init_146 : decode cX8_init 146 = .ok (.aload_n 0, 1) := by decide +kernel
theorem dX8_init_147 : decode cX8_init 147 = .ok (.getfield 25, 3) := by decide +kernel
theorem dX8_init_150 : decode cX8_init 150 = .ok (.iload_n 1, 1) := by decide +kernel
theorem dX8_init_151 : decode cX8_init 151 = .ok (.iconst 3, 1) := by decide +kernel
theorem dX8_init_152 : decode cX8_init 152 = .ok (.iastore, 1) := by decide +kernel
theorem dX8_init_153 : decode cX8_init 153 = .ok (.iinc 1 1, 3) := by decide +kernel
theorem dX8_init_156 : decode cX8_init 156 = .ok (.goto (-16), 3) := by decide +kernel
theorem dX8_init_159 : decode cX8_init 159 = .ok (.aload_n 0, 1) := by decide +kernel
theorem dX8_init_160 : decode cX8_init 160 = .ok (.getfield 41, 3) := by decide +kernel
theorem dX8_init_163 : decode cX8_init 163 = .ok (.iconst 0, 1) := by decide +kernel
theorem dX8_init_164 : decode cX8_init 164 = .ok (.iconst (-1), 1) := by decide +kernel
theorem dX8_init_165 : decode cX8_init 165 = .ok (.iastore, 1) := by decide +kernel
theorem dX8_init_166 : decode cX8_init 166 = .ok (.aload_n 0, 1) := by decide +kernel
theorem dX8_init_167 : decode cX8_init 167 = .ok (.getfield 41, 3) := by decide +kernel
theorem dX8_init_170 : decode cX8_init 170 = .ok (.iconst 1, 1) := by decide +kernel
theorem dX8_init_171 : decode cX8_init 171 = .ok (.iconst (-1), 1) := by decide +kernel
theorem dX8_init_172 : decode cX8_init 172 = .ok (.iastore, 1) := by decide +kernel
theorem dX8_init_173 : decode cX8_init 173 = .ok (.return_, 1) := by decide +kernel
theorem dX8_isIn_0 : decode cX8_isIn 0 = .ok (.iload_n 0, 1) := by decide +kernel
theorem dX8_isIn_1 : decode cX8_isIn 1 = .ok (.iload_n 1, 1) := by decide +kernel
theorem dX8_isIn_2 : decode cX8_isIn 2 = .ok (.if_icmp .lt 12, 3) := by decide +kernel
theorem dX8_isIn_5 : decode cX8_isIn 5 = .ok (.iload_n 0, 1) := by decide +kernel
theorem dX8_isIn_6 : decode cX8_isIn 6 = .ok (.iload_n 2, 1) := by decide +kernel
theorem dX8_isIn_7 : decode cX8_isIn 7 = .ok (.if_icmp .gt 7, 3) := by decide +kernel
theorem dX8_isIn_10 : decode cX8_isIn 10 = .ok (.iconst 1, 1) := by decide +kernel
theorem dX8_isIn_11 : decode cX8_isIn 11 = .ok (.goto 4, 3) := by decide +kernel
theorem dX8_isIn_14 : decode cX8_isIn 14 = .ok (.iconst 0, 1) := by decide +kernel
theorem dX8_isIn_15 : decode cX8_isIn 15 = .ok (.ireturn, 1) := by decide +kernel
theorem dX8_isCycle_0 : decode cX8_isCycle 0 = .ok (.iload_n 0, 1) := by decide +kernel
theorem dX8_isCycle_1 : decode cX8_isCycle 1 = .ok (.iconst 0, 1) := by decide +kernel
theorem dX8_isCycle_2 : decode cX8_isCycle 2 = .ok (.iconst 3, 1) := by decide +kernel
theorem dX8_isCycle_3 : decode cX8_isCycle 3 = .ok (.invokestatic 63, 3) := by decide +kernel
theorem dX8_isCycle_6 : decode cX8_isCycle 6 = .ok (.ireturn, 1) := by decide +kernel
theorem dX8_isPhrase_0 : decode cX8_isPhrase 0 = .ok (.iload_n 0, 1) := by decide +kernel
theorem dX8_isPhrase_1 : decode cX8_isPhrase 1 = .ok (.iconst 0, 1) := by decide +kernel
theorem dX8_isPhrase_2 : decode cX8_isPhrase 2 = .ok (.iconst 5, 1) := by decide +kernel
theorem dX8_isPhrase_3 : decode cX8_isPhrase 3 = .ok (.invokestatic 63, 3) := by decide +kernel
theorem dX8_isPhrase_6 : decode cX8_isPhrase 6 = .ok (.ireturn, 1) := by decide +kernel
theorem dX8_isSpeed_0 : decode cX8_isSpeed 0 = .ok (.iload_n 0, 1) := by decide +kernel
theorem dX8_isSpeed_1 : decode cX8_isSpeed 1 = .ok (.iconst 1, 1) := by decide +kernel
theorem dX8_isSpeed_2 : decode cX8_isSpeed 2 = .ok (.if_icmp .eq 30, 3) := by decide +kernel
theorem dX8_isSpeed_5 : decode cX8_isSpeed 5 = .ok (.iload_n 0, 1) := by decide +kernel
theorem dX8_isSpeed_6 : decode cX8_isSpeed 6 = .ok (.iconst 2, 1) := by decide +kernel
theorem dX8_isSpeed_7 : decode cX8_isSpeed 7 = .ok (.if_icmp .eq 25, 3) := by decide +kernel
theorem dX8_isSpeed_10 : decode cX8_isSpeed 10 = .ok (.iload_n 0, 1) := by decide +kernel
theorem dX8_isSpeed_11 : decode cX8_isSpeed 11 = .ok (.iconst 3, 1) := by decide +kernel
theorem dX8_isSpeed_12 : decode cX8_isSpeed 12 = .ok (.if_icmp .eq 20, 3) := by decide +kernel
theorem dX8_isSpeed_15 : decode cX8_isSpeed 15 = .ok (.iload_n 0, 1) := by decide +kernel
theorem dX8_isSpeed_16 : decode cX8_isSpeed 16 = .ok (.iconst 4, 1) := by decide +kernel
theorem dX8_isSpeed_17 : decode cX8_isSpeed 17 = .ok (.if_icmp .eq 15, 3) := by decide +kernel
theorem dX8_isSpeed_20 : decode cX8_isSpeed 20 = .ok (.iload_n 0, 1) := by decide +kernel
theorem dX8_isSpeed_21 : decode cX8_isSpeed 21 = .ok (.bipush 6, 2) := by decide +kernel
theorem dX8_isSpeed_23 : decode cX8_isSpeed 23 = .ok (.if_icmp .eq 9, 3) := by decide +kernel
theorem dX8_isSpeed_26 : decode cX8_isSpeed 26 = .ok (.iload_n 0, 1) := by decide +kernel
theorem dX8_isSpeed_27 : decode cX8_isSpeed 27 = .ok (.bipush 8, 2) := by decide +kernel
theorem dX8_isSpeed_29 : decode cX8_isSpeed 29 = .ok (.if_icmp .ne 7, 3) := by decide +kernel
theorem dX8_isSpeed_32 : decode cX8_isSpeed 32 = .ok (.iconst 1, 1) := by decide +kernel
theorem dX8_isSpeed_33 : decode cX8_isSpeed 33 = .ok (.goto 4, 3) := by decide +kernel
theorem dX8_isSpeed_36 : decode cX8_isSpeed 36 = .ok (.iconst 0, 1) := by decide +kernel
theorem dX8_isSpeed_37 : decode cX8_isSpeed 37 = .ok (.ireturn, 1) := by decide +kernel
theorem dX8_limb_0 : decode cX8_limb 0 = .ok (.iload_n 1, 1) := by decide +kernel
theorem dX8_limb_1 : decode cX8_limb 1 = .ok (.invokestatic 67, 3) := by decide +kernel
theorem dX8_limb_4 : decode cX8_limb 4 = .ok (.ifCond .eq 22, 3) := by decide +kernel
theorem dX8_limb_7 : decode cX8_limb 7 = .ok (.iload_n 2, 1) := by decide +kernel
theorem dX8_limb_8 : decode cX8_limb 8 = .ok (.iconst 0, 1) := by decide +kernel
theorem dX8_limb_9 : decode cX8_limb 9 = .ok (.iconst 3, 1) := by decide +kernel
theorem dX8_limb_10 : decode cX8_limb 10 = .ok (.invokestatic 63, 3) := by decide +kernel
theorem dX8_limb_13 : decode cX8_limb 13 = .ok (.ifCond .eq 13, 3) := by decide +kernel
theorem dX8_limb_16 : decode cX8_limb 16 = .ok (.iload_n 3, 1) := by decide +kernel
theorem dX8_limb_17 : decode cX8_limb 17 = .ok (.iconst 1, 1) := by decide +kernel
theorem dX8_limb_18 : decode cX8_limb 18 = .ok (.bipush 18, 2) := by decide +kernel
theorem dX8_limb_20 : decode cX8_limb 20 = .ok (.invokestatic 63, 3) := by decide +kernel
theorem dX8_limb_23 : decode cX8_limb 23 = .ok (.ifCond .ne 6, 3) := by decide +kernel
theorem dX8_limb_26 : decode cX8_limb 26 = .ok (.ldc 71, 2) := by decide +kernel
theorem dX8_limb_28 : decode cX8_limb 28 = .ok (.ireturn, 1) := by decide +kernel
theorem dX8_limb_29 : decode cX8_limb 29 = .ok (.aload_n 0, 1) := by decide +kernel
theorem dX8_limb_30 : decode cX8_limb 30 = .ok (.getfield 7, 3) := by decide +kernel
theorem dX8_limb_33 : decode cX8_limb 33 = .ok (.iload_n 1, 1) := by decide +kernel
theorem dX8_limb_34 : decode cX8_limb 34 = .ok (.iaload, 1) := by decide +kernel
theorem dX8_limb_35 : decode cX8_limb 35 = .ok (.bipush 12, 2) := by decide +kernel
theorem dX8_limb_37 : decode cX8_limb 37 = .ok (.if_icmp .ne 6, 3) := by decide +kernel
theorem dX8_limb_40 : decode cX8_limb 40 = .ok (.ldc 72, 2) := by decide +kernel
theorem dX8_limb_42 : decode cX8_limb 42 = .ok (.ireturn, 1) := by decide +kernel
theorem dX8_limb_43 : decode cX8_limb 43 = .ok (.bipush 12, 2) := by decide +kernel
theorem dX8_limb_45 : decode cX8_limb 45 = .ok (.iload_n 1, 1) := by decide +kernel
theorem dX8_limb_46 : decode cX8_limb 46 = .ok (.imul, 1) := by decide +kernel
theorem dX8_limb_47 : decode cX8_limb 47 = .ok (.aload_n 0, 1) := by decide +kernel
theorem dX8_limb_48 : decode cX8_limb 48 = .ok (.getfield 7, 3) := by decide +kernel
theorem dX8_limb_51 : decode cX8_limb 51 = .ok (.iload_n 1, 1) := by decide +kernel
theorem dX8_limb_52 : decode cX8_limb 52 = .ok (.iaload, 1) := by decide +kernel
theorem dX8_limb_53 : decode cX8_limb 53 = .ok (.iadd, 1) := by decide +kernel
theorem dX8_limb_54 : decode cX8_limb 54 = .ok (.istore 4, 2) := by decide +kernel
theorem dX8_limb_56 : decode cX8_limb 56 = .ok (.aload_n 0, 1) := by decide +kernel
theorem dX8_limb_57 : decode cX8_limb 57 = .ok (.getfield 13, 3) := by decide +kernel
theorem dX8_limb_60 : decode cX8_limb 60 = .ok (.iload 4, 2) := by decide +kernel
theorem dX8_limb_62 : decode cX8_limb 62 = .ok (.iload_n 2, 1) := by decide +kernel
theorem dX8_limb_63 : decode cX8_limb 63 = .ok (.iastore, 1) := by decide +kernel
theorem dX8_limb_64 : decode cX8_limb 64 = .ok (.aload_n 0, 1) := by decide +kernel
theorem dX8_limb_65 : decode cX8_limb 65 = .ok (.getfield 16, 3) := by decide +kernel
theorem dX8_limb_68 : decode cX8_limb 68 = .ok (.iload 4, 2) := by decide +kernel
theorem dX8_limb_70 : decode cX8_limb 70 = .ok (.iload_n 3, 1) := by decide +kernel
theorem dX8_limb_71 : decode cX8_limb 71 = .ok (.iastore, 1) := by decide +kernel
theorem dX8_limb_72 : decode cX8_limb 72 = .ok (.aload_n 0, 1) := by decide +kernel
theorem dX8_limb_73 : decode cX8_limb 73 = .ok (.getfield 7, 3) := by decide +kernel
theorem dX8_limb_76 : decode cX8_limb 76 = .ok (.iload_n 1, 1) := by decide +kernel
theorem dX8_limb_77 : decode cX8_limb 77 = .ok (.dup2, 1) := by decide +kernel
theorem dX8_limb_78 : decode cX8_limb 78 = .ok (.iaload, 1) := by decide +kernel
theorem dX8_limb_79 : decode cX8_limb 79 = .ok (.iconst 1, 1) := by decide +kernel
theorem dX8_limb_80 : decode cX8_limb 80 = .ok (.iadd, 1) := by decide +kernel
theorem dX8_limb_81 : decode cX8_limb 81 = .ok (.iastore, 1) := by decide +kernel
theorem dX8_limb_82 : decode cX8_limb 82 = .ok (.aload_n 0, 1) := by decide +kernel
theorem dX8_limb_83 : decode cX8_limb 83 = .ok (.getfield 7, 3) := by decide +kernel
theorem dX8_limb_86 : decode cX8_limb 86 = .ok (.iload_n 1, 1) := by decide +kernel
theorem dX8_limb_87 : decode cX8_limb 87 = .ok (.iaload, 1) := by decide +kernel
theorem dX8_limb_88 : decode cX8_limb 88 = .ok (.ireturn, 1) := by decide +kernel
end
section
theorem dX8_isOf_0 : decode cX8_isOf 0 = .ok (.iload_n 1, 1) := by decide +kernel
theorem dX8_isOf_1 : decode cX8_isOf 1 = .ok (.invokestatic 67, 3) := by decide +kernel
theorem dX8_isOf_4 : decode cX8_isOf 4 = .ok (.ifCond .eq 28, 3) := by decide +kernel
theorem dX8_isOf_7 : decode cX8_isOf 7 = .ok (.iload_n 2, 1) := by decide +kernel
theorem dX8_isOf_8 : decode cX8_isOf 8 = .ok (.iconst 0, 1) := by decide +kernel
theorem dX8_isOf_9 : decode cX8_isOf 9 = .ok (.aload_n 0, 1) := by decide +kernel
theorem dX8_isOf_10 : decode cX8_isOf 10 = .ok (.getfield 7, 3) := by decide +kernel
theorem dX8_isOf_13 : decode cX8_isOf 13 = .ok (.iload_n 1, 1) := by decide +kernel
theorem dX8_isOf_14 : decode cX8_isOf 14 = .ok (.iaload, 1) := by decide +kernel
theorem dX8_isOf_15 : decode cX8_isOf 15 = .ok (.iconst 1, 1) := by decide +kernel
theorem dX8_isOf_16 : decode cX8_isOf 16 = .ok (.isub, 1) := by decide +kernel
theorem dX8_isOf_17 : decode cX8_isOf 17 = .ok (.invokestatic 63, 3) := by decide +kernel
theorem dX8_isOf_20 : decode cX8_isOf 20 = .ok (.ifCond .eq 12, 3) := by decide +kernel
theorem dX8_isOf_23 : decode cX8_isOf 23 = .ok (.iload_n 3, 1) := by decide +kernel
theorem dX8_isOf_24 : decode cX8_isOf 24 = .ok (.iconst 0, 1) := by decide +kernel
theorem dX8_isOf_25 : decode cX8_isOf 25 = .ok (.iconst 3, 1) := by decide +kernel
theorem dX8_isOf_26 : decode cX8_isOf 26 = .ok (.invokestatic 63, 3) := by decide +kernel
theorem dX8_isOf_29 : decode cX8_isOf 29 = .ok (.ifCond .ne 6, 3) := by decide +kernel
theorem dX8_isOf_32 : decode cX8_isOf 32 = .ok (.ldc 71, 2) := by decide +kernel
theorem dX8_isOf_34 : decode cX8_isOf 34 = .ok (.ireturn, 1) := by decide +kernel
theorem dX8_isOf_35 : decode cX8_isOf 35 = .ok (.aload_n 0, 1) := by decide +kernel
theorem dX8_isOf_36 : decode cX8_isOf 36 = .ok (.getfield 13, 3) := by decide +kernel
theorem dX8_isOf_39 : decode cX8_isOf 39 = .ok (.bipush 12, 2) := by decide +kernel
theorem dX8_isOf_41 : decode cX8_isOf 41 = .ok (.iload_n 1, 1) := by decide +kernel
theorem dX8_isOf_42 : decode cX8_isOf 42 = .ok (.imul, 1) := by decide +kernel
theorem dX8_isOf_43 : decode cX8_isOf 43 = .ok (.iload_n 2, 1) := by decide +kernel
theorem dX8_isOf_44 : decode cX8_isOf 44 = .ok (.iadd, 1) := by decide +kernel
theorem dX8_isOf_45 : decode cX8_isOf 45 = .ok (.iaload, 1) := by decide +kernel
theorem dX8_isOf_46 : decode cX8_isOf 46 = .ok (.istore 4, 2) := by decide +kernel
theorem dX8_isOf_48 : decode cX8_isOf 48 = .ok (.iload_n 3, 1) := by decide +kernel
theorem dX8_isOf_49 : decode cX8_isOf 49 = .ok (.ifCond .eq 20, 3) := by decide +kernel
theorem dX8_isOf_52 : decode cX8_isOf 52 = .ok (.iload 4, 2) := by decide +kernel
theorem dX8_isOf_54 : decode cX8_isOf 54 = .ok (.iload_n 3, 1) := by decide +kernel
theorem dX8_isOf_55 : decode cX8_isOf 55 = .ok (.if_icmp .eq 14, 3) := by decide +kernel
theorem dX8_isOf_58 : decode cX8_isOf 58 = .ok (.iload_n 3, 1) := by decide +kernel
theorem dX8_isOf_59 : decode cX8_isOf 59 = .ok (.iconst 1, 1) := by decide +kernel
theorem dX8_isOf_60 : decode cX8_isOf 60 = .ok (.if_icmp .ne 13, 3) := by decide +kernel
theorem dX8_isOf_63 : decode cX8_isOf 63 = .ok (.iload 4, 2) := by decide +kernel
theorem dX8_isOf_65 : decode cX8_isOf 65 = .ok (.iconst 3, 1) := by decide +kernel
theorem dX8_isOf_66 : decode cX8_isOf 66 = .ok (.if_icmp .ne 7, 3) := by decide +kernel
theorem dX8_isOf_69 : decode cX8_isOf 69 = .ok (.iconst 1, 1) := by decide +kernel
theorem dX8_isOf_70 : decode cX8_isOf 70 = .ok (.goto 4, 3) := by decide +kernel
theorem dX8_isOf_73 : decode cX8_isOf 73 = .ok (.iconst 0, 1) := by decide +kernel
theorem dX8_isOf_74 : decode cX8_isOf 74 = .ok (.ireturn, 1) := by decide +kernel
theorem dX8_clear_0 : decode cX8_clear 0 = .ok (.iload_n 1, 1) := by decide +kernel
theorem dX8_clear_1 : decode cX8_clear 1 = .ok (.invokestatic 67, 3) := by decide +kernel
theorem dX8_clear_4 : decode cX8_clear 4 = .ok (.ifCond .ne 6, 3) := by decide +kernel
theorem dX8_clear_7 : decode cX8_clear 7 = .ok (.ldc 71, 2) := by decide +kernel
theorem dX8_clear_9 : decode cX8_clear 9 = .ok (.ireturn, 1) := by decide +kernel
theorem dX8_clear_10 : decode cX8_clear 10 = .ok (.aload_n 0, 1) := by decide +kernel
theorem dX8_clear_11 : decode cX8_clear 11 = .ok (.getfield 7, 3) := by decide +kernel
theorem dX8_clear_14 : decode cX8_clear 14 = .ok (.iload_n 1, 1) := by decide +kernel
theorem dX8_clear_15 : decode cX8_clear 15 = .ok (.iaload, 1) := by decide +kernel
theorem dX8_clear_16 : decode cX8_clear 16 = .ok (.istore_n 2, 1) := by decide +kernel
theorem dX8_clear_17 : decode cX8_clear 17 = .ok (.aload_n 0, 1) := by decide +kernel
theorem dX8_clear_18 : decode cX8_clear 18 = .ok (.getfield 7, 3) := by decide +kernel
theorem dX8_clear_21 : decode cX8_clear 21 = .ok (.iload_n 1, 1) := by decide +kernel
theorem dX8_clear_22 : decode cX8_clear 22 = .ok (.iconst 0, 1) := by decide +kernel
theorem dX8_clear_23 : decode cX8_clear 23 = .ok (.iastore, 1) := by decide +kernel
theorem dX8_clear_24 : decode cX8_clear 24 = .ok (.iload_n 2, 1) := by decide +kernel
theorem dX8_clear_25 : decode cX8_clear 25 = .ok (.ireturn, 1) := by decide +kernel
theorem dX8_lengthOf_0 : decode cX8_lengthOf 0 = .ok (.iconst 0, 1) := by decide +kernel
theorem dX8_lengthOf_1 : decode cX8_lengthOf 1 = .ok (.istore_n 2, 1) := by decide +kernel
theorem dX8_lengthOf_2 : decode cX8_lengthOf 2 = .ok (.iconst 0, 1) := by decide +kernel
theorem dX8_lengthOf_3 : decode cX8_lengthOf 3 = .ok (.istore_n 3, 1) := by decide +kernel
theorem dX8_lengthOf_4 : decode cX8_lengthOf 4 = .ok (.iload_n 3, 1) := by decide +kernel
theorem dX8_lengthOf_5 : decode cX8_lengthOf 5 = .ok (.aload_n 0, 1) := by decide +kernel
theorem dX8_lengthOf_6 : decode cX8_lengthOf 6 = .ok (.getfield 7, 3) := by decide +kernel
theorem dX8_lengthOf_9 : decode cX8_lengthOf 9 = .ok (.iload_n 1, 1) := by decide +kernel
theorem dX8_lengthOf_10 : decode cX8_lengthOf 10 = .ok (.iaload, 1) := by decide +kernel
theorem dX8_lengthOf_11 : decode cX8_lengthOf 11 = .ok (.if_icmp .ge 26, 3) := by decide +kernel
theorem dX8_lengthOf_14 : decode cX8_lengthOf 14 = .ok (.iload_n 2, 1) := by decide +kernel
theorem dX8_lengthOf_15 : decode cX8_lengthOf 15 = .ok (.bipush 12, 2) := by decide +kernel
theorem dX8_lengthOf_17 : decode cX8_lengthOf 17 = .ok (.aload_n 0, 1) := by decide +kernel
theorem dX8_lengthOf_18 : decode cX8_lengthOf 18 = .ok (.getfield 16, 3) := by decide +kernel
theorem dX8_lengthOf_21 : decode cX8_lengthOf 21 = .ok (.bipush 12, 2) := by decide +kernel
theorem dX8_lengthOf_23 : decode cX8_lengthOf 23 = .ok (.iload_n 1, 1) := by decide +kernel
theorem dX8_lengthOf_24 : decode cX8_lengthOf 24 = .ok (.imul, 1) := by decide +kernel
theorem dX8_lengthOf_25 : decode cX8_lengthOf 25 = .ok (.iload_n 3, 1) := by decide +kernel
theorem dX8_lengthOf_26 : decode cX8_lengthOf 26 = .ok (.iadd, 1) := by decide +kernel
theorem dX8_lengthOf_27 : decode cX8_lengthOf 27 = .ok (.iaload, 1) := by decide +kernel
theorem dX8_lengthOf_28 : decode cX8_lengthOf 28 = .ok (.imul, 1) := by decide +kernel
theorem dX8_lengthOf_29 : decode cX8_lengthOf 29 = .ok (.iadd, 1) := by decide +kernel
theorem dX8_lengthOf_30 : decode cX8_lengthOf 30 = .ok (.istore_n 2, 1) := by decide +kernel
theorem dX8_lengthOf_31 : decode cX8_lengthOf 31 = .ok (.iinc 3 1, 3) := by decide +kernel
theorem dX8_lengthOf_34 : decode cX8_lengthOf 34 = .ok (.goto (-30), 3) := by decide +kernel
theorem dX8_lengthOf_37 : decode cX8_lengthOf 37 = .ok (.iload_n 2, 1) := by decide +kernel
theorem dX8_lengthOf_38 : decode cX8_lengthOf 38 = .ok (.ireturn, 1) := by decide +kernel
theorem dX8_length_0 : decode cX8_length 0 = .ok (.iload_n 1, 1) := by decide +kernel
theorem dX8_length_1 : decode cX8_length 1 = .ok (.invokestatic 67, 3) := by decide +kernel
theorem dX8_length_4 : decode cX8_length 4 = .ok (.ifCond .eq 11, 3) := by decide +kernel
theorem dX8_length_7 : decode cX8_length 7 = .ok (.aload_n 0, 1) := by decide +kernel
theorem dX8_length_8 : decode cX8_length 8 = .ok (.iload_n 1, 1) := by decide +kernel
theorem dX8_length_9 : decode cX8_length 9 = .ok (.invokevirtual 73, 3) := by decide +kernel
theorem dX8_length_12 : decode cX8_length 12 = .ok (.goto 5, 3) := by decide +kernel
theorem dX8_length_15 : decode cX8_length 15 = .ok (.ldc 71, 2) := by decide +kernel
theorem dX8_length_17 : decode cX8_length 17 = .ok (.ireturn, 1) := by decide +kernel
theorem dX8_handling_0 : decode cX8_handling 0 = .ok (.iload_n 1, 1) := by decide +kernel
theorem dX8_handling_1 : decode cX8_handling 1 = .ok (.invokestatic 67, 3) := by decide +kernel
theorem dX8_handling_4 : decode cX8_handling 4 = .ok (.ifCond .eq 7, 3) := by decide +kernel
theorem dX8_handling_7 : decode cX8_handling 7 = .ok (.iload_n 2, 1) := by decide +kernel
theorem dX8_handling_8 : decode cX8_handling 8 = .ok (.ifCond .ge 6, 3) := by decide +kernel
theorem dX8_handling_11 : decode cX8_handling 11 = .ok (.ldc 71, 2) := by decide +kernel
theorem dX8_handling_13 : decode cX8_handling 13 = .ok (.ireturn, 1) := by decide +kernel
theorem dX8_handling_14 : decode cX8_handling 14 = .ok (.aload_n 0, 1) := by decide +kernel
theorem dX8_handling_15 : decode cX8_handling 15 = .ok (.getfield 7, 3) := by decide +kernel
theorem dX8_handling_18 : decode cX8_handling 18 = .ok (.iload_n 1, 1) := by decide +kernel
theorem dX8_handling_19 : decode cX8_handling 19 = .ok (.iaload, 1) := by decide +kernel
theorem dX8_handling_20 : decode cX8_handling 20 = .ok (.ifCond .ne 6, 3) := by decide +kernel
theorem dX8_handling_23 : decode cX8_handling 23 = .ok (.ldc 77, 2) := by decide +kernel
theorem dX8_handling_25 : decode cX8_handling 25 = .ok (.ireturn, 1) := by decide +kernel
theorem dX8_handling_26 : decode cX8_handling 26 = .ok (.iload_n 2, 1) := by decide +kernel
theorem dX8_handling_27 : decode cX8_handling 27 = .ok (.aload_n 0, 1) := by decide +kernel
theorem dX8_handling_28 : decode cX8_handling 28 = .ok (.iload_n 1, 1) := by decide +kernel
theorem dX8_handling_29 : decode cX8_handling 29 = .ok (.invokevirtual 73, 3) := by decide +kernel
theorem dX8_handling_32 : decode cX8_handling 32 = .ok (.irem, 1) := by decide +kernel
theorem dX8_handling_33 : decode cX8_handling 33 = .ok (.istore_n 3, 1) := by decide +kernel
theorem dX8_handling_34 : decode cX8_handling 34 = .ok (.iconst 0, 1) := by decide +kernel
theorem dX8_handling_35 : decode cX8_handling 35 = .ok (.istore 4, 2) := by decide +kernel
theorem dX8_handling_37 : decode cX8_handling 37 = .ok (.iload_n 3, 1) := by decide +kernel
theorem dX8_handling_38 : decode cX8_handling 38 = .ok (.bipush 12, 2) := by decide +kernel
theorem dX8_handling_40 : decode cX8_handling 40 = .ok (.aload_n 0, 1) := by decide +kernel
theorem dX8_handling_41 : decode cX8_handling 41 = .ok (.getfield 16, 3) := by decide +kernel
theorem dX8_handling_44 : decode cX8_handling 44 = .ok (.bipush 12, 2) := by decide +kernel
theorem dX8_handling_46 : decode cX8_handling 46 = .ok (.iload_n 1, 1) := by decide +kernel
theorem dX8_handling_47 : decode cX8_handling 47 = .ok (.imul, 1) := by decide +kernel
theorem dX8_handling_48 : decode cX8_handling 48 = .ok (.iload 4, 2) := by decide +kernel
theorem dX8_handling_50 : decode cX8_handling 50 = .ok (.iadd, 1) := by decide +kernel
theorem dX8_handling_51 : decode cX8_handling 51 = .ok (.iaload, 1) := by decide +kernel
theorem dX8_handling_52 : decode cX8_handling 52 = .ok (.imul, 1) := by decide +kernel
theorem dX8_handling_53 : decode cX8_handling 53 = .ok (.if_icmp .lt 27, 3) := by decide +kernel
theorem dX8_handling_56 : decode cX8_handling 56 = .ok (.iload_n 3, 1) := by decide +kernel
theorem dX8_handling_57 : decode cX8_handling 57 = .ok (.bipush 12, 2) := by decide +kernel
theorem dX8_handling_59 : decode cX8_handling 59 = .ok (.aload_n 0, 1) := by decide +kernel
theorem dX8_handling_60 : decode cX8_handling 60 = .ok (.getfield 16, 3) := by decide +kernel
theorem dX8_handling_63 : decode cX8_handling 63 = .ok (.bipush 12, 2) := by decide +kernel
theorem dX8_handling_65 : decode cX8_handling 65 = .ok (.iload_n 1, 1) := by decide +kernel
theorem dX8_handling_66 : decode cX8_handling 66 = .ok (.imul, 1) := by decide +kernel
theorem dX8_handling_67 : decode cX8_handling 67 = .ok (.iload 4, 2) := by decide +kernel
theorem dX8_handling_69 : decode cX8_handling 69 = .ok (.iadd, 1) := by decide +kernel
theorem dX8_handling_70 : decode cX8_handling 70 = .ok (.iaload, 1) := by decide +kernel
theorem dX8_handling_71 : decode cX8_handling 71 = .ok (.imul, 1) := by decide +kernel
theorem dX8_handling_72 : decode cX8_handling 72 = .ok (.isub, 1) := by decide +kernel
theorem dX8_handling_73 : decode cX8_handling 73 = .ok (.istore_n 3, 1) := by decide +kernel
theorem dX8_handling_74 : decode cX8_handling 74 = .ok (.iinc 4 1, 3) := by decide +kernel
theorem dX8_handling_77 : decode cX8_handling 77 = .ok (.goto (-40), 3) := by decide +kernel
theorem dX8_handling_80 : decode cX8_handling 80 = .ok (.aload_n 0, 1) := by decide +kernel
theorem dX8_handling_81 : decode cX8_handling 81 = .ok (.getfield 13, 3) := by decide +kernel
theorem dX8_handling_84 : decode cX8_handling 84 = .ok (.bipush 12, 2) := by decide +kernel
theorem dX8_handling_86 : decode cX8_handling 86 = .ok (.iload_n 1, 1) := by decide +kernel
theorem dX8_handling_87 : decode cX8_handling 87 = .ok (.imul, 1) := by decide +kernel
theorem dX8_handling_88 : decode cX8_handling 88 = .ok (.iload 4, 2) := by decide +kernel
theorem dX8_handling_90 : decode cX8_handling 90 = .ok (.iadd, 1) := by decide +kernel
theorem dX8_handling_91 : decode cX8_handling 91 = .ok (.iaload, 1) := by decide +kernel
theorem dX8_handling_92 : decode cX8_handling 92 = .ok (.istore 5, 2) := by decide +kernel
theorem dX8_handling_94 : decode cX8_handling 94 = .ok (.iconst 0, 1) := by decide +kernel
theorem dX8_handling_95 : decode cX8_handling 95 = .ok (.istore 6, 2) := by decide +kernel
theorem dX8_handling_97 : decode cX8_handling 97 = .ok (.iload_n 3, 1) := by decide +kernel
theorem dX8_handling_98 : decode cX8_handling 98 = .ok (.ifCond .ne 28, 3) := by decide +kernel
theorem dX8_handling_101 : decode cX8_handling 101 = .ok (.iload 5, 2) := by decide +kernel
theorem dX8_handling_103 : decode cX8_handling 103 = .ok (.iconst 2, 1) := by decide +kernel
theorem dX8_handling_104 : decode cX8_handling 104 = .ok (.if_icmp .ne 7, 3) := by decide +kernel
theorem dX8_handling_107 : decode cX8_handling 107 = .ok (.iconst 2, 1) := by decide +kernel
theorem dX8_handling_108 : decode cX8_handling 108 = .ok (.goto 13, 3) := by decide +kernel
theorem dX8_handling_111 : decode cX8_handling 111 = .ok (.iload 5, 2) := by decide +kernel
theorem dX8_handling_113 : decode cX8_handling 113 = .ok (.ifCond .ne 7, 3) := by decide +kernel
theorem dX8_handling_116 : decode cX8_handling 116 = .ok (.iconst 0, 1) := by decide +kernel
theorem dX8_handling_117 : decode cX8_handling 117 = .ok (.goto 4, 3) := by decide +kernel
theorem dX8_handling_120 : decode cX8_handling 120 = .ok (.iconst 1, 1) := by decide +kernel
theorem dX8_handling_121 : decode cX8_handling 121 = .ok (.istore 6, 2) := by decide +kernel
theorem dX8_handling_123 : decode cX8_handling 123 = .ok (.goto 41, 3) := by decide +kernel
theorem dX8_handling_126 : decode cX8_handling 126 = .ok (.iload 5, 2) := by decide +kernel
theorem dX8_handling_128 : decode cX8_handling 128 = .ok (.iconst 3, 1) := by decide +kernel
theorem dX8_handling_129 : decode cX8_handling 129 = .ok (.if_icmp .ne 35, 3) := by decide +kernel
theorem dX8_handling_132 : decode cX8_handling 132 = .ok (.iload_n 3, 1) := by decide +kernel
theorem dX8_handling_133 : decode cX8_handling 133 = .ok (.bipush 24, 2) := by decide +kernel
theorem dX8_handling_135 : decode cX8_handling 135 = .ok (.irem, 1) := by decide +kernel
theorem dX8_handling_136 : decode cX8_handling 136 = .ok (.ifCond .ne 28, 3) := by decide +kernel
theorem dX8_handling_139 : decode cX8_handling 139 = .ok (.iload_n 3, 1) := by decide +kernel
theorem dX8_handling_140 : decode cX8_handling 140 = .ok (.bipush 24, 2) := by decide +kernel
theorem dX8_handling_142 : decode cX8_handling 142 = .ok (.iadd, 1) := by decide +kernel
theorem dX8_handling_143 : decode cX8_handling 143 = .ok (.bipush 12, 2) := by decide +kernel
theorem dX8_handling_145 : decode cX8_handling 145 = .ok (.aload_n 0, 1) := by decide +kernel
theorem dX8_handling_146 : decode cX8_handling 146 = .ok (.getfield 16, 3) := by decide +kernel
theorem dX8_handling_149 : decode cX8_handling 149 = .ok (.bipush 12, 2) := by decide +kernel
theorem dX8_handling_151 : decode cX8_handling 151 = .ok (.iload_n 1, 1) := by decide +kernel
theorem dX8_handling_152 : decode cX8_handling 152 = .ok (.imul, 1) := by decide +kernel
theorem dX8_handling_153 : decode cX8_handling 153 = .ok (.iload 4, 2) := by decide +kernel
theorem dX8_handling_155 : decode cX8_handling 155 = .ok (.iadd, 1) := by decide +kernel
theorem dX8_handling_156 : decode cX8_handling 156 = .ok (.iaload, 1) := by decide +kernel
theorem dX8_handling_157 : decode cX8_handling 157 = .ok (.imul, 1) := by decide +kernel
theorem dX8_handling_158 : decode cX8_handling 158 = .ok (.if_icmp .gt 6, 3) := by decide +kernel
theorem dX8_handling_161 : decode cX8_handling 161 = .ok (.iconst 3, 1) := by decide +kernel
theorem dX8_handling_162 : decode cX8_handling 162 = .ok (.istore 6, 2) := by decide +kernel
theorem dX8_handling_164 : decode cX8_handling 164 = .ok (.bipush 10, 2) := by decide +kernel
theorem dX8_handling_166 : decode cX8_handling 166 = .ok (.iload 4, 2) := by decide +kernel
theorem dX8_handling_168 : decode cX8_handling 168 = .ok (.imul, 1) := by decide +kernel
theorem dX8_handling_169 : decode cX8_handling 169 = .ok (.iload 6, 2) := by decide +kernel
theorem dX8_handling_171 : decode cX8_handling 171 = .ok (.iadd, 1) := by decide +kernel
theorem dX8_handling_172 : decode cX8_handling 172 = .ok (.ireturn, 1) := by decide +kernel
theorem dX8_four_0 : decode cX8_four 0 = .ok (.bipush 24, 2) := by decide +kernel
theorem dX8_four_2 : decode cX8_four 2 = .ok (.istore_n 2, 1) := by decide +kernel
theorem dX8_four_3 : decode cX8_four 3 = .ok (.iload_n 2, 1) := by decide +kernel
theorem dX8_four_4 : decode cX8_four 4 = .ok (.ifCond .lt 35, 3) := by decide +kernel
theorem dX8_four_7 : decode cX8_four 7 = .ok (.aload_n 0, 1) := by decide +kernel
theorem dX8_four_8 : decode cX8_four 8 = .ok (.getfield 38, 3) := by decide +kernel
theorem dX8_four_11 : decode cX8_four 11 = .ok (.aload_n 0, 1) := by decide +kernel
theorem dX8_four_12 : decode cX8_four 12 = .ok (.getfield 78, 3) := by decide +kernel
theorem dX8_four_15 : decode cX8_four 15 = .ok (.iload_n 1, 1) := by decide +kernel
theorem dX8_four_16 : decode cX8_four 16 = .ok (.iload_n 2, 1) := by decide +kernel
theorem dX8_four_17 : decode cX8_four 17 = .ok (.ishr, 1) := by decide +kernel
theorem dX8_four_18 : decode cX8_four 18 = .ok (.sipush 255, 3) := by decide +kernel
theorem dX8_four_21 : decode cX8_four 21 = .ok (.iand, 1) := by decide +kernel
theorem dX8_four_22 : decode cX8_four 22 = .ok (.iastore, 1) := by decide +kernel
theorem dX8_four_23 : decode cX8_four 23 = .ok (.aload_n 0, 1) := by decide +kernel
theorem dX8_four_24 : decode cX8_four 24 = .ok (.dup, 1) := by decide +kernel
theorem dX8_four_25 : decode cX8_four 25 = .ok (.getfield 78, 3) := by decide +kernel
theorem dX8_four_28 : decode cX8_four 28 = .ok (.iconst 1, 1) := by decide +kernel
theorem dX8_four_29 : decode cX8_four 29 = .ok (.iadd, 1) := by decide +kernel
theorem dX8_four_30 : decode cX8_four 30 = .ok (.putfield 78, 3) := by decide +kernel
theorem dX8_four_33 : decode cX8_four 33 = .ok (.iinc 2 (-8), 3) := by decide +kernel
theorem dX8_four_36 : decode cX8_four 36 = .ok (.goto (-33), 3) := by decide +kernel
theorem dX8_four_39 : decode cX8_four 39 = .ok (.return_, 1) := by decide +kernel
theorem dX8_feed_0 : decode cX8_feed 0 = .ok (.aload_n 0, 1) := by decide +kernel
theorem dX8_feed_1 : decode cX8_feed 1 = .ok (.getfield 78, 3) := by decide +kernel
theorem dX8_feed_4 : decode cX8_feed 4 = .ok (.bipush 12, 2) := by decide +kernel
theorem dX8_feed_6 : decode cX8_feed 6 = .ok (.iadd, 1) := by decide +kernel
theorem dX8_feed_7 : decode cX8_feed 7 = .ok (.bipush 60, 2) := by decide +kernel
theorem dX8_feed_9 : decode cX8_feed 9 = .ok (.if_icmp .le 6, 3) := by decide +kernel
theorem dX8_feed_12 : decode cX8_feed 12 = .ok (.ldc 72, 2) := by decide +kernel
theorem dX8_feed_14 : decode cX8_feed 14 = .ok (.ireturn, 1) := by decide +kernel
theorem dX8_feed_15 : decode cX8_feed 15 = .ok (.aload_n 0, 1) := by decide +kernel
theorem dX8_feed_16 : decode cX8_feed 16 = .ok (.iload_n 1, 1) := by decide +kernel
theorem dX8_feed_17 : decode cX8_feed 17 = .ok (.invokevirtual 81, 3) := by decide +kernel
theorem dX8_feed_20 : decode cX8_feed 20 = .ok (.aload_n 0, 1) := by decide +kernel
theorem dX8_feed_21 : decode cX8_feed 21 = .ok (.iload_n 2, 1) := by decide +kernel
theorem dX8_feed_22 : decode cX8_feed 22 = .ok (.invokevirtual 81, 3) := by decide +kernel
theorem dX8_feed_25 : decode cX8_feed 25 = .ok (.aload_n 0, 1) := by decide +kernel
theorem dX8_feed_26 : decode cX8_feed 26 = .ok (.iload_n 3, 1) := by decide +kernel
theorem dX8_feed_27 : decode cX8_feed 27 = .ok (.invokevirtual 81, 3) := by decide +kernel
theorem dX8_feed_30 : decode cX8_feed 30 = .ok (.aload_n 0, 1) := by decide +kernel
theorem dX8_feed_31 : decode cX8_feed 31 = .ok (.getfield 78, 3) := by decide +kernel
theorem dX8_feed_34 : decode cX8_feed 34 = .ok (.ireturn, 1) := by decide +kernel
theorem dX8_trim_0 : decode cX8_trim 0 = .ok (.iload_n 1, 1) := by decide +kernel
theorem dX8_trim_1 : decode cX8_trim 1 = .ok (.iconst 0, 1) := by decide +kernel
theorem dX8_trim_2 : decode cX8_trim 2 = .ok (.aload_n 0, 1) := by decide +kernel
theorem dX8_trim_3 : decode cX8_trim 3 = .ok (.getfield 78, 3) := by decide +kernel
theorem dX8_trim_6 : decode cX8_trim 6 = .ok (.invokestatic 63, 3) := by decide +kernel
theorem dX8_trim_9 : decode cX8_trim 9 = .ok (.ifCond .ne 6, 3) := by decide +kernel
theorem dX8_trim_12 : decode cX8_trim 12 = .ok (.ldc 71, 2) := by decide +kernel
theorem dX8_trim_14 : decode cX8_trim 14 = .ok (.ireturn, 1) := by decide +kernel
theorem dX8_trim_15 : decode cX8_trim 15 = .ok (.aload_n 0, 1) := by decide +kernel
theorem dX8_trim_16 : decode cX8_trim 16 = .ok (.iload_n 1, 1) := by decide +kernel
theorem dX8_trim_17 : decode cX8_trim 17 = .ok (.putfield 78, 3) := by decide +kernel
theorem dX8_trim_20 : decode cX8_trim 20 = .ok (.iload_n 1, 1) := by decide +kernel
theorem dX8_trim_21 : decode cX8_trim 21 = .ok (.ireturn, 1) := by decide +kernel
theorem dX8_here_0 : decode cX8_here 0 = .ok (.aload_n 0, 1) := by decide +kernel
theorem dX8_here_1 : decode cX8_here 1 = .ok (.getfield 85, 3) := by decide +kernel
theorem dX8_here_4 : decode cX8_here 4 = .ok (.aload_n 0, 1) := by decide +kernel
theorem dX8_here_5 : decode cX8_here 5 = .ok (.getfield 78, 3) := by decide +kernel
theorem dX8_here_8 : decode cX8_here 8 = .ok (.if_icmp .ge 15, 3) := by decide +kernel
theorem dX8_here_11 : decode cX8_here 11 = .ok (.aload_n 0, 1) := by decide +kernel
theorem dX8_here_12 : decode cX8_here 12 = .ok (.getfield 38, 3) := by decide +kernel
theorem dX8_here_15 : decode cX8_here 15 = .ok (.aload_n 0, 1) := by decide +kernel
theorem dX8_here_16 : decode cX8_here 16 = .ok (.getfield 85, 3) := by decide +kernel
theorem dX8_here_19 : decode cX8_here 19 = .ok (.iaload, 1) := by decide +kernel
theorem dX8_here_20 : decode cX8_here 20 = .ok (.goto 4, 3) := by decide +kernel
theorem dX8_here_23 : decode cX8_here 23 = .ok (.iconst (-1), 1) := by decide +kernel
theorem dX8_here_24 : decode cX8_here 24 = .ok (.ireturn, 1) := by decide +kernel
theorem dX8_item_0 : decode cX8_item 0 = .ok (.iconst 1, 1) := by decide +kernel
theorem dX8_item_1 : decode cX8_item 1 = .ok (.istore_n 3, 1) := by decide +kernel
theorem dX8_item_2 : decode cX8_item 2 = .ok (.aload_n 0, 1) := by decide +kernel
theorem dX8_item_3 : decode cX8_item 3 = .ok (.invokevirtual 88, 3) := by decide +kernel
theorem dX8_item_6 : decode cX8_item 6 = .ok (.bipush 50, 2) := by decide +kernel
theorem dX8_item_8 : decode cX8_item 8 = .ok (.bipush 57, 2) := by decide +kernel
theorem dX8_item_10 : decode cX8_item 10 = .ok (.invokestatic 63, 3) := by decide +kernel
theorem dX8_item_13 : decode cX8_item 13 = .ok (.ifCond .eq 41, 3) := by decide +kernel
theorem dX8_item_16 : decode cX8_item 16 = .ok (.iload_n 3, 1) := by decide +kernel
theorem dX8_item_17 : decode cX8_item 17 = .ok (.aload_n 0, 1) := by decide +kernel
theorem dX8_item_18 : decode cX8_item 18 = .ok (.invokevirtual 88, 3) := by decide +kernel
theorem dX8_item_21 : decode cX8_item 21 = .ok (.bipush 48, 2) := by decide +kernel
theorem dX8_item_23 : decode cX8_item 23 = .ok (.isub, 1) := by decide +kernel
theorem dX8_item_24 : decode cX8_item 24 = .ok (.imul, 1) := by decide +kernel
theorem dX8_item_25 : decode cX8_item 25 = .ok (.istore_n 3, 1) := by decide +kernel
theorem dX8_item_26 : decode cX8_item 26 = .ok (.iload_n 3, 1) := by decide +kernel
theorem dX8_item_27 : decode cX8_item 27 = .ok (.sipush 1000, 3) := by decide +kernel
theorem dX8_item_30 : decode cX8_item 30 = .ok (.if_icmp .le 9, 3) := by decide +kernel
theorem dX8_item_33 : decode cX8_item 33 = .ok (.sipush 1000, 3) := by decide +kernel
theorem dX8_item_36 : decode cX8_item 36 = .ok (.goto 4, 3) := by decide +kernel
theorem dX8_item_39 : decode cX8_item 39 = .ok (.iload_n 3, 1) := by decide +kernel
theorem dX8_item_40 : decode cX8_item 40 = .ok (.istore_n 3, 1) := by decide +kernel
theorem dX8_item_41 : decode cX8_item 41 = .ok (.aload_n 0, 1) := by decide +kernel
theorem dX8_item_42 : decode cX8_item 42 = .ok (.dup, 1) := by decide +kernel
theorem dX8_item_43 : decode cX8_item 43 = .ok (.getfield 85, 3) := by decide +kernel
theorem dX8_item_46 : decode cX8_item 46 = .ok (.iconst 1, 1) := by decide +kernel
theorem dX8_item_47 : decode cX8_item 47 = .ok (.iadd, 1) := by decide +kernel
theorem dX8_item_48 : decode cX8_item 48 = .ok (.putfield 85, 3) := by decide +kernel
theorem dX8_item_51 : decode cX8_item 51 = .ok (.goto (-49), 3) := by decide +kernel
theorem dX8_item_54 : decode cX8_item 54 = .ok (.iconst 1, 1) := by decide +kernel
theorem dX8_item_55 : decode cX8_item 55 = .ok (.istore 4, 2) := by decide +kernel
theorem dX8_item_57 : decode cX8_item 57 = .ok (.aload_n 0, 1) := by decide +kernel
theorem dX8_item_58 : decode cX8_item 58 = .ok (.invokevirtual 88, 3) := by decide +kernel
theorem dX8_item_61 : decode cX8_item 61 = .ok (.bipush 40, 2) := by decide +kernel
theorem dX8_item_63 : decode cX8_item 63 = .ok (.if_icmp .ne 57, 3) := by decide +kernel
theorem dX8_item_66 : decode cX8_item 66 = .ok (.iload_n 2, 1) := by decide +kernel
theorem dX8_item_67 : decode cX8_item 67 = .ok (.bipush 6, 2) := by decide +kernel
theorem dX8_item_69 : decode cX8_item 69 = .ok (.if_icmp .ge 51, 3) := by decide +kernel
theorem dX8_item_72 : decode cX8_item 72 = .ok (.aload_n 0, 1) := by decide +kernel
theorem dX8_item_73 : decode cX8_item 73 = .ok (.dup, 1) := by decide +kernel
theorem dX8_item_74 : decode cX8_item 74 = .ok (.getfield 85, 3) := by decide +kernel
theorem dX8_item_77 : decode cX8_item 77 = .ok (.iconst 1, 1) := by decide +kernel
theorem dX8_item_78 : decode cX8_item 78 = .ok (.iadd, 1) := by decide +kernel
theorem dX8_item_79 : decode cX8_item 79 = .ok (.putfield 85, 3) := by decide +kernel
theorem dX8_item_82 : decode cX8_item 82 = .ok (.aload_n 0, 1) := by decide +kernel
theorem dX8_item_83 : decode cX8_item 83 = .ok (.iload_n 1, 1) := by decide +kernel
theorem dX8_item_84 : decode cX8_item 84 = .ok (.iload_n 2, 1) := by decide +kernel
theorem dX8_item_85 : decode cX8_item 85 = .ok (.iconst 1, 1) := by decide +kernel
theorem dX8_item_86 : decode cX8_item 86 = .ok (.iadd, 1) := by decide +kernel
theorem dX8_item_87 : decode cX8_item 87 = .ok (.invokevirtual 92, 3) := by decide +kernel
theorem dX8_item_90 : decode cX8_item 90 = .ok (.istore 4, 2) := by decide +kernel
theorem dX8_item_92 : decode cX8_item 92 = .ok (.aload_n 0, 1) := by decide +kernel
theorem dX8_item_93 : decode cX8_item 93 = .ok (.aload_n 0, 1) := by decide +kernel
theorem dX8_item_94 : decode cX8_item 94 = .ok (.getfield 96, 3) := by decide +kernel
theorem dX8_item_97 : decode cX8_item 97 = .ok (.ifCond .ne 12, 3) := by decide +kernel
theorem dX8_item_100 : decode cX8_item 100 = .ok (.aload_n 0, 1) := by decide +kernel
theorem dX8_item_101 : decode cX8_item 101 = .ok (.invokevirtual 88, 3) := by decide +kernel
theorem dX8_item_104 : decode cX8_item 104 = .ok (.bipush 41, 2) := by decide +kernel
theorem dX8_item_106 : decode cX8_item 106 = .ok (.if_icmp .eq 7, 3) := by decide +kernel
theorem dX8_item_109 : decode cX8_item 109 = .ok (.iconst 1, 1) := by decide +kernel
theorem dX8_item_110 : decode cX8_item 110 = .ok (.goto 4, 3) := by decide +kernel
theorem dX8_item_113 : decode cX8_item 113 = .ok (.iconst 0, 1) := by decide +kernel
theorem dX8_item_114 : decode cX8_item 114 = .ok (.putfield 96, 3) := by decide +kernel
theorem dX8_item_117 : decode cX8_item 117 = .ok (.goto 90, 3) := by decide +kernel
theorem dX8_item_120 : decode cX8_item 120 = .ok (.aload_n 0, 1) := by decide +kernel
theorem dX8_item_121 : decode cX8_item 121 = .ok (.invokevirtual 88, 3) := by decide +kernel
theorem dX8_item_124 : decode cX8_item 124 = .ok (.bipush 45, 2) := by decide +kernel
theorem dX8_item_126 : decode cX8_item 126 = .ok (.if_icmp .ne 7, 3) := by decide +kernel
theorem dX8_item_129 : decode cX8_item 129 = .ok (.iconst 1, 1) := by decide +kernel
theorem dX8_item_130 : decode cX8_item 130 = .ok (.goto 4, 3) := by decide +kernel
theorem dX8_item_133 : decode cX8_item 133 = .ok (.iconst 0, 1) := by decide +kernel
theorem dX8_item_134 : decode cX8_item 134 = .ok (.istore 5, 2) := by decide +kernel
theorem dX8_item_136 : decode cX8_item 136 = .ok (.aload_n 0, 1) := by decide +kernel
theorem dX8_item_137 : decode cX8_item 137 = .ok (.aload_n 0, 1) := by decide +kernel
theorem dX8_item_138 : decode cX8_item 138 = .ok (.getfield 96, 3) := by decide +kernel
theorem dX8_item_141 : decode cX8_item 141 = .ok (.ifCond .ne 22, 3) := by decide +kernel
theorem dX8_item_144 : decode cX8_item 144 = .ok (.iload 5, 2) := by decide +kernel
theorem dX8_item_146 : decode cX8_item 146 = .ok (.ifCond .ne 21, 3) := by decide +kernel
theorem dX8_item_149 : decode cX8_item 149 = .ok (.aload_n 0, 1) := by decide +kernel
theorem dX8_item_150 : decode cX8_item 150 = .ok (.invokevirtual 88, 3) := by decide +kernel
theorem dX8_item_153 : decode cX8_item 153 = .ok (.bipush 97, 2) := by decide +kernel
theorem dX8_item_155 : decode cX8_item 155 = .ok (.bipush 104, 2) := by decide +kernel
theorem dX8_item_157 : decode cX8_item 157 = .ok (.invokestatic 63, 3) := by decide +kernel
theorem dX8_item_160 : decode cX8_item 160 = .ok (.ifCond .ne 7, 3) := by decide +kernel
theorem dX8_item_163 : decode cX8_item 163 = .ok (.iconst 1, 1) := by decide +kernel
theorem dX8_item_164 : decode cX8_item 164 = .ok (.goto 4, 3) := by decide +kernel
theorem dX8_item_167 : decode cX8_item 167 = .ok (.iconst 0, 1) := by decide +kernel
theorem dX8_item_168 : decode cX8_item 168 = .ok (.putfield 96, 3) := by decide +kernel
theorem dX8_item_171 : decode cX8_item 171 = .ok (.aload_n 0, 1) := by decide +kernel
theorem dX8_item_172 : decode cX8_item 172 = .ok (.getfield 96, 3) := by decide +kernel
theorem dX8_item_175 : decode cX8_item 175 = .ok (.ifCond .ne 32, 3) := by decide +kernel
theorem dX8_item_178 : decode cX8_item 178 = .ok (.iload_n 1, 1) := by decide +kernel
theorem dX8_item_179 : decode cX8_item 179 = .ok (.bipush 60, 2) := by decide +kernel
theorem dX8_item_181 : decode cX8_item 181 = .ok (.if_icmp .ge 26, 3) := by decide +kernel
theorem dX8_item_184 : decode cX8_item 184 = .ok (.aload_n 0, 1) := by decide +kernel
theorem dX8_item_185 : decode cX8_item 185 = .ok (.getfield 47, 3) := by decide +kernel
theorem dX8_item_188 : decode cX8_item 188 = .ok (.iload_n 1, 1) := by decide +kernel
theorem dX8_item_189 : decode cX8_item 189 = .ok (.iload 5, 2) := by decide +kernel
theorem dX8_item_191 : decode cX8_item 191 = .ok (.ifCond .eq 8, 3) := by decide +kernel
theorem dX8_item_194 : decode cX8_item 194 = .ok (.bipush 8, 2) := by decide +kernel
theorem dX8_item_196 : decode cX8_item 196 = .ok (.goto 10, 3) := by decide +kernel
theorem dX8_item_199 : decode cX8_item 199 = .ok (.aload_n 0, 1) := by decide +kernel
theorem dX8_item_200 : decode cX8_item 200 = .ok (.invokevirtual 88, 3) := by decide +kernel
theorem dX8_item_203 : decode cX8_item 203 = .ok (.bipush 97, 2) := by decide +kernel
theorem dX8_item_205 : decode cX8_item 205 = .ok (.isub, 1) := by decide +kernel
theorem dX8_item_206 : decode cX8_item 206 = .ok (.iastore, 1) := by decide +kernel
theorem dX8_item_207 : decode cX8_item 207 = .ok (.aload_n 0, 1) := by decide +kernel
theorem dX8_item_208 : decode cX8_item 208 = .ok (.getfield 96, 3) := by decide +kernel
theorem dX8_item_211 : decode cX8_item 211 = .ok (.ifCond .eq 5, 3) := by decide +kernel
theorem dX8_item_214 : decode cX8_item 214 = .ok (.iconst 0, 1) := by decide +kernel
theorem dX8_item_215 : decode cX8_item 215 = .ok (.ireturn, 1) := by decide +kernel
theorem dX8_item_216 : decode cX8_item 216 = .ok (.aload_n 0, 1) := by decide +kernel
theorem dX8_item_217 : decode cX8_item 217 = .ok (.dup, 1) := by decide +kernel
theorem dX8_item_218 : decode cX8_item 218 = .ok (.getfield 85, 3) := by decide +kernel
theorem dX8_item_221 : decode cX8_item 221 = .ok (.iconst 1, 1) := by decide +kernel
theorem dX8_item_222 : decode cX8_item 222 = .ok (.iadd, 1) := by decide +kernel
theorem dX8_item_223 : decode cX8_item 223 = .ok (.putfield 85, 3) := by decide +kernel
theorem dX8_item_226 : decode cX8_item 226 = .ok (.iload 4, 2) := by decide +kernel
theorem dX8_item_228 : decode cX8_item 228 = .ok (.istore 5, 2) := by decide +kernel
theorem dX8_item_230 : decode cX8_item 230 = .ok (.iload 5, 2) := by decide +kernel
theorem dX8_item_232 : decode cX8_item 232 = .ok (.iload 4, 2) := by decide +kernel
theorem dX8_item_234 : decode cX8_item 234 = .ok (.iload_n 3, 1) := by decide +kernel
theorem dX8_item_235 : decode cX8_item 235 = .ok (.imul, 1) := by decide +kernel
theorem dX8_item_236 : decode cX8_item 236 = .ok (.if_icmp .ge 39, 3) := by decide +kernel
theorem dX8_item_239 : decode cX8_item 239 = .ok (.iload_n 1, 1) := by decide +kernel
theorem dX8_item_240 : decode cX8_item 240 = .ok (.iload 5, 2) := by decide +kernel
theorem dX8_item_242 : decode cX8_item 242 = .ok (.iadd, 1) := by decide +kernel
theorem dX8_item_243 : decode cX8_item 243 = .ok (.bipush 60, 2) := by decide +kernel
theorem dX8_item_245 : decode cX8_item 245 = .ok (.if_icmp .ge 30, 3) := by decide +kernel
theorem dX8_item_248 : decode cX8_item 248 = .ok (.aload_n 0, 1) := by decide +kernel
theorem dX8_item_249 : decode cX8_item 249 = .ok (.getfield 47, 3) := by decide +kernel
theorem dX8_item_252 : decode cX8_item 252 = .ok (.iload_n 1, 1) := by decide +kernel
theorem dX8_item_253 : decode cX8_item 253 = .ok (.iload 5, 2) := by decide +kernel
theorem dX8_item_255 : decode cX8_item 255 = .ok (.iadd, 1) := by decide +kernel
theorem dX8_item_256 : decode cX8_item 256 = .ok (.aload_n 0, 1) := by decide +kernel
theorem dX8_item_257 : decode cX8_item 257 = .ok (.getfield 47, 3) := by decide +kernel
theorem dX8_item_260 : decode cX8_item 260 = .ok (.iload_n 1, 1) := by decide +kernel
theorem dX8_item_261 : decode cX8_item 261 = .ok (.iload 5, 2) := by decide +kernel
theorem dX8_item_263 : decode cX8_item 263 = .ok (.iadd, 1) := by decide +kernel
theorem dX8_item_264 : decode cX8_item 264 = .ok (.iload 4, 2) := by decide +kernel
theorem dX8_item_266 : decode cX8_item 266 = .ok (.isub, 1) := by decide +kernel
theorem dX8_item_267 : decode cX8_item 267 = .ok (.iaload, 1) := by decide +kernel
theorem dX8_item_268 : decode cX8_item 268 = .ok (.iastore, 1) := by decide +kernel
theorem dX8_item_269 : decode cX8_item 269 = .ok (.iinc 5 1, 3) := by decide +kernel
theorem dX8_item_272 : decode cX8_item 272 = .ok (.goto (-42), 3) := by decide +kernel
theorem dX8_item_275 : decode cX8_item 275 = .ok (.iload 4, 2) := by decide +kernel
theorem dX8_item_277 : decode cX8_item 277 = .ok (.iload_n 3, 1) := by decide +kernel
theorem dX8_item_278 : decode cX8_item 278 = .ok (.imul, 1) := by decide +kernel
theorem dX8_item_279 : decode cX8_item 279 = .ok (.sipush 1000, 3) := by decide +kernel
theorem dX8_item_282 : decode cX8_item 282 = .ok (.if_icmp .le 9, 3) := by decide +kernel
theorem dX8_item_285 : decode cX8_item 285 = .ok (.sipush 1000, 3) := by decide +kernel
theorem dX8_item_288 : decode cX8_item 288 = .ok (.goto 7, 3) := by decide +kernel
theorem dX8_item_291 : decode cX8_item 291 = .ok (.iload 4, 2) := by decide +kernel
theorem dX8_item_293 : decode cX8_item 293 = .ok (.iload_n 3, 1) := by decide +kernel
theorem dX8_item_294 : decode cX8_item 294 = .ok (.imul, 1) := by decide +kernel
theorem dX8_item_295 : decode cX8_item 295 = .ok (.ireturn, 1) := by decide +kernel
theorem dX8_row_0 : decode cX8_row 0 = .ok (.iconst 0, 1) := by decide +kernel
theorem dX8_row_1 : decode cX8_row 1 = .ok (.istore_n 3, 1) := by decide +kernel
theorem dX8_row_2 : decode cX8_row 2 = .ok (.iconst 1, 1) := by decide +kernel
theorem dX8_row_3 : decode cX8_row 3 = .ok (.istore 4, 2) := by decide +kernel
theorem dX8_row_5 : decode cX8_row 5 = .ok (.iload 4, 2) := by decide +kernel
theorem dX8_row_7 : decode cX8_row 7 = .ok (.ifCond .eq 90, 3) := by decide +kernel
theorem dX8_row_10 : decode cX8_row 10 = .ok (.iload_n 3, 1) := by decide +kernel
theorem dX8_row_11 : decode cX8_row 11 = .ok (.aload_n 0, 1) := by decide +kernel
theorem dX8_row_12 : decode cX8_row 12 = .ok (.iload_n 1, 1) := by decide +kernel
theorem dX8_row_13 : decode cX8_row 13 = .ok (.iload_n 3, 1) := by decide +kernel
theorem dX8_row_14 : decode cX8_row 14 = .ok (.iadd, 1) := by decide +kernel
theorem dX8_row_15 : decode cX8_row 15 = .ok (.iload_n 2, 1) := by decide +kernel
theorem dX8_row_16 : decode cX8_row 16 = .ok (.invokevirtual 100, 3) := by decide +kernel
theorem dX8_row_19 : decode cX8_row 19 = .ok (.iadd, 1) := by decide +kernel
theorem dX8_row_20 : decode cX8_row 20 = .ok (.istore_n 3, 1) := by decide +kernel
theorem dX8_row_21 : decode cX8_row 21 = .ok (.iload_n 3, 1) := by decide +kernel
theorem dX8_row_22 : decode cX8_row 22 = .ok (.sipush 1000, 3) := by decide +kernel
theorem dX8_row_25 : decode cX8_row 25 = .ok (.if_icmp .le 9, 3) := by decide +kernel
theorem dX8_row_28 : decode cX8_row 28 = .ok (.sipush 1000, 3) := by decide +kernel
theorem dX8_row_31 : decode cX8_row 31 = .ok (.goto 4, 3) := by decide +kernel
theorem dX8_row_34 : decode cX8_row 34 = .ok (.iload_n 3, 1) := by decide +kernel
theorem dX8_row_35 : decode cX8_row 35 = .ok (.istore_n 3, 1) := by decide +kernel
theorem dX8_row_36 : decode cX8_row 36 = .ok (.aload_n 0, 1) := by decide +kernel
theorem dX8_row_37 : decode cX8_row 37 = .ok (.invokevirtual 88, 3) := by decide +kernel
theorem dX8_row_40 : decode cX8_row 40 = .ok (.istore 5, 2) := by decide +kernel
theorem dX8_row_42 : decode cX8_row 42 = .ok (.aload_n 0, 1) := by decide +kernel
theorem dX8_row_43 : decode cX8_row 43 = .ok (.getfield 96, 3) := by decide +kernel
theorem dX8_row_46 : decode cX8_row 46 = .ok (.ifCond .ne 45, 3) := by decide +kernel
theorem dX8_row_49 : decode cX8_row 49 = .ok (.iload 5, 2) := by decide +kernel
theorem dX8_row_51 : decode cX8_row 51 = .ok (.bipush 50, 2) := by decide +kernel
theorem dX8_row_53 : decode cX8_row 53 = .ok (.bipush 57, 2) := by decide +kernel
theorem dX8_row_55 : decode cX8_row 55 = .ok (.invokestatic 63, 3) := by decide +kernel
theorem dX8_row_58 : decode cX8_row 58 = .ok (.ifCond .ne 29, 3) := by decide +kernel
theorem dX8_row_61 : decode cX8_row 61 = .ok (.iload 5, 2) := by decide +kernel
theorem dX8_row_63 : decode cX8_row 63 = .ok (.bipush 97, 2) := by decide +kernel
theorem dX8_row_65 : decode cX8_row 65 = .ok (.bipush 104, 2) := by decide +kernel
theorem dX8_row_67 : decode cX8_row 67 = .ok (.invokestatic 63, 3) := by decide +kernel
theorem dX8_row_70 : decode cX8_row 70 = .ok (.ifCond .ne 17, 3) := by decide +kernel
theorem dX8_row_73 : decode cX8_row 73 = .ok (.iload 5, 2) := by decide +kernel
theorem dX8_row_75 : decode cX8_row 75 = .ok (.bipush 45, 2) := by decide +kernel
theorem dX8_row_77 : decode cX8_row 77 = .ok (.if_icmp .eq 10, 3) := by decide +kernel
theorem dX8_row_80 : decode cX8_row 80 = .ok (.iload 5, 2) := by decide +kernel
theorem dX8_row_82 : decode cX8_row 82 = .ok (.bipush 40, 2) := by decide +kernel
theorem dX8_row_84 : decode cX8_row 84 = .ok (.if_icmp .ne 7, 3) := by decide +kernel
theorem dX8_row_87 : decode cX8_row 87 = .ok (.iconst 1, 1) := by decide +kernel
theorem dX8_row_88 : decode cX8_row 88 = .ok (.goto 4, 3) := by decide +kernel
theorem dX8_row_91 : decode cX8_row 91 = .ok (.iconst 0, 1) := by decide +kernel
theorem dX8_row_92 : decode cX8_row 92 = .ok (.istore 4, 2) := by decide +kernel
theorem dX8_row_94 : decode cX8_row 94 = .ok (.goto (-89), 3) := by decide +kernel
theorem dX8_row_97 : decode cX8_row 97 = .ok (.iload_n 3, 1) := by decide +kernel
theorem dX8_row_98 : decode cX8_row 98 = .ok (.ireturn, 1) := by decide +kernel
theorem dX8_phrase_0 : decode cX8_phrase 0 = .ok (.aload_n 0, 1) := by decide +kernel
theorem dX8_phrase_1 : decode cX8_phrase 1 = .ok (.iconst 0, 1) := by decide +kernel
theorem dX8_phrase_2 : decode cX8_phrase 2 = .ok (.putfield 85, 3) := by decide +kernel
theorem dX8_phrase_5 : decode cX8_phrase 5 = .ok (.aload_n 0, 1) := by decide +kernel
theorem dX8_phrase_6 : decode cX8_phrase 6 = .ok (.iconst 0, 1) := by decide +kernel
theorem dX8_phrase_7 : decode cX8_phrase 7 = .ok (.putfield 96, 3) := by decide +kernel
theorem dX8_phrase_10 : decode cX8_phrase 10 = .ok (.aload_n 0, 1) := by decide +kernel
theorem dX8_phrase_11 : decode cX8_phrase 11 = .ok (.iconst 0, 1) := by decide +kernel
theorem dX8_phrase_12 : decode cX8_phrase 12 = .ok (.iconst 0, 1) := by decide +kernel
theorem dX8_phrase_13 : decode cX8_phrase 13 = .ok (.invokevirtual 92, 3) := by decide +kernel
theorem dX8_phrase_16 : decode cX8_phrase 16 = .ok (.istore_n 2, 1) := by decide +kernel
theorem dX8_phrase_17 : decode cX8_phrase 17 = .ok (.aload_n 0, 1) := by decide +kernel
theorem dX8_phrase_18 : decode cX8_phrase 18 = .ok (.getfield 96, 3) := by decide +kernel
theorem dX8_phrase_21 : decode cX8_phrase 21 = .ok (.ifCond .ne 18, 3) := by decide +kernel
theorem dX8_phrase_24 : decode cX8_phrase 24 = .ok (.aload_n 0, 1) := by decide +kernel
theorem dX8_phrase_25 : decode cX8_phrase 25 = .ok (.getfield 85, 3) := by decide +kernel
theorem dX8_phrase_28 : decode cX8_phrase 28 = .ok (.aload_n 0, 1) := by decide +kernel
theorem dX8_phrase_29 : decode cX8_phrase 29 = .ok (.getfield 78, 3) := by decide +kernel
theorem dX8_phrase_32 : decode cX8_phrase 32 = .ok (.if_icmp .ne 7, 3) := by decide +kernel
theorem dX8_phrase_35 : decode cX8_phrase 35 = .ok (.iconst 1, 1) := by decide +kernel
theorem dX8_phrase_36 : decode cX8_phrase 36 = .ok (.goto 4, 3) := by decide +kernel
theorem dX8_phrase_39 : decode cX8_phrase 39 = .ok (.iconst 0, 1) := by decide +kernel
theorem dX8_phrase_40 : decode cX8_phrase 40 = .ok (.istore_n 3, 1) := by decide +kernel
theorem dX8_phrase_41 : decode cX8_phrase 41 = .ok (.aload_n 0, 1) := by decide +kernel
theorem dX8_phrase_42 : decode cX8_phrase 42 = .ok (.getfield 85, 3) := by decide +kernel
theorem dX8_phrase_45 : decode cX8_phrase 45 = .ok (.istore 4, 2) := by decide +kernel
theorem dX8_phrase_47 : decode cX8_phrase 47 = .ok (.aload_n 0, 1) := by decide +kernel
theorem dX8_phrase_48 : decode cX8_phrase 48 = .ok (.iconst 0, 1) := by decide +kernel
theorem dX8_phrase_49 : decode cX8_phrase 49 = .ok (.putfield 78, 3) := by decide +kernel
theorem dX8_phrase_52 : decode cX8_phrase 52 = .ok (.iload_n 1, 1) := by decide +kernel
theorem dX8_phrase_53 : decode cX8_phrase 53 = .ok (.invokestatic 103, 3) := by decide +kernel
theorem dX8_phrase_56 : decode cX8_phrase 56 = .ok (.ifCond .ne 6, 3) := by decide +kernel
theorem dX8_phrase_59 : decode cX8_phrase 59 = .ok (.ldc 71, 2) := by decide +kernel
theorem dX8_phrase_61 : decode cX8_phrase 61 = .ok (.ireturn, 1) := by decide +kernel
theorem dX8_phrase_62 : decode cX8_phrase 62 = .ok (.iload_n 3, 1) := by decide +kernel
theorem dX8_phrase_63 : decode cX8_phrase 63 = .ok (.ifCond .ne 9, 3) := by decide +kernel
theorem dX8_phrase_66 : decode cX8_phrase 66 = .ok (.bipush (-100), 2) := by decide +kernel
theorem dX8_phrase_68 : decode cX8_phrase 68 = .ok (.iload 4, 2) := by decide +kernel
theorem dX8_phrase_70 : decode cX8_phrase 70 = .ok (.isub, 1) := by decide +kernel
theorem dX8_phrase_71 : decode cX8_phrase 71 = .ok (.ireturn, 1) := by decide +kernel
theorem dX8_phrase_72 : decode cX8_phrase 72 = .ok (.iload_n 2, 1) := by decide +kernel
theorem dX8_phrase_73 : decode cX8_phrase 73 = .ok (.bipush 60, 2) := by decide +kernel
theorem dX8_phrase_75 : decode cX8_phrase 75 = .ok (.if_icmp .le 6, 3) := by decide +kernel
theorem dX8_phrase_78 : decode cX8_phrase 78 = .ok (.ldc 72, 2) := by decide +kernel
theorem dX8_phrase_80 : decode cX8_phrase 80 = .ok (.ireturn, 1) := by decide +kernel
theorem dX8_phrase_81 : decode cX8_phrase 81 = .ok (.aload_n 0, 1) := by decide +kernel
theorem dX8_phrase_82 : decode cX8_phrase 82 = .ok (.getfield 19, 3) := by decide +kernel
theorem dX8_phrase_85 : decode cX8_phrase 85 = .ok (.iload_n 1, 1) := by decide +kernel
theorem dX8_phrase_86 : decode cX8_phrase 86 = .ok (.iload_n 2, 1) := by decide +kernel
theorem dX8_phrase_87 : decode cX8_phrase 87 = .ok (.iastore, 1) := by decide +kernel
theorem dX8_phrase_88 : decode cX8_phrase 88 = .ok (.iconst 0, 1) := by decide +kernel
theorem dX8_phrase_89 : decode cX8_phrase 89 = .ok (.istore 5, 2) := by decide +kernel
theorem dX8_phrase_91 : decode cX8_phrase 91 = .ok (.iload 5, 2) := by decide +kernel
theorem dX8_phrase_93 : decode cX8_phrase 93 = .ok (.iload_n 2, 1) := by decide +kernel
theorem dX8_phrase_94 : decode cX8_phrase 94 = .ok (.if_icmp .ge 28, 3) := by decide +kernel
theorem dX8_phrase_97 : decode cX8_phrase 97 = .ok (.aload_n 0, 1) := by decide +kernel
theorem dX8_phrase_98 : decode cX8_phrase 98 = .ok (.getfield 22, 3) := by decide +kernel
theorem dX8_phrase_101 : decode cX8_phrase 101 = .ok (.bipush 60, 2) := by decide +kernel
theorem dX8_phrase_103 : decode cX8_phrase 103 = .ok (.iload_n 1, 1) := by decide +kernel
theorem dX8_phrase_104 : decode cX8_phrase 104 = .ok (.imul, 1) := by decide +kernel
theorem dX8_phrase_105 : decode cX8_phrase 105 = .ok (.iload 5, 2) := by decide +kernel
theorem dX8_phrase_107 : decode cX8_phrase 107 = .ok (.iadd, 1) := by decide +kernel
theorem dX8_phrase_108 : decode cX8_phrase 108 = .ok (.aload_n 0, 1) := by decide +kernel
theorem dX8_phrase_109 : decode cX8_phrase 109 = .ok (.getfield 47, 3) := by decide +kernel
theorem dX8_phrase_112 : decode cX8_phrase 112 = .ok (.iload 5, 2) := by decide +kernel
theorem dX8_phrase_114 : decode cX8_phrase 114 = .ok (.iaload, 1) := by decide +kernel
theorem dX8_phrase_115 : decode cX8_phrase 115 = .ok (.iastore, 1) := by decide +kernel
theorem dX8_phrase_116 : decode cX8_phrase 116 = .ok (.iinc 5 1, 3) := by decide +kernel
theorem dX8_phrase_119 : decode cX8_phrase 119 = .ok (.goto (-28), 3) := by decide +kernel
theorem dX8_phrase_122 : decode cX8_phrase 122 = .ok (.iload_n 2, 1) := by decide +kernel
theorem dX8_phrase_123 : decode cX8_phrase 123 = .ok (.ireturn, 1) := by decide +kernel
theorem dX8_syllable_0 : decode cX8_syllable 0 = .ok (.iload_n 1, 1) := by decide +kernel
theorem dX8_syllable_1 : decode cX8_syllable 1 = .ok (.invokestatic 103, 3) := by decide +kernel
theorem dX8_syllable_4 : decode cX8_syllable 4 = .ok (.ifCond .eq 7, 3) := by decide +kernel
theorem dX8_syllable_7 : decode cX8_syllable 7 = .ok (.iload_n 2, 1) := by decide +kernel
theorem dX8_syllable_8 : decode cX8_syllable 8 = .ok (.ifCond .ge 6, 3) := by decide +kernel
theorem dX8_syllable_11 : decode cX8_syllable 11 = .ok (.ldc 71, 2) := by decide +kernel
theorem dX8_syllable_13 : decode cX8_syllable 13 = .ok (.ireturn, 1) := by decide +kernel
theorem dX8_syllable_14 : decode cX8_syllable 14 = .ok (.iload_n 2, 1) := by decide +kernel
theorem dX8_syllable_15 : decode cX8_syllable 15 = .ok (.aload_n 0, 1) := by decide +kernel
theorem dX8_syllable_16 : decode cX8_syllable 16 = .ok (.getfield 19, 3) := by decide +kernel
theorem dX8_syllable_19 : decode cX8_syllable 19 = .ok (.iload_n 1, 1) := by decide +kernel
theorem dX8_syllable_20 : decode cX8_syllable 20 = .ok (.iaload, 1) := by decide +kernel
theorem dX8_syllable_21 : decode cX8_syllable 21 = .ok (.if_icmp .ge 17, 3) := by decide +kernel
theorem dX8_syllable_24 : decode cX8_syllable 24 = .ok (.aload_n 0, 1) := by decide +kernel
theorem dX8_syllable_25 : decode cX8_syllable 25 = .ok (.getfield 22, 3) := by decide +kernel
theorem dX8_syllable_28 : decode cX8_syllable 28 = .ok (.bipush 60, 2) := by decide +kernel
theorem dX8_syllable_30 : decode cX8_syllable 30 = .ok (.iload_n 1, 1) := by decide +kernel
theorem dX8_syllable_31 : decode cX8_syllable 31 = .ok (.imul, 1) := by decide +kernel
theorem dX8_syllable_32 : decode cX8_syllable 32 = .ok (.iload_n 2, 1) := by decide +kernel
theorem dX8_syllable_33 : decode cX8_syllable 33 = .ok (.iadd, 1) := by decide +kernel
theorem dX8_syllable_34 : decode cX8_syllable 34 = .ok (.iaload, 1) := by decide +kernel
theorem dX8_syllable_35 : decode cX8_syllable 35 = .ok (.goto 5, 3) := by decide +kernel
theorem dX8_syllable_38 : decode cX8_syllable 38 = .ok (.ldc 106, 2) := by decide +kernel
theorem dX8_syllable_40 : decode cX8_syllable 40 = .ok (.ireturn, 1) := by decide +kernel
theorem dX8_ticksOf_0 : decode cX8_ticksOf 0 = .ok (.aload_n 0, 1) := by decide +kernel
theorem dX8_ticksOf_1 : decode cX8_ticksOf 1 = .ok (.getfield 19, 3) := by decide +kernel
theorem dX8_ticksOf_4 : decode cX8_ticksOf 4 = .ok (.iload_n 1, 1) := by decide +kernel
theorem dX8_ticksOf_5 : decode cX8_ticksOf 5 = .ok (.iaload, 1) := by decide +kernel
theorem dX8_ticksOf_6 : decode cX8_ticksOf 6 = .ok (.bipush 24, 2) := by decide +kernel
theorem dX8_ticksOf_8 : decode cX8_ticksOf 8 = .ok (.iload_n 2, 1) := by decide +kernel
theorem dX8_ticksOf_9 : decode cX8_ticksOf 9 = .ok (.idiv, 1) := by decide +kernel
theorem dX8_ticksOf_10 : decode cX8_ticksOf 10 = .ok (.imul, 1) := by decide +kernel
theorem dX8_ticksOf_11 : decode cX8_ticksOf 11 = .ok (.ireturn, 1) := by decide +kernel
theorem dX8_ticks_0 : decode cX8_ticks 0 = .ok (.iload_n 1, 1) := by decide +kernel
theorem dX8_ticks_1 : decode cX8_ticks 1 = .ok (.invokestatic 103, 3) := by decide +kernel
theorem dX8_ticks_4 : decode cX8_ticks 4 = .ok (.ifCond .eq 19, 3) := by decide +kernel
theorem dX8_ticks_7 : decode cX8_ticks 7 = .ok (.iload_n 2, 1) := by decide +kernel
theorem dX8_ticks_8 : decode cX8_ticks 8 = .ok (.invokestatic 107, 3) := by decide +kernel
theorem dX8_ticks_11 : decode cX8_ticks 11 = .ok (.ifCond .eq 12, 3) := by decide +kernel
theorem dX8_ticks_14 : decode cX8_ticks 14 = .ok (.aload_n 0, 1) := by decide +kernel
theorem dX8_ticks_15 : decode cX8_ticks 15 = .ok (.iload_n 1, 1) := by decide +kernel
theorem dX8_ticks_16 : decode cX8_ticks 16 = .ok (.iload_n 2, 1) := by decide +kernel
theorem dX8_ticks_17 : decode cX8_ticks 17 = .ok (.invokevirtual 110, 3) := by decide +kernel
theorem dX8_ticks_20 : decode cX8_ticks 20 = .ok (.goto 5, 3) := by decide +kernel
theorem dX8_ticks_23 : decode cX8_ticks 23 = .ok (.ldc 71, 2) := by decide +kernel
theorem dX8_ticks_25 : decode cX8_ticks 25 = .ok (.ireturn, 1) := by decide +kernel
theorem dX8_refused_0 : decode cX8_refused 0 = .ok (.iload_n 1, 1) := by decide +kernel
theorem dX8_refused_1 : decode cX8_refused 1 = .ok (.invokestatic 67, 3) := by decide +kernel
theorem dX8_refused_4 : decode cX8_refused 4 = .ok (.ifCond .eq 32, 3) := by decide +kernel
theorem dX8_refused_7 : decode cX8_refused 7 = .ok (.iload_n 2, 1) := by decide +kernel
theorem dX8_refused_8 : decode cX8_refused 8 = .ok (.invokestatic 103, 3) := by decide +kernel
theorem dX8_refused_11 : decode cX8_refused 11 = .ok (.ifCond .eq 25, 3) := by decide +kernel
theorem dX8_refused_14 : decode cX8_refused 14 = .ok (.iload_n 3, 1) := by decide +kernel
theorem dX8_refused_15 : decode cX8_refused 15 = .ok (.ifCond .lt 21, 3) := by decide +kernel
theorem dX8_refused_18 : decode cX8_refused 18 = .ok (.iload_n 3, 1) := by decide +kernel
theorem dX8_refused_19 : decode cX8_refused 19 = .ok (.bipush 10, 2) := by decide +kernel
theorem dX8_refused_21 : decode cX8_refused 21 = .ok (.irem, 1) := by decide +kernel
theorem dX8_refused_22 : decode cX8_refused 22 = .ok (.iconst 1, 1) := by decide +kernel
theorem dX8_refused_23 : decode cX8_refused 23 = .ok (.if_icmp .gt 13, 3) := by decide +kernel
theorem dX8_refused_26 : decode cX8_refused 26 = .ok (.iload_n 3, 1) := by decide +kernel
theorem dX8_refused_27 : decode cX8_refused 27 = .ok (.bipush 10, 2) := by decide +kernel
theorem dX8_refused_29 : decode cX8_refused 29 = .ok (.idiv, 1) := by decide +kernel
theorem dX8_refused_30 : decode cX8_refused 30 = .ok (.invokestatic 107, 3) := by decide +kernel
theorem dX8_refused_33 : decode cX8_refused 33 = .ok (.ifCond .ne 6, 3) := by decide +kernel
theorem dX8_refused_36 : decode cX8_refused 36 = .ok (.ldc 71, 2) := by decide +kernel
theorem dX8_refused_38 : decode cX8_refused 38 = .ok (.ireturn, 1) := by decide +kernel
theorem dX8_refused_39 : decode cX8_refused 39 = .ok (.aload_n 0, 1) := by decide +kernel
theorem dX8_refused_40 : decode cX8_refused 40 = .ok (.getfield 7, 3) := by decide +kernel
theorem dX8_refused_43 : decode cX8_refused 43 = .ok (.iload_n 1, 1) := by decide +kernel
theorem dX8_refused_44 : decode cX8_refused 44 = .ok (.iaload, 1) := by decide +kernel
theorem dX8_refused_45 : decode cX8_refused 45 = .ok (.ifCond .eq 12, 3) := by decide +kernel
theorem dX8_refused_48 : decode cX8_refused 48 = .ok (.aload_n 0, 1) := by decide +kernel
theorem dX8_refused_49 : decode cX8_refused 49 = .ok (.getfield 19, 3) := by decide +kernel
theorem dX8_refused_52 : decode cX8_refused 52 = .ok (.iload_n 2, 1) := by decide +kernel
theorem dX8_refused_53 : decode cX8_refused 53 = .ok (.iaload, 1) := by decide +kernel
theorem dX8_refused_54 : decode cX8_refused 54 = .ok (.ifCond .ne 8, 3) := by decide +kernel
theorem dX8_refused_57 : decode cX8_refused 57 = .ok (.ldc 77, 2) := by decide +kernel
theorem dX8_refused_59 : decode cX8_refused 59 = .ok (.goto 4, 3) := by decide +kernel
theorem dX8_refused_62 : decode cX8_refused 62 = .ok (.iconst 0, 1) := by decide +kernel
theorem dX8_refused_63 : decode cX8_refused 63 = .ok (.ireturn, 1) := by decide +kernel
theorem dX8_till_0 : decode cX8_till 0 = .ok (.ldc2_w 113, 3) := by decide +kernel
theorem dX8_till_3 : decode cX8_till 3 = .ok (.aload_n 0, 1) := by decide +kernel
theorem dX8_till_4 : decode cX8_till 4 = .ok (.iload_n 1, 1) := by decide +kernel
theorem dX8_till_5 : decode cX8_till 5 = .ok (.iload_n 2, 1) := by decide +kernel
theorem dX8_till_6 : decode cX8_till 6 = .ok (.bipush 10, 2) := by decide +kernel
theorem dX8_till_8 : decode cX8_till 8 = .ok (.idiv, 1) := by decide +kernel
theorem dX8_till_9 : decode cX8_till 9 = .ok (.invokevirtual 110, 3) := by decide +kernel
theorem dX8_till_12 : decode cX8_till 12 = .ok (.i2l, 1) := by decide +kernel
theorem dX8_till_13 : decode cX8_till 13 = .ok (.lmul, 1) := by decide +kernel
theorem dX8_till_14 : decode cX8_till 14 = .ok (.ldc2_w 115, 3) := by decide +kernel
theorem dX8_till_17 : decode cX8_till 17 = .ok (.iload_n 3, 1) := by decide +kernel
theorem dX8_till_18 : decode cX8_till 18 = .ok (.i2l, 1) := by decide +kernel
theorem dX8_till_19 : decode cX8_till 19 = .ok (.lmul, 1) := by decide +kernel
theorem dX8_till_20 : decode cX8_till 20 = .ok (.ladd, 1) := by decide +kernel
theorem dX8_till_21 : decode cX8_till 21 = .ok (.lstore 4, 2) := by decide +kernel
theorem dX8_till_23 : decode cX8_till 23 = .ok (.iload_n 2, 1) := by decide +kernel
theorem dX8_till_24 : decode cX8_till 24 = .ok (.bipush 10, 2) := by decide +kernel
theorem dX8_till_26 : decode cX8_till 26 = .ok (.irem, 1) := by decide +kernel
theorem dX8_till_27 : decode cX8_till 27 = .ok (.iconst 1, 1) := by decide +kernel
theorem dX8_till_28 : decode cX8_till 28 = .ok (.if_icmp .ne 17, 3) := by decide +kernel
theorem dX8_till_31 : decode cX8_till 31 = .ok (.lload 4, 2) := by decide +kernel
theorem dX8_till_33 : decode cX8_till 33 = .ok (.bipush 24, 2) := by decide +kernel
theorem dX8_till_35 : decode cX8_till 35 = .ok (.iload_n 2, 1) := by decide +kernel
theorem dX8_till_36 : decode cX8_till 36 = .ok (.bipush 10, 2) := by decide +kernel
theorem dX8_till_38 : decode cX8_till 38 = .ok (.idiv, 1) := by decide +kernel
theorem dX8_till_39 : decode cX8_till 39 = .ok (.idiv, 1) := by decide +kernel
theorem dX8_till_40 : decode cX8_till 40 = .ok (.i2l, 1) := by decide +kernel
theorem dX8_till_41 : decode cX8_till 41 = .ok (.lsub, 1) := by decide +kernel
theorem dX8_till_42 : decode cX8_till 42 = .ok (.goto 5, 3) := by decide +kernel
theorem dX8_till_45 : decode cX8_till 45 = .ok (.lload 4, 2) := by decide +kernel
theorem dX8_till_47 : decode cX8_till 47 = .ok (.lreturn, 1) := by decide +kernel
theorem dX8_tillDouble_0 : decode cX8_tillDouble 0 = .ok (.ldc2_w 117, 3) := by decide +kernel
theorem dX8_tillDouble_3 : decode cX8_tillDouble 3 = .ok (.aload_n 0, 1) := by decide +kernel
theorem dX8_tillDouble_4 : decode cX8_tillDouble 4 = .ok (.iload_n 1, 1) := by decide +kernel
theorem dX8_tillDouble_5 : decode cX8_tillDouble 5 = .ok (.iload_n 2, 1) := by decide +kernel
theorem dX8_tillDouble_6 : decode cX8_tillDouble 6 = .ok (.bipush 10, 2) := by decide +kernel
theorem dX8_tillDouble_8 : decode cX8_tillDouble 8 = .ok (.idiv, 1) := by decide +kernel
theorem dX8_tillDouble_9 : decode cX8_tillDouble 9 = .ok (.invokevirtual 110, 3) := by decide +kernel
theorem dX8_tillDouble_12 : decode cX8_tillDouble 12 = .ok (.i2l, 1) := by decide +kernel
theorem dX8_tillDouble_13 : decode cX8_tillDouble 13 = .ok (.lmul, 1) := by decide +kernel
theorem dX8_tillDouble_14 : decode cX8_tillDouble 14 = .ok (.ldc2_w 119, 3) := by decide +kernel
theorem dX8_tillDouble_17 : decode cX8_tillDouble 17 = .ok (.iload_n 3, 1) := by decide +kernel
theorem dX8_tillDouble_18 : decode cX8_tillDouble 18 = .ok (.i2l, 1) := by decide +kernel
theorem dX8_tillDouble_19 : decode cX8_tillDouble 19 = .ok (.lmul, 1) := by decide +kernel
theorem dX8_tillDouble_20 : decode cX8_tillDouble 20 = .ok (.ladd, 1) := by decide +kernel
theorem dX8_tillDouble_21 : decode cX8_tillDouble 21 = .ok (.ldc2_w 115, 3) := by decide +kernel
theorem dX8_tillDouble_24 : decode cX8_tillDouble 24 = .ok (.iload 4, 2) := by decide +kernel
theorem dX8_tillDouble_26 : decode cX8_tillDouble 26 = .ok (.i2l, 1) := by decide +kernel
theorem dX8_tillDouble_27 : decode cX8_tillDouble 27 = .ok (.lmul, 1) := by decide +kernel
theorem dX8_tillDouble_28 : decode cX8_tillDouble 28 = .ok (.ladd, 1) := by decide +kernel
theorem dX8_tillDouble_29 : decode cX8_tillDouble 29 = .ok (.lstore 5, 2) := by decide +kernel
theorem dX8_tillDouble_31 : decode cX8_tillDouble 31 = .ok (.iload_n 2, 1) := by decide +kernel
theorem dX8_tillDouble_32 : decode cX8_tillDouble 32 = .ok (.bipush 10, 2) := by decide +kernel
theorem dX8_tillDouble_34 : decode cX8_tillDouble 34 = .ok (.irem, 1) := by decide +kernel
theorem dX8_tillDouble_35 : decode cX8_tillDouble 35 = .ok (.iconst 1, 1) := by decide +kernel
theorem dX8_tillDouble_36 : decode cX8_tillDouble 36 = .ok (.if_icmp .ne 17, 3) := by decide +kernel
theorem dX8_tillDouble_39 : decode cX8_tillDouble 39 = .ok (.lload 5, 2) := by decide +kernel
theorem dX8_tillDouble_41 : decode cX8_tillDouble 41 = .ok (.bipush 24, 2) := by decide +kernel
theorem dX8_tillDouble_43 : decode cX8_tillDouble 43 = .ok (.iload_n 2, 1) := by decide +kernel
theorem dX8_tillDouble_44 : decode cX8_tillDouble 44 = .ok (.bipush 10, 2) := by decide +kernel
theorem dX8_tillDouble_46 : decode cX8_tillDouble 46 = .ok (.idiv, 1) := by decide +kernel
theorem dX8_tillDouble_47 : decode cX8_tillDouble 47 = .ok (.idiv, 1) := by decide +kernel
theorem dX8_tillDouble_48 : decode cX8_tillDouble 48 = .ok (.i2l, 1) := by decide +kernel
theorem dX8_tillDouble_49 : decode cX8_tillDouble 49 = .ok (.lsub, 1) := by decide +kernel
theorem dX8_tillDouble_50 : decode cX8_tillDouble 50 = .ok (.goto 5, 3) := by decide +kernel
theorem dX8_tillDouble_53 : decode cX8_tillDouble 53 = .ok (.lload 5, 2) := by decide +kernel
theorem dX8_tillDouble_55 : decode cX8_tillDouble 55 = .ok (.lreturn, 1) := by decide +kernel
end
section
theorem dX8_doesLand_0 : decode cX8_doesLand 0 = .ok (.lload_n 2, 1) := by decide +kernel
theorem dX8_doesLand_1 : decode cX8_doesLand 1 = .ok (.aload_n 0, 1) := by decide +kernel
theorem dX8_doesLand_2 : decode cX8_doesLand 2 = .ok (.iload_n 1, 1) := by decide +kernel
theorem dX8_doesLand_3 : decode cX8_doesLand 3 = .ok (.invokevirtual 73, 3) := by decide +kernel
theorem dX8_doesLand_6 : decode cX8_doesLand 6 = .ok (.i2l, 1) := by decide +kernel
theorem dX8_doesLand_7 : decode cX8_doesLand 7 = .ok (.lrem, 1) := by decide +kernel
theorem dX8_doesLand_8 : decode cX8_doesLand 8 = .ok (.lconst 0, 1) := by decide +kernel
theorem dX8_doesLand_9 : decode cX8_doesLand 9 = .ok (.lcmp, 1) := by decide +kernel
theorem dX8_doesLand_10 : decode cX8_doesLand 10 = .ok (.ifCond .ne 7, 3) := by decide +kernel
theorem dX8_doesLand_13 : decode cX8_doesLand 13 = .ok (.iconst 1, 1) := by decide +kernel
theorem dX8_doesLand_14 : decode cX8_doesLand 14 = .ok (.goto 4, 3) := by decide +kernel
theorem dX8_doesLand_17 : decode cX8_doesLand 17 = .ok (.iconst 0, 1) := by decide +kernel
theorem dX8_doesLand_18 : decode cX8_doesLand 18 = .ok (.ireturn, 1) := by decide +kernel
theorem dX8_lands_0 : decode cX8_lands 0 = .ok (.aload_n 0, 1) := by decide +kernel
theorem dX8_lands_1 : decode cX8_lands 1 = .ok (.iload_n 1, 1) := by decide +kernel
theorem dX8_lands_2 : decode cX8_lands 2 = .ok (.iload_n 2, 1) := by decide +kernel
theorem dX8_lands_3 : decode cX8_lands 3 = .ok (.iload_n 3, 1) := by decide +kernel
theorem dX8_lands_4 : decode cX8_lands 4 = .ok (.invokevirtual 121, 3) := by decide +kernel
theorem dX8_lands_7 : decode cX8_lands 7 = .ok (.istore 6, 2) := by decide +kernel
theorem dX8_lands_9 : decode cX8_lands 9 = .ok (.iload 6, 2) := by decide +kernel
theorem dX8_lands_11 : decode cX8_lands 11 = .ok (.ldc 71, 2) := by decide +kernel
theorem dX8_lands_13 : decode cX8_lands 13 = .ok (.if_icmp .eq 19, 3) := by decide +kernel
theorem dX8_lands_16 : decode cX8_lands 16 = .ok (.iload 4, 2) := by decide +kernel
theorem dX8_lands_18 : decode cX8_lands 18 = .ok (.ifCond .lt 14, 3) := by decide +kernel
theorem dX8_lands_21 : decode cX8_lands 21 = .ok (.iload 5, 2) := by decide +kernel
theorem dX8_lands_23 : decode cX8_lands 23 = .ok (.iconst 0, 1) := by decide +kernel
theorem dX8_lands_24 : decode cX8_lands 24 = .ok (.bipush 96, 2) := by decide +kernel
theorem dX8_lands_26 : decode cX8_lands 26 = .ok (.invokestatic 63, 3) := by decide +kernel
theorem dX8_lands_29 : decode cX8_lands 29 = .ok (.ifCond .ne 6, 3) := by decide +kernel
theorem dX8_lands_32 : decode cX8_lands 32 = .ok (.ldc 71, 2) := by decide +kernel
theorem dX8_lands_34 : decode cX8_lands 34 = .ok (.ireturn, 1) := by decide +kernel
theorem dX8_lands_35 : decode cX8_lands 35 = .ok (.iload 6, 2) := by decide +kernel
theorem dX8_lands_37 : decode cX8_lands 37 = .ok (.ldc 77, 2) := by decide +kernel
theorem dX8_lands_39 : decode cX8_lands 39 = .ok (.if_icmp .ne 6, 3) := by decide +kernel
theorem dX8_lands_42 : decode cX8_lands 42 = .ok (.ldc 77, 2) := by decide +kernel
theorem dX8_lands_44 : decode cX8_lands 44 = .ok (.ireturn, 1) := by decide +kernel
theorem dX8_lands_45 : decode cX8_lands 45 = .ok (.aload_n 0, 1) := by decide +kernel
theorem dX8_lands_46 : decode cX8_lands 46 = .ok (.iload_n 1, 1) := by decide +kernel
theorem dX8_lands_47 : decode cX8_lands 47 = .ok (.iload 4, 2) := by decide +kernel
theorem dX8_lands_49 : decode cX8_lands 49 = .ok (.i2l, 1) := by decide +kernel
theorem dX8_lands_50 : decode cX8_lands 50 = .ok (.aload_n 0, 1) := by decide +kernel
theorem dX8_lands_51 : decode cX8_lands 51 = .ok (.iload_n 2, 1) := by decide +kernel
theorem dX8_lands_52 : decode cX8_lands 52 = .ok (.iload_n 3, 1) := by decide +kernel
theorem dX8_lands_53 : decode cX8_lands 53 = .ok (.iload 5, 2) := by decide +kernel
theorem dX8_lands_55 : decode cX8_lands 55 = .ok (.invokevirtual 125, 3) := by decide +kernel
theorem dX8_lands_58 : decode cX8_lands 58 = .ok (.ladd, 1) := by decide +kernel
theorem dX8_lands_59 : decode cX8_lands 59 = .ok (.invokevirtual 129, 3) := by decide +kernel
theorem dX8_lands_62 : decode cX8_lands 62 = .ok (.ifCond .eq 7, 3) := by decide +kernel
theorem dX8_lands_65 : decode cX8_lands 65 = .ok (.iconst 1, 1) := by decide +kernel
theorem dX8_lands_66 : decode cX8_lands 66 = .ok (.goto 4, 3) := by decide +kernel
theorem dX8_lands_69 : decode cX8_lands 69 = .ok (.iconst 0, 1) := by decide +kernel
theorem dX8_lands_70 : decode cX8_lands 70 = .ok (.ireturn, 1) := by decide +kernel
theorem dX8_gaps_0 : decode cX8_gaps 0 = .ok (.aload_n 0, 1) := by decide +kernel
theorem dX8_gaps_1 : decode cX8_gaps 1 = .ok (.iload_n 1, 1) := by decide +kernel
theorem dX8_gaps_2 : decode cX8_gaps 2 = .ok (.iload_n 2, 1) := by decide +kernel
theorem dX8_gaps_3 : decode cX8_gaps 3 = .ok (.iload_n 3, 1) := by decide +kernel
theorem dX8_gaps_4 : decode cX8_gaps 4 = .ok (.invokevirtual 121, 3) := by decide +kernel
theorem dX8_gaps_7 : decode cX8_gaps 7 = .ok (.istore 5, 2) := by decide +kernel
theorem dX8_gaps_9 : decode cX8_gaps 9 = .ok (.iload 5, 2) := by decide +kernel
theorem dX8_gaps_11 : decode cX8_gaps 11 = .ok (.ldc 71, 2) := by decide +kernel
theorem dX8_gaps_13 : decode cX8_gaps 13 = .ok (.if_icmp .eq 8, 3) := by decide +kernel
theorem dX8_gaps_16 : decode cX8_gaps 16 = .ok (.iload 4, 2) := by decide +kernel
theorem dX8_gaps_18 : decode cX8_gaps 18 = .ok (.ifCond .ge 6, 3) := by decide +kernel
theorem dX8_gaps_21 : decode cX8_gaps 21 = .ok (.ldc 71, 2) := by decide +kernel
theorem dX8_gaps_23 : decode cX8_gaps 23 = .ok (.ireturn, 1) := by decide +kernel
theorem dX8_gaps_24 : decode cX8_gaps 24 = .ok (.iload 5, 2) := by decide +kernel
theorem dX8_gaps_26 : decode cX8_gaps 26 = .ok (.ldc 77, 2) := by decide +kernel
theorem dX8_gaps_28 : decode cX8_gaps 28 = .ok (.if_icmp .ne 6, 3) := by decide +kernel
theorem dX8_gaps_31 : decode cX8_gaps 31 = .ok (.ldc 77, 2) := by decide +kernel
theorem dX8_gaps_33 : decode cX8_gaps 33 = .ok (.ireturn, 1) := by decide +kernel
theorem dX8_gaps_34 : decode cX8_gaps 34 = .ok (.iconst 0, 1) := by decide +kernel
theorem dX8_gaps_35 : decode cX8_gaps 35 = .ok (.istore 6, 2) := by decide +kernel
theorem dX8_gaps_37 : decode cX8_gaps 37 = .ok (.iconst 0, 1) := by decide +kernel
theorem dX8_gaps_38 : decode cX8_gaps 38 = .ok (.istore 7, 2) := by decide +kernel
theorem dX8_gaps_40 : decode cX8_gaps 40 = .ok (.iload 7, 2) := by decide +kernel
theorem dX8_gaps_42 : decode cX8_gaps 42 = .ok (.bipush 96, 2) := by decide +kernel
theorem dX8_gaps_44 : decode cX8_gaps 44 = .ok (.if_icmp .gt 45, 3) := by decide +kernel
theorem dX8_gaps_47 : decode cX8_gaps 47 = .ok (.iload 6, 2) := by decide +kernel
theorem dX8_gaps_49 : decode cX8_gaps 49 = .ok (.aload_n 0, 1) := by decide +kernel
theorem dX8_gaps_50 : decode cX8_gaps 50 = .ok (.iload_n 1, 1) := by decide +kernel
theorem dX8_gaps_51 : decode cX8_gaps 51 = .ok (.iload 4, 2) := by decide +kernel
theorem dX8_gaps_53 : decode cX8_gaps 53 = .ok (.i2l, 1) := by decide +kernel
theorem dX8_gaps_54 : decode cX8_gaps 54 = .ok (.aload_n 0, 1) := by decide +kernel
theorem dX8_gaps_55 : decode cX8_gaps 55 = .ok (.iload_n 2, 1) := by decide +kernel
theorem dX8_gaps_56 : decode cX8_gaps 56 = .ok (.iload_n 3, 1) := by decide +kernel
theorem dX8_gaps_57 : decode cX8_gaps 57 = .ok (.iload 7, 2) := by decide +kernel
theorem dX8_gaps_59 : decode cX8_gaps 59 = .ok (.invokevirtual 125, 3) := by decide +kernel
theorem dX8_gaps_62 : decode cX8_gaps 62 = .ok (.ladd, 1) := by decide +kernel
theorem dX8_gaps_63 : decode cX8_gaps 63 = .ok (.invokevirtual 129, 3) := by decide +kernel
theorem dX8_gaps_66 : decode cX8_gaps 66 = .ok (.ifCond .eq 7, 3) := by decide +kernel
theorem dX8_gaps_69 : decode cX8_gaps 69 = .ok (.iconst 1, 1) := by decide +kernel
theorem dX8_gaps_70 : decode cX8_gaps 70 = .ok (.goto 4, 3) := by decide +kernel
theorem dX8_gaps_73 : decode cX8_gaps 73 = .ok (.iconst 0, 1) := by decide +kernel
theorem dX8_gaps_74 : decode cX8_gaps 74 = .ok (.iadd, 1) := by decide +kernel
theorem dX8_gaps_75 : decode cX8_gaps 75 = .ok (.istore 6, 2) := by decide +kernel
theorem dX8_gaps_77 : decode cX8_gaps 77 = .ok (.iload 7, 2) := by decide +kernel
theorem dX8_gaps_79 : decode cX8_gaps 79 = .ok (.aload_n 0, 1) := by decide +kernel
theorem dX8_gaps_80 : decode cX8_gaps 80 = .ok (.getfield 28, 3) := by decide +kernel
theorem dX8_gaps_83 : decode cX8_gaps 83 = .ok (.iadd, 1) := by decide +kernel
theorem dX8_gaps_84 : decode cX8_gaps 84 = .ok (.istore 7, 2) := by decide +kernel
theorem dX8_gaps_86 : decode cX8_gaps 86 = .ok (.goto (-46), 3) := by decide +kernel
theorem dX8_gaps_89 : decode cX8_gaps 89 = .ok (.iload 6, 2) := by decide +kernel
theorem dX8_gaps_91 : decode cX8_gaps 91 = .ok (.ireturn, 1) := by decide +kernel
theorem dX8_gap_0 : decode cX8_gap 0 = .ok (.aload_n 0, 1) := by decide +kernel
theorem dX8_gap_1 : decode cX8_gap 1 = .ok (.iload_n 1, 1) := by decide +kernel
theorem dX8_gap_2 : decode cX8_gap 2 = .ok (.iload_n 2, 1) := by decide +kernel
theorem dX8_gap_3 : decode cX8_gap 3 = .ok (.iload_n 3, 1) := by decide +kernel
theorem dX8_gap_4 : decode cX8_gap 4 = .ok (.invokevirtual 121, 3) := by decide +kernel
theorem dX8_gap_7 : decode cX8_gap 7 = .ok (.istore 6, 2) := by decide +kernel
theorem dX8_gap_9 : decode cX8_gap 9 = .ok (.iload 6, 2) := by decide +kernel
theorem dX8_gap_11 : decode cX8_gap 11 = .ok (.ldc 71, 2) := by decide +kernel
theorem dX8_gap_13 : decode cX8_gap 13 = .ok (.if_icmp .eq 13, 3) := by decide +kernel
theorem dX8_gap_16 : decode cX8_gap 16 = .ok (.iload 4, 2) := by decide +kernel
theorem dX8_gap_18 : decode cX8_gap 18 = .ok (.ifCond .lt 8, 3) := by decide +kernel
theorem dX8_gap_21 : decode cX8_gap 21 = .ok (.iload 5, 2) := by decide +kernel
theorem dX8_gap_23 : decode cX8_gap 23 = .ok (.ifCond .ge 6, 3) := by decide +kernel
theorem dX8_gap_26 : decode cX8_gap 26 = .ok (.ldc 71, 2) := by decide +kernel
theorem dX8_gap_28 : decode cX8_gap 28 = .ok (.ireturn, 1) := by decide +kernel
theorem dX8_gap_29 : decode cX8_gap 29 = .ok (.iload 6, 2) := by decide +kernel
theorem dX8_gap_31 : decode cX8_gap 31 = .ok (.ldc 77, 2) := by decide +kernel
theorem dX8_gap_33 : decode cX8_gap 33 = .ok (.if_icmp .ne 6, 3) := by decide +kernel
theorem dX8_gap_36 : decode cX8_gap 36 = .ok (.ldc 77, 2) := by decide +kernel
theorem dX8_gap_38 : decode cX8_gap 38 = .ok (.ireturn, 1) := by decide +kernel
theorem dX8_gap_39 : decode cX8_gap 39 = .ok (.iload 5, 2) := by decide +kernel
theorem dX8_gap_41 : decode cX8_gap 41 = .ok (.istore 7, 2) := by decide +kernel
theorem dX8_gap_43 : decode cX8_gap 43 = .ok (.iconst 0, 1) := by decide +kernel
theorem dX8_gap_44 : decode cX8_gap 44 = .ok (.istore 8, 2) := by decide +kernel
theorem dX8_gap_46 : decode cX8_gap 46 = .ok (.iload 8, 2) := by decide +kernel
theorem dX8_gap_48 : decode cX8_gap 48 = .ok (.bipush 96, 2) := by decide +kernel
theorem dX8_gap_50 : decode cX8_gap 50 = .ok (.if_icmp .gt 46, 3) := by decide +kernel
theorem dX8_gap_53 : decode cX8_gap 53 = .ok (.aload_n 0, 1) := by decide +kernel
theorem dX8_gap_54 : decode cX8_gap 54 = .ok (.iload_n 1, 1) := by decide +kernel
theorem dX8_gap_55 : decode cX8_gap 55 = .ok (.iload 4, 2) := by decide +kernel
theorem dX8_gap_57 : decode cX8_gap 57 = .ok (.i2l, 1) := by decide +kernel
theorem dX8_gap_58 : decode cX8_gap 58 = .ok (.aload_n 0, 1) := by decide +kernel
theorem dX8_gap_59 : decode cX8_gap 59 = .ok (.iload_n 2, 1) := by decide +kernel
theorem dX8_gap_60 : decode cX8_gap 60 = .ok (.iload_n 3, 1) := by decide +kernel
theorem dX8_gap_61 : decode cX8_gap 61 = .ok (.iload 8, 2) := by decide +kernel
theorem dX8_gap_63 : decode cX8_gap 63 = .ok (.invokevirtual 125, 3) := by decide +kernel
theorem dX8_gap_66 : decode cX8_gap 66 = .ok (.ladd, 1) := by decide +kernel
theorem dX8_gap_67 : decode cX8_gap 67 = .ok (.invokevirtual 129, 3) := by decide +kernel
theorem dX8_gap_70 : decode cX8_gap 70 = .ok (.ifCond .eq 14, 3) := by decide +kernel
theorem dX8_gap_73 : decode cX8_gap 73 = .ok (.iload 7, 2) := by decide +kernel
theorem dX8_gap_75 : decode cX8_gap 75 = .ok (.ifCond .ne 6, 3) := by decide +kernel
theorem dX8_gap_78 : decode cX8_gap 78 = .ok (.iload 8, 2) := by decide +kernel
theorem dX8_gap_80 : decode cX8_gap 80 = .ok (.ireturn, 1) := by decide +kernel
theorem dX8_gap_81 : decode cX8_gap 81 = .ok (.iinc 7 (-1), 3) := by decide +kernel
theorem dX8_gap_84 : decode cX8_gap 84 = .ok (.iload 8, 2) := by decide +kernel
theorem dX8_gap_86 : decode cX8_gap 86 = .ok (.aload_n 0, 1) := by decide +kernel
theorem dX8_gap_87 : decode cX8_gap 87 = .ok (.getfield 28, 3) := by decide +kernel
theorem dX8_gap_90 : decode cX8_gap 90 = .ok (.iadd, 1) := by decide +kernel
theorem dX8_gap_91 : decode cX8_gap 91 = .ok (.istore 8, 2) := by decide +kernel
theorem dX8_gap_93 : decode cX8_gap 93 = .ok (.goto (-47), 3) := by decide +kernel
theorem dX8_gap_96 : decode cX8_gap 96 = .ok (.ldc 106, 2) := by decide +kernel
theorem dX8_gap_98 : decode cX8_gap 98 = .ok (.ireturn, 1) := by decide +kernel
theorem dX8_start_0 : decode cX8_start 0 = .ok (.aload_n 0, 1) := by decide +kernel
theorem dX8_start_1 : decode cX8_start 1 = .ok (.iload_n 1, 1) := by decide +kernel
theorem dX8_start_2 : decode cX8_start 2 = .ok (.iload_n 2, 1) := by decide +kernel
theorem dX8_start_3 : decode cX8_start 3 = .ok (.iload_n 3, 1) := by decide +kernel
theorem dX8_start_4 : decode cX8_start 4 = .ok (.invokevirtual 121, 3) := by decide +kernel
theorem dX8_start_7 : decode cX8_start 7 = .ok (.istore 5, 2) := by decide +kernel
theorem dX8_start_9 : decode cX8_start 9 = .ok (.iload 5, 2) := by decide +kernel
theorem dX8_start_11 : decode cX8_start 11 = .ok (.ldc 71, 2) := by decide +kernel
theorem dX8_start_13 : decode cX8_start 13 = .ok (.if_icmp .eq 14, 3) := by decide +kernel
theorem dX8_start_16 : decode cX8_start 16 = .ok (.iload 4, 2) := by decide +kernel
theorem dX8_start_18 : decode cX8_start 18 = .ok (.iconst 0, 1) := by decide +kernel
theorem dX8_start_19 : decode cX8_start 19 = .ok (.bipush 96, 2) := by decide +kernel
theorem dX8_start_21 : decode cX8_start 21 = .ok (.invokestatic 63, 3) := by decide +kernel
theorem dX8_start_24 : decode cX8_start 24 = .ok (.ifCond .ne 6, 3) := by decide +kernel
theorem dX8_start_27 : decode cX8_start 27 = .ok (.ldc 71, 2) := by decide +kernel
theorem dX8_start_29 : decode cX8_start 29 = .ok (.ireturn, 1) := by decide +kernel
theorem dX8_start_30 : decode cX8_start 30 = .ok (.iload 5, 2) := by decide +kernel
theorem dX8_start_32 : decode cX8_start 32 = .ok (.ldc 77, 2) := by decide +kernel
theorem dX8_start_34 : decode cX8_start 34 = .ok (.if_icmp .ne 6, 3) := by decide +kernel
theorem dX8_start_37 : decode cX8_start 37 = .ok (.ldc 77, 2) := by decide +kernel
theorem dX8_start_39 : decode cX8_start 39 = .ok (.ireturn, 1) := by decide +kernel
theorem dX8_start_40 : decode cX8_start 40 = .ok (.iconst 0, 1) := by decide +kernel
theorem dX8_start_41 : decode cX8_start 41 = .ok (.istore 6, 2) := by decide +kernel
theorem dX8_start_43 : decode cX8_start 43 = .ok (.aload_n 0, 1) := by decide +kernel
theorem dX8_start_44 : decode cX8_start 44 = .ok (.iload_n 1, 1) := by decide +kernel
theorem dX8_start_45 : decode cX8_start 45 = .ok (.iload 6, 2) := by decide +kernel
theorem dX8_start_47 : decode cX8_start 47 = .ok (.i2l, 1) := by decide +kernel
theorem dX8_start_48 : decode cX8_start 48 = .ok (.aload_n 0, 1) := by decide +kernel
theorem dX8_start_49 : decode cX8_start 49 = .ok (.iload_n 2, 1) := by decide +kernel
theorem dX8_start_50 : decode cX8_start 50 = .ok (.iload_n 3, 1) := by decide +kernel
theorem dX8_start_51 : decode cX8_start 51 = .ok (.iload 4, 2) := by decide +kernel
theorem dX8_start_53 : decode cX8_start 53 = .ok (.invokevirtual 125, 3) := by decide +kernel
theorem dX8_start_56 : decode cX8_start 56 = .ok (.ladd, 1) := by decide +kernel
theorem dX8_start_57 : decode cX8_start 57 = .ok (.invokevirtual 129, 3) := by decide +kernel
theorem dX8_start_60 : decode cX8_start 60 = .ok (.ifCond .ne 9, 3) := by decide +kernel
theorem dX8_start_63 : decode cX8_start 63 = .ok (.iinc 6 1, 3) := by decide +kernel
theorem dX8_start_66 : decode cX8_start 66 = .ok (.goto (-23), 3) := by decide +kernel
theorem dX8_start_69 : decode cX8_start 69 = .ok (.iload 6, 2) := by decide +kernel
theorem dX8_start_71 : decode cX8_start 71 = .ok (.ireturn, 1) := by decide +kernel
theorem dX8_doubles_0 : decode cX8_doubles 0 = .ok (.aload_n 0, 1) := by decide +kernel
theorem dX8_doubles_1 : decode cX8_doubles 1 = .ok (.iload_n 1, 1) := by decide +kernel
theorem dX8_doubles_2 : decode cX8_doubles 2 = .ok (.iload_n 2, 1) := by decide +kernel
theorem dX8_doubles_3 : decode cX8_doubles 3 = .ok (.iload_n 3, 1) := by decide +kernel
theorem dX8_doubles_4 : decode cX8_doubles 4 = .ok (.invokevirtual 121, 3) := by decide +kernel
theorem dX8_doubles_7 : decode cX8_doubles 7 = .ok (.istore 5, 2) := by decide +kernel
theorem dX8_doubles_9 : decode cX8_doubles 9 = .ok (.iload 5, 2) := by decide +kernel
theorem dX8_doubles_11 : decode cX8_doubles 11 = .ok (.ldc 71, 2) := by decide +kernel
theorem dX8_doubles_13 : decode cX8_doubles 13 = .ok (.if_icmp .eq 8, 3) := by decide +kernel
theorem dX8_doubles_16 : decode cX8_doubles 16 = .ok (.iload 4, 2) := by decide +kernel
theorem dX8_doubles_18 : decode cX8_doubles 18 = .ok (.ifCond .ge 6, 3) := by decide +kernel
theorem dX8_doubles_21 : decode cX8_doubles 21 = .ok (.ldc 71, 2) := by decide +kernel
theorem dX8_doubles_23 : decode cX8_doubles 23 = .ok (.ireturn, 1) := by decide +kernel
theorem dX8_doubles_24 : decode cX8_doubles 24 = .ok (.iload 5, 2) := by decide +kernel
theorem dX8_doubles_26 : decode cX8_doubles 26 = .ok (.ldc 77, 2) := by decide +kernel
theorem dX8_doubles_28 : decode cX8_doubles 28 = .ok (.if_icmp .ne 6, 3) := by decide +kernel
theorem dX8_doubles_31 : decode cX8_doubles 31 = .ok (.ldc 77, 2) := by decide +kernel
theorem dX8_doubles_33 : decode cX8_doubles 33 = .ok (.ireturn, 1) := by decide +kernel
theorem dX8_doubles_34 : decode cX8_doubles 34 = .ok (.iconst 0, 1) := by decide +kernel
theorem dX8_doubles_35 : decode cX8_doubles 35 = .ok (.istore 6, 2) := by decide +kernel
theorem dX8_doubles_37 : decode cX8_doubles 37 = .ok (.iconst 0, 1) := by decide +kernel
theorem dX8_doubles_38 : decode cX8_doubles 38 = .ok (.istore 7, 2) := by decide +kernel
theorem dX8_doubles_40 : decode cX8_doubles 40 = .ok (.iload 7, 2) := by decide +kernel
theorem dX8_doubles_42 : decode cX8_doubles 42 = .ok (.bipush 96, 2) := by decide +kernel
theorem dX8_doubles_44 : decode cX8_doubles 44 = .ok (.if_icmp .gt 69, 3) := by decide +kernel
theorem dX8_doubles_47 : decode cX8_doubles 47 = .ok (.iconst 0, 1) := by decide +kernel
theorem dX8_doubles_48 : decode cX8_doubles 48 = .ok (.istore 8, 2) := by decide +kernel
theorem dX8_doubles_50 : decode cX8_doubles 50 = .ok (.iload 8, 2) := by decide +kernel
theorem dX8_doubles_52 : decode cX8_doubles 52 = .ok (.bipush 96, 2) := by decide +kernel
theorem dX8_doubles_54 : decode cX8_doubles 54 = .ok (.if_icmp .gt 47, 3) := by decide +kernel
theorem dX8_doubles_57 : decode cX8_doubles 57 = .ok (.iload 6, 2) := by decide +kernel
theorem dX8_doubles_59 : decode cX8_doubles 59 = .ok (.aload_n 0, 1) := by decide +kernel
theorem dX8_doubles_60 : decode cX8_doubles 60 = .ok (.iload_n 1, 1) := by decide +kernel
theorem dX8_doubles_61 : decode cX8_doubles 61 = .ok (.iload 4, 2) := by decide +kernel
theorem dX8_doubles_63 : decode cX8_doubles 63 = .ok (.i2l, 1) := by decide +kernel
theorem dX8_doubles_64 : decode cX8_doubles 64 = .ok (.aload_n 0, 1) := by decide +kernel
theorem dX8_doubles_65 : decode cX8_doubles 65 = .ok (.iload_n 2, 1) := by decide +kernel
theorem dX8_doubles_66 : decode cX8_doubles 66 = .ok (.iload_n 3, 1) := by decide +kernel
theorem dX8_doubles_67 : decode cX8_doubles 67 = .ok (.iload 7, 2) := by decide +kernel
theorem dX8_doubles_69 : decode cX8_doubles 69 = .ok (.iload 8, 2) := by decide +kernel
theorem dX8_doubles_71 : decode cX8_doubles 71 = .ok (.invokevirtual 133, 3) := by decide +kernel
theorem dX8_doubles_74 : decode cX8_doubles 74 = .ok (.ladd, 1) := by decide +kernel
theorem dX8_doubles_75 : decode cX8_doubles 75 = .ok (.invokevirtual 129, 3) := by decide +kernel
theorem dX8_doubles_78 : decode cX8_doubles 78 = .ok (.ifCond .eq 7, 3) := by decide +kernel
theorem dX8_doubles_81 : decode cX8_doubles 81 = .ok (.iconst 1, 1) := by decide +kernel
theorem dX8_doubles_82 : decode cX8_doubles 82 = .ok (.goto 4, 3) := by decide +kernel
theorem dX8_doubles_85 : decode cX8_doubles 85 = .ok (.iconst 0, 1) := by decide +kernel
theorem dX8_doubles_86 : decode cX8_doubles 86 = .ok (.iadd, 1) := by decide +kernel
theorem dX8_doubles_87 : decode cX8_doubles 87 = .ok (.istore 6, 2) := by decide +kernel
theorem dX8_doubles_89 : decode cX8_doubles 89 = .ok (.iload 8, 2) := by decide +kernel
theorem dX8_doubles_91 : decode cX8_doubles 91 = .ok (.aload_n 0, 1) := by decide +kernel
theorem dX8_doubles_92 : decode cX8_doubles 92 = .ok (.getfield 28, 3) := by decide +kernel
theorem dX8_doubles_95 : decode cX8_doubles 95 = .ok (.iadd, 1) := by decide +kernel
theorem dX8_doubles_96 : decode cX8_doubles 96 = .ok (.istore 8, 2) := by decide +kernel
theorem dX8_doubles_98 : decode cX8_doubles 98 = .ok (.goto (-48), 3) := by decide +kernel
theorem dX8_doubles_101 : decode cX8_doubles 101 = .ok (.iload 7, 2) := by decide +kernel
theorem dX8_doubles_103 : decode cX8_doubles 103 = .ok (.aload_n 0, 1) := by decide +kernel
theorem dX8_doubles_104 : decode cX8_doubles 104 = .ok (.getfield 28, 3) := by decide +kernel
theorem dX8_doubles_107 : decode cX8_doubles 107 = .ok (.iadd, 1) := by decide +kernel
theorem dX8_doubles_108 : decode cX8_doubles 108 = .ok (.istore 7, 2) := by decide +kernel
theorem dX8_doubles_110 : decode cX8_doubles 110 = .ok (.goto (-70), 3) := by decide +kernel
theorem dX8_doubles_113 : decode cX8_doubles 113 = .ok (.iload 6, 2) := by decide +kernel
theorem dX8_doubles_115 : decode cX8_doubles 115 = .ok (.ireturn, 1) := by decide +kernel
theorem dX8_least_0 : decode cX8_least 0 = .ok (.aload_n 0, 1) := by decide +kernel
theorem dX8_least_1 : decode cX8_least 1 = .ok (.iload_n 1, 1) := by decide +kernel
theorem dX8_least_2 : decode cX8_least 2 = .ok (.iload_n 2, 1) := by decide +kernel
theorem dX8_least_3 : decode cX8_least 3 = .ok (.iload_n 3, 1) := by decide +kernel
theorem dX8_least_4 : decode cX8_least 4 = .ok (.invokevirtual 121, 3) := by decide +kernel
theorem dX8_least_7 : decode cX8_least 7 = .ok (.istore 5, 2) := by decide +kernel
theorem dX8_least_9 : decode cX8_least 9 = .ok (.iload 5, 2) := by decide +kernel
theorem dX8_least_11 : decode cX8_least 11 = .ok (.ldc 71, 2) := by decide +kernel
theorem dX8_least_13 : decode cX8_least 13 = .ok (.if_icmp .eq 8, 3) := by decide +kernel
theorem dX8_least_16 : decode cX8_least 16 = .ok (.iload 4, 2) := by decide +kernel
theorem dX8_least_18 : decode cX8_least 18 = .ok (.ifCond .ge 6, 3) := by decide +kernel
theorem dX8_least_21 : decode cX8_least 21 = .ok (.ldc 71, 2) := by decide +kernel
theorem dX8_least_23 : decode cX8_least 23 = .ok (.ireturn, 1) := by decide +kernel
theorem dX8_least_24 : decode cX8_least 24 = .ok (.iload 5, 2) := by decide +kernel
theorem dX8_least_26 : decode cX8_least 26 = .ok (.ldc 77, 2) := by decide +kernel
theorem dX8_least_28 : decode cX8_least 28 = .ok (.if_icmp .ne 6, 3) := by decide +kernel
theorem dX8_least_31 : decode cX8_least 31 = .ok (.ldc 77, 2) := by decide +kernel
theorem dX8_least_33 : decode cX8_least 33 = .ok (.ireturn, 1) := by decide +kernel
theorem dX8_least_34 : decode cX8_least 34 = .ok (.ldc 106, 2) := by decide +kernel
theorem dX8_least_36 : decode cX8_least 36 = .ok (.istore 6, 2) := by decide +kernel
theorem dX8_least_38 : decode cX8_least 38 = .ok (.iconst 0, 1) := by decide +kernel
theorem dX8_least_39 : decode cX8_least 39 = .ok (.istore 7, 2) := by decide +kernel
theorem dX8_least_41 : decode cX8_least 41 = .ok (.iconst 0, 1) := by decide +kernel
theorem dX8_least_42 : decode cX8_least 42 = .ok (.istore 8, 2) := by decide +kernel
theorem dX8_least_44 : decode cX8_least 44 = .ok (.iload 8, 2) := by decide +kernel
theorem dX8_least_46 : decode cX8_least 46 = .ok (.bipush 96, 2) := by decide +kernel
theorem dX8_least_48 : decode cX8_least 48 = .ok (.if_icmp .gt 94, 3) := by decide +kernel
theorem dX8_least_51 : decode cX8_least 51 = .ok (.iconst 0, 1) := by decide +kernel
theorem dX8_least_52 : decode cX8_least 52 = .ok (.istore 9, 2) := by decide +kernel
theorem dX8_least_54 : decode cX8_least 54 = .ok (.iload 9, 2) := by decide +kernel
theorem dX8_least_56 : decode cX8_least 56 = .ok (.bipush 96, 2) := by decide +kernel
theorem dX8_least_58 : decode cX8_least 58 = .ok (.if_icmp .gt 72, 3) := by decide +kernel
theorem dX8_least_61 : decode cX8_least 61 = .ok (.aload_n 0, 1) := by decide +kernel
theorem dX8_least_62 : decode cX8_least 62 = .ok (.iload_n 1, 1) := by decide +kernel
theorem dX8_least_63 : decode cX8_least 63 = .ok (.iload 4, 2) := by decide +kernel
theorem dX8_least_65 : decode cX8_least 65 = .ok (.i2l, 1) := by decide +kernel
theorem dX8_least_66 : decode cX8_least 66 = .ok (.aload_n 0, 1) := by decide +kernel
theorem dX8_least_67 : decode cX8_least 67 = .ok (.iload_n 2, 1) := by decide +kernel
theorem dX8_least_68 : decode cX8_least 68 = .ok (.iload_n 3, 1) := by decide +kernel
theorem dX8_least_69 : decode cX8_least 69 = .ok (.iload 8, 2) := by decide +kernel
theorem dX8_least_71 : decode cX8_least 71 = .ok (.iload 9, 2) := by decide +kernel
theorem dX8_least_73 : decode cX8_least 73 = .ok (.invokevirtual 133, 3) := by decide +kernel
theorem dX8_least_76 : decode cX8_least 76 = .ok (.ladd, 1) := by decide +kernel
theorem dX8_least_77 : decode cX8_least 77 = .ok (.invokevirtual 129, 3) := by decide +kernel
theorem dX8_least_80 : decode cX8_least 80 = .ok (.ifCond .eq 38, 3) := by decide +kernel
theorem dX8_least_83 : decode cX8_least 83 = .ok (.iload 6, 2) := by decide +kernel
theorem dX8_least_85 : decode cX8_least 85 = .ok (.ldc 106, 2) := by decide +kernel
theorem dX8_least_87 : decode cX8_least 87 = .ok (.if_icmp .eq 13, 3) := by decide +kernel
theorem dX8_least_90 : decode cX8_least 90 = .ok (.iload 8, 2) := by decide +kernel
theorem dX8_least_92 : decode cX8_least 92 = .ok (.iload 9, 2) := by decide +kernel
theorem dX8_least_94 : decode cX8_least 94 = .ok (.iadd, 1) := by decide +kernel
theorem dX8_least_95 : decode cX8_least 95 = .ok (.iload 7, 2) := by decide +kernel
theorem dX8_least_97 : decode cX8_least 97 = .ok (.if_icmp .ge 21, 3) := by decide +kernel
theorem dX8_least_100 : decode cX8_least 100 = .ok (.sipush 1000, 3) := by decide +kernel
theorem dX8_least_103 : decode cX8_least 103 = .ok (.iload 8, 2) := by decide +kernel
theorem dX8_least_105 : decode cX8_least 105 = .ok (.imul, 1) := by decide +kernel
theorem dX8_least_106 : decode cX8_least 106 = .ok (.iload 9, 2) := by decide +kernel
theorem dX8_least_108 : decode cX8_least 108 = .ok (.iadd, 1) := by decide +kernel
theorem dX8_least_109 : decode cX8_least 109 = .ok (.istore 6, 2) := by decide +kernel
theorem dX8_least_111 : decode cX8_least 111 = .ok (.iload 8, 2) := by decide +kernel
theorem dX8_least_113 : decode cX8_least 113 = .ok (.iload 9, 2) := by decide +kernel
theorem dX8_least_115 : decode cX8_least 115 = .ok (.iadd, 1) := by decide +kernel
theorem dX8_least_116 : decode cX8_least 116 = .ok (.istore 7, 2) := by decide +kernel
theorem dX8_least_118 : decode cX8_least 118 = .ok (.iload 9, 2) := by decide +kernel
theorem dX8_least_120 : decode cX8_least 120 = .ok (.aload_n 0, 1) := by decide +kernel
theorem dX8_least_121 : decode cX8_least 121 = .ok (.getfield 28, 3) := by decide +kernel
theorem dX8_least_124 : decode cX8_least 124 = .ok (.iadd, 1) := by decide +kernel
theorem dX8_least_125 : decode cX8_least 125 = .ok (.istore 9, 2) := by decide +kernel
theorem dX8_least_127 : decode cX8_least 127 = .ok (.goto (-73), 3) := by decide +kernel
theorem dX8_least_130 : decode cX8_least 130 = .ok (.iload 8, 2) := by decide +kernel
theorem dX8_least_132 : decode cX8_least 132 = .ok (.aload_n 0, 1) := by decide +kernel
theorem dX8_least_133 : decode cX8_least 133 = .ok (.getfield 28, 3) := by decide +kernel
theorem dX8_least_136 : decode cX8_least 136 = .ok (.iadd, 1) := by decide +kernel
theorem dX8_least_137 : decode cX8_least 137 = .ok (.istore 8, 2) := by decide +kernel
theorem dX8_least_139 : decode cX8_least 139 = .ok (.goto (-95), 3) := by decide +kernel
theorem dX8_least_142 : decode cX8_least 142 = .ok (.iload 6, 2) := by decide +kernel
theorem dX8_least_144 : decode cX8_least 144 = .ok (.ireturn, 1) := by decide +kernel
theorem dX8_grid_0 : decode cX8_grid 0 = .ok (.iload_n 1, 1) := by decide +kernel
theorem dX8_grid_1 : decode cX8_grid 1 = .ok (.iconst 1, 1) := by decide +kernel
theorem dX8_grid_2 : decode cX8_grid 2 = .ok (.bipush 24, 2) := by decide +kernel
theorem dX8_grid_4 : decode cX8_grid 4 = .ok (.invokestatic 63, 3) := by decide +kernel
theorem dX8_grid_7 : decode cX8_grid 7 = .ok (.ifCond .ne 6, 3) := by decide +kernel
theorem dX8_grid_10 : decode cX8_grid 10 = .ok (.ldc 71, 2) := by decide +kernel
theorem dX8_grid_12 : decode cX8_grid 12 = .ok (.ireturn, 1) := by decide +kernel
theorem dX8_grid_13 : decode cX8_grid 13 = .ok (.aload_n 0, 1) := by decide +kernel
theorem dX8_grid_14 : decode cX8_grid 14 = .ok (.getfield 28, 3) := by decide +kernel
theorem dX8_grid_17 : decode cX8_grid 17 = .ok (.istore_n 2, 1) := by decide +kernel
theorem dX8_grid_18 : decode cX8_grid 18 = .ok (.aload_n 0, 1) := by decide +kernel
theorem dX8_grid_19 : decode cX8_grid 19 = .ok (.iload_n 1, 1) := by decide +kernel
theorem dX8_grid_20 : decode cX8_grid 20 = .ok (.putfield 28, 3) := by decide +kernel
theorem dX8_grid_23 : decode cX8_grid 23 = .ok (.iload_n 2, 1) := by decide +kernel
theorem dX8_grid_24 : decode cX8_grid 24 = .ok (.ireturn, 1) := by decide +kernel
theorem dX8_rows_0 : decode cX8_rows 0 = .ok (.aload_n 0, 1) := by decide +kernel
theorem dX8_rows_1 : decode cX8_rows 1 = .ok (.getfield 19, 3) := by decide +kernel
theorem dX8_rows_4 : decode cX8_rows 4 = .ok (.iload_n 1, 1) := by decide +kernel
theorem dX8_rows_5 : decode cX8_rows 5 = .ok (.iaload, 1) := by decide +kernel
theorem dX8_rows_6 : decode cX8_rows 6 = .ok (.iload_n 2, 1) := by decide +kernel
theorem dX8_rows_7 : decode cX8_rows 7 = .ok (.iadd, 1) := by decide +kernel
theorem dX8_rows_8 : decode cX8_rows 8 = .ok (.iconst 1, 1) := by decide +kernel
theorem dX8_rows_9 : decode cX8_rows 9 = .ok (.isub, 1) := by decide +kernel
theorem dX8_rows_10 : decode cX8_rows 10 = .ok (.iload_n 2, 1) := by decide +kernel
theorem dX8_rows_11 : decode cX8_rows 11 = .ok (.idiv, 1) := by decide +kernel
theorem dX8_rows_12 : decode cX8_rows 12 = .ok (.ireturn, 1) := by decide +kernel
theorem dX8_rowOf_0 : decode cX8_rowOf 0 = .ok (.aload_n 0, 1) := by decide +kernel
theorem dX8_rowOf_1 : decode cX8_rowOf 1 = .ok (.iload_n 1, 1) := by decide +kernel
theorem dX8_rowOf_2 : decode cX8_rowOf 2 = .ok (.iload_n 2, 1) := by decide +kernel
theorem dX8_rowOf_3 : decode cX8_rowOf 3 = .ok (.invokevirtual 137, 3) := by decide +kernel
theorem dX8_rowOf_6 : decode cX8_rowOf 6 = .ok (.istore 5, 2) := by decide +kernel
theorem dX8_rowOf_8 : decode cX8_rowOf 8 = .ok (.iload_n 3, 1) := by decide +kernel
theorem dX8_rowOf_9 : decode cX8_rowOf 9 = .ok (.ifCond .ne 8, 3) := by decide +kernel
theorem dX8_rowOf_12 : decode cX8_rowOf 12 = .ok (.iload 4, 2) := by decide +kernel
theorem dX8_rowOf_14 : decode cX8_rowOf 14 = .ok (.goto 39, 3) := by decide +kernel
theorem dX8_rowOf_17 : decode cX8_rowOf 17 = .ok (.iload_n 3, 1) := by decide +kernel
theorem dX8_rowOf_18 : decode cX8_rowOf 18 = .ok (.iconst 1, 1) := by decide +kernel
theorem dX8_rowOf_19 : decode cX8_rowOf 19 = .ok (.if_icmp .ne 13, 3) := by decide +kernel
theorem dX8_rowOf_22 : decode cX8_rowOf 22 = .ok (.iload 5, 2) := by decide +kernel
theorem dX8_rowOf_24 : decode cX8_rowOf 24 = .ok (.iconst 1, 1) := by decide +kernel
theorem dX8_rowOf_25 : decode cX8_rowOf 25 = .ok (.isub, 1) := by decide +kernel
theorem dX8_rowOf_26 : decode cX8_rowOf 26 = .ok (.iload 4, 2) := by decide +kernel
theorem dX8_rowOf_28 : decode cX8_rowOf 28 = .ok (.isub, 1) := by decide +kernel
theorem dX8_rowOf_29 : decode cX8_rowOf 29 = .ok (.goto 24, 3) := by decide +kernel
theorem dX8_rowOf_32 : decode cX8_rowOf 32 = .ok (.iload 4, 2) := by decide +kernel
theorem dX8_rowOf_34 : decode cX8_rowOf 34 = .ok (.iload 5, 2) := by decide +kernel
theorem dX8_rowOf_36 : decode cX8_rowOf 36 = .ok (.if_icmp .ge 8, 3) := by decide +kernel
theorem dX8_rowOf_39 : decode cX8_rowOf 39 = .ok (.iload 4, 2) := by decide +kernel
theorem dX8_rowOf_41 : decode cX8_rowOf 41 = .ok (.goto 12, 3) := by decide +kernel
theorem dX8_rowOf_44 : decode cX8_rowOf 44 = .ok (.iconst 2, 1) := by decide +kernel
theorem dX8_rowOf_45 : decode cX8_rowOf 45 = .ok (.iload 5, 2) := by decide +kernel
theorem dX8_rowOf_47 : decode cX8_rowOf 47 = .ok (.imul, 1) := by decide +kernel
theorem dX8_rowOf_48 : decode cX8_rowOf 48 = .ok (.iconst 2, 1) := by decide +kernel
theorem dX8_rowOf_49 : decode cX8_rowOf 49 = .ok (.isub, 1) := by decide +kernel
theorem dX8_rowOf_50 : decode cX8_rowOf 50 = .ok (.iload 4, 2) := by decide +kernel
theorem dX8_rowOf_52 : decode cX8_rowOf 52 = .ok (.isub, 1) := by decide +kernel
theorem dX8_rowOf_53 : decode cX8_rowOf 53 = .ok (.ireturn, 1) := by decide +kernel
theorem dX8_rowsOf_0 : decode cX8_rowsOf 0 = .ok (.aload_n 0, 1) := by decide +kernel
theorem dX8_rowsOf_1 : decode cX8_rowsOf 1 = .ok (.iload_n 1, 1) := by decide +kernel
theorem dX8_rowsOf_2 : decode cX8_rowsOf 2 = .ok (.iload_n 2, 1) := by decide +kernel
theorem dX8_rowsOf_3 : decode cX8_rowsOf 3 = .ok (.invokevirtual 137, 3) := by decide +kernel
theorem dX8_rowsOf_6 : decode cX8_rowsOf 6 = .ok (.istore 4, 2) := by decide +kernel
theorem dX8_rowsOf_8 : decode cX8_rowsOf 8 = .ok (.iload_n 3, 1) := by decide +kernel
theorem dX8_rowsOf_9 : decode cX8_rowsOf 9 = .ok (.iconst 2, 1) := by decide +kernel
theorem dX8_rowsOf_10 : decode cX8_rowsOf 10 = .ok (.if_icmp .ne 12, 3) := by decide +kernel
theorem dX8_rowsOf_13 : decode cX8_rowsOf 13 = .ok (.iconst 2, 1) := by decide +kernel
theorem dX8_rowsOf_14 : decode cX8_rowsOf 14 = .ok (.iload 4, 2) := by decide +kernel
theorem dX8_rowsOf_16 : decode cX8_rowsOf 16 = .ok (.imul, 1) := by decide +kernel
theorem dX8_rowsOf_17 : decode cX8_rowsOf 17 = .ok (.iconst 1, 1) := by decide +kernel
theorem dX8_rowsOf_18 : decode cX8_rowsOf 18 = .ok (.isub, 1) := by decide +kernel
theorem dX8_rowsOf_19 : decode cX8_rowsOf 19 = .ok (.goto 5, 3) := by decide +kernel
theorem dX8_rowsOf_22 : decode cX8_rowsOf 22 = .ok (.iload 4, 2) := by decide +kernel
theorem dX8_rowsOf_24 : decode cX8_rowsOf 24 = .ok (.ireturn, 1) := by decide +kernel
theorem dX8_isShape_0 : decode cX8_isShape 0 = .ok (.iload_n 0, 1) := by decide +kernel
theorem dX8_isShape_1 : decode cX8_isShape 1 = .ok (.invokestatic 103, 3) := by decide +kernel
theorem dX8_isShape_4 : decode cX8_isShape 4 = .ok (.ifCond .eq 26, 3) := by decide +kernel
theorem dX8_isShape_7 : decode cX8_isShape 7 = .ok (.iload_n 1, 1) := by decide +kernel
theorem dX8_isShape_8 : decode cX8_isShape 8 = .ok (.iconst 1, 1) := by decide +kernel
theorem dX8_isShape_9 : decode cX8_isShape 9 = .ok (.bipush 9, 2) := by decide +kernel
theorem dX8_isShape_11 : decode cX8_isShape 11 = .ok (.invokestatic 63, 3) := by decide +kernel
theorem dX8_isShape_14 : decode cX8_isShape 14 = .ok (.ifCond .eq 16, 3) := by decide +kernel
theorem dX8_isShape_17 : decode cX8_isShape 17 = .ok (.iload_n 2, 1) := by decide +kernel
theorem dX8_isShape_18 : decode cX8_isShape 18 = .ok (.iconst 0, 1) := by decide +kernel
theorem dX8_isShape_19 : decode cX8_isShape 19 = .ok (.iconst 2, 1) := by decide +kernel
theorem dX8_isShape_20 : decode cX8_isShape 20 = .ok (.invokestatic 63, 3) := by decide +kernel
theorem dX8_isShape_23 : decode cX8_isShape 23 = .ok (.ifCond .eq 7, 3) := by decide +kernel
theorem dX8_isShape_26 : decode cX8_isShape 26 = .ok (.iconst 1, 1) := by decide +kernel
theorem dX8_isShape_27 : decode cX8_isShape 27 = .ok (.goto 4, 3) := by decide +kernel
theorem dX8_isShape_30 : decode cX8_isShape 30 = .ok (.iconst 0, 1) := by decide +kernel
theorem dX8_isShape_31 : decode cX8_isShape 31 = .ok (.ireturn, 1) := by decide +kernel
theorem dX8_shape_0 : decode cX8_shape 0 = .ok (.iload_n 1, 1) := by decide +kernel
theorem dX8_shape_1 : decode cX8_shape 1 = .ok (.iload_n 2, 1) := by decide +kernel
theorem dX8_shape_2 : decode cX8_shape 2 = .ok (.iload_n 3, 1) := by decide +kernel
theorem dX8_shape_3 : decode cX8_shape 3 = .ok (.invokestatic 140, 3) := by decide +kernel
theorem dX8_shape_6 : decode cX8_shape 6 = .ok (.ifCond .ne 6, 3) := by decide +kernel
theorem dX8_shape_9 : decode cX8_shape 9 = .ok (.ldc 71, 2) := by decide +kernel
theorem dX8_shape_11 : decode cX8_shape 11 = .ok (.ireturn, 1) := by decide +kernel
theorem dX8_shape_12 : decode cX8_shape 12 = .ok (.aload_n 0, 1) := by decide +kernel
theorem dX8_shape_13 : decode cX8_shape 13 = .ok (.getfield 19, 3) := by decide +kernel
theorem dX8_shape_16 : decode cX8_shape 16 = .ok (.iload_n 1, 1) := by decide +kernel
theorem dX8_shape_17 : decode cX8_shape 17 = .ok (.iaload, 1) := by decide +kernel
theorem dX8_shape_18 : decode cX8_shape 18 = .ok (.ifCond .ne 6, 3) := by decide +kernel
theorem dX8_shape_21 : decode cX8_shape 21 = .ok (.ldc 77, 2) := by decide +kernel
theorem dX8_shape_23 : decode cX8_shape 23 = .ok (.ireturn, 1) := by decide +kernel
theorem dX8_shape_24 : decode cX8_shape 24 = .ok (.iconst 0, 1) := by decide +kernel
theorem dX8_shape_25 : decode cX8_shape 25 = .ok (.istore 4, 2) := by decide +kernel
theorem dX8_shape_27 : decode cX8_shape 27 = .ok (.iconst 0, 1) := by decide +kernel
theorem dX8_shape_28 : decode cX8_shape 28 = .ok (.istore 5, 2) := by decide +kernel
theorem dX8_shape_30 : decode cX8_shape 30 = .ok (.iload 5, 2) := by decide +kernel
theorem dX8_shape_32 : decode cX8_shape 32 = .ok (.aload_n 0, 1) := by decide +kernel
theorem dX8_shape_33 : decode cX8_shape 33 = .ok (.iload_n 1, 1) := by decide +kernel
theorem dX8_shape_34 : decode cX8_shape 34 = .ok (.iload_n 2, 1) := by decide +kernel
theorem dX8_shape_35 : decode cX8_shape 35 = .ok (.iload_n 3, 1) := by decide +kernel
theorem dX8_shape_36 : decode cX8_shape 36 = .ok (.invokevirtual 143, 3) := by decide +kernel
theorem dX8_shape_39 : decode cX8_shape 39 = .ok (.if_icmp .ge 32, 3) := by decide +kernel
theorem dX8_shape_42 : decode cX8_shape 42 = .ok (.iload 4, 2) := by decide +kernel
theorem dX8_shape_44 : decode cX8_shape 44 = .ok (.aload_n 0, 1) := by decide +kernel
theorem dX8_shape_45 : decode cX8_shape 45 = .ok (.getfield 19, 3) := by decide +kernel
theorem dX8_shape_48 : decode cX8_shape 48 = .ok (.iload_n 1, 1) := by decide +kernel
theorem dX8_shape_49 : decode cX8_shape 49 = .ok (.iaload, 1) := by decide +kernel
theorem dX8_shape_50 : decode cX8_shape 50 = .ok (.iload_n 2, 1) := by decide +kernel
theorem dX8_shape_51 : decode cX8_shape 51 = .ok (.aload_n 0, 1) := by decide +kernel
theorem dX8_shape_52 : decode cX8_shape 52 = .ok (.iload_n 1, 1) := by decide +kernel
theorem dX8_shape_53 : decode cX8_shape 53 = .ok (.iload_n 2, 1) := by decide +kernel
theorem dX8_shape_54 : decode cX8_shape 54 = .ok (.iload_n 3, 1) := by decide +kernel
theorem dX8_shape_55 : decode cX8_shape 55 = .ok (.iload 5, 2) := by decide +kernel
theorem dX8_shape_57 : decode cX8_shape 57 = .ok (.invokevirtual 146, 3) := by decide +kernel
theorem dX8_shape_60 : decode cX8_shape 60 = .ok (.imul, 1) := by decide +kernel
theorem dX8_shape_61 : decode cX8_shape 61 = .ok (.isub, 1) := by decide +kernel
theorem dX8_shape_62 : decode cX8_shape 62 = .ok (.iadd, 1) := by decide +kernel
theorem dX8_shape_63 : decode cX8_shape 63 = .ok (.istore 4, 2) := by decide +kernel
theorem dX8_shape_65 : decode cX8_shape 65 = .ok (.iinc 5 1, 3) := by decide +kernel
theorem dX8_shape_68 : decode cX8_shape 68 = .ok (.goto (-38), 3) := by decide +kernel
theorem dX8_shape_71 : decode cX8_shape 71 = .ok (.iload 4, 2) := by decide +kernel
theorem dX8_shape_73 : decode cX8_shape 73 = .ok (.ireturn, 1) := by decide +kernel
theorem dX8_shaped_0 : decode cX8_shaped 0 = .ok (.iload_n 1, 1) := by decide +kernel
theorem dX8_shaped_1 : decode cX8_shaped 1 = .ok (.iload_n 2, 1) := by decide +kernel
theorem dX8_shaped_2 : decode cX8_shaped 2 = .ok (.iload_n 3, 1) := by decide +kernel
theorem dX8_shaped_3 : decode cX8_shaped 3 = .ok (.invokestatic 140, 3) := by decide +kernel
theorem dX8_shaped_6 : decode cX8_shaped 6 = .ok (.ifCond .eq 8, 3) := by decide +kernel
theorem dX8_shaped_9 : decode cX8_shaped 9 = .ok (.iload 4, 2) := by decide +kernel
theorem dX8_shaped_11 : decode cX8_shaped 11 = .ok (.ifCond .ge 6, 3) := by decide +kernel
theorem dX8_shaped_14 : decode cX8_shaped 14 = .ok (.ldc 71, 2) := by decide +kernel
theorem dX8_shaped_16 : decode cX8_shaped 16 = .ok (.ireturn, 1) := by decide +kernel
theorem dX8_shaped_17 : decode cX8_shaped 17 = .ok (.aload_n 0, 1) := by decide +kernel
theorem dX8_shaped_18 : decode cX8_shaped 18 = .ok (.getfield 19, 3) := by decide +kernel
theorem dX8_shaped_21 : decode cX8_shaped 21 = .ok (.iload_n 1, 1) := by decide +kernel
theorem dX8_shaped_22 : decode cX8_shaped 22 = .ok (.iaload, 1) := by decide +kernel
theorem dX8_shaped_23 : decode cX8_shaped 23 = .ok (.ifCond .ne 6, 3) := by decide +kernel
theorem dX8_shaped_26 : decode cX8_shaped 26 = .ok (.ldc 77, 2) := by decide +kernel
theorem dX8_shaped_28 : decode cX8_shaped 28 = .ok (.ireturn, 1) := by decide +kernel
theorem dX8_shaped_29 : decode cX8_shaped 29 = .ok (.iload 4, 2) := by decide +kernel
theorem dX8_shaped_31 : decode cX8_shaped 31 = .ok (.istore 5, 2) := by decide +kernel
theorem dX8_shaped_33 : decode cX8_shaped 33 = .ok (.iconst 0, 1) := by decide +kernel
theorem dX8_shaped_34 : decode cX8_shaped 34 = .ok (.istore 6, 2) := by decide +kernel
theorem dX8_shaped_36 : decode cX8_shaped 36 = .ok (.iload 6, 2) := by decide +kernel
theorem dX8_shaped_38 : decode cX8_shaped 38 = .ok (.aload_n 0, 1) := by decide +kernel
theorem dX8_shaped_39 : decode cX8_shaped 39 = .ok (.iload_n 1, 1) := by decide +kernel
theorem dX8_shaped_40 : decode cX8_shaped 40 = .ok (.iload_n 2, 1) := by decide +kernel
theorem dX8_shaped_41 : decode cX8_shaped 41 = .ok (.iload_n 3, 1) := by decide +kernel
theorem dX8_shaped_42 : decode cX8_shaped 42 = .ok (.invokevirtual 143, 3) := by decide +kernel
theorem dX8_shaped_45 : decode cX8_shaped 45 = .ok (.if_icmp .ge 66, 3) := by decide +kernel
theorem dX8_shaped_48 : decode cX8_shaped 48 = .ok (.iload_n 2, 1) := by decide +kernel
theorem dX8_shaped_49 : decode cX8_shaped 49 = .ok (.aload_n 0, 1) := by decide +kernel
theorem dX8_shaped_50 : decode cX8_shaped 50 = .ok (.iload_n 1, 1) := by decide +kernel
theorem dX8_shaped_51 : decode cX8_shaped 51 = .ok (.iload_n 2, 1) := by decide +kernel
theorem dX8_shaped_52 : decode cX8_shaped 52 = .ok (.iload_n 3, 1) := by decide +kernel
theorem dX8_shaped_53 : decode cX8_shaped 53 = .ok (.iload 6, 2) := by decide +kernel
theorem dX8_shaped_55 : decode cX8_shaped 55 = .ok (.invokevirtual 146, 3) := by decide +kernel
theorem dX8_shaped_58 : decode cX8_shaped 58 = .ok (.imul, 1) := by decide +kernel
theorem dX8_shaped_59 : decode cX8_shaped 59 = .ok (.istore 7, 2) := by decide +kernel
theorem dX8_shaped_61 : decode cX8_shaped 61 = .ok (.iload 5, 2) := by decide +kernel
theorem dX8_shaped_63 : decode cX8_shaped 63 = .ok (.aload_n 0, 1) := by decide +kernel
theorem dX8_shaped_64 : decode cX8_shaped 64 = .ok (.getfield 19, 3) := by decide +kernel
theorem dX8_shaped_67 : decode cX8_shaped 67 = .ok (.iload_n 1, 1) := by decide +kernel
theorem dX8_shaped_68 : decode cX8_shaped 68 = .ok (.iaload, 1) := by decide +kernel
theorem dX8_shaped_69 : decode cX8_shaped 69 = .ok (.iload 7, 2) := by decide +kernel
theorem dX8_shaped_71 : decode cX8_shaped 71 = .ok (.isub, 1) := by decide +kernel
theorem dX8_shaped_72 : decode cX8_shaped 72 = .ok (.if_icmp .ge 19, 3) := by decide +kernel
theorem dX8_shaped_75 : decode cX8_shaped 75 = .ok (.aload_n 0, 1) := by decide +kernel
theorem dX8_shaped_76 : decode cX8_shaped 76 = .ok (.getfield 22, 3) := by decide +kernel
theorem dX8_shaped_79 : decode cX8_shaped 79 = .ok (.bipush 60, 2) := by decide +kernel
theorem dX8_shaped_81 : decode cX8_shaped 81 = .ok (.iload_n 1, 1) := by decide +kernel
theorem dX8_shaped_82 : decode cX8_shaped 82 = .ok (.imul, 1) := by decide +kernel
theorem dX8_shaped_83 : decode cX8_shaped 83 = .ok (.iload 7, 2) := by decide +kernel
theorem dX8_shaped_85 : decode cX8_shaped 85 = .ok (.iadd, 1) := by decide +kernel
theorem dX8_shaped_86 : decode cX8_shaped 86 = .ok (.iload 5, 2) := by decide +kernel
theorem dX8_shaped_88 : decode cX8_shaped 88 = .ok (.iadd, 1) := by decide +kernel
theorem dX8_shaped_89 : decode cX8_shaped 89 = .ok (.iaload, 1) := by decide +kernel
theorem dX8_shaped_90 : decode cX8_shaped 90 = .ok (.ireturn, 1) := by decide +kernel
theorem dX8_shaped_91 : decode cX8_shaped 91 = .ok (.iload 5, 2) := by decide +kernel
theorem dX8_shaped_93 : decode cX8_shaped 93 = .ok (.aload_n 0, 1) := by decide +kernel
theorem dX8_shaped_94 : decode cX8_shaped 94 = .ok (.getfield 19, 3) := by decide +kernel
theorem dX8_shaped_97 : decode cX8_shaped 97 = .ok (.iload_n 1, 1) := by decide +kernel
theorem dX8_shaped_98 : decode cX8_shaped 98 = .ok (.iaload, 1) := by decide +kernel
theorem dX8_shaped_99 : decode cX8_shaped 99 = .ok (.iload 7, 2) := by decide +kernel
theorem dX8_shaped_101 : decode cX8_shaped 101 = .ok (.isub, 1) := by decide +kernel
theorem dX8_shaped_102 : decode cX8_shaped 102 = .ok (.isub, 1) := by decide +kernel
theorem dX8_shaped_103 : decode cX8_shaped 103 = .ok (.istore 5, 2) := by decide +kernel
theorem dX8_shaped_105 : decode cX8_shaped 105 = .ok (.iinc 6 1, 3) := by decide +kernel
theorem dX8_shaped_108 : decode cX8_shaped 108 = .ok (.goto (-72), 3) := by decide +kernel
theorem dX8_shaped_111 : decode cX8_shaped 111 = .ok (.ldc 106, 2) := by decide +kernel
theorem dX8_shaped_113 : decode cX8_shaped 113 = .ok (.ireturn, 1) := by decide +kernel
theorem dX8_isSheet_0 : decode cX8_isSheet 0 = .ok (.iload_n 0, 1) := by decide +kernel
theorem dX8_isSheet_1 : decode cX8_isSheet 1 = .ok (.iconst 0, 1) := by decide +kernel
theorem dX8_isSheet_2 : decode cX8_isSheet 2 = .ok (.iconst 1, 1) := by decide +kernel
theorem dX8_isSheet_3 : decode cX8_isSheet 3 = .ok (.invokestatic 63, 3) := by decide +kernel
theorem dX8_isSheet_6 : decode cX8_isSheet 6 = .ok (.ireturn, 1) := by decide +kernel
theorem dX8_standsAt_0 : decode cX8_standsAt 0 = .ok (.iconst 0, 1) := by decide +kernel
theorem dX8_standsAt_1 : decode cX8_standsAt 1 = .ok (.istore 5, 2) := by decide +kernel
theorem dX8_standsAt_3 : decode cX8_standsAt 3 = .ok (.iconst 0, 1) := by decide +kernel
theorem dX8_standsAt_4 : decode cX8_standsAt 4 = .ok (.istore 6, 2) := by decide +kernel
theorem dX8_standsAt_6 : decode cX8_standsAt 6 = .ok (.iload 6, 2) := by decide +kernel
theorem dX8_standsAt_8 : decode cX8_standsAt 8 = .ok (.iload 4, 2) := by decide +kernel
theorem dX8_standsAt_10 : decode cX8_standsAt 10 = .ok (.iadd, 1) := by decide +kernel
theorem dX8_standsAt_11 : decode cX8_standsAt 11 = .ok (.iload_n 3, 1) := by decide +kernel
theorem dX8_standsAt_12 : decode cX8_standsAt 12 = .ok (.isub, 1) := by decide +kernel
theorem dX8_standsAt_13 : decode cX8_standsAt 13 = .ok (.aload_n 0, 1) := by decide +kernel
theorem dX8_standsAt_14 : decode cX8_standsAt 14 = .ok (.getfield 19, 3) := by decide +kernel
theorem dX8_standsAt_17 : decode cX8_standsAt 17 = .ok (.iload_n 1, 1) := by decide +kernel
theorem dX8_standsAt_18 : decode cX8_standsAt 18 = .ok (.iaload, 1) := by decide +kernel
theorem dX8_standsAt_19 : decode cX8_standsAt 19 = .ok (.if_icmp .gt 87, 3) := by decide +kernel
theorem dX8_standsAt_22 : decode cX8_standsAt 22 = .ok (.iconst 1, 1) := by decide +kernel
theorem dX8_standsAt_23 : decode cX8_standsAt 23 = .ok (.istore 7, 2) := by decide +kernel
theorem dX8_standsAt_25 : decode cX8_standsAt 25 = .ok (.iload_n 3, 1) := by decide +kernel
theorem dX8_standsAt_26 : decode cX8_standsAt 26 = .ok (.istore 8, 2) := by decide +kernel
theorem dX8_standsAt_28 : decode cX8_standsAt 28 = .ok (.iload 8, 2) := by decide +kernel
theorem dX8_standsAt_30 : decode cX8_standsAt 30 = .ok (.iload 4, 2) := by decide +kernel
theorem dX8_standsAt_32 : decode cX8_standsAt 32 = .ok (.if_icmp .ge 53, 3) := by decide +kernel
theorem dX8_standsAt_35 : decode cX8_standsAt 35 = .ok (.iload 7, 2) := by decide +kernel
theorem dX8_standsAt_37 : decode cX8_standsAt 37 = .ok (.ifCond .eq 48, 3) := by decide +kernel
theorem dX8_standsAt_40 : decode cX8_standsAt 40 = .ok (.aload_n 0, 1) := by decide +kernel
theorem dX8_standsAt_41 : decode cX8_standsAt 41 = .ok (.getfield 44, 3) := by decide +kernel
theorem dX8_standsAt_44 : decode cX8_standsAt 44 = .ok (.bipush 60, 2) := by decide +kernel
theorem dX8_standsAt_46 : decode cX8_standsAt 46 = .ok (.iload_n 2, 1) := by decide +kernel
theorem dX8_standsAt_47 : decode cX8_standsAt 47 = .ok (.imul, 1) := by decide +kernel
theorem dX8_standsAt_48 : decode cX8_standsAt 48 = .ok (.iload 8, 2) := by decide +kernel
theorem dX8_standsAt_50 : decode cX8_standsAt 50 = .ok (.iadd, 1) := by decide +kernel
theorem dX8_standsAt_51 : decode cX8_standsAt 51 = .ok (.iaload, 1) := by decide +kernel
theorem dX8_standsAt_52 : decode cX8_standsAt 52 = .ok (.aload_n 0, 1) := by decide +kernel
theorem dX8_standsAt_53 : decode cX8_standsAt 53 = .ok (.getfield 22, 3) := by decide +kernel
theorem dX8_standsAt_56 : decode cX8_standsAt 56 = .ok (.bipush 60, 2) := by decide +kernel
theorem dX8_standsAt_58 : decode cX8_standsAt 58 = .ok (.iload_n 1, 1) := by decide +kernel
theorem dX8_standsAt_59 : decode cX8_standsAt 59 = .ok (.imul, 1) := by decide +kernel
theorem dX8_standsAt_60 : decode cX8_standsAt 60 = .ok (.iload 6, 2) := by decide +kernel
theorem dX8_standsAt_62 : decode cX8_standsAt 62 = .ok (.iadd, 1) := by decide +kernel
theorem dX8_standsAt_63 : decode cX8_standsAt 63 = .ok (.iload 8, 2) := by decide +kernel
theorem dX8_standsAt_65 : decode cX8_standsAt 65 = .ok (.iadd, 1) := by decide +kernel
theorem dX8_standsAt_66 : decode cX8_standsAt 66 = .ok (.iload_n 3, 1) := by decide +kernel
theorem dX8_standsAt_67 : decode cX8_standsAt 67 = .ok (.isub, 1) := by decide +kernel
theorem dX8_standsAt_68 : decode cX8_standsAt 68 = .ok (.iaload, 1) := by decide +kernel
theorem dX8_standsAt_69 : decode cX8_standsAt 69 = .ok (.if_icmp .ne 7, 3) := by decide +kernel
theorem dX8_standsAt_72 : decode cX8_standsAt 72 = .ok (.iconst 1, 1) := by decide +kernel
theorem dX8_standsAt_73 : decode cX8_standsAt 73 = .ok (.goto 4, 3) := by decide +kernel
theorem dX8_standsAt_76 : decode cX8_standsAt 76 = .ok (.iconst 0, 1) := by decide +kernel
theorem dX8_standsAt_77 : decode cX8_standsAt 77 = .ok (.istore 7, 2) := by decide +kernel
theorem dX8_standsAt_79 : decode cX8_standsAt 79 = .ok (.iinc 8 1, 3) := by decide +kernel
theorem dX8_standsAt_82 : decode cX8_standsAt 82 = .ok (.goto (-54), 3) := by decide +kernel
theorem dX8_standsAt_85 : decode cX8_standsAt 85 = .ok (.iload 5, 2) := by decide +kernel
theorem dX8_standsAt_87 : decode cX8_standsAt 87 = .ok (.iload 7, 2) := by decide +kernel
theorem dX8_standsAt_89 : decode cX8_standsAt 89 = .ok (.ifCond .eq 7, 3) := by decide +kernel
theorem dX8_standsAt_92 : decode cX8_standsAt 92 = .ok (.iconst 1, 1) := by decide +kernel
theorem dX8_standsAt_93 : decode cX8_standsAt 93 = .ok (.goto 4, 3) := by decide +kernel
theorem dX8_standsAt_96 : decode cX8_standsAt 96 = .ok (.iconst 0, 1) := by decide +kernel
theorem dX8_standsAt_97 : decode cX8_standsAt 97 = .ok (.iadd, 1) := by decide +kernel
theorem dX8_standsAt_98 : decode cX8_standsAt 98 = .ok (.istore 5, 2) := by decide +kernel
theorem dX8_standsAt_100 : decode cX8_standsAt 100 = .ok (.iinc 6 1, 3) := by decide +kernel
theorem dX8_standsAt_103 : decode cX8_standsAt 103 = .ok (.goto (-97), 3) := by decide +kernel
theorem dX8_standsAt_106 : decode cX8_standsAt 106 = .ok (.iload 5, 2) := by decide +kernel
theorem dX8_standsAt_108 : decode cX8_standsAt 108 = .ok (.ireturn, 1) := by decide +kernel
end
section
theorem dX8_findTurn_0 : decode cX8_findTurn 0 = .ok (.iconst 0, 1) := by decide +kernel
theorem dX8_findTurn_1 : decode cX8_findTurn 1 = .ok (.istore_n 3, 1) := by decide +kernel
theorem dX8_findTurn_2 : decode cX8_findTurn 2 = .ok (.iload_n 3, 1) := by decide +kernel
theorem dX8_findTurn_3 : decode cX8_findTurn 3 = .ok (.aload_n 0, 1) := by decide +kernel
theorem dX8_findTurn_4 : decode cX8_findTurn 4 = .ok (.getfield 41, 3) := by decide +kernel
theorem dX8_findTurn_7 : decode cX8_findTurn 7 = .ok (.iload_n 2, 1) := by decide +kernel
theorem dX8_findTurn_8 : decode cX8_findTurn 8 = .ok (.iaload, 1) := by decide +kernel
theorem dX8_findTurn_9 : decode cX8_findTurn 9 = .ok (.if_icmp .gt 179, 3) := by decide +kernel
theorem dX8_findTurn_12 : decode cX8_findTurn 12 = .ok (.aload_n 0, 1) := by decide +kernel
theorem dX8_findTurn_13 : decode cX8_findTurn 13 = .ok (.getfield 50, 3) := by decide +kernel
theorem dX8_findTurn_16 : decode cX8_findTurn 16 = .ok (.iload_n 3, 1) := by decide +kernel
theorem dX8_findTurn_17 : decode cX8_findTurn 17 = .ok (.iload_n 3, 1) := by decide +kernel
theorem dX8_findTurn_18 : decode cX8_findTurn 18 = .ok (.ifCond .ne 7, 3) := by decide +kernel
theorem dX8_findTurn_21 : decode cX8_findTurn 21 = .ok (.lconst 1, 1) := by decide +kernel
theorem dX8_findTurn_22 : decode cX8_findTurn 22 = .ok (.goto 4, 3) := by decide +kernel
theorem dX8_findTurn_25 : decode cX8_findTurn 25 = .ok (.lconst 0, 1) := by decide +kernel
theorem dX8_findTurn_26 : decode cX8_findTurn 26 = .ok (.lastore, 1) := by decide +kernel
theorem dX8_findTurn_27 : decode cX8_findTurn 27 = .ok (.aload_n 0, 1) := by decide +kernel
theorem dX8_findTurn_28 : decode cX8_findTurn 28 = .ok (.getfield 54, 3) := by decide +kernel
theorem dX8_findTurn_31 : decode cX8_findTurn 31 = .ok (.iload_n 3, 1) := by decide +kernel
theorem dX8_findTurn_32 : decode cX8_findTurn 32 = .ok (.iconst 0, 1) := by decide +kernel
theorem dX8_findTurn_33 : decode cX8_findTurn 33 = .ok (.iastore, 1) := by decide +kernel
theorem dX8_findTurn_34 : decode cX8_findTurn 34 = .ok (.iconst 0, 1) := by decide +kernel
theorem dX8_findTurn_35 : decode cX8_findTurn 35 = .ok (.istore 4, 2) := by decide +kernel
theorem dX8_findTurn_37 : decode cX8_findTurn 37 = .ok (.iload 4, 2) := by decide +kernel
theorem dX8_findTurn_39 : decode cX8_findTurn 39 = .ok (.iload_n 3, 1) := by decide +kernel
theorem dX8_findTurn_40 : decode cX8_findTurn 40 = .ok (.if_icmp .ge 142, 3) := by decide +kernel
theorem dX8_findTurn_43 : decode cX8_findTurn 43 = .ok (.aload_n 0, 1) := by decide +kernel
theorem dX8_findTurn_44 : decode cX8_findTurn 44 = .ok (.getfield 50, 3) := by decide +kernel
theorem dX8_findTurn_47 : decode cX8_findTurn 47 = .ok (.iload 4, 2) := by decide +kernel
theorem dX8_findTurn_49 : decode cX8_findTurn 49 = .ok (.laload, 1) := by decide +kernel
theorem dX8_findTurn_50 : decode cX8_findTurn 50 = .ok (.lconst 0, 1) := by decide +kernel
theorem dX8_findTurn_51 : decode cX8_findTurn 51 = .ok (.lcmp, 1) := by decide +kernel
theorem dX8_findTurn_52 : decode cX8_findTurn 52 = .ok (.ifCond .ne 6, 3) := by decide +kernel
theorem dX8_findTurn_55 : decode cX8_findTurn 55 = .ok (.goto 121, 3) := by decide +kernel
theorem dX8_findTurn_58 : decode cX8_findTurn 58 = .ok (.aload_n 0, 1) := by decide +kernel
theorem dX8_findTurn_59 : decode cX8_findTurn 59 = .ok (.iload_n 1, 1) := by decide +kernel
theorem dX8_findTurn_60 : decode cX8_findTurn 60 = .ok (.iload_n 2, 1) := by decide +kernel
theorem dX8_findTurn_61 : decode cX8_findTurn 61 = .ok (.iload 4, 2) := by decide +kernel
theorem dX8_findTurn_63 : decode cX8_findTurn 63 = .ok (.iload_n 3, 1) := by decide +kernel
theorem dX8_findTurn_64 : decode cX8_findTurn 64 = .ok (.invokevirtual 150, 3) := by decide +kernel
theorem dX8_findTurn_67 : decode cX8_findTurn 67 = .ok (.istore 5, 2) := by decide +kernel
theorem dX8_findTurn_69 : decode cX8_findTurn 69 = .ok (.iload 5, 2) := by decide +kernel
theorem dX8_findTurn_71 : decode cX8_findTurn 71 = .ok (.ifCond .ne 6, 3) := by decide +kernel
theorem dX8_findTurn_74 : decode cX8_findTurn 74 = .ok (.goto 102, 3) := by decide +kernel
theorem dX8_findTurn_77 : decode cX8_findTurn 77 = .ok (.aload_n 0, 1) := by decide +kernel
theorem dX8_findTurn_78 : decode cX8_findTurn 78 = .ok (.getfield 50, 3) := by decide +kernel
theorem dX8_findTurn_81 : decode cX8_findTurn 81 = .ok (.iload_n 3, 1) := by decide +kernel
theorem dX8_findTurn_82 : decode cX8_findTurn 82 = .ok (.dup2, 1) := by decide +kernel
theorem dX8_findTurn_83 : decode cX8_findTurn 83 = .ok (.laload, 1) := by decide +kernel
theorem dX8_findTurn_84 : decode cX8_findTurn 84 = .ok (.aload_n 0, 1) := by decide +kernel
theorem dX8_findTurn_85 : decode cX8_findTurn 85 = .ok (.getfield 50, 3) := by decide +kernel
theorem dX8_findTurn_88 : decode cX8_findTurn 88 = .ok (.iload 4, 2) := by decide +kernel
theorem dX8_findTurn_90 : decode cX8_findTurn 90 = .ok (.laload, 1) := by decide +kernel
theorem dX8_findTurn_91 : decode cX8_findTurn 91 = .ok (.iload 5, 2) := by decide +kernel
theorem dX8_findTurn_93 : decode cX8_findTurn 93 = .ok (.i2l, 1) := by decide +kernel
theorem dX8_findTurn_94 : decode cX8_findTurn 94 = .ok (.lmul, 1) := by decide +kernel
theorem dX8_findTurn_95 : decode cX8_findTurn 95 = .ok (.ladd, 1) := by decide +kernel
theorem dX8_findTurn_96 : decode cX8_findTurn 96 = .ok (.lastore, 1) := by decide +kernel
theorem dX8_findTurn_97 : decode cX8_findTurn 97 = .ok (.aload_n 0, 1) := by decide +kernel
theorem dX8_findTurn_98 : decode cX8_findTurn 98 = .ok (.getfield 50, 3) := by decide +kernel
theorem dX8_findTurn_101 : decode cX8_findTurn 101 = .ok (.iload_n 3, 1) := by decide +kernel
theorem dX8_findTurn_102 : decode cX8_findTurn 102 = .ok (.aload_n 0, 1) := by decide +kernel
theorem dX8_findTurn_103 : decode cX8_findTurn 103 = .ok (.getfield 50, 3) := by decide +kernel
theorem dX8_findTurn_106 : decode cX8_findTurn 106 = .ok (.iload_n 3, 1) := by decide +kernel
theorem dX8_findTurn_107 : decode cX8_findTurn 107 = .ok (.laload, 1) := by decide +kernel
theorem dX8_findTurn_108 : decode cX8_findTurn 108 = .ok (.ldc2_w 153, 3) := by decide +kernel
theorem dX8_findTurn_111 : decode cX8_findTurn 111 = .ok (.lcmp, 1) := by decide +kernel
theorem dX8_findTurn_112 : decode cX8_findTurn 112 = .ok (.ifCond .le 9, 3) := by decide +kernel
theorem dX8_findTurn_115 : decode cX8_findTurn 115 = .ok (.ldc2_w 153, 3) := by decide +kernel
theorem dX8_findTurn_118 : decode cX8_findTurn 118 = .ok (.goto 9, 3) := by decide +kernel
theorem dX8_findTurn_121 : decode cX8_findTurn 121 = .ok (.aload_n 0, 1) := by decide +kernel
theorem dX8_findTurn_122 : decode cX8_findTurn 122 = .ok (.getfield 50, 3) := by decide +kernel
theorem dX8_findTurn_125 : decode cX8_findTurn 125 = .ok (.iload_n 3, 1) := by decide +kernel
theorem dX8_findTurn_126 : decode cX8_findTurn 126 = .ok (.laload, 1) := by decide +kernel
theorem dX8_findTurn_127 : decode cX8_findTurn 127 = .ok (.lastore, 1) := by decide +kernel
theorem dX8_findTurn_128 : decode cX8_findTurn 128 = .ok (.aload_n 0, 1) := by decide +kernel
theorem dX8_findTurn_129 : decode cX8_findTurn 129 = .ok (.getfield 54, 3) := by decide +kernel
theorem dX8_findTurn_132 : decode cX8_findTurn 132 = .ok (.iload 4, 2) := by decide +kernel
theorem dX8_findTurn_134 : decode cX8_findTurn 134 = .ok (.iaload, 1) := by decide +kernel
theorem dX8_findTurn_135 : decode cX8_findTurn 135 = .ok (.iconst 1, 1) := by decide +kernel
theorem dX8_findTurn_136 : decode cX8_findTurn 136 = .ok (.iadd, 1) := by decide +kernel
theorem dX8_findTurn_137 : decode cX8_findTurn 137 = .ok (.istore 6, 2) := by decide +kernel
theorem dX8_findTurn_139 : decode cX8_findTurn 139 = .ok (.aload_n 0, 1) := by decide +kernel
theorem dX8_findTurn_140 : decode cX8_findTurn 140 = .ok (.getfield 54, 3) := by decide +kernel
theorem dX8_findTurn_143 : decode cX8_findTurn 143 = .ok (.iload_n 3, 1) := by decide +kernel
theorem dX8_findTurn_144 : decode cX8_findTurn 144 = .ok (.aload_n 0, 1) := by decide +kernel
theorem dX8_findTurn_145 : decode cX8_findTurn 145 = .ok (.getfield 54, 3) := by decide +kernel
theorem dX8_findTurn_148 : decode cX8_findTurn 148 = .ok (.iload_n 3, 1) := by decide +kernel
theorem dX8_findTurn_149 : decode cX8_findTurn 149 = .ok (.iaload, 1) := by decide +kernel
theorem dX8_findTurn_150 : decode cX8_findTurn 150 = .ok (.ifCond .eq 14, 3) := by decide +kernel
theorem dX8_findTurn_153 : decode cX8_findTurn 153 = .ok (.iload 6, 2) := by decide +kernel
theorem dX8_findTurn_155 : decode cX8_findTurn 155 = .ok (.aload_n 0, 1) := by decide +kernel
theorem dX8_findTurn_156 : decode cX8_findTurn 156 = .ok (.getfield 54, 3) := by decide +kernel
theorem dX8_findTurn_159 : decode cX8_findTurn 159 = .ok (.iload_n 3, 1) := by decide +kernel
theorem dX8_findTurn_160 : decode cX8_findTurn 160 = .ok (.iaload, 1) := by decide +kernel
theorem dX8_findTurn_161 : decode cX8_findTurn 161 = .ok (.if_icmp .ge 8, 3) := by decide +kernel
theorem dX8_findTurn_164 : decode cX8_findTurn 164 = .ok (.iload 6, 2) := by decide +kernel
theorem dX8_findTurn_166 : decode cX8_findTurn 166 = .ok (.goto 9, 3) := by decide +kernel
theorem dX8_findTurn_169 : decode cX8_findTurn 169 = .ok (.aload_n 0, 1) := by decide +kernel
theorem dX8_findTurn_170 : decode cX8_findTurn 170 = .ok (.getfield 54, 3) := by decide +kernel
theorem dX8_findTurn_173 : decode cX8_findTurn 173 = .ok (.iload_n 3, 1) := by decide +kernel
theorem dX8_findTurn_174 : decode cX8_findTurn 174 = .ok (.iaload, 1) := by decide +kernel
theorem dX8_findTurn_175 : decode cX8_findTurn 175 = .ok (.iastore, 1) := by decide +kernel
theorem dX8_findTurn_176 : decode cX8_findTurn 176 = .ok (.iinc 4 1, 3) := by decide +kernel
theorem dX8_findTurn_179 : decode cX8_findTurn 179 = .ok (.goto (-142), 3) := by decide +kernel
theorem dX8_findTurn_182 : decode cX8_findTurn 182 = .ok (.iinc 3 1, 3) := by decide +kernel
theorem dX8_findTurn_185 : decode cX8_findTurn 185 = .ok (.goto (-183), 3) := by decide +kernel
theorem dX8_findTurn_188 : decode cX8_findTurn 188 = .ok (.return_, 1) := by decide +kernel
theorem dX8_ways_0 : decode cX8_ways 0 = .ok (.iload_n 1, 1) := by decide +kernel
theorem dX8_ways_1 : decode cX8_ways 1 = .ok (.invokestatic 103, 3) := by decide +kernel
theorem dX8_ways_4 : decode cX8_ways 4 = .ok (.ifCond .eq 10, 3) := by decide +kernel
theorem dX8_ways_7 : decode cX8_ways 7 = .ok (.iload_n 2, 1) := by decide +kernel
theorem dX8_ways_8 : decode cX8_ways 8 = .ok (.invokestatic 155, 3) := by decide +kernel
theorem dX8_ways_11 : decode cX8_ways 11 = .ok (.ifCond .ne 6, 3) := by decide +kernel
theorem dX8_ways_14 : decode cX8_ways 14 = .ok (.ldc 71, 2) := by decide +kernel
theorem dX8_ways_16 : decode cX8_ways 16 = .ok (.ireturn, 1) := by decide +kernel
theorem dX8_ways_17 : decode cX8_ways 17 = .ok (.aload_n 0, 1) := by decide +kernel
theorem dX8_ways_18 : decode cX8_ways 18 = .ok (.getfield 41, 3) := by decide +kernel
theorem dX8_ways_21 : decode cX8_ways 21 = .ok (.iload_n 2, 1) := by decide +kernel
theorem dX8_ways_22 : decode cX8_ways 22 = .ok (.iaload, 1) := by decide +kernel
theorem dX8_ways_23 : decode cX8_ways 23 = .ok (.ifCond .ge 6, 3) := by decide +kernel
theorem dX8_ways_26 : decode cX8_ways 26 = .ok (.ldc 158, 2) := by decide +kernel
theorem dX8_ways_28 : decode cX8_ways 28 = .ok (.ireturn, 1) := by decide +kernel
theorem dX8_ways_29 : decode cX8_ways 29 = .ok (.aload_n 0, 1) := by decide +kernel
theorem dX8_ways_30 : decode cX8_ways 30 = .ok (.iload_n 1, 1) := by decide +kernel
theorem dX8_ways_31 : decode cX8_ways 31 = .ok (.iload_n 2, 1) := by decide +kernel
theorem dX8_ways_32 : decode cX8_ways 32 = .ok (.invokevirtual 159, 3) := by decide +kernel
theorem dX8_ways_35 : decode cX8_ways 35 = .ok (.aload_n 0, 1) := by decide +kernel
theorem dX8_ways_36 : decode cX8_ways 36 = .ok (.getfield 41, 3) := by decide +kernel
theorem dX8_ways_39 : decode cX8_ways 39 = .ok (.iload_n 2, 1) := by decide +kernel
theorem dX8_ways_40 : decode cX8_ways 40 = .ok (.iaload, 1) := by decide +kernel
theorem dX8_ways_41 : decode cX8_ways 41 = .ok (.ifCond .ne 7, 3) := by decide +kernel
theorem dX8_ways_44 : decode cX8_ways 44 = .ok (.iconst 0, 1) := by decide +kernel
theorem dX8_ways_45 : decode cX8_ways 45 = .ok (.goto 15, 3) := by decide +kernel
theorem dX8_ways_48 : decode cX8_ways 48 = .ok (.aload_n 0, 1) := by decide +kernel
theorem dX8_ways_49 : decode cX8_ways 49 = .ok (.getfield 50, 3) := by decide +kernel
theorem dX8_ways_52 : decode cX8_ways 52 = .ok (.aload_n 0, 1) := by decide +kernel
theorem dX8_ways_53 : decode cX8_ways 53 = .ok (.getfield 41, 3) := by decide +kernel
theorem dX8_ways_56 : decode cX8_ways 56 = .ok (.iload_n 2, 1) := by decide +kernel
theorem dX8_ways_57 : decode cX8_ways 57 = .ok (.iaload, 1) := by decide +kernel
theorem dX8_ways_58 : decode cX8_ways 58 = .ok (.laload, 1) := by decide +kernel
theorem dX8_ways_59 : decode cX8_ways 59 = .ok (.l2i, 1) := by decide +kernel
theorem dX8_ways_60 : decode cX8_ways 60 = .ok (.ireturn, 1) := by decide +kernel
theorem dX8_cuts_0 : decode cX8_cuts 0 = .ok (.iload_n 1, 1) := by decide +kernel
theorem dX8_cuts_1 : decode cX8_cuts 1 = .ok (.invokestatic 103, 3) := by decide +kernel
theorem dX8_cuts_4 : decode cX8_cuts 4 = .ok (.ifCond .eq 10, 3) := by decide +kernel
theorem dX8_cuts_7 : decode cX8_cuts 7 = .ok (.iload_n 2, 1) := by decide +kernel
theorem dX8_cuts_8 : decode cX8_cuts 8 = .ok (.invokestatic 155, 3) := by decide +kernel
theorem dX8_cuts_11 : decode cX8_cuts 11 = .ok (.ifCond .ne 6, 3) := by decide +kernel
theorem dX8_cuts_14 : decode cX8_cuts 14 = .ok (.ldc 71, 2) := by decide +kernel
theorem dX8_cuts_16 : decode cX8_cuts 16 = .ok (.ireturn, 1) := by decide +kernel
theorem dX8_cuts_17 : decode cX8_cuts 17 = .ok (.aload_n 0, 1) := by decide +kernel
theorem dX8_cuts_18 : decode cX8_cuts 18 = .ok (.getfield 41, 3) := by decide +kernel
theorem dX8_cuts_21 : decode cX8_cuts 21 = .ok (.iload_n 2, 1) := by decide +kernel
theorem dX8_cuts_22 : decode cX8_cuts 22 = .ok (.iaload, 1) := by decide +kernel
theorem dX8_cuts_23 : decode cX8_cuts 23 = .ok (.ifCond .ge 6, 3) := by decide +kernel
theorem dX8_cuts_26 : decode cX8_cuts 26 = .ok (.ldc 158, 2) := by decide +kernel
theorem dX8_cuts_28 : decode cX8_cuts 28 = .ok (.ireturn, 1) := by decide +kernel
theorem dX8_cuts_29 : decode cX8_cuts 29 = .ok (.aload_n 0, 1) := by decide +kernel
theorem dX8_cuts_30 : decode cX8_cuts 30 = .ok (.iload_n 1, 1) := by decide +kernel
theorem dX8_cuts_31 : decode cX8_cuts 31 = .ok (.iload_n 2, 1) := by decide +kernel
theorem dX8_cuts_32 : decode cX8_cuts 32 = .ok (.invokevirtual 159, 3) := by decide +kernel
theorem dX8_cuts_35 : decode cX8_cuts 35 = .ok (.aload_n 0, 1) := by decide +kernel
theorem dX8_cuts_36 : decode cX8_cuts 36 = .ok (.getfield 41, 3) := by decide +kernel
theorem dX8_cuts_39 : decode cX8_cuts 39 = .ok (.iload_n 2, 1) := by decide +kernel
theorem dX8_cuts_40 : decode cX8_cuts 40 = .ok (.iaload, 1) := by decide +kernel
theorem dX8_cuts_41 : decode cX8_cuts 41 = .ok (.ifCond .eq 19, 3) := by decide +kernel
theorem dX8_cuts_44 : decode cX8_cuts 44 = .ok (.aload_n 0, 1) := by decide +kernel
theorem dX8_cuts_45 : decode cX8_cuts 45 = .ok (.getfield 50, 3) := by decide +kernel
theorem dX8_cuts_48 : decode cX8_cuts 48 = .ok (.aload_n 0, 1) := by decide +kernel
theorem dX8_cuts_49 : decode cX8_cuts 49 = .ok (.getfield 41, 3) := by decide +kernel
theorem dX8_cuts_52 : decode cX8_cuts 52 = .ok (.iload_n 2, 1) := by decide +kernel
theorem dX8_cuts_53 : decode cX8_cuts 53 = .ok (.iaload, 1) := by decide +kernel
theorem dX8_cuts_54 : decode cX8_cuts 54 = .ok (.laload, 1) := by decide +kernel
theorem dX8_cuts_55 : decode cX8_cuts 55 = .ok (.lconst 0, 1) := by decide +kernel
theorem dX8_cuts_56 : decode cX8_cuts 56 = .ok (.lcmp, 1) := by decide +kernel
theorem dX8_cuts_57 : decode cX8_cuts 57 = .ok (.ifCond .ne 8, 3) := by decide +kernel
theorem dX8_cuts_60 : decode cX8_cuts 60 = .ok (.ldc 106, 2) := by decide +kernel
theorem dX8_cuts_62 : decode cX8_cuts 62 = .ok (.goto 14, 3) := by decide +kernel
theorem dX8_cuts_65 : decode cX8_cuts 65 = .ok (.aload_n 0, 1) := by decide +kernel
theorem dX8_cuts_66 : decode cX8_cuts 66 = .ok (.getfield 54, 3) := by decide +kernel
theorem dX8_cuts_69 : decode cX8_cuts 69 = .ok (.aload_n 0, 1) := by decide +kernel
theorem dX8_cuts_70 : decode cX8_cuts 70 = .ok (.getfield 41, 3) := by decide +kernel
theorem dX8_cuts_73 : decode cX8_cuts 73 = .ok (.iload_n 2, 1) := by decide +kernel
theorem dX8_cuts_74 : decode cX8_cuts 74 = .ok (.iaload, 1) := by decide +kernel
theorem dX8_cuts_75 : decode cX8_cuts 75 = .ok (.iaload, 1) := by decide +kernel
theorem dX8_cuts_76 : decode cX8_cuts 76 = .ok (.ireturn, 1) := by decide +kernel
theorem dX8_hand_0 : decode cX8_hand 0 = .ok (.iload_n 1, 1) := by decide +kernel
theorem dX8_hand_1 : decode cX8_hand 1 = .ok (.iconst 0, 1) := by decide +kernel
theorem dX8_hand_2 : decode cX8_hand 2 = .ok (.bipush 7, 2) := by decide +kernel
theorem dX8_hand_4 : decode cX8_hand 4 = .ok (.invokestatic 63, 3) := by decide +kernel
theorem dX8_hand_7 : decode cX8_hand 7 = .ok (.ifCond .eq 12, 3) := by decide +kernel
theorem dX8_hand_10 : decode cX8_hand 10 = .ok (.iload_n 2, 1) := by decide +kernel
theorem dX8_hand_11 : decode cX8_hand 11 = .ok (.iconst 0, 1) := by decide +kernel
theorem dX8_hand_12 : decode cX8_hand 12 = .ok (.iconst 3, 1) := by decide +kernel
theorem dX8_hand_13 : decode cX8_hand 13 = .ok (.invokestatic 63, 3) := by decide +kernel
theorem dX8_hand_16 : decode cX8_hand 16 = .ok (.ifCond .ne 6, 3) := by decide +kernel
theorem dX8_hand_19 : decode cX8_hand 19 = .ok (.ldc 71, 2) := by decide +kernel
theorem dX8_hand_21 : decode cX8_hand 21 = .ok (.ireturn, 1) := by decide +kernel
theorem dX8_hand_22 : decode cX8_hand 22 = .ok (.aload_n 0, 1) := by decide +kernel
theorem dX8_hand_23 : decode cX8_hand 23 = .ok (.getfield 25, 3) := by decide +kernel
theorem dX8_hand_26 : decode cX8_hand 26 = .ok (.iload_n 1, 1) := by decide +kernel
theorem dX8_hand_27 : decode cX8_hand 27 = .ok (.iaload, 1) := by decide +kernel
theorem dX8_hand_28 : decode cX8_hand 28 = .ok (.istore_n 3, 1) := by decide +kernel
theorem dX8_hand_29 : decode cX8_hand 29 = .ok (.aload_n 0, 1) := by decide +kernel
theorem dX8_hand_30 : decode cX8_hand 30 = .ok (.getfield 25, 3) := by decide +kernel
theorem dX8_hand_33 : decode cX8_hand 33 = .ok (.iload_n 1, 1) := by decide +kernel
theorem dX8_hand_34 : decode cX8_hand 34 = .ok (.iload_n 2, 1) := by decide +kernel
theorem dX8_hand_35 : decode cX8_hand 35 = .ok (.iastore, 1) := by decide +kernel
theorem dX8_hand_36 : decode cX8_hand 36 = .ok (.iload_n 3, 1) := by decide +kernel
theorem dX8_hand_37 : decode cX8_hand 37 = .ok (.ireturn, 1) := by decide +kernel
theorem dX8_handOf_0 : decode cX8_handOf 0 = .ok (.aload_n 0, 1) := by decide +kernel
theorem dX8_handOf_1 : decode cX8_handOf 1 = .ok (.getfield 22, 3) := by decide +kernel
theorem dX8_handOf_4 : decode cX8_handOf 4 = .ok (.bipush 60, 2) := by decide +kernel
theorem dX8_handOf_6 : decode cX8_handOf 6 = .ok (.iload_n 1, 1) := by decide +kernel
theorem dX8_handOf_7 : decode cX8_handOf 7 = .ok (.imul, 1) := by decide +kernel
theorem dX8_handOf_8 : decode cX8_handOf 8 = .ok (.iload_n 2, 1) := by decide +kernel
theorem dX8_handOf_9 : decode cX8_handOf 9 = .ok (.iadd, 1) := by decide +kernel
theorem dX8_handOf_10 : decode cX8_handOf 10 = .ok (.iaload, 1) := by decide +kernel
theorem dX8_handOf_11 : decode cX8_handOf 11 = .ok (.istore_n 3, 1) := by decide +kernel
theorem dX8_handOf_12 : decode cX8_handOf 12 = .ok (.iload_n 3, 1) := by decide +kernel
theorem dX8_handOf_13 : decode cX8_handOf 13 = .ok (.bipush 8, 2) := by decide +kernel
theorem dX8_handOf_15 : decode cX8_handOf 15 = .ok (.if_icmp .ne 7, 3) := by decide +kernel
theorem dX8_handOf_18 : decode cX8_handOf 18 = .ok (.iconst 4, 1) := by decide +kernel
theorem dX8_handOf_19 : decode cX8_handOf 19 = .ok (.goto 9, 3) := by decide +kernel
theorem dX8_handOf_22 : decode cX8_handOf 22 = .ok (.aload_n 0, 1) := by decide +kernel
theorem dX8_handOf_23 : decode cX8_handOf 23 = .ok (.getfield 25, 3) := by decide +kernel
theorem dX8_handOf_26 : decode cX8_handOf 26 = .ok (.iload_n 3, 1) := by decide +kernel
theorem dX8_handOf_27 : decode cX8_handOf 27 = .ok (.iaload, 1) := by decide +kernel
theorem dX8_handOf_28 : decode cX8_handOf 28 = .ok (.ireturn, 1) := by decide +kernel
theorem dX8_mayBe_0 : decode cX8_mayBe 0 = .ok (.aload_n 0, 1) := by decide +kernel
theorem dX8_mayBe_1 : decode cX8_mayBe 1 = .ok (.iload_n 1, 1) := by decide +kernel
theorem dX8_mayBe_2 : decode cX8_mayBe 2 = .ok (.iload_n 2, 1) := by decide +kernel
theorem dX8_mayBe_3 : decode cX8_mayBe 3 = .ok (.invokevirtual 163, 3) := by decide +kernel
theorem dX8_mayBe_6 : decode cX8_mayBe 6 = .ok (.istore 4, 2) := by decide +kernel
theorem dX8_mayBe_8 : decode cX8_mayBe 8 = .ok (.iload 4, 2) := by decide +kernel
theorem dX8_mayBe_10 : decode cX8_mayBe 10 = .ok (.iconst 3, 1) := by decide +kernel
theorem dX8_mayBe_11 : decode cX8_mayBe 11 = .ok (.if_icmp .ne 16, 3) := by decide +kernel
theorem dX8_mayBe_14 : decode cX8_mayBe 14 = .ok (.iload_n 3, 1) := by decide +kernel
theorem dX8_mayBe_15 : decode cX8_mayBe 15 = .ok (.iconst 2, 1) := by decide +kernel
theorem dX8_mayBe_16 : decode cX8_mayBe 16 = .ok (.if_icmp .ge 7, 3) := by decide +kernel
theorem dX8_mayBe_19 : decode cX8_mayBe 19 = .ok (.iconst 1, 1) := by decide +kernel
theorem dX8_mayBe_20 : decode cX8_mayBe 20 = .ok (.goto 18, 3) := by decide +kernel
theorem dX8_mayBe_23 : decode cX8_mayBe 23 = .ok (.iconst 0, 1) := by decide +kernel
theorem dX8_mayBe_24 : decode cX8_mayBe 24 = .ok (.goto 14, 3) := by decide +kernel
theorem dX8_mayBe_27 : decode cX8_mayBe 27 = .ok (.iload 4, 2) := by decide +kernel
theorem dX8_mayBe_29 : decode cX8_mayBe 29 = .ok (.iload_n 3, 1) := by decide +kernel
theorem dX8_mayBe_30 : decode cX8_mayBe 30 = .ok (.if_icmp .ne 7, 3) := by decide +kernel
theorem dX8_mayBe_33 : decode cX8_mayBe 33 = .ok (.iconst 1, 1) := by decide +kernel
theorem dX8_mayBe_34 : decode cX8_mayBe 34 = .ok (.goto 4, 3) := by decide +kernel
theorem dX8_mayBe_37 : decode cX8_mayBe 37 = .ok (.iconst 0, 1) := by decide +kernel
theorem dX8_mayBe_38 : decode cX8_mayBe 38 = .ok (.ireturn, 1) := by decide +kernel
theorem dX8_strain_0 : decode cX8_strain 0 = .ok (.iload_n 0, 1) := by decide +kernel
theorem dX8_strain_1 : decode cX8_strain 1 = .ok (.iconst 4, 1) := by decide +kernel
theorem dX8_strain_2 : decode cX8_strain 2 = .ok (.if_icmp .ge 27, 3) := by decide +kernel
theorem dX8_strain_5 : decode cX8_strain 5 = .ok (.iload_n 1, 1) := by decide +kernel
theorem dX8_strain_6 : decode cX8_strain 6 = .ok (.iconst 4, 1) := by decide +kernel
theorem dX8_strain_7 : decode cX8_strain 7 = .ok (.if_icmp .ge 22, 3) := by decide +kernel
theorem dX8_strain_10 : decode cX8_strain 10 = .ok (.iload_n 0, 1) := by decide +kernel
theorem dX8_strain_11 : decode cX8_strain 11 = .ok (.iload_n 1, 1) := by decide +kernel
theorem dX8_strain_12 : decode cX8_strain 12 = .ok (.if_icmp .eq 13, 3) := by decide +kernel
theorem dX8_strain_15 : decode cX8_strain 15 = .ok (.iload_n 0, 1) := by decide +kernel
theorem dX8_strain_16 : decode cX8_strain 16 = .ok (.iconst 2, 1) := by decide +kernel
theorem dX8_strain_17 : decode cX8_strain 17 = .ok (.if_icmp .eq 8, 3) := by decide +kernel
theorem dX8_strain_20 : decode cX8_strain 20 = .ok (.iload_n 1, 1) := by decide +kernel
theorem dX8_strain_21 : decode cX8_strain 21 = .ok (.iconst 2, 1) := by decide +kernel
theorem dX8_strain_22 : decode cX8_strain 22 = .ok (.if_icmp .ne 7, 3) := by decide +kernel
theorem dX8_strain_25 : decode cX8_strain 25 = .ok (.iconst 1, 1) := by decide +kernel
theorem dX8_strain_26 : decode cX8_strain 26 = .ok (.goto 4, 3) := by decide +kernel
theorem dX8_strain_29 : decode cX8_strain 29 = .ok (.iconst 0, 1) := by decide +kernel
theorem dX8_strain_30 : decode cX8_strain 30 = .ok (.ireturn, 1) := by decide +kernel
theorem dX8_findPlay_0 : decode cX8_findPlay 0 = .ok (.aload_n 0, 1) := by decide +kernel
theorem dX8_findPlay_1 : decode cX8_findPlay 1 = .ok (.getfield 19, 3) := by decide +kernel
theorem dX8_findPlay_4 : decode cX8_findPlay 4 = .ok (.iload_n 1, 1) := by decide +kernel
theorem dX8_findPlay_5 : decode cX8_findPlay 5 = .ok (.iaload, 1) := by decide +kernel
theorem dX8_findPlay_6 : decode cX8_findPlay 6 = .ok (.istore_n 2, 1) := by decide +kernel
theorem dX8_findPlay_7 : decode cX8_findPlay 7 = .ok (.iload_n 2, 1) := by decide +kernel
theorem dX8_findPlay_8 : decode cX8_findPlay 8 = .ok (.iconst 1, 1) := by decide +kernel
theorem dX8_findPlay_9 : decode cX8_findPlay 9 = .ok (.isub, 1) := by decide +kernel
theorem dX8_findPlay_10 : decode cX8_findPlay 10 = .ok (.istore_n 3, 1) := by decide +kernel
theorem dX8_findPlay_11 : decode cX8_findPlay 11 = .ok (.iload_n 3, 1) := by decide +kernel
theorem dX8_findPlay_12 : decode cX8_findPlay 12 = .ok (.ifCond .lt 130, 3) := by decide +kernel
theorem dX8_findPlay_15 : decode cX8_findPlay 15 = .ok (.iconst 0, 1) := by decide +kernel
theorem dX8_findPlay_16 : decode cX8_findPlay 16 = .ok (.istore 4, 2) := by decide +kernel
theorem dX8_findPlay_18 : decode cX8_findPlay 18 = .ok (.iload 4, 2) := by decide +kernel
theorem dX8_findPlay_20 : decode cX8_findPlay 20 = .ok (.iconst 5, 1) := by decide +kernel
theorem dX8_findPlay_21 : decode cX8_findPlay 21 = .ok (.if_icmp .ge 115, 3) := by decide +kernel
theorem dX8_findPlay_24 : decode cX8_findPlay 24 = .ok (.iconst (-1), 1) := by decide +kernel
theorem dX8_findPlay_25 : decode cX8_findPlay 25 = .ok (.istore 5, 2) := by decide +kernel
theorem dX8_findPlay_27 : decode cX8_findPlay 27 = .ok (.iconst 0, 1) := by decide +kernel
theorem dX8_findPlay_28 : decode cX8_findPlay 28 = .ok (.istore 6, 2) := by decide +kernel
theorem dX8_findPlay_30 : decode cX8_findPlay 30 = .ok (.iload 6, 2) := by decide +kernel
theorem dX8_findPlay_32 : decode cX8_findPlay 32 = .ok (.iconst 5, 1) := by decide +kernel
theorem dX8_findPlay_33 : decode cX8_findPlay 33 = .ok (.if_icmp .ge 73, 3) := by decide +kernel
theorem dX8_findPlay_36 : decode cX8_findPlay 36 = .ok (.iload_n 3, 1) := by decide +kernel
theorem dX8_findPlay_37 : decode cX8_findPlay 37 = .ok (.iload_n 2, 1) := by decide +kernel
theorem dX8_findPlay_38 : decode cX8_findPlay 38 = .ok (.iconst 1, 1) := by decide +kernel
theorem dX8_findPlay_39 : decode cX8_findPlay 39 = .ok (.isub, 1) := by decide +kernel
theorem dX8_findPlay_40 : decode cX8_findPlay 40 = .ok (.if_icmp .ge 66, 3) := by decide +kernel
theorem dX8_findPlay_43 : decode cX8_findPlay 43 = .ok (.aload_n 0, 1) := by decide +kernel
theorem dX8_findPlay_44 : decode cX8_findPlay 44 = .ok (.iload_n 1, 1) := by decide +kernel
theorem dX8_findPlay_45 : decode cX8_findPlay 45 = .ok (.iload_n 3, 1) := by decide +kernel
theorem dX8_findPlay_46 : decode cX8_findPlay 46 = .ok (.iconst 1, 1) := by decide +kernel
theorem dX8_findPlay_47 : decode cX8_findPlay 47 = .ok (.iadd, 1) := by decide +kernel
theorem dX8_findPlay_48 : decode cX8_findPlay 48 = .ok (.iload 6, 2) := by decide +kernel
theorem dX8_findPlay_50 : decode cX8_findPlay 50 = .ok (.invokevirtual 166, 3) := by decide +kernel
theorem dX8_findPlay_53 : decode cX8_findPlay 53 = .ok (.ifCond .eq 47, 3) := by decide +kernel
theorem dX8_findPlay_56 : decode cX8_findPlay 56 = .ok (.aload_n 0, 1) := by decide +kernel
theorem dX8_findPlay_57 : decode cX8_findPlay 57 = .ok (.getfield 57, 3) := by decide +kernel
theorem dX8_findPlay_60 : decode cX8_findPlay 60 = .ok (.iconst 5, 1) := by decide +kernel
theorem dX8_findPlay_61 : decode cX8_findPlay 61 = .ok (.iload_n 3, 1) := by decide +kernel
theorem dX8_findPlay_62 : decode cX8_findPlay 62 = .ok (.iconst 1, 1) := by decide +kernel
theorem dX8_findPlay_63 : decode cX8_findPlay 63 = .ok (.iadd, 1) := by decide +kernel
theorem dX8_findPlay_64 : decode cX8_findPlay 64 = .ok (.imul, 1) := by decide +kernel
theorem dX8_findPlay_65 : decode cX8_findPlay 65 = .ok (.iload 6, 2) := by decide +kernel
theorem dX8_findPlay_67 : decode cX8_findPlay 67 = .ok (.iadd, 1) := by decide +kernel
theorem dX8_findPlay_68 : decode cX8_findPlay 68 = .ok (.iaload, 1) := by decide +kernel
theorem dX8_findPlay_69 : decode cX8_findPlay 69 = .ok (.iload 4, 2) := by decide +kernel
theorem dX8_findPlay_71 : decode cX8_findPlay 71 = .ok (.iload 6, 2) := by decide +kernel
theorem dX8_findPlay_73 : decode cX8_findPlay 73 = .ok (.invokestatic 169, 3) := by decide +kernel
theorem dX8_findPlay_76 : decode cX8_findPlay 76 = .ok (.iadd, 1) := by decide +kernel
theorem dX8_findPlay_77 : decode cX8_findPlay 77 = .ok (.istore 7, 2) := by decide +kernel
theorem dX8_findPlay_79 : decode cX8_findPlay 79 = .ok (.iload 5, 2) := by decide +kernel
theorem dX8_findPlay_81 : decode cX8_findPlay 81 = .ok (.ifCond .lt 10, 3) := by decide +kernel
theorem dX8_findPlay_84 : decode cX8_findPlay 84 = .ok (.iload 7, 2) := by decide +kernel
theorem dX8_findPlay_86 : decode cX8_findPlay 86 = .ok (.iload 5, 2) := by decide +kernel
theorem dX8_findPlay_88 : decode cX8_findPlay 88 = .ok (.if_icmp .ge 8, 3) := by decide +kernel
theorem dX8_findPlay_91 : decode cX8_findPlay 91 = .ok (.iload 7, 2) := by decide +kernel
theorem dX8_findPlay_93 : decode cX8_findPlay 93 = .ok (.goto 5, 3) := by decide +kernel
theorem dX8_findPlay_96 : decode cX8_findPlay 96 = .ok (.iload 5, 2) := by decide +kernel
theorem dX8_findPlay_98 : decode cX8_findPlay 98 = .ok (.istore 5, 2) := by decide +kernel
theorem dX8_findPlay_100 : decode cX8_findPlay 100 = .ok (.iinc 6 1, 3) := by decide +kernel
theorem dX8_findPlay_103 : decode cX8_findPlay 103 = .ok (.goto (-73), 3) := by decide +kernel
theorem dX8_findPlay_106 : decode cX8_findPlay 106 = .ok (.aload_n 0, 1) := by decide +kernel
theorem dX8_findPlay_107 : decode cX8_findPlay 107 = .ok (.getfield 57, 3) := by decide +kernel
theorem dX8_findPlay_110 : decode cX8_findPlay 110 = .ok (.iconst 5, 1) := by decide +kernel
theorem dX8_findPlay_111 : decode cX8_findPlay 111 = .ok (.iload_n 3, 1) := by decide +kernel
theorem dX8_findPlay_112 : decode cX8_findPlay 112 = .ok (.imul, 1) := by decide +kernel
theorem dX8_findPlay_113 : decode cX8_findPlay 113 = .ok (.iload 4, 2) := by decide +kernel
theorem dX8_findPlay_115 : decode cX8_findPlay 115 = .ok (.iadd, 1) := by decide +kernel
theorem dX8_findPlay_116 : decode cX8_findPlay 116 = .ok (.iload_n 3, 1) := by decide +kernel
theorem dX8_findPlay_117 : decode cX8_findPlay 117 = .ok (.iload_n 2, 1) := by decide +kernel
theorem dX8_findPlay_118 : decode cX8_findPlay 118 = .ok (.iconst 1, 1) := by decide +kernel
theorem dX8_findPlay_119 : decode cX8_findPlay 119 = .ok (.isub, 1) := by decide +kernel
theorem dX8_findPlay_120 : decode cX8_findPlay 120 = .ok (.if_icmp .ne 7, 3) := by decide +kernel
theorem dX8_findPlay_123 : decode cX8_findPlay 123 = .ok (.iconst 0, 1) := by decide +kernel
theorem dX8_findPlay_124 : decode cX8_findPlay 124 = .ok (.goto 5, 3) := by decide +kernel
theorem dX8_findPlay_127 : decode cX8_findPlay 127 = .ok (.iload 5, 2) := by decide +kernel
theorem dX8_findPlay_129 : decode cX8_findPlay 129 = .ok (.iastore, 1) := by decide +kernel
theorem dX8_findPlay_130 : decode cX8_findPlay 130 = .ok (.iinc 4 1, 3) := by decide +kernel
theorem dX8_findPlay_133 : decode cX8_findPlay 133 = .ok (.goto (-115), 3) := by decide +kernel
theorem dX8_findPlay_136 : decode cX8_findPlay 136 = .ok (.iinc 3 (-1), 3) := by decide +kernel
theorem dX8_findPlay_139 : decode cX8_findPlay 139 = .ok (.goto (-128), 3) := by decide +kernel
theorem dX8_findPlay_142 : decode cX8_findPlay 142 = .ok (.iconst 4, 1) := by decide +kernel
theorem dX8_findPlay_143 : decode cX8_findPlay 143 = .ok (.istore_n 3, 1) := by decide +kernel
theorem dX8_findPlay_144 : decode cX8_findPlay 144 = .ok (.iconst 0, 1) := by decide +kernel
theorem dX8_findPlay_145 : decode cX8_findPlay 145 = .ok (.istore 4, 2) := by decide +kernel
theorem dX8_findPlay_147 : decode cX8_findPlay 147 = .ok (.iload 4, 2) := by decide +kernel
theorem dX8_findPlay_149 : decode cX8_findPlay 149 = .ok (.iload_n 2, 1) := by decide +kernel
theorem dX8_findPlay_150 : decode cX8_findPlay 150 = .ok (.if_icmp .ge 101, 3) := by decide +kernel
theorem dX8_findPlay_153 : decode cX8_findPlay 153 = .ok (.iconst (-1), 1) := by decide +kernel
theorem dX8_findPlay_154 : decode cX8_findPlay 154 = .ok (.istore 5, 2) := by decide +kernel
theorem dX8_findPlay_156 : decode cX8_findPlay 156 = .ok (.iconst 0, 1) := by decide +kernel
theorem dX8_findPlay_157 : decode cX8_findPlay 157 = .ok (.istore 6, 2) := by decide +kernel
theorem dX8_findPlay_159 : decode cX8_findPlay 159 = .ok (.iload 6, 2) := by decide +kernel
theorem dX8_findPlay_161 : decode cX8_findPlay 161 = .ok (.iconst 5, 1) := by decide +kernel
theorem dX8_findPlay_162 : decode cX8_findPlay 162 = .ok (.if_icmp .ge 71, 3) := by decide +kernel
theorem dX8_findPlay_165 : decode cX8_findPlay 165 = .ok (.aload_n 0, 1) := by decide +kernel
theorem dX8_findPlay_166 : decode cX8_findPlay 166 = .ok (.iload_n 1, 1) := by decide +kernel
theorem dX8_findPlay_167 : decode cX8_findPlay 167 = .ok (.iload 4, 2) := by decide +kernel
theorem dX8_findPlay_169 : decode cX8_findPlay 169 = .ok (.iload 6, 2) := by decide +kernel
theorem dX8_findPlay_171 : decode cX8_findPlay 171 = .ok (.invokevirtual 166, 3) := by decide +kernel
theorem dX8_findPlay_174 : decode cX8_findPlay 174 = .ok (.ifCond .eq 53, 3) := by decide +kernel
theorem dX8_findPlay_177 : decode cX8_findPlay 177 = .ok (.iload 5, 2) := by decide +kernel
theorem dX8_findPlay_179 : decode cX8_findPlay 179 = .ok (.ifCond .lt 44, 3) := by decide +kernel
theorem dX8_findPlay_182 : decode cX8_findPlay 182 = .ok (.aload_n 0, 1) := by decide +kernel
theorem dX8_findPlay_183 : decode cX8_findPlay 183 = .ok (.getfield 57, 3) := by decide +kernel
theorem dX8_findPlay_186 : decode cX8_findPlay 186 = .ok (.iconst 5, 1) := by decide +kernel
theorem dX8_findPlay_187 : decode cX8_findPlay 187 = .ok (.iload 4, 2) := by decide +kernel
theorem dX8_findPlay_189 : decode cX8_findPlay 189 = .ok (.imul, 1) := by decide +kernel
theorem dX8_findPlay_190 : decode cX8_findPlay 190 = .ok (.iload 6, 2) := by decide +kernel
theorem dX8_findPlay_192 : decode cX8_findPlay 192 = .ok (.iadd, 1) := by decide +kernel
theorem dX8_findPlay_193 : decode cX8_findPlay 193 = .ok (.iaload, 1) := by decide +kernel
theorem dX8_findPlay_194 : decode cX8_findPlay 194 = .ok (.iload_n 3, 1) := by decide +kernel
theorem dX8_findPlay_195 : decode cX8_findPlay 195 = .ok (.iload 6, 2) := by decide +kernel
theorem dX8_findPlay_197 : decode cX8_findPlay 197 = .ok (.invokestatic 169, 3) := by decide +kernel
theorem dX8_findPlay_200 : decode cX8_findPlay 200 = .ok (.iadd, 1) := by decide +kernel
theorem dX8_findPlay_201 : decode cX8_findPlay 201 = .ok (.aload_n 0, 1) := by decide +kernel
theorem dX8_findPlay_202 : decode cX8_findPlay 202 = .ok (.getfield 57, 3) := by decide +kernel
theorem dX8_findPlay_205 : decode cX8_findPlay 205 = .ok (.iconst 5, 1) := by decide +kernel
theorem dX8_findPlay_206 : decode cX8_findPlay 206 = .ok (.iload 4, 2) := by decide +kernel
theorem dX8_findPlay_208 : decode cX8_findPlay 208 = .ok (.imul, 1) := by decide +kernel
theorem dX8_findPlay_209 : decode cX8_findPlay 209 = .ok (.iload 5, 2) := by decide +kernel
theorem dX8_findPlay_211 : decode cX8_findPlay 211 = .ok (.iadd, 1) := by decide +kernel
theorem dX8_findPlay_212 : decode cX8_findPlay 212 = .ok (.iaload, 1) := by decide +kernel
theorem dX8_findPlay_213 : decode cX8_findPlay 213 = .ok (.iload_n 3, 1) := by decide +kernel
theorem dX8_findPlay_214 : decode cX8_findPlay 214 = .ok (.iload 5, 2) := by decide +kernel
theorem dX8_findPlay_216 : decode cX8_findPlay 216 = .ok (.invokestatic 169, 3) := by decide +kernel
theorem dX8_findPlay_219 : decode cX8_findPlay 219 = .ok (.iadd, 1) := by decide +kernel
theorem dX8_findPlay_220 : decode cX8_findPlay 220 = .ok (.if_icmp .ge 7, 3) := by decide +kernel
theorem dX8_findPlay_223 : decode cX8_findPlay 223 = .ok (.iload 6, 2) := by decide +kernel
theorem dX8_findPlay_225 : decode cX8_findPlay 225 = .ok (.istore 5, 2) := by decide +kernel
theorem dX8_findPlay_227 : decode cX8_findPlay 227 = .ok (.iinc 6 1, 3) := by decide +kernel
theorem dX8_findPlay_230 : decode cX8_findPlay 230 = .ok (.goto (-71), 3) := by decide +kernel
theorem dX8_findPlay_233 : decode cX8_findPlay 233 = .ok (.aload_n 0, 1) := by decide +kernel
theorem dX8_findPlay_234 : decode cX8_findPlay 234 = .ok (.getfield 60, 3) := by decide +kernel
theorem dX8_findPlay_237 : decode cX8_findPlay 237 = .ok (.iload 4, 2) := by decide +kernel
theorem dX8_findPlay_239 : decode cX8_findPlay 239 = .ok (.iload 5, 2) := by decide +kernel
theorem dX8_findPlay_241 : decode cX8_findPlay 241 = .ok (.iastore, 1) := by decide +kernel
theorem dX8_findPlay_242 : decode cX8_findPlay 242 = .ok (.iload 5, 2) := by decide +kernel
theorem dX8_findPlay_244 : decode cX8_findPlay 244 = .ok (.istore_n 3, 1) := by decide +kernel
theorem dX8_findPlay_245 : decode cX8_findPlay 245 = .ok (.iinc 4 1, 3) := by decide +kernel
theorem dX8_findPlay_248 : decode cX8_findPlay 248 = .ok (.goto (-101), 3) := by decide +kernel
theorem dX8_findPlay_251 : decode cX8_findPlay 251 = .ok (.return_, 1) := by decide +kernel
theorem dX8_strains_0 : decode cX8_strains 0 = .ok (.iload_n 1, 1) := by decide +kernel
theorem dX8_strains_1 : decode cX8_strains 1 = .ok (.invokestatic 103, 3) := by decide +kernel
theorem dX8_strains_4 : decode cX8_strains 4 = .ok (.ifCond .ne 6, 3) := by decide +kernel
theorem dX8_strains_7 : decode cX8_strains 7 = .ok (.ldc 71, 2) := by decide +kernel
theorem dX8_strains_9 : decode cX8_strains 9 = .ok (.ireturn, 1) := by decide +kernel
theorem dX8_strains_10 : decode cX8_strains 10 = .ok (.aload_n 0, 1) := by decide +kernel
theorem dX8_strains_11 : decode cX8_strains 11 = .ok (.getfield 19, 3) := by decide +kernel
theorem dX8_strains_14 : decode cX8_strains 14 = .ok (.iload_n 1, 1) := by decide +kernel
theorem dX8_strains_15 : decode cX8_strains 15 = .ok (.iaload, 1) := by decide +kernel
theorem dX8_strains_16 : decode cX8_strains 16 = .ok (.ifCond .ne 6, 3) := by decide +kernel
theorem dX8_strains_19 : decode cX8_strains 19 = .ok (.ldc 77, 2) := by decide +kernel
theorem dX8_strains_21 : decode cX8_strains 21 = .ok (.ireturn, 1) := by decide +kernel
theorem dX8_strains_22 : decode cX8_strains 22 = .ok (.aload_n 0, 1) := by decide +kernel
theorem dX8_strains_23 : decode cX8_strains 23 = .ok (.iload_n 1, 1) := by decide +kernel
theorem dX8_strains_24 : decode cX8_strains 24 = .ok (.invokevirtual 172, 3) := by decide +kernel
theorem dX8_strains_27 : decode cX8_strains 27 = .ok (.iconst 0, 1) := by decide +kernel
theorem dX8_strains_28 : decode cX8_strains 28 = .ok (.istore_n 2, 1) := by decide +kernel
theorem dX8_strains_29 : decode cX8_strains 29 = .ok (.iconst 1, 1) := by decide +kernel
theorem dX8_strains_30 : decode cX8_strains 30 = .ok (.istore_n 3, 1) := by decide +kernel
theorem dX8_strains_31 : decode cX8_strains 31 = .ok (.iload_n 3, 1) := by decide +kernel
theorem dX8_strains_32 : decode cX8_strains 32 = .ok (.aload_n 0, 1) := by decide +kernel
theorem dX8_strains_33 : decode cX8_strains 33 = .ok (.getfield 19, 3) := by decide +kernel
theorem dX8_strains_36 : decode cX8_strains 36 = .ok (.iload_n 1, 1) := by decide +kernel
theorem dX8_strains_37 : decode cX8_strains 37 = .ok (.iaload, 1) := by decide +kernel
theorem dX8_strains_38 : decode cX8_strains 38 = .ok (.if_icmp .ge 29, 3) := by decide +kernel
theorem dX8_strains_41 : decode cX8_strains 41 = .ok (.iload_n 2, 1) := by decide +kernel
theorem dX8_strains_42 : decode cX8_strains 42 = .ok (.aload_n 0, 1) := by decide +kernel
theorem dX8_strains_43 : decode cX8_strains 43 = .ok (.getfield 60, 3) := by decide +kernel
theorem dX8_strains_46 : decode cX8_strains 46 = .ok (.iload_n 3, 1) := by decide +kernel
theorem dX8_strains_47 : decode cX8_strains 47 = .ok (.iconst 1, 1) := by decide +kernel
theorem dX8_strains_48 : decode cX8_strains 48 = .ok (.isub, 1) := by decide +kernel
theorem dX8_strains_49 : decode cX8_strains 49 = .ok (.iaload, 1) := by decide +kernel
theorem dX8_strains_50 : decode cX8_strains 50 = .ok (.aload_n 0, 1) := by decide +kernel
theorem dX8_strains_51 : decode cX8_strains 51 = .ok (.getfield 60, 3) := by decide +kernel
theorem dX8_strains_54 : decode cX8_strains 54 = .ok (.iload_n 3, 1) := by decide +kernel
theorem dX8_strains_55 : decode cX8_strains 55 = .ok (.iaload, 1) := by decide +kernel
theorem dX8_strains_56 : decode cX8_strains 56 = .ok (.invokestatic 169, 3) := by decide +kernel
theorem dX8_strains_59 : decode cX8_strains 59 = .ok (.iadd, 1) := by decide +kernel
theorem dX8_strains_60 : decode cX8_strains 60 = .ok (.istore_n 2, 1) := by decide +kernel
theorem dX8_strains_61 : decode cX8_strains 61 = .ok (.iinc 3 1, 3) := by decide +kernel
theorem dX8_strains_64 : decode cX8_strains 64 = .ok (.goto (-33), 3) := by decide +kernel
theorem dX8_strains_67 : decode cX8_strains 67 = .ok (.iload_n 2, 1) := by decide +kernel
theorem dX8_strains_68 : decode cX8_strains 68 = .ok (.ireturn, 1) := by decide +kernel
theorem dX8_plays_0 : decode cX8_plays 0 = .ok (.iload_n 1, 1) := by decide +kernel
theorem dX8_plays_1 : decode cX8_plays 1 = .ok (.invokestatic 103, 3) := by decide +kernel
theorem dX8_plays_4 : decode cX8_plays 4 = .ok (.ifCond .eq 7, 3) := by decide +kernel
theorem dX8_plays_7 : decode cX8_plays 7 = .ok (.iload_n 2, 1) := by decide +kernel
theorem dX8_plays_8 : decode cX8_plays 8 = .ok (.ifCond .ge 6, 3) := by decide +kernel
theorem dX8_plays_11 : decode cX8_plays 11 = .ok (.ldc 71, 2) := by decide +kernel
theorem dX8_plays_13 : decode cX8_plays 13 = .ok (.ireturn, 1) := by decide +kernel
theorem dX8_plays_14 : decode cX8_plays 14 = .ok (.aload_n 0, 1) := by decide +kernel
theorem dX8_plays_15 : decode cX8_plays 15 = .ok (.getfield 19, 3) := by decide +kernel
theorem dX8_plays_18 : decode cX8_plays 18 = .ok (.iload_n 1, 1) := by decide +kernel
theorem dX8_plays_19 : decode cX8_plays 19 = .ok (.iaload, 1) := by decide +kernel
theorem dX8_plays_20 : decode cX8_plays 20 = .ok (.ifCond .ne 6, 3) := by decide +kernel
theorem dX8_plays_23 : decode cX8_plays 23 = .ok (.ldc 77, 2) := by decide +kernel
theorem dX8_plays_25 : decode cX8_plays 25 = .ok (.ireturn, 1) := by decide +kernel
theorem dX8_plays_26 : decode cX8_plays 26 = .ok (.iload_n 2, 1) := by decide +kernel
theorem dX8_plays_27 : decode cX8_plays 27 = .ok (.aload_n 0, 1) := by decide +kernel
theorem dX8_plays_28 : decode cX8_plays 28 = .ok (.getfield 19, 3) := by decide +kernel
theorem dX8_plays_31 : decode cX8_plays 31 = .ok (.iload_n 1, 1) := by decide +kernel
theorem dX8_plays_32 : decode cX8_plays 32 = .ok (.iaload, 1) := by decide +kernel
theorem dX8_plays_33 : decode cX8_plays 33 = .ok (.if_icmp .lt 6, 3) := by decide +kernel
theorem dX8_plays_36 : decode cX8_plays 36 = .ok (.ldc 71, 2) := by decide +kernel
theorem dX8_plays_38 : decode cX8_plays 38 = .ok (.ireturn, 1) := by decide +kernel
theorem dX8_plays_39 : decode cX8_plays 39 = .ok (.aload_n 0, 1) := by decide +kernel
theorem dX8_plays_40 : decode cX8_plays 40 = .ok (.iload_n 1, 1) := by decide +kernel
theorem dX8_plays_41 : decode cX8_plays 41 = .ok (.invokevirtual 172, 3) := by decide +kernel
theorem dX8_plays_44 : decode cX8_plays 44 = .ok (.aload_n 0, 1) := by decide +kernel
theorem dX8_plays_45 : decode cX8_plays 45 = .ok (.getfield 60, 3) := by decide +kernel
theorem dX8_plays_48 : decode cX8_plays 48 = .ok (.iload_n 2, 1) := by decide +kernel
theorem dX8_plays_49 : decode cX8_plays 49 = .ok (.iaload, 1) := by decide +kernel
theorem dX8_plays_50 : decode cX8_plays 50 = .ok (.iconst 4, 1) := by decide +kernel
theorem dX8_plays_51 : decode cX8_plays 51 = .ok (.if_icmp .ne 8, 3) := by decide +kernel
theorem dX8_plays_54 : decode cX8_plays 54 = .ok (.ldc 106, 2) := by decide +kernel
theorem dX8_plays_56 : decode cX8_plays 56 = .ok (.goto 9, 3) := by decide +kernel
theorem dX8_plays_59 : decode cX8_plays 59 = .ok (.aload_n 0, 1) := by decide +kernel
theorem dX8_plays_60 : decode cX8_plays 60 = .ok (.getfield 60, 3) := by decide +kernel
theorem dX8_plays_63 : decode cX8_plays 63 = .ok (.iload_n 2, 1) := by decide +kernel
theorem dX8_plays_64 : decode cX8_plays 64 = .ok (.iaload, 1) := by decide +kernel
theorem dX8_plays_65 : decode cX8_plays 65 = .ok (.ireturn, 1) := by decide +kernel
theorem dX8_join_0 : decode cX8_join 0 = .ok (.iload_n 1, 1) := by decide +kernel
theorem dX8_join_1 : decode cX8_join 1 = .ok (.invokestatic 103, 3) := by decide +kernel
theorem dX8_join_4 : decode cX8_join 4 = .ok (.ifCond .eq 31, 3) := by decide +kernel
theorem dX8_join_7 : decode cX8_join 7 = .ok (.iload_n 2, 1) := by decide +kernel
theorem dX8_join_8 : decode cX8_join 8 = .ok (.invokestatic 107, 3) := by decide +kernel
theorem dX8_join_11 : decode cX8_join 11 = .ok (.ifCond .eq 24, 3) := by decide +kernel
theorem dX8_join_14 : decode cX8_join 14 = .ok (.iload_n 3, 1) := by decide +kernel
theorem dX8_join_15 : decode cX8_join 15 = .ok (.iconst 1, 1) := by decide +kernel
theorem dX8_join_16 : decode cX8_join 16 = .ok (.bipush 9, 2) := by decide +kernel
theorem dX8_join_18 : decode cX8_join 18 = .ok (.invokestatic 63, 3) := by decide +kernel
theorem dX8_join_21 : decode cX8_join 21 = .ok (.ifCond .eq 14, 3) := by decide +kernel
theorem dX8_join_24 : decode cX8_join 24 = .ok (.iload 4, 2) := by decide +kernel
theorem dX8_join_26 : decode cX8_join 26 = .ok (.iconst 0, 1) := by decide +kernel
theorem dX8_join_27 : decode cX8_join 27 = .ok (.bipush 96, 2) := by decide +kernel
theorem dX8_join_29 : decode cX8_join 29 = .ok (.invokestatic 63, 3) := by decide +kernel
theorem dX8_join_32 : decode cX8_join 32 = .ok (.ifCond .ne 6, 3) := by decide +kernel
theorem dX8_join_35 : decode cX8_join 35 = .ok (.ldc 71, 2) := by decide +kernel
theorem dX8_join_37 : decode cX8_join 37 = .ok (.ireturn, 1) := by decide +kernel
theorem dX8_join_38 : decode cX8_join 38 = .ok (.aload_n 0, 1) := by decide +kernel
theorem dX8_join_39 : decode cX8_join 39 = .ok (.getfield 19, 3) := by decide +kernel
theorem dX8_join_42 : decode cX8_join 42 = .ok (.iload_n 1, 1) := by decide +kernel
theorem dX8_join_43 : decode cX8_join 43 = .ok (.iaload, 1) := by decide +kernel
theorem dX8_join_44 : decode cX8_join 44 = .ok (.ifCond .ne 6, 3) := by decide +kernel
theorem dX8_join_47 : decode cX8_join 47 = .ok (.ldc 77, 2) := by decide +kernel
theorem dX8_join_49 : decode cX8_join 49 = .ok (.ireturn, 1) := by decide +kernel
theorem dX8_join_50 : decode cX8_join 50 = .ok (.aload_n 0, 1) := by decide +kernel
theorem dX8_join_51 : decode cX8_join 51 = .ok (.getfield 175, 3) := by decide +kernel
theorem dX8_join_54 : decode cX8_join 54 = .ok (.bipush 20, 2) := by decide +kernel
theorem dX8_join_56 : decode cX8_join 56 = .ok (.if_icmp .ne 6, 3) := by decide +kernel
theorem dX8_join_59 : decode cX8_join 59 = .ok (.ldc 72, 2) := by decide +kernel
theorem dX8_join_61 : decode cX8_join 61 = .ok (.ireturn, 1) := by decide +kernel
theorem dX8_join_62 : decode cX8_join 62 = .ok (.aload_n 0, 1) := by decide +kernel
theorem dX8_join_63 : decode cX8_join 63 = .ok (.getfield 32, 3) := by decide +kernel
theorem dX8_join_66 : decode cX8_join 66 = .ok (.aload_n 0, 1) := by decide +kernel
theorem dX8_join_67 : decode cX8_join 67 = .ok (.getfield 175, 3) := by decide +kernel
theorem dX8_join_70 : decode cX8_join 70 = .ok (.iload_n 3, 1) := by decide +kernel
theorem dX8_join_71 : decode cX8_join 71 = .ok (.aload_n 0, 1) := by decide +kernel
theorem dX8_join_72 : decode cX8_join 72 = .ok (.iload_n 1, 1) := by decide +kernel
theorem dX8_join_73 : decode cX8_join 73 = .ok (.iload_n 2, 1) := by decide +kernel
theorem dX8_join_74 : decode cX8_join 74 = .ok (.invokevirtual 110, 3) := by decide +kernel
theorem dX8_join_77 : decode cX8_join 77 = .ok (.imul, 1) := by decide +kernel
theorem dX8_join_78 : decode cX8_join 78 = .ok (.iastore, 1) := by decide +kernel
theorem dX8_join_79 : decode cX8_join 79 = .ok (.aload_n 0, 1) := by decide +kernel
theorem dX8_join_80 : decode cX8_join 80 = .ok (.getfield 35, 3) := by decide +kernel
theorem dX8_join_83 : decode cX8_join 83 = .ok (.aload_n 0, 1) := by decide +kernel
theorem dX8_join_84 : decode cX8_join 84 = .ok (.getfield 175, 3) := by decide +kernel
theorem dX8_join_87 : decode cX8_join 87 = .ok (.iload 4, 2) := by decide +kernel
theorem dX8_join_89 : decode cX8_join 89 = .ok (.iastore, 1) := by decide +kernel
theorem dX8_join_90 : decode cX8_join 90 = .ok (.aload_n 0, 1) := by decide +kernel
theorem dX8_join_91 : decode cX8_join 91 = .ok (.dup, 1) := by decide +kernel
theorem dX8_join_92 : decode cX8_join 92 = .ok (.getfield 175, 3) := by decide +kernel
theorem dX8_join_95 : decode cX8_join 95 = .ok (.iconst 1, 1) := by decide +kernel
theorem dX8_join_96 : decode cX8_join 96 = .ok (.iadd, 1) := by decide +kernel
theorem dX8_join_97 : decode cX8_join 97 = .ok (.putfield 175, 3) := by decide +kernel
theorem dX8_join_100 : decode cX8_join 100 = .ok (.aload_n 0, 1) := by decide +kernel
theorem dX8_join_101 : decode cX8_join 101 = .ok (.getfield 175, 3) := by decide +kernel
theorem dX8_join_104 : decode cX8_join 104 = .ok (.ireturn, 1) := by decide +kernel
theorem dX8_drop_0 : decode cX8_drop 0 = .ok (.aload_n 0, 1) := by decide +kernel
theorem dX8_drop_1 : decode cX8_drop 1 = .ok (.getfield 175, 3) := by decide +kernel
theorem dX8_drop_4 : decode cX8_drop 4 = .ok (.istore_n 1, 1) := by decide +kernel
theorem dX8_drop_5 : decode cX8_drop 5 = .ok (.aload_n 0, 1) := by decide +kernel
theorem dX8_drop_6 : decode cX8_drop 6 = .ok (.iconst 0, 1) := by decide +kernel
theorem dX8_drop_7 : decode cX8_drop 7 = .ok (.putfield 175, 3) := by decide +kernel
theorem dX8_drop_10 : decode cX8_drop 10 = .ok (.iload_n 1, 1) := by decide +kernel
theorem dX8_drop_11 : decode cX8_drop 11 = .ok (.ireturn, 1) := by decide +kernel
theorem dX8_endOf_0 : decode cX8_endOf 0 = .ok (.iconst 0, 1) := by decide +kernel
theorem dX8_endOf_1 : decode cX8_endOf 1 = .ok (.istore_n 2, 1) := by decide +kernel
theorem dX8_endOf_2 : decode cX8_endOf 2 = .ok (.iconst 0, 1) := by decide +kernel
theorem dX8_endOf_3 : decode cX8_endOf 3 = .ok (.istore_n 3, 1) := by decide +kernel
theorem dX8_endOf_4 : decode cX8_endOf 4 = .ok (.iload_n 3, 1) := by decide +kernel
theorem dX8_endOf_5 : decode cX8_endOf 5 = .ok (.iload_n 1, 1) := by decide +kernel
theorem dX8_endOf_6 : decode cX8_endOf 6 = .ok (.if_icmp .gt 25, 3) := by decide +kernel
theorem dX8_endOf_9 : decode cX8_endOf 9 = .ok (.iload_n 2, 1) := by decide +kernel
theorem dX8_endOf_10 : decode cX8_endOf 10 = .ok (.aload_n 0, 1) := by decide +kernel
theorem dX8_endOf_11 : decode cX8_endOf 11 = .ok (.getfield 32, 3) := by decide +kernel
theorem dX8_endOf_14 : decode cX8_endOf 14 = .ok (.iload_n 3, 1) := by decide +kernel
theorem dX8_endOf_15 : decode cX8_endOf 15 = .ok (.iaload, 1) := by decide +kernel
theorem dX8_endOf_16 : decode cX8_endOf 16 = .ok (.aload_n 0, 1) := by decide +kernel
theorem dX8_endOf_17 : decode cX8_endOf 17 = .ok (.getfield 35, 3) := by decide +kernel
theorem dX8_endOf_20 : decode cX8_endOf 20 = .ok (.iload_n 3, 1) := by decide +kernel
theorem dX8_endOf_21 : decode cX8_endOf 21 = .ok (.iaload, 1) := by decide +kernel
theorem dX8_endOf_22 : decode cX8_endOf 22 = .ok (.iadd, 1) := by decide +kernel
theorem dX8_endOf_23 : decode cX8_endOf 23 = .ok (.iadd, 1) := by decide +kernel
theorem dX8_endOf_24 : decode cX8_endOf 24 = .ok (.istore_n 2, 1) := by decide +kernel
theorem dX8_endOf_25 : decode cX8_endOf 25 = .ok (.iinc 3 1, 3) := by decide +kernel
theorem dX8_endOf_28 : decode cX8_endOf 28 = .ok (.goto (-24), 3) := by decide +kernel
theorem dX8_endOf_31 : decode cX8_endOf 31 = .ok (.iload_n 2, 1) := by decide +kernel
theorem dX8_endOf_32 : decode cX8_endOf 32 = .ok (.ireturn, 1) := by decide +kernel
theorem dX8_account_0 : decode cX8_account 0 = .ok (.iload_n 1, 1) := by decide +kernel
theorem dX8_account_1 : decode cX8_account 1 = .ok (.invokestatic 67, 3) := by decide +kernel
theorem dX8_account_4 : decode cX8_account 4 = .ok (.ifCond .eq 17, 3) := by decide +kernel
theorem dX8_account_7 : decode cX8_account 7 = .ok (.iload_n 2, 1) := by decide +kernel
theorem dX8_account_8 : decode cX8_account 8 = .ok (.iconst 0, 1) := by decide +kernel
theorem dX8_account_9 : decode cX8_account 9 = .ok (.aload_n 0, 1) := by decide +kernel
theorem dX8_account_10 : decode cX8_account 10 = .ok (.getfield 175, 3) := by decide +kernel
theorem dX8_account_13 : decode cX8_account 13 = .ok (.iconst 1, 1) := by decide +kernel
theorem dX8_account_14 : decode cX8_account 14 = .ok (.isub, 1) := by decide +kernel
theorem dX8_account_15 : decode cX8_account 15 = .ok (.invokestatic 63, 3) := by decide +kernel
theorem dX8_account_18 : decode cX8_account 18 = .ok (.ifCond .ne 6, 3) := by decide +kernel
theorem dX8_account_21 : decode cX8_account 21 = .ok (.ldc 71, 2) := by decide +kernel
theorem dX8_account_23 : decode cX8_account 23 = .ok (.ireturn, 1) := by decide +kernel
theorem dX8_account_24 : decode cX8_account 24 = .ok (.aload_n 0, 1) := by decide +kernel
theorem dX8_account_25 : decode cX8_account 25 = .ok (.getfield 7, 3) := by decide +kernel
theorem dX8_account_28 : decode cX8_account 28 = .ok (.iload_n 1, 1) := by decide +kernel
theorem dX8_account_29 : decode cX8_account 29 = .ok (.iaload, 1) := by decide +kernel
theorem dX8_account_30 : decode cX8_account 30 = .ok (.ifCond .ne 8, 3) := by decide +kernel
theorem dX8_account_33 : decode cX8_account 33 = .ok (.ldc 77, 2) := by decide +kernel
theorem dX8_account_35 : decode cX8_account 35 = .ok (.goto 14, 3) := by decide +kernel
theorem dX8_account_38 : decode cX8_account 38 = .ok (.aload_n 0, 1) := by decide +kernel
theorem dX8_account_39 : decode cX8_account 39 = .ok (.iload_n 2, 1) := by decide +kernel
theorem dX8_account_40 : decode cX8_account 40 = .ok (.invokevirtual 178, 3) := by decide +kernel
theorem dX8_account_43 : decode cX8_account 43 = .ok (.aload_n 0, 1) := by decide +kernel
theorem dX8_account_44 : decode cX8_account 44 = .ok (.iload_n 1, 1) := by decide +kernel
theorem dX8_account_45 : decode cX8_account 45 = .ok (.invokevirtual 73, 3) := by decide +kernel
theorem dX8_account_48 : decode cX8_account 48 = .ok (.irem, 1) := by decide +kernel
theorem dX8_account_49 : decode cX8_account 49 = .ok (.ireturn, 1) := by decide +kernel
theorem dX8_landings_0 : decode cX8_landings 0 = .ok (.iload_n 1, 1) := by decide +kernel
theorem dX8_landings_1 : decode cX8_landings 1 = .ok (.invokestatic 67, 3) := by decide +kernel
theorem dX8_landings_4 : decode cX8_landings 4 = .ok (.ifCond .ne 6, 3) := by decide +kernel
theorem dX8_landings_7 : decode cX8_landings 7 = .ok (.ldc 71, 2) := by decide +kernel
theorem dX8_landings_9 : decode cX8_landings 9 = .ok (.ireturn, 1) := by decide +kernel
theorem dX8_landings_10 : decode cX8_landings 10 = .ok (.aload_n 0, 1) := by decide +kernel
theorem dX8_landings_11 : decode cX8_landings 11 = .ok (.getfield 7, 3) := by decide +kernel
theorem dX8_landings_14 : decode cX8_landings 14 = .ok (.iload_n 1, 1) := by decide +kernel
theorem dX8_landings_15 : decode cX8_landings 15 = .ok (.iaload, 1) := by decide +kernel
theorem dX8_landings_16 : decode cX8_landings 16 = .ok (.ifCond .ne 6, 3) := by decide +kernel
theorem dX8_landings_19 : decode cX8_landings 19 = .ok (.ldc 77, 2) := by decide +kernel
theorem dX8_landings_21 : decode cX8_landings 21 = .ok (.ireturn, 1) := by decide +kernel
theorem dX8_landings_22 : decode cX8_landings 22 = .ok (.iconst 0, 1) := by decide +kernel
theorem dX8_landings_23 : decode cX8_landings 23 = .ok (.istore_n 2, 1) := by decide +kernel
theorem dX8_landings_24 : decode cX8_landings 24 = .ok (.iconst 0, 1) := by decide +kernel
theorem dX8_landings_25 : decode cX8_landings 25 = .ok (.istore_n 3, 1) := by decide +kernel
theorem dX8_landings_26 : decode cX8_landings 26 = .ok (.iload_n 3, 1) := by decide +kernel
theorem dX8_landings_27 : decode cX8_landings 27 = .ok (.aload_n 0, 1) := by decide +kernel
theorem dX8_landings_28 : decode cX8_landings 28 = .ok (.getfield 175, 3) := by decide +kernel
theorem dX8_landings_31 : decode cX8_landings 31 = .ok (.if_icmp .ge 31, 3) := by decide +kernel
theorem dX8_landings_34 : decode cX8_landings 34 = .ok (.iload_n 2, 1) := by decide +kernel
theorem dX8_landings_35 : decode cX8_landings 35 = .ok (.aload_n 0, 1) := by decide +kernel
theorem dX8_landings_36 : decode cX8_landings 36 = .ok (.iload_n 3, 1) := by decide +kernel
theorem dX8_landings_37 : decode cX8_landings 37 = .ok (.invokevirtual 178, 3) := by decide +kernel
theorem dX8_landings_40 : decode cX8_landings 40 = .ok (.aload_n 0, 1) := by decide +kernel
theorem dX8_landings_41 : decode cX8_landings 41 = .ok (.iload_n 1, 1) := by decide +kernel
theorem dX8_landings_42 : decode cX8_landings 42 = .ok (.invokevirtual 73, 3) := by decide +kernel
theorem dX8_landings_45 : decode cX8_landings 45 = .ok (.irem, 1) := by decide +kernel
theorem dX8_landings_46 : decode cX8_landings 46 = .ok (.ifCond .ne 7, 3) := by decide +kernel
theorem dX8_landings_49 : decode cX8_landings 49 = .ok (.iconst 1, 1) := by decide +kernel
theorem dX8_landings_50 : decode cX8_landings 50 = .ok (.goto 4, 3) := by decide +kernel
theorem dX8_landings_53 : decode cX8_landings 53 = .ok (.iconst 0, 1) := by decide +kernel
theorem dX8_landings_54 : decode cX8_landings 54 = .ok (.iadd, 1) := by decide +kernel
theorem dX8_landings_55 : decode cX8_landings 55 = .ok (.istore_n 2, 1) := by decide +kernel
theorem dX8_landings_56 : decode cX8_landings 56 = .ok (.iinc 3 1, 3) := by decide +kernel
theorem dX8_landings_59 : decode cX8_landings 59 = .ok (.goto (-33), 3) := by decide +kernel
theorem dX8_landings_62 : decode cX8_landings 62 = .ok (.iload_n 2, 1) := by decide +kernel
theorem dX8_landings_63 : decode cX8_landings 63 = .ok (.ireturn, 1) := by decide +kernel
theorem dX8_home_0 : decode cX8_home 0 = .ok (.iload_n 1, 1) := by decide +kernel
theorem dX8_home_1 : decode cX8_home 1 = .ok (.invokestatic 67, 3) := by decide +kernel
theorem dX8_home_4 : decode cX8_home 4 = .ok (.ifCond .ne 6, 3) := by decide +kernel
theorem dX8_home_7 : decode cX8_home 7 = .ok (.ldc 71, 2) := by decide +kernel
theorem dX8_home_9 : decode cX8_home 9 = .ok (.ireturn, 1) := by decide +kernel
theorem dX8_home_10 : decode cX8_home 10 = .ok (.aload_n 0, 1) := by decide +kernel
theorem dX8_home_11 : decode cX8_home 11 = .ok (.getfield 7, 3) := by decide +kernel
theorem dX8_home_14 : decode cX8_home 14 = .ok (.iload_n 1, 1) := by decide +kernel
theorem dX8_home_15 : decode cX8_home 15 = .ok (.iaload, 1) := by decide +kernel
theorem dX8_home_16 : decode cX8_home 16 = .ok (.ifCond .eq 10, 3) := by decide +kernel
theorem dX8_home_19 : decode cX8_home 19 = .ok (.aload_n 0, 1) := by decide +kernel
theorem dX8_home_20 : decode cX8_home 20 = .ok (.getfield 175, 3) := by decide +kernel
theorem dX8_home_23 : decode cX8_home 23 = .ok (.ifCond .ne 6, 3) := by decide +kernel
theorem dX8_home_26 : decode cX8_home 26 = .ok (.ldc 77, 2) := by decide +kernel
theorem dX8_home_28 : decode cX8_home 28 = .ok (.ireturn, 1) := by decide +kernel
theorem dX8_home_29 : decode cX8_home 29 = .ok (.aload_n 0, 1) := by decide +kernel
theorem dX8_home_30 : decode cX8_home 30 = .ok (.iload_n 1, 1) := by decide +kernel
theorem dX8_home_31 : decode cX8_home 31 = .ok (.invokevirtual 73, 3) := by decide +kernel
theorem dX8_home_34 : decode cX8_home 34 = .ok (.istore_n 2, 1) := by decide +kernel
theorem dX8_home_35 : decode cX8_home 35 = .ok (.iload_n 2, 1) := by decide +kernel
theorem dX8_home_36 : decode cX8_home 36 = .ok (.aload_n 0, 1) := by decide +kernel
theorem dX8_home_37 : decode cX8_home 37 = .ok (.aload_n 0, 1) := by decide +kernel
theorem dX8_home_38 : decode cX8_home 38 = .ok (.getfield 175, 3) := by decide +kernel
theorem dX8_home_41 : decode cX8_home 41 = .ok (.iconst 1, 1) := by decide +kernel
theorem dX8_home_42 : decode cX8_home 42 = .ok (.isub, 1) := by decide +kernel
theorem dX8_home_43 : decode cX8_home 43 = .ok (.invokevirtual 178, 3) := by decide +kernel
theorem dX8_home_46 : decode cX8_home 46 = .ok (.aload_n 0, 1) := by decide +kernel
theorem dX8_home_47 : decode cX8_home 47 = .ok (.getfield 35, 3) := by decide +kernel
theorem dX8_home_50 : decode cX8_home 50 = .ok (.aload_n 0, 1) := by decide +kernel
theorem dX8_home_51 : decode cX8_home 51 = .ok (.getfield 175, 3) := by decide +kernel
theorem dX8_home_54 : decode cX8_home 54 = .ok (.iconst 1, 1) := by decide +kernel
theorem dX8_home_55 : decode cX8_home 55 = .ok (.isub, 1) := by decide +kernel
theorem dX8_home_56 : decode cX8_home 56 = .ok (.iaload, 1) := by decide +kernel
theorem dX8_home_57 : decode cX8_home 57 = .ok (.isub, 1) := by decide +kernel
theorem dX8_home_58 : decode cX8_home 58 = .ok (.iload_n 2, 1) := by decide +kernel
theorem dX8_home_59 : decode cX8_home 59 = .ok (.irem, 1) := by decide +kernel
theorem dX8_home_60 : decode cX8_home 60 = .ok (.isub, 1) := by decide +kernel
theorem dX8_home_61 : decode cX8_home 61 = .ok (.iload_n 2, 1) := by decide +kernel
theorem dX8_home_62 : decode cX8_home 62 = .ok (.irem, 1) := by decide +kernel
theorem dX8_home_63 : decode cX8_home 63 = .ok (.ireturn, 1) := by decide +kernel
end
section
theorem dX8_sheet_0 : decode cX8_sheet 0 = .ok (.iload_n 1, 1) := by decide +kernel
theorem dX8_sheet_1 : decode cX8_sheet 1 = .ok (.invokestatic 155, 3) := by decide +kernel
theorem dX8_sheet_4 : decode cX8_sheet 4 = .ok (.ifCond .eq 9, 3) := by decide +kernel
theorem dX8_sheet_7 : decode cX8_sheet 7 = .ok (.iload_n 2, 1) := by decide +kernel
theorem dX8_sheet_8 : decode cX8_sheet 8 = .ok (.bipush 60, 2) := by decide +kernel
theorem dX8_sheet_10 : decode cX8_sheet 10 = .ok (.if_icmp .le 6, 3) := by decide +kernel
theorem dX8_sheet_13 : decode cX8_sheet 13 = .ok (.ldc 71, 2) := by decide +kernel
theorem dX8_sheet_15 : decode cX8_sheet 15 = .ok (.ireturn, 1) := by decide +kernel
theorem dX8_sheet_16 : decode cX8_sheet 16 = .ok (.iload_n 2, 1) := by decide +kernel
theorem dX8_sheet_17 : decode cX8_sheet 17 = .ok (.ifCond .ge 6, 3) := by decide +kernel
theorem dX8_sheet_20 : decode cX8_sheet 20 = .ok (.ldc 181, 2) := by decide +kernel
theorem dX8_sheet_22 : decode cX8_sheet 22 = .ok (.ireturn, 1) := by decide +kernel
theorem dX8_sheet_23 : decode cX8_sheet 23 = .ok (.aload_n 0, 1) := by decide +kernel
theorem dX8_sheet_24 : decode cX8_sheet 24 = .ok (.getfield 41, 3) := by decide +kernel
theorem dX8_sheet_27 : decode cX8_sheet 27 = .ok (.iload_n 1, 1) := by decide +kernel
theorem dX8_sheet_28 : decode cX8_sheet 28 = .ok (.iload_n 2, 1) := by decide +kernel
theorem dX8_sheet_29 : decode cX8_sheet 29 = .ok (.iastore, 1) := by decide +kernel
theorem dX8_sheet_30 : decode cX8_sheet 30 = .ok (.iconst 0, 1) := by decide +kernel
theorem dX8_sheet_31 : decode cX8_sheet 31 = .ok (.istore_n 3, 1) := by decide +kernel
theorem dX8_sheet_32 : decode cX8_sheet 32 = .ok (.iload_n 3, 1) := by decide +kernel
theorem dX8_sheet_33 : decode cX8_sheet 33 = .ok (.iload_n 2, 1) := by decide +kernel
theorem dX8_sheet_34 : decode cX8_sheet 34 = .ok (.if_icmp .ge 21, 3) := by decide +kernel
theorem dX8_sheet_37 : decode cX8_sheet 37 = .ok (.aload_n 0, 1) := by decide +kernel
theorem dX8_sheet_38 : decode cX8_sheet 38 = .ok (.getfield 44, 3) := by decide +kernel
theorem dX8_sheet_41 : decode cX8_sheet 41 = .ok (.bipush 60, 2) := by decide +kernel
theorem dX8_sheet_43 : decode cX8_sheet 43 = .ok (.iload_n 1, 1) := by decide +kernel
theorem dX8_sheet_44 : decode cX8_sheet 44 = .ok (.imul, 1) := by decide +kernel
theorem dX8_sheet_45 : decode cX8_sheet 45 = .ok (.iload_n 3, 1) := by decide +kernel
theorem dX8_sheet_46 : decode cX8_sheet 46 = .ok (.iadd, 1) := by decide +kernel
theorem dX8_sheet_47 : decode cX8_sheet 47 = .ok (.iconst 0, 1) := by decide +kernel
theorem dX8_sheet_48 : decode cX8_sheet 48 = .ok (.iastore, 1) := by decide +kernel
theorem dX8_sheet_49 : decode cX8_sheet 49 = .ok (.iinc 3 1, 3) := by decide +kernel
theorem dX8_sheet_52 : decode cX8_sheet 52 = .ok (.goto (-20), 3) := by decide +kernel
theorem dX8_sheet_55 : decode cX8_sheet 55 = .ok (.iload_n 2, 1) := by decide +kernel
theorem dX8_sheet_56 : decode cX8_sheet 56 = .ok (.ireturn, 1) := by decide +kernel
theorem dX8_mark_0 : decode cX8_mark 0 = .ok (.iload_n 1, 1) := by decide +kernel
theorem dX8_mark_1 : decode cX8_mark 1 = .ok (.invokestatic 155, 3) := by decide +kernel
theorem dX8_mark_4 : decode cX8_mark 4 = .ok (.ifCond .ne 6, 3) := by decide +kernel
theorem dX8_mark_7 : decode cX8_mark 7 = .ok (.ldc 71, 2) := by decide +kernel
theorem dX8_mark_9 : decode cX8_mark 9 = .ok (.ireturn, 1) := by decide +kernel
theorem dX8_mark_10 : decode cX8_mark 10 = .ok (.aload_n 0, 1) := by decide +kernel
theorem dX8_mark_11 : decode cX8_mark 11 = .ok (.getfield 41, 3) := by decide +kernel
theorem dX8_mark_14 : decode cX8_mark 14 = .ok (.iload_n 1, 1) := by decide +kernel
theorem dX8_mark_15 : decode cX8_mark 15 = .ok (.iaload, 1) := by decide +kernel
theorem dX8_mark_16 : decode cX8_mark 16 = .ok (.ifCond .ge 6, 3) := by decide +kernel
theorem dX8_mark_19 : decode cX8_mark 19 = .ok (.ldc 158, 2) := by decide +kernel
theorem dX8_mark_21 : decode cX8_mark 21 = .ok (.ireturn, 1) := by decide +kernel
theorem dX8_mark_22 : decode cX8_mark 22 = .ok (.iload_n 2, 1) := by decide +kernel
theorem dX8_mark_23 : decode cX8_mark 23 = .ok (.iconst 0, 1) := by decide +kernel
theorem dX8_mark_24 : decode cX8_mark 24 = .ok (.aload_n 0, 1) := by decide +kernel
theorem dX8_mark_25 : decode cX8_mark 25 = .ok (.getfield 41, 3) := by decide +kernel
theorem dX8_mark_28 : decode cX8_mark 28 = .ok (.iload_n 1, 1) := by decide +kernel
theorem dX8_mark_29 : decode cX8_mark 29 = .ok (.iaload, 1) := by decide +kernel
theorem dX8_mark_30 : decode cX8_mark 30 = .ok (.iconst 1, 1) := by decide +kernel
theorem dX8_mark_31 : decode cX8_mark 31 = .ok (.isub, 1) := by decide +kernel
theorem dX8_mark_32 : decode cX8_mark 32 = .ok (.invokestatic 63, 3) := by decide +kernel
theorem dX8_mark_35 : decode cX8_mark 35 = .ok (.ifCond .ne 6, 3) := by decide +kernel
theorem dX8_mark_38 : decode cX8_mark 38 = .ok (.ldc 182, 2) := by decide +kernel
theorem dX8_mark_40 : decode cX8_mark 40 = .ok (.ireturn, 1) := by decide +kernel
theorem dX8_mark_41 : decode cX8_mark 41 = .ok (.aload_n 0, 1) := by decide +kernel
theorem dX8_mark_42 : decode cX8_mark 42 = .ok (.getfield 44, 3) := by decide +kernel
theorem dX8_mark_45 : decode cX8_mark 45 = .ok (.bipush 60, 2) := by decide +kernel
theorem dX8_mark_47 : decode cX8_mark 47 = .ok (.iload_n 1, 1) := by decide +kernel
theorem dX8_mark_48 : decode cX8_mark 48 = .ok (.imul, 1) := by decide +kernel
theorem dX8_mark_49 : decode cX8_mark 49 = .ok (.iload_n 2, 1) := by decide +kernel
theorem dX8_mark_50 : decode cX8_mark 50 = .ok (.iadd, 1) := by decide +kernel
theorem dX8_mark_51 : decode cX8_mark 51 = .ok (.iaload, 1) := by decide +kernel
theorem dX8_mark_52 : decode cX8_mark 52 = .ok (.istore 4, 2) := by decide +kernel
theorem dX8_mark_54 : decode cX8_mark 54 = .ok (.aload_n 0, 1) := by decide +kernel
theorem dX8_mark_55 : decode cX8_mark 55 = .ok (.getfield 44, 3) := by decide +kernel
theorem dX8_mark_58 : decode cX8_mark 58 = .ok (.bipush 60, 2) := by decide +kernel
theorem dX8_mark_60 : decode cX8_mark 60 = .ok (.iload_n 1, 1) := by decide +kernel
theorem dX8_mark_61 : decode cX8_mark 61 = .ok (.imul, 1) := by decide +kernel
theorem dX8_mark_62 : decode cX8_mark 62 = .ok (.iload_n 2, 1) := by decide +kernel
theorem dX8_mark_63 : decode cX8_mark 63 = .ok (.iadd, 1) := by decide +kernel
theorem dX8_mark_64 : decode cX8_mark 64 = .ok (.iload_n 3, 1) := by decide +kernel
theorem dX8_mark_65 : decode cX8_mark 65 = .ok (.i2b, 1) := by decide +kernel
theorem dX8_mark_66 : decode cX8_mark 66 = .ok (.iastore, 1) := by decide +kernel
theorem dX8_mark_67 : decode cX8_mark 67 = .ok (.iload 4, 2) := by decide +kernel
theorem dX8_mark_69 : decode cX8_mark 69 = .ok (.ireturn, 1) := by decide +kernel
theorem dX8_copy_0 : decode cX8_copy 0 = .ok (.iload_n 1, 1) := by decide +kernel
theorem dX8_copy_1 : decode cX8_copy 1 = .ok (.invokestatic 103, 3) := by decide +kernel
theorem dX8_copy_4 : decode cX8_copy 4 = .ok (.ifCond .eq 10, 3) := by decide +kernel
theorem dX8_copy_7 : decode cX8_copy 7 = .ok (.iload_n 3, 1) := by decide +kernel
theorem dX8_copy_8 : decode cX8_copy 8 = .ok (.invokestatic 155, 3) := by decide +kernel
theorem dX8_copy_11 : decode cX8_copy 11 = .ok (.ifCond .ne 6, 3) := by decide +kernel
theorem dX8_copy_14 : decode cX8_copy 14 = .ok (.ldc 71, 2) := by decide +kernel
theorem dX8_copy_16 : decode cX8_copy 16 = .ok (.ireturn, 1) := by decide +kernel
theorem dX8_copy_17 : decode cX8_copy 17 = .ok (.aload_n 0, 1) := by decide +kernel
theorem dX8_copy_18 : decode cX8_copy 18 = .ok (.getfield 41, 3) := by decide +kernel
theorem dX8_copy_21 : decode cX8_copy 21 = .ok (.iload_n 3, 1) := by decide +kernel
theorem dX8_copy_22 : decode cX8_copy 22 = .ok (.iaload, 1) := by decide +kernel
theorem dX8_copy_23 : decode cX8_copy 23 = .ok (.ifCond .ge 6, 3) := by decide +kernel
theorem dX8_copy_26 : decode cX8_copy 26 = .ok (.ldc 158, 2) := by decide +kernel
theorem dX8_copy_28 : decode cX8_copy 28 = .ok (.ireturn, 1) := by decide +kernel
theorem dX8_copy_29 : decode cX8_copy 29 = .ok (.iload_n 2, 1) := by decide +kernel
theorem dX8_copy_30 : decode cX8_copy 30 = .ok (.ifCond .lt 48, 3) := by decide +kernel
theorem dX8_copy_33 : decode cX8_copy 33 = .ok (.iload 4, 2) := by decide +kernel
theorem dX8_copy_35 : decode cX8_copy 35 = .ok (.ifCond .lt 43, 3) := by decide +kernel
theorem dX8_copy_38 : decode cX8_copy 38 = .ok (.iload 5, 2) := by decide +kernel
theorem dX8_copy_40 : decode cX8_copy 40 = .ok (.ifCond .lt 38, 3) := by decide +kernel
theorem dX8_copy_43 : decode cX8_copy 43 = .ok (.iload_n 2, 1) := by decide +kernel
theorem dX8_copy_44 : decode cX8_copy 44 = .ok (.i2l, 1) := by decide +kernel
theorem dX8_copy_45 : decode cX8_copy 45 = .ok (.iload 5, 2) := by decide +kernel
theorem dX8_copy_47 : decode cX8_copy 47 = .ok (.i2l, 1) := by decide +kernel
theorem dX8_copy_48 : decode cX8_copy 48 = .ok (.ladd, 1) := by decide +kernel
theorem dX8_copy_49 : decode cX8_copy 49 = .ok (.aload_n 0, 1) := by decide +kernel
theorem dX8_copy_50 : decode cX8_copy 50 = .ok (.getfield 19, 3) := by decide +kernel
theorem dX8_copy_53 : decode cX8_copy 53 = .ok (.iload_n 1, 1) := by decide +kernel
theorem dX8_copy_54 : decode cX8_copy 54 = .ok (.iaload, 1) := by decide +kernel
theorem dX8_copy_55 : decode cX8_copy 55 = .ok (.i2l, 1) := by decide +kernel
theorem dX8_copy_56 : decode cX8_copy 56 = .ok (.lcmp, 1) := by decide +kernel
theorem dX8_copy_57 : decode cX8_copy 57 = .ok (.ifCond .gt 21, 3) := by decide +kernel
theorem dX8_copy_60 : decode cX8_copy 60 = .ok (.iload 4, 2) := by decide +kernel
theorem dX8_copy_62 : decode cX8_copy 62 = .ok (.i2l, 1) := by decide +kernel
theorem dX8_copy_63 : decode cX8_copy 63 = .ok (.iload 5, 2) := by decide +kernel
theorem dX8_copy_65 : decode cX8_copy 65 = .ok (.i2l, 1) := by decide +kernel
theorem dX8_copy_66 : decode cX8_copy 66 = .ok (.ladd, 1) := by decide +kernel
theorem dX8_copy_67 : decode cX8_copy 67 = .ok (.aload_n 0, 1) := by decide +kernel
theorem dX8_copy_68 : decode cX8_copy 68 = .ok (.getfield 41, 3) := by decide +kernel
theorem dX8_copy_71 : decode cX8_copy 71 = .ok (.iload_n 3, 1) := by decide +kernel
theorem dX8_copy_72 : decode cX8_copy 72 = .ok (.iaload, 1) := by decide +kernel
theorem dX8_copy_73 : decode cX8_copy 73 = .ok (.i2l, 1) := by decide +kernel
theorem dX8_copy_74 : decode cX8_copy 74 = .ok (.lcmp, 1) := by decide +kernel
theorem dX8_copy_75 : decode cX8_copy 75 = .ok (.ifCond .le 6, 3) := by decide +kernel
theorem dX8_copy_78 : decode cX8_copy 78 = .ok (.ldc 182, 2) := by decide +kernel
theorem dX8_copy_80 : decode cX8_copy 80 = .ok (.ireturn, 1) := by decide +kernel
theorem dX8_copy_81 : decode cX8_copy 81 = .ok (.iconst 0, 1) := by decide +kernel
theorem dX8_copy_82 : decode cX8_copy 82 = .ok (.istore 6, 2) := by decide +kernel
theorem dX8_copy_84 : decode cX8_copy 84 = .ok (.iload 6, 2) := by decide +kernel
theorem dX8_copy_86 : decode cX8_copy 86 = .ok (.iload 5, 2) := by decide +kernel
theorem dX8_copy_88 : decode cX8_copy 88 = .ok (.if_icmp .ge 38, 3) := by decide +kernel
theorem dX8_copy_91 : decode cX8_copy 91 = .ok (.aload_n 0, 1) := by decide +kernel
theorem dX8_copy_92 : decode cX8_copy 92 = .ok (.getfield 44, 3) := by decide +kernel
theorem dX8_copy_95 : decode cX8_copy 95 = .ok (.bipush 60, 2) := by decide +kernel
theorem dX8_copy_97 : decode cX8_copy 97 = .ok (.iload_n 3, 1) := by decide +kernel
theorem dX8_copy_98 : decode cX8_copy 98 = .ok (.imul, 1) := by decide +kernel
theorem dX8_copy_99 : decode cX8_copy 99 = .ok (.iload 4, 2) := by decide +kernel
theorem dX8_copy_101 : decode cX8_copy 101 = .ok (.iadd, 1) := by decide +kernel
theorem dX8_copy_102 : decode cX8_copy 102 = .ok (.iload 6, 2) := by decide +kernel
theorem dX8_copy_104 : decode cX8_copy 104 = .ok (.iadd, 1) := by decide +kernel
theorem dX8_copy_105 : decode cX8_copy 105 = .ok (.aload_n 0, 1) := by decide +kernel
theorem dX8_copy_106 : decode cX8_copy 106 = .ok (.getfield 22, 3) := by decide +kernel
theorem dX8_copy_109 : decode cX8_copy 109 = .ok (.bipush 60, 2) := by decide +kernel
theorem dX8_copy_111 : decode cX8_copy 111 = .ok (.iload_n 1, 1) := by decide +kernel
theorem dX8_copy_112 : decode cX8_copy 112 = .ok (.imul, 1) := by decide +kernel
theorem dX8_copy_113 : decode cX8_copy 113 = .ok (.iload_n 2, 1) := by decide +kernel
theorem dX8_copy_114 : decode cX8_copy 114 = .ok (.iadd, 1) := by decide +kernel
theorem dX8_copy_115 : decode cX8_copy 115 = .ok (.iload 6, 2) := by decide +kernel
theorem dX8_copy_117 : decode cX8_copy 117 = .ok (.iadd, 1) := by decide +kernel
theorem dX8_copy_118 : decode cX8_copy 118 = .ok (.iaload, 1) := by decide +kernel
theorem dX8_copy_119 : decode cX8_copy 119 = .ok (.iastore, 1) := by decide +kernel
theorem dX8_copy_120 : decode cX8_copy 120 = .ok (.iinc 6 1, 3) := by decide +kernel
theorem dX8_copy_123 : decode cX8_copy 123 = .ok (.goto (-39), 3) := by decide +kernel
theorem dX8_copy_126 : decode cX8_copy 126 = .ok (.iload 5, 2) := by decide +kernel
theorem dX8_copy_128 : decode cX8_copy 128 = .ok (.ireturn, 1) := by decide +kernel
theorem dX8_count_0 : decode cX8_count 0 = .ok (.iconst 0, 1) := by decide +kernel
theorem dX8_count_1 : decode cX8_count 1 = .ok (.istore_n 2, 1) := by decide +kernel
theorem dX8_count_2 : decode cX8_count 2 = .ok (.iload_n 1, 1) := by decide +kernel
theorem dX8_count_3 : decode cX8_count 3 = .ok (.tableswitch 159 0 5 #[37, 61, 94, 119, 124, 129], 37) := by decide +kernel
theorem dX8_count_40 : decode cX8_count 40 = .ok (.iconst 0, 1) := by decide +kernel
theorem dX8_count_41 : decode cX8_count 41 = .ok (.istore_n 3, 1) := by decide +kernel
theorem dX8_count_42 : decode cX8_count 42 = .ok (.iload_n 3, 1) := by decide +kernel
theorem dX8_count_43 : decode cX8_count 43 = .ok (.iconst 4, 1) := by decide +kernel
theorem dX8_count_44 : decode cX8_count 44 = .ok (.if_icmp .ge 18, 3) := by decide +kernel
theorem dX8_count_47 : decode cX8_count 47 = .ok (.iload_n 2, 1) := by decide +kernel
theorem dX8_count_48 : decode cX8_count 48 = .ok (.aload_n 0, 1) := by decide +kernel
theorem dX8_count_49 : decode cX8_count 49 = .ok (.getfield 7, 3) := by decide +kernel
theorem dX8_count_52 : decode cX8_count 52 = .ok (.iload_n 3, 1) := by decide +kernel
theorem dX8_count_53 : decode cX8_count 53 = .ok (.iaload, 1) := by decide +kernel
theorem dX8_count_54 : decode cX8_count 54 = .ok (.iadd, 1) := by decide +kernel
theorem dX8_count_55 : decode cX8_count 55 = .ok (.istore_n 2, 1) := by decide +kernel
theorem dX8_count_56 : decode cX8_count 56 = .ok (.iinc 3 1, 3) := by decide +kernel
theorem dX8_count_59 : decode cX8_count 59 = .ok (.goto (-17), 3) := by decide +kernel
theorem dX8_count_62 : decode cX8_count 62 = .ok (.iload_n 2, 1) := by decide +kernel
theorem dX8_count_63 : decode cX8_count 63 = .ok (.ireturn, 1) := by decide +kernel
theorem dX8_count_64 : decode cX8_count 64 = .ok (.iconst 0, 1) := by decide +kernel
theorem dX8_count_65 : decode cX8_count 65 = .ok (.istore_n 3, 1) := by decide +kernel
theorem dX8_count_66 : decode cX8_count 66 = .ok (.iload_n 3, 1) := by decide +kernel
theorem dX8_count_67 : decode cX8_count 67 = .ok (.bipush 6, 2) := by decide +kernel
theorem dX8_count_69 : decode cX8_count 69 = .ok (.if_icmp .ge 26, 3) := by decide +kernel
theorem dX8_count_72 : decode cX8_count 72 = .ok (.iload_n 2, 1) := by decide +kernel
theorem dX8_count_73 : decode cX8_count 73 = .ok (.aload_n 0, 1) := by decide +kernel
theorem dX8_count_74 : decode cX8_count 74 = .ok (.getfield 19, 3) := by decide +kernel
theorem dX8_count_77 : decode cX8_count 77 = .ok (.iload_n 3, 1) := by decide +kernel
theorem dX8_count_78 : decode cX8_count 78 = .ok (.iaload, 1) := by decide +kernel
theorem dX8_count_79 : decode cX8_count 79 = .ok (.ifCond .le 7, 3) := by decide +kernel
theorem dX8_count_82 : decode cX8_count 82 = .ok (.iconst 1, 1) := by decide +kernel
theorem dX8_count_83 : decode cX8_count 83 = .ok (.goto 4, 3) := by decide +kernel
theorem dX8_count_86 : decode cX8_count 86 = .ok (.iconst 0, 1) := by decide +kernel
theorem dX8_count_87 : decode cX8_count 87 = .ok (.iadd, 1) := by decide +kernel
theorem dX8_count_88 : decode cX8_count 88 = .ok (.istore_n 2, 1) := by decide +kernel
theorem dX8_count_89 : decode cX8_count 89 = .ok (.iinc 3 1, 3) := by decide +kernel
theorem dX8_count_92 : decode cX8_count 92 = .ok (.goto (-26), 3) := by decide +kernel
theorem dX8_count_95 : decode cX8_count 95 = .ok (.iload_n 2, 1) := by decide +kernel
theorem dX8_count_96 : decode cX8_count 96 = .ok (.ireturn, 1) := by decide +kernel
theorem dX8_count_97 : decode cX8_count 97 = .ok (.iconst 0, 1) := by decide +kernel
theorem dX8_count_98 : decode cX8_count 98 = .ok (.istore_n 3, 1) := by decide +kernel
theorem dX8_count_99 : decode cX8_count 99 = .ok (.iload_n 3, 1) := by decide +kernel
theorem dX8_count_100 : decode cX8_count 100 = .ok (.bipush 6, 2) := by decide +kernel
theorem dX8_count_102 : decode cX8_count 102 = .ok (.if_icmp .ge 18, 3) := by decide +kernel
theorem dX8_count_105 : decode cX8_count 105 = .ok (.iload_n 2, 1) := by decide +kernel
theorem dX8_count_106 : decode cX8_count 106 = .ok (.aload_n 0, 1) := by decide +kernel
theorem dX8_count_107 : decode cX8_count 107 = .ok (.getfield 19, 3) := by decide +kernel
theorem dX8_count_110 : decode cX8_count 110 = .ok (.iload_n 3, 1) := by decide +kernel
theorem dX8_count_111 : decode cX8_count 111 = .ok (.iaload, 1) := by decide +kernel
theorem dX8_count_112 : decode cX8_count 112 = .ok (.iadd, 1) := by decide +kernel
theorem dX8_count_113 : decode cX8_count 113 = .ok (.istore_n 2, 1) := by decide +kernel
theorem dX8_count_114 : decode cX8_count 114 = .ok (.iinc 3 1, 3) := by decide +kernel
theorem dX8_count_117 : decode cX8_count 117 = .ok (.goto (-18), 3) := by decide +kernel
theorem dX8_count_120 : decode cX8_count 120 = .ok (.iload_n 2, 1) := by decide +kernel
theorem dX8_count_121 : decode cX8_count 121 = .ok (.ireturn, 1) := by decide +kernel
theorem dX8_count_122 : decode cX8_count 122 = .ok (.aload_n 0, 1) := by decide +kernel
theorem dX8_count_123 : decode cX8_count 123 = .ok (.getfield 175, 3) := by decide +kernel
theorem dX8_count_126 : decode cX8_count 126 = .ok (.ireturn, 1) := by decide +kernel
theorem dX8_count_127 : decode cX8_count 127 = .ok (.aload_n 0, 1) := by decide +kernel
theorem dX8_count_128 : decode cX8_count 128 = .ok (.getfield 78, 3) := by decide +kernel
theorem dX8_count_131 : decode cX8_count 131 = .ok (.ireturn, 1) := by decide +kernel
theorem dX8_count_132 : decode cX8_count 132 = .ok (.aload_n 0, 1) := by decide +kernel
theorem dX8_count_133 : decode cX8_count 133 = .ok (.getfield 41, 3) := by decide +kernel
theorem dX8_count_136 : decode cX8_count 136 = .ok (.iconst 0, 1) := by decide +kernel
theorem dX8_count_137 : decode cX8_count 137 = .ok (.iaload, 1) := by decide +kernel
theorem dX8_count_138 : decode cX8_count 138 = .ok (.ifCond .ge 7, 3) := by decide +kernel
theorem dX8_count_141 : decode cX8_count 141 = .ok (.iconst 0, 1) := by decide +kernel
theorem dX8_count_142 : decode cX8_count 142 = .ok (.goto 4, 3) := by decide +kernel
theorem dX8_count_145 : decode cX8_count 145 = .ok (.iconst 1, 1) := by decide +kernel
theorem dX8_count_146 : decode cX8_count 146 = .ok (.aload_n 0, 1) := by decide +kernel
theorem dX8_count_147 : decode cX8_count 147 = .ok (.getfield 41, 3) := by decide +kernel
theorem dX8_count_150 : decode cX8_count 150 = .ok (.iconst 1, 1) := by decide +kernel
theorem dX8_count_151 : decode cX8_count 151 = .ok (.iaload, 1) := by decide +kernel
theorem dX8_count_152 : decode cX8_count 152 = .ok (.ifCond .ge 7, 3) := by decide +kernel
theorem dX8_count_155 : decode cX8_count 155 = .ok (.iconst 0, 1) := by decide +kernel
theorem dX8_count_156 : decode cX8_count 156 = .ok (.goto 4, 3) := by decide +kernel
theorem dX8_count_159 : decode cX8_count 159 = .ok (.iconst 1, 1) := by decide +kernel
theorem dX8_count_160 : decode cX8_count 160 = .ok (.iadd, 1) := by decide +kernel
theorem dX8_count_161 : decode cX8_count 161 = .ok (.ireturn, 1) := by decide +kernel
theorem dX8_count_162 : decode cX8_count 162 = .ok (.ldc 71, 2) := by decide +kernel
theorem dX8_count_164 : decode cX8_count 164 = .ok (.ireturn, 1) := by decide +kernel
theorem dJ9_floorMod_7cf53_0 : decode cJ9_floorMod_7cf53 0 = .ok (.iload_n 0, 1) := by decide +kernel
theorem dJ9_floorMod_7cf53_1 : decode cJ9_floorMod_7cf53 1 = .ok (.iload_n 1, 1) := by decide +kernel
theorem dJ9_floorMod_7cf53_2 : decode cJ9_floorMod_7cf53 2 = .ok (.irem, 1) := by decide +kernel
theorem dJ9_floorMod_7cf53_3 : decode cJ9_floorMod_7cf53 3 = .ok (.istore_n 2, 1) := by decide +kernel
theorem dJ9_floorMod_7cf53_4 : decode cJ9_floorMod_7cf53 4 = .ok (.iload_n 0, 1) := by decide +kernel
theorem dJ9_floorMod_7cf53_5 : decode cJ9_floorMod_7cf53 5 = .ok (.iload_n 1, 1) := by decide +kernel
theorem dJ9_floorMod_7cf53_6 : decode cJ9_floorMod_7cf53 6 = .ok (.ixor, 1) := by decide +kernel
theorem dJ9_floorMod_7cf53_7 : decode cJ9_floorMod_7cf53 7 = .ok (.ifCond .ge 11, 3) := by decide +kernel
theorem dJ9_floorMod_7cf53_10 : decode cJ9_floorMod_7cf53 10 = .ok (.iload_n 2, 1) := by decide +kernel
theorem dJ9_floorMod_7cf53_11 : decode cJ9_floorMod_7cf53 11 = .ok (.ifCond .eq 7, 3) := by decide +kernel
theorem dJ9_floorMod_7cf53_14 : decode cJ9_floorMod_7cf53 14 = .ok (.iload_n 2, 1) := by decide +kernel
theorem dJ9_floorMod_7cf53_15 : decode cJ9_floorMod_7cf53 15 = .ok (.iload_n 1, 1) := by decide +kernel
theorem dJ9_floorMod_7cf53_16 : decode cJ9_floorMod_7cf53 16 = .ok (.iadd, 1) := by decide +kernel
theorem dJ9_floorMod_7cf53_17 : decode cJ9_floorMod_7cf53 17 = .ok (.ireturn, 1) := by decide +kernel
theorem dJ9_floorMod_7cf53_18 : decode cJ9_floorMod_7cf53 18 = .ok (.iload_n 2, 1) := by decide +kernel
theorem dJ9_floorMod_7cf53_19 : decode cJ9_floorMod_7cf53 19 = .ok (.ireturn, 1) := by decide +kernel
theorem dJ9_max_7cf53_0 : decode cJ9_max_7cf53 0 = .ok (.iload_n 0, 1) := by decide +kernel
theorem dJ9_max_7cf53_1 : decode cJ9_max_7cf53 1 = .ok (.iload_n 1, 1) := by decide +kernel
theorem dJ9_max_7cf53_2 : decode cJ9_max_7cf53 2 = .ok (.if_icmp .lt 7, 3) := by decide +kernel
theorem dJ9_max_7cf53_5 : decode cJ9_max_7cf53 5 = .ok (.iload_n 0, 1) := by decide +kernel
theorem dJ9_max_7cf53_6 : decode cJ9_max_7cf53 6 = .ok (.goto 4, 3) := by decide +kernel
theorem dJ9_max_7cf53_9 : decode cJ9_max_7cf53 9 = .ok (.iload_n 1, 1) := by decide +kernel
theorem dJ9_max_7cf53_10 : decode cJ9_max_7cf53 10 = .ok (.ireturn, 1) := by decide +kernel
theorem dJ9_min_7cf53_0 : decode cJ9_min_7cf53 0 = .ok (.iload_n 0, 1) := by decide +kernel
theorem dJ9_min_7cf53_1 : decode cJ9_min_7cf53 1 = .ok (.iload_n 1, 1) := by decide +kernel
theorem dJ9_min_7cf53_2 : decode cJ9_min_7cf53 2 = .ok (.if_icmp .gt 7, 3) := by decide +kernel
theorem dJ9_min_7cf53_5 : decode cJ9_min_7cf53 5 = .ok (.iload_n 0, 1) := by decide +kernel
theorem dJ9_min_7cf53_6 : decode cJ9_min_7cf53 6 = .ok (.goto 4, 3) := by decide +kernel
theorem dJ9_min_7cf53_9 : decode cJ9_min_7cf53 9 = .ok (.iload_n 1, 1) := by decide +kernel
theorem dJ9_min_7cf53_10 : decode cJ9_min_7cf53 10 = .ok (.ireturn, 1) := by decide +kernel
theorem dJ9_min_f86c9_0 : decode cJ9_min_f86c9 0 = .ok (.lload_n 0, 1) := by decide +kernel
theorem dJ9_min_f86c9_1 : decode cJ9_min_f86c9 1 = .ok (.lload_n 2, 1) := by decide +kernel
theorem dJ9_min_f86c9_2 : decode cJ9_min_f86c9 2 = .ok (.lcmp, 1) := by decide +kernel
theorem dJ9_min_f86c9_3 : decode cJ9_min_f86c9 3 = .ok (.ifCond .gt 7, 3) := by decide +kernel
theorem dJ9_min_f86c9_6 : decode cJ9_min_f86c9 6 = .ok (.lload_n 0, 1) := by decide +kernel
theorem dJ9_min_f86c9_7 : decode cJ9_min_f86c9 7 = .ok (.goto 4, 3) := by decide +kernel
theorem dJ9_min_f86c9_10 : decode cJ9_min_f86c9 10 = .ok (.lload_n 2, 1) := by decide +kernel
theorem dJ9_min_f86c9_11 : decode cJ9_min_f86c9 11 = .ok (.lreturn, 1) := by decide +kernel
end
section
theorem dL_law_0 : decode cL_law 0 = .ok (.new 7, 3) := by decide +kernel
theorem dL_law_3 : decode cL_law 3 = .ok (.dup, 1) := by decide +kernel
theorem dL_law_4 : decode cL_law 4 = .ok (.invokespecial 9, 3) := by decide +kernel
theorem dL_law_7 : decode cL_law 7 = .ok (.astore_n 1, 1) := by decide +kernel
theorem dL_law_8 : decode cL_law 8 = .ok (.new 10, 3) := by decide +kernel
theorem dL_law_11 : decode cL_law 11 = .ok (.dup, 1) := by decide +kernel
theorem dL_law_12 : decode cL_law 12 = .ok (.invokespecial 12, 3) := by decide +kernel
theorem dL_law_15 : decode cL_law 15 = .ok (.astore_n 2, 1) := by decide +kernel
theorem dL_law_16 : decode cL_law 16 = .ok (.iconst 0, 1) := by decide +kernel
theorem dL_law_17 : decode cL_law 17 = .ok (.istore_n 3, 1) := by decide +kernel
theorem dL_law_18 : decode cL_law 18 = .ok (.iload_n 3, 1) := by decide +kernel
theorem dL_law_19 : decode cL_law 19 = .ok (.aload_n 0, 1) := by decide +kernel
theorem dL_law_20 : decode cL_law 20 = .ok (.arraylength, 1) := by decide +kernel
theorem dL_law_21 : decode cL_law 21 = .ok (.bipush 6, 2) := by decide +kernel
theorem dL_law_23 : decode cL_law 23 = .ok (.isub, 1) := by decide +kernel
theorem dL_law_24 : decode cL_law 24 = .ok (.if_icmp .gt 1401, 3) := by decide +kernel
theorem dL_law_27 : decode cL_law 27 = .ok (.aload_n 0, 1) := by decide +kernel
theorem dL_law_28 : decode cL_law 28 = .ok (.iload_n 3, 1) := by decide +kernel
theorem dL_law_29 : decode cL_law 29 = .ok (.iaload, 1) := by decide +kernel
theorem dL_law_30 : decode cL_law 30 = .ok (.bipush 63, 2) := by decide +kernel
theorem dL_law_32 : decode cL_law 32 = .ok (.iand, 1) := by decide +kernel
theorem dL_law_33 : decode cL_law 33 = .ok (.tableswitch 1386 0 32 #[147, 190, 233, 256, 279, 312, 355, 378, 401, 434, 467, 530, 583, 646, 699, 752, 805, 828, 871, 924, 957, 990, 1023, 1046, 1079, 1132, 1145, 1178, 1201, 1224, 1257, 1300, 1363], 147) := by decide +kernel
theorem dL_law_180 : decode cL_law 180 = .ok (.aload_n 1, 1) := by decide +kernel
theorem dL_law_181 : decode cL_law 181 = .ok (.aload_n 0, 1) := by decide +kernel
theorem dL_law_182 : decode cL_law 182 = .ok (.iload_n 3, 1) := by decide +kernel
theorem dL_law_183 : decode cL_law 183 = .ok (.iconst 1, 1) := by decide +kernel
theorem dL_law_184 : decode cL_law 184 = .ok (.iadd, 1) := by decide +kernel
theorem dL_law_185 : decode cL_law 185 = .ok (.iaload, 1) := by decide +kernel
theorem dL_law_186 : decode cL_law 186 = .ok (.aload_n 0, 1) := by decide +kernel
theorem dL_law_187 : decode cL_law 187 = .ok (.iload_n 3, 1) := by decide +kernel
theorem dL_law_188 : decode cL_law 188 = .ok (.iconst 2, 1) := by decide +kernel
theorem dL_law_189 : decode cL_law 189 = .ok (.iadd, 1) := by decide +kernel
theorem dL_law_190 : decode cL_law 190 = .ok (.iaload, 1) := by decide +kernel
theorem dL_law_191 : decode cL_law 191 = .ok (.aload_n 0, 1) := by decide +kernel
theorem dL_law_192 : decode cL_law 192 = .ok (.iload_n 3, 1) := by decide +kernel
theorem dL_law_193 : decode cL_law 193 = .ok (.iconst 3, 1) := by decide +kernel
theorem dL_law_194 : decode cL_law 194 = .ok (.iadd, 1) := by decide +kernel
theorem dL_law_195 : decode cL_law 195 = .ok (.iaload, 1) := by decide +kernel
theorem dL_law_196 : decode cL_law 196 = .ok (.invokevirtual 13, 3) := by decide +kernel
theorem dL_law_199 : decode cL_law 199 = .ok (.aload_n 2, 1) := by decide +kernel
theorem dL_law_200 : decode cL_law 200 = .ok (.aload_n 0, 1) := by decide +kernel
theorem dL_law_201 : decode cL_law 201 = .ok (.iload_n 3, 1) := by decide +kernel
theorem dL_law_202 : decode cL_law 202 = .ok (.iconst 1, 1) := by decide +kernel
theorem dL_law_203 : decode cL_law 203 = .ok (.iadd, 1) := by decide +kernel
theorem dL_law_204 : decode cL_law 204 = .ok (.iaload, 1) := by decide +kernel
theorem dL_law_205 : decode cL_law 205 = .ok (.aload_n 0, 1) := by decide +kernel
theorem dL_law_206 : decode cL_law 206 = .ok (.iload_n 3, 1) := by decide +kernel
theorem dL_law_207 : decode cL_law 207 = .ok (.iconst 2, 1) := by decide +kernel
theorem dL_law_208 : decode cL_law 208 = .ok (.iadd, 1) := by decide +kernel
theorem dL_law_209 : decode cL_law 209 = .ok (.iaload, 1) := by decide +kernel
theorem dL_law_210 : decode cL_law 210 = .ok (.aload_n 0, 1) := by decide +kernel
theorem dL_law_211 : decode cL_law 211 = .ok (.iload_n 3, 1) := by decide +kernel
theorem dL_law_212 : decode cL_law 212 = .ok (.iconst 3, 1) := by decide +kernel
theorem dL_law_213 : decode cL_law 213 = .ok (.iadd, 1) := by decide +kernel
theorem dL_law_214 : decode cL_law 214 = .ok (.iaload, 1) := by decide +kernel
theorem dL_law_215 : decode cL_law 215 = .ok (.invokevirtual 17, 3) := by decide +kernel
theorem dL_law_218 : decode cL_law 218 = .ok (.if_icmp .eq 1201, 3) := by decide +kernel
theorem dL_law_221 : decode cL_law 221 = .ok (.iconst 0, 1) := by decide +kernel
theorem dL_law_222 : decode cL_law 222 = .ok (.ireturn, 1) := by decide +kernel
theorem dL_law_223 : decode cL_law 223 = .ok (.aload_n 1, 1) := by decide +kernel
theorem dL_law_224 : decode cL_law 224 = .ok (.aload_n 0, 1) := by decide +kernel
theorem dL_law_225 : decode cL_law 225 = .ok (.iload_n 3, 1) := by decide +kernel
theorem dL_law_226 : decode cL_law 226 = .ok (.iconst 1, 1) := by decide +kernel
theorem dL_law_227 : decode cL_law 227 = .ok (.iadd, 1) := by decide +kernel
theorem dL_law_228 : decode cL_law 228 = .ok (.iaload, 1) := by decide +kernel
theorem dL_law_229 : decode cL_law 229 = .ok (.aload_n 0, 1) := by decide +kernel
theorem dL_law_230 : decode cL_law 230 = .ok (.iload_n 3, 1) := by decide +kernel
theorem dL_law_231 : decode cL_law 231 = .ok (.iconst 2, 1) := by decide +kernel
theorem dL_law_232 : decode cL_law 232 = .ok (.iadd, 1) := by decide +kernel
theorem dL_law_233 : decode cL_law 233 = .ok (.iaload, 1) := by decide +kernel
theorem dL_law_234 : decode cL_law 234 = .ok (.aload_n 0, 1) := by decide +kernel
theorem dL_law_235 : decode cL_law 235 = .ok (.iload_n 3, 1) := by decide +kernel
theorem dL_law_236 : decode cL_law 236 = .ok (.iconst 3, 1) := by decide +kernel
theorem dL_law_237 : decode cL_law 237 = .ok (.iadd, 1) := by decide +kernel
theorem dL_law_238 : decode cL_law 238 = .ok (.iaload, 1) := by decide +kernel
theorem dL_law_239 : decode cL_law 239 = .ok (.invokevirtual 18, 3) := by decide +kernel
theorem dL_law_242 : decode cL_law 242 = .ok (.aload_n 2, 1) := by decide +kernel
theorem dL_law_243 : decode cL_law 243 = .ok (.aload_n 0, 1) := by decide +kernel
theorem dL_law_244 : decode cL_law 244 = .ok (.iload_n 3, 1) := by decide +kernel
theorem dL_law_245 : decode cL_law 245 = .ok (.iconst 1, 1) := by decide +kernel
theorem dL_law_246 : decode cL_law 246 = .ok (.iadd, 1) := by decide +kernel
theorem dL_law_247 : decode cL_law 247 = .ok (.iaload, 1) := by decide +kernel
theorem dL_law_248 : decode cL_law 248 = .ok (.aload_n 0, 1) := by decide +kernel
theorem dL_law_249 : decode cL_law 249 = .ok (.iload_n 3, 1) := by decide +kernel
theorem dL_law_250 : decode cL_law 250 = .ok (.iconst 2, 1) := by decide +kernel
theorem dL_law_251 : decode cL_law 251 = .ok (.iadd, 1) := by decide +kernel
theorem dL_law_252 : decode cL_law 252 = .ok (.iaload, 1) := by decide +kernel
theorem dL_law_253 : decode cL_law 253 = .ok (.aload_n 0, 1) := by decide +kernel
theorem dL_law_254 : decode cL_law 254 = .ok (.iload_n 3, 1) := by decide +kernel
theorem dL_law_255 : decode cL_law 255 = .ok (.iconst 3, 1) := by decide +kernel
theorem dL_law_256 : decode cL_law 256 = .ok (.iadd, 1) := by decide +kernel
theorem dL_law_257 : decode cL_law 257 = .ok (.iaload, 1) := by decide +kernel
theorem dL_law_258 : decode cL_law 258 = .ok (.invokevirtual 21, 3) := by decide +kernel
theorem dL_law_261 : decode cL_law 261 = .ok (.if_icmp .eq 1158, 3) := by decide +kernel
theorem dL_law_264 : decode cL_law 264 = .ok (.iconst 0, 1) := by decide +kernel
theorem dL_law_265 : decode cL_law 265 = .ok (.ireturn, 1) := by decide +kernel
theorem dL_law_266 : decode cL_law 266 = .ok (.aload_n 1, 1) := by decide +kernel
theorem dL_law_267 : decode cL_law 267 = .ok (.aload_n 0, 1) := by decide +kernel
theorem dL_law_268 : decode cL_law 268 = .ok (.iload_n 3, 1) := by decide +kernel
theorem dL_law_269 : decode cL_law 269 = .ok (.iconst 1, 1) := by decide +kernel
theorem dL_law_270 : decode cL_law 270 = .ok (.iadd, 1) := by decide +kernel
theorem dL_law_271 : decode cL_law 271 = .ok (.iaload, 1) := by decide +kernel
theorem dL_law_272 : decode cL_law 272 = .ok (.invokevirtual 22, 3) := by decide +kernel
theorem dL_law_275 : decode cL_law 275 = .ok (.aload_n 2, 1) := by decide +kernel
theorem dL_law_276 : decode cL_law 276 = .ok (.aload_n 0, 1) := by decide +kernel
theorem dL_law_277 : decode cL_law 277 = .ok (.iload_n 3, 1) := by decide +kernel
theorem dL_law_278 : decode cL_law 278 = .ok (.iconst 1, 1) := by decide +kernel
theorem dL_law_279 : decode cL_law 279 = .ok (.iadd, 1) := by decide +kernel
theorem dL_law_280 : decode cL_law 280 = .ok (.iaload, 1) := by decide +kernel
theorem dL_law_281 : decode cL_law 281 = .ok (.invokevirtual 26, 3) := by decide +kernel
theorem dL_law_284 : decode cL_law 284 = .ok (.if_icmp .eq 1135, 3) := by decide +kernel
theorem dL_law_287 : decode cL_law 287 = .ok (.iconst 0, 1) := by decide +kernel
theorem dL_law_288 : decode cL_law 288 = .ok (.ireturn, 1) := by decide +kernel
theorem dL_law_289 : decode cL_law 289 = .ok (.aload_n 1, 1) := by decide +kernel
theorem dL_law_290 : decode cL_law 290 = .ok (.aload_n 0, 1) := by decide +kernel
theorem dL_law_291 : decode cL_law 291 = .ok (.iload_n 3, 1) := by decide +kernel
theorem dL_law_292 : decode cL_law 292 = .ok (.iconst 1, 1) := by decide +kernel
theorem dL_law_293 : decode cL_law 293 = .ok (.iadd, 1) := by decide +kernel
theorem dL_law_294 : decode cL_law 294 = .ok (.iaload, 1) := by decide +kernel
theorem dL_law_295 : decode cL_law 295 = .ok (.invokevirtual 27, 3) := by decide +kernel
theorem dL_law_298 : decode cL_law 298 = .ok (.aload_n 2, 1) := by decide +kernel
theorem dL_law_299 : decode cL_law 299 = .ok (.aload_n 0, 1) := by decide +kernel
theorem dL_law_300 : decode cL_law 300 = .ok (.iload_n 3, 1) := by decide +kernel
theorem dL_law_301 : decode cL_law 301 = .ok (.iconst 1, 1) := by decide +kernel
theorem dL_law_302 : decode cL_law 302 = .ok (.iadd, 1) := by decide +kernel
theorem dL_law_303 : decode cL_law 303 = .ok (.iaload, 1) := by decide +kernel
theorem dL_law_304 : decode cL_law 304 = .ok (.invokevirtual 30, 3) := by decide +kernel
theorem dL_law_307 : decode cL_law 307 = .ok (.if_icmp .eq 1112, 3) := by decide +kernel
theorem dL_law_310 : decode cL_law 310 = .ok (.iconst 0, 1) := by decide +kernel
theorem dL_law_311 : decode cL_law 311 = .ok (.ireturn, 1) := by decide +kernel
theorem dL_law_312 : decode cL_law 312 = .ok (.aload_n 1, 1) := by decide +kernel
theorem dL_law_313 : decode cL_law 313 = .ok (.aload_n 0, 1) := by decide +kernel
theorem dL_law_314 : decode cL_law 314 = .ok (.iload_n 3, 1) := by decide +kernel
theorem dL_law_315 : decode cL_law 315 = .ok (.iconst 1, 1) := by decide +kernel
theorem dL_law_316 : decode cL_law 316 = .ok (.iadd, 1) := by decide +kernel
theorem dL_law_317 : decode cL_law 317 = .ok (.iaload, 1) := by decide +kernel
theorem dL_law_318 : decode cL_law 318 = .ok (.aload_n 0, 1) := by decide +kernel
theorem dL_law_319 : decode cL_law 319 = .ok (.iload_n 3, 1) := by decide +kernel
theorem dL_law_320 : decode cL_law 320 = .ok (.iconst 2, 1) := by decide +kernel
theorem dL_law_321 : decode cL_law 321 = .ok (.iadd, 1) := by decide +kernel
theorem dL_law_322 : decode cL_law 322 = .ok (.iaload, 1) := by decide +kernel
theorem dL_law_323 : decode cL_law 323 = .ok (.invokevirtual 31, 3) := by decide +kernel
theorem dL_law_326 : decode cL_law 326 = .ok (.aload_n 2, 1) := by decide +kernel
theorem dL_law_327 : decode cL_law 327 = .ok (.aload_n 0, 1) := by decide +kernel
theorem dL_law_328 : decode cL_law 328 = .ok (.iload_n 3, 1) := by decide +kernel
theorem dL_law_329 : decode cL_law 329 = .ok (.iconst 1, 1) := by decide +kernel
theorem dL_law_330 : decode cL_law 330 = .ok (.iadd, 1) := by decide +kernel
theorem dL_law_331 : decode cL_law 331 = .ok (.iaload, 1) := by decide +kernel
theorem dL_law_332 : decode cL_law 332 = .ok (.aload_n 0, 1) := by decide +kernel
theorem dL_law_333 : decode cL_law 333 = .ok (.iload_n 3, 1) := by decide +kernel
theorem dL_law_334 : decode cL_law 334 = .ok (.iconst 2, 1) := by decide +kernel
theorem dL_law_335 : decode cL_law 335 = .ok (.iadd, 1) := by decide +kernel
theorem dL_law_336 : decode cL_law 336 = .ok (.iaload, 1) := by decide +kernel
theorem dL_law_337 : decode cL_law 337 = .ok (.invokevirtual 35, 3) := by decide +kernel
theorem dL_law_340 : decode cL_law 340 = .ok (.if_icmp .eq 1079, 3) := by decide +kernel
theorem dL_law_343 : decode cL_law 343 = .ok (.iconst 0, 1) := by decide +kernel
theorem dL_law_344 : decode cL_law 344 = .ok (.ireturn, 1) := by decide +kernel
theorem dL_law_345 : decode cL_law 345 = .ok (.aload_n 1, 1) := by decide +kernel
theorem dL_law_346 : decode cL_law 346 = .ok (.aload_n 0, 1) := by decide +kernel
theorem dL_law_347 : decode cL_law 347 = .ok (.iload_n 3, 1) := by decide +kernel
theorem dL_law_348 : decode cL_law 348 = .ok (.iconst 1, 1) := by decide +kernel
theorem dL_law_349 : decode cL_law 349 = .ok (.iadd, 1) := by decide +kernel
theorem dL_law_350 : decode cL_law 350 = .ok (.iaload, 1) := by decide +kernel
theorem dL_law_351 : decode cL_law 351 = .ok (.aload_n 0, 1) := by decide +kernel
theorem dL_law_352 : decode cL_law 352 = .ok (.iload_n 3, 1) := by decide +kernel
theorem dL_law_353 : decode cL_law 353 = .ok (.iconst 2, 1) := by decide +kernel
theorem dL_law_354 : decode cL_law 354 = .ok (.iadd, 1) := by decide +kernel
theorem dL_law_355 : decode cL_law 355 = .ok (.iaload, 1) := by decide +kernel
theorem dL_law_356 : decode cL_law 356 = .ok (.aload_n 0, 1) := by decide +kernel
theorem dL_law_357 : decode cL_law 357 = .ok (.iload_n 3, 1) := by decide +kernel
theorem dL_law_358 : decode cL_law 358 = .ok (.iconst 3, 1) := by decide +kernel
theorem dL_law_359 : decode cL_law 359 = .ok (.iadd, 1) := by decide +kernel
theorem dL_law_360 : decode cL_law 360 = .ok (.iaload, 1) := by decide +kernel
theorem dL_law_361 : decode cL_law 361 = .ok (.invokevirtual 36, 3) := by decide +kernel
theorem dL_law_364 : decode cL_law 364 = .ok (.aload_n 2, 1) := by decide +kernel
theorem dL_law_365 : decode cL_law 365 = .ok (.aload_n 0, 1) := by decide +kernel
theorem dL_law_366 : decode cL_law 366 = .ok (.iload_n 3, 1) := by decide +kernel
theorem dL_law_367 : decode cL_law 367 = .ok (.iconst 1, 1) := by decide +kernel
theorem dL_law_368 : decode cL_law 368 = .ok (.iadd, 1) := by decide +kernel
theorem dL_law_369 : decode cL_law 369 = .ok (.iaload, 1) := by decide +kernel
theorem dL_law_370 : decode cL_law 370 = .ok (.aload_n 0, 1) := by decide +kernel
theorem dL_law_371 : decode cL_law 371 = .ok (.iload_n 3, 1) := by decide +kernel
theorem dL_law_372 : decode cL_law 372 = .ok (.iconst 2, 1) := by decide +kernel
theorem dL_law_373 : decode cL_law 373 = .ok (.iadd, 1) := by decide +kernel
theorem dL_law_374 : decode cL_law 374 = .ok (.iaload, 1) := by decide +kernel
theorem dL_law_375 : decode cL_law 375 = .ok (.aload_n 0, 1) := by decide +kernel
theorem dL_law_376 : decode cL_law 376 = .ok (.iload_n 3, 1) := by decide +kernel
theorem dL_law_377 : decode cL_law 377 = .ok (.iconst 3, 1) := by decide +kernel
theorem dL_law_378 : decode cL_law 378 = .ok (.iadd, 1) := by decide +kernel
theorem dL_law_379 : decode cL_law 379 = .ok (.iaload, 1) := by decide +kernel
theorem dL_law_380 : decode cL_law 380 = .ok (.invokevirtual 39, 3) := by decide +kernel
theorem dL_law_383 : decode cL_law 383 = .ok (.if_icmp .eq 1036, 3) := by decide +kernel
theorem dL_law_386 : decode cL_law 386 = .ok (.iconst 0, 1) := by decide +kernel
theorem dL_law_387 : decode cL_law 387 = .ok (.ireturn, 1) := by decide +kernel
theorem dL_law_388 : decode cL_law 388 = .ok (.aload_n 1, 1) := by decide +kernel
theorem dL_law_389 : decode cL_law 389 = .ok (.aload_n 0, 1) := by decide +kernel
theorem dL_law_390 : decode cL_law 390 = .ok (.iload_n 3, 1) := by decide +kernel
theorem dL_law_391 : decode cL_law 391 = .ok (.iconst 1, 1) := by decide +kernel
theorem dL_law_392 : decode cL_law 392 = .ok (.iadd, 1) := by decide +kernel
theorem dL_law_393 : decode cL_law 393 = .ok (.iaload, 1) := by decide +kernel
theorem dL_law_394 : decode cL_law 394 = .ok (.invokevirtual 40, 3) := by decide +kernel
theorem dL_law_397 : decode cL_law 397 = .ok (.aload_n 2, 1) := by decide +kernel
theorem dL_law_398 : decode cL_law 398 = .ok (.aload_n 0, 1) := by decide +kernel
theorem dL_law_399 : decode cL_law 399 = .ok (.iload_n 3, 1) := by decide +kernel
theorem dL_law_400 : decode cL_law 400 = .ok (.iconst 1, 1) := by decide +kernel
theorem dL_law_401 : decode cL_law 401 = .ok (.iadd, 1) := by decide +kernel
theorem dL_law_402 : decode cL_law 402 = .ok (.iaload, 1) := by decide +kernel
theorem dL_law_403 : decode cL_law 403 = .ok (.invokevirtual 43, 3) := by decide +kernel
theorem dL_law_406 : decode cL_law 406 = .ok (.if_icmp .eq 1013, 3) := by decide +kernel
theorem dL_law_409 : decode cL_law 409 = .ok (.iconst 0, 1) := by decide +kernel
theorem dL_law_410 : decode cL_law 410 = .ok (.ireturn, 1) := by decide +kernel
theorem dL_law_411 : decode cL_law 411 = .ok (.aload_n 1, 1) := by decide +kernel
theorem dL_law_412 : decode cL_law 412 = .ok (.aload_n 0, 1) := by decide +kernel
theorem dL_law_413 : decode cL_law 413 = .ok (.iload_n 3, 1) := by decide +kernel
theorem dL_law_414 : decode cL_law 414 = .ok (.iconst 1, 1) := by decide +kernel
theorem dL_law_415 : decode cL_law 415 = .ok (.iadd, 1) := by decide +kernel
theorem dL_law_416 : decode cL_law 416 = .ok (.iaload, 1) := by decide +kernel
theorem dL_law_417 : decode cL_law 417 = .ok (.invokevirtual 44, 3) := by decide +kernel
theorem dL_law_420 : decode cL_law 420 = .ok (.aload_n 2, 1) := by decide +kernel
theorem dL_law_421 : decode cL_law 421 = .ok (.aload_n 0, 1) := by decide +kernel
theorem dL_law_422 : decode cL_law 422 = .ok (.iload_n 3, 1) := by decide +kernel
theorem dL_law_423 : decode cL_law 423 = .ok (.iconst 1, 1) := by decide +kernel
theorem dL_law_424 : decode cL_law 424 = .ok (.iadd, 1) := by decide +kernel
theorem dL_law_425 : decode cL_law 425 = .ok (.iaload, 1) := by decide +kernel
theorem dL_law_426 : decode cL_law 426 = .ok (.invokevirtual 47, 3) := by decide +kernel
theorem dL_law_429 : decode cL_law 429 = .ok (.if_icmp .eq 990, 3) := by decide +kernel
theorem dL_law_432 : decode cL_law 432 = .ok (.iconst 0, 1) := by decide +kernel
theorem dL_law_433 : decode cL_law 433 = .ok (.ireturn, 1) := by decide +kernel
theorem dL_law_434 : decode cL_law 434 = .ok (.aload_n 1, 1) := by decide +kernel
theorem dL_law_435 : decode cL_law 435 = .ok (.aload_n 0, 1) := by decide +kernel
theorem dL_law_436 : decode cL_law 436 = .ok (.iload_n 3, 1) := by decide +kernel
theorem dL_law_437 : decode cL_law 437 = .ok (.iconst 1, 1) := by decide +kernel
theorem dL_law_438 : decode cL_law 438 = .ok (.iadd, 1) := by decide +kernel
theorem dL_law_439 : decode cL_law 439 = .ok (.iaload, 1) := by decide +kernel
theorem dL_law_440 : decode cL_law 440 = .ok (.aload_n 0, 1) := by decide +kernel
theorem dL_law_441 : decode cL_law 441 = .ok (.iload_n 3, 1) := by decide +kernel
theorem dL_law_442 : decode cL_law 442 = .ok (.iconst 2, 1) := by decide +kernel
theorem dL_law_443 : decode cL_law 443 = .ok (.iadd, 1) := by decide +kernel
theorem dL_law_444 : decode cL_law 444 = .ok (.iaload, 1) := by decide +kernel
theorem dL_law_445 : decode cL_law 445 = .ok (.invokevirtual 48, 3) := by decide +kernel
theorem dL_law_448 : decode cL_law 448 = .ok (.aload_n 2, 1) := by decide +kernel
theorem dL_law_449 : decode cL_law 449 = .ok (.aload_n 0, 1) := by decide +kernel
theorem dL_law_450 : decode cL_law 450 = .ok (.iload_n 3, 1) := by decide +kernel
theorem dL_law_451 : decode cL_law 451 = .ok (.iconst 1, 1) := by decide +kernel
theorem dL_law_452 : decode cL_law 452 = .ok (.iadd, 1) := by decide +kernel
theorem dL_law_453 : decode cL_law 453 = .ok (.iaload, 1) := by decide +kernel
theorem dL_law_454 : decode cL_law 454 = .ok (.aload_n 0, 1) := by decide +kernel
theorem dL_law_455 : decode cL_law 455 = .ok (.iload_n 3, 1) := by decide +kernel
theorem dL_law_456 : decode cL_law 456 = .ok (.iconst 2, 1) := by decide +kernel
theorem dL_law_457 : decode cL_law 457 = .ok (.iadd, 1) := by decide +kernel
theorem dL_law_458 : decode cL_law 458 = .ok (.iaload, 1) := by decide +kernel
theorem dL_law_459 : decode cL_law 459 = .ok (.invokevirtual 51, 3) := by decide +kernel
theorem dL_law_462 : decode cL_law 462 = .ok (.if_icmp .eq 957, 3) := by decide +kernel
theorem dL_law_465 : decode cL_law 465 = .ok (.iconst 0, 1) := by decide +kernel
theorem dL_law_466 : decode cL_law 466 = .ok (.ireturn, 1) := by decide +kernel
theorem dL_law_467 : decode cL_law 467 = .ok (.aload_n 1, 1) := by decide +kernel
theorem dL_law_468 : decode cL_law 468 = .ok (.aload_n 0, 1) := by decide +kernel
theorem dL_law_469 : decode cL_law 469 = .ok (.iload_n 3, 1) := by decide +kernel
theorem dL_law_470 : decode cL_law 470 = .ok (.iconst 1, 1) := by decide +kernel
theorem dL_law_471 : decode cL_law 471 = .ok (.iadd, 1) := by decide +kernel
theorem dL_law_472 : decode cL_law 472 = .ok (.iaload, 1) := by decide +kernel
theorem dL_law_473 : decode cL_law 473 = .ok (.aload_n 0, 1) := by decide +kernel
theorem dL_law_474 : decode cL_law 474 = .ok (.iload_n 3, 1) := by decide +kernel
theorem dL_law_475 : decode cL_law 475 = .ok (.iconst 2, 1) := by decide +kernel
theorem dL_law_476 : decode cL_law 476 = .ok (.iadd, 1) := by decide +kernel
theorem dL_law_477 : decode cL_law 477 = .ok (.iaload, 1) := by decide +kernel
theorem dL_law_478 : decode cL_law 478 = .ok (.invokevirtual 52, 3) := by decide +kernel
theorem dL_law_481 : decode cL_law 481 = .ok (.aload_n 2, 1) := by decide +kernel
theorem dL_law_482 : decode cL_law 482 = .ok (.aload_n 0, 1) := by decide +kernel
theorem dL_law_483 : decode cL_law 483 = .ok (.iload_n 3, 1) := by decide +kernel
theorem dL_law_484 : decode cL_law 484 = .ok (.iconst 1, 1) := by decide +kernel
theorem dL_law_485 : decode cL_law 485 = .ok (.iadd, 1) := by decide +kernel
theorem dL_law_486 : decode cL_law 486 = .ok (.iaload, 1) := by decide +kernel
theorem dL_law_487 : decode cL_law 487 = .ok (.aload_n 0, 1) := by decide +kernel
theorem dL_law_488 : decode cL_law 488 = .ok (.iload_n 3, 1) := by decide +kernel
theorem dL_law_489 : decode cL_law 489 = .ok (.iconst 2, 1) := by decide +kernel
theorem dL_law_490 : decode cL_law 490 = .ok (.iadd, 1) := by decide +kernel
theorem dL_law_491 : decode cL_law 491 = .ok (.iaload, 1) := by decide +kernel
theorem dL_law_492 : decode cL_law 492 = .ok (.invokevirtual 55, 3) := by decide +kernel
theorem dL_law_495 : decode cL_law 495 = .ok (.if_icmp .eq 924, 3) := by decide +kernel
theorem dL_law_498 : decode cL_law 498 = .ok (.iconst 0, 1) := by decide +kernel
theorem dL_law_499 : decode cL_law 499 = .ok (.ireturn, 1) := by decide +kernel
theorem dL_law_500 : decode cL_law 500 = .ok (.aload_n 1, 1) := by decide +kernel
theorem dL_law_501 : decode cL_law 501 = .ok (.aload_n 0, 1) := by decide +kernel
theorem dL_law_502 : decode cL_law 502 = .ok (.iload_n 3, 1) := by decide +kernel
theorem dL_law_503 : decode cL_law 503 = .ok (.iconst 1, 1) := by decide +kernel
theorem dL_law_504 : decode cL_law 504 = .ok (.iadd, 1) := by decide +kernel
theorem dL_law_505 : decode cL_law 505 = .ok (.iaload, 1) := by decide +kernel
theorem dL_law_506 : decode cL_law 506 = .ok (.aload_n 0, 1) := by decide +kernel
theorem dL_law_507 : decode cL_law 507 = .ok (.iload_n 3, 1) := by decide +kernel
theorem dL_law_508 : decode cL_law 508 = .ok (.iconst 2, 1) := by decide +kernel
theorem dL_law_509 : decode cL_law 509 = .ok (.iadd, 1) := by decide +kernel
theorem dL_law_510 : decode cL_law 510 = .ok (.iaload, 1) := by decide +kernel
theorem dL_law_511 : decode cL_law 511 = .ok (.aload_n 0, 1) := by decide +kernel
theorem dL_law_512 : decode cL_law 512 = .ok (.iload_n 3, 1) := by decide +kernel
theorem dL_law_513 : decode cL_law 513 = .ok (.iconst 3, 1) := by decide +kernel
theorem dL_law_514 : decode cL_law 514 = .ok (.iadd, 1) := by decide +kernel
theorem dL_law_515 : decode cL_law 515 = .ok (.iaload, 1) := by decide +kernel
theorem dL_law_516 : decode cL_law 516 = .ok (.aload_n 0, 1) := by decide +kernel
theorem dL_law_517 : decode cL_law 517 = .ok (.iload_n 3, 1) := by decide +kernel
theorem dL_law_518 : decode cL_law 518 = .ok (.iconst 4, 1) := by decide +kernel
theorem dL_law_519 : decode cL_law 519 = .ok (.iadd, 1) := by decide +kernel
theorem dL_law_520 : decode cL_law 520 = .ok (.iaload, 1) := by decide +kernel
theorem dL_law_521 : decode cL_law 521 = .ok (.aload_n 0, 1) := by decide +kernel
theorem dL_law_522 : decode cL_law 522 = .ok (.iload_n 3, 1) := by decide +kernel
theorem dL_law_523 : decode cL_law 523 = .ok (.iconst 5, 1) := by decide +kernel
theorem dL_law_524 : decode cL_law 524 = .ok (.iadd, 1) := by decide +kernel
theorem dL_law_525 : decode cL_law 525 = .ok (.iaload, 1) := by decide +kernel
theorem dL_law_526 : decode cL_law 526 = .ok (.invokevirtual 56, 3) := by decide +kernel
theorem dL_law_529 : decode cL_law 529 = .ok (.aload_n 2, 1) := by decide +kernel
theorem dL_law_530 : decode cL_law 530 = .ok (.aload_n 0, 1) := by decide +kernel
theorem dL_law_531 : decode cL_law 531 = .ok (.iload_n 3, 1) := by decide +kernel
theorem dL_law_532 : decode cL_law 532 = .ok (.iconst 1, 1) := by decide +kernel
theorem dL_law_533 : decode cL_law 533 = .ok (.iadd, 1) := by decide +kernel
theorem dL_law_534 : decode cL_law 534 = .ok (.iaload, 1) := by decide +kernel
theorem dL_law_535 : decode cL_law 535 = .ok (.aload_n 0, 1) := by decide +kernel
theorem dL_law_536 : decode cL_law 536 = .ok (.iload_n 3, 1) := by decide +kernel
theorem dL_law_537 : decode cL_law 537 = .ok (.iconst 2, 1) := by decide +kernel
theorem dL_law_538 : decode cL_law 538 = .ok (.iadd, 1) := by decide +kernel
theorem dL_law_539 : decode cL_law 539 = .ok (.iaload, 1) := by decide +kernel
theorem dL_law_540 : decode cL_law 540 = .ok (.aload_n 0, 1) := by decide +kernel
theorem dL_law_541 : decode cL_law 541 = .ok (.iload_n 3, 1) := by decide +kernel
theorem dL_law_542 : decode cL_law 542 = .ok (.iconst 3, 1) := by decide +kernel
theorem dL_law_543 : decode cL_law 543 = .ok (.iadd, 1) := by decide +kernel
theorem dL_law_544 : decode cL_law 544 = .ok (.iaload, 1) := by decide +kernel
theorem dL_law_545 : decode cL_law 545 = .ok (.aload_n 0, 1) := by decide +kernel
theorem dL_law_546 : decode cL_law 546 = .ok (.iload_n 3, 1) := by decide +kernel
theorem dL_law_547 : decode cL_law 547 = .ok (.iconst 4, 1) := by decide +kernel
theorem dL_law_548 : decode cL_law 548 = .ok (.iadd, 1) := by decide +kernel
theorem dL_law_549 : decode cL_law 549 = .ok (.iaload, 1) := by decide +kernel
theorem dL_law_550 : decode cL_law 550 = .ok (.aload_n 0, 1) := by decide +kernel
theorem dL_law_551 : decode cL_law 551 = .ok (.iload_n 3, 1) := by decide +kernel
theorem dL_law_552 : decode cL_law 552 = .ok (.iconst 5, 1) := by decide +kernel
theorem dL_law_553 : decode cL_law 553 = .ok (.iadd, 1) := by decide +kernel
theorem dL_law_554 : decode cL_law 554 = .ok (.iaload, 1) := by decide +kernel
theorem dL_law_555 : decode cL_law 555 = .ok (.invokevirtual 60, 3) := by decide +kernel
theorem dL_law_558 : decode cL_law 558 = .ok (.if_icmp .eq 861, 3) := by decide +kernel
theorem dL_law_561 : decode cL_law 561 = .ok (.iconst 0, 1) := by decide +kernel
theorem dL_law_562 : decode cL_law 562 = .ok (.ireturn, 1) := by decide +kernel
theorem dL_law_563 : decode cL_law 563 = .ok (.aload_n 1, 1) := by decide +kernel
theorem dL_law_564 : decode cL_law 564 = .ok (.aload_n 0, 1) := by decide +kernel
theorem dL_law_565 : decode cL_law 565 = .ok (.iload_n 3, 1) := by decide +kernel
theorem dL_law_566 : decode cL_law 566 = .ok (.iconst 1, 1) := by decide +kernel
theorem dL_law_567 : decode cL_law 567 = .ok (.iadd, 1) := by decide +kernel
theorem dL_law_568 : decode cL_law 568 = .ok (.iaload, 1) := by decide +kernel
theorem dL_law_569 : decode cL_law 569 = .ok (.aload_n 0, 1) := by decide +kernel
theorem dL_law_570 : decode cL_law 570 = .ok (.iload_n 3, 1) := by decide +kernel
theorem dL_law_571 : decode cL_law 571 = .ok (.iconst 2, 1) := by decide +kernel
theorem dL_law_572 : decode cL_law 572 = .ok (.iadd, 1) := by decide +kernel
theorem dL_law_573 : decode cL_law 573 = .ok (.iaload, 1) := by decide +kernel
theorem dL_law_574 : decode cL_law 574 = .ok (.aload_n 0, 1) := by decide +kernel
theorem dL_law_575 : decode cL_law 575 = .ok (.iload_n 3, 1) := by decide +kernel
theorem dL_law_576 : decode cL_law 576 = .ok (.iconst 3, 1) := by decide +kernel
theorem dL_law_577 : decode cL_law 577 = .ok (.iadd, 1) := by decide +kernel
theorem dL_law_578 : decode cL_law 578 = .ok (.iaload, 1) := by decide +kernel
theorem dL_law_579 : decode cL_law 579 = .ok (.aload_n 0, 1) := by decide +kernel
theorem dL_law_580 : decode cL_law 580 = .ok (.iload_n 3, 1) := by decide +kernel
theorem dL_law_581 : decode cL_law 581 = .ok (.iconst 4, 1) := by decide +kernel
theorem dL_law_582 : decode cL_law 582 = .ok (.iadd, 1) := by decide +kernel
theorem dL_law_583 : decode cL_law 583 = .ok (.iaload, 1) := by decide +kernel
theorem dL_law_584 : decode cL_law 584 = .ok (.invokevirtual 61, 3) := by decide +kernel
theorem dL_law_587 : decode cL_law 587 = .ok (.aload_n 2, 1) := by decide +kernel
theorem dL_law_588 : decode cL_law 588 = .ok (.aload_n 0, 1) := by decide +kernel
theorem dL_law_589 : decode cL_law 589 = .ok (.iload_n 3, 1) := by decide +kernel
theorem dL_law_590 : decode cL_law 590 = .ok (.iconst 1, 1) := by decide +kernel
theorem dL_law_591 : decode cL_law 591 = .ok (.iadd, 1) := by decide +kernel
theorem dL_law_592 : decode cL_law 592 = .ok (.iaload, 1) := by decide +kernel
theorem dL_law_593 : decode cL_law 593 = .ok (.aload_n 0, 1) := by decide +kernel
theorem dL_law_594 : decode cL_law 594 = .ok (.iload_n 3, 1) := by decide +kernel
theorem dL_law_595 : decode cL_law 595 = .ok (.iconst 2, 1) := by decide +kernel
theorem dL_law_596 : decode cL_law 596 = .ok (.iadd, 1) := by decide +kernel
theorem dL_law_597 : decode cL_law 597 = .ok (.iaload, 1) := by decide +kernel
theorem dL_law_598 : decode cL_law 598 = .ok (.aload_n 0, 1) := by decide +kernel
theorem dL_law_599 : decode cL_law 599 = .ok (.iload_n 3, 1) := by decide +kernel
theorem dL_law_600 : decode cL_law 600 = .ok (.iconst 3, 1) := by decide +kernel
theorem dL_law_601 : decode cL_law 601 = .ok (.iadd, 1) := by decide +kernel
theorem dL_law_602 : decode cL_law 602 = .ok (.iaload, 1) := by decide +kernel
theorem dL_law_603 : decode cL_law 603 = .ok (.aload_n 0, 1) := by decide +kernel
theorem dL_law_604 : decode cL_law 604 = .ok (.iload_n 3, 1) := by decide +kernel
theorem dL_law_605 : decode cL_law 605 = .ok (.iconst 4, 1) := by decide +kernel
theorem dL_law_606 : decode cL_law 606 = .ok (.iadd, 1) := by decide +kernel
theorem dL_law_607 : decode cL_law 607 = .ok (.iaload, 1) := by decide +kernel
theorem dL_law_608 : decode cL_law 608 = .ok (.invokevirtual 65, 3) := by decide +kernel
theorem dL_law_611 : decode cL_law 611 = .ok (.if_icmp .eq 808, 3) := by decide +kernel
theorem dL_law_614 : decode cL_law 614 = .ok (.iconst 0, 1) := by decide +kernel
theorem dL_law_615 : decode cL_law 615 = .ok (.ireturn, 1) := by decide +kernel
theorem dL_law_616 : decode cL_law 616 = .ok (.aload_n 1, 1) := by decide +kernel
theorem dL_law_617 : decode cL_law 617 = .ok (.aload_n 0, 1) := by decide +kernel
theorem dL_law_618 : decode cL_law 618 = .ok (.iload_n 3, 1) := by decide +kernel
theorem dL_law_619 : decode cL_law 619 = .ok (.iconst 1, 1) := by decide +kernel
theorem dL_law_620 : decode cL_law 620 = .ok (.iadd, 1) := by decide +kernel
theorem dL_law_621 : decode cL_law 621 = .ok (.iaload, 1) := by decide +kernel
theorem dL_law_622 : decode cL_law 622 = .ok (.aload_n 0, 1) := by decide +kernel
theorem dL_law_623 : decode cL_law 623 = .ok (.iload_n 3, 1) := by decide +kernel
theorem dL_law_624 : decode cL_law 624 = .ok (.iconst 2, 1) := by decide +kernel
theorem dL_law_625 : decode cL_law 625 = .ok (.iadd, 1) := by decide +kernel
theorem dL_law_626 : decode cL_law 626 = .ok (.iaload, 1) := by decide +kernel
theorem dL_law_627 : decode cL_law 627 = .ok (.aload_n 0, 1) := by decide +kernel
theorem dL_law_628 : decode cL_law 628 = .ok (.iload_n 3, 1) := by decide +kernel
theorem dL_law_629 : decode cL_law 629 = .ok (.iconst 3, 1) := by decide +kernel
theorem dL_law_630 : decode cL_law 630 = .ok (.iadd, 1) := by decide +kernel
theorem dL_law_631 : decode cL_law 631 = .ok (.iaload, 1) := by decide +kernel
theorem dL_law_632 : decode cL_law 632 = .ok (.aload_n 0, 1) := by decide +kernel
theorem dL_law_633 : decode cL_law 633 = .ok (.iload_n 3, 1) := by decide +kernel
theorem dL_law_634 : decode cL_law 634 = .ok (.iconst 4, 1) := by decide +kernel
theorem dL_law_635 : decode cL_law 635 = .ok (.iadd, 1) := by decide +kernel
theorem dL_law_636 : decode cL_law 636 = .ok (.iaload, 1) := by decide +kernel
theorem dL_law_637 : decode cL_law 637 = .ok (.aload_n 0, 1) := by decide +kernel
theorem dL_law_638 : decode cL_law 638 = .ok (.iload_n 3, 1) := by decide +kernel
theorem dL_law_639 : decode cL_law 639 = .ok (.iconst 5, 1) := by decide +kernel
theorem dL_law_640 : decode cL_law 640 = .ok (.iadd, 1) := by decide +kernel
theorem dL_law_641 : decode cL_law 641 = .ok (.iaload, 1) := by decide +kernel
theorem dL_law_642 : decode cL_law 642 = .ok (.invokevirtual 66, 3) := by decide +kernel
theorem dL_law_645 : decode cL_law 645 = .ok (.aload_n 2, 1) := by decide +kernel
theorem dL_law_646 : decode cL_law 646 = .ok (.aload_n 0, 1) := by decide +kernel
theorem dL_law_647 : decode cL_law 647 = .ok (.iload_n 3, 1) := by decide +kernel
theorem dL_law_648 : decode cL_law 648 = .ok (.iconst 1, 1) := by decide +kernel
theorem dL_law_649 : decode cL_law 649 = .ok (.iadd, 1) := by decide +kernel
theorem dL_law_650 : decode cL_law 650 = .ok (.iaload, 1) := by decide +kernel
theorem dL_law_651 : decode cL_law 651 = .ok (.aload_n 0, 1) := by decide +kernel
theorem dL_law_652 : decode cL_law 652 = .ok (.iload_n 3, 1) := by decide +kernel
theorem dL_law_653 : decode cL_law 653 = .ok (.iconst 2, 1) := by decide +kernel
theorem dL_law_654 : decode cL_law 654 = .ok (.iadd, 1) := by decide +kernel
theorem dL_law_655 : decode cL_law 655 = .ok (.iaload, 1) := by decide +kernel
theorem dL_law_656 : decode cL_law 656 = .ok (.aload_n 0, 1) := by decide +kernel
theorem dL_law_657 : decode cL_law 657 = .ok (.iload_n 3, 1) := by decide +kernel
theorem dL_law_658 : decode cL_law 658 = .ok (.iconst 3, 1) := by decide +kernel
theorem dL_law_659 : decode cL_law 659 = .ok (.iadd, 1) := by decide +kernel
theorem dL_law_660 : decode cL_law 660 = .ok (.iaload, 1) := by decide +kernel
theorem dL_law_661 : decode cL_law 661 = .ok (.aload_n 0, 1) := by decide +kernel
theorem dL_law_662 : decode cL_law 662 = .ok (.iload_n 3, 1) := by decide +kernel
theorem dL_law_663 : decode cL_law 663 = .ok (.iconst 4, 1) := by decide +kernel
theorem dL_law_664 : decode cL_law 664 = .ok (.iadd, 1) := by decide +kernel
theorem dL_law_665 : decode cL_law 665 = .ok (.iaload, 1) := by decide +kernel
theorem dL_law_666 : decode cL_law 666 = .ok (.aload_n 0, 1) := by decide +kernel
theorem dL_law_667 : decode cL_law 667 = .ok (.iload_n 3, 1) := by decide +kernel
theorem dL_law_668 : decode cL_law 668 = .ok (.iconst 5, 1) := by decide +kernel
theorem dL_law_669 : decode cL_law 669 = .ok (.iadd, 1) := by decide +kernel
theorem dL_law_670 : decode cL_law 670 = .ok (.iaload, 1) := by decide +kernel
theorem dL_law_671 : decode cL_law 671 = .ok (.invokevirtual 69, 3) := by decide +kernel
theorem dL_law_674 : decode cL_law 674 = .ok (.if_icmp .eq 745, 3) := by decide +kernel
theorem dL_law_677 : decode cL_law 677 = .ok (.iconst 0, 1) := by decide +kernel
theorem dL_law_678 : decode cL_law 678 = .ok (.ireturn, 1) := by decide +kernel
theorem dL_law_679 : decode cL_law 679 = .ok (.aload_n 1, 1) := by decide +kernel
theorem dL_law_680 : decode cL_law 680 = .ok (.aload_n 0, 1) := by decide +kernel
theorem dL_law_681 : decode cL_law 681 = .ok (.iload_n 3, 1) := by decide +kernel
theorem dL_law_682 : decode cL_law 682 = .ok (.iconst 1, 1) := by decide +kernel
theorem dL_law_683 : decode cL_law 683 = .ok (.iadd, 1) := by decide +kernel
theorem dL_law_684 : decode cL_law 684 = .ok (.iaload, 1) := by decide +kernel
theorem dL_law_685 : decode cL_law 685 = .ok (.aload_n 0, 1) := by decide +kernel
theorem dL_law_686 : decode cL_law 686 = .ok (.iload_n 3, 1) := by decide +kernel
theorem dL_law_687 : decode cL_law 687 = .ok (.iconst 2, 1) := by decide +kernel
theorem dL_law_688 : decode cL_law 688 = .ok (.iadd, 1) := by decide +kernel
theorem dL_law_689 : decode cL_law 689 = .ok (.iaload, 1) := by decide +kernel
theorem dL_law_690 : decode cL_law 690 = .ok (.aload_n 0, 1) := by decide +kernel
theorem dL_law_691 : decode cL_law 691 = .ok (.iload_n 3, 1) := by decide +kernel
theorem dL_law_692 : decode cL_law 692 = .ok (.iconst 3, 1) := by decide +kernel
theorem dL_law_693 : decode cL_law 693 = .ok (.iadd, 1) := by decide +kernel
theorem dL_law_694 : decode cL_law 694 = .ok (.iaload, 1) := by decide +kernel
theorem dL_law_695 : decode cL_law 695 = .ok (.aload_n 0, 1) := by decide +kernel
theorem dL_law_696 : decode cL_law 696 = .ok (.iload_n 3, 1) := by decide +kernel
theorem dL_law_697 : decode cL_law 697 = .ok (.iconst 4, 1) := by decide +kernel
theorem dL_law_698 : decode cL_law 698 = .ok (.iadd, 1) := by decide +kernel
theorem dL_law_699 : decode cL_law 699 = .ok (.iaload, 1) := by decide +kernel
theorem dL_law_700 : decode cL_law 700 = .ok (.invokevirtual 70, 3) := by decide +kernel
theorem dL_law_703 : decode cL_law 703 = .ok (.aload_n 2, 1) := by decide +kernel
theorem dL_law_704 : decode cL_law 704 = .ok (.aload_n 0, 1) := by decide +kernel
theorem dL_law_705 : decode cL_law 705 = .ok (.iload_n 3, 1) := by decide +kernel
theorem dL_law_706 : decode cL_law 706 = .ok (.iconst 1, 1) := by decide +kernel
theorem dL_law_707 : decode cL_law 707 = .ok (.iadd, 1) := by decide +kernel
theorem dL_law_708 : decode cL_law 708 = .ok (.iaload, 1) := by decide +kernel
theorem dL_law_709 : decode cL_law 709 = .ok (.aload_n 0, 1) := by decide +kernel
theorem dL_law_710 : decode cL_law 710 = .ok (.iload_n 3, 1) := by decide +kernel
theorem dL_law_711 : decode cL_law 711 = .ok (.iconst 2, 1) := by decide +kernel
theorem dL_law_712 : decode cL_law 712 = .ok (.iadd, 1) := by decide +kernel
theorem dL_law_713 : decode cL_law 713 = .ok (.iaload, 1) := by decide +kernel
theorem dL_law_714 : decode cL_law 714 = .ok (.aload_n 0, 1) := by decide +kernel
theorem dL_law_715 : decode cL_law 715 = .ok (.iload_n 3, 1) := by decide +kernel
theorem dL_law_716 : decode cL_law 716 = .ok (.iconst 3, 1) := by decide +kernel
theorem dL_law_717 : decode cL_law 717 = .ok (.iadd, 1) := by decide +kernel
theorem dL_law_718 : decode cL_law 718 = .ok (.iaload, 1) := by decide +kernel
theorem dL_law_719 : decode cL_law 719 = .ok (.aload_n 0, 1) := by decide +kernel
theorem dL_law_720 : decode cL_law 720 = .ok (.iload_n 3, 1) := by decide +kernel
theorem dL_law_721 : decode cL_law 721 = .ok (.iconst 4, 1) := by decide +kernel
theorem dL_law_722 : decode cL_law 722 = .ok (.iadd, 1) := by decide +kernel
theorem dL_law_723 : decode cL_law 723 = .ok (.iaload, 1) := by decide +kernel
theorem dL_law_724 : decode cL_law 724 = .ok (.invokevirtual 73, 3) := by decide +kernel
theorem dL_law_727 : decode cL_law 727 = .ok (.if_icmp .eq 692, 3) := by decide +kernel
theorem dL_law_730 : decode cL_law 730 = .ok (.iconst 0, 1) := by decide +kernel
theorem dL_law_731 : decode cL_law 731 = .ok (.ireturn, 1) := by decide +kernel
theorem dL_law_732 : decode cL_law 732 = .ok (.aload_n 1, 1) := by decide +kernel
theorem dL_law_733 : decode cL_law 733 = .ok (.aload_n 0, 1) := by decide +kernel
theorem dL_law_734 : decode cL_law 734 = .ok (.iload_n 3, 1) := by decide +kernel
theorem dL_law_735 : decode cL_law 735 = .ok (.iconst 1, 1) := by decide +kernel
theorem dL_law_736 : decode cL_law 736 = .ok (.iadd, 1) := by decide +kernel
theorem dL_law_737 : decode cL_law 737 = .ok (.iaload, 1) := by decide +kernel
theorem dL_law_738 : decode cL_law 738 = .ok (.aload_n 0, 1) := by decide +kernel
theorem dL_law_739 : decode cL_law 739 = .ok (.iload_n 3, 1) := by decide +kernel
theorem dL_law_740 : decode cL_law 740 = .ok (.iconst 2, 1) := by decide +kernel
theorem dL_law_741 : decode cL_law 741 = .ok (.iadd, 1) := by decide +kernel
theorem dL_law_742 : decode cL_law 742 = .ok (.iaload, 1) := by decide +kernel
theorem dL_law_743 : decode cL_law 743 = .ok (.aload_n 0, 1) := by decide +kernel
theorem dL_law_744 : decode cL_law 744 = .ok (.iload_n 3, 1) := by decide +kernel
theorem dL_law_745 : decode cL_law 745 = .ok (.iconst 3, 1) := by decide +kernel
theorem dL_law_746 : decode cL_law 746 = .ok (.iadd, 1) := by decide +kernel
theorem dL_law_747 : decode cL_law 747 = .ok (.iaload, 1) := by decide +kernel
theorem dL_law_748 : decode cL_law 748 = .ok (.aload_n 0, 1) := by decide +kernel
theorem dL_law_749 : decode cL_law 749 = .ok (.iload_n 3, 1) := by decide +kernel
theorem dL_law_750 : decode cL_law 750 = .ok (.iconst 4, 1) := by decide +kernel
theorem dL_law_751 : decode cL_law 751 = .ok (.iadd, 1) := by decide +kernel
theorem dL_law_752 : decode cL_law 752 = .ok (.iaload, 1) := by decide +kernel
theorem dL_law_753 : decode cL_law 753 = .ok (.invokevirtual 74, 3) := by decide +kernel
theorem dL_law_756 : decode cL_law 756 = .ok (.aload_n 2, 1) := by decide +kernel
theorem dL_law_757 : decode cL_law 757 = .ok (.aload_n 0, 1) := by decide +kernel
theorem dL_law_758 : decode cL_law 758 = .ok (.iload_n 3, 1) := by decide +kernel
theorem dL_law_759 : decode cL_law 759 = .ok (.iconst 1, 1) := by decide +kernel
theorem dL_law_760 : decode cL_law 760 = .ok (.iadd, 1) := by decide +kernel
theorem dL_law_761 : decode cL_law 761 = .ok (.iaload, 1) := by decide +kernel
theorem dL_law_762 : decode cL_law 762 = .ok (.aload_n 0, 1) := by decide +kernel
theorem dL_law_763 : decode cL_law 763 = .ok (.iload_n 3, 1) := by decide +kernel
theorem dL_law_764 : decode cL_law 764 = .ok (.iconst 2, 1) := by decide +kernel
theorem dL_law_765 : decode cL_law 765 = .ok (.iadd, 1) := by decide +kernel
theorem dL_law_766 : decode cL_law 766 = .ok (.iaload, 1) := by decide +kernel
theorem dL_law_767 : decode cL_law 767 = .ok (.aload_n 0, 1) := by decide +kernel
theorem dL_law_768 : decode cL_law 768 = .ok (.iload_n 3, 1) := by decide +kernel
theorem dL_law_769 : decode cL_law 769 = .ok (.iconst 3, 1) := by decide +kernel
theorem dL_law_770 : decode cL_law 770 = .ok (.iadd, 1) := by decide +kernel
theorem dL_law_771 : decode cL_law 771 = .ok (.iaload, 1) := by decide +kernel
theorem dL_law_772 : decode cL_law 772 = .ok (.aload_n 0, 1) := by decide +kernel
theorem dL_law_773 : decode cL_law 773 = .ok (.iload_n 3, 1) := by decide +kernel
theorem dL_law_774 : decode cL_law 774 = .ok (.iconst 4, 1) := by decide +kernel
theorem dL_law_775 : decode cL_law 775 = .ok (.iadd, 1) := by decide +kernel
theorem dL_law_776 : decode cL_law 776 = .ok (.iaload, 1) := by decide +kernel
theorem dL_law_777 : decode cL_law 777 = .ok (.invokevirtual 77, 3) := by decide +kernel
theorem dL_law_780 : decode cL_law 780 = .ok (.if_icmp .eq 639, 3) := by decide +kernel
theorem dL_law_783 : decode cL_law 783 = .ok (.iconst 0, 1) := by decide +kernel
theorem dL_law_784 : decode cL_law 784 = .ok (.ireturn, 1) := by decide +kernel
theorem dL_law_785 : decode cL_law 785 = .ok (.aload_n 1, 1) := by decide +kernel
theorem dL_law_786 : decode cL_law 786 = .ok (.aload_n 0, 1) := by decide +kernel
theorem dL_law_787 : decode cL_law 787 = .ok (.iload_n 3, 1) := by decide +kernel
theorem dL_law_788 : decode cL_law 788 = .ok (.iconst 1, 1) := by decide +kernel
theorem dL_law_789 : decode cL_law 789 = .ok (.iadd, 1) := by decide +kernel
theorem dL_law_790 : decode cL_law 790 = .ok (.iaload, 1) := by decide +kernel
theorem dL_law_791 : decode cL_law 791 = .ok (.aload_n 0, 1) := by decide +kernel
theorem dL_law_792 : decode cL_law 792 = .ok (.iload_n 3, 1) := by decide +kernel
theorem dL_law_793 : decode cL_law 793 = .ok (.iconst 2, 1) := by decide +kernel
theorem dL_law_794 : decode cL_law 794 = .ok (.iadd, 1) := by decide +kernel
theorem dL_law_795 : decode cL_law 795 = .ok (.iaload, 1) := by decide +kernel
theorem dL_law_796 : decode cL_law 796 = .ok (.aload_n 0, 1) := by decide +kernel
theorem dL_law_797 : decode cL_law 797 = .ok (.iload_n 3, 1) := by decide +kernel
theorem dL_law_798 : decode cL_law 798 = .ok (.iconst 3, 1) := by decide +kernel
theorem dL_law_799 : decode cL_law 799 = .ok (.iadd, 1) := by decide +kernel
theorem dL_law_800 : decode cL_law 800 = .ok (.iaload, 1) := by decide +kernel
theorem dL_law_801 : decode cL_law 801 = .ok (.aload_n 0, 1) := by decide +kernel
theorem dL_law_802 : decode cL_law 802 = .ok (.iload_n 3, 1) := by decide +kernel
theorem dL_law_803 : decode cL_law 803 = .ok (.iconst 4, 1) := by decide +kernel
theorem dL_law_804 : decode cL_law 804 = .ok (.iadd, 1) := by decide +kernel
theorem dL_law_805 : decode cL_law 805 = .ok (.iaload, 1) := by decide +kernel
theorem dL_law_806 : decode cL_law 806 = .ok (.invokevirtual 78, 3) := by decide +kernel
theorem dL_law_809 : decode cL_law 809 = .ok (.aload_n 2, 1) := by decide +kernel
theorem dL_law_810 : decode cL_law 810 = .ok (.aload_n 0, 1) := by decide +kernel
theorem dL_law_811 : decode cL_law 811 = .ok (.iload_n 3, 1) := by decide +kernel
theorem dL_law_812 : decode cL_law 812 = .ok (.iconst 1, 1) := by decide +kernel
theorem dL_law_813 : decode cL_law 813 = .ok (.iadd, 1) := by decide +kernel
theorem dL_law_814 : decode cL_law 814 = .ok (.iaload, 1) := by decide +kernel
theorem dL_law_815 : decode cL_law 815 = .ok (.aload_n 0, 1) := by decide +kernel
theorem dL_law_816 : decode cL_law 816 = .ok (.iload_n 3, 1) := by decide +kernel
theorem dL_law_817 : decode cL_law 817 = .ok (.iconst 2, 1) := by decide +kernel
theorem dL_law_818 : decode cL_law 818 = .ok (.iadd, 1) := by decide +kernel
theorem dL_law_819 : decode cL_law 819 = .ok (.iaload, 1) := by decide +kernel
theorem dL_law_820 : decode cL_law 820 = .ok (.aload_n 0, 1) := by decide +kernel
theorem dL_law_821 : decode cL_law 821 = .ok (.iload_n 3, 1) := by decide +kernel
theorem dL_law_822 : decode cL_law 822 = .ok (.iconst 3, 1) := by decide +kernel
theorem dL_law_823 : decode cL_law 823 = .ok (.iadd, 1) := by decide +kernel
theorem dL_law_824 : decode cL_law 824 = .ok (.iaload, 1) := by decide +kernel
theorem dL_law_825 : decode cL_law 825 = .ok (.aload_n 0, 1) := by decide +kernel
theorem dL_law_826 : decode cL_law 826 = .ok (.iload_n 3, 1) := by decide +kernel
theorem dL_law_827 : decode cL_law 827 = .ok (.iconst 4, 1) := by decide +kernel
theorem dL_law_828 : decode cL_law 828 = .ok (.iadd, 1) := by decide +kernel
theorem dL_law_829 : decode cL_law 829 = .ok (.iaload, 1) := by decide +kernel
theorem dL_law_830 : decode cL_law 830 = .ok (.invokevirtual 81, 3) := by decide +kernel
theorem dL_law_833 : decode cL_law 833 = .ok (.if_icmp .eq 586, 3) := by decide +kernel
theorem dL_law_836 : decode cL_law 836 = .ok (.iconst 0, 1) := by decide +kernel
theorem dL_law_837 : decode cL_law 837 = .ok (.ireturn, 1) := by decide +kernel
theorem dL_law_838 : decode cL_law 838 = .ok (.aload_n 1, 1) := by decide +kernel
theorem dL_law_839 : decode cL_law 839 = .ok (.aload_n 0, 1) := by decide +kernel
theorem dL_law_840 : decode cL_law 840 = .ok (.iload_n 3, 1) := by decide +kernel
theorem dL_law_841 : decode cL_law 841 = .ok (.iconst 1, 1) := by decide +kernel
theorem dL_law_842 : decode cL_law 842 = .ok (.iadd, 1) := by decide +kernel
theorem dL_law_843 : decode cL_law 843 = .ok (.iaload, 1) := by decide +kernel
theorem dL_law_844 : decode cL_law 844 = .ok (.invokevirtual 82, 3) := by decide +kernel
theorem dL_law_847 : decode cL_law 847 = .ok (.aload_n 2, 1) := by decide +kernel
theorem dL_law_848 : decode cL_law 848 = .ok (.aload_n 0, 1) := by decide +kernel
theorem dL_law_849 : decode cL_law 849 = .ok (.iload_n 3, 1) := by decide +kernel
theorem dL_law_850 : decode cL_law 850 = .ok (.iconst 1, 1) := by decide +kernel
theorem dL_law_851 : decode cL_law 851 = .ok (.iadd, 1) := by decide +kernel
theorem dL_law_852 : decode cL_law 852 = .ok (.iaload, 1) := by decide +kernel
theorem dL_law_853 : decode cL_law 853 = .ok (.invokevirtual 85, 3) := by decide +kernel
theorem dL_law_856 : decode cL_law 856 = .ok (.if_icmp .eq 563, 3) := by decide +kernel
theorem dL_law_859 : decode cL_law 859 = .ok (.iconst 0, 1) := by decide +kernel
theorem dL_law_860 : decode cL_law 860 = .ok (.ireturn, 1) := by decide +kernel
theorem dL_law_861 : decode cL_law 861 = .ok (.aload_n 1, 1) := by decide +kernel
theorem dL_law_862 : decode cL_law 862 = .ok (.aload_n 0, 1) := by decide +kernel
theorem dL_law_863 : decode cL_law 863 = .ok (.iload_n 3, 1) := by decide +kernel
theorem dL_law_864 : decode cL_law 864 = .ok (.iconst 1, 1) := by decide +kernel
theorem dL_law_865 : decode cL_law 865 = .ok (.iadd, 1) := by decide +kernel
theorem dL_law_866 : decode cL_law 866 = .ok (.iaload, 1) := by decide +kernel
theorem dL_law_867 : decode cL_law 867 = .ok (.aload_n 0, 1) := by decide +kernel
theorem dL_law_868 : decode cL_law 868 = .ok (.iload_n 3, 1) := by decide +kernel
theorem dL_law_869 : decode cL_law 869 = .ok (.iconst 2, 1) := by decide +kernel
theorem dL_law_870 : decode cL_law 870 = .ok (.iadd, 1) := by decide +kernel
theorem dL_law_871 : decode cL_law 871 = .ok (.iaload, 1) := by decide +kernel
theorem dL_law_872 : decode cL_law 872 = .ok (.aload_n 0, 1) := by decide +kernel
theorem dL_law_873 : decode cL_law 873 = .ok (.iload_n 3, 1) := by decide +kernel
theorem dL_law_874 : decode cL_law 874 = .ok (.iconst 3, 1) := by decide +kernel
theorem dL_law_875 : decode cL_law 875 = .ok (.iadd, 1) := by decide +kernel
theorem dL_law_876 : decode cL_law 876 = .ok (.iaload, 1) := by decide +kernel
theorem dL_law_877 : decode cL_law 877 = .ok (.invokevirtual 86, 3) := by decide +kernel
theorem dL_law_880 : decode cL_law 880 = .ok (.aload_n 2, 1) := by decide +kernel
theorem dL_law_881 : decode cL_law 881 = .ok (.aload_n 0, 1) := by decide +kernel
theorem dL_law_882 : decode cL_law 882 = .ok (.iload_n 3, 1) := by decide +kernel
theorem dL_law_883 : decode cL_law 883 = .ok (.iconst 1, 1) := by decide +kernel
theorem dL_law_884 : decode cL_law 884 = .ok (.iadd, 1) := by decide +kernel
theorem dL_law_885 : decode cL_law 885 = .ok (.iaload, 1) := by decide +kernel
theorem dL_law_886 : decode cL_law 886 = .ok (.aload_n 0, 1) := by decide +kernel
theorem dL_law_887 : decode cL_law 887 = .ok (.iload_n 3, 1) := by decide +kernel
theorem dL_law_888 : decode cL_law 888 = .ok (.iconst 2, 1) := by decide +kernel
theorem dL_law_889 : decode cL_law 889 = .ok (.iadd, 1) := by decide +kernel
theorem dL_law_890 : decode cL_law 890 = .ok (.iaload, 1) := by decide +kernel
theorem dL_law_891 : decode cL_law 891 = .ok (.aload_n 0, 1) := by decide +kernel
theorem dL_law_892 : decode cL_law 892 = .ok (.iload_n 3, 1) := by decide +kernel
theorem dL_law_893 : decode cL_law 893 = .ok (.iconst 3, 1) := by decide +kernel
theorem dL_law_894 : decode cL_law 894 = .ok (.iadd, 1) := by decide +kernel
theorem dL_law_895 : decode cL_law 895 = .ok (.iaload, 1) := by decide +kernel
theorem dL_law_896 : decode cL_law 896 = .ok (.invokevirtual 89, 3) := by decide +kernel
theorem dL_law_899 : decode cL_law 899 = .ok (.if_icmp .eq 520, 3) := by decide +kernel
theorem dL_law_902 : decode cL_law 902 = .ok (.iconst 0, 1) := by decide +kernel
theorem dL_law_903 : decode cL_law 903 = .ok (.ireturn, 1) := by decide +kernel
theorem dL_law_904 : decode cL_law 904 = .ok (.aload_n 1, 1) := by decide +kernel
theorem dL_law_905 : decode cL_law 905 = .ok (.aload_n 0, 1) := by decide +kernel
theorem dL_law_906 : decode cL_law 906 = .ok (.iload_n 3, 1) := by decide +kernel
theorem dL_law_907 : decode cL_law 907 = .ok (.iconst 1, 1) := by decide +kernel
theorem dL_law_908 : decode cL_law 908 = .ok (.iadd, 1) := by decide +kernel
theorem dL_law_909 : decode cL_law 909 = .ok (.iaload, 1) := by decide +kernel
theorem dL_law_910 : decode cL_law 910 = .ok (.aload_n 0, 1) := by decide +kernel
theorem dL_law_911 : decode cL_law 911 = .ok (.iload_n 3, 1) := by decide +kernel
theorem dL_law_912 : decode cL_law 912 = .ok (.iconst 2, 1) := by decide +kernel
theorem dL_law_913 : decode cL_law 913 = .ok (.iadd, 1) := by decide +kernel
theorem dL_law_914 : decode cL_law 914 = .ok (.iaload, 1) := by decide +kernel
theorem dL_law_915 : decode cL_law 915 = .ok (.aload_n 0, 1) := by decide +kernel
theorem dL_law_916 : decode cL_law 916 = .ok (.iload_n 3, 1) := by decide +kernel
theorem dL_law_917 : decode cL_law 917 = .ok (.iconst 3, 1) := by decide +kernel
theorem dL_law_918 : decode cL_law 918 = .ok (.iadd, 1) := by decide +kernel
theorem dL_law_919 : decode cL_law 919 = .ok (.iaload, 1) := by decide +kernel
theorem dL_law_920 : decode cL_law 920 = .ok (.aload_n 0, 1) := by decide +kernel
theorem dL_law_921 : decode cL_law 921 = .ok (.iload_n 3, 1) := by decide +kernel
theorem dL_law_922 : decode cL_law 922 = .ok (.iconst 4, 1) := by decide +kernel
theorem dL_law_923 : decode cL_law 923 = .ok (.iadd, 1) := by decide +kernel
theorem dL_law_924 : decode cL_law 924 = .ok (.iaload, 1) := by decide +kernel
theorem dL_law_925 : decode cL_law 925 = .ok (.invokevirtual 90, 3) := by decide +kernel
theorem dL_law_928 : decode cL_law 928 = .ok (.aload_n 2, 1) := by decide +kernel
theorem dL_law_929 : decode cL_law 929 = .ok (.aload_n 0, 1) := by decide +kernel
theorem dL_law_930 : decode cL_law 930 = .ok (.iload_n 3, 1) := by decide +kernel
theorem dL_law_931 : decode cL_law 931 = .ok (.iconst 1, 1) := by decide +kernel
theorem dL_law_932 : decode cL_law 932 = .ok (.iadd, 1) := by decide +kernel
theorem dL_law_933 : decode cL_law 933 = .ok (.iaload, 1) := by decide +kernel
theorem dL_law_934 : decode cL_law 934 = .ok (.aload_n 0, 1) := by decide +kernel
theorem dL_law_935 : decode cL_law 935 = .ok (.iload_n 3, 1) := by decide +kernel
theorem dL_law_936 : decode cL_law 936 = .ok (.iconst 2, 1) := by decide +kernel
theorem dL_law_937 : decode cL_law 937 = .ok (.iadd, 1) := by decide +kernel
theorem dL_law_938 : decode cL_law 938 = .ok (.iaload, 1) := by decide +kernel
theorem dL_law_939 : decode cL_law 939 = .ok (.aload_n 0, 1) := by decide +kernel
theorem dL_law_940 : decode cL_law 940 = .ok (.iload_n 3, 1) := by decide +kernel
theorem dL_law_941 : decode cL_law 941 = .ok (.iconst 3, 1) := by decide +kernel
theorem dL_law_942 : decode cL_law 942 = .ok (.iadd, 1) := by decide +kernel
theorem dL_law_943 : decode cL_law 943 = .ok (.iaload, 1) := by decide +kernel
theorem dL_law_944 : decode cL_law 944 = .ok (.aload_n 0, 1) := by decide +kernel
theorem dL_law_945 : decode cL_law 945 = .ok (.iload_n 3, 1) := by decide +kernel
theorem dL_law_946 : decode cL_law 946 = .ok (.iconst 4, 1) := by decide +kernel
theorem dL_law_947 : decode cL_law 947 = .ok (.iadd, 1) := by decide +kernel
theorem dL_law_948 : decode cL_law 948 = .ok (.iaload, 1) := by decide +kernel
theorem dL_law_949 : decode cL_law 949 = .ok (.invokevirtual 93, 3) := by decide +kernel
theorem dL_law_952 : decode cL_law 952 = .ok (.if_icmp .eq 467, 3) := by decide +kernel
theorem dL_law_955 : decode cL_law 955 = .ok (.iconst 0, 1) := by decide +kernel
theorem dL_law_956 : decode cL_law 956 = .ok (.ireturn, 1) := by decide +kernel
theorem dL_law_957 : decode cL_law 957 = .ok (.aload_n 1, 1) := by decide +kernel
theorem dL_law_958 : decode cL_law 958 = .ok (.aload_n 0, 1) := by decide +kernel
theorem dL_law_959 : decode cL_law 959 = .ok (.iload_n 3, 1) := by decide +kernel
theorem dL_law_960 : decode cL_law 960 = .ok (.iconst 1, 1) := by decide +kernel
theorem dL_law_961 : decode cL_law 961 = .ok (.iadd, 1) := by decide +kernel
theorem dL_law_962 : decode cL_law 962 = .ok (.iaload, 1) := by decide +kernel
theorem dL_law_963 : decode cL_law 963 = .ok (.aload_n 0, 1) := by decide +kernel
theorem dL_law_964 : decode cL_law 964 = .ok (.iload_n 3, 1) := by decide +kernel
theorem dL_law_965 : decode cL_law 965 = .ok (.iconst 2, 1) := by decide +kernel
theorem dL_law_966 : decode cL_law 966 = .ok (.iadd, 1) := by decide +kernel
theorem dL_law_967 : decode cL_law 967 = .ok (.iaload, 1) := by decide +kernel
theorem dL_law_968 : decode cL_law 968 = .ok (.invokevirtual 94, 3) := by decide +kernel
theorem dL_law_971 : decode cL_law 971 = .ok (.aload_n 2, 1) := by decide +kernel
theorem dL_law_972 : decode cL_law 972 = .ok (.aload_n 0, 1) := by decide +kernel
theorem dL_law_973 : decode cL_law 973 = .ok (.iload_n 3, 1) := by decide +kernel
theorem dL_law_974 : decode cL_law 974 = .ok (.iconst 1, 1) := by decide +kernel
theorem dL_law_975 : decode cL_law 975 = .ok (.iadd, 1) := by decide +kernel
theorem dL_law_976 : decode cL_law 976 = .ok (.iaload, 1) := by decide +kernel
theorem dL_law_977 : decode cL_law 977 = .ok (.aload_n 0, 1) := by decide +kernel
theorem dL_law_978 : decode cL_law 978 = .ok (.iload_n 3, 1) := by decide +kernel
theorem dL_law_979 : decode cL_law 979 = .ok (.iconst 2, 1) := by decide +kernel
theorem dL_law_980 : decode cL_law 980 = .ok (.iadd, 1) := by decide +kernel
theorem dL_law_981 : decode cL_law 981 = .ok (.iaload, 1) := by decide +kernel
theorem dL_law_982 : decode cL_law 982 = .ok (.invokevirtual 97, 3) := by decide +kernel
theorem dL_law_985 : decode cL_law 985 = .ok (.if_icmp .eq 434, 3) := by decide +kernel
theorem dL_law_988 : decode cL_law 988 = .ok (.iconst 0, 1) := by decide +kernel
theorem dL_law_989 : decode cL_law 989 = .ok (.ireturn, 1) := by decide +kernel
theorem dL_law_990 : decode cL_law 990 = .ok (.aload_n 1, 1) := by decide +kernel
theorem dL_law_991 : decode cL_law 991 = .ok (.aload_n 0, 1) := by decide +kernel
theorem dL_law_992 : decode cL_law 992 = .ok (.iload_n 3, 1) := by decide +kernel
theorem dL_law_993 : decode cL_law 993 = .ok (.iconst 1, 1) := by decide +kernel
theorem dL_law_994 : decode cL_law 994 = .ok (.iadd, 1) := by decide +kernel
theorem dL_law_995 : decode cL_law 995 = .ok (.iaload, 1) := by decide +kernel
theorem dL_law_996 : decode cL_law 996 = .ok (.aload_n 0, 1) := by decide +kernel
theorem dL_law_997 : decode cL_law 997 = .ok (.iload_n 3, 1) := by decide +kernel
theorem dL_law_998 : decode cL_law 998 = .ok (.iconst 2, 1) := by decide +kernel
theorem dL_law_999 : decode cL_law 999 = .ok (.iadd, 1) := by decide +kernel
theorem dL_law_1000 : decode cL_law 1000 = .ok (.iaload, 1) := by decide +kernel
theorem dL_law_1001 : decode cL_law 1001 = .ok (.invokevirtual 98, 3) := by decide +kernel
theorem dL_law_1004 : decode cL_law 1004 = .ok (.aload_n 2, 1) := by decide +kernel
theorem dL_law_1005 : decode cL_law 1005 = .ok (.aload_n 0, 1) := by decide +kernel
theorem dL_law_1006 : decode cL_law 1006 = .ok (.iload_n 3, 1) := by decide +kernel
theorem dL_law_1007 : decode cL_law 1007 = .ok (.iconst 1, 1) := by decide +kernel
theorem dL_law_1008 : decode cL_law 1008 = .ok (.iadd, 1) := by decide +kernel
theorem dL_law_1009 : decode cL_law 1009 = .ok (.iaload, 1) := by decide +kernel
theorem dL_law_1010 : decode cL_law 1010 = .ok (.aload_n 0, 1) := by decide +kernel
theorem dL_law_1011 : decode cL_law 1011 = .ok (.iload_n 3, 1) := by decide +kernel
theorem dL_law_1012 : decode cL_law 1012 = .ok (.iconst 2, 1) := by decide +kernel
theorem dL_law_1013 : decode cL_law 1013 = .ok (.iadd, 1) := by decide +kernel
theorem dL_law_1014 : decode cL_law 1014 = .ok (.iaload, 1) := by decide +kernel
theorem dL_law_1015 : decode cL_law 1015 = .ok (.invokevirtual 101, 3) := by decide +kernel
theorem dL_law_1018 : decode cL_law 1018 = .ok (.if_icmp .eq 401, 3) := by decide +kernel
theorem dL_law_1021 : decode cL_law 1021 = .ok (.iconst 0, 1) := by decide +kernel
theorem dL_law_1022 : decode cL_law 1022 = .ok (.ireturn, 1) := by decide +kernel
theorem dL_law_1023 : decode cL_law 1023 = .ok (.aload_n 1, 1) := by decide +kernel
theorem dL_law_1024 : decode cL_law 1024 = .ok (.aload_n 0, 1) := by decide +kernel
theorem dL_law_1025 : decode cL_law 1025 = .ok (.iload_n 3, 1) := by decide +kernel
theorem dL_law_1026 : decode cL_law 1026 = .ok (.iconst 1, 1) := by decide +kernel
theorem dL_law_1027 : decode cL_law 1027 = .ok (.iadd, 1) := by decide +kernel
theorem dL_law_1028 : decode cL_law 1028 = .ok (.iaload, 1) := by decide +kernel
theorem dL_law_1029 : decode cL_law 1029 = .ok (.aload_n 0, 1) := by decide +kernel
theorem dL_law_1030 : decode cL_law 1030 = .ok (.iload_n 3, 1) := by decide +kernel
theorem dL_law_1031 : decode cL_law 1031 = .ok (.iconst 2, 1) := by decide +kernel
theorem dL_law_1032 : decode cL_law 1032 = .ok (.iadd, 1) := by decide +kernel
theorem dL_law_1033 : decode cL_law 1033 = .ok (.iaload, 1) := by decide +kernel
theorem dL_law_1034 : decode cL_law 1034 = .ok (.invokevirtual 102, 3) := by decide +kernel
theorem dL_law_1037 : decode cL_law 1037 = .ok (.aload_n 2, 1) := by decide +kernel
theorem dL_law_1038 : decode cL_law 1038 = .ok (.aload_n 0, 1) := by decide +kernel
theorem dL_law_1039 : decode cL_law 1039 = .ok (.iload_n 3, 1) := by decide +kernel
theorem dL_law_1040 : decode cL_law 1040 = .ok (.iconst 1, 1) := by decide +kernel
theorem dL_law_1041 : decode cL_law 1041 = .ok (.iadd, 1) := by decide +kernel
theorem dL_law_1042 : decode cL_law 1042 = .ok (.iaload, 1) := by decide +kernel
theorem dL_law_1043 : decode cL_law 1043 = .ok (.aload_n 0, 1) := by decide +kernel
theorem dL_law_1044 : decode cL_law 1044 = .ok (.iload_n 3, 1) := by decide +kernel
theorem dL_law_1045 : decode cL_law 1045 = .ok (.iconst 2, 1) := by decide +kernel
theorem dL_law_1046 : decode cL_law 1046 = .ok (.iadd, 1) := by decide +kernel
theorem dL_law_1047 : decode cL_law 1047 = .ok (.iaload, 1) := by decide +kernel
theorem dL_law_1048 : decode cL_law 1048 = .ok (.invokevirtual 105, 3) := by decide +kernel
theorem dL_law_1051 : decode cL_law 1051 = .ok (.if_icmp .eq 368, 3) := by decide +kernel
theorem dL_law_1054 : decode cL_law 1054 = .ok (.iconst 0, 1) := by decide +kernel
theorem dL_law_1055 : decode cL_law 1055 = .ok (.ireturn, 1) := by decide +kernel
theorem dL_law_1056 : decode cL_law 1056 = .ok (.aload_n 1, 1) := by decide +kernel
theorem dL_law_1057 : decode cL_law 1057 = .ok (.aload_n 0, 1) := by decide +kernel
theorem dL_law_1058 : decode cL_law 1058 = .ok (.iload_n 3, 1) := by decide +kernel
theorem dL_law_1059 : decode cL_law 1059 = .ok (.iconst 1, 1) := by decide +kernel
theorem dL_law_1060 : decode cL_law 1060 = .ok (.iadd, 1) := by decide +kernel
theorem dL_law_1061 : decode cL_law 1061 = .ok (.iaload, 1) := by decide +kernel
theorem dL_law_1062 : decode cL_law 1062 = .ok (.invokevirtual 106, 3) := by decide +kernel
theorem dL_law_1065 : decode cL_law 1065 = .ok (.aload_n 2, 1) := by decide +kernel
theorem dL_law_1066 : decode cL_law 1066 = .ok (.aload_n 0, 1) := by decide +kernel
theorem dL_law_1067 : decode cL_law 1067 = .ok (.iload_n 3, 1) := by decide +kernel
theorem dL_law_1068 : decode cL_law 1068 = .ok (.iconst 1, 1) := by decide +kernel
theorem dL_law_1069 : decode cL_law 1069 = .ok (.iadd, 1) := by decide +kernel
theorem dL_law_1070 : decode cL_law 1070 = .ok (.iaload, 1) := by decide +kernel
theorem dL_law_1071 : decode cL_law 1071 = .ok (.invokevirtual 109, 3) := by decide +kernel
theorem dL_law_1074 : decode cL_law 1074 = .ok (.if_icmp .eq 345, 3) := by decide +kernel
theorem dL_law_1077 : decode cL_law 1077 = .ok (.iconst 0, 1) := by decide +kernel
theorem dL_law_1078 : decode cL_law 1078 = .ok (.ireturn, 1) := by decide +kernel
theorem dL_law_1079 : decode cL_law 1079 = .ok (.aload_n 1, 1) := by decide +kernel
theorem dL_law_1080 : decode cL_law 1080 = .ok (.aload_n 0, 1) := by decide +kernel
theorem dL_law_1081 : decode cL_law 1081 = .ok (.iload_n 3, 1) := by decide +kernel
theorem dL_law_1082 : decode cL_law 1082 = .ok (.iconst 1, 1) := by decide +kernel
theorem dL_law_1083 : decode cL_law 1083 = .ok (.iadd, 1) := by decide +kernel
theorem dL_law_1084 : decode cL_law 1084 = .ok (.iaload, 1) := by decide +kernel
theorem dL_law_1085 : decode cL_law 1085 = .ok (.aload_n 0, 1) := by decide +kernel
theorem dL_law_1086 : decode cL_law 1086 = .ok (.iload_n 3, 1) := by decide +kernel
theorem dL_law_1087 : decode cL_law 1087 = .ok (.iconst 2, 1) := by decide +kernel
theorem dL_law_1088 : decode cL_law 1088 = .ok (.iadd, 1) := by decide +kernel
theorem dL_law_1089 : decode cL_law 1089 = .ok (.iaload, 1) := by decide +kernel
theorem dL_law_1090 : decode cL_law 1090 = .ok (.invokevirtual 110, 3) := by decide +kernel
theorem dL_law_1093 : decode cL_law 1093 = .ok (.aload_n 2, 1) := by decide +kernel
theorem dL_law_1094 : decode cL_law 1094 = .ok (.aload_n 0, 1) := by decide +kernel
theorem dL_law_1095 : decode cL_law 1095 = .ok (.iload_n 3, 1) := by decide +kernel
theorem dL_law_1096 : decode cL_law 1096 = .ok (.iconst 1, 1) := by decide +kernel
theorem dL_law_1097 : decode cL_law 1097 = .ok (.iadd, 1) := by decide +kernel
theorem dL_law_1098 : decode cL_law 1098 = .ok (.iaload, 1) := by decide +kernel
theorem dL_law_1099 : decode cL_law 1099 = .ok (.aload_n 0, 1) := by decide +kernel
theorem dL_law_1100 : decode cL_law 1100 = .ok (.iload_n 3, 1) := by decide +kernel
theorem dL_law_1101 : decode cL_law 1101 = .ok (.iconst 2, 1) := by decide +kernel
theorem dL_law_1102 : decode cL_law 1102 = .ok (.iadd, 1) := by decide +kernel
theorem dL_law_1103 : decode cL_law 1103 = .ok (.iaload, 1) := by decide +kernel
theorem dL_law_1104 : decode cL_law 1104 = .ok (.invokevirtual 113, 3) := by decide +kernel
theorem dL_law_1107 : decode cL_law 1107 = .ok (.if_icmp .eq 312, 3) := by decide +kernel
theorem dL_law_1110 : decode cL_law 1110 = .ok (.iconst 0, 1) := by decide +kernel
theorem dL_law_1111 : decode cL_law 1111 = .ok (.ireturn, 1) := by decide +kernel
theorem dL_law_1112 : decode cL_law 1112 = .ok (.aload_n 1, 1) := by decide +kernel
theorem dL_law_1113 : decode cL_law 1113 = .ok (.aload_n 0, 1) := by decide +kernel
theorem dL_law_1114 : decode cL_law 1114 = .ok (.iload_n 3, 1) := by decide +kernel
theorem dL_law_1115 : decode cL_law 1115 = .ok (.iconst 1, 1) := by decide +kernel
theorem dL_law_1116 : decode cL_law 1116 = .ok (.iadd, 1) := by decide +kernel
theorem dL_law_1117 : decode cL_law 1117 = .ok (.iaload, 1) := by decide +kernel
theorem dL_law_1118 : decode cL_law 1118 = .ok (.aload_n 0, 1) := by decide +kernel
theorem dL_law_1119 : decode cL_law 1119 = .ok (.iload_n 3, 1) := by decide +kernel
theorem dL_law_1120 : decode cL_law 1120 = .ok (.iconst 2, 1) := by decide +kernel
theorem dL_law_1121 : decode cL_law 1121 = .ok (.iadd, 1) := by decide +kernel
theorem dL_law_1122 : decode cL_law 1122 = .ok (.iaload, 1) := by decide +kernel
theorem dL_law_1123 : decode cL_law 1123 = .ok (.aload_n 0, 1) := by decide +kernel
theorem dL_law_1124 : decode cL_law 1124 = .ok (.iload_n 3, 1) := by decide +kernel
theorem dL_law_1125 : decode cL_law 1125 = .ok (.iconst 3, 1) := by decide +kernel
theorem dL_law_1126 : decode cL_law 1126 = .ok (.iadd, 1) := by decide +kernel
theorem dL_law_1127 : decode cL_law 1127 = .ok (.iaload, 1) := by decide +kernel
theorem dL_law_1128 : decode cL_law 1128 = .ok (.aload_n 0, 1) := by decide +kernel
theorem dL_law_1129 : decode cL_law 1129 = .ok (.iload_n 3, 1) := by decide +kernel
theorem dL_law_1130 : decode cL_law 1130 = .ok (.iconst 4, 1) := by decide +kernel
theorem dL_law_1131 : decode cL_law 1131 = .ok (.iadd, 1) := by decide +kernel
theorem dL_law_1132 : decode cL_law 1132 = .ok (.iaload, 1) := by decide +kernel
theorem dL_law_1133 : decode cL_law 1133 = .ok (.invokevirtual 114, 3) := by decide +kernel
theorem dL_law_1136 : decode cL_law 1136 = .ok (.aload_n 2, 1) := by decide +kernel
theorem dL_law_1137 : decode cL_law 1137 = .ok (.aload_n 0, 1) := by decide +kernel
theorem dL_law_1138 : decode cL_law 1138 = .ok (.iload_n 3, 1) := by decide +kernel
theorem dL_law_1139 : decode cL_law 1139 = .ok (.iconst 1, 1) := by decide +kernel
theorem dL_law_1140 : decode cL_law 1140 = .ok (.iadd, 1) := by decide +kernel
theorem dL_law_1141 : decode cL_law 1141 = .ok (.iaload, 1) := by decide +kernel
theorem dL_law_1142 : decode cL_law 1142 = .ok (.aload_n 0, 1) := by decide +kernel
theorem dL_law_1143 : decode cL_law 1143 = .ok (.iload_n 3, 1) := by decide +kernel
theorem dL_law_1144 : decode cL_law 1144 = .ok (.iconst 2, 1) := by decide +kernel
theorem dL_law_1145 : decode cL_law 1145 = .ok (.iadd, 1) := by decide +kernel
theorem dL_law_1146 : decode cL_law 1146 = .ok (.iaload, 1) := by decide +kernel
theorem dL_law_1147 : decode cL_law 1147 = .ok (.aload_n 0, 1) := by decide +kernel
theorem dL_law_1148 : decode cL_law 1148 = .ok (.iload_n 3, 1) := by decide +kernel
theorem dL_law_1149 : decode cL_law 1149 = .ok (.iconst 3, 1) := by decide +kernel
theorem dL_law_1150 : decode cL_law 1150 = .ok (.iadd, 1) := by decide +kernel
theorem dL_law_1151 : decode cL_law 1151 = .ok (.iaload, 1) := by decide +kernel
theorem dL_law_1152 : decode cL_law 1152 = .ok (.aload_n 0, 1) := by decide +kernel
theorem dL_law_1153 : decode cL_law 1153 = .ok (.iload_n 3, 1) := by decide +kernel
theorem dL_law_1154 : decode cL_law 1154 = .ok (.iconst 4, 1) := by decide +kernel
theorem dL_law_1155 : decode cL_law 1155 = .ok (.iadd, 1) := by decide +kernel
theorem dL_law_1156 : decode cL_law 1156 = .ok (.iaload, 1) := by decide +kernel
theorem dL_law_1157 : decode cL_law 1157 = .ok (.invokevirtual 117, 3) := by decide +kernel
theorem dL_law_1160 : decode cL_law 1160 = .ok (.if_icmp .eq 259, 3) := by decide +kernel
theorem dL_law_1163 : decode cL_law 1163 = .ok (.iconst 0, 1) := by decide +kernel
theorem dL_law_1164 : decode cL_law 1164 = .ok (.ireturn, 1) := by decide +kernel
theorem dL_law_1165 : decode cL_law 1165 = .ok (.aload_n 1, 1) := by decide +kernel
theorem dL_law_1166 : decode cL_law 1166 = .ok (.invokevirtual 118, 3) := by decide +kernel
theorem dL_law_1169 : decode cL_law 1169 = .ok (.aload_n 2, 1) := by decide +kernel
theorem dL_law_1170 : decode cL_law 1170 = .ok (.invokevirtual 122, 3) := by decide +kernel
theorem dL_law_1173 : decode cL_law 1173 = .ok (.if_icmp .eq 246, 3) := by decide +kernel
theorem dL_law_1176 : decode cL_law 1176 = .ok (.iconst 0, 1) := by decide +kernel
theorem dL_law_1177 : decode cL_law 1177 = .ok (.ireturn, 1) := by decide +kernel
theorem dL_law_1178 : decode cL_law 1178 = .ok (.aload_n 1, 1) := by decide +kernel
theorem dL_law_1179 : decode cL_law 1179 = .ok (.aload_n 0, 1) := by decide +kernel
theorem dL_law_1180 : decode cL_law 1180 = .ok (.iload_n 3, 1) := by decide +kernel
theorem dL_law_1181 : decode cL_law 1181 = .ok (.iconst 1, 1) := by decide +kernel
theorem dL_law_1182 : decode cL_law 1182 = .ok (.iadd, 1) := by decide +kernel
theorem dL_law_1183 : decode cL_law 1183 = .ok (.iaload, 1) := by decide +kernel
theorem dL_law_1184 : decode cL_law 1184 = .ok (.aload_n 0, 1) := by decide +kernel
theorem dL_law_1185 : decode cL_law 1185 = .ok (.iload_n 3, 1) := by decide +kernel
theorem dL_law_1186 : decode cL_law 1186 = .ok (.iconst 2, 1) := by decide +kernel
theorem dL_law_1187 : decode cL_law 1187 = .ok (.iadd, 1) := by decide +kernel
theorem dL_law_1188 : decode cL_law 1188 = .ok (.iaload, 1) := by decide +kernel
theorem dL_law_1189 : decode cL_law 1189 = .ok (.invokevirtual 123, 3) := by decide +kernel
theorem dL_law_1192 : decode cL_law 1192 = .ok (.aload_n 2, 1) := by decide +kernel
theorem dL_law_1193 : decode cL_law 1193 = .ok (.aload_n 0, 1) := by decide +kernel
theorem dL_law_1194 : decode cL_law 1194 = .ok (.iload_n 3, 1) := by decide +kernel
theorem dL_law_1195 : decode cL_law 1195 = .ok (.iconst 1, 1) := by decide +kernel
theorem dL_law_1196 : decode cL_law 1196 = .ok (.iadd, 1) := by decide +kernel
theorem dL_law_1197 : decode cL_law 1197 = .ok (.iaload, 1) := by decide +kernel
theorem dL_law_1198 : decode cL_law 1198 = .ok (.aload_n 0, 1) := by decide +kernel
theorem dL_law_1199 : decode cL_law 1199 = .ok (.iload_n 3, 1) := by decide +kernel
theorem dL_law_1200 : decode cL_law 1200 = .ok (.iconst 2, 1) := by decide +kernel
theorem dL_law_1201 : decode cL_law 1201 = .ok (.iadd, 1) := by decide +kernel
theorem dL_law_1202 : decode cL_law 1202 = .ok (.iaload, 1) := by decide +kernel
theorem dL_law_1203 : decode cL_law 1203 = .ok (.invokevirtual 126, 3) := by decide +kernel
theorem dL_law_1206 : decode cL_law 1206 = .ok (.if_icmp .eq 213, 3) := by decide +kernel
theorem dL_law_1209 : decode cL_law 1209 = .ok (.iconst 0, 1) := by decide +kernel
theorem dL_law_1210 : decode cL_law 1210 = .ok (.ireturn, 1) := by decide +kernel
theorem dL_law_1211 : decode cL_law 1211 = .ok (.aload_n 1, 1) := by decide +kernel
theorem dL_law_1212 : decode cL_law 1212 = .ok (.aload_n 0, 1) := by decide +kernel
theorem dL_law_1213 : decode cL_law 1213 = .ok (.iload_n 3, 1) := by decide +kernel
theorem dL_law_1214 : decode cL_law 1214 = .ok (.iconst 1, 1) := by decide +kernel
theorem dL_law_1215 : decode cL_law 1215 = .ok (.iadd, 1) := by decide +kernel
theorem dL_law_1216 : decode cL_law 1216 = .ok (.iaload, 1) := by decide +kernel
theorem dL_law_1217 : decode cL_law 1217 = .ok (.invokevirtual 127, 3) := by decide +kernel
theorem dL_law_1220 : decode cL_law 1220 = .ok (.aload_n 2, 1) := by decide +kernel
theorem dL_law_1221 : decode cL_law 1221 = .ok (.aload_n 0, 1) := by decide +kernel
theorem dL_law_1222 : decode cL_law 1222 = .ok (.iload_n 3, 1) := by decide +kernel
theorem dL_law_1223 : decode cL_law 1223 = .ok (.iconst 1, 1) := by decide +kernel
theorem dL_law_1224 : decode cL_law 1224 = .ok (.iadd, 1) := by decide +kernel
theorem dL_law_1225 : decode cL_law 1225 = .ok (.iaload, 1) := by decide +kernel
theorem dL_law_1226 : decode cL_law 1226 = .ok (.invokevirtual 130, 3) := by decide +kernel
theorem dL_law_1229 : decode cL_law 1229 = .ok (.if_icmp .eq 190, 3) := by decide +kernel
theorem dL_law_1232 : decode cL_law 1232 = .ok (.iconst 0, 1) := by decide +kernel
theorem dL_law_1233 : decode cL_law 1233 = .ok (.ireturn, 1) := by decide +kernel
theorem dL_law_1234 : decode cL_law 1234 = .ok (.aload_n 1, 1) := by decide +kernel
theorem dL_law_1235 : decode cL_law 1235 = .ok (.aload_n 0, 1) := by decide +kernel
theorem dL_law_1236 : decode cL_law 1236 = .ok (.iload_n 3, 1) := by decide +kernel
theorem dL_law_1237 : decode cL_law 1237 = .ok (.iconst 1, 1) := by decide +kernel
theorem dL_law_1238 : decode cL_law 1238 = .ok (.iadd, 1) := by decide +kernel
theorem dL_law_1239 : decode cL_law 1239 = .ok (.iaload, 1) := by decide +kernel
theorem dL_law_1240 : decode cL_law 1240 = .ok (.invokevirtual 131, 3) := by decide +kernel
theorem dL_law_1243 : decode cL_law 1243 = .ok (.aload_n 2, 1) := by decide +kernel
theorem dL_law_1244 : decode cL_law 1244 = .ok (.aload_n 0, 1) := by decide +kernel
theorem dL_law_1245 : decode cL_law 1245 = .ok (.iload_n 3, 1) := by decide +kernel
theorem dL_law_1246 : decode cL_law 1246 = .ok (.iconst 1, 1) := by decide +kernel
theorem dL_law_1247 : decode cL_law 1247 = .ok (.iadd, 1) := by decide +kernel
theorem dL_law_1248 : decode cL_law 1248 = .ok (.iaload, 1) := by decide +kernel
theorem dL_law_1249 : decode cL_law 1249 = .ok (.invokevirtual 134, 3) := by decide +kernel
theorem dL_law_1252 : decode cL_law 1252 = .ok (.if_icmp .eq 167, 3) := by decide +kernel
theorem dL_law_1255 : decode cL_law 1255 = .ok (.iconst 0, 1) := by decide +kernel
theorem dL_law_1256 : decode cL_law 1256 = .ok (.ireturn, 1) := by decide +kernel
theorem dL_law_1257 : decode cL_law 1257 = .ok (.aload_n 1, 1) := by decide +kernel
theorem dL_law_1258 : decode cL_law 1258 = .ok (.aload_n 0, 1) := by decide +kernel
theorem dL_law_1259 : decode cL_law 1259 = .ok (.iload_n 3, 1) := by decide +kernel
theorem dL_law_1260 : decode cL_law 1260 = .ok (.iconst 1, 1) := by decide +kernel
theorem dL_law_1261 : decode cL_law 1261 = .ok (.iadd, 1) := by decide +kernel
theorem dL_law_1262 : decode cL_law 1262 = .ok (.iaload, 1) := by decide +kernel
theorem dL_law_1263 : decode cL_law 1263 = .ok (.aload_n 0, 1) := by decide +kernel
theorem dL_law_1264 : decode cL_law 1264 = .ok (.iload_n 3, 1) := by decide +kernel
theorem dL_law_1265 : decode cL_law 1265 = .ok (.iconst 2, 1) := by decide +kernel
theorem dL_law_1266 : decode cL_law 1266 = .ok (.iadd, 1) := by decide +kernel
theorem dL_law_1267 : decode cL_law 1267 = .ok (.iaload, 1) := by decide +kernel
theorem dL_law_1268 : decode cL_law 1268 = .ok (.invokevirtual 135, 3) := by decide +kernel
theorem dL_law_1271 : decode cL_law 1271 = .ok (.aload_n 2, 1) := by decide +kernel
theorem dL_law_1272 : decode cL_law 1272 = .ok (.aload_n 0, 1) := by decide +kernel
theorem dL_law_1273 : decode cL_law 1273 = .ok (.iload_n 3, 1) := by decide +kernel
theorem dL_law_1274 : decode cL_law 1274 = .ok (.iconst 1, 1) := by decide +kernel
theorem dL_law_1275 : decode cL_law 1275 = .ok (.iadd, 1) := by decide +kernel
theorem dL_law_1276 : decode cL_law 1276 = .ok (.iaload, 1) := by decide +kernel
theorem dL_law_1277 : decode cL_law 1277 = .ok (.aload_n 0, 1) := by decide +kernel
theorem dL_law_1278 : decode cL_law 1278 = .ok (.iload_n 3, 1) := by decide +kernel
theorem dL_law_1279 : decode cL_law 1279 = .ok (.iconst 2, 1) := by decide +kernel
theorem dL_law_1280 : decode cL_law 1280 = .ok (.iadd, 1) := by decide +kernel
theorem dL_law_1281 : decode cL_law 1281 = .ok (.iaload, 1) := by decide +kernel
theorem dL_law_1282 : decode cL_law 1282 = .ok (.invokevirtual 138, 3) := by decide +kernel
theorem dL_law_1285 : decode cL_law 1285 = .ok (.if_icmp .eq 134, 3) := by decide +kernel
theorem dL_law_1288 : decode cL_law 1288 = .ok (.iconst 0, 1) := by decide +kernel
theorem dL_law_1289 : decode cL_law 1289 = .ok (.ireturn, 1) := by decide +kernel
theorem dL_law_1290 : decode cL_law 1290 = .ok (.aload_n 1, 1) := by decide +kernel
theorem dL_law_1291 : decode cL_law 1291 = .ok (.aload_n 0, 1) := by decide +kernel
theorem dL_law_1292 : decode cL_law 1292 = .ok (.iload_n 3, 1) := by decide +kernel
theorem dL_law_1293 : decode cL_law 1293 = .ok (.iconst 1, 1) := by decide +kernel
theorem dL_law_1294 : decode cL_law 1294 = .ok (.iadd, 1) := by decide +kernel
theorem dL_law_1295 : decode cL_law 1295 = .ok (.iaload, 1) := by decide +kernel
theorem dL_law_1296 : decode cL_law 1296 = .ok (.aload_n 0, 1) := by decide +kernel
theorem dL_law_1297 : decode cL_law 1297 = .ok (.iload_n 3, 1) := by decide +kernel
theorem dL_law_1298 : decode cL_law 1298 = .ok (.iconst 2, 1) := by decide +kernel
theorem dL_law_1299 : decode cL_law 1299 = .ok (.iadd, 1) := by decide +kernel
theorem dL_law_1300 : decode cL_law 1300 = .ok (.iaload, 1) := by decide +kernel
theorem dL_law_1301 : decode cL_law 1301 = .ok (.aload_n 0, 1) := by decide +kernel
theorem dL_law_1302 : decode cL_law 1302 = .ok (.iload_n 3, 1) := by decide +kernel
theorem dL_law_1303 : decode cL_law 1303 = .ok (.iconst 3, 1) := by decide +kernel
theorem dL_law_1304 : decode cL_law 1304 = .ok (.iadd, 1) := by decide +kernel
theorem dL_law_1305 : decode cL_law 1305 = .ok (.iaload, 1) := by decide +kernel
theorem dL_law_1306 : decode cL_law 1306 = .ok (.invokevirtual 139, 3) := by decide +kernel
theorem dL_law_1309 : decode cL_law 1309 = .ok (.aload_n 2, 1) := by decide +kernel
theorem dL_law_1310 : decode cL_law 1310 = .ok (.aload_n 0, 1) := by decide +kernel
theorem dL_law_1311 : decode cL_law 1311 = .ok (.iload_n 3, 1) := by decide +kernel
theorem dL_law_1312 : decode cL_law 1312 = .ok (.iconst 1, 1) := by decide +kernel
theorem dL_law_1313 : decode cL_law 1313 = .ok (.iadd, 1) := by decide +kernel
theorem dL_law_1314 : decode cL_law 1314 = .ok (.iaload, 1) := by decide +kernel
theorem dL_law_1315 : decode cL_law 1315 = .ok (.aload_n 0, 1) := by decide +kernel
theorem dL_law_1316 : decode cL_law 1316 = .ok (.iload_n 3, 1) := by decide +kernel
theorem dL_law_1317 : decode cL_law 1317 = .ok (.iconst 2, 1) := by decide +kernel
theorem dL_law_1318 : decode cL_law 1318 = .ok (.iadd, 1) := by decide +kernel
theorem dL_law_1319 : decode cL_law 1319 = .ok (.iaload, 1) := by decide +kernel
theorem dL_law_1320 : decode cL_law 1320 = .ok (.aload_n 0, 1) := by decide +kernel
theorem dL_law_1321 : decode cL_law 1321 = .ok (.iload_n 3, 1) := by decide +kernel
theorem dL_law_1322 : decode cL_law 1322 = .ok (.iconst 3, 1) := by decide +kernel
theorem dL_law_1323 : decode cL_law 1323 = .ok (.iadd, 1) := by decide +kernel
theorem dL_law_1324 : decode cL_law 1324 = .ok (.iaload, 1) := by decide +kernel
theorem dL_law_1325 : decode cL_law 1325 = .ok (.invokevirtual 142, 3) := by decide +kernel
theorem dL_law_1328 : decode cL_law 1328 = .ok (.if_icmp .eq 91, 3) := by decide +kernel
theorem dL_law_1331 : decode cL_law 1331 = .ok (.iconst 0, 1) := by decide +kernel
theorem dL_law_1332 : decode cL_law 1332 = .ok (.ireturn, 1) := by decide +kernel
theorem dL_law_1333 : decode cL_law 1333 = .ok (.aload_n 1, 1) := by decide +kernel
theorem dL_law_1334 : decode cL_law 1334 = .ok (.aload_n 0, 1) := by decide +kernel
theorem dL_law_1335 : decode cL_law 1335 = .ok (.iload_n 3, 1) := by decide +kernel
theorem dL_law_1336 : decode cL_law 1336 = .ok (.iconst 1, 1) := by decide +kernel
theorem dL_law_1337 : decode cL_law 1337 = .ok (.iadd, 1) := by decide +kernel
theorem dL_law_1338 : decode cL_law 1338 = .ok (.iaload, 1) := by decide +kernel
theorem dL_law_1339 : decode cL_law 1339 = .ok (.aload_n 0, 1) := by decide +kernel
theorem dL_law_1340 : decode cL_law 1340 = .ok (.iload_n 3, 1) := by decide +kernel
theorem dL_law_1341 : decode cL_law 1341 = .ok (.iconst 2, 1) := by decide +kernel
theorem dL_law_1342 : decode cL_law 1342 = .ok (.iadd, 1) := by decide +kernel
theorem dL_law_1343 : decode cL_law 1343 = .ok (.iaload, 1) := by decide +kernel
theorem dL_law_1344 : decode cL_law 1344 = .ok (.aload_n 0, 1) := by decide +kernel
theorem dL_law_1345 : decode cL_law 1345 = .ok (.iload_n 3, 1) := by decide +kernel
theorem dL_law_1346 : decode cL_law 1346 = .ok (.iconst 3, 1) := by decide +kernel
theorem dL_law_1347 : decode cL_law 1347 = .ok (.iadd, 1) := by decide +kernel
theorem dL_law_1348 : decode cL_law 1348 = .ok (.iaload, 1) := by decide +kernel
theorem dL_law_1349 : decode cL_law 1349 = .ok (.aload_n 0, 1) := by decide +kernel
theorem dL_law_1350 : decode cL_law 1350 = .ok (.iload_n 3, 1) := by decide +kernel
theorem dL_law_1351 : decode cL_law 1351 = .ok (.iconst 4, 1) := by decide +kernel
theorem dL_law_1352 : decode cL_law 1352 = .ok (.iadd, 1) := by decide +kernel
theorem dL_law_1353 : decode cL_law 1353 = .ok (.iaload, 1) := by decide +kernel
theorem dL_law_1354 : decode cL_law 1354 = .ok (.aload_n 0, 1) := by decide +kernel
theorem dL_law_1355 : decode cL_law 1355 = .ok (.iload_n 3, 1) := by decide +kernel
theorem dL_law_1356 : decode cL_law 1356 = .ok (.iconst 5, 1) := by decide +kernel
theorem dL_law_1357 : decode cL_law 1357 = .ok (.iadd, 1) := by decide +kernel
theorem dL_law_1358 : decode cL_law 1358 = .ok (.iaload, 1) := by decide +kernel
theorem dL_law_1359 : decode cL_law 1359 = .ok (.invokevirtual 143, 3) := by decide +kernel
theorem dL_law_1362 : decode cL_law 1362 = .ok (.aload_n 2, 1) := by decide +kernel
theorem dL_law_1363 : decode cL_law 1363 = .ok (.aload_n 0, 1) := by decide +kernel
theorem dL_law_1364 : decode cL_law 1364 = .ok (.iload_n 3, 1) := by decide +kernel
theorem dL_law_1365 : decode cL_law 1365 = .ok (.iconst 1, 1) := by decide +kernel
theorem dL_law_1366 : decode cL_law 1366 = .ok (.iadd, 1) := by decide +kernel
theorem dL_law_1367 : decode cL_law 1367 = .ok (.iaload, 1) := by decide +kernel
theorem dL_law_1368 : decode cL_law 1368 = .ok (.aload_n 0, 1) := by decide +kernel
theorem dL_law_1369 : decode cL_law 1369 = .ok (.iload_n 3, 1) := by decide +kernel
theorem dL_law_1370 : decode cL_law 1370 = .ok (.iconst 2, 1) := by decide +kernel
theorem dL_law_1371 : decode cL_law 1371 = .ok (.iadd, 1) := by decide +kernel
theorem dL_law_1372 : decode cL_law 1372 = .ok (.iaload, 1) := by decide +kernel
theorem dL_law_1373 : decode cL_law 1373 = .ok (.aload_n 0, 1) := by decide +kernel
theorem dL_law_1374 : decode cL_law 1374 = .ok (.iload_n 3, 1) := by decide +kernel
theorem dL_law_1375 : decode cL_law 1375 = .ok (.iconst 3, 1) := by decide +kernel
theorem dL_law_1376 : decode cL_law 1376 = .ok (.iadd, 1) := by decide +kernel
theorem dL_law_1377 : decode cL_law 1377 = .ok (.iaload, 1) := by decide +kernel
theorem dL_law_1378 : decode cL_law 1378 = .ok (.aload_n 0, 1) := by decide +kernel
theorem dL_law_1379 : decode cL_law 1379 = .ok (.iload_n 3, 1) := by decide +kernel
theorem dL_law_1380 : decode cL_law 1380 = .ok (.iconst 4, 1) := by decide +kernel
theorem dL_law_1381 : decode cL_law 1381 = .ok (.iadd, 1) := by decide +kernel
theorem dL_law_1382 : decode cL_law 1382 = .ok (.iaload, 1) := by decide +kernel
theorem dL_law_1383 : decode cL_law 1383 = .ok (.aload_n 0, 1) := by decide +kernel
theorem dL_law_1384 : decode cL_law 1384 = .ok (.iload_n 3, 1) := by decide +kernel
theorem dL_law_1385 : decode cL_law 1385 = .ok (.iconst 5, 1) := by decide +kernel
theorem dL_law_1386 : decode cL_law 1386 = .ok (.iadd, 1) := by decide +kernel
theorem dL_law_1387 : decode cL_law 1387 = .ok (.iaload, 1) := by decide +kernel
theorem dL_law_1388 : decode cL_law 1388 = .ok (.invokevirtual 146, 3) := by decide +kernel
theorem dL_law_1391 : decode cL_law 1391 = .ok (.if_icmp .eq 28, 3) := by decide +kernel
theorem dL_law_1394 : decode cL_law 1394 = .ok (.iconst 0, 1) := by decide +kernel
theorem dL_law_1395 : decode cL_law 1395 = .ok (.ireturn, 1) := by decide +kernel
theorem dL_law_1396 : decode cL_law 1396 = .ok (.aload_n 1, 1) := by decide +kernel
theorem dL_law_1397 : decode cL_law 1397 = .ok (.aload_n 0, 1) := by decide +kernel
theorem dL_law_1398 : decode cL_law 1398 = .ok (.iload_n 3, 1) := by decide +kernel
theorem dL_law_1399 : decode cL_law 1399 = .ok (.iconst 1, 1) := by decide +kernel
theorem dL_law_1400 : decode cL_law 1400 = .ok (.iadd, 1) := by decide +kernel
theorem dL_law_1401 : decode cL_law 1401 = .ok (.iaload, 1) := by decide +kernel
theorem dL_law_1402 : decode cL_law 1402 = .ok (.invokevirtual 147, 3) := by decide +kernel
theorem dL_law_1405 : decode cL_law 1405 = .ok (.aload_n 2, 1) := by decide +kernel
theorem dL_law_1406 : decode cL_law 1406 = .ok (.aload_n 0, 1) := by decide +kernel
theorem dL_law_1407 : decode cL_law 1407 = .ok (.iload_n 3, 1) := by decide +kernel
theorem dL_law_1408 : decode cL_law 1408 = .ok (.iconst 1, 1) := by decide +kernel
theorem dL_law_1409 : decode cL_law 1409 = .ok (.iadd, 1) := by decide +kernel
theorem dL_law_1410 : decode cL_law 1410 = .ok (.iaload, 1) := by decide +kernel
theorem dL_law_1411 : decode cL_law 1411 = .ok (.invokevirtual 150, 3) := by decide +kernel
theorem dL_law_1414 : decode cL_law 1414 = .ok (.if_icmp .eq 5, 3) := by decide +kernel
theorem dL_law_1417 : decode cL_law 1417 = .ok (.iconst 0, 1) := by decide +kernel
theorem dL_law_1418 : decode cL_law 1418 = .ok (.ireturn, 1) := by decide +kernel
theorem dL_law_1419 : decode cL_law 1419 = .ok (.iinc 3 6, 3) := by decide +kernel
theorem dL_law_1422 : decode cL_law 1422 = .ok (.goto (-1404), 3) := by decide +kernel
theorem dL_law_1425 : decode cL_law 1425 = .ok (.iconst 1, 1) := by decide +kernel
theorem dL_law_1426 : decode cL_law 1426 = .ok (.ireturn, 1) := by decide +kernel
end
section
/-- the tables' words that go over to a callee -/
def zT : List Cond := lw_tbl.filter goodWord
theorem zT_in : ∀ w ∈ zT, w ∈ lw_tbl := fun _ h => (List.mem_filter.mp h).1
theorem zT_good : ∀ w ∈ zT, (w.onTables && w.keeps) = true ∨ ∃ ty, w = .arrayClass ty := fun _ h => good_of_word (List.mem_filter.mp h).2
theorem zT_mk {w : Cond} (i : Nat) (h : lw_tbl[i]? = some w) (hg : goodWord w = true) : w ∈ zT := List.mem_filter.mpr ⟨List.mem_of_getElem? h, hg⟩
/-- every method's words: its own code, then the table -/
def zws (y : MethodName) (cc : ByteArray) (nL : Nat) (ret : Option FieldType) : List Cond := Cond.code y cc nL ret :: zT
theorem zws_good {Ts : List Cond} (hT : ∀ w ∈ zT, w ∈ Ts) {y : MethodName} {cc : ByteArray} {nL : Nat} {ret : Option FieldType} (h : Cond.code y cc nL ret ∈ zT) : GoodIn Ts (zws y cc nL ret) := by
  intro w hw
  rcases List.mem_cons.mp hw with rfl | hw
  · exact ⟨hT _ h, zT_good _ h⟩
  · exact ⟨hT _ hw, zT_good _ hw⟩
end
section
theorem zq_0 : (Cond.selects "CountBook" ⟨"CountBook", "cycleAt", "(I)LCountBook$Cycle;"⟩ ⟨"CountBook", "cycleAt", "(I)LCountBook$Cycle;"⟩) ∈ zT := zT_mk 0 (by decide +kernel) (by decide +kernel)
theorem zq_1 : (Cond.selects "CountBook" ⟨"CountBook", "phraseAt", "(I)LCountBook$Phrase;"⟩ ⟨"CountBook", "phraseAt", "(I)LCountBook$Phrase;"⟩) ∈ zT := zT_mk 1 (by decide +kernel) (by decide +kernel)
theorem zq_2 : (Cond.selects "CountBook$Tape" ⟨"CountBook$Tape", "faultPlace", "()I"⟩ ⟨"CountBook$Tape", "faultPlace", "()I"⟩) ∈ zT := zT_mk 2 (by decide +kernel) (by decide +kernel)
theorem zq_3 : (Cond.selects "CountBook$Tape" ⟨"CountBook$Tape", "speak", "()I"⟩ ⟨"CountBook$Tape", "speak", "()I"⟩) ∈ zT := zT_mk 3 (by decide +kernel) (by decide +kernel)
theorem zq_4 : (Cond.selects "CountBook$Tape" ⟨"CountBook$Tape", "sayAgain", "(III)I"⟩ ⟨"CountBook$Tape", "sayAgain", "(III)I"⟩) ∈ zT := zT_mk 4 (by decide +kernel) (by decide +kernel)
theorem zq_5 : (Cond.selects "CountBook" ⟨"CountBook", "closingRefusal", "(IIIII)I"⟩ ⟨"CountBook", "closingRefusal", "(IIIII)I"⟩) ∈ zT := zT_mk 5 (by decide +kernel) (by decide +kernel)
theorem zq_6 : (Cond.selects "CountBook" ⟨"CountBook", "wantingIn", "(IIIII)I"⟩ ⟨"CountBook", "wantingIn", "(IIIII)I"⟩) ∈ zT := zT_mk 6 (by decide +kernel) (by decide +kernel)
theorem zq_7 : (Cond.selects "CountBook" ⟨"CountBook", "lengthOf", "(I)I"⟩ ⟨"CountBook", "lengthOf", "(I)I"⟩) ∈ zT := zT_mk 7 (by decide +kernel) (by decide +kernel)
theorem zq_8 : (Cond.selects "CountBook" ⟨"CountBook", "gapsFilling", "(II)I"⟩ ⟨"CountBook", "gapsFilling", "(II)I"⟩) ∈ zT := zT_mk 8 (by decide +kernel) (by decide +kernel)
theorem zq_9 : (Cond.selects "CountBook" ⟨"CountBook", "isLookedAt", "(I)Z"⟩ ⟨"CountBook", "isLookedAt", "(I)Z"⟩) ∈ zT := zT_mk 9 (by decide +kernel) (by decide +kernel)
theorem zq_10 : (Cond.selects "CountBook" ⟨"CountBook", "gapFilling", "(III)I"⟩ ⟨"CountBook", "gapFilling", "(III)I"⟩) ∈ zT := zT_mk 10 (by decide +kernel) (by decide +kernel)
theorem zq_11 : (Cond.selects "CountBook" ⟨"CountBook", "shapeRefusal", "(III)I"⟩ ⟨"CountBook", "shapeRefusal", "(III)I"⟩) ∈ zT := zT_mk 11 (by decide +kernel) (by decide +kernel)
theorem zq_12 : (Cond.selects "CountBook" ⟨"CountBook", "turnRefusal", "(II)I"⟩ ⟨"CountBook", "turnRefusal", "(II)I"⟩) ∈ zT := zT_mk 12 (by decide +kernel) (by decide +kernel)
theorem zq_13 : (Cond.selects "CountBook" ⟨"CountBook", "sheetAt", "(I)LCountBook$Sheet;"⟩ ⟨"CountBook", "sheetAt", "(I)LCountBook$Sheet;"⟩) ∈ zT := zT_mk 13 (by decide +kernel) (by decide +kernel)
theorem zq_14 : (Cond.selects "CountBook$Turns" ⟨"CountBook$Turns", "forgetFits", "()V"⟩ ⟨"CountBook$Turns", "forgetFits", "()V"⟩) ∈ zT := zT_mk 14 (by decide +kernel) (by decide +kernel)
theorem zq_15 : (Cond.selects "CountBook$Turns" ⟨"CountBook$Turns", "fitFrom", "(LCountBook$Phrase;I)V"⟩ ⟨"CountBook$Turns", "fitFrom", "(LCountBook$Phrase;I)V"⟩) ∈ zT := zT_mk 15 (by decide +kernel) (by decide +kernel)
theorem zq_16 : (Cond.selects "CountBook$Turns" ⟨"CountBook$Turns", "waysFrom", "(LCountBook$Phrase;II)J"⟩ ⟨"CountBook$Turns", "waysFrom", "(LCountBook$Phrase;II)J"⟩) ∈ zT := zT_mk 16 (by decide +kernel) (by decide +kernel)
theorem zq_17 : (Cond.selects "CountBook$Hands" ⟨"CountBook$Hands", "weigh", "(LCountBook$Phrase;)V"⟩ ⟨"CountBook$Hands", "weigh", "(LCountBook$Phrase;)V"⟩) ∈ zT := zT_mk 17 (by decide +kernel) (by decide +kernel)
theorem zq_18 : (Cond.selects "CountBook$Hands" ⟨"CountBook$Hands", "usedAt", "(LCountBook$Phrase;II)I"⟩ ⟨"CountBook$Hands", "usedAt", "(LCountBook$Phrase;II)I"⟩) ∈ zT := zT_mk 18 (by decide +kernel) (by decide +kernel)
theorem zq_19 : (Cond.selects "CountBook$Hands" ⟨"CountBook$Hands", "fewestBehind", "(LCountBook$Phrase;II)I"⟩ ⟨"CountBook$Hands", "fewestBehind", "(LCountBook$Phrase;II)I"⟩) ∈ zT := zT_mk 19 (by decide +kernel) (by decide +kernel)
theorem zq_20 : (Cond.selects "CountBook" ⟨"CountBook", "limbsInAll", "()I"⟩ ⟨"CountBook", "limbsInAll", "()I"⟩) ∈ zT := zT_mk 20 (by decide +kernel) (by decide +kernel)
theorem zq_21 : (Cond.selects "CountBook" ⟨"CountBook", "phrasesNotEmpty", "()I"⟩ ⟨"CountBook", "phrasesNotEmpty", "()I"⟩) ∈ zT := zT_mk 21 (by decide +kernel) (by decide +kernel)
theorem zq_22 : (Cond.selects "CountBook" ⟨"CountBook", "syllablesInAll", "()I"⟩ ⟨"CountBook", "syllablesInAll", "()I"⟩) ∈ zT := zT_mk 22 (by decide +kernel) (by decide +kernel)
theorem zq_23 : (Cond.selects "CountBook" ⟨"CountBook", "sheetsNotMissing", "()I"⟩ ⟨"CountBook", "sheetsNotMissing", "()I"⟩) ∈ zT := zT_mk 23 (by decide +kernel) (by decide +kernel)
theorem zq_24 : (Cond.selects "CountBookModel" ⟨"CountBookModel", "lengthOf", "(I)I"⟩ ⟨"CountBookModel", "lengthOf", "(I)I"⟩) ∈ zT := zT_mk 24 (by decide +kernel) (by decide +kernel)
theorem zq_25 : (Cond.selects "CountBookModel" ⟨"CountBookModel", "four", "(I)V"⟩ ⟨"CountBookModel", "four", "(I)V"⟩) ∈ zT := zT_mk 25 (by decide +kernel) (by decide +kernel)
theorem zq_26 : (Cond.selects "CountBookModel" ⟨"CountBookModel", "row", "(II)I"⟩ ⟨"CountBookModel", "row", "(II)I"⟩) ∈ zT := zT_mk 26 (by decide +kernel) (by decide +kernel)
theorem zq_27 : (Cond.selects "CountBookModel" ⟨"CountBookModel", "item", "(II)I"⟩ ⟨"CountBookModel", "item", "(II)I"⟩) ∈ zT := zT_mk 27 (by decide +kernel) (by decide +kernel)
theorem zq_28 : (Cond.selects "CountBookModel" ⟨"CountBookModel", "here", "()I"⟩ ⟨"CountBookModel", "here", "()I"⟩) ∈ zT := zT_mk 28 (by decide +kernel) (by decide +kernel)
theorem zq_29 : (Cond.selects "CountBookModel" ⟨"CountBookModel", "ticksOf", "(II)I"⟩ ⟨"CountBookModel", "ticksOf", "(II)I"⟩) ∈ zT := zT_mk 29 (by decide +kernel) (by decide +kernel)
theorem zq_30 : (Cond.selects "CountBookModel" ⟨"CountBookModel", "refused", "(III)I"⟩ ⟨"CountBookModel", "refused", "(III)I"⟩) ∈ zT := zT_mk 30 (by decide +kernel) (by decide +kernel)
theorem zq_31 : (Cond.selects "CountBookModel" ⟨"CountBookModel", "till", "(III)J"⟩ ⟨"CountBookModel", "till", "(III)J"⟩) ∈ zT := zT_mk 31 (by decide +kernel) (by decide +kernel)
theorem zq_32 : (Cond.selects "CountBookModel" ⟨"CountBookModel", "doesLand", "(IJ)Z"⟩ ⟨"CountBookModel", "doesLand", "(IJ)Z"⟩) ∈ zT := zT_mk 32 (by decide +kernel) (by decide +kernel)
theorem zq_33 : (Cond.selects "CountBookModel" ⟨"CountBookModel", "tillDouble", "(IIII)J"⟩ ⟨"CountBookModel", "tillDouble", "(IIII)J"⟩) ∈ zT := zT_mk 33 (by decide +kernel) (by decide +kernel)
theorem zq_34 : (Cond.selects "CountBookModel" ⟨"CountBookModel", "rowsOf", "(III)I"⟩ ⟨"CountBookModel", "rowsOf", "(III)I"⟩) ∈ zT := zT_mk 34 (by decide +kernel) (by decide +kernel)
theorem zq_35 : (Cond.selects "CountBookModel" ⟨"CountBookModel", "rows", "(II)I"⟩ ⟨"CountBookModel", "rows", "(II)I"⟩) ∈ zT := zT_mk 35 (by decide +kernel) (by decide +kernel)
theorem zq_36 : (Cond.selects "CountBookModel" ⟨"CountBookModel", "rowOf", "(IIII)I"⟩ ⟨"CountBookModel", "rowOf", "(IIII)I"⟩) ∈ zT := zT_mk 36 (by decide +kernel) (by decide +kernel)
theorem zq_37 : (Cond.selects "CountBookModel" ⟨"CountBookModel", "findTurn", "(II)V"⟩ ⟨"CountBookModel", "findTurn", "(II)V"⟩) ∈ zT := zT_mk 37 (by decide +kernel) (by decide +kernel)
theorem zq_38 : (Cond.selects "CountBookModel" ⟨"CountBookModel", "standsAt", "(IIII)I"⟩ ⟨"CountBookModel", "standsAt", "(IIII)I"⟩) ∈ zT := zT_mk 38 (by decide +kernel) (by decide +kernel)
theorem zq_39 : (Cond.selects "CountBookModel" ⟨"CountBookModel", "findPlay", "(I)V"⟩ ⟨"CountBookModel", "findPlay", "(I)V"⟩) ∈ zT := zT_mk 39 (by decide +kernel) (by decide +kernel)
theorem zq_40 : (Cond.selects "CountBookModel" ⟨"CountBookModel", "mayBe", "(III)Z"⟩ ⟨"CountBookModel", "mayBe", "(III)Z"⟩) ∈ zT := zT_mk 40 (by decide +kernel) (by decide +kernel)
theorem zq_41 : (Cond.selects "CountBookModel" ⟨"CountBookModel", "handOf", "(II)I"⟩ ⟨"CountBookModel", "handOf", "(II)I"⟩) ∈ zT := zT_mk 41 (by decide +kernel) (by decide +kernel)
theorem zq_42 : (Cond.selects "CountBookModel" ⟨"CountBookModel", "endOf", "(I)I"⟩ ⟨"CountBookModel", "endOf", "(I)I"⟩) ∈ zT := zT_mk 42 (by decide +kernel) (by decide +kernel)
theorem zq_43 : (Cond.initialized "CountBookLaw") ∈ zT := zT_mk 43 (by decide +kernel) (by decide +kernel)
theorem zq_44 : (Cond.initialized "CountBook") ∈ zT := zT_mk 44 (by decide +kernel) (by decide +kernel)
theorem zq_45 : (Cond.initialized "CountBook$Tape") ∈ zT := zT_mk 45 (by decide +kernel) (by decide +kernel)
theorem zq_46 : (Cond.initialized "CountBook$Turns") ∈ zT := zT_mk 46 (by decide +kernel) (by decide +kernel)
theorem zq_47 : (Cond.initialized "CountBook$Hands") ∈ zT := zT_mk 47 (by decide +kernel) (by decide +kernel)
theorem zq_48 : (Cond.initialized "CountBook$Solo") ∈ zT := zT_mk 48 (by decide +kernel) (by decide +kernel)
theorem zq_49 : (Cond.initialized "CountBook$Cycle") ∈ zT := zT_mk 49 (by decide +kernel) (by decide +kernel)
theorem zq_50 : (Cond.initialized "CountBook$Phrase") ∈ zT := zT_mk 50 (by decide +kernel) (by decide +kernel)
theorem zq_51 : (Cond.initialized "CountBook$Sheet") ∈ zT := zT_mk 51 (by decide +kernel) (by decide +kernel)
theorem zq_52 : (Cond.initialized "CountBookModel") ∈ zT := zT_mk 52 (by decide +kernel) (by decide +kernel)
theorem zq_53 : (Cond.initialized "java/lang/Math") ∈ zT := zT_mk 53 (by decide +kernel) (by decide +kernel)
theorem zq_54 : (Cond.initialized "java/lang/System") ∈ zT := zT_mk 54 (by decide +kernel) (by decide +kernel)
theorem zq_55 : (Cond.classLink "CountBookLaw" (7 : Nat) "CountBook") ∈ zT := zT_mk 55 (by decide +kernel) (by decide +kernel)
theorem zq_56 : (Cond.instantiable "CountBook" (8 : Nat)) ∈ zT := zT_mk 56 (by decide +kernel) (by decide +kernel)
theorem zq_57 : (Cond.methodLink "CountBookLaw" (9 : Nat) ({ cls := "CountBook", name := "<init>", desc := "()V" } : MethodName)) ∈ zT := zT_mk 57 (by decide +kernel) (by decide +kernel)
theorem zq_58 : (Cond.instanceMethod ({ cls := "CountBook", name := "<init>", desc := "()V" } : MethodName)) ∈ zT := zT_mk 58 (by decide +kernel) (by decide +kernel)
theorem zq_59 : (Cond.code ({ cls := "CountBook", name := "<init>", desc := "()V" } : MethodName) prog_1_method_1_code (2 : Nat) (Option.none : Option FieldType)) ∈ zT := zT_mk 59 (by decide +kernel) (by decide +kernel)
theorem zq_60 : (Cond.methodLink "CountBook" (1 : Nat) ({ cls := "java/lang/Object", name := "<init>", desc := "()V" } : MethodName)) ∈ zT := zT_mk 60 (by decide +kernel) (by decide +kernel)
theorem zq_61 : (Cond.instanceMethod ({ cls := "java/lang/Object", name := "<init>", desc := "()V" } : MethodName)) ∈ zT := zT_mk 61 (by decide +kernel) (by decide +kernel)
theorem zq_62 : (Cond.code ({ cls := "java/lang/Object", name := "<init>", desc := "()V" } : MethodName) object_method_1_code (1 : Nat) (Option.none : Option FieldType)) ∈ zT := zT_mk 62 (by decide +kernel) (by decide +kernel)
theorem zq_63 : (Cond.classLink "CountBook" (7 : Nat) "CountBook$Cycle") ∈ zT := zT_mk 63 (by decide +kernel) (by decide +kernel)
theorem zq_65 : (Cond.classLink "CountBook" (15 : Nat) "CountBook$Phrase") ∈ zT := zT_mk 65 (by decide +kernel) (by decide +kernel)
theorem zq_67 : (Cond.classLink "CountBook" (21 : Nat) "CountBook$Sheet") ∈ zT := zT_mk 67 (by decide +kernel) (by decide +kernel)
theorem zq_69 : (Cond.classLink "CountBook" (27 : Nat) "CountBook$Tape") ∈ zT := zT_mk 69 (by decide +kernel) (by decide +kernel)
theorem zq_70 : (Cond.instantiable "CountBook$Tape" (5 : Nat)) ∈ zT := zT_mk 70 (by decide +kernel) (by decide +kernel)
theorem zq_72 : (Cond.instanceMethod ({ cls := "CountBook$Tape", name := "<init>", desc := "()V" } : MethodName)) ∈ zT := zT_mk 72 (by decide +kernel) (by decide +kernel)
theorem zq_73 : (Cond.code ({ cls := "CountBook$Tape", name := "<init>", desc := "()V" } : MethodName) prog_7_method_1_code (1 : Nat) (Option.none : Option FieldType)) ∈ zT := zT_mk 73 (by decide +kernel) (by decide +kernel)
theorem zq_74 : (Cond.methodLink "CountBook$Tape" (3 : Nat) ({ cls := "java/lang/Object", name := "<init>", desc := "()V" } : MethodName)) ∈ zT := zT_mk 74 (by decide +kernel) (by decide +kernel)
theorem zq_75 : (Cond.fieldLink "CountBook$Tape" (11 : Nat) "CountBook$Tape" "bytes" "[B") ∈ zT := zT_mk 75 (by decide +kernel) (by decide +kernel)
theorem zq_76 : (Cond.fieldLink "CountBook$Tape" (15 : Nat) "CountBook$Tape" "size" "I") ∈ zT := zT_mk 76 (by decide +kernel) (by decide +kernel)
theorem zq_77 : (Cond.fieldLink "CountBook" (98 : Nat) "CountBook$Tape" "size" "I") ∈ zT := zT_mk 77 (by decide +kernel) (by decide +kernel)
theorem zq_78 : (Cond.fieldLink "CountBook$Tape" (21 : Nat) "CountBook$Tape" "spoken" "[B") ∈ zT := zT_mk 78 (by decide +kernel) (by decide +kernel)
theorem zq_79 : (Cond.fieldLink "CountBook$Tape" (24 : Nat) "CountBook$Tape" "openedAt" "[I") ∈ zT := zT_mk 79 (by decide +kernel) (by decide +kernel)
theorem zq_80 : (Cond.fieldLink "CountBook$Tape" (28 : Nat) "CountBook$Tape" "openedTimes" "[I") ∈ zT := zT_mk 80 (by decide +kernel) (by decide +kernel)
theorem zq_81 : (Cond.laysFinal "CountBook$Tape" "CountBook$Tape" "bytes" "[B") ∈ zT := zT_mk 81 (by decide +kernel) (by decide +kernel)
theorem zq_83 : (Cond.lays "CountBook$Tape" "CountBook$Tape" "size" "I") ∈ zT := zT_mk 83 (by decide +kernel) (by decide +kernel)
theorem zq_85 : (Cond.laysFinal "CountBook$Tape" "CountBook$Tape" "spoken" "[B") ∈ zT := zT_mk 85 (by decide +kernel) (by decide +kernel)
theorem zq_87 : (Cond.laysFinal "CountBook$Tape" "CountBook$Tape" "openedAt" "[I") ∈ zT := zT_mk 87 (by decide +kernel) (by decide +kernel)
theorem zq_89 : (Cond.laysFinal "CountBook$Tape" "CountBook$Tape" "openedTimes" "[I") ∈ zT := zT_mk 89 (by decide +kernel) (by decide +kernel)
theorem zq_92 : (Cond.arrayClass FieldType.byte) ∈ zT := zT_mk 92 (by decide +kernel) (by decide +kernel)
theorem zq_93 : (Cond.arrayClass FieldType.int) ∈ zT := zT_mk 93 (by decide +kernel) (by decide +kernel)
theorem zq_94 : (Cond.classLink "CountBook" (34 : Nat) "CountBook$Turns") ∈ zT := zT_mk 94 (by decide +kernel) (by decide +kernel)
theorem zq_95 : (Cond.instantiable "CountBook$Turns" (2 : Nat)) ∈ zT := zT_mk 95 (by decide +kernel) (by decide +kernel)
theorem zq_97 : (Cond.instanceMethod ({ cls := "CountBook$Turns", name := "<init>", desc := "()V" } : MethodName)) ∈ zT := zT_mk 97 (by decide +kernel) (by decide +kernel)
theorem zq_98 : (Cond.code ({ cls := "CountBook$Turns", name := "<init>", desc := "()V" } : MethodName) prog_8_method_1_code (1 : Nat) (Option.none : Option FieldType)) ∈ zT := zT_mk 98 (by decide +kernel) (by decide +kernel)
theorem zq_99 : (Cond.methodLink "CountBook$Turns" (3 : Nat) ({ cls := "java/lang/Object", name := "<init>", desc := "()V" } : MethodName)) ∈ zT := zT_mk 99 (by decide +kernel) (by decide +kernel)
theorem zq_100 : (Cond.fieldLink "CountBook$Turns" (11 : Nat) "CountBook$Turns" "fits" "[I") ∈ zT := zT_mk 100 (by decide +kernel) (by decide +kernel)
theorem zq_101 : (Cond.fieldLink "CountBook$Turns" (19 : Nat) "CountBook$Turns" "waysBehind" "[J") ∈ zT := zT_mk 101 (by decide +kernel) (by decide +kernel)
theorem zq_102 : (Cond.laysFinal "CountBook$Turns" "CountBook$Turns" "fits" "[I") ∈ zT := zT_mk 102 (by decide +kernel) (by decide +kernel)
theorem zq_104 : (Cond.laysFinal "CountBook$Turns" "CountBook$Turns" "waysBehind" "[J") ∈ zT := zT_mk 104 (by decide +kernel) (by decide +kernel)
theorem zq_107 : (Cond.arrayClass FieldType.long) ∈ zT := zT_mk 107 (by decide +kernel) (by decide +kernel)
theorem zq_108 : (Cond.classLink "CountBook" (41 : Nat) "CountBook$Hands") ∈ zT := zT_mk 108 (by decide +kernel) (by decide +kernel)
theorem zq_109 : (Cond.instantiable "CountBook$Hands" (3 : Nat)) ∈ zT := zT_mk 109 (by decide +kernel) (by decide +kernel)
theorem zq_111 : (Cond.instanceMethod ({ cls := "CountBook$Hands", name := "<init>", desc := "()V" } : MethodName)) ∈ zT := zT_mk 111 (by decide +kernel) (by decide +kernel)
theorem zq_112 : (Cond.code ({ cls := "CountBook$Hands", name := "<init>", desc := "()V" } : MethodName) prog_3_method_1_code (1 : Nat) (Option.none : Option FieldType)) ∈ zT := zT_mk 112 (by decide +kernel) (by decide +kernel)
theorem zq_113 : (Cond.methodLink "CountBook$Hands" (3 : Nat) ({ cls := "java/lang/Object", name := "<init>", desc := "()V" } : MethodName)) ∈ zT := zT_mk 113 (by decide +kernel) (by decide +kernel)
theorem zq_114 : (Cond.fieldLink "CountBook$Hands" (11 : Nat) "CountBook$Hands" "handOf" "[I") ∈ zT := zT_mk 114 (by decide +kernel) (by decide +kernel)
theorem zq_115 : (Cond.fieldLink "CountBook$Hands" (17 : Nat) "CountBook$Hands" "fewestByLeft" "[I") ∈ zT := zT_mk 115 (by decide +kernel) (by decide +kernel)
theorem zq_116 : (Cond.fieldLink "CountBook$Hands" (20 : Nat) "CountBook$Hands" "fewestByRight" "[I") ∈ zT := zT_mk 116 (by decide +kernel) (by decide +kernel)
theorem zq_117 : (Cond.laysFinal "CountBook$Hands" "CountBook$Hands" "handOf" "[I") ∈ zT := zT_mk 117 (by decide +kernel) (by decide +kernel)
theorem zq_119 : (Cond.laysFinal "CountBook$Hands" "CountBook$Hands" "fewestByLeft" "[I") ∈ zT := zT_mk 119 (by decide +kernel) (by decide +kernel)
theorem zq_121 : (Cond.laysFinal "CountBook$Hands" "CountBook$Hands" "fewestByRight" "[I") ∈ zT := zT_mk 121 (by decide +kernel) (by decide +kernel)
theorem zq_124 : (Cond.classLink "CountBook" (48 : Nat) "CountBook$Solo") ∈ zT := zT_mk 124 (by decide +kernel) (by decide +kernel)
theorem zq_125 : (Cond.instantiable "CountBook$Solo" (3 : Nat)) ∈ zT := zT_mk 125 (by decide +kernel) (by decide +kernel)
theorem zq_127 : (Cond.instanceMethod ({ cls := "CountBook$Solo", name := "<init>", desc := "()V" } : MethodName)) ∈ zT := zT_mk 127 (by decide +kernel) (by decide +kernel)
theorem zq_128 : (Cond.code ({ cls := "CountBook$Solo", name := "<init>", desc := "()V" } : MethodName) prog_6_method_1_code (1 : Nat) (Option.none : Option FieldType)) ∈ zT := zT_mk 128 (by decide +kernel) (by decide +kernel)
theorem zq_129 : (Cond.methodLink "CountBook$Solo" (3 : Nat) ({ cls := "java/lang/Object", name := "<init>", desc := "()V" } : MethodName)) ∈ zT := zT_mk 129 (by decide +kernel) (by decide +kernel)
theorem zq_130 : (Cond.fieldLink "CountBook$Solo" (11 : Nat) "CountBook$Solo" "partTicks" "[I") ∈ zT := zT_mk 130 (by decide +kernel) (by decide +kernel)
theorem zq_131 : (Cond.fieldLink "CountBook$Solo" (15 : Nat) "CountBook$Solo" "partGaps" "[I") ∈ zT := zT_mk 131 (by decide +kernel) (by decide +kernel)
theorem zq_132 : (Cond.fieldLink "CountBook$Solo" (18 : Nat) "CountBook$Solo" "size" "I") ∈ zT := zT_mk 132 (by decide +kernel) (by decide +kernel)
theorem zq_133 : (Cond.fieldLink "CountBook" (175 : Nat) "CountBook$Solo" "size" "I") ∈ zT := zT_mk 133 (by decide +kernel) (by decide +kernel)
theorem zq_134 : (Cond.laysFinal "CountBook$Solo" "CountBook$Solo" "partTicks" "[I") ∈ zT := zT_mk 134 (by decide +kernel) (by decide +kernel)
theorem zq_136 : (Cond.laysFinal "CountBook$Solo" "CountBook$Solo" "partGaps" "[I") ∈ zT := zT_mk 136 (by decide +kernel) (by decide +kernel)
theorem zq_138 : (Cond.lays "CountBook$Solo" "CountBook$Solo" "size" "I") ∈ zT := zT_mk 138 (by decide +kernel) (by decide +kernel)
theorem zq_141 : (Cond.instantiable "CountBook$Cycle" (3 : Nat)) ∈ zT := zT_mk 141 (by decide +kernel) (by decide +kernel)
theorem zq_143 : (Cond.instanceMethod ({ cls := "CountBook$Cycle", name := "<init>", desc := "()V" } : MethodName)) ∈ zT := zT_mk 143 (by decide +kernel) (by decide +kernel)
theorem zq_144 : (Cond.code ({ cls := "CountBook$Cycle", name := "<init>", desc := "()V" } : MethodName) prog_2_method_1_code (1 : Nat) (Option.none : Option FieldType)) ∈ zT := zT_mk 144 (by decide +kernel) (by decide +kernel)
theorem zq_145 : (Cond.methodLink "CountBook$Cycle" (3 : Nat) ({ cls := "java/lang/Object", name := "<init>", desc := "()V" } : MethodName)) ∈ zT := zT_mk 145 (by decide +kernel) (by decide +kernel)
theorem zq_146 : (Cond.fieldLink "CountBook$Cycle" (11 : Nat) "CountBook$Cycle" "kinds" "[I") ∈ zT := zT_mk 146 (by decide +kernel) (by decide +kernel)
theorem zq_147 : (Cond.fieldLink "CountBook$Cycle" (15 : Nat) "CountBook$Cycle" "halves" "[I") ∈ zT := zT_mk 147 (by decide +kernel) (by decide +kernel)
theorem zq_148 : (Cond.fieldLink "CountBook$Cycle" (18 : Nat) "CountBook$Cycle" "size" "I") ∈ zT := zT_mk 148 (by decide +kernel) (by decide +kernel)
theorem zq_149 : (Cond.fieldLink "CountBook" (75 : Nat) "CountBook$Cycle" "size" "I") ∈ zT := zT_mk 149 (by decide +kernel) (by decide +kernel)
theorem zq_150 : (Cond.laysFinal "CountBook$Cycle" "CountBook$Cycle" "kinds" "[I") ∈ zT := zT_mk 150 (by decide +kernel) (by decide +kernel)
theorem zq_152 : (Cond.laysFinal "CountBook$Cycle" "CountBook$Cycle" "halves" "[I") ∈ zT := zT_mk 152 (by decide +kernel) (by decide +kernel)
theorem zq_154 : (Cond.lays "CountBook$Cycle" "CountBook$Cycle" "size" "I") ∈ zT := zT_mk 154 (by decide +kernel) (by decide +kernel)
theorem zq_157 : (Cond.instantiable "CountBook$Phrase" (2 : Nat)) ∈ zT := zT_mk 157 (by decide +kernel) (by decide +kernel)
theorem zq_159 : (Cond.instanceMethod ({ cls := "CountBook$Phrase", name := "<init>", desc := "()V" } : MethodName)) ∈ zT := zT_mk 159 (by decide +kernel) (by decide +kernel)
theorem zq_160 : (Cond.code ({ cls := "CountBook$Phrase", name := "<init>", desc := "()V" } : MethodName) prog_4_method_1_code (1 : Nat) (Option.none : Option FieldType)) ∈ zT := zT_mk 160 (by decide +kernel) (by decide +kernel)
theorem zq_161 : (Cond.methodLink "CountBook$Phrase" (3 : Nat) ({ cls := "java/lang/Object", name := "<init>", desc := "()V" } : MethodName)) ∈ zT := zT_mk 161 (by decide +kernel) (by decide +kernel)
theorem zq_162 : (Cond.fieldLink "CountBook$Phrase" (11 : Nat) "CountBook$Phrase" "row" "[B") ∈ zT := zT_mk 162 (by decide +kernel) (by decide +kernel)
theorem zq_163 : (Cond.fieldLink "CountBook$Tape" (39 : Nat) "CountBook$Phrase" "row" "[B") ∈ zT := zT_mk 163 (by decide +kernel) (by decide +kernel)
theorem zq_164 : (Cond.fieldLink "CountBook$Turns" (58 : Nat) "CountBook$Phrase" "row" "[B") ∈ zT := zT_mk 164 (by decide +kernel) (by decide +kernel)
theorem zq_165 : (Cond.fieldLink "CountBook" (210 : Nat) "CountBook$Phrase" "row" "[B") ∈ zT := zT_mk 165 (by decide +kernel) (by decide +kernel)
theorem zq_166 : (Cond.fieldLink "CountBook$Phrase" (15 : Nat) "CountBook$Phrase" "size" "I") ∈ zT := zT_mk 166 (by decide +kernel) (by decide +kernel)
theorem zq_167 : (Cond.fieldLink "CountBook$Hands" (34 : Nat) "CountBook$Phrase" "size" "I") ∈ zT := zT_mk 167 (by decide +kernel) (by decide +kernel)
theorem zq_168 : (Cond.fieldLink "CountBook$Tape" (48 : Nat) "CountBook$Phrase" "size" "I") ∈ zT := zT_mk 168 (by decide +kernel) (by decide +kernel)
theorem zq_169 : (Cond.fieldLink "CountBook$Turns" (55 : Nat) "CountBook$Phrase" "size" "I") ∈ zT := zT_mk 169 (by decide +kernel) (by decide +kernel)
theorem zq_170 : (Cond.fieldLink "CountBook" (113 : Nat) "CountBook$Phrase" "size" "I") ∈ zT := zT_mk 170 (by decide +kernel) (by decide +kernel)
theorem zq_171 : (Cond.laysFinal "CountBook$Phrase" "CountBook$Phrase" "row" "[B") ∈ zT := zT_mk 171 (by decide +kernel) (by decide +kernel)
theorem zq_173 : (Cond.lays "CountBook$Phrase" "CountBook$Phrase" "size" "I") ∈ zT := zT_mk 173 (by decide +kernel) (by decide +kernel)
theorem zq_176 : (Cond.instantiable "CountBook$Sheet" (2 : Nat)) ∈ zT := zT_mk 176 (by decide +kernel) (by decide +kernel)
theorem zq_178 : (Cond.instanceMethod ({ cls := "CountBook$Sheet", name := "<init>", desc := "()V" } : MethodName)) ∈ zT := zT_mk 178 (by decide +kernel) (by decide +kernel)
theorem zq_179 : (Cond.code ({ cls := "CountBook$Sheet", name := "<init>", desc := "()V" } : MethodName) prog_5_method_1_code (1 : Nat) (Option.none : Option FieldType)) ∈ zT := zT_mk 179 (by decide +kernel) (by decide +kernel)
theorem zq_180 : (Cond.methodLink "CountBook$Sheet" (3 : Nat) ({ cls := "java/lang/Object", name := "<init>", desc := "()V" } : MethodName)) ∈ zT := zT_mk 180 (by decide +kernel) (by decide +kernel)
theorem zq_181 : (Cond.fieldLink "CountBook$Sheet" (11 : Nat) "CountBook$Sheet" "row" "[B") ∈ zT := zT_mk 181 (by decide +kernel) (by decide +kernel)
theorem zq_182 : (Cond.fieldLink "CountBook$Turns" (30 : Nat) "CountBook$Sheet" "row" "[B") ∈ zT := zT_mk 182 (by decide +kernel) (by decide +kernel)
theorem zq_183 : (Cond.fieldLink "CountBook" (214 : Nat) "CountBook$Sheet" "row" "[B") ∈ zT := zT_mk 183 (by decide +kernel) (by decide +kernel)
theorem zq_184 : (Cond.fieldLink "CountBook$Sheet" (15 : Nat) "CountBook$Sheet" "places" "I") ∈ zT := zT_mk 184 (by decide +kernel) (by decide +kernel)
theorem zq_185 : (Cond.fieldLink "CountBook$Turns" (23 : Nat) "CountBook$Sheet" "places" "I") ∈ zT := zT_mk 185 (by decide +kernel) (by decide +kernel)
theorem zq_186 : (Cond.fieldLink "CountBook" (206 : Nat) "CountBook$Sheet" "places" "I") ∈ zT := zT_mk 186 (by decide +kernel) (by decide +kernel)
theorem zq_187 : (Cond.laysFinal "CountBook$Sheet" "CountBook$Sheet" "row" "[B") ∈ zT := zT_mk 187 (by decide +kernel) (by decide +kernel)
theorem zq_189 : (Cond.lays "CountBook$Sheet" "CountBook$Sheet" "places" "I") ∈ zT := zT_mk 189 (by decide +kernel) (by decide +kernel)
theorem zq_192 : (Cond.fieldLink "CountBook" (9 : Nat) "CountBook" "cycles" "[LCountBook$Cycle;") ∈ zT := zT_mk 192 (by decide +kernel) (by decide +kernel)
theorem zq_193 : (Cond.fieldLink "CountBook" (17 : Nat) "CountBook" "phrases" "[LCountBook$Phrase;") ∈ zT := zT_mk 193 (by decide +kernel) (by decide +kernel)
theorem zq_194 : (Cond.fieldLink "CountBook" (23 : Nat) "CountBook" "sheets" "[LCountBook$Sheet;") ∈ zT := zT_mk 194 (by decide +kernel) (by decide +kernel)
theorem zq_195 : (Cond.fieldLink "CountBook" (30 : Nat) "CountBook" "tape" "LCountBook$Tape;") ∈ zT := zT_mk 195 (by decide +kernel) (by decide +kernel)
theorem zq_196 : (Cond.fieldLink "CountBook" (37 : Nat) "CountBook" "turns" "LCountBook$Turns;") ∈ zT := zT_mk 196 (by decide +kernel) (by decide +kernel)
theorem zq_197 : (Cond.fieldLink "CountBook" (44 : Nat) "CountBook" "hands" "LCountBook$Hands;") ∈ zT := zT_mk 197 (by decide +kernel) (by decide +kernel)
theorem zq_198 : (Cond.fieldLink "CountBook" (51 : Nat) "CountBook" "solo" "LCountBook$Solo;") ∈ zT := zT_mk 198 (by decide +kernel) (by decide +kernel)
theorem zq_199 : (Cond.fieldLink "CountBook" (55 : Nat) "CountBook" "gridTicks" "I") ∈ zT := zT_mk 199 (by decide +kernel) (by decide +kernel)
theorem zq_200 : (Cond.laysFinal "CountBook" "CountBook" "cycles" "[LCountBook$Cycle;") ∈ zT := zT_mk 200 (by decide +kernel) (by decide +kernel)
theorem zq_202 : (Cond.laysFinal "CountBook" "CountBook" "phrases" "[LCountBook$Phrase;") ∈ zT := zT_mk 202 (by decide +kernel) (by decide +kernel)
theorem zq_204 : (Cond.laysFinal "CountBook" "CountBook" "sheets" "[LCountBook$Sheet;") ∈ zT := zT_mk 204 (by decide +kernel) (by decide +kernel)
theorem zq_206 : (Cond.laysFinal "CountBook" "CountBook" "tape" "LCountBook$Tape;") ∈ zT := zT_mk 206 (by decide +kernel) (by decide +kernel)
theorem zq_208 : (Cond.laysFinal "CountBook" "CountBook" "turns" "LCountBook$Turns;") ∈ zT := zT_mk 208 (by decide +kernel) (by decide +kernel)
theorem zq_210 : (Cond.laysFinal "CountBook" "CountBook" "hands" "LCountBook$Hands;") ∈ zT := zT_mk 210 (by decide +kernel) (by decide +kernel)
theorem zq_212 : (Cond.laysFinal "CountBook" "CountBook" "solo" "LCountBook$Solo;") ∈ zT := zT_mk 212 (by decide +kernel) (by decide +kernel)
theorem zq_214 : (Cond.lays "CountBook" "CountBook" "gridTicks" "I") ∈ zT := zT_mk 214 (by decide +kernel) (by decide +kernel)
theorem zq_217 : (Cond.methodLink "CountBookLaw" (13 : Nat) ({ cls := "CountBook", name := "limb", desc := "(III)I" } : MethodName)) ∈ zT := zT_mk 217 (by decide +kernel) (by decide +kernel)
theorem zq_218 : (Cond.instanceMethod ({ cls := "CountBook", name := "limb", desc := "(III)I" } : MethodName)) ∈ zT := zT_mk 218 (by decide +kernel) (by decide +kernel)
theorem zq_219 : (Cond.selects "CountBook" ({ cls := "CountBook", name := "limb", desc := "(III)I" } : MethodName) ({ cls := "CountBook", name := "limb", desc := "(III)I" } : MethodName)) ∈ zT := zT_mk 219 (by decide +kernel) (by decide +kernel)
theorem zq_220 : (Cond.code ({ cls := "CountBook", name := "limb", desc := "(III)I" } : MethodName) prog_1_method_2_code (5 : Nat) (Option.some FieldType.int)) ∈ zT := zT_mk 220 (by decide +kernel) (by decide +kernel)
theorem zq_221 : (Cond.methodLink "CountBook" (62 : Nat) ({ cls := "CountBook", name := "cycleAt", desc := "(I)LCountBook$Cycle;" } : MethodName)) ∈ zT := zT_mk 221 (by decide +kernel) (by decide +kernel)
theorem zq_223 : (Cond.instanceMethod ({ cls := "CountBook", name := "cycleAt", desc := "(I)LCountBook$Cycle;" } : MethodName)) ∈ zT := zT_mk 223 (by decide +kernel) (by decide +kernel)
theorem zq_224 : (Cond.code ({ cls := "CountBook", name := "cycleAt", desc := "(I)LCountBook$Cycle;" } : MethodName) prog_1_method_35_code (2 : Nat) (Option.some (FieldType.object "CountBook$Cycle"))) ∈ zT := zT_mk 224 (by decide +kernel) (by decide +kernel)
theorem zq_225 : (Cond.methodLink "CountBook" (66 : Nat) ({ cls := "CountBook$Cycle", name := "isKind", desc := "(I)Z" } : MethodName)) ∈ zT := zT_mk 225 (by decide +kernel) (by decide +kernel)
theorem zq_226 : (Cond.static ({ cls := "CountBook$Cycle", name := "isKind", desc := "(I)Z" } : MethodName)) ∈ zT := zT_mk 226 (by decide +kernel) (by decide +kernel)
theorem zq_227 : (Cond.code ({ cls := "CountBook$Cycle", name := "isKind", desc := "(I)Z" } : MethodName) prog_2_method_2_code (1 : Nat) (Option.some FieldType.boolean)) ∈ zT := zT_mk 227 (by decide +kernel) (by decide +kernel)
theorem zq_228 : (Cond.constant "CountBook" (70 : Nat) (-1000000001 : Int32)) ∈ zT := zT_mk 228 (by decide +kernel) (by decide +kernel)
theorem zq_229 : (Cond.methodLink "CountBook" (71 : Nat) ({ cls := "CountBook$Cycle", name := "take", desc := "(II)I" } : MethodName)) ∈ zT := zT_mk 229 (by decide +kernel) (by decide +kernel)
theorem zq_230 : (Cond.instanceMethod ({ cls := "CountBook$Cycle", name := "take", desc := "(II)I" } : MethodName)) ∈ zT := zT_mk 230 (by decide +kernel) (by decide +kernel)
theorem zq_231 : (Cond.selects "CountBook$Cycle" ({ cls := "CountBook$Cycle", name := "take", desc := "(II)I" } : MethodName) ({ cls := "CountBook$Cycle", name := "take", desc := "(II)I" } : MethodName)) ∈ zT := zT_mk 231 (by decide +kernel) (by decide +kernel)
theorem zq_232 : (Cond.code ({ cls := "CountBook$Cycle", name := "take", desc := "(II)I" } : MethodName) prog_2_method_4_code (3 : Nat) (Option.some FieldType.int)) ∈ zT := zT_mk 232 (by decide +kernel) (by decide +kernel)
theorem zq_233 : (Cond.constant "CountBook$Cycle" (22 : Nat) (-1000000003 : Int32)) ∈ zT := zT_mk 233 (by decide +kernel) (by decide +kernel)
theorem zq_234 : (Cond.methodLink "CountBookLaw" (18 : Nat) ({ cls := "CountBook", name := "isOf", desc := "(III)I" } : MethodName)) ∈ zT := zT_mk 234 (by decide +kernel) (by decide +kernel)
theorem zq_235 : (Cond.instanceMethod ({ cls := "CountBook", name := "isOf", desc := "(III)I" } : MethodName)) ∈ zT := zT_mk 235 (by decide +kernel) (by decide +kernel)
theorem zq_236 : (Cond.selects "CountBook" ({ cls := "CountBook", name := "isOf", desc := "(III)I" } : MethodName) ({ cls := "CountBook", name := "isOf", desc := "(III)I" } : MethodName)) ∈ zT := zT_mk 236 (by decide +kernel) (by decide +kernel)
theorem zq_237 : (Cond.code ({ cls := "CountBook", name := "isOf", desc := "(III)I" } : MethodName) prog_1_method_3_code (5 : Nat) (Option.some FieldType.int)) ∈ zT := zT_mk 237 (by decide +kernel) (by decide +kernel)
theorem zq_238 : (Cond.methodLink "CountBook" (78 : Nat) ({ cls := "CountBook$Cycle", name := "limbIs", desc := "(II)Z" } : MethodName)) ∈ zT := zT_mk 238 (by decide +kernel) (by decide +kernel)
theorem zq_239 : (Cond.instanceMethod ({ cls := "CountBook$Cycle", name := "limbIs", desc := "(II)Z" } : MethodName)) ∈ zT := zT_mk 239 (by decide +kernel) (by decide +kernel)
theorem zq_240 : (Cond.selects "CountBook$Cycle" ({ cls := "CountBook$Cycle", name := "limbIs", desc := "(II)Z" } : MethodName) ({ cls := "CountBook$Cycle", name := "limbIs", desc := "(II)Z" } : MethodName)) ∈ zT := zT_mk 240 (by decide +kernel) (by decide +kernel)
theorem zq_241 : (Cond.code ({ cls := "CountBook$Cycle", name := "limbIs", desc := "(II)Z" } : MethodName) prog_2_method_5_code (3 : Nat) (Option.some FieldType.boolean)) ∈ zT := zT_mk 241 (by decide +kernel) (by decide +kernel)
theorem zq_242 : (Cond.methodLink "CountBook$Cycle" (23 : Nat) ({ cls := "CountBook$Cycle", name := "isUnder", desc := "(II)Z" } : MethodName)) ∈ zT := zT_mk 242 (by decide +kernel) (by decide +kernel)
theorem zq_243 : (Cond.static ({ cls := "CountBook$Cycle", name := "isUnder", desc := "(II)Z" } : MethodName)) ∈ zT := zT_mk 243 (by decide +kernel) (by decide +kernel)
theorem zq_244 : (Cond.code ({ cls := "CountBook$Cycle", name := "isUnder", desc := "(II)Z" } : MethodName) prog_2_method_3_code (2 : Nat) (Option.some FieldType.boolean)) ∈ zT := zT_mk 244 (by decide +kernel) (by decide +kernel)
theorem zq_245 : (Cond.methodLink "CountBookLaw" (22 : Nat) ({ cls := "CountBook", name := "clear", desc := "(I)I" } : MethodName)) ∈ zT := zT_mk 245 (by decide +kernel) (by decide +kernel)
theorem zq_246 : (Cond.instanceMethod ({ cls := "CountBook", name := "clear", desc := "(I)I" } : MethodName)) ∈ zT := zT_mk 246 (by decide +kernel) (by decide +kernel)
theorem zq_247 : (Cond.selects "CountBook" ({ cls := "CountBook", name := "clear", desc := "(I)I" } : MethodName) ({ cls := "CountBook", name := "clear", desc := "(I)I" } : MethodName)) ∈ zT := zT_mk 247 (by decide +kernel) (by decide +kernel)
theorem zq_248 : (Cond.code ({ cls := "CountBook", name := "clear", desc := "(I)I" } : MethodName) prog_1_method_4_code (4 : Nat) (Option.some FieldType.int)) ∈ zT := zT_mk 248 (by decide +kernel) (by decide +kernel)
theorem zq_249 : (Cond.methodLink "CountBookLaw" (27 : Nat) ({ cls := "CountBook", name := "length", desc := "(I)I" } : MethodName)) ∈ zT := zT_mk 249 (by decide +kernel) (by decide +kernel)
theorem zq_250 : (Cond.instanceMethod ({ cls := "CountBook", name := "length", desc := "(I)I" } : MethodName)) ∈ zT := zT_mk 250 (by decide +kernel) (by decide +kernel)
theorem zq_251 : (Cond.selects "CountBook" ({ cls := "CountBook", name := "length", desc := "(I)I" } : MethodName) ({ cls := "CountBook", name := "length", desc := "(I)I" } : MethodName)) ∈ zT := zT_mk 251 (by decide +kernel) (by decide +kernel)
theorem zq_252 : (Cond.code ({ cls := "CountBook", name := "length", desc := "(I)I" } : MethodName) prog_1_method_5_code (3 : Nat) (Option.some FieldType.int)) ∈ zT := zT_mk 252 (by decide +kernel) (by decide +kernel)
theorem zq_253 : (Cond.methodLink "CountBook" (82 : Nat) ({ cls := "CountBook$Cycle", name := "allTicks", desc := "()I" } : MethodName)) ∈ zT := zT_mk 253 (by decide +kernel) (by decide +kernel)
theorem zq_254 : (Cond.instanceMethod ({ cls := "CountBook$Cycle", name := "allTicks", desc := "()I" } : MethodName)) ∈ zT := zT_mk 254 (by decide +kernel) (by decide +kernel)
theorem zq_255 : (Cond.selects "CountBook$Cycle" ({ cls := "CountBook$Cycle", name := "allTicks", desc := "()I" } : MethodName) ({ cls := "CountBook$Cycle", name := "allTicks", desc := "()I" } : MethodName)) ∈ zT := zT_mk 255 (by decide +kernel) (by decide +kernel)
theorem zq_256 : (Cond.code ({ cls := "CountBook$Cycle", name := "allTicks", desc := "()I" } : MethodName) prog_2_method_6_code (3 : Nat) (Option.some FieldType.int)) ∈ zT := zT_mk 256 (by decide +kernel) (by decide +kernel)
theorem zq_257 : (Cond.methodLink "CountBookLaw" (31 : Nat) ({ cls := "CountBook", name := "handling", desc := "(II)I" } : MethodName)) ∈ zT := zT_mk 257 (by decide +kernel) (by decide +kernel)
theorem zq_258 : (Cond.instanceMethod ({ cls := "CountBook", name := "handling", desc := "(II)I" } : MethodName)) ∈ zT := zT_mk 258 (by decide +kernel) (by decide +kernel)
theorem zq_259 : (Cond.selects "CountBook" ({ cls := "CountBook", name := "handling", desc := "(II)I" } : MethodName) ({ cls := "CountBook", name := "handling", desc := "(II)I" } : MethodName)) ∈ zT := zT_mk 259 (by decide +kernel) (by decide +kernel)
theorem zq_260 : (Cond.code ({ cls := "CountBook", name := "handling", desc := "(II)I" } : MethodName) prog_1_method_6_code (4 : Nat) (Option.some FieldType.int)) ∈ zT := zT_mk 260 (by decide +kernel) (by decide +kernel)
theorem zq_261 : (Cond.methodLink "CountBook" (86 : Nat) ({ cls := "CountBook$Cycle", name := "handlingAt", desc := "(I)I" } : MethodName)) ∈ zT := zT_mk 261 (by decide +kernel) (by decide +kernel)
theorem zq_262 : (Cond.instanceMethod ({ cls := "CountBook$Cycle", name := "handlingAt", desc := "(I)I" } : MethodName)) ∈ zT := zT_mk 262 (by decide +kernel) (by decide +kernel)
theorem zq_263 : (Cond.selects "CountBook$Cycle" ({ cls := "CountBook$Cycle", name := "handlingAt", desc := "(I)I" } : MethodName) ({ cls := "CountBook$Cycle", name := "handlingAt", desc := "(I)I" } : MethodName)) ∈ zT := zT_mk 263 (by decide +kernel) (by decide +kernel)
theorem zq_264 : (Cond.code ({ cls := "CountBook$Cycle", name := "handlingAt", desc := "(I)I" } : MethodName) prog_2_method_7_code (6 : Nat) (Option.some FieldType.int)) ∈ zT := zT_mk 264 (by decide +kernel) (by decide +kernel)
theorem zq_265 : (Cond.methodLink "CountBook$Cycle" (27 : Nat) ({ cls := "CountBook$Cycle", name := "allTicks", desc := "()I" } : MethodName)) ∈ zT := zT_mk 265 (by decide +kernel) (by decide +kernel)
theorem zq_266 : (Cond.constant "CountBook$Cycle" (31 : Nat) (-1000000002 : Int32)) ∈ zT := zT_mk 266 (by decide +kernel) (by decide +kernel)
theorem zq_267 : (Cond.methodLink "CountBook$Cycle" (32 : Nat) ({ cls := "CountBook$Cycle", name := "deedAt", desc := "(III)I" } : MethodName)) ∈ zT := zT_mk 267 (by decide +kernel) (by decide +kernel)
theorem zq_268 : (Cond.static ({ cls := "CountBook$Cycle", name := "deedAt", desc := "(III)I" } : MethodName)) ∈ zT := zT_mk 268 (by decide +kernel) (by decide +kernel)
theorem zq_269 : (Cond.code ({ cls := "CountBook$Cycle", name := "deedAt", desc := "(III)I" } : MethodName) prog_2_method_8_code (4 : Nat) (Option.some FieldType.int)) ∈ zT := zT_mk 269 (by decide +kernel) (by decide +kernel)
theorem zq_270 : (Cond.methodLink "CountBookLaw" (36 : Nat) ({ cls := "CountBook", name := "feed", desc := "(III)I" } : MethodName)) ∈ zT := zT_mk 270 (by decide +kernel) (by decide +kernel)
theorem zq_271 : (Cond.instanceMethod ({ cls := "CountBook", name := "feed", desc := "(III)I" } : MethodName)) ∈ zT := zT_mk 271 (by decide +kernel) (by decide +kernel)
theorem zq_272 : (Cond.selects "CountBook" ({ cls := "CountBook", name := "feed", desc := "(III)I" } : MethodName) ({ cls := "CountBook", name := "feed", desc := "(III)I" } : MethodName)) ∈ zT := zT_mk 272 (by decide +kernel) (by decide +kernel)
theorem zq_273 : (Cond.code ({ cls := "CountBook", name := "feed", desc := "(III)I" } : MethodName) prog_1_method_7_code (4 : Nat) (Option.some FieldType.int)) ∈ zT := zT_mk 273 (by decide +kernel) (by decide +kernel)
theorem zq_274 : (Cond.methodLink "CountBook" (90 : Nat) ({ cls := "CountBook$Tape", name := "hasRoomFor", desc := "(I)Z" } : MethodName)) ∈ zT := zT_mk 274 (by decide +kernel) (by decide +kernel)
theorem zq_275 : (Cond.instanceMethod ({ cls := "CountBook$Tape", name := "hasRoomFor", desc := "(I)Z" } : MethodName)) ∈ zT := zT_mk 275 (by decide +kernel) (by decide +kernel)
theorem zq_276 : (Cond.selects "CountBook$Tape" ({ cls := "CountBook$Tape", name := "hasRoomFor", desc := "(I)Z" } : MethodName) ({ cls := "CountBook$Tape", name := "hasRoomFor", desc := "(I)Z" } : MethodName)) ∈ zT := zT_mk 276 (by decide +kernel) (by decide +kernel)
theorem zq_277 : (Cond.code ({ cls := "CountBook$Tape", name := "hasRoomFor", desc := "(I)Z" } : MethodName) prog_7_method_2_code (2 : Nat) (Option.some FieldType.boolean)) ∈ zT := zT_mk 277 (by decide +kernel) (by decide +kernel)
theorem zq_278 : (Cond.constant "CountBook" (93 : Nat) (-1000000003 : Int32)) ∈ zT := zT_mk 278 (by decide +kernel) (by decide +kernel)
theorem zq_279 : (Cond.methodLink "CountBook" (94 : Nat) ({ cls := "CountBook$Tape", name := "write", desc := "(I)V" } : MethodName)) ∈ zT := zT_mk 279 (by decide +kernel) (by decide +kernel)
theorem zq_280 : (Cond.instanceMethod ({ cls := "CountBook$Tape", name := "write", desc := "(I)V" } : MethodName)) ∈ zT := zT_mk 280 (by decide +kernel) (by decide +kernel)
theorem zq_281 : (Cond.selects "CountBook$Tape" ({ cls := "CountBook$Tape", name := "write", desc := "(I)V" } : MethodName) ({ cls := "CountBook$Tape", name := "write", desc := "(I)V" } : MethodName)) ∈ zT := zT_mk 281 (by decide +kernel) (by decide +kernel)
theorem zq_282 : (Cond.code ({ cls := "CountBook$Tape", name := "write", desc := "(I)V" } : MethodName) prog_7_method_3_code (3 : Nat) (Option.none : Option FieldType)) ∈ zT := zT_mk 282 (by decide +kernel) (by decide +kernel)
theorem zq_283 : (Cond.methodLink "CountBookLaw" (40 : Nat) ({ cls := "CountBook", name := "trim", desc := "(I)I" } : MethodName)) ∈ zT := zT_mk 283 (by decide +kernel) (by decide +kernel)
theorem zq_284 : (Cond.instanceMethod ({ cls := "CountBook", name := "trim", desc := "(I)I" } : MethodName)) ∈ zT := zT_mk 284 (by decide +kernel) (by decide +kernel)
theorem zq_285 : (Cond.selects "CountBook" ({ cls := "CountBook", name := "trim", desc := "(I)I" } : MethodName) ({ cls := "CountBook", name := "trim", desc := "(I)I" } : MethodName)) ∈ zT := zT_mk 285 (by decide +kernel) (by decide +kernel)
theorem zq_286 : (Cond.code ({ cls := "CountBook", name := "trim", desc := "(I)I" } : MethodName) prog_1_method_8_code (2 : Nat) (Option.some FieldType.int)) ∈ zT := zT_mk 286 (by decide +kernel) (by decide +kernel)
theorem zq_287 : (Cond.methodLink "CountBookLaw" (44 : Nat) ({ cls := "CountBook", name := "phrase", desc := "(I)I" } : MethodName)) ∈ zT := zT_mk 287 (by decide +kernel) (by decide +kernel)
theorem zq_288 : (Cond.instanceMethod ({ cls := "CountBook", name := "phrase", desc := "(I)I" } : MethodName)) ∈ zT := zT_mk 288 (by decide +kernel) (by decide +kernel)
theorem zq_289 : (Cond.selects "CountBook" ({ cls := "CountBook", name := "phrase", desc := "(I)I" } : MethodName) ({ cls := "CountBook", name := "phrase", desc := "(I)I" } : MethodName)) ∈ zT := zT_mk 289 (by decide +kernel) (by decide +kernel)
theorem zq_290 : (Cond.code ({ cls := "CountBook", name := "phrase", desc := "(I)I" } : MethodName) prog_1_method_9_code (4 : Nat) (Option.some FieldType.int)) ∈ zT := zT_mk 290 (by decide +kernel) (by decide +kernel)
theorem zq_291 : (Cond.methodLink "CountBook" (99 : Nat) ({ cls := "CountBook", name := "phraseAt", desc := "(I)LCountBook$Phrase;" } : MethodName)) ∈ zT := zT_mk 291 (by decide +kernel) (by decide +kernel)
theorem zq_293 : (Cond.instanceMethod ({ cls := "CountBook", name := "phraseAt", desc := "(I)LCountBook$Phrase;" } : MethodName)) ∈ zT := zT_mk 293 (by decide +kernel) (by decide +kernel)
theorem zq_294 : (Cond.code ({ cls := "CountBook", name := "phraseAt", desc := "(I)LCountBook$Phrase;" } : MethodName) prog_1_method_36_code (2 : Nat) (Option.some (FieldType.object "CountBook$Phrase"))) ∈ zT := zT_mk 294 (by decide +kernel) (by decide +kernel)
theorem zq_295 : (Cond.methodLink "CountBook" (103 : Nat) ({ cls := "CountBook$Tape", name := "readInto", desc := "(LCountBook$Phrase;)I" } : MethodName)) ∈ zT := zT_mk 295 (by decide +kernel) (by decide +kernel)
theorem zq_296 : (Cond.instanceMethod ({ cls := "CountBook$Tape", name := "readInto", desc := "(LCountBook$Phrase;)I" } : MethodName)) ∈ zT := zT_mk 296 (by decide +kernel) (by decide +kernel)
theorem zq_297 : (Cond.selects "CountBook$Tape" ({ cls := "CountBook$Tape", name := "readInto", desc := "(LCountBook$Phrase;)I" } : MethodName) ({ cls := "CountBook$Tape", name := "readInto", desc := "(LCountBook$Phrase;)I" } : MethodName)) ∈ zT := zT_mk 297 (by decide +kernel) (by decide +kernel)
theorem zq_298 : (Cond.code ({ cls := "CountBook$Tape", name := "readInto", desc := "(LCountBook$Phrase;)I" } : MethodName) prog_7_method_4_code (4 : Nat) (Option.some FieldType.int)) ∈ zT := zT_mk 298 (by decide +kernel) (by decide +kernel)
theorem zq_299 : (Cond.methodLink "CountBook$Tape" (31 : Nat) ({ cls := "CountBook$Tape", name := "faultPlace", desc := "()I" } : MethodName)) ∈ zT := zT_mk 299 (by decide +kernel) (by decide +kernel)
theorem zq_301 : (Cond.instanceMethod ({ cls := "CountBook$Tape", name := "faultPlace", desc := "()I" } : MethodName)) ∈ zT := zT_mk 301 (by decide +kernel) (by decide +kernel)
theorem zq_302 : (Cond.code ({ cls := "CountBook$Tape", name := "faultPlace", desc := "()I" } : MethodName) prog_7_method_5_code (5 : Nat) (Option.some FieldType.int)) ∈ zT := zT_mk 302 (by decide +kernel) (by decide +kernel)
theorem zq_303 : (Cond.methodLink "CountBook$Tape" (49 : Nat) ({ cls := "CountBook$Tape", name := "isTimes", desc := "(I)Z" } : MethodName)) ∈ zT := zT_mk 303 (by decide +kernel) (by decide +kernel)
theorem zq_304 : (Cond.static ({ cls := "CountBook$Tape", name := "isTimes", desc := "(I)Z" } : MethodName)) ∈ zT := zT_mk 304 (by decide +kernel) (by decide +kernel)
theorem zq_305 : (Cond.code ({ cls := "CountBook$Tape", name := "isTimes", desc := "(I)Z" } : MethodName) prog_7_method_8_code (1 : Nat) (Option.some FieldType.boolean)) ∈ zT := zT_mk 305 (by decide +kernel) (by decide +kernel)
theorem zq_306 : (Cond.methodLink "CountBook$Tape" (53 : Nat) ({ cls := "CountBook$Tape", name := "syllableOf", desc := "(I)I" } : MethodName)) ∈ zT := zT_mk 306 (by decide +kernel) (by decide +kernel)
theorem zq_307 : (Cond.static ({ cls := "CountBook$Tape", name := "syllableOf", desc := "(I)I" } : MethodName)) ∈ zT := zT_mk 307 (by decide +kernel) (by decide +kernel)
theorem zq_308 : (Cond.code ({ cls := "CountBook$Tape", name := "syllableOf", desc := "(I)I" } : MethodName) prog_7_method_9_code (1 : Nat) (Option.some FieldType.int)) ∈ zT := zT_mk 308 (by decide +kernel) (by decide +kernel)
theorem zq_309 : (Cond.methodLink "CountBook$Tape" (35 : Nat) ({ cls := "CountBook$Tape", name := "speak", desc := "()I" } : MethodName)) ∈ zT := zT_mk 309 (by decide +kernel) (by decide +kernel)
theorem zq_311 : (Cond.instanceMethod ({ cls := "CountBook$Tape", name := "speak", desc := "()I" } : MethodName)) ∈ zT := zT_mk 311 (by decide +kernel) (by decide +kernel)
theorem zq_312 : (Cond.code ({ cls := "CountBook$Tape", name := "speak", desc := "()I" } : MethodName) prog_7_method_6_code (6 : Nat) (Option.some FieldType.int)) ∈ zT := zT_mk 312 (by decide +kernel) (by decide +kernel)
theorem zq_313 : (Cond.methodLink "CountBook$Tape" (57 : Nat) ({ cls := "java/lang/Math", name := "min", desc := "(II)I" } : MethodName)) ∈ zT := zT_mk 313 (by decide +kernel) (by decide +kernel)
theorem zq_314 : (Cond.static ({ cls := "java/lang/Math", name := "min", desc := "(II)I" } : MethodName)) ∈ zT := zT_mk 314 (by decide +kernel) (by decide +kernel)
theorem zq_315 : (Cond.code ({ cls := "java/lang/Math", name := "min", desc := "(II)I" } : MethodName) prog_11_method_69_code (2 : Nat) (Option.some FieldType.int)) ∈ zT := zT_mk 315 (by decide +kernel) (by decide +kernel)
theorem zq_316 : (Cond.methodLink "CountBook$Tape" (63 : Nat) ({ cls := "CountBook$Tape", name := "sayAgain", desc := "(III)I" } : MethodName)) ∈ zT := zT_mk 316 (by decide +kernel) (by decide +kernel)
theorem zq_318 : (Cond.instanceMethod ({ cls := "CountBook$Tape", name := "sayAgain", desc := "(III)I" } : MethodName)) ∈ zT := zT_mk 318 (by decide +kernel) (by decide +kernel)
theorem zq_319 : (Cond.code ({ cls := "CountBook$Tape", name := "sayAgain", desc := "(III)I" } : MethodName) prog_7_method_7_code (7 : Nat) (Option.some FieldType.int)) ∈ zT := zT_mk 319 (by decide +kernel) (by decide +kernel)
theorem zq_320 : (Cond.constant "CountBook$Tape" (38 : Nat) (-1000000003 : Int32)) ∈ zT := zT_mk 320 (by decide +kernel) (by decide +kernel)
theorem zq_321 : (Cond.methodLink "CountBook$Tape" (42 : Nat) ({ cls := "java/lang/System", name := "arraycopy", desc := "(Ljava/lang/Object;ILjava/lang/Object;II)V" } : MethodName)) ∈ zT := zT_mk 321 (by decide +kernel) (by decide +kernel)
theorem zq_322 : (Cond.static ({ cls := "java/lang/System", name := "arraycopy", desc := "(Ljava/lang/Object;ILjava/lang/Object;II)V" } : MethodName)) ∈ zT := zT_mk 322 (by decide +kernel) (by decide +kernel)
theorem zq_323 : (Cond.native ({ cls := "java/lang/System", name := "arraycopy", desc := "(Ljava/lang/Object;ILjava/lang/Object;II)V" } : MethodName)) ∈ zT := zT_mk 323 (by decide +kernel) (by decide +kernel)
theorem zq_324 : (Cond.methodLink "CountBookLaw" (48 : Nat) ({ cls := "CountBook", name := "syllable", desc := "(II)I" } : MethodName)) ∈ zT := zT_mk 324 (by decide +kernel) (by decide +kernel)
theorem zq_325 : (Cond.instanceMethod ({ cls := "CountBook", name := "syllable", desc := "(II)I" } : MethodName)) ∈ zT := zT_mk 325 (by decide +kernel) (by decide +kernel)
theorem zq_326 : (Cond.selects "CountBook" ({ cls := "CountBook", name := "syllable", desc := "(II)I" } : MethodName) ({ cls := "CountBook", name := "syllable", desc := "(II)I" } : MethodName)) ∈ zT := zT_mk 326 (by decide +kernel) (by decide +kernel)
theorem zq_327 : (Cond.code ({ cls := "CountBook", name := "syllable", desc := "(II)I" } : MethodName) prog_1_method_10_code (4 : Nat) (Option.some FieldType.int)) ∈ zT := zT_mk 327 (by decide +kernel) (by decide +kernel)
theorem zq_328 : (Cond.methodLink "CountBook" (107 : Nat) ({ cls := "CountBook$Phrase", name := "at", desc := "(I)I" } : MethodName)) ∈ zT := zT_mk 328 (by decide +kernel) (by decide +kernel)
theorem zq_329 : (Cond.instanceMethod ({ cls := "CountBook$Phrase", name := "at", desc := "(I)I" } : MethodName)) ∈ zT := zT_mk 329 (by decide +kernel) (by decide +kernel)
theorem zq_330 : (Cond.selects "CountBook$Phrase" ({ cls := "CountBook$Phrase", name := "at", desc := "(I)I" } : MethodName) ({ cls := "CountBook$Phrase", name := "at", desc := "(I)I" } : MethodName)) ∈ zT := zT_mk 330 (by decide +kernel) (by decide +kernel)
theorem zq_331 : (Cond.code ({ cls := "CountBook$Phrase", name := "at", desc := "(I)I" } : MethodName) prog_4_method_2_code (2 : Nat) (Option.some FieldType.int)) ∈ zT := zT_mk 331 (by decide +kernel) (by decide +kernel)
theorem zq_332 : (Cond.constant "CountBook$Phrase" (19 : Nat) (-1000000005 : Int32)) ∈ zT := zT_mk 332 (by decide +kernel) (by decide +kernel)
theorem zq_333 : (Cond.methodLink "CountBookLaw" (52 : Nat) ({ cls := "CountBook", name := "ticks", desc := "(II)I" } : MethodName)) ∈ zT := zT_mk 333 (by decide +kernel) (by decide +kernel)
theorem zq_334 : (Cond.instanceMethod ({ cls := "CountBook", name := "ticks", desc := "(II)I" } : MethodName)) ∈ zT := zT_mk 334 (by decide +kernel) (by decide +kernel)
theorem zq_335 : (Cond.selects "CountBook" ({ cls := "CountBook", name := "ticks", desc := "(II)I" } : MethodName) ({ cls := "CountBook", name := "ticks", desc := "(II)I" } : MethodName)) ∈ zT := zT_mk 335 (by decide +kernel) (by decide +kernel)
theorem zq_336 : (Cond.code ({ cls := "CountBook", name := "ticks", desc := "(II)I" } : MethodName) prog_1_method_11_code (5 : Nat) (Option.some FieldType.int)) ∈ zT := zT_mk 336 (by decide +kernel) (by decide +kernel)
theorem zq_337 : (Cond.methodLink "CountBook" (110 : Nat) ({ cls := "CountBook", name := "ticksOfOne", desc := "(I)I" } : MethodName)) ∈ zT := zT_mk 337 (by decide +kernel) (by decide +kernel)
theorem zq_338 : (Cond.static ({ cls := "CountBook", name := "ticksOfOne", desc := "(I)I" } : MethodName)) ∈ zT := zT_mk 338 (by decide +kernel) (by decide +kernel)
theorem zq_339 : (Cond.code ({ cls := "CountBook", name := "ticksOfOne", desc := "(I)I" } : MethodName) prog_1_method_44_code (1 : Nat) (Option.some FieldType.int)) ∈ zT := zT_mk 339 (by decide +kernel) (by decide +kernel)
theorem zq_340 : (Cond.methodLink "CountBookLaw" (56 : Nat) ({ cls := "CountBook", name := "lands", desc := "(IIIII)I" } : MethodName)) ∈ zT := zT_mk 340 (by decide +kernel) (by decide +kernel)
theorem zq_341 : (Cond.instanceMethod ({ cls := "CountBook", name := "lands", desc := "(IIIII)I" } : MethodName)) ∈ zT := zT_mk 341 (by decide +kernel) (by decide +kernel)
theorem zq_342 : (Cond.selects "CountBook" ({ cls := "CountBook", name := "lands", desc := "(IIIII)I" } : MethodName) ({ cls := "CountBook", name := "lands", desc := "(IIIII)I" } : MethodName)) ∈ zT := zT_mk 342 (by decide +kernel) (by decide +kernel)
theorem zq_343 : (Cond.code ({ cls := "CountBook", name := "lands", desc := "(IIIII)I" } : MethodName) prog_1_method_12_code (8 : Nat) (Option.some FieldType.int)) ∈ zT := zT_mk 343 (by decide +kernel) (by decide +kernel)
theorem zq_344 : (Cond.methodLink "CountBook" (114 : Nat) ({ cls := "CountBook", name := "closingRefusal", desc := "(IIIII)I" } : MethodName)) ∈ zT := zT_mk 344 (by decide +kernel) (by decide +kernel)
theorem zq_346 : (Cond.instanceMethod ({ cls := "CountBook", name := "closingRefusal", desc := "(IIIII)I" } : MethodName)) ∈ zT := zT_mk 346 (by decide +kernel) (by decide +kernel)
theorem zq_347 : (Cond.code ({ cls := "CountBook", name := "closingRefusal", desc := "(IIIII)I" } : MethodName) prog_1_method_47_code (8 : Nat) (Option.some FieldType.int)) ∈ zT := zT_mk 347 (by decide +kernel) (by decide +kernel)
theorem zq_348 : (Cond.methodLink "CountBook" (233 : Nat) ({ cls := "CountBook", name := "isHow", desc := "(I)Z" } : MethodName)) ∈ zT := zT_mk 348 (by decide +kernel) (by decide +kernel)
theorem zq_349 : (Cond.static ({ cls := "CountBook", name := "isHow", desc := "(I)Z" } : MethodName)) ∈ zT := zT_mk 349 (by decide +kernel) (by decide +kernel)
theorem zq_350 : (Cond.code ({ cls := "CountBook", name := "isHow", desc := "(I)Z" } : MethodName) prog_1_method_46_code (1 : Nat) (Option.some FieldType.boolean)) ∈ zT := zT_mk 350 (by decide +kernel) (by decide +kernel)
theorem zq_351 : (Cond.methodLink "CountBook" (171 : Nat) ({ cls := "CountBook", name := "isGap", desc := "(I)Z" } : MethodName)) ∈ zT := zT_mk 351 (by decide +kernel) (by decide +kernel)
theorem zq_352 : (Cond.static ({ cls := "CountBook", name := "isGap", desc := "(I)Z" } : MethodName)) ∈ zT := zT_mk 352 (by decide +kernel) (by decide +kernel)
theorem zq_353 : (Cond.code ({ cls := "CountBook", name := "isGap", desc := "(I)Z" } : MethodName) prog_1_method_45_code (1 : Nat) (Option.some FieldType.boolean)) ∈ zT := zT_mk 353 (by decide +kernel) (by decide +kernel)
theorem zq_354 : (Cond.constant "CountBook" (163 : Nat) (-1000000002 : Int32)) ∈ zT := zT_mk 354 (by decide +kernel) (by decide +kernel)
theorem zq_355 : (Cond.methodLink "CountBook" (118 : Nat) ({ cls := "CountBook", name := "wantingIn", desc := "(IIIII)I" } : MethodName)) ∈ zT := zT_mk 355 (by decide +kernel) (by decide +kernel)
theorem zq_357 : (Cond.instanceMethod ({ cls := "CountBook", name := "wantingIn", desc := "(IIIII)I" } : MethodName)) ∈ zT := zT_mk 357 (by decide +kernel) (by decide +kernel)
theorem zq_358 : (Cond.code ({ cls := "CountBook", name := "wantingIn", desc := "(IIIII)I" } : MethodName) prog_1_method_48_code (10 : Nat) (Option.some FieldType.int)) ∈ zT := zT_mk 358 (by decide +kernel) (by decide +kernel)
theorem zq_359 : (Cond.methodLink "CountBook" (121 : Nat) ({ cls := "CountBook", name := "lengthOf", desc := "(I)I" } : MethodName)) ∈ zT := zT_mk 359 (by decide +kernel) (by decide +kernel)
theorem zq_361 : (Cond.instanceMethod ({ cls := "CountBook", name := "lengthOf", desc := "(I)I" } : MethodName)) ∈ zT := zT_mk 361 (by decide +kernel) (by decide +kernel)
theorem zq_362 : (Cond.code ({ cls := "CountBook", name := "lengthOf", desc := "(I)I" } : MethodName) prog_1_method_38_code (3 : Nat) (Option.some FieldType.int)) ∈ zT := zT_mk 362 (by decide +kernel) (by decide +kernel)
theorem zq_363 : (Cond.methodLink "CountBook" (185 : Nat) ({ cls := "java/lang/Math", name := "floorMod", desc := "(II)I" } : MethodName)) ∈ zT := zT_mk 363 (by decide +kernel) (by decide +kernel)
theorem zq_364 : (Cond.static ({ cls := "java/lang/Math", name := "floorMod", desc := "(II)I" } : MethodName)) ∈ zT := zT_mk 364 (by decide +kernel) (by decide +kernel)
theorem zq_365 : (Cond.code ({ cls := "java/lang/Math", name := "floorMod", desc := "(II)I" } : MethodName) prog_11_method_50_code (3 : Nat) (Option.some FieldType.int)) ∈ zT := zT_mk 365 (by decide +kernel) (by decide +kernel)
theorem zq_366 : (Cond.methodLink "CountBook" (124 : Nat) ({ cls := "CountBook", name := "lessGaps", desc := "(III)I" } : MethodName)) ∈ zT := zT_mk 366 (by decide +kernel) (by decide +kernel)
theorem zq_367 : (Cond.static ({ cls := "CountBook", name := "lessGaps", desc := "(III)I" } : MethodName)) ∈ zT := zT_mk 367 (by decide +kernel) (by decide +kernel)
theorem zq_368 : (Cond.code ({ cls := "CountBook", name := "lessGaps", desc := "(III)I" } : MethodName) prog_1_method_49_code (3 : Nat) (Option.some FieldType.int)) ∈ zT := zT_mk 368 (by decide +kernel) (by decide +kernel)
theorem zq_369 : (Cond.methodLink "CountBookLaw" (61 : Nat) ({ cls := "CountBook", name := "gaps", desc := "(IIII)I" } : MethodName)) ∈ zT := zT_mk 369 (by decide +kernel) (by decide +kernel)
theorem zq_370 : (Cond.instanceMethod ({ cls := "CountBook", name := "gaps", desc := "(IIII)I" } : MethodName)) ∈ zT := zT_mk 370 (by decide +kernel) (by decide +kernel)
theorem zq_371 : (Cond.selects "CountBook" ({ cls := "CountBook", name := "gaps", desc := "(IIII)I" } : MethodName) ({ cls := "CountBook", name := "gaps", desc := "(IIII)I" } : MethodName)) ∈ zT := zT_mk 371 (by decide +kernel) (by decide +kernel)
theorem zq_372 : (Cond.code ({ cls := "CountBook", name := "gaps", desc := "(IIII)I" } : MethodName) prog_1_method_13_code (6 : Nat) (Option.some FieldType.int)) ∈ zT := zT_mk 372 (by decide +kernel) (by decide +kernel)
theorem zq_373 : (Cond.methodLink "CountBook" (128 : Nat) ({ cls := "CountBook", name := "gapsFilling", desc := "(II)I" } : MethodName)) ∈ zT := zT_mk 373 (by decide +kernel) (by decide +kernel)
theorem zq_375 : (Cond.instanceMethod ({ cls := "CountBook", name := "gapsFilling", desc := "(II)I" } : MethodName)) ∈ zT := zT_mk 375 (by decide +kernel) (by decide +kernel)
theorem zq_376 : (Cond.code ({ cls := "CountBook", name := "gapsFilling", desc := "(II)I" } : MethodName) prog_1_method_51_code (6 : Nat) (Option.some FieldType.int)) ∈ zT := zT_mk 376 (by decide +kernel) (by decide +kernel)
theorem zq_377 : (Cond.methodLink "CountBook" (236 : Nat) ({ cls := "CountBook", name := "isLookedAt", desc := "(I)Z" } : MethodName)) ∈ zT := zT_mk 377 (by decide +kernel) (by decide +kernel)
theorem zq_379 : (Cond.instanceMethod ({ cls := "CountBook", name := "isLookedAt", desc := "(I)Z" } : MethodName)) ∈ zT := zT_mk 379 (by decide +kernel) (by decide +kernel)
theorem zq_380 : (Cond.code ({ cls := "CountBook", name := "isLookedAt", desc := "(I)Z" } : MethodName) prog_1_method_50_code (2 : Nat) (Option.some FieldType.boolean)) ∈ zT := zT_mk 380 (by decide +kernel) (by decide +kernel)
theorem zq_381 : (Cond.methodLink "CountBookLaw" (66 : Nat) ({ cls := "CountBook", name := "gap", desc := "(IIIII)I" } : MethodName)) ∈ zT := zT_mk 381 (by decide +kernel) (by decide +kernel)
theorem zq_382 : (Cond.instanceMethod ({ cls := "CountBook", name := "gap", desc := "(IIIII)I" } : MethodName)) ∈ zT := zT_mk 382 (by decide +kernel) (by decide +kernel)
theorem zq_383 : (Cond.selects "CountBook" ({ cls := "CountBook", name := "gap", desc := "(IIIII)I" } : MethodName) ({ cls := "CountBook", name := "gap", desc := "(IIIII)I" } : MethodName)) ∈ zT := zT_mk 383 (by decide +kernel) (by decide +kernel)
theorem zq_384 : (Cond.code ({ cls := "CountBook", name := "gap", desc := "(IIIII)I" } : MethodName) prog_1_method_14_code (7 : Nat) (Option.some FieldType.int)) ∈ zT := zT_mk 384 (by decide +kernel) (by decide +kernel)
theorem zq_385 : (Cond.methodLink "CountBook" (131 : Nat) ({ cls := "CountBook", name := "gapFilling", desc := "(III)I" } : MethodName)) ∈ zT := zT_mk 385 (by decide +kernel) (by decide +kernel)
theorem zq_387 : (Cond.instanceMethod ({ cls := "CountBook", name := "gapFilling", desc := "(III)I" } : MethodName)) ∈ zT := zT_mk 387 (by decide +kernel) (by decide +kernel)
theorem zq_388 : (Cond.code ({ cls := "CountBook", name := "gapFilling", desc := "(III)I" } : MethodName) prog_1_method_52_code (7 : Nat) (Option.some FieldType.int)) ∈ zT := zT_mk 388 (by decide +kernel) (by decide +kernel)
theorem zq_389 : (Cond.constant "CountBook" (134 : Nat) (-1000000005 : Int32)) ∈ zT := zT_mk 389 (by decide +kernel) (by decide +kernel)
theorem zq_390 : (Cond.methodLink "CountBookLaw" (70 : Nat) ({ cls := "CountBook", name := "start", desc := "(IIII)I" } : MethodName)) ∈ zT := zT_mk 390 (by decide +kernel) (by decide +kernel)
theorem zq_391 : (Cond.instanceMethod ({ cls := "CountBook", name := "start", desc := "(IIII)I" } : MethodName)) ∈ zT := zT_mk 391 (by decide +kernel) (by decide +kernel)
theorem zq_392 : (Cond.selects "CountBook" ({ cls := "CountBook", name := "start", desc := "(IIII)I" } : MethodName) ({ cls := "CountBook", name := "start", desc := "(IIII)I" } : MethodName)) ∈ zT := zT_mk 392 (by decide +kernel) (by decide +kernel)
theorem zq_393 : (Cond.code ({ cls := "CountBook", name := "start", desc := "(IIII)I" } : MethodName) prog_1_method_15_code (7 : Nat) (Option.some FieldType.int)) ∈ zT := zT_mk 393 (by decide +kernel) (by decide +kernel)
theorem zq_394 : (Cond.methodLink "CountBookLaw" (74 : Nat) ({ cls := "CountBook", name := "doubles", desc := "(IIII)I" } : MethodName)) ∈ zT := zT_mk 394 (by decide +kernel) (by decide +kernel)
theorem zq_395 : (Cond.instanceMethod ({ cls := "CountBook", name := "doubles", desc := "(IIII)I" } : MethodName)) ∈ zT := zT_mk 395 (by decide +kernel) (by decide +kernel)
theorem zq_396 : (Cond.selects "CountBook" ({ cls := "CountBook", name := "doubles", desc := "(IIII)I" } : MethodName) ({ cls := "CountBook", name := "doubles", desc := "(IIII)I" } : MethodName)) ∈ zT := zT_mk 396 (by decide +kernel) (by decide +kernel)
theorem zq_397 : (Cond.code ({ cls := "CountBook", name := "doubles", desc := "(IIII)I" } : MethodName) prog_1_method_16_code (10 : Nat) (Option.some FieldType.int)) ∈ zT := zT_mk 397 (by decide +kernel) (by decide +kernel)
theorem zq_398 : (Cond.methodLink "CountBookLaw" (78 : Nat) ({ cls := "CountBook", name := "least", desc := "(IIII)I" } : MethodName)) ∈ zT := zT_mk 398 (by decide +kernel) (by decide +kernel)
theorem zq_399 : (Cond.instanceMethod ({ cls := "CountBook", name := "least", desc := "(IIII)I" } : MethodName)) ∈ zT := zT_mk 399 (by decide +kernel) (by decide +kernel)
theorem zq_400 : (Cond.selects "CountBook" ({ cls := "CountBook", name := "least", desc := "(IIII)I" } : MethodName) ({ cls := "CountBook", name := "least", desc := "(IIII)I" } : MethodName)) ∈ zT := zT_mk 400 (by decide +kernel) (by decide +kernel)
theorem zq_401 : (Cond.code ({ cls := "CountBook", name := "least", desc := "(IIII)I" } : MethodName) prog_1_method_17_code (12 : Nat) (Option.some FieldType.int)) ∈ zT := zT_mk 401 (by decide +kernel) (by decide +kernel)
theorem zq_402 : (Cond.methodLink "CountBookLaw" (82 : Nat) ({ cls := "CountBook", name := "grid", desc := "(I)I" } : MethodName)) ∈ zT := zT_mk 402 (by decide +kernel) (by decide +kernel)
theorem zq_403 : (Cond.instanceMethod ({ cls := "CountBook", name := "grid", desc := "(I)I" } : MethodName)) ∈ zT := zT_mk 403 (by decide +kernel) (by decide +kernel)
theorem zq_404 : (Cond.selects "CountBook" ({ cls := "CountBook", name := "grid", desc := "(I)I" } : MethodName) ({ cls := "CountBook", name := "grid", desc := "(I)I" } : MethodName)) ∈ zT := zT_mk 404 (by decide +kernel) (by decide +kernel)
theorem zq_405 : (Cond.code ({ cls := "CountBook", name := "grid", desc := "(I)I" } : MethodName) prog_1_method_18_code (3 : Nat) (Option.some FieldType.int)) ∈ zT := zT_mk 405 (by decide +kernel) (by decide +kernel)
theorem zq_406 : (Cond.methodLink "CountBookLaw" (86 : Nat) ({ cls := "CountBook", name := "shape", desc := "(III)I" } : MethodName)) ∈ zT := zT_mk 406 (by decide +kernel) (by decide +kernel)
theorem zq_407 : (Cond.instanceMethod ({ cls := "CountBook", name := "shape", desc := "(III)I" } : MethodName)) ∈ zT := zT_mk 407 (by decide +kernel) (by decide +kernel)
theorem zq_408 : (Cond.selects "CountBook" ({ cls := "CountBook", name := "shape", desc := "(III)I" } : MethodName) ({ cls := "CountBook", name := "shape", desc := "(III)I" } : MethodName)) ∈ zT := zT_mk 408 (by decide +kernel) (by decide +kernel)
theorem zq_409 : (Cond.code ({ cls := "CountBook", name := "shape", desc := "(III)I" } : MethodName) prog_1_method_19_code (9 : Nat) (Option.some FieldType.int)) ∈ zT := zT_mk 409 (by decide +kernel) (by decide +kernel)
theorem zq_410 : (Cond.methodLink "CountBook" (135 : Nat) ({ cls := "CountBook", name := "shapeRefusal", desc := "(III)I" } : MethodName)) ∈ zT := zT_mk 410 (by decide +kernel) (by decide +kernel)
theorem zq_412 : (Cond.instanceMethod ({ cls := "CountBook", name := "shapeRefusal", desc := "(III)I" } : MethodName)) ∈ zT := zT_mk 412 (by decide +kernel) (by decide +kernel)
theorem zq_413 : (Cond.code ({ cls := "CountBook", name := "shapeRefusal", desc := "(III)I" } : MethodName) prog_1_method_53_code (5 : Nat) (Option.some FieldType.int)) ∈ zT := zT_mk 413 (by decide +kernel) (by decide +kernel)
theorem zq_414 : (Cond.methodLink "CountBook" (138 : Nat) ({ cls := "CountBook", name := "shapeRows", desc := "(LCountBook$Phrase;II)I" } : MethodName)) ∈ zT := zT_mk 414 (by decide +kernel) (by decide +kernel)
theorem zq_415 : (Cond.static ({ cls := "CountBook", name := "shapeRows", desc := "(LCountBook$Phrase;II)I" } : MethodName)) ∈ zT := zT_mk 415 (by decide +kernel) (by decide +kernel)
theorem zq_416 : (Cond.code ({ cls := "CountBook", name := "shapeRows", desc := "(LCountBook$Phrase;II)I" } : MethodName) prog_1_method_54_code (4 : Nat) (Option.some FieldType.int)) ∈ zT := zT_mk 416 (by decide +kernel) (by decide +kernel)
theorem zq_417 : (Cond.methodLink "CountBook" (239 : Nat) ({ cls := "CountBook$Phrase", name := "rowsBy", desc := "(I)I" } : MethodName)) ∈ zT := zT_mk 417 (by decide +kernel) (by decide +kernel)
theorem zq_418 : (Cond.instanceMethod ({ cls := "CountBook$Phrase", name := "rowsBy", desc := "(I)I" } : MethodName)) ∈ zT := zT_mk 418 (by decide +kernel) (by decide +kernel)
theorem zq_419 : (Cond.selects "CountBook$Phrase" ({ cls := "CountBook$Phrase", name := "rowsBy", desc := "(I)I" } : MethodName) ({ cls := "CountBook$Phrase", name := "rowsBy", desc := "(I)I" } : MethodName)) ∈ zT := zT_mk 419 (by decide +kernel) (by decide +kernel)
theorem zq_420 : (Cond.code ({ cls := "CountBook$Phrase", name := "rowsBy", desc := "(I)I" } : MethodName) prog_4_method_3_code (2 : Nat) (Option.some FieldType.int)) ∈ zT := zT_mk 420 (by decide +kernel) (by decide +kernel)
theorem zq_421 : (Cond.methodLink "CountBook" (142 : Nat) ({ cls := "CountBook", name := "shapeRowStart", desc := "(LCountBook$Phrase;III)I" } : MethodName)) ∈ zT := zT_mk 421 (by decide +kernel) (by decide +kernel)
theorem zq_422 : (Cond.static ({ cls := "CountBook", name := "shapeRowStart", desc := "(LCountBook$Phrase;III)I" } : MethodName)) ∈ zT := zT_mk 422 (by decide +kernel) (by decide +kernel)
theorem zq_423 : (Cond.code ({ cls := "CountBook", name := "shapeRowStart", desc := "(LCountBook$Phrase;III)I" } : MethodName) prog_1_method_55_code (5 : Nat) (Option.some FieldType.int)) ∈ zT := zT_mk 423 (by decide +kernel) (by decide +kernel)
theorem zq_424 : (Cond.methodLink "CountBookLaw" (90 : Nat) ({ cls := "CountBook", name := "shaped", desc := "(IIII)I" } : MethodName)) ∈ zT := zT_mk 424 (by decide +kernel) (by decide +kernel)
theorem zq_425 : (Cond.instanceMethod ({ cls := "CountBook", name := "shaped", desc := "(IIII)I" } : MethodName)) ∈ zT := zT_mk 425 (by decide +kernel) (by decide +kernel)
theorem zq_426 : (Cond.selects "CountBook" ({ cls := "CountBook", name := "shaped", desc := "(IIII)I" } : MethodName) ({ cls := "CountBook", name := "shaped", desc := "(IIII)I" } : MethodName)) ∈ zT := zT_mk 426 (by decide +kernel) (by decide +kernel)
theorem zq_427 : (Cond.code ({ cls := "CountBook", name := "shaped", desc := "(IIII)I" } : MethodName) prog_1_method_20_code (11 : Nat) (Option.some FieldType.int)) ∈ zT := zT_mk 427 (by decide +kernel) (by decide +kernel)
theorem zq_428 : (Cond.methodLink "CountBookLaw" (94 : Nat) ({ cls := "CountBook", name := "ways", desc := "(II)I" } : MethodName)) ∈ zT := zT_mk 428 (by decide +kernel) (by decide +kernel)
theorem zq_429 : (Cond.instanceMethod ({ cls := "CountBook", name := "ways", desc := "(II)I" } : MethodName)) ∈ zT := zT_mk 429 (by decide +kernel) (by decide +kernel)
theorem zq_430 : (Cond.selects "CountBook" ({ cls := "CountBook", name := "ways", desc := "(II)I" } : MethodName) ({ cls := "CountBook", name := "ways", desc := "(II)I" } : MethodName)) ∈ zT := zT_mk 430 (by decide +kernel) (by decide +kernel)
theorem zq_431 : (Cond.code ({ cls := "CountBook", name := "ways", desc := "(II)I" } : MethodName) prog_1_method_21_code (4 : Nat) (Option.some FieldType.int)) ∈ zT := zT_mk 431 (by decide +kernel) (by decide +kernel)
theorem zq_432 : (Cond.methodLink "CountBook" (146 : Nat) ({ cls := "CountBook", name := "turnRefusal", desc := "(II)I" } : MethodName)) ∈ zT := zT_mk 432 (by decide +kernel) (by decide +kernel)
theorem zq_434 : (Cond.instanceMethod ({ cls := "CountBook", name := "turnRefusal", desc := "(II)I" } : MethodName)) ∈ zT := zT_mk 434 (by decide +kernel) (by decide +kernel)
theorem zq_435 : (Cond.code ({ cls := "CountBook", name := "turnRefusal", desc := "(II)I" } : MethodName) prog_1_method_56_code (4 : Nat) (Option.some FieldType.int)) ∈ zT := zT_mk 435 (by decide +kernel) (by decide +kernel)
theorem zq_436 : (Cond.methodLink "CountBook" (149 : Nat) ({ cls := "CountBook", name := "sheetAt", desc := "(I)LCountBook$Sheet;" } : MethodName)) ∈ zT := zT_mk 436 (by decide +kernel) (by decide +kernel)
theorem zq_438 : (Cond.instanceMethod ({ cls := "CountBook", name := "sheetAt", desc := "(I)LCountBook$Sheet;" } : MethodName)) ∈ zT := zT_mk 438 (by decide +kernel) (by decide +kernel)
theorem zq_439 : (Cond.code ({ cls := "CountBook", name := "sheetAt", desc := "(I)LCountBook$Sheet;" } : MethodName) prog_1_method_37_code (2 : Nat) (Option.some (FieldType.object "CountBook$Sheet"))) ∈ zT := zT_mk 439 (by decide +kernel) (by decide +kernel)
theorem zq_440 : (Cond.methodLink "CountBook" (194 : Nat) ({ cls := "CountBook$Sheet", name := "isMissing", desc := "()Z" } : MethodName)) ∈ zT := zT_mk 440 (by decide +kernel) (by decide +kernel)
theorem zq_441 : (Cond.instanceMethod ({ cls := "CountBook$Sheet", name := "isMissing", desc := "()Z" } : MethodName)) ∈ zT := zT_mk 441 (by decide +kernel) (by decide +kernel)
theorem zq_442 : (Cond.selects "CountBook$Sheet" ({ cls := "CountBook$Sheet", name := "isMissing", desc := "()Z" } : MethodName) ({ cls := "CountBook$Sheet", name := "isMissing", desc := "()Z" } : MethodName)) ∈ zT := zT_mk 442 (by decide +kernel) (by decide +kernel)
theorem zq_443 : (Cond.code ({ cls := "CountBook$Sheet", name := "isMissing", desc := "()Z" } : MethodName) prog_5_method_2_code (1 : Nat) (Option.some FieldType.boolean)) ∈ zT := zT_mk 443 (by decide +kernel) (by decide +kernel)
theorem zq_444 : (Cond.constant "CountBook" (198 : Nat) (-1000000011 : Int32)) ∈ zT := zT_mk 444 (by decide +kernel) (by decide +kernel)
theorem zq_445 : (Cond.methodLink "CountBook" (153 : Nat) ({ cls := "CountBook$Turns", name := "allWays", desc := "(LCountBook$Phrase;LCountBook$Sheet;)I" } : MethodName)) ∈ zT := zT_mk 445 (by decide +kernel) (by decide +kernel)
theorem zq_446 : (Cond.instanceMethod ({ cls := "CountBook$Turns", name := "allWays", desc := "(LCountBook$Phrase;LCountBook$Sheet;)I" } : MethodName)) ∈ zT := zT_mk 446 (by decide +kernel) (by decide +kernel)
theorem zq_447 : (Cond.selects "CountBook$Turns" ({ cls := "CountBook$Turns", name := "allWays", desc := "(LCountBook$Phrase;LCountBook$Sheet;)I" } : MethodName) ({ cls := "CountBook$Turns", name := "allWays", desc := "(LCountBook$Phrase;LCountBook$Sheet;)I" } : MethodName)) ∈ zT := zT_mk 447 (by decide +kernel) (by decide +kernel)
theorem zq_448 : (Cond.code ({ cls := "CountBook$Turns", name := "allWays", desc := "(LCountBook$Phrase;LCountBook$Sheet;)I" } : MethodName) prog_8_method_2_code (7 : Nat) (Option.some FieldType.int)) ∈ zT := zT_mk 448 (by decide +kernel) (by decide +kernel)
theorem zq_449 : (Cond.methodLink "CountBook$Turns" (27 : Nat) ({ cls := "CountBook$Turns", name := "forgetFits", desc := "()V" } : MethodName)) ∈ zT := zT_mk 449 (by decide +kernel) (by decide +kernel)
theorem zq_451 : (Cond.instanceMethod ({ cls := "CountBook$Turns", name := "forgetFits", desc := "()V" } : MethodName)) ∈ zT := zT_mk 451 (by decide +kernel) (by decide +kernel)
theorem zq_452 : (Cond.code ({ cls := "CountBook$Turns", name := "forgetFits", desc := "()V" } : MethodName) prog_8_method_4_code (2 : Nat) (Option.none : Option FieldType)) ∈ zT := zT_mk 452 (by decide +kernel) (by decide +kernel)
theorem zq_453 : (Cond.methodLink "CountBook$Turns" (34 : Nat) ({ cls := "CountBook$Turns", name := "fitFrom", desc := "(LCountBook$Phrase;I)V" } : MethodName)) ∈ zT := zT_mk 453 (by decide +kernel) (by decide +kernel)
theorem zq_455 : (Cond.instanceMethod ({ cls := "CountBook$Turns", name := "fitFrom", desc := "(LCountBook$Phrase;I)V" } : MethodName)) ∈ zT := zT_mk 455 (by decide +kernel) (by decide +kernel)
theorem zq_456 : (Cond.code ({ cls := "CountBook$Turns", name := "fitFrom", desc := "(LCountBook$Phrase;I)V" } : MethodName) prog_8_method_5_code (4 : Nat) (Option.none : Option FieldType)) ∈ zT := zT_mk 456 (by decide +kernel) (by decide +kernel)
theorem zq_457 : (Cond.methodLink "CountBook$Turns" (38 : Nat) ({ cls := "CountBook$Turns", name := "waysFrom", desc := "(LCountBook$Phrase;II)J" } : MethodName)) ∈ zT := zT_mk 457 (by decide +kernel) (by decide +kernel)
theorem zq_459 : (Cond.instanceMethod ({ cls := "CountBook$Turns", name := "waysFrom", desc := "(LCountBook$Phrase;II)J" } : MethodName)) ∈ zT := zT_mk 459 (by decide +kernel) (by decide +kernel)
theorem zq_460 : (Cond.code ({ cls := "CountBook$Turns", name := "waysFrom", desc := "(LCountBook$Phrase;II)J" } : MethodName) prog_8_method_6_code (8 : Nat) (Option.some FieldType.long)) ∈ zT := zT_mk 460 (by decide +kernel) (by decide +kernel)
theorem zq_461 : (Cond.methodLink "CountBook$Turns" (59 : Nat) ({ cls := "java/lang/Math", name := "min", desc := "(II)I" } : MethodName)) ∈ zT := zT_mk 461 (by decide +kernel) (by decide +kernel)
theorem zq_462 : (Cond.constantLong "CountBook$Turns" (42 : Nat) (1000000000 : Int64)) ∈ zT := zT_mk 462 (by decide +kernel) (by decide +kernel)
theorem zq_463 : (Cond.methodLink "CountBook$Turns" (44 : Nat) ({ cls := "java/lang/Math", name := "min", desc := "(JJ)J" } : MethodName)) ∈ zT := zT_mk 463 (by decide +kernel) (by decide +kernel)
theorem zq_464 : (Cond.static ({ cls := "java/lang/Math", name := "min", desc := "(JJ)J" } : MethodName)) ∈ zT := zT_mk 464 (by decide +kernel) (by decide +kernel)
theorem zq_465 : (Cond.code ({ cls := "java/lang/Math", name := "min", desc := "(JJ)J" } : MethodName) prog_11_method_70_code (4 : Nat) (Option.some FieldType.long)) ∈ zT := zT_mk 465 (by decide +kernel) (by decide +kernel)
theorem zq_466 : (Cond.methodLink "CountBookLaw" (98 : Nat) ({ cls := "CountBook", name := "cuts", desc := "(II)I" } : MethodName)) ∈ zT := zT_mk 466 (by decide +kernel) (by decide +kernel)
theorem zq_467 : (Cond.instanceMethod ({ cls := "CountBook", name := "cuts", desc := "(II)I" } : MethodName)) ∈ zT := zT_mk 467 (by decide +kernel) (by decide +kernel)
theorem zq_468 : (Cond.selects "CountBook" ({ cls := "CountBook", name := "cuts", desc := "(II)I" } : MethodName) ({ cls := "CountBook", name := "cuts", desc := "(II)I" } : MethodName)) ∈ zT := zT_mk 468 (by decide +kernel) (by decide +kernel)
theorem zq_469 : (Cond.code ({ cls := "CountBook", name := "cuts", desc := "(II)I" } : MethodName) prog_1_method_22_code (4 : Nat) (Option.some FieldType.int)) ∈ zT := zT_mk 469 (by decide +kernel) (by decide +kernel)
theorem zq_470 : (Cond.methodLink "CountBook" (157 : Nat) ({ cls := "CountBook$Turns", name := "fewestCuts", desc := "(LCountBook$Phrase;LCountBook$Sheet;)I" } : MethodName)) ∈ zT := zT_mk 470 (by decide +kernel) (by decide +kernel)
theorem zq_471 : (Cond.instanceMethod ({ cls := "CountBook$Turns", name := "fewestCuts", desc := "(LCountBook$Phrase;LCountBook$Sheet;)I" } : MethodName)) ∈ zT := zT_mk 471 (by decide +kernel) (by decide +kernel)
theorem zq_472 : (Cond.selects "CountBook$Turns" ({ cls := "CountBook$Turns", name := "fewestCuts", desc := "(LCountBook$Phrase;LCountBook$Sheet;)I" } : MethodName) ({ cls := "CountBook$Turns", name := "fewestCuts", desc := "(LCountBook$Phrase;LCountBook$Sheet;)I" } : MethodName)) ∈ zT := zT_mk 472 (by decide +kernel) (by decide +kernel)
theorem zq_473 : (Cond.code ({ cls := "CountBook$Turns", name := "fewestCuts", desc := "(LCountBook$Phrase;LCountBook$Sheet;)I" } : MethodName) prog_8_method_3_code (6 : Nat) (Option.some FieldType.int)) ∈ zT := zT_mk 473 (by decide +kernel) (by decide +kernel)
theorem zq_474 : (Cond.constant "CountBook$Turns" (50 : Nat) (-1000000005 : Int32)) ∈ zT := zT_mk 474 (by decide +kernel) (by decide +kernel)
theorem zq_475 : (Cond.methodLink "CountBook$Turns" (51 : Nat) ({ cls := "CountBook$Turns", name := "longestCut", desc := "(LCountBook$Phrase;LCountBook$Sheet;I)I" } : MethodName)) ∈ zT := zT_mk 475 (by decide +kernel) (by decide +kernel)
theorem zq_476 : (Cond.static ({ cls := "CountBook$Turns", name := "longestCut", desc := "(LCountBook$Phrase;LCountBook$Sheet;I)I" } : MethodName)) ∈ zT := zT_mk 476 (by decide +kernel) (by decide +kernel)
theorem zq_477 : (Cond.code ({ cls := "CountBook$Turns", name := "longestCut", desc := "(LCountBook$Phrase;LCountBook$Sheet;I)I" } : MethodName) prog_8_method_7_code (7 : Nat) (Option.some FieldType.int)) ∈ zT := zT_mk 477 (by decide +kernel) (by decide +kernel)
theorem zq_478 : (Cond.methodLink "CountBook$Turns" (62 : Nat) ({ cls := "java/lang/Math", name := "max", desc := "(II)I" } : MethodName)) ∈ zT := zT_mk 478 (by decide +kernel) (by decide +kernel)
theorem zq_479 : (Cond.static ({ cls := "java/lang/Math", name := "max", desc := "(II)I" } : MethodName)) ∈ zT := zT_mk 479 (by decide +kernel) (by decide +kernel)
theorem zq_480 : (Cond.code ({ cls := "java/lang/Math", name := "max", desc := "(II)I" } : MethodName) prog_11_method_65_code (2 : Nat) (Option.some FieldType.int)) ∈ zT := zT_mk 480 (by decide +kernel) (by decide +kernel)
theorem zq_481 : (Cond.methodLink "CountBookLaw" (102 : Nat) ({ cls := "CountBook", name := "hand", desc := "(II)I" } : MethodName)) ∈ zT := zT_mk 481 (by decide +kernel) (by decide +kernel)
theorem zq_482 : (Cond.instanceMethod ({ cls := "CountBook", name := "hand", desc := "(II)I" } : MethodName)) ∈ zT := zT_mk 482 (by decide +kernel) (by decide +kernel)
theorem zq_483 : (Cond.selects "CountBook" ({ cls := "CountBook", name := "hand", desc := "(II)I" } : MethodName) ({ cls := "CountBook", name := "hand", desc := "(II)I" } : MethodName)) ∈ zT := zT_mk 483 (by decide +kernel) (by decide +kernel)
theorem zq_484 : (Cond.code ({ cls := "CountBook", name := "hand", desc := "(II)I" } : MethodName) prog_1_method_23_code (3 : Nat) (Option.some FieldType.int)) ∈ zT := zT_mk 484 (by decide +kernel) (by decide +kernel)
theorem zq_485 : (Cond.methodLink "CountBook" (160 : Nat) ({ cls := "CountBook$Hands", name := "change", desc := "(II)I" } : MethodName)) ∈ zT := zT_mk 485 (by decide +kernel) (by decide +kernel)
theorem zq_486 : (Cond.instanceMethod ({ cls := "CountBook$Hands", name := "change", desc := "(II)I" } : MethodName)) ∈ zT := zT_mk 486 (by decide +kernel) (by decide +kernel)
theorem zq_487 : (Cond.selects "CountBook$Hands" ({ cls := "CountBook$Hands", name := "change", desc := "(II)I" } : MethodName) ({ cls := "CountBook$Hands", name := "change", desc := "(II)I" } : MethodName)) ∈ zT := zT_mk 487 (by decide +kernel) (by decide +kernel)
theorem zq_488 : (Cond.code ({ cls := "CountBook$Hands", name := "change", desc := "(II)I" } : MethodName) prog_3_method_2_code (4 : Nat) (Option.some FieldType.int)) ∈ zT := zT_mk 488 (by decide +kernel) (by decide +kernel)
theorem zq_489 : (Cond.constant "CountBook$Hands" (23 : Nat) (-1000000001 : Int32)) ∈ zT := zT_mk 489 (by decide +kernel) (by decide +kernel)
theorem zq_490 : (Cond.methodLink "CountBookLaw" (106 : Nat) ({ cls := "CountBook", name := "strains", desc := "(I)I" } : MethodName)) ∈ zT := zT_mk 490 (by decide +kernel) (by decide +kernel)
theorem zq_491 : (Cond.instanceMethod ({ cls := "CountBook", name := "strains", desc := "(I)I" } : MethodName)) ∈ zT := zT_mk 491 (by decide +kernel) (by decide +kernel)
theorem zq_492 : (Cond.selects "CountBook" ({ cls := "CountBook", name := "strains", desc := "(I)I" } : MethodName) ({ cls := "CountBook", name := "strains", desc := "(I)I" } : MethodName)) ∈ zT := zT_mk 492 (by decide +kernel) (by decide +kernel)
theorem zq_493 : (Cond.code ({ cls := "CountBook", name := "strains", desc := "(I)I" } : MethodName) prog_1_method_24_code (3 : Nat) (Option.some FieldType.int)) ∈ zT := zT_mk 493 (by decide +kernel) (by decide +kernel)
theorem zq_494 : (Cond.methodLink "CountBook" (164 : Nat) ({ cls := "CountBook$Hands", name := "fewestStrains", desc := "(LCountBook$Phrase;)I" } : MethodName)) ∈ zT := zT_mk 494 (by decide +kernel) (by decide +kernel)
theorem zq_495 : (Cond.instanceMethod ({ cls := "CountBook$Hands", name := "fewestStrains", desc := "(LCountBook$Phrase;)I" } : MethodName)) ∈ zT := zT_mk 495 (by decide +kernel) (by decide +kernel)
theorem zq_496 : (Cond.selects "CountBook$Hands" ({ cls := "CountBook$Hands", name := "fewestStrains", desc := "(LCountBook$Phrase;)I" } : MethodName) ({ cls := "CountBook$Hands", name := "fewestStrains", desc := "(LCountBook$Phrase;)I" } : MethodName)) ∈ zT := zT_mk 496 (by decide +kernel) (by decide +kernel)
theorem zq_497 : (Cond.code ({ cls := "CountBook$Hands", name := "fewestStrains", desc := "(LCountBook$Phrase;)I" } : MethodName) prog_3_method_3_code (2 : Nat) (Option.some FieldType.int)) ∈ zT := zT_mk 497 (by decide +kernel) (by decide +kernel)
theorem zq_498 : (Cond.methodLink "CountBook$Hands" (24 : Nat) ({ cls := "CountBook$Hands", name := "weigh", desc := "(LCountBook$Phrase;)V" } : MethodName)) ∈ zT := zT_mk 498 (by decide +kernel) (by decide +kernel)
theorem zq_500 : (Cond.instanceMethod ({ cls := "CountBook$Hands", name := "weigh", desc := "(LCountBook$Phrase;)V" } : MethodName)) ∈ zT := zT_mk 500 (by decide +kernel) (by decide +kernel)
theorem zq_501 : (Cond.code ({ cls := "CountBook$Hands", name := "weigh", desc := "(LCountBook$Phrase;)V" } : MethodName) prog_3_method_5_code (3 : Nat) (Option.none : Option FieldType)) ∈ zT := zT_mk 501 (by decide +kernel) (by decide +kernel)
theorem zq_502 : (Cond.methodLink "CountBook$Hands" (38 : Nat) ({ cls := "CountBook$Hands", name := "usedAt", desc := "(LCountBook$Phrase;II)I" } : MethodName)) ∈ zT := zT_mk 502 (by decide +kernel) (by decide +kernel)
theorem zq_504 : (Cond.instanceMethod ({ cls := "CountBook$Hands", name := "usedAt", desc := "(LCountBook$Phrase;II)I" } : MethodName)) ∈ zT := zT_mk 504 (by decide +kernel) (by decide +kernel)
theorem zq_505 : (Cond.code ({ cls := "CountBook$Hands", name := "usedAt", desc := "(LCountBook$Phrase;II)I" } : MethodName) prog_3_method_7_code (6 : Nat) (Option.some FieldType.int)) ∈ zT := zT_mk 505 (by decide +kernel) (by decide +kernel)
theorem zq_506 : (Cond.methodLink "CountBook$Hands" (49 : Nat) ({ cls := "CountBook$Phrase", name := "at", desc := "(I)I" } : MethodName)) ∈ zT := zT_mk 506 (by decide +kernel) (by decide +kernel)
theorem zq_507 : (Cond.methodLink "CountBook$Hands" (46 : Nat) ({ cls := "CountBook$Hands", name := "fewestBehind", desc := "(LCountBook$Phrase;II)I" } : MethodName)) ∈ zT := zT_mk 507 (by decide +kernel) (by decide +kernel)
theorem zq_509 : (Cond.instanceMethod ({ cls := "CountBook$Hands", name := "fewestBehind", desc := "(LCountBook$Phrase;II)I" } : MethodName)) ∈ zT := zT_mk 509 (by decide +kernel) (by decide +kernel)
theorem zq_510 : (Cond.code ({ cls := "CountBook$Hands", name := "fewestBehind", desc := "(LCountBook$Phrase;II)I" } : MethodName) prog_3_method_6_code (7 : Nat) (Option.some FieldType.int)) ∈ zT := zT_mk 510 (by decide +kernel) (by decide +kernel)
theorem zq_511 : (Cond.methodLink "CountBook$Hands" (42 : Nat) ({ cls := "CountBook$Hands", name := "strainOf", desc := "(II)I" } : MethodName)) ∈ zT := zT_mk 511 (by decide +kernel) (by decide +kernel)
theorem zq_512 : (Cond.static ({ cls := "CountBook$Hands", name := "strainOf", desc := "(II)I" } : MethodName)) ∈ zT := zT_mk 512 (by decide +kernel) (by decide +kernel)
theorem zq_513 : (Cond.code ({ cls := "CountBook$Hands", name := "strainOf", desc := "(II)I" } : MethodName) prog_3_method_8_code (2 : Nat) (Option.some FieldType.int)) ∈ zT := zT_mk 513 (by decide +kernel) (by decide +kernel)
theorem zq_514 : (Cond.methodLink "CountBook$Hands" (28 : Nat) ({ cls := "java/lang/Math", name := "min", desc := "(II)I" } : MethodName)) ∈ zT := zT_mk 514 (by decide +kernel) (by decide +kernel)
theorem zq_515 : (Cond.methodLink "CountBookLaw" (110 : Nat) ({ cls := "CountBook", name := "plays", desc := "(II)I" } : MethodName)) ∈ zT := zT_mk 515 (by decide +kernel) (by decide +kernel)
theorem zq_516 : (Cond.instanceMethod ({ cls := "CountBook", name := "plays", desc := "(II)I" } : MethodName)) ∈ zT := zT_mk 516 (by decide +kernel) (by decide +kernel)
theorem zq_517 : (Cond.selects "CountBook" ({ cls := "CountBook", name := "plays", desc := "(II)I" } : MethodName) ({ cls := "CountBook", name := "plays", desc := "(II)I" } : MethodName)) ∈ zT := zT_mk 517 (by decide +kernel) (by decide +kernel)
theorem zq_518 : (Cond.code ({ cls := "CountBook", name := "plays", desc := "(II)I" } : MethodName) prog_1_method_25_code (4 : Nat) (Option.some FieldType.int)) ∈ zT := zT_mk 518 (by decide +kernel) (by decide +kernel)
theorem zq_519 : (Cond.methodLink "CountBook" (167 : Nat) ({ cls := "CountBook$Hands", name := "handAt", desc := "(LCountBook$Phrase;I)I" } : MethodName)) ∈ zT := zT_mk 519 (by decide +kernel) (by decide +kernel)
theorem zq_520 : (Cond.instanceMethod ({ cls := "CountBook$Hands", name := "handAt", desc := "(LCountBook$Phrase;I)I" } : MethodName)) ∈ zT := zT_mk 520 (by decide +kernel) (by decide +kernel)
theorem zq_521 : (Cond.selects "CountBook$Hands" ({ cls := "CountBook$Hands", name := "handAt", desc := "(LCountBook$Phrase;I)I" } : MethodName) ({ cls := "CountBook$Hands", name := "handAt", desc := "(LCountBook$Phrase;I)I" } : MethodName)) ∈ zT := zT_mk 521 (by decide +kernel) (by decide +kernel)
theorem zq_522 : (Cond.code ({ cls := "CountBook$Hands", name := "handAt", desc := "(LCountBook$Phrase;I)I" } : MethodName) prog_3_method_4_code (9 : Nat) (Option.some FieldType.int)) ∈ zT := zT_mk 522 (by decide +kernel) (by decide +kernel)
theorem zq_523 : (Cond.constant "CountBook$Hands" (45 : Nat) (-1000000005 : Int32)) ∈ zT := zT_mk 523 (by decide +kernel) (by decide +kernel)
theorem zq_524 : (Cond.methodLink "CountBookLaw" (114 : Nat) ({ cls := "CountBook", name := "join", desc := "(IIII)I" } : MethodName)) ∈ zT := zT_mk 524 (by decide +kernel) (by decide +kernel)
theorem zq_525 : (Cond.instanceMethod ({ cls := "CountBook", name := "join", desc := "(IIII)I" } : MethodName)) ∈ zT := zT_mk 525 (by decide +kernel) (by decide +kernel)
theorem zq_526 : (Cond.selects "CountBook" ({ cls := "CountBook", name := "join", desc := "(IIII)I" } : MethodName) ({ cls := "CountBook", name := "join", desc := "(IIII)I" } : MethodName)) ∈ zT := zT_mk 526 (by decide +kernel) (by decide +kernel)
theorem zq_527 : (Cond.code ({ cls := "CountBook", name := "join", desc := "(IIII)I" } : MethodName) prog_1_method_26_code (7 : Nat) (Option.some FieldType.int)) ∈ zT := zT_mk 527 (by decide +kernel) (by decide +kernel)
theorem zq_528 : (Cond.methodLink "CountBook" (174 : Nat) ({ cls := "CountBook$Solo", name := "take", desc := "(II)I" } : MethodName)) ∈ zT := zT_mk 528 (by decide +kernel) (by decide +kernel)
theorem zq_529 : (Cond.instanceMethod ({ cls := "CountBook$Solo", name := "take", desc := "(II)I" } : MethodName)) ∈ zT := zT_mk 529 (by decide +kernel) (by decide +kernel)
theorem zq_530 : (Cond.selects "CountBook$Solo" ({ cls := "CountBook$Solo", name := "take", desc := "(II)I" } : MethodName) ({ cls := "CountBook$Solo", name := "take", desc := "(II)I" } : MethodName)) ∈ zT := zT_mk 530 (by decide +kernel) (by decide +kernel)
theorem zq_531 : (Cond.code ({ cls := "CountBook$Solo", name := "take", desc := "(II)I" } : MethodName) prog_6_method_2_code (3 : Nat) (Option.some FieldType.int)) ∈ zT := zT_mk 531 (by decide +kernel) (by decide +kernel)
theorem zq_532 : (Cond.constant "CountBook$Solo" (22 : Nat) (-1000000003 : Int32)) ∈ zT := zT_mk 532 (by decide +kernel) (by decide +kernel)
theorem zq_533 : (Cond.methodLink "CountBookLaw" (118 : Nat) ({ cls := "CountBook", name := "drop", desc := "()I" } : MethodName)) ∈ zT := zT_mk 533 (by decide +kernel) (by decide +kernel)
theorem zq_534 : (Cond.instanceMethod ({ cls := "CountBook", name := "drop", desc := "()I" } : MethodName)) ∈ zT := zT_mk 534 (by decide +kernel) (by decide +kernel)
theorem zq_535 : (Cond.selects "CountBook" ({ cls := "CountBook", name := "drop", desc := "()I" } : MethodName) ({ cls := "CountBook", name := "drop", desc := "()I" } : MethodName)) ∈ zT := zT_mk 535 (by decide +kernel) (by decide +kernel)
theorem zq_536 : (Cond.code ({ cls := "CountBook", name := "drop", desc := "()I" } : MethodName) prog_1_method_27_code (2 : Nat) (Option.some FieldType.int)) ∈ zT := zT_mk 536 (by decide +kernel) (by decide +kernel)
theorem zq_537 : (Cond.methodLink "CountBookLaw" (123 : Nat) ({ cls := "CountBook", name := "account", desc := "(II)I" } : MethodName)) ∈ zT := zT_mk 537 (by decide +kernel) (by decide +kernel)
theorem zq_538 : (Cond.instanceMethod ({ cls := "CountBook", name := "account", desc := "(II)I" } : MethodName)) ∈ zT := zT_mk 538 (by decide +kernel) (by decide +kernel)
theorem zq_539 : (Cond.selects "CountBook" ({ cls := "CountBook", name := "account", desc := "(II)I" } : MethodName) ({ cls := "CountBook", name := "account", desc := "(II)I" } : MethodName)) ∈ zT := zT_mk 539 (by decide +kernel) (by decide +kernel)
theorem zq_540 : (Cond.code ({ cls := "CountBook", name := "account", desc := "(II)I" } : MethodName) prog_1_method_28_code (5 : Nat) (Option.some FieldType.int)) ∈ zT := zT_mk 540 (by decide +kernel) (by decide +kernel)
theorem zq_541 : (Cond.methodLink "CountBook" (176 : Nat) ({ cls := "CountBook$Solo", name := "endOf", desc := "(I)I" } : MethodName)) ∈ zT := zT_mk 541 (by decide +kernel) (by decide +kernel)
theorem zq_542 : (Cond.instanceMethod ({ cls := "CountBook$Solo", name := "endOf", desc := "(I)I" } : MethodName)) ∈ zT := zT_mk 542 (by decide +kernel) (by decide +kernel)
theorem zq_543 : (Cond.selects "CountBook$Solo" ({ cls := "CountBook$Solo", name := "endOf", desc := "(I)I" } : MethodName) ({ cls := "CountBook$Solo", name := "endOf", desc := "(I)I" } : MethodName)) ∈ zT := zT_mk 543 (by decide +kernel) (by decide +kernel)
theorem zq_544 : (Cond.code ({ cls := "CountBook$Solo", name := "endOf", desc := "(I)I" } : MethodName) prog_6_method_3_code (4 : Nat) (Option.some FieldType.int)) ∈ zT := zT_mk 544 (by decide +kernel) (by decide +kernel)
theorem zq_545 : (Cond.methodLink "CountBookLaw" (127 : Nat) ({ cls := "CountBook", name := "landings", desc := "(I)I" } : MethodName)) ∈ zT := zT_mk 545 (by decide +kernel) (by decide +kernel)
theorem zq_546 : (Cond.instanceMethod ({ cls := "CountBook", name := "landings", desc := "(I)I" } : MethodName)) ∈ zT := zT_mk 546 (by decide +kernel) (by decide +kernel)
theorem zq_547 : (Cond.selects "CountBook" ({ cls := "CountBook", name := "landings", desc := "(I)I" } : MethodName) ({ cls := "CountBook", name := "landings", desc := "(I)I" } : MethodName)) ∈ zT := zT_mk 547 (by decide +kernel) (by decide +kernel)
theorem zq_548 : (Cond.code ({ cls := "CountBook", name := "landings", desc := "(I)I" } : MethodName) prog_1_method_29_code (4 : Nat) (Option.some FieldType.int)) ∈ zT := zT_mk 548 (by decide +kernel) (by decide +kernel)
theorem zq_549 : (Cond.methodLink "CountBook" (179 : Nat) ({ cls := "CountBook$Solo", name := "endsAtOne", desc := "(I)I" } : MethodName)) ∈ zT := zT_mk 549 (by decide +kernel) (by decide +kernel)
theorem zq_550 : (Cond.instanceMethod ({ cls := "CountBook$Solo", name := "endsAtOne", desc := "(I)I" } : MethodName)) ∈ zT := zT_mk 550 (by decide +kernel) (by decide +kernel)
theorem zq_551 : (Cond.selects "CountBook$Solo" ({ cls := "CountBook$Solo", name := "endsAtOne", desc := "(I)I" } : MethodName) ({ cls := "CountBook$Solo", name := "endsAtOne", desc := "(I)I" } : MethodName)) ∈ zT := zT_mk 551 (by decide +kernel) (by decide +kernel)
theorem zq_552 : (Cond.code ({ cls := "CountBook$Solo", name := "endsAtOne", desc := "(I)I" } : MethodName) prog_6_method_5_code (5 : Nat) (Option.some FieldType.int)) ∈ zT := zT_mk 552 (by decide +kernel) (by decide +kernel)
theorem zq_553 : (Cond.methodLink "CountBookLaw" (131 : Nat) ({ cls := "CountBook", name := "home", desc := "(I)I" } : MethodName)) ∈ zT := zT_mk 553 (by decide +kernel) (by decide +kernel)
theorem zq_554 : (Cond.instanceMethod ({ cls := "CountBook", name := "home", desc := "(I)I" } : MethodName)) ∈ zT := zT_mk 554 (by decide +kernel) (by decide +kernel)
theorem zq_555 : (Cond.selects "CountBook" ({ cls := "CountBook", name := "home", desc := "(I)I" } : MethodName) ({ cls := "CountBook", name := "home", desc := "(I)I" } : MethodName)) ∈ zT := zT_mk 555 (by decide +kernel) (by decide +kernel)
theorem zq_556 : (Cond.code ({ cls := "CountBook", name := "home", desc := "(I)I" } : MethodName) prog_1_method_30_code (4 : Nat) (Option.some FieldType.int)) ∈ zT := zT_mk 556 (by decide +kernel) (by decide +kernel)
theorem zq_557 : (Cond.methodLink "CountBook" (182 : Nat) ({ cls := "CountBook$Solo", name := "endWithoutLastGap", desc := "()I" } : MethodName)) ∈ zT := zT_mk 557 (by decide +kernel) (by decide +kernel)
theorem zq_558 : (Cond.instanceMethod ({ cls := "CountBook$Solo", name := "endWithoutLastGap", desc := "()I" } : MethodName)) ∈ zT := zT_mk 558 (by decide +kernel) (by decide +kernel)
theorem zq_559 : (Cond.selects "CountBook$Solo" ({ cls := "CountBook$Solo", name := "endWithoutLastGap", desc := "()I" } : MethodName) ({ cls := "CountBook$Solo", name := "endWithoutLastGap", desc := "()I" } : MethodName)) ∈ zT := zT_mk 559 (by decide +kernel) (by decide +kernel)
theorem zq_560 : (Cond.code ({ cls := "CountBook$Solo", name := "endWithoutLastGap", desc := "()I" } : MethodName) prog_6_method_4_code (1 : Nat) (Option.some FieldType.int)) ∈ zT := zT_mk 560 (by decide +kernel) (by decide +kernel)
theorem zq_561 : (Cond.methodLink "CountBook$Solo" (23 : Nat) ({ cls := "CountBook$Solo", name := "endOf", desc := "(I)I" } : MethodName)) ∈ zT := zT_mk 561 (by decide +kernel) (by decide +kernel)
theorem zq_562 : (Cond.methodLink "CountBookLaw" (135 : Nat) ({ cls := "CountBook", name := "sheet", desc := "(II)I" } : MethodName)) ∈ zT := zT_mk 562 (by decide +kernel) (by decide +kernel)
theorem zq_563 : (Cond.instanceMethod ({ cls := "CountBook", name := "sheet", desc := "(II)I" } : MethodName)) ∈ zT := zT_mk 563 (by decide +kernel) (by decide +kernel)
theorem zq_564 : (Cond.selects "CountBook" ({ cls := "CountBook", name := "sheet", desc := "(II)I" } : MethodName) ({ cls := "CountBook", name := "sheet", desc := "(II)I" } : MethodName)) ∈ zT := zT_mk 564 (by decide +kernel) (by decide +kernel)
theorem zq_565 : (Cond.code ({ cls := "CountBook", name := "sheet", desc := "(II)I" } : MethodName) prog_1_method_31_code (4 : Nat) (Option.some FieldType.int)) ∈ zT := zT_mk 565 (by decide +kernel) (by decide +kernel)
theorem zq_566 : (Cond.constant "CountBook" (190 : Nat) (-1000000014 : Int32)) ∈ zT := zT_mk 566 (by decide +kernel) (by decide +kernel)
theorem zq_567 : (Cond.methodLink "CountBook" (191 : Nat) ({ cls := "CountBook$Sheet", name := "layOut", desc := "(I)V" } : MethodName)) ∈ zT := zT_mk 567 (by decide +kernel) (by decide +kernel)
theorem zq_568 : (Cond.instanceMethod ({ cls := "CountBook$Sheet", name := "layOut", desc := "(I)V" } : MethodName)) ∈ zT := zT_mk 568 (by decide +kernel) (by decide +kernel)
theorem zq_569 : (Cond.selects "CountBook$Sheet" ({ cls := "CountBook$Sheet", name := "layOut", desc := "(I)V" } : MethodName) ({ cls := "CountBook$Sheet", name := "layOut", desc := "(I)V" } : MethodName)) ∈ zT := zT_mk 569 (by decide +kernel) (by decide +kernel)
theorem zq_570 : (Cond.code ({ cls := "CountBook$Sheet", name := "layOut", desc := "(I)V" } : MethodName) prog_5_method_3_code (3 : Nat) (Option.none : Option FieldType)) ∈ zT := zT_mk 570 (by decide +kernel) (by decide +kernel)
theorem zq_571 : (Cond.methodLink "CountBookLaw" (139 : Nat) ({ cls := "CountBook", name := "mark", desc := "(III)I" } : MethodName)) ∈ zT := zT_mk 571 (by decide +kernel) (by decide +kernel)
theorem zq_572 : (Cond.instanceMethod ({ cls := "CountBook", name := "mark", desc := "(III)I" } : MethodName)) ∈ zT := zT_mk 572 (by decide +kernel) (by decide +kernel)
theorem zq_573 : (Cond.selects "CountBook" ({ cls := "CountBook", name := "mark", desc := "(III)I" } : MethodName) ({ cls := "CountBook", name := "mark", desc := "(III)I" } : MethodName)) ∈ zT := zT_mk 573 (by decide +kernel) (by decide +kernel)
theorem zq_574 : (Cond.code ({ cls := "CountBook", name := "mark", desc := "(III)I" } : MethodName) prog_1_method_32_code (5 : Nat) (Option.some FieldType.int)) ∈ zT := zT_mk 574 (by decide +kernel) (by decide +kernel)
theorem zq_575 : (Cond.methodLink "CountBook" (199 : Nat) ({ cls := "CountBook$Sheet", name := "change", desc := "(IB)I" } : MethodName)) ∈ zT := zT_mk 575 (by decide +kernel) (by decide +kernel)
theorem zq_576 : (Cond.instanceMethod ({ cls := "CountBook$Sheet", name := "change", desc := "(IB)I" } : MethodName)) ∈ zT := zT_mk 576 (by decide +kernel) (by decide +kernel)
theorem zq_577 : (Cond.selects "CountBook$Sheet" ({ cls := "CountBook$Sheet", name := "change", desc := "(IB)I" } : MethodName) ({ cls := "CountBook$Sheet", name := "change", desc := "(IB)I" } : MethodName)) ∈ zT := zT_mk 577 (by decide +kernel) (by decide +kernel)
theorem zq_578 : (Cond.code ({ cls := "CountBook$Sheet", name := "change", desc := "(IB)I" } : MethodName) prog_5_method_4_code (4 : Nat) (Option.some FieldType.int)) ∈ zT := zT_mk 578 (by decide +kernel) (by decide +kernel)
theorem zq_579 : (Cond.constant "CountBook$Sheet" (19 : Nat) (-1000000013 : Int32)) ∈ zT := zT_mk 579 (by decide +kernel) (by decide +kernel)
theorem zq_580 : (Cond.methodLink "CountBookLaw" (143 : Nat) ({ cls := "CountBook", name := "copy", desc := "(IIIII)I" } : MethodName)) ∈ zT := zT_mk 580 (by decide +kernel) (by decide +kernel)
theorem zq_581 : (Cond.instanceMethod ({ cls := "CountBook", name := "copy", desc := "(IIIII)I" } : MethodName)) ∈ zT := zT_mk 581 (by decide +kernel) (by decide +kernel)
theorem zq_582 : (Cond.selects "CountBook" ({ cls := "CountBook", name := "copy", desc := "(IIIII)I" } : MethodName) ({ cls := "CountBook", name := "copy", desc := "(IIIII)I" } : MethodName)) ∈ zT := zT_mk 582 (by decide +kernel) (by decide +kernel)
theorem zq_583 : (Cond.code ({ cls := "CountBook", name := "copy", desc := "(IIIII)I" } : MethodName) prog_1_method_33_code (9 : Nat) (Option.some FieldType.int)) ∈ zT := zT_mk 583 (by decide +kernel) (by decide +kernel)
theorem zq_584 : (Cond.methodLink "CountBook" (202 : Nat) ({ cls := "CountBook", name := "lieWithin", desc := "(III)Z" } : MethodName)) ∈ zT := zT_mk 584 (by decide +kernel) (by decide +kernel)
theorem zq_585 : (Cond.static ({ cls := "CountBook", name := "lieWithin", desc := "(III)Z" } : MethodName)) ∈ zT := zT_mk 585 (by decide +kernel) (by decide +kernel)
theorem zq_586 : (Cond.code ({ cls := "CountBook", name := "lieWithin", desc := "(III)Z" } : MethodName) prog_1_method_43_code (3 : Nat) (Option.some FieldType.boolean)) ∈ zT := zT_mk 586 (by decide +kernel) (by decide +kernel)
theorem zq_587 : (Cond.constant "CountBook" (209 : Nat) (-1000000013 : Int32)) ∈ zT := zT_mk 587 (by decide +kernel) (by decide +kernel)
theorem zq_588 : (Cond.methodLink "CountBook" (215 : Nat) ({ cls := "java/lang/System", name := "arraycopy", desc := "(Ljava/lang/Object;ILjava/lang/Object;II)V" } : MethodName)) ∈ zT := zT_mk 588 (by decide +kernel) (by decide +kernel)
theorem zq_589 : (Cond.methodLink "CountBookLaw" (147 : Nat) ({ cls := "CountBook", name := "count", desc := "(I)I" } : MethodName)) ∈ zT := zT_mk 589 (by decide +kernel) (by decide +kernel)
theorem zq_590 : (Cond.instanceMethod ({ cls := "CountBook", name := "count", desc := "(I)I" } : MethodName)) ∈ zT := zT_mk 590 (by decide +kernel) (by decide +kernel)
theorem zq_591 : (Cond.selects "CountBook" ({ cls := "CountBook", name := "count", desc := "(I)I" } : MethodName) ({ cls := "CountBook", name := "count", desc := "(I)I" } : MethodName)) ∈ zT := zT_mk 591 (by decide +kernel) (by decide +kernel)
theorem zq_592 : (Cond.code ({ cls := "CountBook", name := "count", desc := "(I)I" } : MethodName) prog_1_method_34_code (2 : Nat) (Option.some FieldType.int)) ∈ zT := zT_mk 592 (by decide +kernel) (by decide +kernel)
theorem zq_593 : (Cond.methodLink "CountBook" (221 : Nat) ({ cls := "CountBook", name := "limbsInAll", desc := "()I" } : MethodName)) ∈ zT := zT_mk 593 (by decide +kernel) (by decide +kernel)
theorem zq_595 : (Cond.instanceMethod ({ cls := "CountBook", name := "limbsInAll", desc := "()I" } : MethodName)) ∈ zT := zT_mk 595 (by decide +kernel) (by decide +kernel)
theorem zq_596 : (Cond.code ({ cls := "CountBook", name := "limbsInAll", desc := "()I" } : MethodName) prog_1_method_39_code (3 : Nat) (Option.some FieldType.int)) ∈ zT := zT_mk 596 (by decide +kernel) (by decide +kernel)
theorem zq_597 : (Cond.methodLink "CountBook" (224 : Nat) ({ cls := "CountBook", name := "phrasesNotEmpty", desc := "()I" } : MethodName)) ∈ zT := zT_mk 597 (by decide +kernel) (by decide +kernel)
theorem zq_599 : (Cond.instanceMethod ({ cls := "CountBook", name := "phrasesNotEmpty", desc := "()I" } : MethodName)) ∈ zT := zT_mk 599 (by decide +kernel) (by decide +kernel)
theorem zq_600 : (Cond.code ({ cls := "CountBook", name := "phrasesNotEmpty", desc := "()I" } : MethodName) prog_1_method_40_code (3 : Nat) (Option.some FieldType.int)) ∈ zT := zT_mk 600 (by decide +kernel) (by decide +kernel)
theorem zq_601 : (Cond.methodLink "CountBook" (227 : Nat) ({ cls := "CountBook", name := "syllablesInAll", desc := "()I" } : MethodName)) ∈ zT := zT_mk 601 (by decide +kernel) (by decide +kernel)
theorem zq_603 : (Cond.instanceMethod ({ cls := "CountBook", name := "syllablesInAll", desc := "()I" } : MethodName)) ∈ zT := zT_mk 603 (by decide +kernel) (by decide +kernel)
theorem zq_604 : (Cond.code ({ cls := "CountBook", name := "syllablesInAll", desc := "()I" } : MethodName) prog_1_method_41_code (3 : Nat) (Option.some FieldType.int)) ∈ zT := zT_mk 604 (by decide +kernel) (by decide +kernel)
theorem zq_605 : (Cond.methodLink "CountBook" (230 : Nat) ({ cls := "CountBook", name := "sheetsNotMissing", desc := "()I" } : MethodName)) ∈ zT := zT_mk 605 (by decide +kernel) (by decide +kernel)
theorem zq_607 : (Cond.instanceMethod ({ cls := "CountBook", name := "sheetsNotMissing", desc := "()I" } : MethodName)) ∈ zT := zT_mk 607 (by decide +kernel) (by decide +kernel)
theorem zq_608 : (Cond.code ({ cls := "CountBook", name := "sheetsNotMissing", desc := "()I" } : MethodName) prog_1_method_42_code (3 : Nat) (Option.some FieldType.int)) ∈ zT := zT_mk 608 (by decide +kernel) (by decide +kernel)
theorem zq_609 : (Cond.classLink "CountBookLaw" (10 : Nat) "CountBookModel") ∈ zT := zT_mk 609 (by decide +kernel) (by decide +kernel)
theorem zq_610 : (Cond.instantiable "CountBookModel" (21 : Nat)) ∈ zT := zT_mk 610 (by decide +kernel) (by decide +kernel)
theorem zq_611 : (Cond.methodLink "CountBookLaw" (12 : Nat) ({ cls := "CountBookModel", name := "<init>", desc := "()V" } : MethodName)) ∈ zT := zT_mk 611 (by decide +kernel) (by decide +kernel)
theorem zq_612 : (Cond.instanceMethod ({ cls := "CountBookModel", name := "<init>", desc := "()V" } : MethodName)) ∈ zT := zT_mk 612 (by decide +kernel) (by decide +kernel)
theorem zq_613 : (Cond.code ({ cls := "CountBookModel", name := "<init>", desc := "()V" } : MethodName) prog_10_method_1_code (2 : Nat) (Option.none : Option FieldType)) ∈ zT := zT_mk 613 (by decide +kernel) (by decide +kernel)
theorem zq_614 : (Cond.methodLink "CountBookModel" (1 : Nat) ({ cls := "java/lang/Object", name := "<init>", desc := "()V" } : MethodName)) ∈ zT := zT_mk 614 (by decide +kernel) (by decide +kernel)
theorem zq_615 : (Cond.fieldLink "CountBookModel" (7 : Nat) "CountBookModel" "limbs" "[I") ∈ zT := zT_mk 615 (by decide +kernel) (by decide +kernel)
theorem zq_616 : (Cond.fieldLink "CountBookModel" (13 : Nat) "CountBookModel" "kind" "[I") ∈ zT := zT_mk 616 (by decide +kernel) (by decide +kernel)
theorem zq_617 : (Cond.fieldLink "CountBookModel" (16 : Nat) "CountBookModel" "halves" "[I") ∈ zT := zT_mk 617 (by decide +kernel) (by decide +kernel)
theorem zq_618 : (Cond.fieldLink "CountBookModel" (19 : Nat) "CountBookModel" "sizes" "[I") ∈ zT := zT_mk 618 (by decide +kernel) (by decide +kernel)
theorem zq_619 : (Cond.fieldLink "CountBookModel" (22 : Nat) "CountBookModel" "said" "[I") ∈ zT := zT_mk 619 (by decide +kernel) (by decide +kernel)
theorem zq_620 : (Cond.fieldLink "CountBookModel" (25 : Nat) "CountBookModel" "hands" "[I") ∈ zT := zT_mk 620 (by decide +kernel) (by decide +kernel)
theorem zq_621 : (Cond.fieldLink "CountBookModel" (28 : Nat) "CountBookModel" "grid" "I") ∈ zT := zT_mk 621 (by decide +kernel) (by decide +kernel)
theorem zq_622 : (Cond.fieldLink "CountBookModel" (175 : Nat) "CountBookModel" "parts" "I") ∈ zT := zT_mk 622 (by decide +kernel) (by decide +kernel)
theorem zq_623 : (Cond.fieldLink "CountBookModel" (32 : Nat) "CountBookModel" "pTicks" "[I") ∈ zT := zT_mk 623 (by decide +kernel) (by decide +kernel)
theorem zq_624 : (Cond.fieldLink "CountBookModel" (35 : Nat) "CountBookModel" "pGap" "[I") ∈ zT := zT_mk 624 (by decide +kernel) (by decide +kernel)
theorem zq_625 : (Cond.fieldLink "CountBookModel" (38 : Nat) "CountBookModel" "tape" "[I") ∈ zT := zT_mk 625 (by decide +kernel) (by decide +kernel)
theorem zq_626 : (Cond.fieldLink "CountBookModel" (78 : Nat) "CountBookModel" "taped" "I") ∈ zT := zT_mk 626 (by decide +kernel) (by decide +kernel)
theorem zq_627 : (Cond.fieldLink "CountBookModel" (41 : Nat) "CountBookModel" "places" "[I") ∈ zT := zT_mk 627 (by decide +kernel) (by decide +kernel)
theorem zq_628 : (Cond.fieldLink "CountBookModel" (44 : Nat) "CountBookModel" "numbers" "[I") ∈ zT := zT_mk 628 (by decide +kernel) (by decide +kernel)
theorem zq_629 : (Cond.fieldLink "CountBookModel" (85 : Nat) "CountBookModel" "read" "I") ∈ zT := zT_mk 629 (by decide +kernel) (by decide +kernel)
theorem zq_630 : (Cond.fieldLink "CountBookModel" (96 : Nat) "CountBookModel" "isWrong" "Z") ∈ zT := zT_mk 630 (by decide +kernel) (by decide +kernel)
theorem zq_631 : (Cond.fieldLink "CountBookModel" (47 : Nat) "CountBookModel" "written" "[I") ∈ zT := zT_mk 631 (by decide +kernel) (by decide +kernel)
theorem zq_632 : (Cond.fieldLink "CountBookModel" (50 : Nat) "CountBookModel" "wayTo" "[J") ∈ zT := zT_mk 632 (by decide +kernel) (by decide +kernel)
theorem zq_633 : (Cond.fieldLink "CountBookModel" (54 : Nat) "CountBookModel" "cutsTo" "[I") ∈ zT := zT_mk 633 (by decide +kernel) (by decide +kernel)
theorem zq_634 : (Cond.fieldLink "CountBookModel" (57 : Nat) "CountBookModel" "fewest" "[I") ∈ zT := zT_mk 634 (by decide +kernel) (by decide +kernel)
theorem zq_635 : (Cond.fieldLink "CountBookModel" (60 : Nat) "CountBookModel" "played" "[I") ∈ zT := zT_mk 635 (by decide +kernel) (by decide +kernel)
theorem zq_636 : (Cond.laysFinal "CountBookModel" "CountBookModel" "limbs" "[I") ∈ zT := zT_mk 636 (by decide +kernel) (by decide +kernel)
theorem zq_638 : (Cond.laysFinal "CountBookModel" "CountBookModel" "kind" "[I") ∈ zT := zT_mk 638 (by decide +kernel) (by decide +kernel)
theorem zq_640 : (Cond.laysFinal "CountBookModel" "CountBookModel" "halves" "[I") ∈ zT := zT_mk 640 (by decide +kernel) (by decide +kernel)
theorem zq_642 : (Cond.laysFinal "CountBookModel" "CountBookModel" "sizes" "[I") ∈ zT := zT_mk 642 (by decide +kernel) (by decide +kernel)
theorem zq_644 : (Cond.laysFinal "CountBookModel" "CountBookModel" "said" "[I") ∈ zT := zT_mk 644 (by decide +kernel) (by decide +kernel)
theorem zq_646 : (Cond.laysFinal "CountBookModel" "CountBookModel" "hands" "[I") ∈ zT := zT_mk 646 (by decide +kernel) (by decide +kernel)
theorem zq_648 : (Cond.lays "CountBookModel" "CountBookModel" "grid" "I") ∈ zT := zT_mk 648 (by decide +kernel) (by decide +kernel)
theorem zq_650 : (Cond.lays "CountBookModel" "CountBookModel" "parts" "I") ∈ zT := zT_mk 650 (by decide +kernel) (by decide +kernel)
theorem zq_652 : (Cond.laysFinal "CountBookModel" "CountBookModel" "pTicks" "[I") ∈ zT := zT_mk 652 (by decide +kernel) (by decide +kernel)
theorem zq_654 : (Cond.laysFinal "CountBookModel" "CountBookModel" "pGap" "[I") ∈ zT := zT_mk 654 (by decide +kernel) (by decide +kernel)
theorem zq_656 : (Cond.laysFinal "CountBookModel" "CountBookModel" "tape" "[I") ∈ zT := zT_mk 656 (by decide +kernel) (by decide +kernel)
theorem zq_658 : (Cond.lays "CountBookModel" "CountBookModel" "taped" "I") ∈ zT := zT_mk 658 (by decide +kernel) (by decide +kernel)
theorem zq_660 : (Cond.laysFinal "CountBookModel" "CountBookModel" "places" "[I") ∈ zT := zT_mk 660 (by decide +kernel) (by decide +kernel)
theorem zq_662 : (Cond.laysFinal "CountBookModel" "CountBookModel" "numbers" "[I") ∈ zT := zT_mk 662 (by decide +kernel) (by decide +kernel)
theorem zq_664 : (Cond.lays "CountBookModel" "CountBookModel" "read" "I") ∈ zT := zT_mk 664 (by decide +kernel) (by decide +kernel)
theorem zq_666 : (Cond.lays "CountBookModel" "CountBookModel" "isWrong" "Z") ∈ zT := zT_mk 666 (by decide +kernel) (by decide +kernel)
theorem zq_668 : (Cond.laysFinal "CountBookModel" "CountBookModel" "written" "[I") ∈ zT := zT_mk 668 (by decide +kernel) (by decide +kernel)
theorem zq_670 : (Cond.laysFinal "CountBookModel" "CountBookModel" "wayTo" "[J") ∈ zT := zT_mk 670 (by decide +kernel) (by decide +kernel)
theorem zq_672 : (Cond.laysFinal "CountBookModel" "CountBookModel" "cutsTo" "[I") ∈ zT := zT_mk 672 (by decide +kernel) (by decide +kernel)
theorem zq_674 : (Cond.laysFinal "CountBookModel" "CountBookModel" "fewest" "[I") ∈ zT := zT_mk 674 (by decide +kernel) (by decide +kernel)
theorem zq_676 : (Cond.laysFinal "CountBookModel" "CountBookModel" "played" "[I") ∈ zT := zT_mk 676 (by decide +kernel) (by decide +kernel)
theorem zq_679 : (Cond.methodLink "CountBookLaw" (17 : Nat) ({ cls := "CountBookModel", name := "limb", desc := "(III)I" } : MethodName)) ∈ zT := zT_mk 679 (by decide +kernel) (by decide +kernel)
theorem zq_680 : (Cond.instanceMethod ({ cls := "CountBookModel", name := "limb", desc := "(III)I" } : MethodName)) ∈ zT := zT_mk 680 (by decide +kernel) (by decide +kernel)
theorem zq_681 : (Cond.selects "CountBookModel" ({ cls := "CountBookModel", name := "limb", desc := "(III)I" } : MethodName) ({ cls := "CountBookModel", name := "limb", desc := "(III)I" } : MethodName)) ∈ zT := zT_mk 681 (by decide +kernel) (by decide +kernel)
theorem zq_682 : (Cond.code ({ cls := "CountBookModel", name := "limb", desc := "(III)I" } : MethodName) prog_10_method_6_code (5 : Nat) (Option.some FieldType.int)) ∈ zT := zT_mk 682 (by decide +kernel) (by decide +kernel)
theorem zq_683 : (Cond.methodLink "CountBookModel" (67 : Nat) ({ cls := "CountBookModel", name := "isCycle", desc := "(I)Z" } : MethodName)) ∈ zT := zT_mk 683 (by decide +kernel) (by decide +kernel)
theorem zq_684 : (Cond.static ({ cls := "CountBookModel", name := "isCycle", desc := "(I)Z" } : MethodName)) ∈ zT := zT_mk 684 (by decide +kernel) (by decide +kernel)
theorem zq_685 : (Cond.code ({ cls := "CountBookModel", name := "isCycle", desc := "(I)Z" } : MethodName) prog_10_method_3_code (1 : Nat) (Option.some FieldType.boolean)) ∈ zT := zT_mk 685 (by decide +kernel) (by decide +kernel)
theorem zq_686 : (Cond.methodLink "CountBookModel" (63 : Nat) ({ cls := "CountBookModel", name := "isIn", desc := "(III)Z" } : MethodName)) ∈ zT := zT_mk 686 (by decide +kernel) (by decide +kernel)
theorem zq_687 : (Cond.static ({ cls := "CountBookModel", name := "isIn", desc := "(III)Z" } : MethodName)) ∈ zT := zT_mk 687 (by decide +kernel) (by decide +kernel)
theorem zq_688 : (Cond.code ({ cls := "CountBookModel", name := "isIn", desc := "(III)Z" } : MethodName) prog_10_method_2_code (3 : Nat) (Option.some FieldType.boolean)) ∈ zT := zT_mk 688 (by decide +kernel) (by decide +kernel)
theorem zq_689 : (Cond.constant "CountBookModel" (71 : Nat) (-1000000001 : Int32)) ∈ zT := zT_mk 689 (by decide +kernel) (by decide +kernel)
theorem zq_690 : (Cond.constant "CountBookModel" (72 : Nat) (-1000000003 : Int32)) ∈ zT := zT_mk 690 (by decide +kernel) (by decide +kernel)
theorem zq_691 : (Cond.methodLink "CountBookLaw" (21 : Nat) ({ cls := "CountBookModel", name := "isOf", desc := "(III)I" } : MethodName)) ∈ zT := zT_mk 691 (by decide +kernel) (by decide +kernel)
theorem zq_692 : (Cond.instanceMethod ({ cls := "CountBookModel", name := "isOf", desc := "(III)I" } : MethodName)) ∈ zT := zT_mk 692 (by decide +kernel) (by decide +kernel)
theorem zq_693 : (Cond.selects "CountBookModel" ({ cls := "CountBookModel", name := "isOf", desc := "(III)I" } : MethodName) ({ cls := "CountBookModel", name := "isOf", desc := "(III)I" } : MethodName)) ∈ zT := zT_mk 693 (by decide +kernel) (by decide +kernel)
theorem zq_694 : (Cond.code ({ cls := "CountBookModel", name := "isOf", desc := "(III)I" } : MethodName) prog_10_method_7_code (5 : Nat) (Option.some FieldType.int)) ∈ zT := zT_mk 694 (by decide +kernel) (by decide +kernel)
theorem zq_695 : (Cond.methodLink "CountBookLaw" (26 : Nat) ({ cls := "CountBookModel", name := "clear", desc := "(I)I" } : MethodName)) ∈ zT := zT_mk 695 (by decide +kernel) (by decide +kernel)
theorem zq_696 : (Cond.instanceMethod ({ cls := "CountBookModel", name := "clear", desc := "(I)I" } : MethodName)) ∈ zT := zT_mk 696 (by decide +kernel) (by decide +kernel)
theorem zq_697 : (Cond.selects "CountBookModel" ({ cls := "CountBookModel", name := "clear", desc := "(I)I" } : MethodName) ({ cls := "CountBookModel", name := "clear", desc := "(I)I" } : MethodName)) ∈ zT := zT_mk 697 (by decide +kernel) (by decide +kernel)
theorem zq_698 : (Cond.code ({ cls := "CountBookModel", name := "clear", desc := "(I)I" } : MethodName) prog_10_method_8_code (3 : Nat) (Option.some FieldType.int)) ∈ zT := zT_mk 698 (by decide +kernel) (by decide +kernel)
theorem zq_699 : (Cond.methodLink "CountBookLaw" (30 : Nat) ({ cls := "CountBookModel", name := "length", desc := "(I)I" } : MethodName)) ∈ zT := zT_mk 699 (by decide +kernel) (by decide +kernel)
theorem zq_700 : (Cond.instanceMethod ({ cls := "CountBookModel", name := "length", desc := "(I)I" } : MethodName)) ∈ zT := zT_mk 700 (by decide +kernel) (by decide +kernel)
theorem zq_701 : (Cond.selects "CountBookModel" ({ cls := "CountBookModel", name := "length", desc := "(I)I" } : MethodName) ({ cls := "CountBookModel", name := "length", desc := "(I)I" } : MethodName)) ∈ zT := zT_mk 701 (by decide +kernel) (by decide +kernel)
theorem zq_702 : (Cond.code ({ cls := "CountBookModel", name := "length", desc := "(I)I" } : MethodName) prog_10_method_10_code (2 : Nat) (Option.some FieldType.int)) ∈ zT := zT_mk 702 (by decide +kernel) (by decide +kernel)
theorem zq_703 : (Cond.methodLink "CountBookModel" (73 : Nat) ({ cls := "CountBookModel", name := "lengthOf", desc := "(I)I" } : MethodName)) ∈ zT := zT_mk 703 (by decide +kernel) (by decide +kernel)
theorem zq_705 : (Cond.instanceMethod ({ cls := "CountBookModel", name := "lengthOf", desc := "(I)I" } : MethodName)) ∈ zT := zT_mk 705 (by decide +kernel) (by decide +kernel)
theorem zq_706 : (Cond.code ({ cls := "CountBookModel", name := "lengthOf", desc := "(I)I" } : MethodName) prog_10_method_9_code (4 : Nat) (Option.some FieldType.int)) ∈ zT := zT_mk 706 (by decide +kernel) (by decide +kernel)
theorem zq_707 : (Cond.methodLink "CountBookLaw" (35 : Nat) ({ cls := "CountBookModel", name := "handling", desc := "(II)I" } : MethodName)) ∈ zT := zT_mk 707 (by decide +kernel) (by decide +kernel)
theorem zq_708 : (Cond.instanceMethod ({ cls := "CountBookModel", name := "handling", desc := "(II)I" } : MethodName)) ∈ zT := zT_mk 708 (by decide +kernel) (by decide +kernel)
theorem zq_709 : (Cond.selects "CountBookModel" ({ cls := "CountBookModel", name := "handling", desc := "(II)I" } : MethodName) ({ cls := "CountBookModel", name := "handling", desc := "(II)I" } : MethodName)) ∈ zT := zT_mk 709 (by decide +kernel) (by decide +kernel)
theorem zq_710 : (Cond.code ({ cls := "CountBookModel", name := "handling", desc := "(II)I" } : MethodName) prog_10_method_11_code (7 : Nat) (Option.some FieldType.int)) ∈ zT := zT_mk 710 (by decide +kernel) (by decide +kernel)
theorem zq_711 : (Cond.constant "CountBookModel" (77 : Nat) (-1000000002 : Int32)) ∈ zT := zT_mk 711 (by decide +kernel) (by decide +kernel)
theorem zq_712 : (Cond.methodLink "CountBookLaw" (39 : Nat) ({ cls := "CountBookModel", name := "feed", desc := "(III)I" } : MethodName)) ∈ zT := zT_mk 712 (by decide +kernel) (by decide +kernel)
theorem zq_713 : (Cond.instanceMethod ({ cls := "CountBookModel", name := "feed", desc := "(III)I" } : MethodName)) ∈ zT := zT_mk 713 (by decide +kernel) (by decide +kernel)
theorem zq_714 : (Cond.selects "CountBookModel" ({ cls := "CountBookModel", name := "feed", desc := "(III)I" } : MethodName) ({ cls := "CountBookModel", name := "feed", desc := "(III)I" } : MethodName)) ∈ zT := zT_mk 714 (by decide +kernel) (by decide +kernel)
theorem zq_715 : (Cond.code ({ cls := "CountBookModel", name := "feed", desc := "(III)I" } : MethodName) prog_10_method_13_code (4 : Nat) (Option.some FieldType.int)) ∈ zT := zT_mk 715 (by decide +kernel) (by decide +kernel)
theorem zq_716 : (Cond.methodLink "CountBookModel" (81 : Nat) ({ cls := "CountBookModel", name := "four", desc := "(I)V" } : MethodName)) ∈ zT := zT_mk 716 (by decide +kernel) (by decide +kernel)
theorem zq_718 : (Cond.instanceMethod ({ cls := "CountBookModel", name := "four", desc := "(I)V" } : MethodName)) ∈ zT := zT_mk 718 (by decide +kernel) (by decide +kernel)
theorem zq_719 : (Cond.code ({ cls := "CountBookModel", name := "four", desc := "(I)V" } : MethodName) prog_10_method_12_code (3 : Nat) (Option.none : Option FieldType)) ∈ zT := zT_mk 719 (by decide +kernel) (by decide +kernel)
theorem zq_720 : (Cond.methodLink "CountBookLaw" (43 : Nat) ({ cls := "CountBookModel", name := "trim", desc := "(I)I" } : MethodName)) ∈ zT := zT_mk 720 (by decide +kernel) (by decide +kernel)
theorem zq_721 : (Cond.instanceMethod ({ cls := "CountBookModel", name := "trim", desc := "(I)I" } : MethodName)) ∈ zT := zT_mk 721 (by decide +kernel) (by decide +kernel)
theorem zq_722 : (Cond.selects "CountBookModel" ({ cls := "CountBookModel", name := "trim", desc := "(I)I" } : MethodName) ({ cls := "CountBookModel", name := "trim", desc := "(I)I" } : MethodName)) ∈ zT := zT_mk 722 (by decide +kernel) (by decide +kernel)
theorem zq_723 : (Cond.code ({ cls := "CountBookModel", name := "trim", desc := "(I)I" } : MethodName) prog_10_method_14_code (2 : Nat) (Option.some FieldType.int)) ∈ zT := zT_mk 723 (by decide +kernel) (by decide +kernel)
theorem zq_724 : (Cond.methodLink "CountBookLaw" (47 : Nat) ({ cls := "CountBookModel", name := "phrase", desc := "(I)I" } : MethodName)) ∈ zT := zT_mk 724 (by decide +kernel) (by decide +kernel)
theorem zq_725 : (Cond.instanceMethod ({ cls := "CountBookModel", name := "phrase", desc := "(I)I" } : MethodName)) ∈ zT := zT_mk 725 (by decide +kernel) (by decide +kernel)
theorem zq_726 : (Cond.selects "CountBookModel" ({ cls := "CountBookModel", name := "phrase", desc := "(I)I" } : MethodName) ({ cls := "CountBookModel", name := "phrase", desc := "(I)I" } : MethodName)) ∈ zT := zT_mk 726 (by decide +kernel) (by decide +kernel)
theorem zq_727 : (Cond.code ({ cls := "CountBookModel", name := "phrase", desc := "(I)I" } : MethodName) prog_10_method_18_code (6 : Nat) (Option.some FieldType.int)) ∈ zT := zT_mk 727 (by decide +kernel) (by decide +kernel)
theorem zq_728 : (Cond.methodLink "CountBookModel" (92 : Nat) ({ cls := "CountBookModel", name := "row", desc := "(II)I" } : MethodName)) ∈ zT := zT_mk 728 (by decide +kernel) (by decide +kernel)
theorem zq_730 : (Cond.instanceMethod ({ cls := "CountBookModel", name := "row", desc := "(II)I" } : MethodName)) ∈ zT := zT_mk 730 (by decide +kernel) (by decide +kernel)
theorem zq_731 : (Cond.code ({ cls := "CountBookModel", name := "row", desc := "(II)I" } : MethodName) prog_10_method_17_code (6 : Nat) (Option.some FieldType.int)) ∈ zT := zT_mk 731 (by decide +kernel) (by decide +kernel)
theorem zq_732 : (Cond.methodLink "CountBookModel" (100 : Nat) ({ cls := "CountBookModel", name := "item", desc := "(II)I" } : MethodName)) ∈ zT := zT_mk 732 (by decide +kernel) (by decide +kernel)
theorem zq_734 : (Cond.instanceMethod ({ cls := "CountBookModel", name := "item", desc := "(II)I" } : MethodName)) ∈ zT := zT_mk 734 (by decide +kernel) (by decide +kernel)
theorem zq_735 : (Cond.code ({ cls := "CountBookModel", name := "item", desc := "(II)I" } : MethodName) prog_10_method_16_code (6 : Nat) (Option.some FieldType.int)) ∈ zT := zT_mk 735 (by decide +kernel) (by decide +kernel)
theorem zq_736 : (Cond.methodLink "CountBookModel" (88 : Nat) ({ cls := "CountBookModel", name := "here", desc := "()I" } : MethodName)) ∈ zT := zT_mk 736 (by decide +kernel) (by decide +kernel)
theorem zq_738 : (Cond.instanceMethod ({ cls := "CountBookModel", name := "here", desc := "()I" } : MethodName)) ∈ zT := zT_mk 738 (by decide +kernel) (by decide +kernel)
theorem zq_739 : (Cond.code ({ cls := "CountBookModel", name := "here", desc := "()I" } : MethodName) prog_10_method_15_code (1 : Nat) (Option.some FieldType.int)) ∈ zT := zT_mk 739 (by decide +kernel) (by decide +kernel)
theorem zq_740 : (Cond.methodLink "CountBookModel" (103 : Nat) ({ cls := "CountBookModel", name := "isPhrase", desc := "(I)Z" } : MethodName)) ∈ zT := zT_mk 740 (by decide +kernel) (by decide +kernel)
theorem zq_741 : (Cond.static ({ cls := "CountBookModel", name := "isPhrase", desc := "(I)Z" } : MethodName)) ∈ zT := zT_mk 741 (by decide +kernel) (by decide +kernel)
theorem zq_742 : (Cond.code ({ cls := "CountBookModel", name := "isPhrase", desc := "(I)Z" } : MethodName) prog_10_method_4_code (1 : Nat) (Option.some FieldType.boolean)) ∈ zT := zT_mk 742 (by decide +kernel) (by decide +kernel)
theorem zq_743 : (Cond.methodLink "CountBookLaw" (51 : Nat) ({ cls := "CountBookModel", name := "syllable", desc := "(II)I" } : MethodName)) ∈ zT := zT_mk 743 (by decide +kernel) (by decide +kernel)
theorem zq_744 : (Cond.instanceMethod ({ cls := "CountBookModel", name := "syllable", desc := "(II)I" } : MethodName)) ∈ zT := zT_mk 744 (by decide +kernel) (by decide +kernel)
theorem zq_745 : (Cond.selects "CountBookModel" ({ cls := "CountBookModel", name := "syllable", desc := "(II)I" } : MethodName) ({ cls := "CountBookModel", name := "syllable", desc := "(II)I" } : MethodName)) ∈ zT := zT_mk 745 (by decide +kernel) (by decide +kernel)
theorem zq_746 : (Cond.code ({ cls := "CountBookModel", name := "syllable", desc := "(II)I" } : MethodName) prog_10_method_19_code (3 : Nat) (Option.some FieldType.int)) ∈ zT := zT_mk 746 (by decide +kernel) (by decide +kernel)
theorem zq_747 : (Cond.constant "CountBookModel" (106 : Nat) (-1000000005 : Int32)) ∈ zT := zT_mk 747 (by decide +kernel) (by decide +kernel)
theorem zq_748 : (Cond.methodLink "CountBookLaw" (55 : Nat) ({ cls := "CountBookModel", name := "ticks", desc := "(II)I" } : MethodName)) ∈ zT := zT_mk 748 (by decide +kernel) (by decide +kernel)
theorem zq_749 : (Cond.instanceMethod ({ cls := "CountBookModel", name := "ticks", desc := "(II)I" } : MethodName)) ∈ zT := zT_mk 749 (by decide +kernel) (by decide +kernel)
theorem zq_750 : (Cond.selects "CountBookModel" ({ cls := "CountBookModel", name := "ticks", desc := "(II)I" } : MethodName) ({ cls := "CountBookModel", name := "ticks", desc := "(II)I" } : MethodName)) ∈ zT := zT_mk 750 (by decide +kernel) (by decide +kernel)
theorem zq_751 : (Cond.code ({ cls := "CountBookModel", name := "ticks", desc := "(II)I" } : MethodName) prog_10_method_21_code (3 : Nat) (Option.some FieldType.int)) ∈ zT := zT_mk 751 (by decide +kernel) (by decide +kernel)
theorem zq_752 : (Cond.methodLink "CountBookModel" (107 : Nat) ({ cls := "CountBookModel", name := "isSpeed", desc := "(I)Z" } : MethodName)) ∈ zT := zT_mk 752 (by decide +kernel) (by decide +kernel)
theorem zq_753 : (Cond.static ({ cls := "CountBookModel", name := "isSpeed", desc := "(I)Z" } : MethodName)) ∈ zT := zT_mk 753 (by decide +kernel) (by decide +kernel)
theorem zq_754 : (Cond.code ({ cls := "CountBookModel", name := "isSpeed", desc := "(I)Z" } : MethodName) prog_10_method_5_code (1 : Nat) (Option.some FieldType.boolean)) ∈ zT := zT_mk 754 (by decide +kernel) (by decide +kernel)
theorem zq_755 : (Cond.methodLink "CountBookModel" (110 : Nat) ({ cls := "CountBookModel", name := "ticksOf", desc := "(II)I" } : MethodName)) ∈ zT := zT_mk 755 (by decide +kernel) (by decide +kernel)
theorem zq_757 : (Cond.instanceMethod ({ cls := "CountBookModel", name := "ticksOf", desc := "(II)I" } : MethodName)) ∈ zT := zT_mk 757 (by decide +kernel) (by decide +kernel)
theorem zq_758 : (Cond.code ({ cls := "CountBookModel", name := "ticksOf", desc := "(II)I" } : MethodName) prog_10_method_20_code (3 : Nat) (Option.some FieldType.int)) ∈ zT := zT_mk 758 (by decide +kernel) (by decide +kernel)
theorem zq_759 : (Cond.methodLink "CountBookLaw" (60 : Nat) ({ cls := "CountBookModel", name := "lands", desc := "(IIIII)I" } : MethodName)) ∈ zT := zT_mk 759 (by decide +kernel) (by decide +kernel)
theorem zq_760 : (Cond.instanceMethod ({ cls := "CountBookModel", name := "lands", desc := "(IIIII)I" } : MethodName)) ∈ zT := zT_mk 760 (by decide +kernel) (by decide +kernel)
theorem zq_761 : (Cond.selects "CountBookModel" ({ cls := "CountBookModel", name := "lands", desc := "(IIIII)I" } : MethodName) ({ cls := "CountBookModel", name := "lands", desc := "(IIIII)I" } : MethodName)) ∈ zT := zT_mk 761 (by decide +kernel) (by decide +kernel)
theorem zq_762 : (Cond.code ({ cls := "CountBookModel", name := "lands", desc := "(IIIII)I" } : MethodName) prog_10_method_26_code (7 : Nat) (Option.some FieldType.int)) ∈ zT := zT_mk 762 (by decide +kernel) (by decide +kernel)
theorem zq_763 : (Cond.methodLink "CountBookModel" (121 : Nat) ({ cls := "CountBookModel", name := "refused", desc := "(III)I" } : MethodName)) ∈ zT := zT_mk 763 (by decide +kernel) (by decide +kernel)
theorem zq_765 : (Cond.instanceMethod ({ cls := "CountBookModel", name := "refused", desc := "(III)I" } : MethodName)) ∈ zT := zT_mk 765 (by decide +kernel) (by decide +kernel)
theorem zq_766 : (Cond.code ({ cls := "CountBookModel", name := "refused", desc := "(III)I" } : MethodName) prog_10_method_22_code (4 : Nat) (Option.some FieldType.int)) ∈ zT := zT_mk 766 (by decide +kernel) (by decide +kernel)
theorem zq_767 : (Cond.methodLink "CountBookModel" (125 : Nat) ({ cls := "CountBookModel", name := "till", desc := "(III)J" } : MethodName)) ∈ zT := zT_mk 767 (by decide +kernel) (by decide +kernel)
theorem zq_769 : (Cond.instanceMethod ({ cls := "CountBookModel", name := "till", desc := "(III)J" } : MethodName)) ∈ zT := zT_mk 769 (by decide +kernel) (by decide +kernel)
theorem zq_770 : (Cond.code ({ cls := "CountBookModel", name := "till", desc := "(III)J" } : MethodName) prog_10_method_23_code (6 : Nat) (Option.some FieldType.long)) ∈ zT := zT_mk 770 (by decide +kernel) (by decide +kernel)
theorem zq_771 : (Cond.constantLong "CountBookModel" (113 : Nat) (3 : Int64)) ∈ zT := zT_mk 771 (by decide +kernel) (by decide +kernel)
theorem zq_772 : (Cond.constantLong "CountBookModel" (115 : Nat) (2 : Int64)) ∈ zT := zT_mk 772 (by decide +kernel) (by decide +kernel)
theorem zq_773 : (Cond.methodLink "CountBookModel" (129 : Nat) ({ cls := "CountBookModel", name := "doesLand", desc := "(IJ)Z" } : MethodName)) ∈ zT := zT_mk 773 (by decide +kernel) (by decide +kernel)
theorem zq_775 : (Cond.instanceMethod ({ cls := "CountBookModel", name := "doesLand", desc := "(IJ)Z" } : MethodName)) ∈ zT := zT_mk 775 (by decide +kernel) (by decide +kernel)
theorem zq_776 : (Cond.code ({ cls := "CountBookModel", name := "doesLand", desc := "(IJ)Z" } : MethodName) prog_10_method_25_code (4 : Nat) (Option.some FieldType.boolean)) ∈ zT := zT_mk 776 (by decide +kernel) (by decide +kernel)
theorem zq_777 : (Cond.methodLink "CountBookLaw" (65 : Nat) ({ cls := "CountBookModel", name := "gaps", desc := "(IIII)I" } : MethodName)) ∈ zT := zT_mk 777 (by decide +kernel) (by decide +kernel)
theorem zq_778 : (Cond.instanceMethod ({ cls := "CountBookModel", name := "gaps", desc := "(IIII)I" } : MethodName)) ∈ zT := zT_mk 778 (by decide +kernel) (by decide +kernel)
theorem zq_779 : (Cond.selects "CountBookModel" ({ cls := "CountBookModel", name := "gaps", desc := "(IIII)I" } : MethodName) ({ cls := "CountBookModel", name := "gaps", desc := "(IIII)I" } : MethodName)) ∈ zT := zT_mk 779 (by decide +kernel) (by decide +kernel)
theorem zq_780 : (Cond.code ({ cls := "CountBookModel", name := "gaps", desc := "(IIII)I" } : MethodName) prog_10_method_27_code (8 : Nat) (Option.some FieldType.int)) ∈ zT := zT_mk 780 (by decide +kernel) (by decide +kernel)
theorem zq_781 : (Cond.methodLink "CountBookLaw" (69 : Nat) ({ cls := "CountBookModel", name := "gap", desc := "(IIIII)I" } : MethodName)) ∈ zT := zT_mk 781 (by decide +kernel) (by decide +kernel)
theorem zq_782 : (Cond.instanceMethod ({ cls := "CountBookModel", name := "gap", desc := "(IIIII)I" } : MethodName)) ∈ zT := zT_mk 782 (by decide +kernel) (by decide +kernel)
theorem zq_783 : (Cond.selects "CountBookModel" ({ cls := "CountBookModel", name := "gap", desc := "(IIIII)I" } : MethodName) ({ cls := "CountBookModel", name := "gap", desc := "(IIIII)I" } : MethodName)) ∈ zT := zT_mk 783 (by decide +kernel) (by decide +kernel)
theorem zq_784 : (Cond.code ({ cls := "CountBookModel", name := "gap", desc := "(IIIII)I" } : MethodName) prog_10_method_28_code (9 : Nat) (Option.some FieldType.int)) ∈ zT := zT_mk 784 (by decide +kernel) (by decide +kernel)
theorem zq_785 : (Cond.methodLink "CountBookLaw" (73 : Nat) ({ cls := "CountBookModel", name := "start", desc := "(IIII)I" } : MethodName)) ∈ zT := zT_mk 785 (by decide +kernel) (by decide +kernel)
theorem zq_786 : (Cond.instanceMethod ({ cls := "CountBookModel", name := "start", desc := "(IIII)I" } : MethodName)) ∈ zT := zT_mk 786 (by decide +kernel) (by decide +kernel)
theorem zq_787 : (Cond.selects "CountBookModel" ({ cls := "CountBookModel", name := "start", desc := "(IIII)I" } : MethodName) ({ cls := "CountBookModel", name := "start", desc := "(IIII)I" } : MethodName)) ∈ zT := zT_mk 787 (by decide +kernel) (by decide +kernel)
theorem zq_788 : (Cond.code ({ cls := "CountBookModel", name := "start", desc := "(IIII)I" } : MethodName) prog_10_method_29_code (7 : Nat) (Option.some FieldType.int)) ∈ zT := zT_mk 788 (by decide +kernel) (by decide +kernel)
theorem zq_789 : (Cond.methodLink "CountBookLaw" (77 : Nat) ({ cls := "CountBookModel", name := "doubles", desc := "(IIII)I" } : MethodName)) ∈ zT := zT_mk 789 (by decide +kernel) (by decide +kernel)
theorem zq_790 : (Cond.instanceMethod ({ cls := "CountBookModel", name := "doubles", desc := "(IIII)I" } : MethodName)) ∈ zT := zT_mk 790 (by decide +kernel) (by decide +kernel)
theorem zq_791 : (Cond.selects "CountBookModel" ({ cls := "CountBookModel", name := "doubles", desc := "(IIII)I" } : MethodName) ({ cls := "CountBookModel", name := "doubles", desc := "(IIII)I" } : MethodName)) ∈ zT := zT_mk 791 (by decide +kernel) (by decide +kernel)
theorem zq_792 : (Cond.code ({ cls := "CountBookModel", name := "doubles", desc := "(IIII)I" } : MethodName) prog_10_method_30_code (9 : Nat) (Option.some FieldType.int)) ∈ zT := zT_mk 792 (by decide +kernel) (by decide +kernel)
theorem zq_793 : (Cond.methodLink "CountBookModel" (133 : Nat) ({ cls := "CountBookModel", name := "tillDouble", desc := "(IIII)J" } : MethodName)) ∈ zT := zT_mk 793 (by decide +kernel) (by decide +kernel)
theorem zq_795 : (Cond.instanceMethod ({ cls := "CountBookModel", name := "tillDouble", desc := "(IIII)J" } : MethodName)) ∈ zT := zT_mk 795 (by decide +kernel) (by decide +kernel)
theorem zq_796 : (Cond.code ({ cls := "CountBookModel", name := "tillDouble", desc := "(IIII)J" } : MethodName) prog_10_method_24_code (7 : Nat) (Option.some FieldType.long)) ∈ zT := zT_mk 796 (by decide +kernel) (by decide +kernel)
theorem zq_797 : (Cond.constantLong "CountBookModel" (117 : Nat) (9 : Int64)) ∈ zT := zT_mk 797 (by decide +kernel) (by decide +kernel)
theorem zq_798 : (Cond.constantLong "CountBookModel" (119 : Nat) (6 : Int64)) ∈ zT := zT_mk 798 (by decide +kernel) (by decide +kernel)
theorem zq_799 : (Cond.methodLink "CountBookLaw" (81 : Nat) ({ cls := "CountBookModel", name := "least", desc := "(IIII)I" } : MethodName)) ∈ zT := zT_mk 799 (by decide +kernel) (by decide +kernel)
theorem zq_800 : (Cond.instanceMethod ({ cls := "CountBookModel", name := "least", desc := "(IIII)I" } : MethodName)) ∈ zT := zT_mk 800 (by decide +kernel) (by decide +kernel)
theorem zq_801 : (Cond.selects "CountBookModel" ({ cls := "CountBookModel", name := "least", desc := "(IIII)I" } : MethodName) ({ cls := "CountBookModel", name := "least", desc := "(IIII)I" } : MethodName)) ∈ zT := zT_mk 801 (by decide +kernel) (by decide +kernel)
theorem zq_802 : (Cond.code ({ cls := "CountBookModel", name := "least", desc := "(IIII)I" } : MethodName) prog_10_method_31_code (10 : Nat) (Option.some FieldType.int)) ∈ zT := zT_mk 802 (by decide +kernel) (by decide +kernel)
theorem zq_803 : (Cond.methodLink "CountBookLaw" (85 : Nat) ({ cls := "CountBookModel", name := "grid", desc := "(I)I" } : MethodName)) ∈ zT := zT_mk 803 (by decide +kernel) (by decide +kernel)
theorem zq_804 : (Cond.instanceMethod ({ cls := "CountBookModel", name := "grid", desc := "(I)I" } : MethodName)) ∈ zT := zT_mk 804 (by decide +kernel) (by decide +kernel)
theorem zq_805 : (Cond.selects "CountBookModel" ({ cls := "CountBookModel", name := "grid", desc := "(I)I" } : MethodName) ({ cls := "CountBookModel", name := "grid", desc := "(I)I" } : MethodName)) ∈ zT := zT_mk 805 (by decide +kernel) (by decide +kernel)
theorem zq_806 : (Cond.code ({ cls := "CountBookModel", name := "grid", desc := "(I)I" } : MethodName) prog_10_method_32_code (3 : Nat) (Option.some FieldType.int)) ∈ zT := zT_mk 806 (by decide +kernel) (by decide +kernel)
theorem zq_807 : (Cond.methodLink "CountBookLaw" (89 : Nat) ({ cls := "CountBookModel", name := "shape", desc := "(III)I" } : MethodName)) ∈ zT := zT_mk 807 (by decide +kernel) (by decide +kernel)
theorem zq_808 : (Cond.instanceMethod ({ cls := "CountBookModel", name := "shape", desc := "(III)I" } : MethodName)) ∈ zT := zT_mk 808 (by decide +kernel) (by decide +kernel)
theorem zq_809 : (Cond.selects "CountBookModel" ({ cls := "CountBookModel", name := "shape", desc := "(III)I" } : MethodName) ({ cls := "CountBookModel", name := "shape", desc := "(III)I" } : MethodName)) ∈ zT := zT_mk 809 (by decide +kernel) (by decide +kernel)
theorem zq_810 : (Cond.code ({ cls := "CountBookModel", name := "shape", desc := "(III)I" } : MethodName) prog_10_method_37_code (6 : Nat) (Option.some FieldType.int)) ∈ zT := zT_mk 810 (by decide +kernel) (by decide +kernel)
theorem zq_811 : (Cond.methodLink "CountBookModel" (140 : Nat) ({ cls := "CountBookModel", name := "isShape", desc := "(III)Z" } : MethodName)) ∈ zT := zT_mk 811 (by decide +kernel) (by decide +kernel)
theorem zq_812 : (Cond.static ({ cls := "CountBookModel", name := "isShape", desc := "(III)Z" } : MethodName)) ∈ zT := zT_mk 812 (by decide +kernel) (by decide +kernel)
theorem zq_813 : (Cond.code ({ cls := "CountBookModel", name := "isShape", desc := "(III)Z" } : MethodName) prog_10_method_36_code (3 : Nat) (Option.some FieldType.boolean)) ∈ zT := zT_mk 813 (by decide +kernel) (by decide +kernel)
theorem zq_814 : (Cond.methodLink "CountBookModel" (143 : Nat) ({ cls := "CountBookModel", name := "rowsOf", desc := "(III)I" } : MethodName)) ∈ zT := zT_mk 814 (by decide +kernel) (by decide +kernel)
theorem zq_816 : (Cond.instanceMethod ({ cls := "CountBookModel", name := "rowsOf", desc := "(III)I" } : MethodName)) ∈ zT := zT_mk 816 (by decide +kernel) (by decide +kernel)
theorem zq_817 : (Cond.code ({ cls := "CountBookModel", name := "rowsOf", desc := "(III)I" } : MethodName) prog_10_method_35_code (5 : Nat) (Option.some FieldType.int)) ∈ zT := zT_mk 817 (by decide +kernel) (by decide +kernel)
theorem zq_818 : (Cond.methodLink "CountBookModel" (137 : Nat) ({ cls := "CountBookModel", name := "rows", desc := "(II)I" } : MethodName)) ∈ zT := zT_mk 818 (by decide +kernel) (by decide +kernel)
theorem zq_820 : (Cond.instanceMethod ({ cls := "CountBookModel", name := "rows", desc := "(II)I" } : MethodName)) ∈ zT := zT_mk 820 (by decide +kernel) (by decide +kernel)
theorem zq_821 : (Cond.code ({ cls := "CountBookModel", name := "rows", desc := "(II)I" } : MethodName) prog_10_method_33_code (3 : Nat) (Option.some FieldType.int)) ∈ zT := zT_mk 821 (by decide +kernel) (by decide +kernel)
theorem zq_822 : (Cond.methodLink "CountBookModel" (146 : Nat) ({ cls := "CountBookModel", name := "rowOf", desc := "(IIII)I" } : MethodName)) ∈ zT := zT_mk 822 (by decide +kernel) (by decide +kernel)
theorem zq_824 : (Cond.instanceMethod ({ cls := "CountBookModel", name := "rowOf", desc := "(IIII)I" } : MethodName)) ∈ zT := zT_mk 824 (by decide +kernel) (by decide +kernel)
theorem zq_825 : (Cond.code ({ cls := "CountBookModel", name := "rowOf", desc := "(IIII)I" } : MethodName) prog_10_method_34_code (6 : Nat) (Option.some FieldType.int)) ∈ zT := zT_mk 825 (by decide +kernel) (by decide +kernel)
theorem zq_826 : (Cond.methodLink "CountBookLaw" (93 : Nat) ({ cls := "CountBookModel", name := "shaped", desc := "(IIII)I" } : MethodName)) ∈ zT := zT_mk 826 (by decide +kernel) (by decide +kernel)
theorem zq_827 : (Cond.instanceMethod ({ cls := "CountBookModel", name := "shaped", desc := "(IIII)I" } : MethodName)) ∈ zT := zT_mk 827 (by decide +kernel) (by decide +kernel)
theorem zq_828 : (Cond.selects "CountBookModel" ({ cls := "CountBookModel", name := "shaped", desc := "(IIII)I" } : MethodName) ({ cls := "CountBookModel", name := "shaped", desc := "(IIII)I" } : MethodName)) ∈ zT := zT_mk 828 (by decide +kernel) (by decide +kernel)
theorem zq_829 : (Cond.code ({ cls := "CountBookModel", name := "shaped", desc := "(IIII)I" } : MethodName) prog_10_method_38_code (8 : Nat) (Option.some FieldType.int)) ∈ zT := zT_mk 829 (by decide +kernel) (by decide +kernel)
theorem zq_830 : (Cond.methodLink "CountBookLaw" (97 : Nat) ({ cls := "CountBookModel", name := "ways", desc := "(II)I" } : MethodName)) ∈ zT := zT_mk 830 (by decide +kernel) (by decide +kernel)
theorem zq_831 : (Cond.instanceMethod ({ cls := "CountBookModel", name := "ways", desc := "(II)I" } : MethodName)) ∈ zT := zT_mk 831 (by decide +kernel) (by decide +kernel)
theorem zq_832 : (Cond.selects "CountBookModel" ({ cls := "CountBookModel", name := "ways", desc := "(II)I" } : MethodName) ({ cls := "CountBookModel", name := "ways", desc := "(II)I" } : MethodName)) ∈ zT := zT_mk 832 (by decide +kernel) (by decide +kernel)
theorem zq_833 : (Cond.code ({ cls := "CountBookModel", name := "ways", desc := "(II)I" } : MethodName) prog_10_method_42_code (3 : Nat) (Option.some FieldType.int)) ∈ zT := zT_mk 833 (by decide +kernel) (by decide +kernel)
theorem zq_834 : (Cond.methodLink "CountBookModel" (155 : Nat) ({ cls := "CountBookModel", name := "isSheet", desc := "(I)Z" } : MethodName)) ∈ zT := zT_mk 834 (by decide +kernel) (by decide +kernel)
theorem zq_835 : (Cond.static ({ cls := "CountBookModel", name := "isSheet", desc := "(I)Z" } : MethodName)) ∈ zT := zT_mk 835 (by decide +kernel) (by decide +kernel)
theorem zq_836 : (Cond.code ({ cls := "CountBookModel", name := "isSheet", desc := "(I)Z" } : MethodName) prog_10_method_39_code (1 : Nat) (Option.some FieldType.boolean)) ∈ zT := zT_mk 836 (by decide +kernel) (by decide +kernel)
theorem zq_837 : (Cond.constant "CountBookModel" (158 : Nat) (-1000000011 : Int32)) ∈ zT := zT_mk 837 (by decide +kernel) (by decide +kernel)
theorem zq_838 : (Cond.methodLink "CountBookModel" (159 : Nat) ({ cls := "CountBookModel", name := "findTurn", desc := "(II)V" } : MethodName)) ∈ zT := zT_mk 838 (by decide +kernel) (by decide +kernel)
theorem zq_840 : (Cond.instanceMethod ({ cls := "CountBookModel", name := "findTurn", desc := "(II)V" } : MethodName)) ∈ zT := zT_mk 840 (by decide +kernel) (by decide +kernel)
theorem zq_841 : (Cond.code ({ cls := "CountBookModel", name := "findTurn", desc := "(II)V" } : MethodName) prog_10_method_41_code (7 : Nat) (Option.none : Option FieldType)) ∈ zT := zT_mk 841 (by decide +kernel) (by decide +kernel)
theorem zq_842 : (Cond.methodLink "CountBookModel" (150 : Nat) ({ cls := "CountBookModel", name := "standsAt", desc := "(IIII)I" } : MethodName)) ∈ zT := zT_mk 842 (by decide +kernel) (by decide +kernel)
theorem zq_844 : (Cond.instanceMethod ({ cls := "CountBookModel", name := "standsAt", desc := "(IIII)I" } : MethodName)) ∈ zT := zT_mk 844 (by decide +kernel) (by decide +kernel)
theorem zq_845 : (Cond.code ({ cls := "CountBookModel", name := "standsAt", desc := "(IIII)I" } : MethodName) prog_10_method_40_code (9 : Nat) (Option.some FieldType.int)) ∈ zT := zT_mk 845 (by decide +kernel) (by decide +kernel)
theorem zq_846 : (Cond.constantLong "CountBookModel" (153 : Nat) (1000000000 : Int64)) ∈ zT := zT_mk 846 (by decide +kernel) (by decide +kernel)
theorem zq_847 : (Cond.methodLink "CountBookLaw" (101 : Nat) ({ cls := "CountBookModel", name := "cuts", desc := "(II)I" } : MethodName)) ∈ zT := zT_mk 847 (by decide +kernel) (by decide +kernel)
theorem zq_848 : (Cond.instanceMethod ({ cls := "CountBookModel", name := "cuts", desc := "(II)I" } : MethodName)) ∈ zT := zT_mk 848 (by decide +kernel) (by decide +kernel)
theorem zq_849 : (Cond.selects "CountBookModel" ({ cls := "CountBookModel", name := "cuts", desc := "(II)I" } : MethodName) ({ cls := "CountBookModel", name := "cuts", desc := "(II)I" } : MethodName)) ∈ zT := zT_mk 849 (by decide +kernel) (by decide +kernel)
theorem zq_850 : (Cond.code ({ cls := "CountBookModel", name := "cuts", desc := "(II)I" } : MethodName) prog_10_method_43_code (3 : Nat) (Option.some FieldType.int)) ∈ zT := zT_mk 850 (by decide +kernel) (by decide +kernel)
theorem zq_851 : (Cond.methodLink "CountBookLaw" (105 : Nat) ({ cls := "CountBookModel", name := "hand", desc := "(II)I" } : MethodName)) ∈ zT := zT_mk 851 (by decide +kernel) (by decide +kernel)
theorem zq_852 : (Cond.instanceMethod ({ cls := "CountBookModel", name := "hand", desc := "(II)I" } : MethodName)) ∈ zT := zT_mk 852 (by decide +kernel) (by decide +kernel)
theorem zq_853 : (Cond.selects "CountBookModel" ({ cls := "CountBookModel", name := "hand", desc := "(II)I" } : MethodName) ({ cls := "CountBookModel", name := "hand", desc := "(II)I" } : MethodName)) ∈ zT := zT_mk 853 (by decide +kernel) (by decide +kernel)
theorem zq_854 : (Cond.code ({ cls := "CountBookModel", name := "hand", desc := "(II)I" } : MethodName) prog_10_method_44_code (4 : Nat) (Option.some FieldType.int)) ∈ zT := zT_mk 854 (by decide +kernel) (by decide +kernel)
theorem zq_855 : (Cond.methodLink "CountBookLaw" (109 : Nat) ({ cls := "CountBookModel", name := "strains", desc := "(I)I" } : MethodName)) ∈ zT := zT_mk 855 (by decide +kernel) (by decide +kernel)
theorem zq_856 : (Cond.instanceMethod ({ cls := "CountBookModel", name := "strains", desc := "(I)I" } : MethodName)) ∈ zT := zT_mk 856 (by decide +kernel) (by decide +kernel)
theorem zq_857 : (Cond.selects "CountBookModel" ({ cls := "CountBookModel", name := "strains", desc := "(I)I" } : MethodName) ({ cls := "CountBookModel", name := "strains", desc := "(I)I" } : MethodName)) ∈ zT := zT_mk 857 (by decide +kernel) (by decide +kernel)
theorem zq_858 : (Cond.code ({ cls := "CountBookModel", name := "strains", desc := "(I)I" } : MethodName) prog_10_method_49_code (4 : Nat) (Option.some FieldType.int)) ∈ zT := zT_mk 858 (by decide +kernel) (by decide +kernel)
theorem zq_859 : (Cond.methodLink "CountBookModel" (172 : Nat) ({ cls := "CountBookModel", name := "findPlay", desc := "(I)V" } : MethodName)) ∈ zT := zT_mk 859 (by decide +kernel) (by decide +kernel)
theorem zq_861 : (Cond.instanceMethod ({ cls := "CountBookModel", name := "findPlay", desc := "(I)V" } : MethodName)) ∈ zT := zT_mk 861 (by decide +kernel) (by decide +kernel)
theorem zq_862 : (Cond.code ({ cls := "CountBookModel", name := "findPlay", desc := "(I)V" } : MethodName) prog_10_method_48_code (8 : Nat) (Option.none : Option FieldType)) ∈ zT := zT_mk 862 (by decide +kernel) (by decide +kernel)
theorem zq_863 : (Cond.methodLink "CountBookModel" (166 : Nat) ({ cls := "CountBookModel", name := "mayBe", desc := "(III)Z" } : MethodName)) ∈ zT := zT_mk 863 (by decide +kernel) (by decide +kernel)
theorem zq_865 : (Cond.instanceMethod ({ cls := "CountBookModel", name := "mayBe", desc := "(III)Z" } : MethodName)) ∈ zT := zT_mk 865 (by decide +kernel) (by decide +kernel)
theorem zq_866 : (Cond.code ({ cls := "CountBookModel", name := "mayBe", desc := "(III)Z" } : MethodName) prog_10_method_46_code (5 : Nat) (Option.some FieldType.boolean)) ∈ zT := zT_mk 866 (by decide +kernel) (by decide +kernel)
theorem zq_867 : (Cond.methodLink "CountBookModel" (163 : Nat) ({ cls := "CountBookModel", name := "handOf", desc := "(II)I" } : MethodName)) ∈ zT := zT_mk 867 (by decide +kernel) (by decide +kernel)
theorem zq_869 : (Cond.instanceMethod ({ cls := "CountBookModel", name := "handOf", desc := "(II)I" } : MethodName)) ∈ zT := zT_mk 869 (by decide +kernel) (by decide +kernel)
theorem zq_870 : (Cond.code ({ cls := "CountBookModel", name := "handOf", desc := "(II)I" } : MethodName) prog_10_method_45_code (4 : Nat) (Option.some FieldType.int)) ∈ zT := zT_mk 870 (by decide +kernel) (by decide +kernel)
theorem zq_871 : (Cond.methodLink "CountBookModel" (169 : Nat) ({ cls := "CountBookModel", name := "strain", desc := "(II)I" } : MethodName)) ∈ zT := zT_mk 871 (by decide +kernel) (by decide +kernel)
theorem zq_872 : (Cond.static ({ cls := "CountBookModel", name := "strain", desc := "(II)I" } : MethodName)) ∈ zT := zT_mk 872 (by decide +kernel) (by decide +kernel)
theorem zq_873 : (Cond.code ({ cls := "CountBookModel", name := "strain", desc := "(II)I" } : MethodName) prog_10_method_47_code (2 : Nat) (Option.some FieldType.int)) ∈ zT := zT_mk 873 (by decide +kernel) (by decide +kernel)
theorem zq_874 : (Cond.methodLink "CountBookLaw" (113 : Nat) ({ cls := "CountBookModel", name := "plays", desc := "(II)I" } : MethodName)) ∈ zT := zT_mk 874 (by decide +kernel) (by decide +kernel)
theorem zq_875 : (Cond.instanceMethod ({ cls := "CountBookModel", name := "plays", desc := "(II)I" } : MethodName)) ∈ zT := zT_mk 875 (by decide +kernel) (by decide +kernel)
theorem zq_876 : (Cond.selects "CountBookModel" ({ cls := "CountBookModel", name := "plays", desc := "(II)I" } : MethodName) ({ cls := "CountBookModel", name := "plays", desc := "(II)I" } : MethodName)) ∈ zT := zT_mk 876 (by decide +kernel) (by decide +kernel)
theorem zq_877 : (Cond.code ({ cls := "CountBookModel", name := "plays", desc := "(II)I" } : MethodName) prog_10_method_50_code (3 : Nat) (Option.some FieldType.int)) ∈ zT := zT_mk 877 (by decide +kernel) (by decide +kernel)
theorem zq_878 : (Cond.methodLink "CountBookLaw" (117 : Nat) ({ cls := "CountBookModel", name := "join", desc := "(IIII)I" } : MethodName)) ∈ zT := zT_mk 878 (by decide +kernel) (by decide +kernel)
theorem zq_879 : (Cond.instanceMethod ({ cls := "CountBookModel", name := "join", desc := "(IIII)I" } : MethodName)) ∈ zT := zT_mk 879 (by decide +kernel) (by decide +kernel)
theorem zq_880 : (Cond.selects "CountBookModel" ({ cls := "CountBookModel", name := "join", desc := "(IIII)I" } : MethodName) ({ cls := "CountBookModel", name := "join", desc := "(IIII)I" } : MethodName)) ∈ zT := zT_mk 880 (by decide +kernel) (by decide +kernel)
theorem zq_881 : (Cond.code ({ cls := "CountBookModel", name := "join", desc := "(IIII)I" } : MethodName) prog_10_method_51_code (5 : Nat) (Option.some FieldType.int)) ∈ zT := zT_mk 881 (by decide +kernel) (by decide +kernel)
theorem zq_882 : (Cond.methodLink "CountBookLaw" (122 : Nat) ({ cls := "CountBookModel", name := "drop", desc := "()I" } : MethodName)) ∈ zT := zT_mk 882 (by decide +kernel) (by decide +kernel)
theorem zq_883 : (Cond.instanceMethod ({ cls := "CountBookModel", name := "drop", desc := "()I" } : MethodName)) ∈ zT := zT_mk 883 (by decide +kernel) (by decide +kernel)
theorem zq_884 : (Cond.selects "CountBookModel" ({ cls := "CountBookModel", name := "drop", desc := "()I" } : MethodName) ({ cls := "CountBookModel", name := "drop", desc := "()I" } : MethodName)) ∈ zT := zT_mk 884 (by decide +kernel) (by decide +kernel)
theorem zq_885 : (Cond.code ({ cls := "CountBookModel", name := "drop", desc := "()I" } : MethodName) prog_10_method_52_code (2 : Nat) (Option.some FieldType.int)) ∈ zT := zT_mk 885 (by decide +kernel) (by decide +kernel)
theorem zq_886 : (Cond.methodLink "CountBookLaw" (126 : Nat) ({ cls := "CountBookModel", name := "account", desc := "(II)I" } : MethodName)) ∈ zT := zT_mk 886 (by decide +kernel) (by decide +kernel)
theorem zq_887 : (Cond.instanceMethod ({ cls := "CountBookModel", name := "account", desc := "(II)I" } : MethodName)) ∈ zT := zT_mk 887 (by decide +kernel) (by decide +kernel)
theorem zq_888 : (Cond.selects "CountBookModel" ({ cls := "CountBookModel", name := "account", desc := "(II)I" } : MethodName) ({ cls := "CountBookModel", name := "account", desc := "(II)I" } : MethodName)) ∈ zT := zT_mk 888 (by decide +kernel) (by decide +kernel)
theorem zq_889 : (Cond.code ({ cls := "CountBookModel", name := "account", desc := "(II)I" } : MethodName) prog_10_method_54_code (3 : Nat) (Option.some FieldType.int)) ∈ zT := zT_mk 889 (by decide +kernel) (by decide +kernel)
theorem zq_890 : (Cond.methodLink "CountBookModel" (178 : Nat) ({ cls := "CountBookModel", name := "endOf", desc := "(I)I" } : MethodName)) ∈ zT := zT_mk 890 (by decide +kernel) (by decide +kernel)
theorem zq_892 : (Cond.instanceMethod ({ cls := "CountBookModel", name := "endOf", desc := "(I)I" } : MethodName)) ∈ zT := zT_mk 892 (by decide +kernel) (by decide +kernel)
theorem zq_893 : (Cond.code ({ cls := "CountBookModel", name := "endOf", desc := "(I)I" } : MethodName) prog_10_method_53_code (4 : Nat) (Option.some FieldType.int)) ∈ zT := zT_mk 893 (by decide +kernel) (by decide +kernel)
theorem zq_894 : (Cond.methodLink "CountBookLaw" (130 : Nat) ({ cls := "CountBookModel", name := "landings", desc := "(I)I" } : MethodName)) ∈ zT := zT_mk 894 (by decide +kernel) (by decide +kernel)
theorem zq_895 : (Cond.instanceMethod ({ cls := "CountBookModel", name := "landings", desc := "(I)I" } : MethodName)) ∈ zT := zT_mk 895 (by decide +kernel) (by decide +kernel)
theorem zq_896 : (Cond.selects "CountBookModel" ({ cls := "CountBookModel", name := "landings", desc := "(I)I" } : MethodName) ({ cls := "CountBookModel", name := "landings", desc := "(I)I" } : MethodName)) ∈ zT := zT_mk 896 (by decide +kernel) (by decide +kernel)
theorem zq_897 : (Cond.code ({ cls := "CountBookModel", name := "landings", desc := "(I)I" } : MethodName) prog_10_method_55_code (4 : Nat) (Option.some FieldType.int)) ∈ zT := zT_mk 897 (by decide +kernel) (by decide +kernel)
theorem zq_898 : (Cond.methodLink "CountBookLaw" (134 : Nat) ({ cls := "CountBookModel", name := "home", desc := "(I)I" } : MethodName)) ∈ zT := zT_mk 898 (by decide +kernel) (by decide +kernel)
theorem zq_899 : (Cond.instanceMethod ({ cls := "CountBookModel", name := "home", desc := "(I)I" } : MethodName)) ∈ zT := zT_mk 899 (by decide +kernel) (by decide +kernel)
theorem zq_900 : (Cond.selects "CountBookModel" ({ cls := "CountBookModel", name := "home", desc := "(I)I" } : MethodName) ({ cls := "CountBookModel", name := "home", desc := "(I)I" } : MethodName)) ∈ zT := zT_mk 900 (by decide +kernel) (by decide +kernel)
theorem zq_901 : (Cond.code ({ cls := "CountBookModel", name := "home", desc := "(I)I" } : MethodName) prog_10_method_56_code (3 : Nat) (Option.some FieldType.int)) ∈ zT := zT_mk 901 (by decide +kernel) (by decide +kernel)
theorem zq_902 : (Cond.methodLink "CountBookLaw" (138 : Nat) ({ cls := "CountBookModel", name := "sheet", desc := "(II)I" } : MethodName)) ∈ zT := zT_mk 902 (by decide +kernel) (by decide +kernel)
theorem zq_903 : (Cond.instanceMethod ({ cls := "CountBookModel", name := "sheet", desc := "(II)I" } : MethodName)) ∈ zT := zT_mk 903 (by decide +kernel) (by decide +kernel)
theorem zq_904 : (Cond.selects "CountBookModel" ({ cls := "CountBookModel", name := "sheet", desc := "(II)I" } : MethodName) ({ cls := "CountBookModel", name := "sheet", desc := "(II)I" } : MethodName)) ∈ zT := zT_mk 904 (by decide +kernel) (by decide +kernel)
theorem zq_905 : (Cond.code ({ cls := "CountBookModel", name := "sheet", desc := "(II)I" } : MethodName) prog_10_method_57_code (4 : Nat) (Option.some FieldType.int)) ∈ zT := zT_mk 905 (by decide +kernel) (by decide +kernel)
theorem zq_906 : (Cond.constant "CountBookModel" (181 : Nat) (-1000000014 : Int32)) ∈ zT := zT_mk 906 (by decide +kernel) (by decide +kernel)
theorem zq_907 : (Cond.methodLink "CountBookLaw" (142 : Nat) ({ cls := "CountBookModel", name := "mark", desc := "(III)I" } : MethodName)) ∈ zT := zT_mk 907 (by decide +kernel) (by decide +kernel)
theorem zq_908 : (Cond.instanceMethod ({ cls := "CountBookModel", name := "mark", desc := "(III)I" } : MethodName)) ∈ zT := zT_mk 908 (by decide +kernel) (by decide +kernel)
theorem zq_909 : (Cond.selects "CountBookModel" ({ cls := "CountBookModel", name := "mark", desc := "(III)I" } : MethodName) ({ cls := "CountBookModel", name := "mark", desc := "(III)I" } : MethodName)) ∈ zT := zT_mk 909 (by decide +kernel) (by decide +kernel)
theorem zq_910 : (Cond.code ({ cls := "CountBookModel", name := "mark", desc := "(III)I" } : MethodName) prog_10_method_58_code (5 : Nat) (Option.some FieldType.int)) ∈ zT := zT_mk 910 (by decide +kernel) (by decide +kernel)
theorem zq_911 : (Cond.constant "CountBookModel" (182 : Nat) (-1000000013 : Int32)) ∈ zT := zT_mk 911 (by decide +kernel) (by decide +kernel)
theorem zq_912 : (Cond.methodLink "CountBookLaw" (146 : Nat) ({ cls := "CountBookModel", name := "copy", desc := "(IIIII)I" } : MethodName)) ∈ zT := zT_mk 912 (by decide +kernel) (by decide +kernel)
theorem zq_913 : (Cond.instanceMethod ({ cls := "CountBookModel", name := "copy", desc := "(IIIII)I" } : MethodName)) ∈ zT := zT_mk 913 (by decide +kernel) (by decide +kernel)
theorem zq_914 : (Cond.selects "CountBookModel" ({ cls := "CountBookModel", name := "copy", desc := "(IIIII)I" } : MethodName) ({ cls := "CountBookModel", name := "copy", desc := "(IIIII)I" } : MethodName)) ∈ zT := zT_mk 914 (by decide +kernel) (by decide +kernel)
theorem zq_915 : (Cond.code ({ cls := "CountBookModel", name := "copy", desc := "(IIIII)I" } : MethodName) prog_10_method_59_code (7 : Nat) (Option.some FieldType.int)) ∈ zT := zT_mk 915 (by decide +kernel) (by decide +kernel)
theorem zq_916 : (Cond.methodLink "CountBookLaw" (150 : Nat) ({ cls := "CountBookModel", name := "count", desc := "(I)I" } : MethodName)) ∈ zT := zT_mk 916 (by decide +kernel) (by decide +kernel)
theorem zq_917 : (Cond.instanceMethod ({ cls := "CountBookModel", name := "count", desc := "(I)I" } : MethodName)) ∈ zT := zT_mk 917 (by decide +kernel) (by decide +kernel)
theorem zq_918 : (Cond.selects "CountBookModel" ({ cls := "CountBookModel", name := "count", desc := "(I)I" } : MethodName) ({ cls := "CountBookModel", name := "count", desc := "(I)I" } : MethodName)) ∈ zT := zT_mk 918 (by decide +kernel) (by decide +kernel)
theorem zq_919 : (Cond.code ({ cls := "CountBookModel", name := "count", desc := "(I)I" } : MethodName) prog_10_method_60_code (4 : Nat) (Option.some FieldType.int)) ∈ zT := zT_mk 919 (by decide +kernel) (by decide +kernel)
end
section
/-! THE ABSTRACT MACHINE: heaps are lists of cells, a reference is a place in that list; ρ gives each place its address, aC each array tag its class -/
abbrev zH : Type := List va_E
/-- a method: name, bytes, locals, return type -/
abbrev zM : Type := MethodName × ByteArray × Nat × Option FieldType
/-- the place that stands for the law's script -/
def zS : Nat := 1000000
def zV (ρ : Nat → Nat) (v : Value) : Value := match v with
  | .ref k => .ref (ρ k)
  | w => w
def zE (ρ : Nat → Nat) (aC : Nat → ClassId) (c : va_E) : va_E := match c with
  | .inl (t, n, .inr (.inr (.inr (.inr f)))) => .inl (aC t, n, .inr (.inr (.inr (.inr (fun i => (f i).map ρ)))))
  | .inl (t, n, .inl f) => .inl (aC t, n, .inl f)
  | .inl (t, n, .inr (.inl f)) => .inl (aC t, n, .inr (.inl f))
  | .inl (t, n, .inr (.inr (.inl f))) => .inl (aC t, n, .inr (.inr (.inl f)))
  | .inl (t, n, .inr (.inr (.inr (.inl f)))) => .inl (aC t, n, .inr (.inr (.inr (.inl f))))
  | .inr (ci, fs) => .inr (ci, fs.map (zV ρ))
def zC (ρ : Nat → Nat) (aC : Nat → ClassId) (h : zH) : va_W := h.mapIdx (fun k c => (ρ k, zE ρ aC c))
def zTy (aC : Nat → ClassId) : List (ClassId × FieldType) := [(aC 0, .byte), (aC 1, .int), (aC 2, .long), (aC 3, .object RX0), (aC 4, .object RX2), (aC 5, .object RX3)]
/-- the locals: by their places -/
def zL (ρ : Nat → Nat) (ls : Array Slot) (nL : Nat) (lv : List (Option Value)) : Prop := ls.size = nL ∧ lv_wf ls ∧ ∀ (i : Nat) (v : Value), lv[i]? = some (some v) → ls[i]? = some (.val (zV ρ v))
def zA (ρ : Nat → Nat) (lv : List (Option Value)) : List (Nat × Value) := (lv.zipIdx).filterMap (fun q => q.1.map (fun v => (q.2, zV ρ v)))
def zst (i : Nat) (v : Value) (lv : List (Option Value)) : List (Option Value) := match i with
  | 0 => lv.set 0 (some v)
  | j + 1 => match lv[j]? with
    | some (some (.long _)) => (lv.set j none).set (j + 1) (some v)
    | some (some (.double _)) => (lv.set j none).set (j + 1) (some v)
    | _ => lv.set (j + 1) (some v)
def zst2 (i : Nat) (v : Value) (lv : List (Option Value)) : List (Option Value) := (zst i v lv).set (i + 1) none
/-- the tables' facts that are no words of zT: links between nest mates, arrays of own classes -/
def zN (U : State) : Prop := va_Nw (.methodLinkNest RX7 29 yX5_init RX7) U ∧ va_Nw (.methodLinkNest RX7 36 yX6_init RX7) U ∧ va_Nw (.methodLinkNest RX7 43 yX1_init RX7) U ∧ va_Nw (.methodLinkNest RX7 50 yX4_init RX7) U ∧ va_Nw (.methodLinkNest RX7 59 yX0_init RX7) U ∧ va_Nw (.methodLinkNest RX7 60 yX2_init RX7) U ∧ va_Nw (.methodLinkNest RX7 61 yX3_init RX7) U ∧ va_AO RX0 U ∧ va_AO RX2 U ∧ va_AO RX3 U
def zX (M : zM) (scr : Option (Nat × (Nat → Int32))) (p : Program) (s : State) (m : MethodId) (args : Array Value) (meth : Method) (c : Code) (D : va_G) (aC : Nat → ClassId) (A : Nat → Prop) (b : Nat) : Prop :=
  p.tables.exec = Jvm.exec ∧ c.code = M.2.1 ∧ c.maxLocals = M.2.2.1 ∧ s.vm.findClass M.1.cls = some m.cls ∧ (∀ w ∈ zT, w.before args s = true) ∧ va_K D vwCl (zTy aC) s ∧ (∀ q, s.heap.size ≤ q → A q) ∧ (M.1.name = "<init>" → meth.name = "<init>") ∧ zN s ∧ ∀ L xs, scr = some (L, xs) → va_X b L xs s s.heap ∧ b < s.heap.size ∧ ¬ A b
/-- how the addresses may have changed: not at all where nothing is made -/
def zAg (al : Bool) (n n' : Nat) (ρ ρ' : Nat → Nat) : Prop := (al = false → ρ' = ρ ∧ n' = n) ∧ n ≤ n' ∧ ∀ k, (k < n ∨ k = zS) → ρ' k = ρ k
def zRet (ret : Option FieldType) (ri : Instr) (v : Option Value) : Prop := (ri = .ireturn ∧ ∃ (ty : FieldType) (x : Int32), ret = some ty ∧ v = some (.int x) ∧ narrow ty (.int x) = .int x) ∨ (ri = .lreturn ∧ ret = some .long ∧ ∃ x, v = some (.long x)) ∨ (ri = .areturn ∧ (∃ n, ret = some (.object n)) ∧ ((∃ a, v = some (.ref a)) ∨ v = some .null)) ∨ (ri = .return_ ∧ ret = none ∧ v = none)
/-- THE JUDGEMENT: from pc with locals lv, stack st, heap h, ce cells and sl slots made so far, the method comes to a return with Q -/
def zJ (M : zM) (rm : Room) (al : Bool) (mc ms : Nat) (scr : Option (Nat × (Nat → Int32))) (Q : Option Value → zH → Prop) (pc : Nat) (lv : List (Option Value)) (st : List Value) (h : zH) (ce sl : Nat) : Prop :=
  ∀ (p : Program) (l : Launch) (e : Env) (s : State) (m : MethodId) (args : Array Value) (below : List Frame) (meth : Method) (c : Code) (D : va_G) (aC : Nat → ClassId) (ρ : Nat → Nat) (H : Heap) (locs : List Loc) (A : Nat → Prop) (Z : State → Prop) (ls : Array Slot),
    zX M scr p s m args meth c D aC A (ρ zS) → zL ρ ls M.2.2.1 lv → va_P D vwCl (zC ρ aC h) H → va_D A (zC ρ aC h) → va_S A s.heap H locs →
    (∀ (ρ' : Nat → Nat) (H' : Heap) (locs' : List Loc) (ls' : Array Slot) (pc' : Nat) (ri : Instr) (v : Option Value) (h' : zH), Q v h' → zAg al h.length h'.length ρ ρ' → va_P D vwCl (zC ρ' aC h') H' → va_D A (zC ρ' aC h') → va_S A s.heap H' locs' → decode M.2.1 pc' = .ok (ri, 1) → zRet M.2.2.2 ri v → W p l e rm s m args below meth c H' locs' mc ms Z (F0 m pc' ls' (v.toList.map (zV ρ')))) →
    W p l e rm s m args below meth c H locs ce sl Z (F0 m pc ls (st.map (zV ρ)))
theorem zC_get {ρ : Nat → Nat} {aC : Nat → ClassId} {h : zH} {k : Nat} {c : va_E} (hk : h[k]? = some c) : (zC ρ aC h)[k]? = some (ρ k, zE ρ aC c) := by
  simp [zC, List.getElem?_mapIdx, hk]
theorem zC_set {ρ : Nat → Nat} {aC : Nat → ClassId} {h : zH} {k : Nat} {c : va_E} : (zC ρ aC h).set k (ρ k, zE ρ aC c) = zC ρ aC (h.set k c) := by
  apply List.ext_getElem?
  intro i
  simp only [zC, List.getElem?_set, List.getElem?_mapIdx, List.length_mapIdx]
  by_cases hi : k = i
  · subst hi
    by_cases hl : k < h.length <;> simp [hl]
  · simp [hi]
theorem zL_get {ρ : Nat → Nat} {ls : Array Slot} {nL : Nat} {lv : List (Option Value)} (h : zL ρ ls nL lv) {i : Nat} {v : Value} (hi : lv[i]? = some (some v)) : ls[i]? = some (.val (zV ρ v)) := h.2.2 i v hi
theorem zL_A {ρ : Nat → Nat} {ls : Array Slot} {nL : Nat} {lv : List (Option Value)} (h : zL ρ ls nL lv) : lv_has ls nL (zA ρ lv) := by
  refine ⟨h.1, h.2.1, fun q hq => ?_⟩
  obtain ⟨⟨o, i⟩, hm, ho⟩ := List.mem_filterMap.mp hq
  cases o with
  | none => simp at ho
  | some v =>
    simp at ho
    subst ho
    have := List.mem_zipIdx_iff_getElem?.mp hm
    exact h.2.2 i v this
theorem zV_cat (ρ : Nat → Nat) (v : Value) : (zV ρ v).category = v.category := by cases v <;> rfl
theorem zA_mem {ρ : Nat → Nat} {lv : List (Option Value)} {i : Nat} {v : Value} (h : lv[i]? = some (some v)) : (i, zV ρ v) ∈ zA ρ lv := by
  refine List.mem_filterMap.mpr ⟨(some v, i), List.mem_zipIdx_iff_getElem?.mpr h, rfl⟩
/-- what stands in zst besides the new value was there before, and isn't the first half of a long just cut -/
theorem zst_get {i j : Nat} {v w : Value} {lv : List (Option Value)} (h : (zst i v lv)[j]? = some (some w)) : (j = i ∧ w = v) ∨ (j ≠ i ∧ lv[j]? = some (some w) ∧ ¬ (j + 1 = i ∧ w.category = 2)) := by
  cases i with
  | zero =>
    simp only [zst, List.getElem?_set] at h
    by_cases hj : 0 = j
    · subst hj
      simp only [if_true] at h
      split at h
      · simp at h; exact Or.inl ⟨rfl, h.symm⟩
      · simp at h
    · simp only [hj, if_false] at h
      exact Or.inr ⟨fun e => hj e.symm, h, fun e => by omega⟩
  | succ n =>
    by_cases hj : j = n + 1
    · subst hj
      refine Or.inl ⟨rfl, ?_⟩
      unfold zst at h
      simp only at h
      split at h <;> (simp only [List.getElem?_set, if_true, List.length_set] at h; split at h <;> simp at h; exact h.symm)
    · refine Or.inr ⟨hj, ?_⟩
      by_cases hn : j = n
      · subst hn
        unfold zst at h
        simp only at h
        split at h
        · simp [List.getElem?_set] at h
        · simp [List.getElem?_set] at h
        · rename_i h1 h2
          have h3 : lv[j]? = some (some w) := by simpa [List.getElem?_set] using h
          refine ⟨h3, fun e => ?_⟩
          cases w with
          | long x => exact h1 x h3
          | double x => exact h2 x h3
          | _ => simp [Value.category] at e
      · unfold zst at h
        simp only at h
        have hne : ¬ n + 1 = j := fun e => hj e.symm
        have hne2 : ¬ n = j := fun e => hn e.symm
        split at h <;> (simp only [List.getElem?_set, hne, hne2, if_false] at h; exact ⟨h, fun e => by omega⟩)
theorem zL_st {ρ : Nat → Nat} {ls' : Array Slot} {nL i : Nat} {lv : List (Option Value)} {v : Value} (h : lv_has ls' nL ((i, zV ρ v) :: (zA ρ lv).filter (fun q => !(q.1 == i) && !(q.1 + 1 == i && q.2.category == 2)))) : zL ρ ls' nL (zst i v lv) := by
  refine ⟨h.1, h.2.1, fun j w hj => ?_⟩
  rcases zst_get hj with ⟨rfl, rfl⟩ | ⟨h1, h2, h3⟩
  · exact h.2.2 (j, zV ρ w) List.mem_cons_self
  · refine h.2.2 (j, zV ρ w) (List.mem_cons_of_mem _ (List.mem_filter.mpr ⟨zA_mem h2, ?_⟩))
    simp only [zV_cat]
    simp [h1]
    by_cases e : j + 1 = i
    · exact Or.inr (fun c => h3 ⟨e, c⟩)
    · exact Or.inl e
theorem zst2_get {i j : Nat} {v w : Value} {lv : List (Option Value)} (h : (zst2 i v lv)[j]? = some (some w)) : j ≠ i + 1 ∧ (zst i v lv)[j]? = some (some w) := by
  unfold zst2 at h
  simp only [List.getElem?_set] at h
  by_cases hj : i + 1 = j
  · subst hj
    simp only [if_true] at h
    split at h <;> simp at h
  · simp only [hj, if_false] at h
    exact ⟨fun e => hj e.symm, h⟩
theorem zL_st2 {ρ : Nat → Nat} {ls' : Array Slot} {nL i : Nat} {lv : List (Option Value)} {v : Value} (h : lv_has ls' nL ((i, zV ρ v) :: (zA ρ lv).filter (fun q => !(q.1 == i) && (!(q.1 == i + 1) && !(q.1 + 1 == i && q.2.category == 2))))) : zL ρ ls' nL (zst2 i v lv) := by
  refine ⟨h.1, h.2.1, fun j w hj => ?_⟩
  obtain ⟨hj1, hj⟩ := zst2_get hj
  rcases zst_get hj with ⟨rfl, rfl⟩ | ⟨h1, h2, h3⟩
  · exact h.2.2 (j, zV ρ w) List.mem_cons_self
  · refine h.2.2 (j, zV ρ w) (List.mem_cons_of_mem _ (List.mem_filter.mpr ⟨zA_mem h2, ?_⟩))
    simp only [zV_cat]
    simp [h1, hj1]
    by_cases e : j + 1 = i
    · exact Or.inr (fun c => h3 ⟨e, c⟩)
    · exact Or.inl e
end
section
section ZR
variable {M : zM} {rm : Room} {al : Bool} {mc ms : Nat} {scr : Option (Nat × (Nat → Int32))} {Q : Option Value → zH → Prop} {pc : Nat} {lv : List (Option Value)} {st : List Value} {h : zH} {ce sl : Nat}
theorem zj_iconst {n : Int} (hd : decode M.2.1 pc = .ok (.iconst n, 1))  (k : zJ M rm al mc ms scr Q (pc + 1) (lv) (.int (Int32.ofInt n) :: st) h ce sl) : zJ M rm al mc ms scr Q (pc) (lv) (st) h ce sl := by
  intro p l e s m args below meth c D aC ρ H locs A Z ls X hl hP hD hS hZ
  exact lv_iconst X.1 X.2.1 hd rfl (k p l e s m args below meth c D aC ρ H locs A Z ls X hl hP hD hS hZ)
theorem zj_bipush {n : Int} (hd : decode M.2.1 pc = .ok (.bipush n, 2))  (k : zJ M rm al mc ms scr Q (pc + 2) (lv) (.int (Int8.ofInt n).toInt32 :: st) h ce sl) : zJ M rm al mc ms scr Q (pc) (lv) (st) h ce sl := by
  intro p l e s m args below meth c D aC ρ H locs A Z ls X hl hP hD hS hZ
  exact lv_bipush X.1 X.2.1 hd rfl (k p l e s m args below meth c D aC ρ H locs A Z ls X hl hP hD hS hZ)
theorem zj_sipush {n : Int} (hd : decode M.2.1 pc = .ok (.sipush n, 3))  (k : zJ M rm al mc ms scr Q (pc + 3) (lv) (.int (Int16.ofInt n).toInt32 :: st) h ce sl) : zJ M rm al mc ms scr Q (pc) (lv) (st) h ce sl := by
  intro p l e s m args below meth c D aC ρ H locs A Z ls X hl hP hD hS hZ
  exact lv_sipush X.1 X.2.1 hd rfl (k p l e s m args below meth c D aC ρ H locs A Z ls X hl hP hD hS hZ)
theorem zj_ldc {i : Nat} {v : Int32} (hd : decode M.2.1 pc = .ok (.ldc i, 2)) (hw : Cond.constant M.1.cls i v ∈ zT) (k : zJ M rm al mc ms scr Q (pc + 2) (lv) (.int v :: st) h ce sl) : zJ M rm al mc ms scr Q (pc) (lv) (st) h ce sl := by
  intro p l e s m args below meth c D aC ρ H locs A Z ls X hl hP hD hS hZ
  exact lv_ldc X.1 X.2.1 X.2.2.2.1 (X.2.2.2.2.1 _ hw) hd (k p l e s m args below meth c D aC ρ H locs A Z ls X hl hP hD hS hZ)
theorem zj_ldc2 {i : Nat} {v : Int64} (hd : decode M.2.1 pc = .ok (.ldc2_w i, 3)) (hw : Cond.constantLong M.1.cls i v ∈ zT) (k : zJ M rm al mc ms scr Q (pc + 3) (lv) (.long v :: st) h ce sl) : zJ M rm al mc ms scr Q (pc) (lv) (st) h ce sl := by
  intro p l e s m args below meth c D aC ρ H locs A Z ls X hl hP hD hS hZ
  exact lv_ldc2 X.1 X.2.1 X.2.2.2.1 (X.2.2.2.2.1 _ hw) hd (k p l e s m args below meth c D aC ρ H locs A Z ls X hl hP hD hS hZ)
theorem zj_lconst {n : Fin 2} (hd : decode M.2.1 pc = .ok (.lconst n, 1))  (k : zJ M rm al mc ms scr Q (pc + 1) (lv) (.long (Int64.ofNat (n : Nat)) :: st) h ce sl) : zJ M rm al mc ms scr Q (pc) (lv) (st) h ce sl := by
  intro p l e s m args below meth c D aC ρ H locs A Z ls X hl hP hD hS hZ
  exact lv_lconst X.1 X.2.1 hd rfl (k p l e s m args below meth c D aC ρ H locs A Z ls X hl hP hD hS hZ)
theorem zj_null  (hd : decode M.2.1 pc = .ok (.aconst_null, 1))  (k : zJ M rm al mc ms scr Q (pc + 1) (lv) (.null :: st) h ce sl) : zJ M rm al mc ms scr Q (pc) (lv) (st) h ce sl := by
  intro p l e s m args below meth c D aC ρ H locs A Z ls X hl hP hD hS hZ
  exact lv_null X.1 X.2.1 hd (k p l e s m args below meth c D aC ρ H locs A Z ls X hl hP hD hS hZ)
theorem zj_iadd {x y : Int32} (hd : decode M.2.1 pc = .ok (.iadd, 1))  (k : zJ M rm al mc ms scr Q (pc + 1) (lv) (.int (x + y) :: st) h ce sl) : zJ M rm al mc ms scr Q (pc) (lv) (.int y :: .int x :: st) h ce sl := by
  intro p l e s m args below meth c D aC ρ H locs A Z ls X hl hP hD hS hZ
  exact lv_iadd X.1 X.2.1 hd (k p l e s m args below meth c D aC ρ H locs A Z ls X hl hP hD hS hZ)
theorem zj_isub {x y : Int32} (hd : decode M.2.1 pc = .ok (.isub, 1))  (k : zJ M rm al mc ms scr Q (pc + 1) (lv) (.int (x - y) :: st) h ce sl) : zJ M rm al mc ms scr Q (pc) (lv) (.int y :: .int x :: st) h ce sl := by
  intro p l e s m args below meth c D aC ρ H locs A Z ls X hl hP hD hS hZ
  exact lv_isub X.1 X.2.1 hd (k p l e s m args below meth c D aC ρ H locs A Z ls X hl hP hD hS hZ)
theorem zj_imul {x y : Int32} (hd : decode M.2.1 pc = .ok (.imul, 1))  (k : zJ M rm al mc ms scr Q (pc + 1) (lv) (.int (x * y) :: st) h ce sl) : zJ M rm al mc ms scr Q (pc) (lv) (.int y :: .int x :: st) h ce sl := by
  intro p l e s m args below meth c D aC ρ H locs A Z ls X hl hP hD hS hZ
  exact lv_imul X.1 X.2.1 hd (k p l e s m args below meth c D aC ρ H locs A Z ls X hl hP hD hS hZ)
theorem zj_iand {x y : Int32} (hd : decode M.2.1 pc = .ok (.iand, 1))  (k : zJ M rm al mc ms scr Q (pc + 1) (lv) (.int (x &&& y) :: st) h ce sl) : zJ M rm al mc ms scr Q (pc) (lv) (.int y :: .int x :: st) h ce sl := by
  intro p l e s m args below meth c D aC ρ H locs A Z ls X hl hP hD hS hZ
  exact lv_iand X.1 X.2.1 hd (k p l e s m args below meth c D aC ρ H locs A Z ls X hl hP hD hS hZ)
theorem zj_ixor {x y : Int32} (hd : decode M.2.1 pc = .ok (.ixor, 1))  (k : zJ M rm al mc ms scr Q (pc + 1) (lv) (.int (x ^^^ y) :: st) h ce sl) : zJ M rm al mc ms scr Q (pc) (lv) (.int y :: .int x :: st) h ce sl := by
  intro p l e s m args below meth c D aC ρ H locs A Z ls X hl hP hD hS hZ
  exact lv_ixor X.1 X.2.1 hd (k p l e s m args below meth c D aC ρ H locs A Z ls X hl hP hD hS hZ)
theorem zj_idiv {x y : Int32} (hd : decode M.2.1 pc = .ok (.idiv, 1)) (hne : ¬ y = 0) (k : zJ M rm al mc ms scr Q (pc + 1) (lv) (.int (x / y) :: st) h ce sl) : zJ M rm al mc ms scr Q (pc) (lv) (.int y :: .int x :: st) h ce sl := by
  intro p l e s m args below meth c D aC ρ H locs A Z ls X hl hP hD hS hZ
  exact lv_idiv X.1 X.2.1 hd hne (k p l e s m args below meth c D aC ρ H locs A Z ls X hl hP hD hS hZ)
theorem zj_irem {x y : Int32} (hd : decode M.2.1 pc = .ok (.irem, 1)) (hne : ¬ y = 0) (k : zJ M rm al mc ms scr Q (pc + 1) (lv) (.int (x - x / y * y) :: st) h ce sl) : zJ M rm al mc ms scr Q (pc) (lv) (.int y :: .int x :: st) h ce sl := by
  intro p l e s m args below meth c D aC ρ H locs A Z ls X hl hP hD hS hZ
  exact lv_irem X.1 X.2.1 hd hne (k p l e s m args below meth c D aC ρ H locs A Z ls X hl hP hD hS hZ)
theorem zj_ineg {x : Int32} (hd : decode M.2.1 pc = .ok (.ineg, 1))  (k : zJ M rm al mc ms scr Q (pc + 1) (lv) (.int (-x) :: st) h ce sl) : zJ M rm al mc ms scr Q (pc) (lv) (.int x :: st) h ce sl := by
  intro p l e s m args below meth c D aC ρ H locs A Z ls X hl hP hD hS hZ
  exact lv_ineg X.1 X.2.1 hd (k p l e s m args below meth c D aC ρ H locs A Z ls X hl hP hD hS hZ)
theorem zj_ishr {x y : Int32} (hd : decode M.2.1 pc = .ok (.ishr, 1))  (k : zJ M rm al mc ms scr Q (pc + 1) (lv) (.int (x >>> (y &&& 31)) :: st) h ce sl) : zJ M rm al mc ms scr Q (pc) (lv) (.int y :: .int x :: st) h ce sl := by
  intro p l e s m args below meth c D aC ρ H locs A Z ls X hl hP hD hS hZ
  exact lv_ishr X.1 X.2.1 hd (k p l e s m args below meth c D aC ρ H locs A Z ls X hl hP hD hS hZ)
theorem zj_i2l {x : Int32} (hd : decode M.2.1 pc = .ok (.i2l, 1))  (k : zJ M rm al mc ms scr Q (pc + 1) (lv) (.long x.toInt64 :: st) h ce sl) : zJ M rm al mc ms scr Q (pc) (lv) (.int x :: st) h ce sl := by
  intro p l e s m args below meth c D aC ρ H locs A Z ls X hl hP hD hS hZ
  exact lv_i2l X.1 X.2.1 hd rfl (k p l e s m args below meth c D aC ρ H locs A Z ls X hl hP hD hS hZ)
theorem zj_l2i {x : Int64} (hd : decode M.2.1 pc = .ok (.l2i, 1))  (k : zJ M rm al mc ms scr Q (pc + 1) (lv) (.int x.toInt32 :: st) h ce sl) : zJ M rm al mc ms scr Q (pc) (lv) (.long x :: st) h ce sl := by
  intro p l e s m args below meth c D aC ρ H locs A Z ls X hl hP hD hS hZ
  exact lv_l2i X.1 X.2.1 hd rfl (k p l e s m args below meth c D aC ρ H locs A Z ls X hl hP hD hS hZ)
theorem zj_i2b {x : Int32} (hd : decode M.2.1 pc = .ok (.i2b, 1))  (k : zJ M rm al mc ms scr Q (pc + 1) (lv) (.int x.toInt8.toInt32 :: st) h ce sl) : zJ M rm al mc ms scr Q (pc) (lv) (.int x :: st) h ce sl := by
  intro p l e s m args below meth c D aC ρ H locs A Z ls X hl hP hD hS hZ
  exact lv_i2b X.1 X.2.1 hd rfl (k p l e s m args below meth c D aC ρ H locs A Z ls X hl hP hD hS hZ)
theorem zj_ladd {x y : Int64} (hd : decode M.2.1 pc = .ok (.ladd, 1))  (k : zJ M rm al mc ms scr Q (pc + 1) (lv) (.long (x + y) :: st) h ce sl) : zJ M rm al mc ms scr Q (pc) (lv) (.long y :: .long x :: st) h ce sl := by
  intro p l e s m args below meth c D aC ρ H locs A Z ls X hl hP hD hS hZ
  exact lv_ladd X.1 X.2.1 hd (k p l e s m args below meth c D aC ρ H locs A Z ls X hl hP hD hS hZ)
theorem zj_lsub {x y : Int64} (hd : decode M.2.1 pc = .ok (.lsub, 1))  (k : zJ M rm al mc ms scr Q (pc + 1) (lv) (.long (x - y) :: st) h ce sl) : zJ M rm al mc ms scr Q (pc) (lv) (.long y :: .long x :: st) h ce sl := by
  intro p l e s m args below meth c D aC ρ H locs A Z ls X hl hP hD hS hZ
  exact lv_lsub X.1 X.2.1 hd (k p l e s m args below meth c D aC ρ H locs A Z ls X hl hP hD hS hZ)
theorem zj_lmul {x y : Int64} (hd : decode M.2.1 pc = .ok (.lmul, 1))  (k : zJ M rm al mc ms scr Q (pc + 1) (lv) (.long (x * y) :: st) h ce sl) : zJ M rm al mc ms scr Q (pc) (lv) (.long y :: .long x :: st) h ce sl := by
  intro p l e s m args below meth c D aC ρ H locs A Z ls X hl hP hD hS hZ
  exact lv_lmul X.1 X.2.1 hd (k p l e s m args below meth c D aC ρ H locs A Z ls X hl hP hD hS hZ)
theorem zj_lrem {x y : Int64} (hd : decode M.2.1 pc = .ok (.lrem, 1)) (hne : ¬ y = 0) (k : zJ M rm al mc ms scr Q (pc + 1) (lv) (.long (x - x / y * y) :: st) h ce sl) : zJ M rm al mc ms scr Q (pc) (lv) (.long y :: .long x :: st) h ce sl := by
  intro p l e s m args below meth c D aC ρ H locs A Z ls X hl hP hD hS hZ
  exact lv_lrem X.1 X.2.1 hd hne (k p l e s m args below meth c D aC ρ H locs A Z ls X hl hP hD hS hZ)
theorem zj_lcmp {x y : Int64} (hd : decode M.2.1 pc = .ok (.lcmp, 1))  (k : zJ M rm al mc ms scr Q (pc + 1) (lv) (.int (lg_cmp x y) :: st) h ce sl) : zJ M rm al mc ms scr Q (pc) (lv) (.long y :: .long x :: st) h ce sl := by
  intro p l e s m args below meth c D aC ρ H locs A Z ls X hl hP hD hS hZ
  exact W.lcmp X.1 X.2.1 hd (k p l e s m args below meth c D aC ρ H locs A Z ls X hl hP hD hS hZ)
theorem zj_dup {v : Value} (hd : decode M.2.1 pc = .ok (.dup, 1)) (hv : v.category = 1) (k : zJ M rm al mc ms scr Q (pc + 1) (lv) (v :: v :: st) h ce sl) : zJ M rm al mc ms scr Q (pc) (lv) (v :: st) h ce sl := by
  intro p l e s m args below meth c D aC ρ H locs A Z ls X hl hP hD hS hZ
  exact lv_dup X.1 X.2.1 hd (by rw [zV_cat]; exact hv) (k p l e s m args below meth c D aC ρ H locs A Z ls X hl hP hD hS hZ)
theorem zj_dup2 {v w : Value} (hd : decode M.2.1 pc = .ok (.dup2, 1)) (hv : v.category = 1) (hw : w.category = 1) (k : zJ M rm al mc ms scr Q (pc + 1) (lv) (v :: w :: v :: w :: st) h ce sl) : zJ M rm al mc ms scr Q (pc) (lv) (v :: w :: st) h ce sl := by
  intro p l e s m args below meth c D aC ρ H locs A Z ls X hl hP hD hS hZ
  exact lv_dup2_11 X.1 X.2.1 hd (by rw [zV_cat]; exact hv) (by rw [zV_cat]; exact hw) (k p l e s m args below meth c D aC ρ H locs A Z ls X hl hP hD hS hZ)
theorem zj_goto {off : Int} {tgt : Nat} (hd : decode M.2.1 pc = .ok (.goto off, 3)) (ht : (pc : Int) + off = (tgt : Int)) (k : zJ M rm al mc ms scr Q (tgt) (lv) (st) h ce sl) : zJ M rm al mc ms scr Q (pc) (lv) (st) h ce sl := by
  intro p l e s m args below meth c D aC ρ H locs A Z ls X hl hP hD hS hZ
  exact lv_goto X.1 X.2.1 hd ht (k p l e s m args below meth c D aC ρ H locs A Z ls X hl hP hD hS hZ)
theorem zj_icmp_eq {x y : Int32} {off : Int} {tgt : Nat} (hd : decode M.2.1 pc = .ok (.if_icmp .eq off, 3)) (ht : (pc : Int) + off = (tgt : Int)) (kt : x = y → zJ M rm al mc ms scr Q (tgt) (lv) (st) h ce sl) (kf : ¬ x = y → zJ M rm al mc ms scr Q (pc + 3) (lv) (st) h ce sl) : zJ M rm al mc ms scr Q (pc) (lv) (.int y :: .int x :: st) h ce sl := by
  intro p l e s m args below meth c D aC ρ H locs A Z ls X hl hP hD hS hZ
  exact lv_icmp_eq X.1 X.2.1 hd ht (fun q => (kt q p l e s m args below meth c D aC ρ H locs A Z ls X hl hP hD hS hZ)) (fun q => (kf q p l e s m args below meth c D aC ρ H locs A Z ls X hl hP hD hS hZ))
theorem zj_icmp_ne {x y : Int32} {off : Int} {tgt : Nat} (hd : decode M.2.1 pc = .ok (.if_icmp .ne off, 3)) (ht : (pc : Int) + off = (tgt : Int)) (kt : ¬ x = y → zJ M rm al mc ms scr Q (tgt) (lv) (st) h ce sl) (kf : x = y → zJ M rm al mc ms scr Q (pc + 3) (lv) (st) h ce sl) : zJ M rm al mc ms scr Q (pc) (lv) (.int y :: .int x :: st) h ce sl := by
  intro p l e s m args below meth c D aC ρ H locs A Z ls X hl hP hD hS hZ
  exact lv_icmp_ne X.1 X.2.1 hd ht (fun q => (kt q p l e s m args below meth c D aC ρ H locs A Z ls X hl hP hD hS hZ)) (fun q => (kf q p l e s m args below meth c D aC ρ H locs A Z ls X hl hP hD hS hZ))
theorem zj_icmp_lt {x y : Int32} {off : Int} {tgt : Nat} (hd : decode M.2.1 pc = .ok (.if_icmp .lt off, 3)) (ht : (pc : Int) + off = (tgt : Int)) (kt : x < y → zJ M rm al mc ms scr Q (tgt) (lv) (st) h ce sl) (kf : ¬ x < y → zJ M rm al mc ms scr Q (pc + 3) (lv) (st) h ce sl) : zJ M rm al mc ms scr Q (pc) (lv) (.int y :: .int x :: st) h ce sl := by
  intro p l e s m args below meth c D aC ρ H locs A Z ls X hl hP hD hS hZ
  exact lv_icmp_lt X.1 X.2.1 hd ht (fun q => (kt q p l e s m args below meth c D aC ρ H locs A Z ls X hl hP hD hS hZ)) (fun q => (kf q p l e s m args below meth c D aC ρ H locs A Z ls X hl hP hD hS hZ))
theorem zj_icmp_ge {x y : Int32} {off : Int} {tgt : Nat} (hd : decode M.2.1 pc = .ok (.if_icmp .ge off, 3)) (ht : (pc : Int) + off = (tgt : Int)) (kt : y ≤ x → zJ M rm al mc ms scr Q (tgt) (lv) (st) h ce sl) (kf : ¬ y ≤ x → zJ M rm al mc ms scr Q (pc + 3) (lv) (st) h ce sl) : zJ M rm al mc ms scr Q (pc) (lv) (.int y :: .int x :: st) h ce sl := by
  intro p l e s m args below meth c D aC ρ H locs A Z ls X hl hP hD hS hZ
  exact lv_icmp_ge X.1 X.2.1 hd ht (fun q => (kt q p l e s m args below meth c D aC ρ H locs A Z ls X hl hP hD hS hZ)) (fun q => (kf q p l e s m args below meth c D aC ρ H locs A Z ls X hl hP hD hS hZ))
theorem zj_icmp_gt {x y : Int32} {off : Int} {tgt : Nat} (hd : decode M.2.1 pc = .ok (.if_icmp .gt off, 3)) (ht : (pc : Int) + off = (tgt : Int)) (kt : y < x → zJ M rm al mc ms scr Q (tgt) (lv) (st) h ce sl) (kf : ¬ y < x → zJ M rm al mc ms scr Q (pc + 3) (lv) (st) h ce sl) : zJ M rm al mc ms scr Q (pc) (lv) (.int y :: .int x :: st) h ce sl := by
  intro p l e s m args below meth c D aC ρ H locs A Z ls X hl hP hD hS hZ
  exact lv_icmp_gt X.1 X.2.1 hd ht (fun q => (kt q p l e s m args below meth c D aC ρ H locs A Z ls X hl hP hD hS hZ)) (fun q => (kf q p l e s m args below meth c D aC ρ H locs A Z ls X hl hP hD hS hZ))
theorem zj_icmp_le {x y : Int32} {off : Int} {tgt : Nat} (hd : decode M.2.1 pc = .ok (.if_icmp .le off, 3)) (ht : (pc : Int) + off = (tgt : Int)) (kt : x ≤ y → zJ M rm al mc ms scr Q (tgt) (lv) (st) h ce sl) (kf : ¬ x ≤ y → zJ M rm al mc ms scr Q (pc + 3) (lv) (st) h ce sl) : zJ M rm al mc ms scr Q (pc) (lv) (.int y :: .int x :: st) h ce sl := by
  intro p l e s m args below meth c D aC ρ H locs A Z ls X hl hP hD hS hZ
  exact lv_icmp_le X.1 X.2.1 hd ht (fun q => (kt q p l e s m args below meth c D aC ρ H locs A Z ls X hl hP hD hS hZ)) (fun q => (kf q p l e s m args below meth c D aC ρ H locs A Z ls X hl hP hD hS hZ))
theorem zj_if_eq {x : Int32} {off : Int} {tgt : Nat} (hd : decode M.2.1 pc = .ok (.ifCond .eq off, 3)) (ht : (pc : Int) + off = (tgt : Int)) (kt : x = 0 → zJ M rm al mc ms scr Q (tgt) (lv) (st) h ce sl) (kf : ¬ x = 0 → zJ M rm al mc ms scr Q (pc + 3) (lv) (st) h ce sl) : zJ M rm al mc ms scr Q (pc) (lv) (.int x :: st) h ce sl := by
  intro p l e s m args below meth c D aC ρ H locs A Z ls X hl hP hD hS hZ
  exact lv_if_eq X.1 X.2.1 hd ht (fun q => (kt q p l e s m args below meth c D aC ρ H locs A Z ls X hl hP hD hS hZ)) (fun q => (kf q p l e s m args below meth c D aC ρ H locs A Z ls X hl hP hD hS hZ))
theorem zj_if_ne {x : Int32} {off : Int} {tgt : Nat} (hd : decode M.2.1 pc = .ok (.ifCond .ne off, 3)) (ht : (pc : Int) + off = (tgt : Int)) (kt : ¬ x = 0 → zJ M rm al mc ms scr Q (tgt) (lv) (st) h ce sl) (kf : x = 0 → zJ M rm al mc ms scr Q (pc + 3) (lv) (st) h ce sl) : zJ M rm al mc ms scr Q (pc) (lv) (.int x :: st) h ce sl := by
  intro p l e s m args below meth c D aC ρ H locs A Z ls X hl hP hD hS hZ
  exact lv_if_ne X.1 X.2.1 hd ht (fun q => (kt q p l e s m args below meth c D aC ρ H locs A Z ls X hl hP hD hS hZ)) (fun q => (kf q p l e s m args below meth c D aC ρ H locs A Z ls X hl hP hD hS hZ))
theorem zj_if_lt {x : Int32} {off : Int} {tgt : Nat} (hd : decode M.2.1 pc = .ok (.ifCond .lt off, 3)) (ht : (pc : Int) + off = (tgt : Int)) (kt : x < 0 → zJ M rm al mc ms scr Q (tgt) (lv) (st) h ce sl) (kf : ¬ x < 0 → zJ M rm al mc ms scr Q (pc + 3) (lv) (st) h ce sl) : zJ M rm al mc ms scr Q (pc) (lv) (.int x :: st) h ce sl := by
  intro p l e s m args below meth c D aC ρ H locs A Z ls X hl hP hD hS hZ
  exact lv_if_lt X.1 X.2.1 hd ht (fun q => (kt q p l e s m args below meth c D aC ρ H locs A Z ls X hl hP hD hS hZ)) (fun q => (kf q p l e s m args below meth c D aC ρ H locs A Z ls X hl hP hD hS hZ))
theorem zj_if_ge {x : Int32} {off : Int} {tgt : Nat} (hd : decode M.2.1 pc = .ok (.ifCond .ge off, 3)) (ht : (pc : Int) + off = (tgt : Int)) (kt : 0 ≤ x → zJ M rm al mc ms scr Q (tgt) (lv) (st) h ce sl) (kf : ¬ 0 ≤ x → zJ M rm al mc ms scr Q (pc + 3) (lv) (st) h ce sl) : zJ M rm al mc ms scr Q (pc) (lv) (.int x :: st) h ce sl := by
  intro p l e s m args below meth c D aC ρ H locs A Z ls X hl hP hD hS hZ
  exact lv_if_ge X.1 X.2.1 hd ht (fun q => (kt q p l e s m args below meth c D aC ρ H locs A Z ls X hl hP hD hS hZ)) (fun q => (kf q p l e s m args below meth c D aC ρ H locs A Z ls X hl hP hD hS hZ))
theorem zj_if_gt {x : Int32} {off : Int} {tgt : Nat} (hd : decode M.2.1 pc = .ok (.ifCond .gt off, 3)) (ht : (pc : Int) + off = (tgt : Int)) (kt : 0 < x → zJ M rm al mc ms scr Q (tgt) (lv) (st) h ce sl) (kf : ¬ 0 < x → zJ M rm al mc ms scr Q (pc + 3) (lv) (st) h ce sl) : zJ M rm al mc ms scr Q (pc) (lv) (.int x :: st) h ce sl := by
  intro p l e s m args below meth c D aC ρ H locs A Z ls X hl hP hD hS hZ
  exact lv_if_gt X.1 X.2.1 hd ht (fun q => (kt q p l e s m args below meth c D aC ρ H locs A Z ls X hl hP hD hS hZ)) (fun q => (kf q p l e s m args below meth c D aC ρ H locs A Z ls X hl hP hD hS hZ))
theorem zj_if_le {x : Int32} {off : Int} {tgt : Nat} (hd : decode M.2.1 pc = .ok (.ifCond .le off, 3)) (ht : (pc : Int) + off = (tgt : Int)) (kt : x ≤ 0 → zJ M rm al mc ms scr Q (tgt) (lv) (st) h ce sl) (kf : ¬ x ≤ 0 → zJ M rm al mc ms scr Q (pc + 3) (lv) (st) h ce sl) : zJ M rm al mc ms scr Q (pc) (lv) (.int x :: st) h ce sl := by
  intro p l e s m args below meth c D aC ρ H locs A Z ls X hl hP hD hS hZ
  exact lv_if_le X.1 X.2.1 hd ht (fun q => (kt q p l e s m args below meth c D aC ρ H locs A Z ls X hl hP hD hS hZ)) (fun q => (kf q p l e s m args below meth c D aC ρ H locs A Z ls X hl hP hD hS hZ))
theorem zj_ifnull {x : Nat} {off : Int} (hd : decode M.2.1 pc = .ok (.ifnull off, 3))  (k : zJ M rm al mc ms scr Q (pc + 3) (lv) (st) h ce sl) : zJ M rm al mc ms scr Q (pc) (lv) (.ref x :: st) h ce sl := by
  intro p l e s m args below meth c D aC ρ H locs A Z ls X hl hP hD hS hZ
  exact lv_ifnull X.1 X.2.1 hd (k p l e s m args below meth c D aC ρ H locs A Z ls X hl hP hD hS hZ)
theorem zj_ifnullN  {off : Int} (hd : decode M.2.1 pc = .ok (.ifnull off, 3)) {tgt : Nat} (ht : (pc : Int) + off = (tgt : Int)) (k : zJ M rm al mc ms scr Q (tgt) (lv) (st) h ce sl) : zJ M rm al mc ms scr Q (pc) (lv) (.null :: st) h ce sl := by
  intro p l e s m args below meth c D aC ρ H locs A Z ls X hl hP hD hS hZ
  exact lv_ifnullN X.1 X.2.1 hd ht (k p l e s m args below meth c D aC ρ H locs A Z ls X hl hP hD hS hZ)
theorem zj_ifnonnull {x : Nat} {off : Int} (hd : decode M.2.1 pc = .ok (.ifnonnull off, 3)) {tgt : Nat} (ht : (pc : Int) + off = (tgt : Int)) (k : zJ M rm al mc ms scr Q (tgt) (lv) (st) h ce sl) : zJ M rm al mc ms scr Q (pc) (lv) (.ref x :: st) h ce sl := by
  intro p l e s m args below meth c D aC ρ H locs A Z ls X hl hP hD hS hZ
  exact lv_ifnonnull X.1 X.2.1 hd ht (k p l e s m args below meth c D aC ρ H locs A Z ls X hl hP hD hS hZ)
theorem zj_ifnonnullN  {off : Int} (hd : decode M.2.1 pc = .ok (.ifnonnull off, 3))  (k : zJ M rm al mc ms scr Q (pc + 3) (lv) (st) h ce sl) : zJ M rm al mc ms scr Q (pc) (lv) (.null :: st) h ce sl := by
  intro p l e s m args below meth c D aC ρ H locs A Z ls X hl hP hD hS hZ
  exact lv_ifnonnullN X.1 X.2.1 hd (k p l e s m args below meth c D aC ρ H locs A Z ls X hl hP hD hS hZ)
theorem zj_tin {dflt lo hi : Int} {offs : Array Int} {len : Nat} {x : Int32} {off : Int} {tgt : Nat} (hd : decode M.2.1 pc = .ok (.tableswitch dflt lo hi offs, len)) (h1 : ¬ x.toInt < lo) (h2 : ¬ hi < x.toInt) (ho : offs[(x.toInt - lo).toNat]? = some off) (ht : (pc : Int) + off = (tgt : Int)) (k : zJ M rm al mc ms scr Q (tgt) (lv) (st) h ce sl) : zJ M rm al mc ms scr Q (pc) (lv) (.int x :: st) h ce sl := by
  intro p l e s m args below meth c D aC ρ H locs A Z ls X hl hP hD hS hZ
  exact lv_tableIn X.1 X.2.1 hd h1 h2 ho ht (k p l e s m args below meth c D aC ρ H locs A Z ls X hl hP hD hS hZ)
theorem zj_tout {dflt lo hi : Int} {offs : Array Int} {len : Nat} {x : Int32} {tgt : Nat} (hd : decode M.2.1 pc = .ok (.tableswitch dflt lo hi offs, len)) (h1 : x.toInt < lo ∨ hi < x.toInt) (ht : (pc : Int) + dflt = (tgt : Int)) (k : zJ M rm al mc ms scr Q (tgt) (lv) (st) h ce sl) : zJ M rm al mc ms scr Q (pc) (lv) (.int x :: st) h ce sl := by
  intro p l e s m args below meth c D aC ρ H locs A Z ls X hl hP hD hS hZ
  exact lv_tableOut X.1 X.2.1 hd h1 ht (k p l e s m args below meth c D aC ρ H locs A Z ls X hl hP hD hS hZ)
theorem zj_iload_n {n : Fin 4} {x : Int32} (hd : decode M.2.1 pc = .ok (.iload_n n, 1)) (hi : lv[(n : Nat)]? = some (some (.int x))) (k : zJ M rm al mc ms scr Q (pc + 1) (lv) (.int x :: st) h ce sl) : zJ M rm al mc ms scr Q (pc) (lv) (st) h ce sl := by
  intro p l e s m args below meth c D aC ρ H locs A Z ls X hl hP hD hS hZ
  exact lv_iload_n X.1 X.2.1 hd rfl (zL_get hl hi) (k p l e s m args below meth c D aC ρ H locs A Z ls X hl hP hD hS hZ)
theorem zj_iload {n : Nat} {x : Int32} (hd : decode M.2.1 pc = .ok (.iload n, 2)) (hi : lv[n]? = some (some (.int x))) (k : zJ M rm al mc ms scr Q (pc + 2) (lv) (.int x :: st) h ce sl) : zJ M rm al mc ms scr Q (pc) (lv) (st) h ce sl := by
  intro p l e s m args below meth c D aC ρ H locs A Z ls X hl hP hD hS hZ
  exact lv_iload X.1 X.2.1 hd (zL_get hl hi) (k p l e s m args below meth c D aC ρ H locs A Z ls X hl hP hD hS hZ)
theorem zj_lload_n {n : Fin 4} {x : Int64} (hd : decode M.2.1 pc = .ok (.lload_n n, 1)) (hi : lv[(n : Nat)]? = some (some (.long x))) (k : zJ M rm al mc ms scr Q (pc + 1) (lv) (.long x :: st) h ce sl) : zJ M rm al mc ms scr Q (pc) (lv) (st) h ce sl := by
  intro p l e s m args below meth c D aC ρ H locs A Z ls X hl hP hD hS hZ
  exact lv_lload_n X.1 X.2.1 hd rfl (zL_get hl hi) (k p l e s m args below meth c D aC ρ H locs A Z ls X hl hP hD hS hZ)
theorem zj_lload {n : Nat} {x : Int64} (hd : decode M.2.1 pc = .ok (.lload n, 2)) (hi : lv[n]? = some (some (.long x))) (k : zJ M rm al mc ms scr Q (pc + 2) (lv) (.long x :: st) h ce sl) : zJ M rm al mc ms scr Q (pc) (lv) (st) h ce sl := by
  intro p l e s m args below meth c D aC ρ H locs A Z ls X hl hP hD hS hZ
  exact lv_lload X.1 X.2.1 hd (zL_get hl hi) (k p l e s m args below meth c D aC ρ H locs A Z ls X hl hP hD hS hZ)
theorem zj_aload_n {n : Fin 4} {x : Nat} (hd : decode M.2.1 pc = .ok (.aload_n n, 1)) (hi : lv[(n : Nat)]? = some (some (.ref x))) (k : zJ M rm al mc ms scr Q (pc + 1) (lv) (.ref x :: st) h ce sl) : zJ M rm al mc ms scr Q (pc) (lv) (st) h ce sl := by
  intro p l e s m args below meth c D aC ρ H locs A Z ls X hl hP hD hS hZ
  exact lv_aload_n X.1 X.2.1 hd rfl (zL_get hl hi) (k p l e s m args below meth c D aC ρ H locs A Z ls X hl hP hD hS hZ)
theorem zj_aload {n : Nat} {x : Nat} (hd : decode M.2.1 pc = .ok (.aload n, 2)) (hi : lv[n]? = some (some (.ref x))) (k : zJ M rm al mc ms scr Q (pc + 2) (lv) (.ref x :: st) h ce sl) : zJ M rm al mc ms scr Q (pc) (lv) (st) h ce sl := by
  intro p l e s m args below meth c D aC ρ H locs A Z ls X hl hP hD hS hZ
  exact lv_aload X.1 X.2.1 hd (zL_get hl hi) (k p l e s m args below meth c D aC ρ H locs A Z ls X hl hP hD hS hZ)
theorem zj_aload_nN {n : Fin 4} (hd : decode M.2.1 pc = .ok (.aload_n n, 1)) (hi : lv[(n : Nat)]? = some (some .null)) (k : zJ M rm al mc ms scr Q (pc + 1) (lv) (.null :: st) h ce sl) : zJ M rm al mc ms scr Q (pc) (lv) (st) h ce sl := by
  intro p l e s m args below meth c D aC ρ H locs A Z ls X hl hP hD hS hZ
  exact lv_aload_nN X.1 X.2.1 hd rfl (zL_get hl hi) (k p l e s m args below meth c D aC ρ H locs A Z ls X hl hP hD hS hZ)
theorem zj_aloadN {n : Nat} (hd : decode M.2.1 pc = .ok (.aload n, 2)) (hi : lv[n]? = some (some .null)) (k : zJ M rm al mc ms scr Q (pc + 2) (lv) (.null :: st) h ce sl) : zJ M rm al mc ms scr Q (pc) (lv) (st) h ce sl := by
  intro p l e s m args below meth c D aC ρ H locs A Z ls X hl hP hD hS hZ
  exact lv_aloadN X.1 X.2.1 hd (zL_get hl hi) (k p l e s m args below meth c D aC ρ H locs A Z ls X hl hP hD hS hZ)
theorem zj_istore_n {n : Fin 4} {x : Int32} (hd : decode M.2.1 pc = .ok (.istore_n n, 1)) (hn : (n : Nat) < M.2.2.1) (k : zJ M rm al mc ms scr Q (pc + 1) (zst n (.int x) lv) (st) h ce sl) : zJ M rm al mc ms scr Q (pc) (lv) (.int x :: st) h ce sl := by
  intro p l e s m args below meth c D aC ρ H locs A Z ls X hl hP hD hS hZ
  exact lv_istore_n X.1 X.2.1 hd rfl (zL_A hl) hn rfl (fun ls' hl' => (k p l e s m args below meth c D aC ρ H locs A Z ls' X (zL_st hl') hP hD hS hZ))
theorem zj_istore {n : Nat} {x : Int32} (hd : decode M.2.1 pc = .ok (.istore n, 2)) (hn : n < M.2.2.1) (k : zJ M rm al mc ms scr Q (pc + 2) (zst n (.int x) lv) (st) h ce sl) : zJ M rm al mc ms scr Q (pc) (lv) (.int x :: st) h ce sl := by
  intro p l e s m args below meth c D aC ρ H locs A Z ls X hl hP hD hS hZ
  exact lv_istore X.1 X.2.1 hd (zL_A hl) hn rfl (fun ls' hl' => (k p l e s m args below meth c D aC ρ H locs A Z ls' X (zL_st hl') hP hD hS hZ))
theorem zj_astore_n {n : Fin 4} {x : Nat} (hd : decode M.2.1 pc = .ok (.astore_n n, 1)) (hn : (n : Nat) < M.2.2.1) (k : zJ M rm al mc ms scr Q (pc + 1) (zst n (.ref x) lv) (st) h ce sl) : zJ M rm al mc ms scr Q (pc) (lv) (.ref x :: st) h ce sl := by
  intro p l e s m args below meth c D aC ρ H locs A Z ls X hl hP hD hS hZ
  exact lv_astore_n X.1 X.2.1 hd rfl (zL_A hl) hn rfl (fun ls' hl' => (k p l e s m args below meth c D aC ρ H locs A Z ls' X (zL_st hl') hP hD hS hZ))
theorem zj_astore {n : Nat} {x : Nat} (hd : decode M.2.1 pc = .ok (.astore n, 2)) (hn : n < M.2.2.1) (k : zJ M rm al mc ms scr Q (pc + 2) (zst n (.ref x) lv) (st) h ce sl) : zJ M rm al mc ms scr Q (pc) (lv) (.ref x :: st) h ce sl := by
  intro p l e s m args below meth c D aC ρ H locs A Z ls X hl hP hD hS hZ
  exact lv_astore X.1 X.2.1 hd (zL_A hl) hn rfl (fun ls' hl' => (k p l e s m args below meth c D aC ρ H locs A Z ls' X (zL_st hl') hP hD hS hZ))
theorem zj_astore_nN {n : Fin 4} (hd : decode M.2.1 pc = .ok (.astore_n n, 1)) (hn : (n : Nat) < M.2.2.1) (k : zJ M rm al mc ms scr Q (pc + 1) (zst n .null lv) (st) h ce sl) : zJ M rm al mc ms scr Q (pc) (lv) (.null :: st) h ce sl := by
  intro p l e s m args below meth c D aC ρ H locs A Z ls X hl hP hD hS hZ
  exact lv_astore_nN X.1 X.2.1 hd rfl (zL_A hl) hn rfl (fun ls' hl' => (k p l e s m args below meth c D aC ρ H locs A Z ls' X (zL_st hl') hP hD hS hZ))
theorem zj_astoreN {n : Nat} (hd : decode M.2.1 pc = .ok (.astore n, 2)) (hn : n < M.2.2.1) (k : zJ M rm al mc ms scr Q (pc + 2) (zst n .null lv) (st) h ce sl) : zJ M rm al mc ms scr Q (pc) (lv) (.null :: st) h ce sl := by
  intro p l e s m args below meth c D aC ρ H locs A Z ls X hl hP hD hS hZ
  exact lv_astoreN X.1 X.2.1 hd (zL_A hl) hn rfl (fun ls' hl' => (k p l e s m args below meth c D aC ρ H locs A Z ls' X (zL_st hl') hP hD hS hZ))
theorem zj_lstore_n {n : Fin 4} {x : Int64} (hd : decode M.2.1 pc = .ok (.lstore_n n, 1)) (hn : (n : Nat) + 1 < M.2.2.1) (k : zJ M rm al mc ms scr Q (pc + 1) (zst2 n (.long x) lv) (st) h ce sl) : zJ M rm al mc ms scr Q (pc) (lv) (.long x :: st) h ce sl := by
  intro p l e s m args below meth c D aC ρ H locs A Z ls X hl hP hD hS hZ
  exact lv_lstore_n X.1 X.2.1 hd rfl (zL_A hl) hn rfl (fun ls' hl' => (k p l e s m args below meth c D aC ρ H locs A Z ls' X (zL_st2 hl') hP hD hS hZ))
theorem zj_lstore {n : Nat} {x : Int64} (hd : decode M.2.1 pc = .ok (.lstore n, 2)) (hn : n + 1 < M.2.2.1) (k : zJ M rm al mc ms scr Q (pc + 2) (zst2 n (.long x) lv) (st) h ce sl) : zJ M rm al mc ms scr Q (pc) (lv) (.long x :: st) h ce sl := by
  intro p l e s m args below meth c D aC ρ H locs A Z ls X hl hP hD hS hZ
  exact lv_lstore X.1 X.2.1 hd (zL_A hl) hn rfl (fun ls' hl' => (k p l e s m args below meth c D aC ρ H locs A Z ls' X (zL_st2 hl') hP hD hS hZ))
theorem zj_iinc {i : Nat} {n : Int} {x : Int32} (hd : decode M.2.1 pc = .ok (.iinc i n, 3)) (hi : lv[i]? = some (some (.int x))) (hn : i < M.2.2.1) (k : zJ M rm al mc ms scr Q (pc + 3) (zst i (.int (x + Int32.ofInt n)) lv) (st) h ce sl) : zJ M rm al mc ms scr Q (pc) (lv) (st) h ce sl := by
  intro p l e s m args below meth c D aC ρ H locs A Z ls X hl hP hD hS hZ
  obtain ⟨j, hj⟩ := List.mem_iff_getElem?.mp (zA_mem (ρ := ρ) hi)
  exact lv_iinc X.1 X.2.1 hd (zL_A hl) hj rfl hn rfl (fun ls' hl' => (k p l e s m args below meth c D aC ρ H locs A Z ls' X (zL_st hl') hP hD hS hZ))
end ZR
end
section
section ZP
variable {M : zM} {rm : Room} {al : Bool} {mc ms : Nat} {scr : Option (Nat × (Nat → Int32))} {Q : Option Value → zH → Prop} {pc : Nat} {lv : List (Option Value)} {st : List Value} {h : zH} {ce sl : Nat}
theorem zj_get {ci N idx k o : Nat} {C : String} {T : u_T} {fs : List Value} {v : Value} (hd : decode M.2.1 pc = .ok (.getfield idx, 3)) (hin : ∀ w ∈ u_ws C T N, w ∈ zT) (hc : vwCl[ci]? = some (C, T, N)) (hk : k < N) (hw : Cond.fieldLink M.1.cls idx (T k).1 (T k).2.1 (T k).2.2.1 ∈ zT) (he : h[o]? = some (.inr (ci, fs))) (hv : fs[k]? = some v) (k : zJ M rm al mc ms scr Q (pc + 3) (lv) (v :: st) (h) (ce) (sl)) : zJ M rm al mc ms scr Q (pc) (lv) (.ref o :: st) (h) (ce) (sl) := by
  intro p l e s m args below meth c D aC ρ H locs A Z ls X hl hP hD hS hZ
  exact va_get X.1 X.2.1 X.2.2.2.2.1 hin X.2.2.2.1 X.2.2.2.2.2.1 hP o (zC_get he) hc _ hk (X.2.2.2.2.1 _ hw) (fun _ h9 => h9) (by rw [List.getElem?_map, hv]; rfl) hd (k p l e s m args below meth c D aC ρ H locs A Z ls X hl hP hD hS hZ)
theorem zj_put {ci N idx k o : Nat} {C : String} {T : u_T} {fs : List Value} {v : Value} (ty0 : Nat → FieldType) {ty : FieldType} (hd : decode M.2.1 pc = .ok (.putfield idx, 3)) (hin : ∀ w ∈ u_ws C T N, w ∈ zT) (hty : ∀ k, k < N → parseFieldDescriptor (T k).2.2.1 = some (ty0 k)) (hnm : ∀ a, a < N → ∀ b, b < N → a ≠ b → (T a).2.1 ≠ (T b).2.1) (hc : vwCl[ci]? = some (C, T, N)) (hk : k < N) (hw : Cond.fieldLink M.1.cls idx (T k).1 (T k).2.1 (T k).2.2.1 ∈ zT) (hfin : (T k).2.2.2 = false) (hpd : parseFieldDescriptor (T k).2.2.1 = some ty) (he : h[o]? = some (.inr (ci, fs))) (hl0 : k < fs.length) (hn : ∀ ρ, narrow ty (zV ρ v) = zV ρ v) (hf : ∀ ρ, fits ty (zV ρ v) = true) (k : zJ M rm al mc ms scr Q (pc + 3) (lv) (st) (h.set o (.inr (ci, fs.set k v))) (ce) (sl)) : zJ M rm al mc ms scr Q (pc) (lv) (v :: .ref o :: st) (h) (ce) (sl) := by
  intro p l e s m args below meth c D aC ρ H locs A Z ls X hl hP hD hS hZ
  refine va_put X.1 X.2.1 X.2.2.2.2.1 hin ty0 hty hnm X.2.2.2.1 X.2.2.2.2.2.1 hP hD hS o (zC_get he) hc _ hk (X.2.2.2.2.1 _ hw) (fun _ h9 => h9) hfin hpd (hn ρ) (hf ρ) (by rw [List.length_map]; exact hl0) hd (fun H1 locs1 hP1 hD1 hS1 => ?_)
  rw [← List.map_set] at hP1 hD1
  exact (k p l e s m args below meth c D aC ρ H1 locs1 A Z ls X hl (by rw [← zC_set]; exact hP1) (by rw [← zC_set]; exact hD1) hS1 (fun ρ' H' locs' ls' pc' ri v h' a b => hZ ρ' H' locs' ls' pc' ri v h' a (by rw [List.length_set] at b; exact b)))
theorem zj_putF {ci N idx k o : Nat} {C : String} {T : u_T} {fs : List Value} {v : Value} (ty0 : Nat → FieldType) {ty : FieldType} (hd : decode M.2.1 pc = .ok (.putfield idx, 3)) (hin : ∀ w ∈ u_ws C T N, w ∈ zT) (hty : ∀ k, k < N → parseFieldDescriptor (T k).2.2.1 = some (ty0 k)) (hnm : ∀ a, a < N → ∀ b, b < N → a ≠ b → (T a).2.1 ≠ (T b).2.1) (hc : vwCl[ci]? = some (C, T, N)) (hk : k < N) (hw : Cond.fieldLink M.1.cls idx (T k).1 (T k).2.1 (T k).2.2.1 ∈ zT) (hfin : (T k).2.2.2 = true) (hini : M.1.name = "<init>") (hdecl : (T k).1 = M.1.cls) (hpd : parseFieldDescriptor (T k).2.2.1 = some ty) (he : h[o]? = some (.inr (ci, fs))) (hl0 : k < fs.length) (hn : ∀ ρ, narrow ty (zV ρ v) = zV ρ v) (hf : ∀ ρ, fits ty (zV ρ v) = true) (k : zJ M rm al mc ms scr Q (pc + 3) (lv) (st) (h.set o (.inr (ci, fs.set k v))) (ce) (sl)) : zJ M rm al mc ms scr Q (pc) (lv) (v :: .ref o :: st) (h) (ce) (sl) := by
  intro p l e s m args below meth c D aC ρ H locs A Z ls X hl hP hD hS hZ
  refine va_putF X.1 X.2.1 X.2.2.2.2.1 hin ty0 hty hnm X.2.2.2.1 X.2.2.2.2.2.1 hP hD hS o (zC_get he) hc _ hk (X.2.2.2.2.1 _ hw) (fun _ h9 => h9) hfin (X.2.2.2.2.2.2.2.1 hini) hdecl hpd (hn ρ) (hf ρ) (by rw [List.length_map]; exact hl0) hd (fun H1 locs1 hP1 hD1 hS1 => ?_)
  rw [← List.map_set] at hP1 hD1
  exact (k p l e s m args below meth c D aC ρ H1 locs1 A Z ls X hl (by rw [← zC_set]; exact hP1) (by rw [← zC_set]; exact hD1) hS1 (fun ρ' H' locs' ls' pc' ri v h' a b => hZ ρ' H' locs' ls' pc' ri v h' a (by rw [List.length_set] at b; exact b)))
theorem zj_iald {o n : Nat} {f : Nat → Int32} {i : Int32} (hd : decode M.2.1 pc = .ok (.iaload, 1)) (ha : h[o]? = some (.inl (1, n, .inl f))) (hin : vp_in i n) (k : zJ M rm al mc ms scr Q (pc + 1) (lv) (.int (f i.toNatClampNeg) :: st) (h) (ce) (sl)) : zJ M rm al mc ms scr Q (pc) (lv) (.int i :: .ref o :: st) (h) (ce) (sl) := by
  intro p l e s m args below meth c D aC ρ H locs A Z ls X hl hP hD hS hZ
  exact va_iald X.1 X.2.1 X.2.2.2.2.2.1 hP o 1 (zC_get ha) rfl hin hd (k p l e s m args below meth c D aC ρ H locs A Z ls X hl hP hD hS hZ)
theorem zj_bald {o n : Nat} {f : Nat → Int32} {i : Int32} (hd : decode M.2.1 pc = .ok (.baload, 1)) (ha : h[o]? = some (.inl (0, n, .inl f))) (hin : vp_in i n) (k : zJ M rm al mc ms scr Q (pc + 1) (lv) (.int (f i.toNatClampNeg) :: st) (h) (ce) (sl)) : zJ M rm al mc ms scr Q (pc) (lv) (.int i :: .ref o :: st) (h) (ce) (sl) := by
  intro p l e s m args below meth c D aC ρ H locs A Z ls X hl hP hD hS hZ
  exact va_bald X.1 X.2.1 X.2.2.2.2.2.1 hP o 0 (zC_get ha) rfl hin hd (k p l e s m args below meth c D aC ρ H locs A Z ls X hl hP hD hS hZ)
theorem zj_lald {o n : Nat} {f : Nat → Int64} {i : Int32} (hd : decode M.2.1 pc = .ok (.laload, 1)) (ha : h[o]? = some (.inl (2, n, .inr (.inl f)))) (hin : vp_in i n) (k : zJ M rm al mc ms scr Q (pc + 1) (lv) (.long (f i.toNatClampNeg) :: st) (h) (ce) (sl)) : zJ M rm al mc ms scr Q (pc) (lv) (.int i :: .ref o :: st) (h) (ce) (sl) := by
  intro p l e s m args below meth c D aC ρ H locs A Z ls X hl hP hD hS hZ
  exact va_lald X.1 X.2.1 X.2.2.2.2.2.1 hP o 2 (zC_get ha) rfl hin hd (k p l e s m args below meth c D aC ρ H locs A Z ls X hl hP hD hS hZ)
theorem zj_aald {o n t : Nat} {E : String} {f : Nat → Option Nat} {i : Int32} (hd : decode M.2.1 pc = .ok (.aaload, 1)) (ha : h[o]? = some (.inl (t, n, .inr (.inr (.inr (.inr f)))))) (ht : ∀ aC, (zTy aC)[t]? = some (aC t, .object E)) (hin : vp_in i n) (k : zJ M rm al mc ms scr Q (pc + 1) (lv) (va_rf (f i.toNatClampNeg) :: st) (h) (ce) (sl)) : zJ M rm al mc ms scr Q (pc) (lv) (.int i :: .ref o :: st) (h) (ce) (sl) := by
  intro p l e s m args below meth c D aC ρ H locs A Z ls X hl hP hD hS hZ
  refine va_aldq X.1 X.2.1 X.2.2.2.2.2.1 hP o t (zC_get ha) (ht aC) hin hd ?_
  have ee : va_rf ((f i.toNatClampNeg).map ρ) = zV ρ (va_rf (f i.toNatClampNeg)) := by cases f i.toNatClampNeg <;> rfl
  rw [ee]
  exact (k p l e s m args below meth c D aC ρ H locs A Z ls X hl hP hD hS hZ)
theorem zj_alenI {o n t : Nat} {f : Nat → Int32} (hd : decode M.2.1 pc = .ok (.arraylength, 1)) (ha : h[o]? = some (.inl (t, n, .inl f))) (ht : t < 6) (k : zJ M rm al mc ms scr Q (pc + 1) (lv) (.int (nI n) :: st) (h) (ce) (sl)) : zJ M rm al mc ms scr Q (pc) (lv) (.ref o :: st) (h) (ce) (sl) := by
  intro p l e s m args below meth c D aC ρ H locs A Z ls X hl hP hD hS hZ
  obtain ⟨ty, hty⟩ : ∃ ty, (zTy aC)[t]? = some (aC t, ty) := by
    have : t = 0 ∨ t = 1 ∨ t = 2 ∨ t = 3 ∨ t = 4 ∨ t = 5 := by omega
    rcases this with rfl | rfl | rfl | rfl | rfl | rfl <;> exact ⟨_, rfl⟩
  exact va_alen X.1 X.2.1 X.2.2.2.2.2.1 hP o t (zC_get ha) hty rfl hd (k p l e s m args below meth c D aC ρ H locs A Z ls X hl hP hD hS hZ)
theorem zj_alenA {o n t : Nat} {f : Nat → Option Nat} (hd : decode M.2.1 pc = .ok (.arraylength, 1)) (ha : h[o]? = some (.inl (t, n, .inr (.inr (.inr (.inr f)))))) (ht : t < 6) (k : zJ M rm al mc ms scr Q (pc + 1) (lv) (.int (nI n) :: st) (h) (ce) (sl)) : zJ M rm al mc ms scr Q (pc) (lv) (.ref o :: st) (h) (ce) (sl) := by
  intro p l e s m args below meth c D aC ρ H locs A Z ls X hl hP hD hS hZ
  obtain ⟨ty, hty⟩ : ∃ ty, (zTy aC)[t]? = some (aC t, ty) := by
    have : t = 0 ∨ t = 1 ∨ t = 2 ∨ t = 3 ∨ t = 4 ∨ t = 5 := by omega
    rcases this with rfl | rfl | rfl | rfl | rfl | rfl <;> exact ⟨_, rfl⟩
  exact va_alen X.1 X.2.1 X.2.2.2.2.2.1 hP o t (zC_get ha) hty rfl hd (k p l e s m args below meth c D aC ρ H locs A Z ls X hl hP hD hS hZ)
theorem zj_iast {o n : Nat} {f : Nat → Int32} {i : Int32} {x : Int32} (hd : decode M.2.1 pc = .ok (.iastore, 1)) (ha : h[o]? = some (.inl (1, n, .inl f))) (hin : vp_in i n) (k : zJ M rm al mc ms scr Q (pc + 1) (lv) (st) (h.set o (.inl (1, n, .inl (upd f i.toNatClampNeg x)))) (ce) (sl)) : zJ M rm al mc ms scr Q (pc) (lv) (.int x :: .int i :: .ref o :: st) (h) (ce) (sl) := by
  intro p l e s m args below meth c D aC ρ H locs A Z ls X hl hP hD hS hZ
  exact va_iast X.1 X.2.1 X.2.2.2.2.2.1 hP hD hS o 1 (zC_get ha) rfl hin hd (fun H1 locs1 hP1 hD1 hS1 => (k p l e s m args below meth c D aC ρ H1 locs1 A Z ls X hl (by rw [← zC_set]; exact hP1) (by rw [← zC_set]; exact hD1) hS1 (fun ρ' H' locs' ls' pc' ri v h' a b => hZ ρ' H' locs' ls' pc' ri v h' a (by rw [List.length_set] at b; exact b))))
theorem zj_bast {o n : Nat} {f : Nat → Int32} {i : Int32} {x : Int32} (hd : decode M.2.1 pc = .ok (.bastore, 1)) (ha : h[o]? = some (.inl (0, n, .inl f))) (hin : vp_in i n) (k : zJ M rm al mc ms scr Q (pc + 1) (lv) (st) (h.set o (.inl (0, n, .inl (upd f i.toNatClampNeg (vp_nar .byte x))))) (ce) (sl)) : zJ M rm al mc ms scr Q (pc) (lv) (.int x :: .int i :: .ref o :: st) (h) (ce) (sl) := by
  intro p l e s m args below meth c D aC ρ H locs A Z ls X hl hP hD hS hZ
  exact va_bast X.1 X.2.1 X.2.2.2.2.2.1 hP hD hS o 0 (zC_get ha) rfl hin hd (fun H1 locs1 hP1 hD1 hS1 => (k p l e s m args below meth c D aC ρ H1 locs1 A Z ls X hl (by rw [← zC_set]; exact hP1) (by rw [← zC_set]; exact hD1) hS1 (fun ρ' H' locs' ls' pc' ri v h' a b => hZ ρ' H' locs' ls' pc' ri v h' a (by rw [List.length_set] at b; exact b))))
theorem zj_last {o n : Nat} {f : Nat → Int64} {i : Int32} {x : Int64} (hd : decode M.2.1 pc = .ok (.lastore, 1)) (ha : h[o]? = some (.inl (2, n, .inr (.inl f)))) (hin : vp_in i n) (k : zJ M rm al mc ms scr Q (pc + 1) (lv) (st) (h.set o (.inl (2, n, .inr (.inl (vp_updL f i.toNatClampNeg x))))) (ce) (sl)) : zJ M rm al mc ms scr Q (pc) (lv) (.long x :: .int i :: .ref o :: st) (h) (ce) (sl) := by
  intro p l e s m args below meth c D aC ρ H locs A Z ls X hl hP hD hS hZ
  exact va_last X.1 X.2.1 X.2.2.2.2.2.1 hP hD hS o 2 (zC_get ha) rfl hin hd (fun H1 locs1 hP1 hD1 hS1 => (k p l e s m args below meth c D aC ρ H1 locs1 A Z ls X hl (by rw [← zC_set]; exact hP1) (by rw [← zC_set]; exact hD1) hS1 (fun ρ' H' locs' ls' pc' ri v h' a b => hZ ρ' H' locs' ls' pc' ri v h' a (by rw [List.length_set] at b; exact b))))
theorem zj_aast {o n t ci v : Nat} {vs : List Value} {f : Nat → Option Nat} {i : Int32} {r : vw_C} (hd : decode M.2.1 pc = .ok (.aastore, 1)) (ha : h[o]? = some (.inl (t, n, .inr (.inr (.inr (.inr f)))))) (ht : ∀ aC, (zTy aC)[t]? = some (aC t, .object r.1)) (hv : h[v]? = some (.inr (ci, vs))) (hc : vwCl[ci]? = some r) (hin : vp_in i n) (k : zJ M rm al mc ms scr Q (pc + 1) (lv) (st) (h.set o (.inl (t, n, .inr (.inr (.inr (.inr (va_up f i.toNatClampNeg (some v)))))))) (ce) (sl)) : zJ M rm al mc ms scr Q (pc) (lv) (.ref v :: .int i :: .ref o :: st) (h) (ce) (sl) := by
  intro p l e s m args below meth c D aC ρ H locs A Z ls X hl hP hD hS hZ
  refine va_astq X.1 X.2.1 X.2.2.2.2.2.1 hP hD hS o t v ci (zC_get ha) (ht aC) (zC_get hv) hc hin hd (fun H1 locs1 hP1 hD1 hS1 => ?_)
  have ee : va_up (fun i => (f i).map ρ) i.toNatClampNeg (some (ρ v)) = fun j => (va_up f i.toNatClampNeg (some v) j).map ρ := by
    funext j
    by_cases hj : j = i.toNatClampNeg <;> simp [va_up, hj]
  rw [ee] at hP1 hD1
  exact (k p l e s m args below meth c D aC ρ H1 locs1 A Z ls X hl (by rw [← zC_set]; exact hP1) (by rw [← zC_set]; exact hD1) hS1 (fun ρ' H' locs' ls' pc' ri v h' a b => hZ ρ' H' locs' ls' pc' ri v h' a (by rw [List.length_set] at b; exact b)))
theorem zj_copyb {o0 o1 n0 n1 idx : Nat} {f g : Nat → Int32} {sp dp n : Int32} (hd : decode M.2.1 pc = .ok (.invokestatic idx, 3)) (hw : Cond.methodLink M.1.cls idx arraycopyName ∈ zT) (ha0 : h[o0]? = some (.inl (0, n0, .inl f))) (ha1 : h[o1]? = some (.inl (0, n1, .inl g))) (h1 : ¬ sp < 0) (h2 : ¬ dp < 0) (h3 : ¬ n < 0) (h4 : sp.toNatClampNeg + n.toNatClampNeg ≤ n0) (h5 : dp.toNatClampNeg + n.toNatClampNeg ≤ n1) (hfit : ∀ i, i < n.toNatClampNeg → fits .byte (.int (f (sp.toNatClampNeg + i))) = true) (hfr : 1 ≤ rm.frames) (hlo : (st.map Value.category).sum + (nativeFrameWords "java/lang/System" "arraycopy" 5 + 11) ≤ rm.locals) (k : zJ M rm al mc ms scr Q (pc + 3) (lv) (st) (h.set o1 (.inl (0, n1, .inl (va_cpy f g sp.toNatClampNeg dp.toNatClampNeg n.toNatClampNeg)))) (ce) (sl)) : zJ M rm al mc ms scr Q (pc) (lv) (.int n :: .int dp :: .ref o1 :: .int sp :: .ref o0 :: st) (h) (ce) (sl) := by
  intro p l e s m args below meth c D aC ρ H locs A Z ls X hl hP hD hS hZ
  exact va_copyi X.1 X.2.1 (by rw [hl.1]; exact X.2.2.1) X.2.2.2.1 (X.2.2.2.2.1 _ hw) (X.2.2.2.2.1 _ zq_323) (X.2.2.2.2.1 _ zq_322) (X.2.2.2.2.1 _ zq_54) X.2.2.2.2.2.1 hP hD hS o0 o1 0 0 (zC_get ha0) (zC_get ha1) rfl rfl rfl h1 h2 h3 h4 h5 hfit hfr (by rw [List.map_map]; simpa [Function.comp_def, zV_cat] using hlo) hd (fun H1 locs1 hP1 hD1 hS1 => (k p l e s m args below meth c D aC ρ H1 locs1 A Z ls X hl (by rw [← zC_set]; exact hP1) (by rw [← zC_set]; exact hD1) hS1 (fun ρ' H' locs' ls' pc' ri v h' a b => hZ ρ' H' locs' ls' pc' ri v h' a (by rw [List.length_set] at b; exact b))))
theorem zj_sld {L : Nat} {xs : Nat → Int32} {i : Int32} (hd : decode M.2.1 pc = .ok (.iaload, 1)) (hs : scr = some (L, xs)) (hin : vp_in i L) (k : zJ M rm al mc ms scr Q (pc + 1) (lv) (.int (xs i.toNatClampNeg) :: st) (h) (ce) (sl)) : zJ M rm al mc ms scr Q (pc) (lv) (.int i :: .ref zS :: st) (h) (ce) (sl) := by
  intro p l e s m args below meth c D aC ρ H locs A Z ls X hl hP hD hS hZ
  obtain ⟨hX, hbl, hbA⟩ := X.2.2.2.2.2.2.2.2.2 L xs hs
  exact va_sld X.1 X.2.1 hX hbl hbA hS hin hd (k p l e s m args below meth c D aC ρ H locs A Z ls X hl hP hD hS hZ)
theorem zj_slen {L : Nat} {xs : Nat → Int32} (hd : decode M.2.1 pc = .ok (.arraylength, 1)) (hs : scr = some (L, xs)) (k : zJ M rm al mc ms scr Q (pc + 1) (lv) (.int (nI L) :: st) (h) (ce) (sl)) : zJ M rm al mc ms scr Q (pc) (lv) (.ref zS :: st) (h) (ce) (sl) := by
  intro p l e s m args below meth c D aC ρ H locs A Z ls X hl hP hD hS hZ
  obtain ⟨hX, hbl, hbA⟩ := X.2.2.2.2.2.2.2.2.2 L xs hs
  exact va_slen X.1 X.2.1 hX hbl hbA hS hd (k p l e s m args below meth c D aC ρ H locs A Z ls X hl hP hD hS hZ)
theorem zj_ret {ri : Instr} {v : Option Value} (hd : decode M.2.1 pc = .ok (ri, 1)) (hr : zRet M.2.2.2 ri v) (hce : ce ≤ mc) (hsl : sl ≤ ms) (hQ : Q v h) : zJ M rm al mc ms scr Q (pc) (lv) (v.toList) (h) (ce) (sl) := by
  intro p l e s m args below meth c D aC ρ H locs A Z ls X hl hP hD hS hZ
  exact W.widen hce hsl (hZ ρ H locs ls pc ri v h hQ ⟨fun _ => ⟨rfl, rfl⟩, Nat.le_refl _, fun _ _ => rfl⟩ hP hD hS hd hr)
theorem zj_iret {x : Int32} (hd : decode M.2.1 pc = .ok (.ireturn, 1)) (hr : M.2.2.2 = some .int) (hce : ce ≤ mc) (hsl : sl ≤ ms) (hQ : Q (some (.int x)) h) : zJ M rm al mc ms scr Q (pc) (lv) (.int x :: []) (h) (ce) (sl) := zj_ret (v := some (.int x)) hd (Or.inl ⟨rfl, .int, x, hr, rfl, rfl⟩) hce hsl hQ
theorem zj_zret {x : Int32} (hd : decode M.2.1 pc = .ok (.ireturn, 1)) (hr : M.2.2.2 = some .boolean) (hx : x = 0 ∨ x = 1) (hce : ce ≤ mc) (hsl : sl ≤ ms) (hQ : Q (some (.int x)) h) : zJ M rm al mc ms scr Q (pc) (lv) (.int x :: []) (h) (ce) (sl) := zj_ret (v := some (.int x)) hd (Or.inl ⟨rfl, .boolean, x, hr, rfl, by rcases hx with rfl | rfl <;> decide +kernel⟩) hce hsl hQ
theorem zj_lret {x : Int64} (hd : decode M.2.1 pc = .ok (.lreturn, 1)) (hr : M.2.2.2 = some .long) (hce : ce ≤ mc) (hsl : sl ≤ ms) (hQ : Q (some (.long x)) h) : zJ M rm al mc ms scr Q (pc) (lv) (.long x :: []) (h) (ce) (sl) := zj_ret (v := some (.long x)) hd (Or.inr (Or.inl ⟨rfl, hr, x, rfl⟩)) hce hsl hQ
theorem zj_aret {x : Nat} {n : String} (hd : decode M.2.1 pc = .ok (.areturn, 1)) (hr : M.2.2.2 = some (.object n)) (hce : ce ≤ mc) (hsl : sl ≤ ms) (hQ : Q (some (.ref x)) h) : zJ M rm al mc ms scr Q (pc) (lv) (.ref x :: []) (h) (ce) (sl) := zj_ret (v := some (.ref x)) hd (Or.inr (Or.inr (Or.inl ⟨rfl, ⟨n, hr⟩, Or.inl ⟨x, rfl⟩⟩))) hce hsl hQ
theorem zj_aretN {n : String} (hd : decode M.2.1 pc = .ok (.areturn, 1)) (hr : M.2.2.2 = some (.object n)) (hce : ce ≤ mc) (hsl : sl ≤ ms) (hQ : Q (some .null) h) : zJ M rm al mc ms scr Q (pc) (lv) (.null :: []) (h) (ce) (sl) := zj_ret (v := some .null) hd (Or.inr (Or.inr (Or.inl ⟨rfl, ⟨n, hr⟩, Or.inr rfl⟩))) hce hsl hQ
theorem zj_vret (hd : decode M.2.1 pc = .ok (.return_, 1)) (hr : M.2.2.2 = none) (hce : ce ≤ mc) (hsl : sl ≤ ms) (hQ : Q none h) : zJ M rm al mc ms scr Q (pc) (lv) ([]) (h) (ce) (sl) := zj_ret (v := none) hd (Or.inr (Or.inr (Or.inr ⟨rfl, hr, rfl⟩))) hce hsl hQ
end ZP
end
section
/-! CONTRACTS AND CALLS -/
def zMet (M : zM) (rm : Room) (al : Bool) (mc ms : Nat) (As : List Value) (h : zH) (Q : Option Value → zH → Prop) : Prop :=
  ∀ (l : Launch) (D : va_G) (aC : Nat → ClassId) (ρ : Nat → Nat) (sz : Nat), Met l M.1 (zws M.1 M.2.1 M.2.2.1 M.2.2.2) rm
    (va_Pc (As.map (zV ρ)) (fun U => U.heap.size = sz ∧ va_P D vwCl (zC ρ aC h) U.heap ∧ va_K D vwCl (zTy aC) U ∧ va_D (fun _ => True) (zC ρ aC h) ∧ zN U))
    (fun _ st oc t => (∃ (v : Option Value) (h' : zH) (ρ' : Nat → Nat), oc = .returned (v.map (zV ρ')) ∧ Q v h' ∧ zAg al h.length h'.length ρ ρ' ∧ va_P D vwCl (zC ρ' aC h') t.heap ∧ va_D (va_A (zC ρ aC h) sz) (zC ρ' aC h')) ∧ va_F (va_A (zC ρ aC h) sz) st t)
    mc ms (va_A (zC ρ aC h) sz)
/-- the locals at a method's entry -/
def zfl (As : List Value) : List (Option Value) := As.flatMap (fun v => if v.category = 2 then [some v, none] else [some v])
def zent (nL : Nat) (As : List Value) : List (Option Value) := zfl As ++ List.replicate (nL - (zfl As).length) none
theorem zfl_cons (v : Value) (vs : List Value) : zfl (v :: vs) = (if v.category = 2 then [some v, none] else [some v]) ++ zfl vs := rfl
theorem zfl_args (ρ : Nat → Nat) : ∀ (As : List Value) (o i : Nat) (v : Value), (zfl As)[i]? = some (some v) → (o + i, zV ρ v) ∈ lv_args o (As.map (zV ρ))
  | [], _, _, _, h => by simp [zfl] at h
  | w :: ws, o, i, v, h => by
    rw [zfl_cons] at h
    rw [List.map_cons]
    unfold lv_args
    rw [zV_cat]
    by_cases hc : w.category = 2
    · simp only [hc, if_true] at h ⊢
      match i, h with
      | 0, h => simp at h; subst h; exact List.mem_cons_self
      | 1, h => simp at h
      | j + 2, h =>
        have h2 : (zfl ws)[j]? = some (some v) := by simpa using h
        have := zfl_args ρ ws (o + 2) j v h2
        have e : o + (j + 2) = o + 2 + j := by omega
        rw [e]
        exact List.mem_cons_of_mem _ this
    · simp only [hc, if_false] at h ⊢
      match i, h with
      | 0, h => simp at h; subst h; exact List.mem_cons_self
      | j + 1, h =>
        have h2 : (zfl ws)[j]? = some (some v) := by simpa using h
        have := zfl_args ρ ws (o + 1) j v h2
        have e : o + (j + 1) = o + 1 + j := by omega
        rw [e]
        exact List.mem_cons_of_mem _ this
theorem zfl_len (ρ : Nat → Nat) : ∀ (As : List Value), (lg_sl (As.map (zV ρ))).length = (zfl As).length
  | [] => rfl
  | w :: ws => by
    have ih := zfl_len ρ ws
    unfold lg_sl zfl at ih ⊢
    simp only [List.map_cons, List.flatMap_cons, List.length_append, zV_cat]
    rw [ih]
    by_cases hc : w.category = 2 <;> simp [hc]
theorem zL_ent {ρ : Nat → Nat} {ls : Array Slot} {nL : Nat} {As : List Value} (h : lv_has ls nL (lv_args 0 (As.map (zV ρ)))) : zL ρ ls nL (zent nL As) := by
  refine ⟨h.1, h.2.1, fun i v hi => ?_⟩
  unfold zent at hi
  by_cases hl : i < (zfl As).length
  · rw [List.getElem?_append_left hl] at hi
    have := zfl_args ρ As 0 i v hi
    rw [Nat.zero_add] at this
    exact h.2.2 _ this
  · rw [List.getElem?_append_right (Nat.le_of_not_lt hl), List.getElem?_replicate] at hi
    split at hi <;> simp at hi
theorem zN_vm {u U : State} (h : u.vm = U.vm) (hz : zN u) : zN U := by
  obtain ⟨h1, h2, h3, h4, h5, h6, h7, h8, h9, h10⟩ := hz
  refine ⟨va_Nw.same rfl h h1, va_Nw.same rfl h h2, va_Nw.same rfl h h3, va_Nw.same rfl h h4, va_Nw.same rfl h h5, va_Nw.same rfl h h6, va_Nw.same rfl h h7, ?_, ?_, ?_⟩
  · exact va_AO.moved (by rw [h]; exact Vm.Alike.refl _) h8
  · exact va_AO.moved (by rw [h]; exact Vm.Alike.refl _) h9
  · exact va_AO.moved (by rw [h]; exact Vm.Alike.refl _) h10
theorem zN_warm {s U : State} (hW : s.WarmedH U.vm) (hz : zN s) : zN U := by
  obtain ⟨h1, h2, h3, h4, h5, h6, h7, h8, h9, h10⟩ := hz
  exact ⟨va_Nw.warmM hW h1, va_Nw.warmM hW h2, va_Nw.warmM hW h3, va_Nw.warmM hW h4, va_Nw.warmM hW h5, va_Nw.warmM hW h6, va_Nw.warmM hW h7, va_AO.moved hW.alike h8, va_AO.moved hW.alike h9, va_AO.moved hW.alike h10⟩
set_option maxHeartbeats 1000000 in
/-- a contract out of a walk -/
theorem zMet_of {M : zM} {rm : Room} {al : Bool} {mc ms : Nat} {As : List Value} {h : zH} {Q : Option Value → zH → Prop} (hy : plainName M.1.cls = true) (hn : (zfl As).length ≤ M.2.2.1) (hJ : zJ M rm al mc ms none Q 0 (zent M.2.2.1 As) [] h 0 0) : zMet M rm al mc ms As h Q := by
  intro l D aC ρ sz
  refine Met.ofW (cc := M.2.1) (maxL := M.2.2.1) (ret := M.2.2.2) hy rfl ?_
  intro p e s m args below meth c s₁ B hml hv
  obtain ⟨rfl, hsz, hP, hK, hD0, hN⟩ := hv
  have hts := atoms_spec (ws := zws M.1 M.2.1 M.2.2.1 M.2.2.2) B.pre
  have hown : s.vm.findClass M.1.cls = some m.cls := findClass_of_methodNamed B.named
  have hlocks := B.notSynchronized
  have hin : M.1.name = "<init>" → meth.name = "<init>" := fun hh => by rw [← hh]; exact (name_of_methodNamed B.named B.method).1
  subst hsz
  have hD := hD0.self (sz := s.heap.size)
  have hS : va_S (va_A (zC ρ aC h) s.heap.size) s.heap s.heap [] := va_S.rf
  have hl := lv_entry (As.map (zV ρ)) (n := M.2.2.1) (by rw [zfl_len]; exact hn)
  rw [lg_entry_eq]
  refine hJ p l e s m _ below meth c D aC ρ s.heap [] (va_A (zC ρ aC h) s.heap.size) _ _ ⟨B.exec, B.bytes, hml, hown, fun w hw => hts w (List.mem_cons_of_mem _ hw), hK, fun q hq => Or.inr hq, hin, hN, fun L xs hh => by cases hh⟩ (zL_ent hl) hP hD hS ?_
  intro ρ' H' locs' ls' pc' ri v h' hQ hAg hP' hD' hS' hd hr
  rcases hr with ⟨rfl, ty, x, hr, rfl, hnar⟩ | ⟨rfl, hr, x, rfl⟩ | ⟨rfl, ⟨n, hr⟩, hv⟩ | ⟨rfl, hr, rfl⟩
  · exact W.zret B.exec B.bytes (by rw [B.returns]; exact hr) hnar (fun t ht hW => ⟨⟨_, h', ρ', rfl, hQ, hAg, by rw [ht]; exact hP', hD'⟩, hS'.F ht⟩) hS'.2.2 hd
  · exact W.lret B.exec B.bytes (by rw [B.returns]; exact hr) (fun t ht hW => ⟨⟨_, h', ρ', rfl, hQ, hAg, by rw [ht]; exact hP', hD'⟩, hS'.F ht⟩) hS'.2.2 hd
  · rcases hv with ⟨a, rfl⟩ | rfl
    · exact W.aret B.exec B.bytes (by rw [B.returns]; exact hr) (Or.inl ⟨n, rfl⟩) (Or.inr ⟨ρ' a, rfl⟩) (fun t ht hW => ⟨⟨some (.ref a), h', ρ', rfl, hQ, hAg, by rw [ht]; exact hP', hD'⟩, hS'.F ht⟩) hS'.2.2 hd
    · exact W.aret B.exec B.bytes (by rw [B.returns]; exact hr) (Or.inl ⟨n, rfl⟩) (Or.inl rfl) (fun t ht hW => ⟨⟨some .null, h', ρ', rfl, hQ, hAg, by rw [ht]; exact hP', hD'⟩, hS'.F ht⟩) hS'.2.2 hd
  · exact W.vret B.exec B.bytes (by rw [B.returns]; exact hr) (fun t ht hW => ⟨⟨none, h', ρ', rfl, hQ, hAg, by rw [ht]; exact hP', hD'⟩, hS'.F ht⟩) hS'.2.2 hd
theorem zMet_mono {M : zM} {rm : Room} {al : Bool} {mc ms : Nat} {As : List Value} {h : zH} {Q Q' : Option Value → zH → Prop} (hJ : zJ M rm al mc ms none Q 0 (zent M.2.2.1 As) [] h 0 0) (hq : ∀ v h', Q v h' → Q' v h') : zJ M rm al mc ms none Q' 0 (zent M.2.2.1 As) [] h 0 0 := by
  intro p l e s m args below meth c D aC ρ H locs A Z ls X hl hP hD hS hZ
  exact hJ p l e s m args below meth c D aC ρ H locs A Z ls X hl hP hD hS (fun ρ' H' locs' ls' pc' ri v h' a => hZ ρ' H' locs' ls' pc' ri v h' (hq v h' a))
/-- behind a call: the callee's whole outcome -/
theorem zcall {p : Program} {l : Launch} {e : Env} {R : Room} {s : State} {m : MethodId} {args : Array Value} {below : List Frame} {meth : Method} {c : Code} {H : Heap} {locs : List Loc} {cells slots : Nat} {Z : State → Prop} {pc : Nat} {ls : Array Slot} {rest st0 : List Value} {A0 A1 : Nat → Prop} {H0 : Heap} {mc ms : Nat} {Qb : Option Value → State → Prop}
    (hr : va_Run p l e R s m args below meth c H locs cells slots mc ms (F0 m pc ls st0) rest (fun st oc t => (∃ v, oc = .returned v ∧ Qb v t) ∧ va_F A1 st t) A1) (hS : va_S A0 H0 H locs) (hA : ∀ q, A1 q → A0 q)
    (kk : ∀ (v : Option Value) (t : State) (H1 : Heap) (locs1 : List Loc), t.heap = H1 → s.vm.Alike t.vm → Qb v t → va_S A0 H0 H1 locs1 → W p l e R s m args below meth c H1 locs1 (cells + mc) (slots + ms) Z (F0 m (pc + 3) ls (v.toList ++ rest))) : W p l e R s m args below meth c H locs cells slots Z (F0 m pc ls st0) := by
  intro T hT X
  obtain ⟨v, st₀, t, T', L, h0, X', hL, e1, e2, ⟨⟨r, hv, hb⟩, hz, hk⟩, st⟩ := hr T hT X
  cases hv
  rw [h0] at hz hk
  obtain ⟨t2, a1, b1⟩ := kk v t T'.heap (locs ++ L) e1.symm (by rw [← e2]; exact X'.warmed.alike) hb
    ⟨Nat.le_trans hS.1 (by rw [e1]; exact hz), fun q h1 h2 => by rw [e1, hk q (Nat.lt_of_lt_of_le h1 hS.1) (fun z => h2 (hA q z))]; exact hS.2.1 q h1 h2, fun q hq => by
      rcases List.mem_append.mp hq with h | h
      · exact hS.2.2 q h
      · exact hA _ (hL q h)⟩ T' rfl X'
  exact ⟨t2, st t2 a1, b1⟩
theorem zblind {As : List Value} {D : va_G} {aC : Nat → ClassId} {ρ : Nat → Nat} {h : zH} {sz : Nat} : FrameBlind (va_Pc (As.map (zV ρ)) (fun U => U.heap.size = sz ∧ va_P D vwCl (zC ρ aC h) U.heap ∧ va_K D vwCl (zTy aC) U ∧ va_D (fun _ => True) (zC ρ aC h) ∧ zN U)) :=
  fun a U g mk q => by
    obtain ⟨q0, q1, qP, qK, qD, qN⟩ := q
    exact ⟨q0, q1, qP, va_K.moved (u := U) (U := U.calling g mk a) (Vm.Alike.refl U.vm) qK, qD, zN_vm (u := U) (U := U.calling g mk a) rfl qN⟩
theorem zA_free {A0 : Nat → Prop} {D : va_G} {ws : va_W} {H0 H : Heap} {locs : List Loc} (hD : va_D A0 ws) (hS : va_S A0 H0 H locs) (hA : ∀ q, H0.size ≤ q → A0 q) : ∀ q, va_A ws H.size q → A0 q := by
  intro q hq
  rcases hq with ⟨k, ee, hk⟩ | hq
  · exact hD.2 k _ hk
  · exact hA q (Nat.le_trans hS.1 hq)
theorem zcats (ρ : Nat → Nat) (st : List Value) : ((st.map (zV ρ)).map fun v => v.category) = st.map Value.category := by
  rw [List.map_map]
  congr 1
  funext v
  exact zV_cat ρ v
/-- of a value or a heap that knows only places below n (and the script) -/
def zOkV (n : Nat) (v : Value) : Prop := match v with
  | .ref k => k < n ∨ k = zS
  | _ => True
def zOkL (n : Nat) (lv : List (Option Value)) : Prop := ∀ (i : Nat) (v : Value), lv[i]? = some (some v) → zOkV n v
def zOkS (n : Nat) (st : List Value) : Prop := ∀ v ∈ st, zOkV n v
theorem zV_ag {al : Bool} {n n' : Nat} {ρ ρ' : Nat → Nat} (hg : zAg al n n' ρ ρ') {v : Value} (hv : zOkV n v) : zV ρ' v = zV ρ v := by
  cases v with
  | ref k => exact congrArg Value.ref (hg.2.2 k hv)
  | _ => rfl
theorem zL_ag {al : Bool} {n n' : Nat} {ρ ρ' : Nat → Nat} (hg : zAg al n n' ρ ρ') {ls : Array Slot} {nL : Nat} {lv : List (Option Value)} (ho : zOkL n lv) (hl : zL ρ ls nL lv) : zL ρ' ls nL lv :=
  ⟨hl.1, hl.2.1, fun i v hi => by rw [zV_ag hg (ho i v hi)]; exact hl.2.2 i v hi⟩
theorem zS_ag {al : Bool} {n n' : Nat} {ρ ρ' : Nat → Nat} (hg : zAg al n n' ρ ρ') {st : List Value} (ho : zOkS n st) : st.map (zV ρ') = st.map (zV ρ) := List.map_congr_left (fun v hv => zV_ag hg (ho v hv))
section ZC
variable {M N : zM} {rm rm' : Room} {al : Bool} {mc ms mc' ms' : Nat} {scr : Option (Nat × (Nat → Int32))} {Q Q' : Option Value → zH → Prop} {pc : Nat} {lv : List (Option Value)} {st As : List Value} {h : zH} {ce sl : Nat}
/-- what every call needs: words and room -/
def zCw (M N : zM) (rm rm' : Room) (mc' ms' n idx : Nat) : Prop := Cond.methodLink M.1.cls idx N.1 ∈ zT ∧ Cond.initialized N.1.cls ∈ zT ∧ Cond.code N.1 N.2.1 N.2.2.1 N.2.2.2 ∈ zT ∧ rm'.cells = mc' ∧ rm'.slots = ms' ∧ (N.1.cls ≠ "java/lang/invoke/MethodHandle" ∧ N.1.cls ≠ "java/lang/invoke/VarHandle" ∧ (parseMethodDescriptor N.1.desc).map (fun d => d.parameters.length) = some n) ∧ (rm'.frames + 1 ≤ rm.frames ∧ 8 + (N.2.2.1 + 11) + rm'.locals ≤ rm.locals)
theorem zCw.of {n idx : Nat} (hw : zCw M N rm rm' mc' ms' n idx) {s : State} {args : Array Value} (hts : ∀ w ∈ zT, w.before args s = true) : CallB rm s args M.1.cls idx N.1 N.2.1 N.2.2.1 N.2.2.2 (zws N.1 N.2.1 N.2.2.1 N.2.2.2) rm' mc' ms' n := by
  obtain ⟨h1, h2, h3, h4, h5, h6, h7⟩ := hw
  exact callB_of n hts (zws_good (fun _ h => h) h3) rfl h4 h5 (hts _ h2) (hts _ h1) h6 h7
/-- what a callee finds -/
theorem zpre {D : va_G} {aC : Nat → ClassId} {ρ : Nat → Nat} {A : Nat → Prop} {s : State} {H : Heap} (hP : va_P D vwCl (zC ρ aC h) H) (hK : va_K D vwCl (zTy aC) s) (hD : va_D A (zC ρ aC h)) (hN : zN s) (U : State) (hU : U.heap = H) (hW : s.WarmedH U.vm) : va_Pc (As.map (zV ρ)) (fun U => U.heap.size = H.size ∧ va_P D vwCl (zC ρ aC h) U.heap ∧ va_K D vwCl (zTy aC) U ∧ va_D (fun _ => True) (zC ρ aC h) ∧ zN U) (As.map (zV ρ)).toArray U :=
  ⟨rfl, by rw [hU], by rw [hU]; exact hP, va_K.moved hW.alike hK, hD.weaken (fun _ _ _ _ => trivial), zN_warm hW hN⟩
set_option maxHeartbeats 1000000 in
/-- behind a call of a method that makes nothing -/
theorem zj_behind {p : Program} {l : Launch} {e : Env} {s : State} {m : MethodId} {args : Array Value} {below : List Frame} {meth : Method} {c : Code} {D : va_G} {aC : Nat → ClassId} {ρ : Nat → Nat} {H : Heap} {locs : List Loc} {A : Nat → Prop} {Z : State → Prop} {ls : Array Slot} {st0 : List Value}
    (X : zX M scr p s m args meth c D aC A (ρ zS)) (hl : zL ρ ls M.2.2.1 lv) (hD : va_D A (zC ρ aC h)) (hS : va_S A s.heap H locs)
    (hZ : ∀ (ρ' : Nat → Nat) (H' : Heap) (locs' : List Loc) (ls' : Array Slot) (pc' : Nat) (ri : Instr) (v : Option Value) (h' : zH), Q v h' → zAg al h.length h'.length ρ ρ' → va_P D vwCl (zC ρ' aC h') H' → va_D A (zC ρ' aC h') → va_S A s.heap H' locs' → decode M.2.1 pc' = .ok (ri, 1) → zRet M.2.2.2 ri v → W p l e rm s m args below meth c H' locs' mc ms Z (F0 m pc' ls' (v.toList.map (zV ρ'))))
    (hr : va_Run p l e rm s m args below meth c H locs ce sl 0 0 (F0 m pc ls st0) (st.map (zV ρ)) (fun st oc t => (∃ (v : Option Value) (h' : zH) (ρ' : Nat → Nat), oc = .returned (v.map (zV ρ')) ∧ Q' v h' ∧ zAg false h.length h'.length ρ ρ' ∧ va_P D vwCl (zC ρ' aC h') t.heap ∧ va_D (va_A (zC ρ aC h) H.size) (zC ρ' aC h')) ∧ va_F (va_A (zC ρ aC h) H.size) st t) (va_A (zC ρ aC h) H.size))
    (kk : ∀ v h', Q' v h' → h'.length = h.length → zJ M rm al mc ms scr Q (pc + 3) lv (v.toList ++ st) h' ce sl) : W p l e rm s m args below meth c H locs ce sl Z (F0 m pc ls st0) := by
  have hF := zA_free (D := D) hD hS X.2.2.2.2.2.2.1
  refine zcall (mc := 0) (ms := 0) (rest := st.map (zV ρ)) (Qb := fun v t => ∃ (v' : Option Value) (h' : zH), v = v'.map (zV ρ) ∧ Q' v' h' ∧ h'.length = h.length ∧ va_P D vwCl (zC ρ aC h') t.heap ∧ va_D (va_A (zC ρ aC h) H.size) (zC ρ aC h')) ?_ hS hF ?_
  · intro T hT XX
    obtain ⟨v, st₀, t, T', L, h0, X', hL, e1, e2, ⟨⟨v', h', ρ', hv, hq, hg, hP', hD'⟩, hF'⟩, stt⟩ := hr T hT XX
    obtain ⟨rfl, hlen⟩ := hg.1 rfl
    exact ⟨v, st₀, t, T', L, h0, X', hL, e1, e2, ⟨⟨v, rfl, v', h', by cases hv; rfl, hq, hlen, hP', hD'⟩, hF'⟩, stt⟩
  · rintro v t H1 locs1 ht hvm ⟨v', h', rfl, hq, hlen, hP', hD'⟩ hS1
    rw [ht] at hP'
    have hk := kk v' h' hq hlen p l e s m args below meth c D aC ρ H1 locs1 A Z ls X hl hP' (hD'.weaken (fun _ _ _ q => hF _ q)) hS1 (fun ρ' H' locs' ls' pc' ri v h'' a b => hZ ρ' H' locs' ls' pc' ri v h'' a (by rw [hlen] at b; exact b))
    rw [List.map_append] at hk
    cases v' <;> exact hk
set_option maxHeartbeats 1000000 in
/-- invokevirtual of a method that makes nothing -/
theorem zj_callV {o ci idx : Nat} {fs : List Value} {r : vw_C} (hd : decode M.2.1 pc = .ok (.invokevirtual idx, 3)) (hw : zCw M N rm rm' 0 0 As.length idx) (hi : Cond.instanceMethod N.1 ∈ zT) (hs : Cond.selects N.1.cls N.1 N.1 ∈ zT) (hc : vwCl[ci]? = some r) (hr : r.1 = N.1.cls) (he : h[o]? = some (.inr (ci, fs))) (hC : zMet N rm' false 0 0 (.ref o :: As) h Q') (hst : (st.map Value.category).sum ≤ 8) (hcs : ce ≤ rm.cells ∧ sl ≤ rm.slots)
    (kk : ∀ v h', Q' v h' → h'.length = h.length → zJ M rm al mc ms scr Q (pc + 3) lv (v.toList ++ st) h' ce sl) : zJ M rm al mc ms scr Q pc lv (As.reverse ++ .ref o :: st) h ce sl := by
  intro p l e s m args below meth c D aC ρ H locs A Z ls X hl hP hD hS hZ
  refine zj_behind X hl hD hS hZ ?_ kk
  have hn := hC l D aC ρ H.size
  have hrc := va_recv X.2.2.2.2.2.1 hP hc (zC_get he)
  rw [hr] at hrc
  exact va_runV (As := As.map (zV ρ)) (n := As.length) ⟨X.1, X.2.1, X.2.2.1, X.2.2.2.1, X.2.2.2.2.1⟩ hn ⟨hw.of X.2.2.2.2.1, X.2.2.2.2.1 _ hi, X.2.2.2.2.1 _ hs⟩ ⟨zblind, hrc, fun U hU hW => zpre (As := .ref o :: As) hP X.2.2.2.2.2.1 hD X.2.2.2.2.2.2.2.2.1 U hU hW⟩ rfl (List.length_map _) hl.1 (by simp [List.map_append, List.map_reverse, zV]) (lv_room (by rw [zcats]; exact hst)) hd ⟨hcs.1, hcs.2⟩
set_option maxHeartbeats 1000000 in
/-- invokestatic of a method that makes nothing -/
theorem zj_callS {idx : Nat} (hd : decode M.2.1 pc = .ok (.invokestatic idx, 3)) (hw : zCw M N rm rm' 0 0 As.length idx) (hi : Cond.static N.1 ∈ zT) (hC : zMet N rm' false 0 0 As h Q') (hst : (st.map Value.category).sum ≤ 8) (hcs : ce ≤ rm.cells ∧ sl ≤ rm.slots)
    (kk : ∀ v h', Q' v h' → h'.length = h.length → zJ M rm al mc ms scr Q (pc + 3) lv (v.toList ++ st) h' ce sl) : zJ M rm al mc ms scr Q pc lv (As.reverse ++ st) h ce sl := by
  intro p l e s m args below meth c D aC ρ H locs A Z ls X hl hP hD hS hZ
  refine zj_behind X hl hD hS hZ ?_ kk
  have hn := hC l D aC ρ H.size
  exact va_runS (As := As.map (zV ρ)) (n := As.length) ⟨X.1, X.2.1, X.2.2.1, X.2.2.2.1, X.2.2.2.2.1⟩ hn ⟨hw.of X.2.2.2.2.1, X.2.2.2.2.1 _ hi⟩ ⟨zblind, fun U hU hW => zpre hP X.2.2.2.2.2.1 hD X.2.2.2.2.2.2.2.2.1 U hU hW⟩ rfl (List.length_map _) hl.1 (by simp [List.map_append, List.map_reverse]) (lv_room (by rw [zcats]; exact hst)) hd ⟨hcs.1, hcs.2⟩
end ZC
end
