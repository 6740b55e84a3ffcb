section
-- ===== PART A: goes FIRST, ahead of the names: the tables' words, and 'selects' of the private methods out of them =====
/-- a private method of a class that the tables say can be made, by its rows of tables_1 -/
def lw_okq (q : MethodName × Nat) : Prop := (q.1.cls ≠ "java/lang/invoke/MethodHandle" ∧ q.1.cls ≠ "java/lang/invoke/VarHandle") ∧ Cond.instantiable q.1.cls q.2 ∈ tables_1 ∧ Cond.privateMethod q.1 ∈ tables_1 ∧ Cond.instanceMethod q.1 ∈ tables_1
theorem lw_p0 : lw_okq (⟨"DayWords$Reader", "scan", "(LDayWords$Tape;)V"⟩, 15) := ⟨⟨by decide +kernel, by decide +kernel⟩, List.mem_of_getElem? (i := 106) (by decide +kernel), List.mem_of_getElem? (i := 484) (by decide +kernel), List.mem_of_getElem? (i := 485) (by decide +kernel)⟩
theorem lw_p1 : lw_okq (⟨"DayWords$Reader", "openToken", "(II)V"⟩, 15) := ⟨⟨by decide +kernel, by decide +kernel⟩, List.mem_of_getElem? (i := 106) (by decide +kernel), List.mem_of_getElem? (i := 491) (by decide +kernel), List.mem_of_getElem? (i := 492) (by decide +kernel)⟩
theorem lw_p2 : lw_okq (⟨"DayWords$Reader", "widenToken", "(II)V"⟩, 15) := ⟨⟨by decide +kernel, by decide +kernel⟩, List.mem_of_getElem? (i := 106) (by decide +kernel), List.mem_of_getElem? (i := 495) (by decide +kernel), List.mem_of_getElem? (i := 496) (by decide +kernel)⟩
theorem lw_p3 : lw_okq (⟨"DayWords$Reader", "readLine", "(LDayWords$Desk;)Z"⟩, 15) := ⟨⟨by decide +kernel, by decide +kernel⟩, List.mem_of_getElem? (i := 106) (by decide +kernel), List.mem_of_getElem? (i := 513) (by decide +kernel), List.mem_of_getElem? (i := 514) (by decide +kernel)⟩
theorem lw_p4 : lw_okq (⟨"DayWords$Reader", "readHead", "(LDayWords$Desk;)Z"⟩, 15) := ⟨⟨by decide +kernel, by decide +kernel⟩, List.mem_of_getElem? (i := 106) (by decide +kernel), List.mem_of_getElem? (i := 517) (by decide +kernel), List.mem_of_getElem? (i := 518) (by decide +kernel)⟩
theorem lw_p5 : lw_okq (⟨"DayWords$Reader", "take", "(I)Z"⟩, 15) := ⟨⟨by decide +kernel, by decide +kernel⟩, List.mem_of_getElem? (i := 106) (by decide +kernel), List.mem_of_getElem? (i := 521) (by decide +kernel), List.mem_of_getElem? (i := 522) (by decide +kernel)⟩
theorem lw_p6 : lw_okq (⟨"DayWords$Reader", "fail", "(I)Z"⟩, 15) := ⟨⟨by decide +kernel, by decide +kernel⟩, List.mem_of_getElem? (i := 106) (by decide +kernel), List.mem_of_getElem? (i := 525) (by decide +kernel), List.mem_of_getElem? (i := 526) (by decide +kernel)⟩
theorem lw_p7 : lw_okq (⟨"DayWords$Reader", "step", "()V"⟩, 15) := ⟨⟨by decide +kernel, by decide +kernel⟩, List.mem_of_getElem? (i := 106) (by decide +kernel), List.mem_of_getElem? (i := 529) (by decide +kernel), List.mem_of_getElem? (i := 530) (by decide +kernel)⟩
theorem lw_p8 : lw_okq (⟨"DayWords$Reader", "seeNumber", "(II)Z"⟩, 15) := ⟨⟨by decide +kernel, by decide +kernel⟩, List.mem_of_getElem? (i := 106) (by decide +kernel), List.mem_of_getElem? (i := 533) (by decide +kernel), List.mem_of_getElem? (i := 534) (by decide +kernel)⟩
theorem lw_p9 : lw_okq (⟨"DayWords$Reader", "isWeekday", "()Z"⟩, 15) := ⟨⟨by decide +kernel, by decide +kernel⟩, List.mem_of_getElem? (i := 106) (by decide +kernel), List.mem_of_getElem? (i := 537) (by decide +kernel), List.mem_of_getElem? (i := 538) (by decide +kernel)⟩
theorem lw_p10 : lw_okq (⟨"DayWords$Reader", "readFeast", "(LDayWords$Desk;)Z"⟩, 15) := ⟨⟨by decide +kernel, by decide +kernel⟩, List.mem_of_getElem? (i := 106) (by decide +kernel), List.mem_of_getElem? (i := 546) (by decide +kernel), List.mem_of_getElem? (i := 547) (by decide +kernel)⟩
theorem lw_p11 : lw_okq (⟨"DayWords$Reader", "readFeastDays", "(LDayWords$Desk;)Z"⟩, 15) := ⟨⟨by decide +kernel, by decide +kernel⟩, List.mem_of_getElem? (i := 106) (by decide +kernel), List.mem_of_getElem? (i := 554) (by decide +kernel), List.mem_of_getElem? (i := 555) (by decide +kernel)⟩
theorem lw_p12 : lw_okq (⟨"DayWords$Reader", "readTrain", "(LDayWords$Desk;)Z"⟩, 15) := ⟨⟨by decide +kernel, by decide +kernel⟩, List.mem_of_getElem? (i := 106) (by decide +kernel), List.mem_of_getElem? (i := 558) (by decide +kernel), List.mem_of_getElem? (i := 559) (by decide +kernel)⟩
theorem lw_p13 : lw_okq (⟨"DayWords$Reader", "readWording", "(LDayWords$Desk;)Z"⟩, 15) := ⟨⟨by decide +kernel, by decide +kernel⟩, List.mem_of_getElem? (i := 106) (by decide +kernel), List.mem_of_getElem? (i := 562) (by decide +kernel), List.mem_of_getElem? (i := 563) (by decide +kernel)⟩
theorem lw_p14 : lw_okq (⟨"DayWords$Reader", "readSpans", "(LDayWords$Desk;)Z"⟩, 15) := ⟨⟨by decide +kernel, by decide +kernel⟩, List.mem_of_getElem? (i := 106) (by decide +kernel), List.mem_of_getElem? (i := 566) (by decide +kernel), List.mem_of_getElem? (i := 567) (by decide +kernel)⟩
theorem lw_p15 : lw_okq (⟨"DayWords$Reader", "readPattern", "()Z"⟩, 15) := ⟨⟨by decide +kernel, by decide +kernel⟩, List.mem_of_getElem? (i := 106) (by decide +kernel), List.mem_of_getElem? (i := 570) (by decide +kernel), List.mem_of_getElem? (i := 571) (by decide +kernel)⟩
def lw_privs_1 : List (MethodName × Nat) := [(⟨"DayWords$Reader", "scan", "(LDayWords$Tape;)V"⟩, 15), (⟨"DayWords$Reader", "openToken", "(II)V"⟩, 15), (⟨"DayWords$Reader", "widenToken", "(II)V"⟩, 15), (⟨"DayWords$Reader", "readLine", "(LDayWords$Desk;)Z"⟩, 15), (⟨"DayWords$Reader", "readHead", "(LDayWords$Desk;)Z"⟩, 15), (⟨"DayWords$Reader", "take", "(I)Z"⟩, 15), (⟨"DayWords$Reader", "fail", "(I)Z"⟩, 15), (⟨"DayWords$Reader", "step", "()V"⟩, 15), (⟨"DayWords$Reader", "seeNumber", "(II)Z"⟩, 15), (⟨"DayWords$Reader", "isWeekday", "()Z"⟩, 15), (⟨"DayWords$Reader", "readFeast", "(LDayWords$Desk;)Z"⟩, 15), (⟨"DayWords$Reader", "readFeastDays", "(LDayWords$Desk;)Z"⟩, 15), (⟨"DayWords$Reader", "readTrain", "(LDayWords$Desk;)Z"⟩, 15), (⟨"DayWords$Reader", "readWording", "(LDayWords$Desk;)Z"⟩, 15), (⟨"DayWords$Reader", "readSpans", "(LDayWords$Desk;)Z"⟩, 15), (⟨"DayWords$Reader", "readPattern", "()Z"⟩, 15)]
theorem lw_r1 : ∀ q ∈ lw_privs_1, lw_okq q := List.forall_mem_cons.mpr ⟨lw_p0, List.forall_mem_cons.mpr ⟨lw_p1, List.forall_mem_cons.mpr ⟨lw_p2, List.forall_mem_cons.mpr ⟨lw_p3, List.forall_mem_cons.mpr ⟨lw_p4, List.forall_mem_cons.mpr ⟨lw_p5, List.forall_mem_cons.mpr ⟨lw_p6, List.forall_mem_cons.mpr ⟨lw_p7, List.forall_mem_cons.mpr ⟨lw_p8, List.forall_mem_cons.mpr ⟨lw_p9, List.forall_mem_cons.mpr ⟨lw_p10, List.forall_mem_cons.mpr ⟨lw_p11, List.forall_mem_cons.mpr ⟨lw_p12, List.forall_mem_cons.mpr ⟨lw_p13, List.forall_mem_cons.mpr ⟨lw_p14, List.forall_mem_cons.mpr ⟨lw_p15, fun _ h => absurd h List.not_mem_nil⟩⟩⟩⟩⟩⟩⟩⟩⟩⟩⟩⟩⟩⟩⟩⟩
theorem lw_p16 : lw_okq (⟨"DayWords$Reader", "readBounds", "(LDayWords$Desk;)Z"⟩, 15) := ⟨⟨by decide +kernel, by decide +kernel⟩, List.mem_of_getElem? (i := 106) (by decide +kernel), List.mem_of_getElem? (i := 574) (by decide +kernel), List.mem_of_getElem? (i := 575) (by decide +kernel)⟩
theorem lw_p17 : lw_okq (⟨"DayWords$Reader", "readExceptions", "(LDayWords$Desk;)Z"⟩, 15) := ⟨⟨by decide +kernel, by decide +kernel⟩, List.mem_of_getElem? (i := 106) (by decide +kernel), List.mem_of_getElem? (i := 578) (by decide +kernel), List.mem_of_getElem? (i := 579) (by decide +kernel)⟩
theorem lw_p18 : lw_okq (⟨"DayWords$Reader", "readEntries", "(LDayWords$Desk;)Z"⟩, 15) := ⟨⟨by decide +kernel, by decide +kernel⟩, List.mem_of_getElem? (i := 106) (by decide +kernel), List.mem_of_getElem? (i := 582) (by decide +kernel), List.mem_of_getElem? (i := 583) (by decide +kernel)⟩
theorem lw_p19 : lw_okq (⟨"DayWords", "isDay", "(I)Z"⟩, 13) := ⟨⟨by decide +kernel, by decide +kernel⟩, List.mem_of_getElem? (i := 20) (by decide +kernel), List.mem_of_getElem? (i := 602) (by decide +kernel), List.mem_of_getElem? (i := 603) (by decide +kernel)⟩
theorem lw_p20 : lw_okq (⟨"DayWords", "isTrain", "(I)Z"⟩, 13) := ⟨⟨by decide +kernel, by decide +kernel⟩, List.mem_of_getElem? (i := 20) (by decide +kernel), List.mem_of_getElem? (i := 618) (by decide +kernel), List.mem_of_getElem? (i := 619) (by decide +kernel)⟩
theorem lw_p21 : lw_okq (⟨"DayWords", "votedWeekdays", "(I)I"⟩, 13) := ⟨⟨by decide +kernel, by decide +kernel⟩, List.mem_of_getElem? (i := 20) (by decide +kernel), List.mem_of_getElem? (i := 648) (by decide +kernel), List.mem_of_getElem? (i := 649) (by decide +kernel)⟩
theorem lw_p22 : lw_okq (⟨"DayWords$Finder", "absentWeekdays", "()I"⟩, 16) := ⟨⟨by decide +kernel, by decide +kernel⟩, List.mem_of_getElem? (i := 245) (by decide +kernel), List.mem_of_getElem? (i := 679) (by decide +kernel), List.mem_of_getElem? (i := 680) (by decide +kernel)⟩
theorem lw_p23 : lw_okq (⟨"DayWords$Finder", "search", "(IIZ)V"⟩, 16) := ⟨⟨by decide +kernel, by decide +kernel⟩, List.mem_of_getElem? (i := 245) (by decide +kernel), List.mem_of_getElem? (i := 683) (by decide +kernel), List.mem_of_getElem? (i := 684) (by decide +kernel)⟩
theorem lw_p24 : lw_okq (⟨"DayWords$Finder", "feastsInside", "(I)I"⟩, 16) := ⟨⟨by decide +kernel, by decide +kernel⟩, List.mem_of_getElem? (i := 245) (by decide +kernel), List.mem_of_getElem? (i := 688) (by decide +kernel), List.mem_of_getElem? (i := 689) (by decide +kernel)⟩
theorem lw_p25 : lw_okq (⟨"DayWords$Finder", "prepare", "(II)V"⟩, 16) := ⟨⟨by decide +kernel, by decide +kernel⟩, List.mem_of_getElem? (i := 245) (by decide +kernel), List.mem_of_getElem? (i := 693) (by decide +kernel), List.mem_of_getElem? (i := 694) (by decide +kernel)⟩
theorem lw_p26 : lw_okq (⟨"DayWords$Finder", "feastsAsDays", "(I)I"⟩, 16) := ⟨⟨by decide +kernel, by decide +kernel⟩, List.mem_of_getElem? (i := 245) (by decide +kernel), List.mem_of_getElem? (i := 697) (by decide +kernel), List.mem_of_getElem? (i := 698) (by decide +kernel)⟩
theorem lw_p27 : lw_okq (⟨"DayWords$Finder", "fill", "(LDayWords$Row;LDayWords$Row;)V"⟩, 16) := ⟨⟨by decide +kernel, by decide +kernel⟩, List.mem_of_getElem? (i := 245) (by decide +kernel), List.mem_of_getElem? (i := 701) (by decide +kernel), List.mem_of_getElem? (i := 702) (by decide +kernel)⟩
theorem lw_p28 : lw_okq (⟨"DayWords$Finder", "stateBehindDay", "(II)I"⟩, 16) := ⟨⟨by decide +kernel, by decide +kernel⟩, List.mem_of_getElem? (i := 245) (by decide +kernel), List.mem_of_getElem? (i := 705) (by decide +kernel), List.mem_of_getElem? (i := 706) (by decide +kernel)⟩
theorem lw_p29 : lw_okq (⟨"DayWords$Finder", "tokensOfDay", "(II)I"⟩, 16) := ⟨⟨by decide +kernel, by decide +kernel⟩, List.mem_of_getElem? (i := 245) (by decide +kernel), List.mem_of_getElem? (i := 709) (by decide +kernel), List.mem_of_getElem? (i := 710) (by decide +kernel)⟩
theorem lw_p30 : lw_okq (⟨"DayWords$Finder", "offerSpans", "(LDayWords$Row;LDayWords$Row;I)V"⟩, 16) := ⟨⟨by decide +kernel, by decide +kernel⟩, List.mem_of_getElem? (i := 245) (by decide +kernel), List.mem_of_getElem? (i := 713) (by decide +kernel), List.mem_of_getElem? (i := 714) (by decide +kernel)⟩
theorem lw_p31 : lw_okq (⟨"DayWords$Finder", "tokensOfBounds", "(II)I"⟩, 16) := ⟨⟨by decide +kernel, by decide +kernel⟩, List.mem_of_getElem? (i := 245) (by decide +kernel), List.mem_of_getElem? (i := 718) (by decide +kernel), List.mem_of_getElem? (i := 719) (by decide +kernel)⟩
def lw_privs_2 : List (MethodName × Nat) := [(⟨"DayWords$Reader", "readBounds", "(LDayWords$Desk;)Z"⟩, 15), (⟨"DayWords$Reader", "readExceptions", "(LDayWords$Desk;)Z"⟩, 15), (⟨"DayWords$Reader", "readEntries", "(LDayWords$Desk;)Z"⟩, 15), (⟨"DayWords", "isDay", "(I)Z"⟩, 13), (⟨"DayWords", "isTrain", "(I)Z"⟩, 13), (⟨"DayWords", "votedWeekdays", "(I)I"⟩, 13), (⟨"DayWords$Finder", "absentWeekdays", "()I"⟩, 16), (⟨"DayWords$Finder", "search", "(IIZ)V"⟩, 16), (⟨"DayWords$Finder", "feastsInside", "(I)I"⟩, 16), (⟨"DayWords$Finder", "prepare", "(II)V"⟩, 16), (⟨"DayWords$Finder", "feastsAsDays", "(I)I"⟩, 16), (⟨"DayWords$Finder", "fill", "(LDayWords$Row;LDayWords$Row;)V"⟩, 16), (⟨"DayWords$Finder", "stateBehindDay", "(II)I"⟩, 16), (⟨"DayWords$Finder", "tokensOfDay", "(II)I"⟩, 16), (⟨"DayWords$Finder", "offerSpans", "(LDayWords$Row;LDayWords$Row;I)V"⟩, 16), (⟨"DayWords$Finder", "tokensOfBounds", "(II)I"⟩, 16)]
theorem lw_r2 : ∀ q ∈ lw_privs_2, lw_okq q := List.forall_mem_cons.mpr ⟨lw_p16, List.forall_mem_cons.mpr ⟨lw_p17, List.forall_mem_cons.mpr ⟨lw_p18, List.forall_mem_cons.mpr ⟨lw_p19, List.forall_mem_cons.mpr ⟨lw_p20, List.forall_mem_cons.mpr ⟨lw_p21, List.forall_mem_cons.mpr ⟨lw_p22, List.forall_mem_cons.mpr ⟨lw_p23, List.forall_mem_cons.mpr ⟨lw_p24, List.forall_mem_cons.mpr ⟨lw_p25, List.forall_mem_cons.mpr ⟨lw_p26, List.forall_mem_cons.mpr ⟨lw_p27, List.forall_mem_cons.mpr ⟨lw_p28, List.forall_mem_cons.mpr ⟨lw_p29, List.forall_mem_cons.mpr ⟨lw_p30, List.forall_mem_cons.mpr ⟨lw_p31, fun _ h => absurd h List.not_mem_nil⟩⟩⟩⟩⟩⟩⟩⟩⟩⟩⟩⟩⟩⟩⟩⟩
theorem lw_p32 : lw_okq (⟨"DayWords$Finder", "offerPatterns", "(LDayWords$Row;LDayWords$Row;IIII)V"⟩, 16) := ⟨⟨by decide +kernel, by decide +kernel⟩, List.mem_of_getElem? (i := 245) (by decide +kernel), List.mem_of_getElem? (i := 722) (by decide +kernel), List.mem_of_getElem? (i := 723) (by decide +kernel)⟩
theorem lw_p33 : lw_okq (⟨"DayWords$Finder", "offer", "(LDayWords$Row;LDayWords$Row;IIII)V"⟩, 16) := ⟨⟨by decide +kernel, by decide +kernel⟩, List.mem_of_getElem? (i := 245) (by decide +kernel), List.mem_of_getElem? (i := 727) (by decide +kernel), List.mem_of_getElem? (i := 728) (by decide +kernel)⟩
theorem lw_p34 : lw_okq (⟨"DayWords$Finder", "compare", "(IILDayWords$Row;)V"⟩, 16) := ⟨⟨by decide +kernel, by decide +kernel⟩, List.mem_of_getElem? (i := 245) (by decide +kernel), List.mem_of_getElem? (i := 731) (by decide +kernel), List.mem_of_getElem? (i := 732) (by decide +kernel)⟩
theorem lw_p35 : lw_okq (⟨"DayWords$Finder", "trace", "()V"⟩, 16) := ⟨⟨by decide +kernel, by decide +kernel⟩, List.mem_of_getElem? (i := 245) (by decide +kernel), List.mem_of_getElem? (i := 735) (by decide +kernel), List.mem_of_getElem? (i := 736) (by decide +kernel)⟩
theorem lw_p36 : lw_okq (⟨"DayWords$Finder", "traceSpan", "(II)I"⟩, 16) := ⟨⟨by decide +kernel, by decide +kernel⟩, List.mem_of_getElem? (i := 245) (by decide +kernel), List.mem_of_getElem? (i := 739) (by decide +kernel), List.mem_of_getElem? (i := 740) (by decide +kernel)⟩
theorem lw_p37 : lw_okq (⟨"DayWords$Writer", "putWord", "(LDayWords$Words;J)V"⟩, 1) := ⟨⟨by decide +kernel, by decide +kernel⟩, List.mem_of_getElem? (i := 335) (by decide +kernel), List.mem_of_getElem? (i := 751) (by decide +kernel), List.mem_of_getElem? (i := 752) (by decide +kernel)⟩
theorem lw_p38 : lw_okq (⟨"DayWords$Writer", "putBlank", "(LDayWords$Words;)V"⟩, 1) := ⟨⟨by decide +kernel, by decide +kernel⟩, List.mem_of_getElem? (i := 335) (by decide +kernel), List.mem_of_getElem? (i := 755) (by decide +kernel), List.mem_of_getElem? (i := 756) (by decide +kernel)⟩
theorem lw_p39 : lw_okq (⟨"DayWords$Writer", "putSign", "(LDayWords$Words;I)V"⟩, 1) := ⟨⟨by decide +kernel, by decide +kernel⟩, List.mem_of_getElem? (i := 335) (by decide +kernel), List.mem_of_getElem? (i := 759) (by decide +kernel), List.mem_of_getElem? (i := 760) (by decide +kernel)⟩
theorem lw_p40 : lw_okq (⟨"DayWords$Writer", "writePattern", "(LDayWords$Words;I)V"⟩, 1) := ⟨⟨by decide +kernel, by decide +kernel⟩, List.mem_of_getElem? (i := 335) (by decide +kernel), List.mem_of_getElem? (i := 764) (by decide +kernel), List.mem_of_getElem? (i := 765) (by decide +kernel)⟩
theorem lw_p41 : lw_okq (⟨"DayWords$Writer", "putNumber", "(LDayWords$Words;I)V"⟩, 1) := ⟨⟨by decide +kernel, by decide +kernel⟩, List.mem_of_getElem? (i := 335) (by decide +kernel), List.mem_of_getElem? (i := 771) (by decide +kernel), List.mem_of_getElem? (i := 772) (by decide +kernel)⟩
theorem lw_p42 : lw_okq (⟨"DayWords$Writer", "writeEntries", "(LDayWords$Words;LDayWords$Desk;I)V"⟩, 1) := ⟨⟨by decide +kernel, by decide +kernel⟩, List.mem_of_getElem? (i := 335) (by decide +kernel), List.mem_of_getElem? (i := 775) (by decide +kernel), List.mem_of_getElem? (i := 776) (by decide +kernel)⟩
theorem lw_p43 : lw_okq (⟨"DayWordsModel", "begins", "()V"⟩, 48) := ⟨⟨by decide +kernel, by decide +kernel⟩, List.mem_of_getElem? (i := 932) (by decide +kernel), List.mem_of_getElem? (i := 1099) (by decide +kernel), List.mem_of_getElem? (i := 1100) (by decide +kernel)⟩
theorem lw_p44 : lw_okq (⟨"DayWordsModel", "next", "()V"⟩, 48) := ⟨⟨by decide +kernel, by decide +kernel⟩, List.mem_of_getElem? (i := 932) (by decide +kernel), List.mem_of_getElem? (i := 1103) (by decide +kernel), List.mem_of_getElem? (i := 1104) (by decide +kernel)⟩
theorem lw_p45 : lw_okq (⟨"DayWordsModel", "isAt", "(II)Z"⟩, 48) := ⟨⟨by decide +kernel, by decide +kernel⟩, List.mem_of_getElem? (i := 932) (by decide +kernel), List.mem_of_getElem? (i := 1107) (by decide +kernel), List.mem_of_getElem? (i := 1108) (by decide +kernel)⟩
theorem lw_p46 : lw_okq (⟨"DayWordsModel", "wordHere", "()I"⟩, 48) := ⟨⟨by decide +kernel, by decide +kernel⟩, List.mem_of_getElem? (i := 932) (by decide +kernel), List.mem_of_getElem? (i := 1111) (by decide +kernel), List.mem_of_getElem? (i := 1112) (by decide +kernel)⟩
theorem lw_p47 : lw_okq (⟨"DayWordsModel", "readsDesk", "()V"⟩, 48) := ⟨⟨by decide +kernel, by decide +kernel⟩, List.mem_of_getElem? (i := 932) (by decide +kernel), List.mem_of_getElem? (i := 1120) (by decide +kernel), List.mem_of_getElem? (i := 1121) (by decide +kernel)⟩
def lw_privs_3 : List (MethodName × Nat) := [(⟨"DayWords$Finder", "offerPatterns", "(LDayWords$Row;LDayWords$Row;IIII)V"⟩, 16), (⟨"DayWords$Finder", "offer", "(LDayWords$Row;LDayWords$Row;IIII)V"⟩, 16), (⟨"DayWords$Finder", "compare", "(IILDayWords$Row;)V"⟩, 16), (⟨"DayWords$Finder", "trace", "()V"⟩, 16), (⟨"DayWords$Finder", "traceSpan", "(II)I"⟩, 16), (⟨"DayWords$Writer", "putWord", "(LDayWords$Words;J)V"⟩, 1), (⟨"DayWords$Writer", "putBlank", "(LDayWords$Words;)V"⟩, 1), (⟨"DayWords$Writer", "putSign", "(LDayWords$Words;I)V"⟩, 1), (⟨"DayWords$Writer", "writePattern", "(LDayWords$Words;I)V"⟩, 1), (⟨"DayWords$Writer", "putNumber", "(LDayWords$Words;I)V"⟩, 1), (⟨"DayWords$Writer", "writeEntries", "(LDayWords$Words;LDayWords$Desk;I)V"⟩, 1), (⟨"DayWordsModel", "begins", "()V"⟩, 48), (⟨"DayWordsModel", "next", "()V"⟩, 48), (⟨"DayWordsModel", "isAt", "(II)Z"⟩, 48), (⟨"DayWordsModel", "wordHere", "()I"⟩, 48), (⟨"DayWordsModel", "readsDesk", "()V"⟩, 48)]
theorem lw_r3 : ∀ q ∈ lw_privs_3, lw_okq q := List.forall_mem_cons.mpr ⟨lw_p32, List.forall_mem_cons.mpr ⟨lw_p33, List.forall_mem_cons.mpr ⟨lw_p34, List.forall_mem_cons.mpr ⟨lw_p35, List.forall_mem_cons.mpr ⟨lw_p36, List.forall_mem_cons.mpr ⟨lw_p37, List.forall_mem_cons.mpr ⟨lw_p38, List.forall_mem_cons.mpr ⟨lw_p39, List.forall_mem_cons.mpr ⟨lw_p40, List.forall_mem_cons.mpr ⟨lw_p41, List.forall_mem_cons.mpr ⟨lw_p42, List.forall_mem_cons.mpr ⟨lw_p43, List.forall_mem_cons.mpr ⟨lw_p44, List.forall_mem_cons.mpr ⟨lw_p45, List.forall_mem_cons.mpr ⟨lw_p46, List.forall_mem_cons.mpr ⟨lw_p47, fun _ h => absurd h List.not_mem_nil⟩⟩⟩⟩⟩⟩⟩⟩⟩⟩⟩⟩⟩⟩⟩⟩
theorem lw_p48 : lw_okq (⟨"DayWordsModel", "needs", "(Z)V"⟩, 48) := ⟨⟨by decide +kernel, by decide +kernel⟩, List.mem_of_getElem? (i := 932) (by decide +kernel), List.mem_of_getElem? (i := 1124) (by decide +kernel), List.mem_of_getElem? (i := 1125) (by decide +kernel)⟩
theorem lw_p49 : lw_okq (⟨"DayWordsModel", "faults", "(I)V"⟩, 48) := ⟨⟨by decide +kernel, by decide +kernel⟩, List.mem_of_getElem? (i := 932) (by decide +kernel), List.mem_of_getElem? (i := 1128) (by decide +kernel), List.mem_of_getElem? (i := 1129) (by decide +kernel)⟩
theorem lw_p50 : lw_okq (⟨"DayWordsModel", "reads", "(II)I"⟩, 48) := ⟨⟨by decide +kernel, by decide +kernel⟩, List.mem_of_getElem? (i := 932) (by decide +kernel), List.mem_of_getElem? (i := 1132) (by decide +kernel), List.mem_of_getElem? (i := 1133) (by decide +kernel)⟩
theorem lw_p51 : lw_okq (⟨"DayWordsModel", "readsWeekday", "()I"⟩, 48) := ⟨⟨by decide +kernel, by decide +kernel⟩, List.mem_of_getElem? (i := 932) (by decide +kernel), List.mem_of_getElem? (i := 1136) (by decide +kernel), List.mem_of_getElem? (i := 1137) (by decide +kernel)⟩
theorem lw_p52 : lw_okq (⟨"DayWordsModel", "isWeekday", "()Z"⟩, 48) := ⟨⟨by decide +kernel, by decide +kernel⟩, List.mem_of_getElem? (i := 932) (by decide +kernel), List.mem_of_getElem? (i := 1140) (by decide +kernel), List.mem_of_getElem? (i := 1141) (by decide +kernel)⟩
theorem lw_p53 : lw_okq (⟨"DayWordsModel", "readsFeast", "()V"⟩, 48) := ⟨⟨by decide +kernel, by decide +kernel⟩, List.mem_of_getElem? (i := 932) (by decide +kernel), List.mem_of_getElem? (i := 1144) (by decide +kernel), List.mem_of_getElem? (i := 1145) (by decide +kernel)⟩
theorem lw_p54 : lw_okq (⟨"DayWordsModel", "feastHere", "()I"⟩, 48) := ⟨⟨by decide +kernel, by decide +kernel⟩, List.mem_of_getElem? (i := 932) (by decide +kernel), List.mem_of_getElem? (i := 1148) (by decide +kernel), List.mem_of_getElem? (i := 1149) (by decide +kernel)⟩
theorem lw_p55 : lw_okq (⟨"DayWordsModel", "readsDay", "(I)I"⟩, 48) := ⟨⟨by decide +kernel, by decide +kernel⟩, List.mem_of_getElem? (i := 932) (by decide +kernel), List.mem_of_getElem? (i := 1152) (by decide +kernel), List.mem_of_getElem? (i := 1153) (by decide +kernel)⟩
theorem lw_p56 : lw_okq (⟨"DayWordsModel", "readsTrain", "()V"⟩, 48) := ⟨⟨by decide +kernel, by decide +kernel⟩, List.mem_of_getElem? (i := 932) (by decide +kernel), List.mem_of_getElem? (i := 1159) (by decide +kernel), List.mem_of_getElem? (i := 1160) (by decide +kernel)⟩
theorem lw_p57 : lw_okq (⟨"DayWordsModel", "isSign", "(C)Z"⟩, 48) := ⟨⟨by decide +kernel, by decide +kernel⟩, List.mem_of_getElem? (i := 932) (by decide +kernel), List.mem_of_getElem? (i := 1163) (by decide +kernel), List.mem_of_getElem? (i := 1164) (by decide +kernel)⟩
theorem lw_p58 : lw_okq (⟨"DayWordsModel", "readsWording", "()I"⟩, 48) := ⟨⟨by decide +kernel, by decide +kernel⟩, List.mem_of_getElem? (i := 932) (by decide +kernel), List.mem_of_getElem? (i := 1167) (by decide +kernel), List.mem_of_getElem? (i := 1168) (by decide +kernel)⟩
theorem lw_p59 : lw_okq (⟨"DayWordsModel", "readsSpans", "()I"⟩, 48) := ⟨⟨by decide +kernel, by decide +kernel⟩, List.mem_of_getElem? (i := 932) (by decide +kernel), List.mem_of_getElem? (i := 1171) (by decide +kernel), List.mem_of_getElem? (i := 1172) (by decide +kernel)⟩
theorem lw_p60 : lw_okq (⟨"DayWordsModel", "readsPattern", "()I"⟩, 48) := ⟨⟨by decide +kernel, by decide +kernel⟩, List.mem_of_getElem? (i := 932) (by decide +kernel), List.mem_of_getElem? (i := 1175) (by decide +kernel), List.mem_of_getElem? (i := 1176) (by decide +kernel)⟩
theorem lw_p61 : lw_okq (⟨"DayWordsModel", "readsBehind", "(I)I"⟩, 48) := ⟨⟨by decide +kernel, by decide +kernel⟩, List.mem_of_getElem? (i := 932) (by decide +kernel), List.mem_of_getElem? (i := 1179) (by decide +kernel), List.mem_of_getElem? (i := 1180) (by decide +kernel)⟩
theorem lw_p62 : lw_okq (⟨"DayWordsModel", "weekdayOf", "(I)I"⟩, 48) := ⟨⟨by decide +kernel, by decide +kernel⟩, List.mem_of_getElem? (i := 932) (by decide +kernel), List.mem_of_getElem? (i := 1183) (by decide +kernel), List.mem_of_getElem? (i := 1184) (by decide +kernel)⟩
theorem lw_p63 : lw_okq (⟨"DayWordsModel", "readsEntries", "()I"⟩, 48) := ⟨⟨by decide +kernel, by decide +kernel⟩, List.mem_of_getElem? (i := 932) (by decide +kernel), List.mem_of_getElem? (i := 1187) (by decide +kernel), List.mem_of_getElem? (i := 1188) (by decide +kernel)⟩
def lw_privs_4 : List (MethodName × Nat) := [(⟨"DayWordsModel", "needs", "(Z)V"⟩, 48), (⟨"DayWordsModel", "faults", "(I)V"⟩, 48), (⟨"DayWordsModel", "reads", "(II)I"⟩, 48), (⟨"DayWordsModel", "readsWeekday", "()I"⟩, 48), (⟨"DayWordsModel", "isWeekday", "()Z"⟩, 48), (⟨"DayWordsModel", "readsFeast", "()V"⟩, 48), (⟨"DayWordsModel", "feastHere", "()I"⟩, 48), (⟨"DayWordsModel", "readsDay", "(I)I"⟩, 48), (⟨"DayWordsModel", "readsTrain", "()V"⟩, 48), (⟨"DayWordsModel", "isSign", "(C)Z"⟩, 48), (⟨"DayWordsModel", "readsWording", "()I"⟩, 48), (⟨"DayWordsModel", "readsSpans", "()I"⟩, 48), (⟨"DayWordsModel", "readsPattern", "()I"⟩, 48), (⟨"DayWordsModel", "readsBehind", "(I)I"⟩, 48), (⟨"DayWordsModel", "weekdayOf", "(I)I"⟩, 48), (⟨"DayWordsModel", "readsEntries", "()I"⟩, 48)]
theorem lw_r4 : ∀ q ∈ lw_privs_4, lw_okq q := List.forall_mem_cons.mpr ⟨lw_p48, List.forall_mem_cons.mpr ⟨lw_p49, List.forall_mem_cons.mpr ⟨lw_p50, List.forall_mem_cons.mpr ⟨lw_p51, List.forall_mem_cons.mpr ⟨lw_p52, List.forall_mem_cons.mpr ⟨lw_p53, List.forall_mem_cons.mpr ⟨lw_p54, List.forall_mem_cons.mpr ⟨lw_p55, List.forall_mem_cons.mpr ⟨lw_p56, List.forall_mem_cons.mpr ⟨lw_p57, List.forall_mem_cons.mpr ⟨lw_p58, List.forall_mem_cons.mpr ⟨lw_p59, List.forall_mem_cons.mpr ⟨lw_p60, List.forall_mem_cons.mpr ⟨lw_p61, List.forall_mem_cons.mpr ⟨lw_p62, List.forall_mem_cons.mpr ⟨lw_p63, fun _ h => absurd h List.not_mem_nil⟩⟩⟩⟩⟩⟩⟩⟩⟩⟩⟩⟩⟩⟩⟩⟩
theorem lw_p64 : lw_okq (⟨"DayWordsModel", "isDay", "(I)Z"⟩, 48) := ⟨⟨by decide +kernel, by decide +kernel⟩, List.mem_of_getElem? (i := 932) (by decide +kernel), List.mem_of_getElem? (i := 1203) (by decide +kernel), List.mem_of_getElem? (i := 1204) (by decide +kernel)⟩
theorem lw_p65 : lw_okq (⟨"DayWordsModel", "isTrain", "(I)Z"⟩, 48) := ⟨⟨by decide +kernel, by decide +kernel⟩, List.mem_of_getElem? (i := 932) (by decide +kernel), List.mem_of_getElem? (i := 1215) (by decide +kernel), List.mem_of_getElem? (i := 1216) (by decide +kernel)⟩
theorem lw_p66 : lw_okq (⟨"DayWordsModel", "runsOf", "(I)I"⟩, 48) := ⟨⟨by decide +kernel, by decide +kernel⟩, List.mem_of_getElem? (i := 932) (by decide +kernel), List.mem_of_getElem? (i := 1223) (by decide +kernel), List.mem_of_getElem? (i := 1224) (by decide +kernel)⟩
theorem lw_p67 : lw_okq (⟨"DayWordsModel", "daysOf", "(I)I"⟩, 48) := ⟨⟨by decide +kernel, by decide +kernel⟩, List.mem_of_getElem? (i := 932) (by decide +kernel), List.mem_of_getElem? (i := 1246) (by decide +kernel), List.mem_of_getElem? (i := 1247) (by decide +kernel)⟩
theorem lw_p68 : lw_okq (⟨"DayWordsModel", "voteOf", "(I)I"⟩, 48) := ⟨⟨by decide +kernel, by decide +kernel⟩, List.mem_of_getElem? (i := 932) (by decide +kernel), List.mem_of_getElem? (i := 1254) (by decide +kernel), List.mem_of_getElem? (i := 1255) (by decide +kernel)⟩
theorem lw_p69 : lw_okq (⟨"DayWordsModel", "solves", "(IZ)I"⟩, 48) := ⟨⟨by decide +kernel, by decide +kernel⟩, List.mem_of_getElem? (i := 932) (by decide +kernel), List.mem_of_getElem? (i := 1275) (by decide +kernel), List.mem_of_getElem? (i := 1276) (by decide +kernel)⟩
theorem lw_p70 : lw_okq (⟨"DayWordsModel", "begins", "(I)V"⟩, 48) := ⟨⟨by decide +kernel, by decide +kernel⟩, List.mem_of_getElem? (i := 932) (by decide +kernel), List.mem_of_getElem? (i := 1279) (by decide +kernel), List.mem_of_getElem? (i := 1280) (by decide +kernel)⟩
theorem lw_p71 : lw_okq (⟨"DayWordsModel", "canStand", "()Z"⟩, 48) := ⟨⟨by decide +kernel, by decide +kernel⟩, List.mem_of_getElem? (i := 932) (by decide +kernel), List.mem_of_getElem? (i := 1286) (by decide +kernel), List.mem_of_getElem? (i := 1287) (by decide +kernel)⟩
theorem lw_p72 : lw_okq (⟨"DayWordsModel", "feastDays", "(I)I"⟩, 48) := ⟨⟨by decide +kernel, by decide +kernel⟩, List.mem_of_getElem? (i := 932) (by decide +kernel), List.mem_of_getElem? (i := 1290) (by decide +kernel), List.mem_of_getElem? (i := 1291) (by decide +kernel)⟩
theorem lw_p73 : lw_okq (⟨"DayWordsModel", "modeCost", "(I)I"⟩, 48) := ⟨⟨by decide +kernel, by decide +kernel⟩, List.mem_of_getElem? (i := 932) (by decide +kernel), List.mem_of_getElem? (i := 1294) (by decide +kernel), List.mem_of_getElem? (i := 1295) (by decide +kernel)⟩
theorem lw_p74 : lw_okq (⟨"DayWordsModel", "weighs", "(I)V"⟩, 48) := ⟨⟨by decide +kernel, by decide +kernel⟩, List.mem_of_getElem? (i := 932) (by decide +kernel), List.mem_of_getElem? (i := 1298) (by decide +kernel), List.mem_of_getElem? (i := 1299) (by decide +kernel)⟩
theorem lw_p75 : lw_okq (⟨"DayWordsModel", "bareCost", "(II)I"⟩, 48) := ⟨⟨by decide +kernel, by decide +kernel⟩, List.mem_of_getElem? (i := 932) (by decide +kernel), List.mem_of_getElem? (i := 1305) (by decide +kernel), List.mem_of_getElem? (i := 1306) (by decide +kernel)⟩
theorem lw_p76 : lw_okq (⟨"DayWordsModel", "goesOn", "(IIII)I"⟩, 48) := ⟨⟨by decide +kernel, by decide +kernel⟩, List.mem_of_getElem? (i := 932) (by decide +kernel), List.mem_of_getElem? (i := 1309) (by decide +kernel), List.mem_of_getElem? (i := 1310) (by decide +kernel)⟩
theorem lw_p77 : lw_okq (⟨"DayWordsModel", "spanCost", "(II)I"⟩, 48) := ⟨⟨by decide +kernel, by decide +kernel⟩, List.mem_of_getElem? (i := 932) (by decide +kernel), List.mem_of_getElem? (i := 1313) (by decide +kernel), List.mem_of_getElem? (i := 1314) (by decide +kernel)⟩
theorem lw_p78 : lw_okq (⟨"DayWordsModel", "endsCost", "(II)I"⟩, 48) := ⟨⟨by decide +kernel, by decide +kernel⟩, List.mem_of_getElem? (i := 932) (by decide +kernel), List.mem_of_getElem? (i := 1318) (by decide +kernel), List.mem_of_getElem? (i := 1319) (by decide +kernel)⟩
theorem lw_p79 : lw_okq (⟨"DayWordsModel", "writes", "(II)V"⟩, 48) := ⟨⟨by decide +kernel, by decide +kernel⟩, List.mem_of_getElem? (i := 932) (by decide +kernel), List.mem_of_getElem? (i := 1331) (by decide +kernel), List.mem_of_getElem? (i := 1332) (by decide +kernel)⟩
def lw_privs_5 : List (MethodName × Nat) := [(⟨"DayWordsModel", "isDay", "(I)Z"⟩, 48), (⟨"DayWordsModel", "isTrain", "(I)Z"⟩, 48), (⟨"DayWordsModel", "runsOf", "(I)I"⟩, 48), (⟨"DayWordsModel", "daysOf", "(I)I"⟩, 48), (⟨"DayWordsModel", "voteOf", "(I)I"⟩, 48), (⟨"DayWordsModel", "solves", "(IZ)I"⟩, 48), (⟨"DayWordsModel", "begins", "(I)V"⟩, 48), (⟨"DayWordsModel", "canStand", "()Z"⟩, 48), (⟨"DayWordsModel", "feastDays", "(I)I"⟩, 48), (⟨"DayWordsModel", "modeCost", "(I)I"⟩, 48), (⟨"DayWordsModel", "weighs", "(I)V"⟩, 48), (⟨"DayWordsModel", "bareCost", "(II)I"⟩, 48), (⟨"DayWordsModel", "goesOn", "(IIII)I"⟩, 48), (⟨"DayWordsModel", "spanCost", "(II)I"⟩, 48), (⟨"DayWordsModel", "endsCost", "(II)I"⟩, 48), (⟨"DayWordsModel", "writes", "(II)V"⟩, 48)]
theorem lw_r5 : ∀ q ∈ lw_privs_5, lw_okq q := List.forall_mem_cons.mpr ⟨lw_p64, List.forall_mem_cons.mpr ⟨lw_p65, List.forall_mem_cons.mpr ⟨lw_p66, List.forall_mem_cons.mpr ⟨lw_p67, List.forall_mem_cons.mpr ⟨lw_p68, List.forall_mem_cons.mpr ⟨lw_p69, List.forall_mem_cons.mpr ⟨lw_p70, List.forall_mem_cons.mpr ⟨lw_p71, List.forall_mem_cons.mpr ⟨lw_p72, List.forall_mem_cons.mpr ⟨lw_p73, List.forall_mem_cons.mpr ⟨lw_p74, List.forall_mem_cons.mpr ⟨lw_p75, List.forall_mem_cons.mpr ⟨lw_p76, List.forall_mem_cons.mpr ⟨lw_p77, List.forall_mem_cons.mpr ⟨lw_p78, List.forall_mem_cons.mpr ⟨lw_p79, fun _ h => absurd h List.not_mem_nil⟩⟩⟩⟩⟩⟩⟩⟩⟩⟩⟩⟩⟩⟩⟩⟩
theorem lw_p80 : lw_okq (⟨"DayWordsModel", "chooses", "(I)I"⟩, 48) := ⟨⟨by decide +kernel, by decide +kernel⟩, List.mem_of_getElem? (i := 932) (by decide +kernel), List.mem_of_getElem? (i := 1335) (by decide +kernel), List.mem_of_getElem? (i := 1336) (by decide +kernel)⟩
theorem lw_p81 : lw_okq (⟨"DayWordsModel", "goesBare", "(I)Z"⟩, 48) := ⟨⟨by decide +kernel, by decide +kernel⟩, List.mem_of_getElem? (i := 932) (by decide +kernel), List.mem_of_getElem? (i := 1339) (by decide +kernel), List.mem_of_getElem? (i := 1340) (by decide +kernel)⟩
theorem lw_p82 : lw_okq (⟨"DayWordsModel", "begun", "(I)I"⟩, 48) := ⟨⟨by decide +kernel, by decide +kernel⟩, List.mem_of_getElem? (i := 932) (by decide +kernel), List.mem_of_getElem? (i := 1343) (by decide +kernel), List.mem_of_getElem? (i := 1344) (by decide +kernel)⟩
theorem lw_p83 : lw_okq (⟨"DayWordsModel", "takes", "(III)Z"⟩, 48) := ⟨⟨by decide +kernel, by decide +kernel⟩, List.mem_of_getElem? (i := 932) (by decide +kernel), List.mem_of_getElem? (i := 1347) (by decide +kernel), List.mem_of_getElem? (i := 1348) (by decide +kernel)⟩
theorem lw_p84 : lw_okq (⟨"DayWordsModel", "costOf", "(IIII)I"⟩, 48) := ⟨⟨by decide +kernel, by decide +kernel⟩, List.mem_of_getElem? (i := 932) (by decide +kernel), List.mem_of_getElem? (i := 1351) (by decide +kernel), List.mem_of_getElem? (i := 1352) (by decide +kernel)⟩
theorem lw_p85 : lw_okq (⟨"DayWordsModel", "rests", "()V"⟩, 48) := ⟨⟨by decide +kernel, by decide +kernel⟩, List.mem_of_getElem? (i := 932) (by decide +kernel), List.mem_of_getElem? (i := 1355) (by decide +kernel), List.mem_of_getElem? (i := 1356) (by decide +kernel)⟩
theorem lw_p86 : lw_okq (⟨"DayWordsModel", "says", "(I)V"⟩, 48) := ⟨⟨by decide +kernel, by decide +kernel⟩, List.mem_of_getElem? (i := 932) (by decide +kernel), List.mem_of_getElem? (i := 1359) (by decide +kernel), List.mem_of_getElem? (i := 1360) (by decide +kernel)⟩
theorem lw_p87 : lw_okq (⟨"DayWordsModel", "blank", "()V"⟩, 48) := ⟨⟨by decide +kernel, by decide +kernel⟩, List.mem_of_getElem? (i := 932) (by decide +kernel), List.mem_of_getElem? (i := 1363) (by decide +kernel), List.mem_of_getElem? (i := 1364) (by decide +kernel)⟩
theorem lw_p88 : lw_okq (⟨"DayWordsModel", "sign", "(I)V"⟩, 48) := ⟨⟨by decide +kernel, by decide +kernel⟩, List.mem_of_getElem? (i := 932) (by decide +kernel), List.mem_of_getElem? (i := 1367) (by decide +kernel), List.mem_of_getElem? (i := 1368) (by decide +kernel)⟩
theorem lw_p89 : lw_okq (⟨"DayWordsModel", "saysPattern", "(I)V"⟩, 48) := ⟨⟨by decide +kernel, by decide +kernel⟩, List.mem_of_getElem? (i := 932) (by decide +kernel), List.mem_of_getElem? (i := 1371) (by decide +kernel), List.mem_of_getElem? (i := 1372) (by decide +kernel)⟩
theorem lw_p90 : lw_okq (⟨"DayWordsModel", "saysNumber", "(I)V"⟩, 48) := ⟨⟨by decide +kernel, by decide +kernel⟩, List.mem_of_getElem? (i := 932) (by decide +kernel), List.mem_of_getElem? (i := 1375) (by decide +kernel), List.mem_of_getElem? (i := 1376) (by decide +kernel)⟩
theorem lw_p91 : lw_okq (⟨"DayWordsModel", "saysEntries", "(III)V"⟩, 48) := ⟨⟨by decide +kernel, by decide +kernel⟩, List.mem_of_getElem? (i := 932) (by decide +kernel), List.mem_of_getElem? (i := 1379) (by decide +kernel), List.mem_of_getElem? (i := 1380) (by decide +kernel)⟩
theorem lw_p92 : lw_okq (⟨"DayWordsModel", "withinOf", "(II)I"⟩, 48) := ⟨⟨by decide +kernel, by decide +kernel⟩, List.mem_of_getElem? (i := 932) (by decide +kernel), List.mem_of_getElem? (i := 1409) (by decide +kernel), List.mem_of_getElem? (i := 1410) (by decide +kernel)⟩
theorem lw_p93 : lw_okq (⟨"DayWordsModel", "weighsWithin", "(II)I"⟩, 48) := ⟨⟨by decide +kernel, by decide +kernel⟩, List.mem_of_getElem? (i := 932) (by decide +kernel), List.mem_of_getElem? (i := 1413) (by decide +kernel), List.mem_of_getElem? (i := 1414) (by decide +kernel)⟩
theorem lw_p94 : lw_okq (⟨"DayWordsModel", "whole", "()I"⟩, 48) := ⟨⟨by decide +kernel, by decide +kernel⟩, List.mem_of_getElem? (i := 932) (by decide +kernel), List.mem_of_getElem? (i := 1431) (by decide +kernel), List.mem_of_getElem? (i := 1432) (by decide +kernel)⟩
theorem lw_p95 : lw_okq (⟨"DayWordsModel", "readsAlone", "()I"⟩, 48) := ⟨⟨by decide +kernel, by decide +kernel⟩, List.mem_of_getElem? (i := 932) (by decide +kernel), List.mem_of_getElem? (i := 1443) (by decide +kernel), List.mem_of_getElem? (i := 1444) (by decide +kernel)⟩
def lw_privs_6 : List (MethodName × Nat) := [(⟨"DayWordsModel", "chooses", "(I)I"⟩, 48), (⟨"DayWordsModel", "goesBare", "(I)Z"⟩, 48), (⟨"DayWordsModel", "begun", "(I)I"⟩, 48), (⟨"DayWordsModel", "takes", "(III)Z"⟩, 48), (⟨"DayWordsModel", "costOf", "(IIII)I"⟩, 48), (⟨"DayWordsModel", "rests", "()V"⟩, 48), (⟨"DayWordsModel", "says", "(I)V"⟩, 48), (⟨"DayWordsModel", "blank", "()V"⟩, 48), (⟨"DayWordsModel", "sign", "(I)V"⟩, 48), (⟨"DayWordsModel", "saysPattern", "(I)V"⟩, 48), (⟨"DayWordsModel", "saysNumber", "(I)V"⟩, 48), (⟨"DayWordsModel", "saysEntries", "(III)V"⟩, 48), (⟨"DayWordsModel", "withinOf", "(II)I"⟩, 48), (⟨"DayWordsModel", "weighsWithin", "(II)I"⟩, 48), (⟨"DayWordsModel", "whole", "()I"⟩, 48), (⟨"DayWordsModel", "readsAlone", "()I"⟩, 48)]
theorem lw_r6 : ∀ q ∈ lw_privs_6, lw_okq q := List.forall_mem_cons.mpr ⟨lw_p80, List.forall_mem_cons.mpr ⟨lw_p81, List.forall_mem_cons.mpr ⟨lw_p82, List.forall_mem_cons.mpr ⟨lw_p83, List.forall_mem_cons.mpr ⟨lw_p84, List.forall_mem_cons.mpr ⟨lw_p85, List.forall_mem_cons.mpr ⟨lw_p86, List.forall_mem_cons.mpr ⟨lw_p87, List.forall_mem_cons.mpr ⟨lw_p88, List.forall_mem_cons.mpr ⟨lw_p89, List.forall_mem_cons.mpr ⟨lw_p90, List.forall_mem_cons.mpr ⟨lw_p91, List.forall_mem_cons.mpr ⟨lw_p92, List.forall_mem_cons.mpr ⟨lw_p93, List.forall_mem_cons.mpr ⟨lw_p94, List.forall_mem_cons.mpr ⟨lw_p95, fun _ h => absurd h List.not_mem_nil⟩⟩⟩⟩⟩⟩⟩⟩⟩⟩⟩⟩⟩⟩⟩⟩
theorem lw_p96 : lw_okq (⟨"DayWordsModel", "joinOf", "(I)I"⟩, 48) := ⟨⟨by decide +kernel, by decide +kernel⟩, List.mem_of_getElem? (i := 932) (by decide +kernel), List.mem_of_getElem? (i := 1467) (by decide +kernel), List.mem_of_getElem? (i := 1468) (by decide +kernel)⟩
theorem lw_p97 : lw_okq (⟨"DayWordsModel", "isJoined", "(II)Z"⟩, 48) := ⟨⟨by decide +kernel, by decide +kernel⟩, List.mem_of_getElem? (i := 932) (by decide +kernel), List.mem_of_getElem? (i := 1471) (by decide +kernel), List.mem_of_getElem? (i := 1472) (by decide +kernel)⟩
theorem lw_p98 : lw_okq (⟨"DayWordsModel", "jointOf", "(IZ)I"⟩, 48) := ⟨⟨by decide +kernel, by decide +kernel⟩, List.mem_of_getElem? (i := 932) (by decide +kernel), List.mem_of_getElem? (i := 1479) (by decide +kernel), List.mem_of_getElem? (i := 1480) (by decide +kernel)⟩
theorem lw_p99 : lw_okq (⟨"DayWordsModel", "crowdOf", "(I)I"⟩, 48) := ⟨⟨by decide +kernel, by decide +kernel⟩, List.mem_of_getElem? (i := 932) (by decide +kernel), List.mem_of_getElem? (i := 1495) (by decide +kernel), List.mem_of_getElem? (i := 1496) (by decide +kernel)⟩
theorem lw_p100 : lw_okq (⟨"DayWordsModel", "keeps", "()V"⟩, 48) := ⟨⟨by decide +kernel, by decide +kernel⟩, List.mem_of_getElem? (i := 932) (by decide +kernel), List.mem_of_getElem? (i := 1507) (by decide +kernel), List.mem_of_getElem? (i := 1508) (by decide +kernel)⟩
theorem lw_p101 : lw_okq (⟨"DayWordsModel", "goesBack", "(I)V"⟩, 48) := ⟨⟨by decide +kernel, by decide +kernel⟩, List.mem_of_getElem? (i := 932) (by decide +kernel), List.mem_of_getElem? (i := 1523) (by decide +kernel), List.mem_of_getElem? (i := 1524) (by decide +kernel)⟩
def lw_privs_7 : List (MethodName × Nat) := [(⟨"DayWordsModel", "joinOf", "(I)I"⟩, 48), (⟨"DayWordsModel", "isJoined", "(II)Z"⟩, 48), (⟨"DayWordsModel", "jointOf", "(IZ)I"⟩, 48), (⟨"DayWordsModel", "crowdOf", "(I)I"⟩, 48), (⟨"DayWordsModel", "keeps", "()V"⟩, 48), (⟨"DayWordsModel", "goesBack", "(I)V"⟩, 48)]
theorem lw_r7 : ∀ q ∈ lw_privs_7, lw_okq q := List.forall_mem_cons.mpr ⟨lw_p96, List.forall_mem_cons.mpr ⟨lw_p97, List.forall_mem_cons.mpr ⟨lw_p98, List.forall_mem_cons.mpr ⟨lw_p99, List.forall_mem_cons.mpr ⟨lw_p100, List.forall_mem_cons.mpr ⟨lw_p101, fun _ h => absurd h List.not_mem_nil⟩⟩⟩⟩⟩⟩
def lw_privs : List (MethodName × Nat) := lw_privs_1 ++ (lw_privs_2 ++ (lw_privs_3 ++ (lw_privs_4 ++ (lw_privs_5 ++ (lw_privs_6 ++ (lw_privs_7))))))
def lw_tbl : List Cond := k2_sels lw_privs ++ tables_1
theorem lw_privs_ok : ∀ q ∈ lw_privs, lw_okq q := by
  show ∀ q ∈ lw_privs_1 ++ (lw_privs_2 ++ (lw_privs_3 ++ (lw_privs_4 ++ (lw_privs_5 ++ (lw_privs_6 ++ (lw_privs_7)))))), lw_okq q
  exact List.forall_mem_append.mpr ⟨lw_r1, List.forall_mem_append.mpr ⟨lw_r2, List.forall_mem_append.mpr ⟨lw_r3, List.forall_mem_append.mpr ⟨lw_r4, List.forall_mem_append.mpr ⟨lw_r5, List.forall_mem_append.mpr ⟨lw_r6, lw_r7⟩⟩⟩⟩⟩⟩
end
section
def RX0 : String := "DayWords$Acts"
def TX0 : u_T := fun k => match k with
  | 0 => ("DayWords$Acts", "before", "[I", true)
  | _ => ("DayWords$Acts", "many", "I", false)
def tyX0 : Nat → FieldType := fun k => match k with
  | 0 => .array .int
  | _ => .int
theorem nmX0 : ∀ a, a < 2 → ∀ b, b < 2 → a ≠ b → (TX0 a).2.1 ≠ (TX0 b).2.1 := by decide +kernel
theorem tyX0_ok : ∀ k, k < 2 → parseFieldDescriptor (TX0 k).2.2.1 = some (tyX0 k) := by decide +kernel
abbrev cX0_init : ByteArray := prog_2_method_1_code
def yX0_init : MethodName := ⟨RX0, "<init>", "()V"⟩
abbrev cX0_note : ByteArray := prog_2_method_2_code
def yX0_note : MethodName := ⟨RX0, "note", "(LDayWords$Desk;)V"⟩
abbrev cX0_backTo : ByteArray := prog_2_method_3_code
def yX0_backTo : MethodName := ⟨RX0, "backTo", "(ILDayWords$Desk;)V"⟩
def RX1 : String := "DayWords$Desk"
def TX1 : u_T := fun k => match k with
  | 0 => ("DayWords$Desk", "patternDays", "[I", true)
  | 1 => ("DayWords$Desk", "names", "[J", true)
  | 2 => ("DayWords$Desk", "feastDays", "[I", true)
  | 3 => ("DayWords$Desk", "routes", "[I", true)
  | 4 => ("DayWords$Desk", "minutes", "[I", true)
  | 5 => ("DayWords$Desk", "running", "[I", true)
  | 6 => ("DayWords$Desk", "period", "I", false)
  | 7 => ("DayWords$Desk", "first", "I", false)
  | 8 => ("DayWords$Desk", "feasts", "I", false)
  | 9 => ("DayWords$Desk", "trains", "I", false)
  | _ => ("DayWords$Desk", "lines", "I", false)
def tyX1 : Nat → FieldType := fun k => match k with
  | 0 => .array .int
  | 1 => .array .long
  | 2 => .array .int
  | 3 => .array .int
  | 4 => .array .int
  | 5 => .array .int
  | 6 => .int
  | 7 => .int
  | 8 => .int
  | 9 => .int
  | _ => .int
theorem nmX1 : ∀ a, a < 11 → ∀ b, b < 11 → a ≠ b → (TX1 a).2.1 ≠ (TX1 b).2.1 := by decide +kernel
theorem tyX1_ok : ∀ k, k < 11 → parseFieldDescriptor (TX1 k).2.2.1 = some (tyX1 k) := by decide +kernel
abbrev cX1_init : ByteArray := prog_3_method_1_code
def yX1_init : MethodName := ⟨RX1, "<init>", "()V"⟩
abbrev cX1_clear : ByteArray := prog_3_method_2_code
def yX1_clear : MethodName := ⟨RX1, "clear", "()V"⟩
abbrev cX1_openPeriod : ByteArray := prog_3_method_3_code
def yX1_openPeriod : MethodName := ⟨RX1, "openPeriod", "(II)V"⟩
abbrev cX1_weekdayOf : ByteArray := prog_3_method_4_code
def yX1_weekdayOf : MethodName := ⟨RX1, "weekdayOf", "(I)I"⟩
abbrev cX1_allDays : ByteArray := prog_3_method_5_code
def yX1_allDays : MethodName := ⟨RX1, "allDays", "()I"⟩
abbrev cX1_feastNamed : ByteArray := prog_3_method_6_code
def yX1_feastNamed : MethodName := ⟨RX1, "feastNamed", "(J)I"⟩
abbrev cX1_areMates : ByteArray := prog_3_method_7_code
def yX1_areMates : MethodName := ⟨RX1, "areMates", "(II)Z"⟩
abbrev cX1_leader : ByteArray := prog_3_method_8_code
def yX1_leader : MethodName := ⟨RX1, "leader", "(I)I"⟩
abbrev cX1_jointDays : ByteArray := prog_3_method_9_code
def yX1_jointDays : MethodName := ⟨RX1, "jointDays", "(I)I"⟩
abbrev cX1_trainsOn : ByteArray := prog_3_method_10_code
def yX1_trainsOn : MethodName := ⟨RX1, "trainsOn", "(I)I"⟩
def RX2 : String := "DayWords$Finder"
def TX2 : u_T := fun k => match k with
  | 0 => ("DayWords$Finder", "writer", "LDayWords$Writer;", true)
  | 1 => ("DayWords$Finder", "words", "LDayWords$Words;", true)
  | 2 => ("DayWords$Finder", "patternTokens", "[I", true)
  | 3 => ("DayWords$Finder", "order", "[I", true)
  | 4 => ("DayWords$Finder", "cheaper", "[I", true)
  | 5 => ("DayWords$Finder", "rows", "[LDayWords$Row;", true)
  | 6 => ("DayWords$Finder", "leaning", "[I", true)
  | 7 => ("DayWords$Finder", "desk", "LDayWords$Desk;", false)
  | 8 => ("DayWords$Finder", "target", "I", false)
  | 9 => ("DayWords$Finder", "hidden", "I", false)
  | 10 => ("DayWords$Finder", "wanted", "I", false)
  | 11 => ("DayWords$Finder", "startState", "I", false)
  | 12 => ("DayWords$Finder", "bestTokens", "I", false)
  | 13 => ("DayWords$Finder", "bestAlike", "J", false)
  | 14 => ("DayWords$Finder", "bestNot", "I", false)
  | _ => ("DayWords$Finder", "bestAlso", "I", false)
def tyX2 : Nat → FieldType := fun k => match k with
  | 0 => .object "DayWords$Writer"
  | 1 => .object "DayWords$Words"
  | 2 => .array .int
  | 3 => .array .int
  | 4 => .array .int
  | 5 => .array (.object "DayWords$Row")
  | 6 => .array .int
  | 7 => .object "DayWords$Desk"
  | 8 => .int
  | 9 => .int
  | 10 => .int
  | 11 => .int
  | 12 => .int
  | 13 => .long
  | 14 => .int
  | _ => .int
theorem nmX2 : ∀ a, a < 16 → ∀ b, b < 16 → a ≠ b → (TX2 a).2.1 ≠ (TX2 b).2.1 := by decide +kernel
theorem tyX2_ok : ∀ k, k < 16 → parseFieldDescriptor (TX2 k).2.2.1 = some (tyX2 k) := by decide +kernel
abbrev cX2_init : ByteArray := prog_4_method_1_code
def yX2_init : MethodName := ⟨RX2, "<init>", "(LDayWords$Lexicon;LDayWords$Desk;)V"⟩
abbrev cX2_tokensOf : ByteArray := prog_4_method_2_code
def yX2_tokensOf : MethodName := ⟨RX2, "tokensOf", "(I)I"⟩
abbrev cX2_work : ByteArray := prog_4_method_3_code
def yX2_work : MethodName := ⟨RX2, "work", "(LDayWords$Desk;)V"⟩
abbrev cX2_fewest : ByteArray := prog_4_method_4_code
def yX2_fewest : MethodName := ⟨RX2, "fewest", "(IIZ)I"⟩
abbrev cX2_find : ByteArray := prog_4_method_5_code
def yX2_find : MethodName := ⟨RX2, "find", "(I)LDayWords$Words;"⟩
abbrev cX2_absentWeekdays : ByteArray := prog_4_method_6_code
def yX2_absentWeekdays : MethodName := ⟨RX2, "absentWeekdays", "()I"⟩
abbrev cX2_search : ByteArray := prog_4_method_7_code
def yX2_search : MethodName := ⟨RX2, "search", "(IIZ)V"⟩
abbrev cX2_feastsInside : ByteArray := prog_4_method_8_code
def yX2_feastsInside : MethodName := ⟨RX2, "feastsInside", "(I)I"⟩
abbrev cX2_prepare : ByteArray := prog_4_method_9_code
def yX2_prepare : MethodName := ⟨RX2, "prepare", "(II)V"⟩
abbrev cX2_feastsAsDays : ByteArray := prog_4_method_10_code
def yX2_feastsAsDays : MethodName := ⟨RX2, "feastsAsDays", "(I)I"⟩
abbrev cX2_compare : ByteArray := prog_4_method_11_code
def yX2_compare : MethodName := ⟨RX2, "compare", "(IILDayWords$Row;)V"⟩
abbrev cX2_fill : ByteArray := prog_4_method_12_code
def yX2_fill : MethodName := ⟨RX2, "fill", "(LDayWords$Row;LDayWords$Row;)V"⟩
abbrev cX2_tokensOfDay : ByteArray := prog_4_method_13_code
def yX2_tokensOfDay : MethodName := ⟨RX2, "tokensOfDay", "(II)I"⟩
abbrev cX2_stateBehindDay : ByteArray := prog_4_method_14_code
def yX2_stateBehindDay : MethodName := ⟨RX2, "stateBehindDay", "(II)I"⟩
abbrev cX2_tokensOfBounds : ByteArray := prog_4_method_15_code
def yX2_tokensOfBounds : MethodName := ⟨RX2, "tokensOfBounds", "(II)I"⟩
abbrev cX2_offerSpans : ByteArray := prog_4_method_16_code
def yX2_offerSpans : MethodName := ⟨RX2, "offerSpans", "(LDayWords$Row;LDayWords$Row;I)V"⟩
abbrev cX2_offerPatterns : ByteArray := prog_4_method_17_code
def yX2_offerPatterns : MethodName := ⟨RX2, "offerPatterns", "(LDayWords$Row;LDayWords$Row;IIII)V"⟩
abbrev cX2_offer : ByteArray := prog_4_method_18_code
def yX2_offer : MethodName := ⟨RX2, "offer", "(LDayWords$Row;LDayWords$Row;IIII)V"⟩
abbrev cX2_trace : ByteArray := prog_4_method_19_code
def yX2_trace : MethodName := ⟨RX2, "trace", "()V"⟩
abbrev cX2_traceSpan : ByteArray := prog_4_method_20_code
def yX2_traceSpan : MethodName := ⟨RX2, "traceSpan", "(II)I"⟩
def RX3 : String := "DayWords$Lexicon"
def TX3 : u_T := fun k => match k with
  | _ => ("DayWords$Lexicon", "codes", "[J", true)
def tyX3 : Nat → FieldType := fun k => match k with
  | _ => .array .long
theorem nmX3 : ∀ a, a < 1 → ∀ b, b < 1 → a ≠ b → (TX3 a).2.1 ≠ (TX3 b).2.1 := by decide +kernel
theorem tyX3_ok : ∀ k, k < 1 → parseFieldDescriptor (TX3 k).2.2.1 = some (tyX3 k) := by decide +kernel
abbrev cX3_init : ByteArray := prog_5_method_1_code
def yX3_init : MethodName := ⟨RX3, "<init>", "()V"⟩
abbrev cX3_kindOf : ByteArray := prog_5_method_2_code
def yX3_kindOf : MethodName := ⟨RX3, "kindOf", "(J)I"⟩
def RX4 : String := "DayWords$Reader"
def TX4 : u_T := fun k => match k with
  | 0 => ("DayWords$Reader", "fault", "I", false)
  | 1 => ("DayWords$Reader", "place", "I", false)
  | 2 => ("DayWords$Reader", "wordingDays", "I", false)
  | 3 => ("DayWords$Reader", "wordingTokens", "I", false)
  | 4 => ("DayWords$Reader", "lexicon", "LDayWords$Lexicon;", true)
  | 5 => ("DayWords$Reader", "kinds", "[I", true)
  | 6 => ("DayWords$Reader", "places", "[I", true)
  | 7 => ("DayWords$Reader", "values", "[J", true)
  | 8 => ("DayWords$Reader", "last", "I", false)
  | 9 => ("DayWords$Reader", "at", "I", false)
  | 10 => ("DayWords$Reader", "pattern", "I", false)
  | 11 => ("DayWords$Reader", "spanFirst", "I", false)
  | 12 => ("DayWords$Reader", "spanLast", "I", false)
  | 13 => ("DayWords$Reader", "spanOpen", "Z", false)
  | _ => ("DayWords$Reader", "row", "I", false)
def tyX4 : Nat → FieldType := fun k => match k with
  | 0 => .int
  | 1 => .int
  | 2 => .int
  | 3 => .int
  | 4 => .object "DayWords$Lexicon"
  | 5 => .array .int
  | 6 => .array .int
  | 7 => .array .long
  | 8 => .int
  | 9 => .int
  | 10 => .int
  | 11 => .int
  | 12 => .int
  | 13 => .boolean
  | _ => .int
theorem nmX4 : ∀ a, a < 15 → ∀ b, b < 15 → a ≠ b → (TX4 a).2.1 ≠ (TX4 b).2.1 := by decide +kernel
theorem tyX4_ok : ∀ k, k < 15 → parseFieldDescriptor (TX4 k).2.2.1 = some (tyX4 k) := by decide +kernel
abbrev cX4_init : ByteArray := prog_6_method_1_code
def yX4_init : MethodName := ⟨RX4, "<init>", "(LDayWords$Lexicon;)V"⟩
abbrev cX4_readDesk : ByteArray := prog_6_method_2_code
def yX4_readDesk : MethodName := ⟨RX4, "readDesk", "(LDayWords$Tape;LDayWords$Desk;)Z"⟩
abbrev cX4_readAlone : ByteArray := prog_6_method_3_code
def yX4_readAlone : MethodName := ⟨RX4, "readAlone", "(LDayWords$Tape;LDayWords$Desk;)Z"⟩
abbrev cX4_scan : ByteArray := prog_6_method_4_code
def yX4_scan : MethodName := ⟨RX4, "scan", "(LDayWords$Tape;)V"⟩
abbrev cX4_kindOfSign : ByteArray := prog_6_method_5_code
def yX4_kindOfSign : MethodName := ⟨RX4, "kindOfSign", "(I)I"⟩
abbrev cX4_openToken : ByteArray := prog_6_method_6_code
def yX4_openToken : MethodName := ⟨RX4, "openToken", "(II)V"⟩
abbrev cX4_widenToken : ByteArray := prog_6_method_7_code
def yX4_widenToken : MethodName := ⟨RX4, "widenToken", "(II)V"⟩
abbrev cX4_fail : ByteArray := prog_6_method_8_code
def yX4_fail : MethodName := ⟨RX4, "fail", "(I)Z"⟩
abbrev cX4_step : ByteArray := prog_6_method_9_code
def yX4_step : MethodName := ⟨RX4, "step", "()V"⟩
abbrev cX4_take : ByteArray := prog_6_method_10_code
def yX4_take : MethodName := ⟨RX4, "take", "(I)Z"⟩
abbrev cX4_seeNumber : ByteArray := prog_6_method_11_code
def yX4_seeNumber : MethodName := ⟨RX4, "seeNumber", "(II)Z"⟩
abbrev cX4_isWeekday : ByteArray := prog_6_method_12_code
def yX4_isWeekday : MethodName := ⟨RX4, "isWeekday", "()Z"⟩
abbrev cX4_readLine : ByteArray := prog_6_method_13_code
def yX4_readLine : MethodName := ⟨RX4, "readLine", "(LDayWords$Desk;)Z"⟩
abbrev cX4_readHead : ByteArray := prog_6_method_14_code
def yX4_readHead : MethodName := ⟨RX4, "readHead", "(LDayWords$Desk;)Z"⟩
abbrev cX4_readFeast : ByteArray := prog_6_method_15_code
def yX4_readFeast : MethodName := ⟨RX4, "readFeast", "(LDayWords$Desk;)Z"⟩
abbrev cX4_readFeastDays : ByteArray := prog_6_method_16_code
def yX4_readFeastDays : MethodName := ⟨RX4, "readFeastDays", "(LDayWords$Desk;)Z"⟩
abbrev cX4_readTrain : ByteArray := prog_6_method_17_code
def yX4_readTrain : MethodName := ⟨RX4, "readTrain", "(LDayWords$Desk;)Z"⟩
abbrev cX4_readWording : ByteArray := prog_6_method_18_code
def yX4_readWording : MethodName := ⟨RX4, "readWording", "(LDayWords$Desk;)Z"⟩
abbrev cX4_readSpans : ByteArray := prog_6_method_19_code
def yX4_readSpans : MethodName := ⟨RX4, "readSpans", "(LDayWords$Desk;)Z"⟩
abbrev cX4_readPattern : ByteArray := prog_6_method_20_code
def yX4_readPattern : MethodName := ⟨RX4, "readPattern", "()Z"⟩
abbrev cX4_readBounds : ByteArray := prog_6_method_21_code
def yX4_readBounds : MethodName := ⟨RX4, "readBounds", "(LDayWords$Desk;)Z"⟩
abbrev cX4_readExceptions : ByteArray := prog_6_method_22_code
def yX4_readExceptions : MethodName := ⟨RX4, "readExceptions", "(LDayWords$Desk;)Z"⟩
abbrev cX4_readEntries : ByteArray := prog_6_method_23_code
def yX4_readEntries : MethodName := ⟨RX4, "readEntries", "(LDayWords$Desk;)Z"⟩
def RX5 : String := "DayWords$Row"
def TX5 : u_T := fun k => match k with
  | 0 => ("DayWords$Row", "tokens", "[I", true)
  | _ => ("DayWords$Row", "alike", "[J", true)
def tyX5 : Nat → FieldType := fun k => match k with
  | 0 => .array .int
  | _ => .array .long
theorem nmX5 : ∀ a, a < 2 → ∀ b, b < 2 → a ≠ b → (TX5 a).2.1 ≠ (TX5 b).2.1 := by decide +kernel
theorem tyX5_ok : ∀ k, k < 2 → parseFieldDescriptor (TX5 k).2.2.1 = some (tyX5 k) := by decide +kernel
abbrev cX5_init : ByteArray := prog_7_method_1_code
def yX5_init : MethodName := ⟨RX5, "<init>", "()V"⟩
def RX6 : String := "DayWords$Tape"
def TX6 : u_T := fun k => match k with
  | 0 => ("DayWords$Tape", "bytes", "[B", true)
  | _ => ("DayWords$Tape", "size", "I", false)
def tyX6 : Nat → FieldType := fun k => match k with
  | 0 => .array .byte
  | _ => .int
theorem nmX6 : ∀ a, a < 2 → ∀ b, b < 2 → a ≠ b → (TX6 a).2.1 ≠ (TX6 b).2.1 := by decide +kernel
theorem tyX6_ok : ∀ k, k < 2 → parseFieldDescriptor (TX6 k).2.2.1 = some (tyX6 k) := by decide +kernel
abbrev cX6_init : ByteArray := prog_8_method_1_code
def yX6_init : MethodName := ⟨RX6, "<init>", "()V"⟩
abbrev cX6_add : ByteArray := prog_8_method_2_code
def yX6_add : MethodName := ⟨RX6, "add", "(I)V"⟩
def RX7 : String := "DayWords$Words"
def TX7 : u_T := fun k => match k with
  | 0 => ("DayWords$Words", "firsts", "[I", true)
  | 1 => ("DayWords$Words", "lasts", "[I", true)
  | 2 => ("DayWords$Words", "patterns", "[I", true)
  | 3 => ("DayWords$Words", "text", "[B", true)
  | 4 => ("DayWords$Words", "known", "Z", false)
  | 5 => ("DayWords$Words", "target", "I", false)
  | 6 => ("DayWords$Words", "tokens", "I", false)
  | 7 => ("DayWords$Words", "alike", "J", false)
  | 8 => ("DayWords$Words", "parts", "I", false)
  | 9 => ("DayWords$Words", "notFeasts", "I", false)
  | 10 => ("DayWords$Words", "notDays", "I", false)
  | 11 => ("DayWords$Words", "alsoFeasts", "I", false)
  | 12 => ("DayWords$Words", "alsoDays", "I", false)
  | _ => ("DayWords$Words", "size", "I", false)
def tyX7 : Nat → FieldType := fun k => match k with
  | 0 => .array .int
  | 1 => .array .int
  | 2 => .array .int
  | 3 => .array .byte
  | 4 => .boolean
  | 5 => .int
  | 6 => .int
  | 7 => .long
  | 8 => .int
  | 9 => .int
  | 10 => .int
  | 11 => .int
  | 12 => .int
  | _ => .int
theorem nmX7 : ∀ a, a < 14 → ∀ b, b < 14 → a ≠ b → (TX7 a).2.1 ≠ (TX7 b).2.1 := by decide +kernel
theorem tyX7_ok : ∀ k, k < 14 → parseFieldDescriptor (TX7 k).2.2.1 = some (tyX7 k) := by decide +kernel
abbrev cX7_init : ByteArray := prog_9_method_1_code
def yX7_init : MethodName := ⟨RX7, "<init>", "()V"⟩
abbrev cX7_clear : ByteArray := prog_9_method_2_code
def yX7_clear : MethodName := ⟨RX7, "clear", "(I)V"⟩
abbrev cX7_addSpan : ByteArray := prog_9_method_3_code
def yX7_addSpan : MethodName := ⟨RX7, "addSpan", "(III)V"⟩
def RX8 : String := "DayWords$Writer"
def TX8 : u_T := fun k => match k with
  | _ => ("DayWords$Writer", "lexicon", "LDayWords$Lexicon;", true)
def tyX8 : Nat → FieldType := fun k => match k with
  | _ => .object "DayWords$Lexicon"
theorem nmX8 : ∀ a, a < 1 → ∀ b, b < 1 → a ≠ b → (TX8 a).2.1 ≠ (TX8 b).2.1 := by decide +kernel
theorem tyX8_ok : ∀ k, k < 1 → parseFieldDescriptor (TX8 k).2.2.1 = some (tyX8 k) := by decide +kernel
abbrev cX8_init : ByteArray := prog_10_method_1_code
def yX8_init : MethodName := ⟨RX8, "<init>", "(LDayWords$Lexicon;)V"⟩
abbrev cX8_write : ByteArray := prog_10_method_2_code
def yX8_write : MethodName := ⟨RX8, "write", "(LDayWords$Words;LDayWords$Desk;)V"⟩
abbrev cX8_writePattern : ByteArray := prog_10_method_3_code
def yX8_writePattern : MethodName := ⟨RX8, "writePattern", "(LDayWords$Words;I)V"⟩
abbrev cX8_writeEntries : ByteArray := prog_10_method_4_code
def yX8_writeEntries : MethodName := ⟨RX8, "writeEntries", "(LDayWords$Words;LDayWords$Desk;I)V"⟩
abbrev cX8_putWord : ByteArray := prog_10_method_5_code
def yX8_putWord : MethodName := ⟨RX8, "putWord", "(LDayWords$Words;J)V"⟩
abbrev cX8_putNumber : ByteArray := prog_10_method_6_code
def yX8_putNumber : MethodName := ⟨RX8, "putNumber", "(LDayWords$Words;I)V"⟩
abbrev cX8_putBlank : ByteArray := prog_10_method_7_code
def yX8_putBlank : MethodName := ⟨RX8, "putBlank", "(LDayWords$Words;)V"⟩
abbrev cX8_putSign : ByteArray := prog_10_method_8_code
def yX8_putSign : MethodName := ⟨RX8, "putSign", "(LDayWords$Words;I)V"⟩
def RX9 : String := "DayWords"
def TX9 : u_T := fun k => match k with
  | 0 => ("DayWords", "tape", "LDayWords$Tape;", true)
  | 1 => ("DayWords", "reader", "LDayWords$Reader;", true)
  | 2 => ("DayWords", "finder", "LDayWords$Finder;", true)
  | 3 => ("DayWords", "acts", "LDayWords$Acts;", true)
  | 4 => ("DayWords", "desk", "LDayWords$Desk;", false)
  | 5 => ("DayWords", "spare", "LDayWords$Desk;", false)
  | 6 => ("DayWords", "deskFault", "I", false)
  | 7 => ("DayWords", "deskPlace", "I", false)
  | 8 => ("DayWords", "wordingTold", "Z", false)
  | 9 => ("DayWords", "toldDays", "I", false)
  | 10 => ("DayWords", "toldTokens", "I", false)
  | 11 => ("DayWords", "toldFault", "I", false)
  | _ => ("DayWords", "toldPlace", "I", false)
def tyX9 : Nat → FieldType := fun k => match k with
  | 0 => .object "DayWords$Tape"
  | 1 => .object "DayWords$Reader"
  | 2 => .object "DayWords$Finder"
  | 3 => .object "DayWords$Acts"
  | 4 => .object "DayWords$Desk"
  | 5 => .object "DayWords$Desk"
  | 6 => .int
  | 7 => .int
  | 8 => .boolean
  | 9 => .int
  | 10 => .int
  | 11 => .int
  | _ => .int
theorem nmX9 : ∀ a, a < 13 → ∀ b, b < 13 → a ≠ b → (TX9 a).2.1 ≠ (TX9 b).2.1 := by decide +kernel
theorem tyX9_ok : ∀ k, k < 13 → parseFieldDescriptor (TX9 k).2.2.1 = some (tyX9 k) := by decide +kernel
abbrev cX9_init : ByteArray := prog_1_method_1_code
def yX9_init : MethodName := ⟨RX9, "<init>", "()V"⟩
abbrev cX9_feed : ByteArray := prog_1_method_2_code
def yX9_feed : MethodName := ⟨RX9, "feed", "(IIIII)I"⟩
abbrev cX9_end : ByteArray := prog_1_method_3_code
def yX9_end : MethodName := ⟨RX9, "end", "(I)I"⟩
abbrev cX9_desk : ByteArray := prog_1_method_4_code
def yX9_desk : MethodName := ⟨RX9, "desk", "()I"⟩
abbrev cX9_fault : ByteArray := prog_1_method_5_code
def yX9_fault : MethodName := ⟨RX9, "fault", "(I)I"⟩
abbrev cX9_count : ByteArray := prog_1_method_6_code
def yX9_count : MethodName := ⟨RX9, "count", "(I)I"⟩
abbrev cX9_weekday : ByteArray := prog_1_method_7_code
def yX9_weekday : MethodName := ⟨RX9, "weekday", "(I)I"⟩
abbrev cX9_feast : ByteArray := prog_1_method_8_code
def yX9_feast : MethodName := ⟨RX9, "feast", "(I)I"⟩
abbrev cX9_train : ByteArray := prog_1_method_9_code
def yX9_train : MethodName := ⟨RX9, "train", "(II)I"⟩
abbrev cX9_days : ByteArray := prog_1_method_10_code
def yX9_days : MethodName := ⟨RX9, "days", "(I)I"⟩
abbrev cX9_runs : ByteArray := prog_1_method_11_code
def yX9_runs : MethodName := ⟨RX9, "runs", "(II)I"⟩
abbrev cX9_many : ByteArray := prog_1_method_12_code
def yX9_many : MethodName := ⟨RX9, "many", "(I)I"⟩
abbrev cX9_votes : ByteArray := prog_1_method_13_code
def yX9_votes : MethodName := ⟨RX9, "votes", "(II)I"⟩
abbrev cX9_vote : ByteArray := prog_1_method_14_code
def yX9_vote : MethodName := ⟨RX9, "vote", "(I)I"⟩
abbrev cX9_strays : ByteArray := prog_1_method_15_code
def yX9_strays : MethodName := ⟨RX9, "strays", "(I)I"⟩
abbrev cX9_next : ByteArray := prog_1_method_16_code
def yX9_next : MethodName := ⟨RX9, "next", "(II)I"⟩
abbrev cX9_rest : ByteArray := prog_1_method_17_code
def yX9_rest : MethodName := ⟨RX9, "rest", "(I)I"⟩
abbrev cX9_words : ByteArray := prog_1_method_18_code
def yX9_words : MethodName := ⟨RX9, "words", "(I)I"⟩
abbrev cX9_length : ByteArray := prog_1_method_19_code
def yX9_length : MethodName := ⟨RX9, "length", "(I)I"⟩
abbrev cX9_sign : ByteArray := prog_1_method_20_code
def yX9_sign : MethodName := ⟨RX9, "sign", "(II)I"⟩
abbrev cX9_ways : ByteArray := prog_1_method_21_code
def yX9_ways : MethodName := ⟨RX9, "ways", "(I)J"⟩
abbrev cX9_spans : ByteArray := prog_1_method_22_code
def yX9_spans : MethodName := ⟨RX9, "spans", "(I)I"⟩
abbrev cX9_span : ByteArray := prog_1_method_23_code
def yX9_span : MethodName := ⟨RX9, "span", "(III)I"⟩
abbrev cX9_nots : ByteArray := prog_1_method_24_code
def yX9_nots : MethodName := ⟨RX9, "nots", "(II)I"⟩
abbrev cX9_alsos : ByteArray := prog_1_method_25_code
def yX9_alsos : MethodName := ⟨RX9, "alsos", "(II)I"⟩
abbrev cX9_within : ByteArray := prog_1_method_26_code
def yX9_within : MethodName := ⟨RX9, "within", "(II)I"⟩
abbrev cX9_plain : ByteArray := prog_1_method_27_code
def yX9_plain : MethodName := ⟨RX9, "plain", "(I)I"⟩
abbrev cX9_other : ByteArray := prog_1_method_28_code
def yX9_other : MethodName := ⟨RX9, "other", "(II)I"⟩
abbrev cX9_shift : ByteArray := prog_1_method_29_code
def yX9_shift : MethodName := ⟨RX9, "shift", "(II)I"⟩
abbrev cX9_least : ByteArray := prog_1_method_30_code
def yX9_least : MethodName := ⟨RX9, "least", "(I)I"⟩
abbrev cX9_tells : ByteArray := prog_1_method_31_code
def yX9_tells : MethodName := ⟨RX9, "tells", "()I"⟩
abbrev cX9_told : ByteArray := prog_1_method_32_code
def yX9_told : MethodName := ⟨RX9, "told", "(I)I"⟩
abbrev cX9_worse : ByteArray := prog_1_method_33_code
def yX9_worse : MethodName := ⟨RX9, "worse", "()I"⟩
abbrev cX9_shares : ByteArray := prog_1_method_34_code
def yX9_shares : MethodName := ⟨RX9, "shares", "(II)I"⟩
abbrev cX9_same : ByteArray := prog_1_method_35_code
def yX9_same : MethodName := ⟨RX9, "same", "(II)I"⟩
abbrev cX9_join : ByteArray := prog_1_method_36_code
def yX9_join : MethodName := ⟨RX9, "join", "(I)I"⟩
abbrev cX9_joint : ByteArray := prog_1_method_37_code
def yX9_joint : MethodName := ⟨RX9, "joint", "(I)I"⟩
abbrev cX9_twice : ByteArray := prog_1_method_38_code
def yX9_twice : MethodName := ⟨RX9, "twice", "(I)I"⟩
abbrev cX9_saved : ByteArray := prog_1_method_39_code
def yX9_saved : MethodName := ⟨RX9, "saved", "()I"⟩
abbrev cX9_crowd : ByteArray := prog_1_method_40_code
def yX9_crowd : MethodName := ⟨RX9, "crowd", "(I)I"⟩
abbrev cX9_full : ByteArray := prog_1_method_41_code
def yX9_full : MethodName := ⟨RX9, "full", "()I"⟩
abbrev cX9_flips : ByteArray := prog_1_method_42_code
def yX9_flips : MethodName := ⟨RX9, "flips", "(II)I"⟩
abbrev cX9_sets : ByteArray := prog_1_method_43_code
def yX9_sets : MethodName := ⟨RX9, "sets", "(I)I"⟩
abbrev cX9_merges : ByteArray := prog_1_method_44_code
def yX9_merges : MethodName := ⟨RX9, "merges", "()I"⟩
abbrev cX9_undo : ByteArray := prog_1_method_45_code
def yX9_undo : MethodName := ⟨RX9, "undo", "()I"⟩
abbrev cX9_anew : ByteArray := prog_1_method_46_code
def yX9_anew : MethodName := ⟨RX9, "anew", "()I"⟩
abbrev cX9_isTrain : ByteArray := prog_1_method_47_code
def yX9_isTrain : MethodName := ⟨RX9, "isTrain", "(I)Z"⟩
abbrev cX9_isDay : ByteArray := prog_1_method_48_code
def yX9_isDay : MethodName := ⟨RX9, "isDay", "(I)Z"⟩
abbrev cX9_votedWeekdays : ByteArray := prog_1_method_49_code
def yX9_votedWeekdays : MethodName := ⟨RX9, "votedWeekdays", "(I)I"⟩
abbrev cX9_rowStarts : ByteArray := prog_1_method_50_code
def yX9_rowStarts : MethodName := ⟨RX9, "rowStarts", "(I)I"⟩
abbrev cX9_rowSize : ByteArray := prog_1_method_51_code
def yX9_rowSize : MethodName := ⟨RX9, "rowSize", "(II)I"⟩
def RX10 : String := "DayWordsModel"
def TX10 : u_T := fun k => match k with
  | 0 => ("DayWordsModel", "mem", "[I", true)
  | 1 => ("DayWordsModel", "was", "[I", true)
  | 2 => ("DayWordsModel", "past", "[I", true)
  | 3 => ("DayWordsModel", "acts", "I", false)
  | 4 => ("DayWordsModel", "tape", "[I", true)
  | 5 => ("DayWordsModel", "taped", "I", false)
  | 6 => ("DayWordsModel", "faultKind", "I", false)
  | 7 => ("DayWordsModel", "faultPlace", "I", false)
  | 8 => ("DayWordsModel", "at", "I", false)
  | 9 => ("DayWordsModel", "begin", "I", false)
  | 10 => ("DayWordsModel", "token", "I", false)
  | 11 => ("DayWordsModel", "value", "I", false)
  | 12 => ("DayWordsModel", "word", "I", false)
  | 13 => ("DayWordsModel", "seen", "I", false)
  | 14 => ("DayWordsModel", "bad", "Z", false)
  | 15 => ("DayWordsModel", "badKind", "I", false)
  | 16 => ("DayWordsModel", "badPlace", "I", false)
  | 17 => ("DayWordsModel", "goal", "I", false)
  | 18 => ("DayWordsModel", "notFeasts", "I", false)
  | 19 => ("DayWordsModel", "alsoFeasts", "I", false)
  | 20 => ("DayWordsModel", "least", "[I", true)
  | 21 => ("DayWordsModel", "ways", "[J", true)
  | 22 => ("DayWordsModel", "few", "[I", true)
  | 23 => ("DayWordsModel", "change", "[I", true)
  | 24 => ("DayWordsModel", "byWeekday", "[I", true)
  | 25 => ("DayWordsModel", "patterns", "[I", true)
  | 26 => ("DayWordsModel", "bestTokens", "I", false)
  | 27 => ("DayWordsModel", "bestWays", "J", false)
  | 28 => ("DayWordsModel", "bestNot", "I", false)
  | 29 => ("DayWordsModel", "bestAlso", "I", false)
  | 30 => ("DayWordsModel", "spanFrom", "[I", true)
  | 31 => ("DayWordsModel", "spanTo", "[I", true)
  | 32 => ("DayWordsModel", "spanSet", "[I", true)
  | 33 => ("DayWordsModel", "spanMany", "I", false)
  | 34 => ("DayWordsModel", "wordsNot", "I", false)
  | 35 => ("DayWordsModel", "wordsAlso", "I", false)
  | 36 => ("DayWordsModel", "notDays", "I", false)
  | 37 => ("DayWordsModel", "alsoDays", "I", false)
  | 38 => ("DayWordsModel", "left", "[I", true)
  | 39 => ("DayWordsModel", "stands", "[Z", true)
  | 40 => ("DayWordsModel", "signs", "I", false)
  | 41 => ("DayWordsModel", "wanted", "I", false)
  | 42 => ("DayWordsModel", "found", "I", false)
  | 43 => ("DayWordsModel", "isTold", "Z", false)
  | 44 => ("DayWordsModel", "toldDays", "I", false)
  | 45 => ("DayWordsModel", "toldTokens", "I", false)
  | 46 => ("DayWordsModel", "toldFault", "I", false)
  | _ => ("DayWordsModel", "toldPlace", "I", false)
def tyX10 : Nat → FieldType := fun k => match k with
  | 0 => .array .int
  | 1 => .array .int
  | 2 => .array .int
  | 3 => .int
  | 4 => .array .int
  | 5 => .int
  | 6 => .int
  | 7 => .int
  | 8 => .int
  | 9 => .int
  | 10 => .int
  | 11 => .int
  | 12 => .int
  | 13 => .int
  | 14 => .boolean
  | 15 => .int
  | 16 => .int
  | 17 => .int
  | 18 => .int
  | 19 => .int
  | 20 => .array .int
  | 21 => .array .long
  | 22 => .array .int
  | 23 => .array .int
  | 24 => .array .int
  | 25 => .array .int
  | 26 => .int
  | 27 => .long
  | 28 => .int
  | 29 => .int
  | 30 => .array .int
  | 31 => .array .int
  | 32 => .array .int
  | 33 => .int
  | 34 => .int
  | 35 => .int
  | 36 => .int
  | 37 => .int
  | 38 => .array .int
  | 39 => .array .boolean
  | 40 => .int
  | 41 => .int
  | 42 => .int
  | 43 => .boolean
  | 44 => .int
  | 45 => .int
  | 46 => .int
  | _ => .int
theorem nmX10 : ∀ a, a < 48 → ∀ b, b < 48 → a ≠ b → (TX10 a).2.1 ≠ (TX10 b).2.1 := by decide +kernel
theorem tyX10_ok : ∀ k, k < 48 → parseFieldDescriptor (TX10 k).2.2.1 = some (tyX10 k) := by decide +kernel
abbrev cX10_in : ByteArray := prog_12_method_1_code
def yX10_in : MethodName := ⟨RX10, "in", "(JJJ)Z"⟩
abbrev cX10_has : ByteArray := prog_12_method_2_code
def yX10_has : MethodName := ⟨RX10, "has", "(II)Z"⟩
abbrev cX10_bitsOf : ByteArray := prog_12_method_3_code
def yX10_bitsOf : MethodName := ⟨RX10, "bitsOf", "(I)I"⟩
abbrev cX10_flag : ByteArray := prog_12_method_4_code
def yX10_flag : MethodName := ⟨RX10, "flag", "(Z)I"⟩
abbrev cX10_init : ByteArray := prog_12_method_5_code
def yX10_init : MethodName := ⟨RX10, "<init>", "()V"⟩
abbrev cX10_feed : ByteArray := prog_12_method_6_code
def yX10_feed : MethodName := ⟨RX10, "feed", "(IIIII)I"⟩
abbrev cX10_end : ByteArray := prog_12_method_7_code
def yX10_end : MethodName := ⟨RX10, "end", "(I)I"⟩
abbrev cX10_isAt : ByteArray := prog_12_method_8_code
def yX10_isAt : MethodName := ⟨RX10, "isAt", "(II)Z"⟩
abbrev cX10_next : ByteArray := prog_12_method_9_code
def yX10_next : MethodName := ⟨RX10, "next", "()V"⟩
abbrev cX10_wordHere : ByteArray := prog_12_method_10_code
def yX10_wordHere : MethodName := ⟨RX10, "wordHere", "()I"⟩
abbrev cX10_feastHere : ByteArray := prog_12_method_11_code
def yX10_feastHere : MethodName := ⟨RX10, "feastHere", "()I"⟩
abbrev cX10_faults : ByteArray := prog_12_method_12_code
def yX10_faults : MethodName := ⟨RX10, "faults", "(I)V"⟩
abbrev cX10_needs : ByteArray := prog_12_method_13_code
def yX10_needs : MethodName := ⟨RX10, "needs", "(Z)V"⟩
abbrev cX10_isSign : ByteArray := prog_12_method_14_code
def yX10_isSign : MethodName := ⟨RX10, "isSign", "(C)Z"⟩
abbrev cX10_reads : ByteArray := prog_12_method_15_code
def yX10_reads : MethodName := ⟨RX10, "reads", "(II)I"⟩
abbrev cX10_isWeekday : ByteArray := prog_12_method_16_code
def yX10_isWeekday : MethodName := ⟨RX10, "isWeekday", "()Z"⟩
abbrev cX10_readsWeekday : ByteArray := prog_12_method_17_code
def yX10_readsWeekday : MethodName := ⟨RX10, "readsWeekday", "()I"⟩
abbrev cX10_readsDesk : ByteArray := prog_12_method_18_code
def yX10_readsDesk : MethodName := ⟨RX10, "readsDesk", "()V"⟩
abbrev cX10_readsDay : ByteArray := prog_12_method_19_code
def yX10_readsDay : MethodName := ⟨RX10, "readsDay", "(I)I"⟩
abbrev cX10_readsFeast : ByteArray := prog_12_method_20_code
def yX10_readsFeast : MethodName := ⟨RX10, "readsFeast", "()V"⟩
abbrev cX10_readsTrain : ByteArray := prog_12_method_21_code
def yX10_readsTrain : MethodName := ⟨RX10, "readsTrain", "()V"⟩
abbrev cX10_readsWording : ByteArray := prog_12_method_22_code
def yX10_readsWording : MethodName := ⟨RX10, "readsWording", "()I"⟩
abbrev cX10_readsSpans : ByteArray := prog_12_method_23_code
def yX10_readsSpans : MethodName := ⟨RX10, "readsSpans", "()I"⟩
abbrev cX10_readsPattern : ByteArray := prog_12_method_24_code
def yX10_readsPattern : MethodName := ⟨RX10, "readsPattern", "()I"⟩
abbrev cX10_readsBehind : ByteArray := prog_12_method_25_code
def yX10_readsBehind : MethodName := ⟨RX10, "readsBehind", "(I)I"⟩
abbrev cX10_readsEntries : ByteArray := prog_12_method_26_code
def yX10_readsEntries : MethodName := ⟨RX10, "readsEntries", "()I"⟩
abbrev cX10_begins : ByteArray := prog_12_method_27_code
def yX10_begins : MethodName := ⟨RX10, "begins", "()V"⟩
abbrev cX10_desk : ByteArray := prog_12_method_28_code
def yX10_desk : MethodName := ⟨RX10, "desk", "()I"⟩
abbrev cX10_fault : ByteArray := prog_12_method_29_code
def yX10_fault : MethodName := ⟨RX10, "fault", "(I)I"⟩
abbrev cX10_count : ByteArray := prog_12_method_30_code
def yX10_count : MethodName := ⟨RX10, "count", "(I)I"⟩
abbrev cX10_weekdayOf : ByteArray := prog_12_method_31_code
def yX10_weekdayOf : MethodName := ⟨RX10, "weekdayOf", "(I)I"⟩
abbrev cX10_isDay : ByteArray := prog_12_method_32_code
def yX10_isDay : MethodName := ⟨RX10, "isDay", "(I)Z"⟩
abbrev cX10_isTrain : ByteArray := prog_12_method_33_code
def yX10_isTrain : MethodName := ⟨RX10, "isTrain", "(I)Z"⟩
abbrev cX10_runsOf : ByteArray := prog_12_method_34_code
def yX10_runsOf : MethodName := ⟨RX10, "runsOf", "(I)I"⟩
abbrev cX10_whole : ByteArray := prog_12_method_35_code
def yX10_whole : MethodName := ⟨RX10, "whole", "()I"⟩
abbrev cX10_weekday : ByteArray := prog_12_method_36_code
def yX10_weekday : MethodName := ⟨RX10, "weekday", "(I)I"⟩
abbrev cX10_feast : ByteArray := prog_12_method_37_code
def yX10_feast : MethodName := ⟨RX10, "feast", "(I)I"⟩
abbrev cX10_train : ByteArray := prog_12_method_38_code
def yX10_train : MethodName := ⟨RX10, "train", "(II)I"⟩
abbrev cX10_days : ByteArray := prog_12_method_39_code
def yX10_days : MethodName := ⟨RX10, "days", "(I)I"⟩
abbrev cX10_runs : ByteArray := prog_12_method_40_code
def yX10_runs : MethodName := ⟨RX10, "runs", "(II)I"⟩
abbrev cX10_many : ByteArray := prog_12_method_41_code
def yX10_many : MethodName := ⟨RX10, "many", "(I)I"⟩
abbrev cX10_daysOf : ByteArray := prog_12_method_42_code
def yX10_daysOf : MethodName := ⟨RX10, "daysOf", "(I)I"⟩
abbrev cX10_votes : ByteArray := prog_12_method_43_code
def yX10_votes : MethodName := ⟨RX10, "votes", "(II)I"⟩
abbrev cX10_voteOf : ByteArray := prog_12_method_44_code
def yX10_voteOf : MethodName := ⟨RX10, "voteOf", "(I)I"⟩
abbrev cX10_vote : ByteArray := prog_12_method_45_code
def yX10_vote : MethodName := ⟨RX10, "vote", "(I)I"⟩
abbrev cX10_strays : ByteArray := prog_12_method_46_code
def yX10_strays : MethodName := ⟨RX10, "strays", "(I)I"⟩
abbrev cX10_next_ : ByteArray := prog_12_method_47_code
def yX10_next_ : MethodName := ⟨RX10, "next", "(II)I"⟩
abbrev cX10_rest : ByteArray := prog_12_method_48_code
def yX10_rest : MethodName := ⟨RX10, "rest", "(I)I"⟩
abbrev cX10_feastDays : ByteArray := prog_12_method_49_code
def yX10_feastDays : MethodName := ⟨RX10, "feastDays", "(I)I"⟩
abbrev cX10_patternCost : ByteArray := prog_12_method_50_code
def yX10_patternCost : MethodName := ⟨RX10, "patternCost", "(I)I"⟩
abbrev cX10_modeCost : ByteArray := prog_12_method_51_code
def yX10_modeCost : MethodName := ⟨RX10, "modeCost", "(I)I"⟩
abbrev cX10_bareCost : ByteArray := prog_12_method_52_code
def yX10_bareCost : MethodName := ⟨RX10, "bareCost", "(II)I"⟩
abbrev cX10_spanCost : ByteArray := prog_12_method_53_code
def yX10_spanCost : MethodName := ⟨RX10, "spanCost", "(II)I"⟩
abbrev cX10_endsCost : ByteArray := prog_12_method_54_code
def yX10_endsCost : MethodName := ⟨RX10, "endsCost", "(II)I"⟩
abbrev cX10_goesOn : ByteArray := prog_12_method_55_code
def yX10_goesOn : MethodName := ⟨RX10, "goesOn", "(IIII)I"⟩
abbrev cX10_place : ByteArray := prog_12_method_56_code
def yX10_place : MethodName := ⟨RX10, "place", "(II)I"⟩
abbrev cX10_weighs : ByteArray := prog_12_method_57_code
def yX10_weighs : MethodName := ⟨RX10, "weighs", "(I)V"⟩
abbrev cX10_begins_ : ByteArray := prog_12_method_58_code
def yX10_begins_ : MethodName := ⟨RX10, "begins", "(I)V"⟩
abbrev cX10_canStand : ByteArray := prog_12_method_59_code
def yX10_canStand : MethodName := ⟨RX10, "canStand", "()Z"⟩
abbrev cX10_solves : ByteArray := prog_12_method_60_code
def yX10_solves : MethodName := ⟨RX10, "solves", "(IZ)I"⟩
abbrev cX10_withinOf : ByteArray := prog_12_method_61_code
def yX10_withinOf : MethodName := ⟨RX10, "withinOf", "(II)I"⟩
abbrev cX10_weighsWithin : ByteArray := prog_12_method_62_code
def yX10_weighsWithin : MethodName := ⟨RX10, "weighsWithin", "(II)I"⟩
abbrev cX10_chooses : ByteArray := prog_12_method_63_code
def yX10_chooses : MethodName := ⟨RX10, "chooses", "(I)I"⟩
abbrev cX10_goesBare : ByteArray := prog_12_method_64_code
def yX10_goesBare : MethodName := ⟨RX10, "goesBare", "(I)Z"⟩
abbrev cX10_costOf : ByteArray := prog_12_method_65_code
def yX10_costOf : MethodName := ⟨RX10, "costOf", "(IIII)I"⟩
abbrev cX10_begun : ByteArray := prog_12_method_66_code
def yX10_begun : MethodName := ⟨RX10, "begun", "(I)I"⟩
abbrev cX10_takes : ByteArray := prog_12_method_67_code
def yX10_takes : MethodName := ⟨RX10, "takes", "(III)Z"⟩
abbrev cX10_rests : ByteArray := prog_12_method_68_code
def yX10_rests : MethodName := ⟨RX10, "rests", "()V"⟩
abbrev cX10_words : ByteArray := prog_12_method_69_code
def yX10_words : MethodName := ⟨RX10, "words", "(I)I"⟩
abbrev cX10_ways : ByteArray := prog_12_method_70_code
def yX10_ways : MethodName := ⟨RX10, "ways", "(I)J"⟩
abbrev cX10_sign : ByteArray := prog_12_method_71_code
def yX10_sign : MethodName := ⟨RX10, "sign", "(I)V"⟩
abbrev cX10_blank : ByteArray := prog_12_method_72_code
def yX10_blank : MethodName := ⟨RX10, "blank", "()V"⟩
abbrev cX10_says : ByteArray := prog_12_method_73_code
def yX10_says : MethodName := ⟨RX10, "says", "(I)V"⟩
abbrev cX10_saysNumber : ByteArray := prog_12_method_74_code
def yX10_saysNumber : MethodName := ⟨RX10, "saysNumber", "(I)V"⟩
abbrev cX10_saysPattern : ByteArray := prog_12_method_75_code
def yX10_saysPattern : MethodName := ⟨RX10, "saysPattern", "(I)V"⟩
abbrev cX10_saysEntries : ByteArray := prog_12_method_76_code
def yX10_saysEntries : MethodName := ⟨RX10, "saysEntries", "(III)V"⟩
abbrev cX10_writes : ByteArray := prog_12_method_77_code
def yX10_writes : MethodName := ⟨RX10, "writes", "(II)V"⟩
abbrev cX10_length : ByteArray := prog_12_method_78_code
def yX10_length : MethodName := ⟨RX10, "length", "(I)I"⟩
abbrev cX10_sign_ : ByteArray := prog_12_method_79_code
def yX10_sign_ : MethodName := ⟨RX10, "sign", "(II)I"⟩
abbrev cX10_spans : ByteArray := prog_12_method_80_code
def yX10_spans : MethodName := ⟨RX10, "spans", "(I)I"⟩
abbrev cX10_span : ByteArray := prog_12_method_81_code
def yX10_span : MethodName := ⟨RX10, "span", "(III)I"⟩
abbrev cX10_nots : ByteArray := prog_12_method_82_code
def yX10_nots : MethodName := ⟨RX10, "nots", "(II)I"⟩
abbrev cX10_alsos : ByteArray := prog_12_method_83_code
def yX10_alsos : MethodName := ⟨RX10, "alsos", "(II)I"⟩
abbrev cX10_within : ByteArray := prog_12_method_84_code
def yX10_within : MethodName := ⟨RX10, "within", "(II)I"⟩
abbrev cX10_plain : ByteArray := prog_12_method_85_code
def yX10_plain : MethodName := ⟨RX10, "plain", "(I)I"⟩
abbrev cX10_other : ByteArray := prog_12_method_86_code
def yX10_other : MethodName := ⟨RX10, "other", "(II)I"⟩
abbrev cX10_shift : ByteArray := prog_12_method_87_code
def yX10_shift : MethodName := ⟨RX10, "shift", "(II)I"⟩
abbrev cX10_least : ByteArray := prog_12_method_88_code
def yX10_least : MethodName := ⟨RX10, "least", "(I)I"⟩
abbrev cX10_readsAlone : ByteArray := prog_12_method_89_code
def yX10_readsAlone : MethodName := ⟨RX10, "readsAlone", "()I"⟩
abbrev cX10_tells : ByteArray := prog_12_method_90_code
def yX10_tells : MethodName := ⟨RX10, "tells", "()I"⟩
abbrev cX10_told : ByteArray := prog_12_method_91_code
def yX10_told : MethodName := ⟨RX10, "told", "(I)I"⟩
abbrev cX10_worse : ByteArray := prog_12_method_92_code
def yX10_worse : MethodName := ⟨RX10, "worse", "()I"⟩
abbrev cX10_shares : ByteArray := prog_12_method_93_code
def yX10_shares : MethodName := ⟨RX10, "shares", "(II)I"⟩
abbrev cX10_same : ByteArray := prog_12_method_94_code
def yX10_same : MethodName := ⟨RX10, "same", "(II)I"⟩
abbrev cX10_isJoined : ByteArray := prog_12_method_95_code
def yX10_isJoined : MethodName := ⟨RX10, "isJoined", "(II)Z"⟩
abbrev cX10_joinOf : ByteArray := prog_12_method_96_code
def yX10_joinOf : MethodName := ⟨RX10, "joinOf", "(I)I"⟩
abbrev cX10_jointOf : ByteArray := prog_12_method_97_code
def yX10_jointOf : MethodName := ⟨RX10, "jointOf", "(IZ)I"⟩
abbrev cX10_join : ByteArray := prog_12_method_98_code
def yX10_join : MethodName := ⟨RX10, "join", "(I)I"⟩
abbrev cX10_joint : ByteArray := prog_12_method_99_code
def yX10_joint : MethodName := ⟨RX10, "joint", "(I)I"⟩
abbrev cX10_twice : ByteArray := prog_12_method_100_code
def yX10_twice : MethodName := ⟨RX10, "twice", "(I)I"⟩
abbrev cX10_saved : ByteArray := prog_12_method_101_code
def yX10_saved : MethodName := ⟨RX10, "saved", "()I"⟩
abbrev cX10_crowdOf : ByteArray := prog_12_method_102_code
def yX10_crowdOf : MethodName := ⟨RX10, "crowdOf", "(I)I"⟩
abbrev cX10_crowd : ByteArray := prog_12_method_103_code
def yX10_crowd : MethodName := ⟨RX10, "crowd", "(I)I"⟩
abbrev cX10_full : ByteArray := prog_12_method_104_code
def yX10_full : MethodName := ⟨RX10, "full", "()I"⟩
abbrev cX10_keeps : ByteArray := prog_12_method_105_code
def yX10_keeps : MethodName := ⟨RX10, "keeps", "()V"⟩
abbrev cX10_goesBack : ByteArray := prog_12_method_106_code
def yX10_goesBack : MethodName := ⟨RX10, "goesBack", "(I)V"⟩
abbrev cX10_flips : ByteArray := prog_12_method_107_code
def yX10_flips : MethodName := ⟨RX10, "flips", "(II)I"⟩
abbrev cX10_sets : ByteArray := prog_12_method_108_code
def yX10_sets : MethodName := ⟨RX10, "sets", "(I)I"⟩
abbrev cX10_merges : ByteArray := prog_12_method_109_code
def yX10_merges : MethodName := ⟨RX10, "merges", "()I"⟩
abbrev cX10_undo : ByteArray := prog_12_method_110_code
def yX10_undo : MethodName := ⟨RX10, "undo", "()I"⟩
abbrev cX10_anew : ByteArray := prog_12_method_111_code
def yX10_anew : MethodName := ⟨RX10, "anew", "()I"⟩
def RJ6 : String := "java/lang/Integer"
abbrev cJ6_numberOfTrailingZeros_0f7a4 : ByteArray := prog_13_method_48_code
def yJ6_numberOfTrailingZeros_0f7a4 : MethodName := ⟨RJ6, "numberOfTrailingZeros", "(I)I"⟩
abbrev cJ6_bitCount_0f7a4 : ByteArray := prog_13_method_49_code
def yJ6_bitCount_0f7a4 : MethodName := ⟨RJ6, "bitCount", "(I)I"⟩
def RJ9 : String := "java/lang/Math"
abbrev cJ9_max_7cf53 : ByteArray := prog_14_method_65_code
def yJ9_max_7cf53 : MethodName := ⟨RJ9, "max", "(II)I"⟩
abbrev cJ9_min_7cf53 : ByteArray := prog_14_method_69_code
def yJ9_min_7cf53 : MethodName := ⟨RJ9, "min", "(II)I"⟩
abbrev cJ9_min_f86c9 : ByteArray := prog_14_method_70_code
def yJ9_min_f86c9 : MethodName := ⟨RJ9, "min", "(JJ)J"⟩
def RJ0 : String := "java/lang/String"
abbrev cJ0_length_8abf5 : ByteArray := prog_15_method_54_code
def yJ0_length_8abf5 : MethodName := ⟨RJ0, "length", "()I"⟩
abbrev cJ0_charAt_5068e : ByteArray := prog_15_method_56_code
def yJ0_charAt_5068e : MethodName := ⟨RJ0, "charAt", "(I)C"⟩
abbrev cJ0_coder_7d493 : ByteArray := prog_15_method_152_code
def yJ0_coder_7d493 : MethodName := ⟨RJ0, "coder", "()B"⟩
abbrev cJ0_isLatin1_aae02 : ByteArray := prog_15_method_154_code
def yJ0_isLatin1_aae02 : MethodName := ⟨RJ0, "isLatin1", "()Z"⟩
abbrev cJ0_checkIndex_df160 : ByteArray := prog_15_method_155_code
def yJ0_checkIndex_df160 : MethodName := ⟨RJ0, "checkIndex", "(II)V"⟩
def RJ1 : String := "java/lang/StringLatin1"
abbrev cJ1_charAt_3b067 : ByteArray := prog_16_method_2_code
def yJ1_charAt_3b067 : MethodName := ⟨RJ1, "charAt", "([BI)C"⟩
def RJ2 : String := "java/lang/StringUTF16"
abbrev cJ2_getChar_3b067 : ByteArray := prog_17_method_5_code
def yJ2_getChar_3b067 : MethodName := ⟨RJ2, "getChar", "([BI)C"⟩
abbrev cJ2_length_9d52b : ByteArray := prog_17_method_6_code
def yJ2_length_9d52b : MethodName := ⟨RJ2, "length", "([B)I"⟩
abbrev cJ2_charAt_3b067 : ByteArray := prog_17_method_83_code
def yJ2_charAt_3b067 : MethodName := ⟨RJ2, "charAt", "([BI)C"⟩
abbrev cJ2_checkIndex_2214a : ByteArray := prog_17_method_91_code
def yJ2_checkIndex_2214a : MethodName := ⟨RJ2, "checkIndex", "(I[B)V"⟩
def RJ10 : String := "java/lang/System"
def RJ3 : String := "jdk/internal/util/Preconditions"
abbrev cJ3_checkIndex_8e157 : ByteArray := prog_19_method_11_code
def yJ3_checkIndex_8e157 : MethodName := ⟨RJ3, "checkIndex", "(IILjava/util/function/BiFunction;)I"⟩
def RL : String := "DayWordsLaw"
abbrev cL_law : ByteArray := code
def yL_law : MethodName := ⟨RL, "law", "([I)Z"⟩
abbrev vwCl : List vw_C := [(RX0, TX0, 2), (RX1, TX1, 11), (RX2, TX2, 16), (RX3, TX3, 1), (RX4, TX4, 15), (RX5, TX5, 2), (RX6, TX6, 2), (RX7, TX7, 14), (RX8, TX8, 1), (RX9, TX9, 13), (RX10, TX10, 48)]
end
section
/-! A SMALL MACHINE beside the big one: heap of typed words, frames as lists; its runs are a partial function (zrun). Part 04 shows that the big machine does what this one does. -/
abbrev zI : Type := Nat → Nat → Int32
abbrev zL : Type := Nat → Nat → Int64
abbrev zR : Type := Nat → Nat → Option Nat
/-- a cell: an object of a class (by its number), or an array (kind, length); kinds: 0 int, 1 long, 2 byte, 3 boolean, 4 rows -/
abbrev zK : Type := Nat ⊕ (Nat × Nat)
abbrev zH : Type := List zK × zI × zL × zR
abbrev zS : Type := Nat × List (Option Value) × List Value × zH × Nat × Nat
abbrev zEn : Type := Instr × Nat × List Nat × Int
abbrev zRes : Type := Option Value × zH × Nat × Nat
abbrev zO : Type := (List (Bool × zS) × zS) ⊕ (zRes ⊕ (Nat × List Value × zS))
/-- a place of the code: its instruction, and the locals that are dead there -/
abbrev zPl : Type := zEn × List Bool
abbrev zMeth : Type := MethodName × ByteArray × Nat × Option FieldType × Room × List (List (Option zPl))
def zy (M : zMeth) : MethodName := M.1
def zb (M : zMeth) : ByteArray := M.2.1
def zml (M : zMeth) : Nat := M.2.2.1
def zret (M : zMeth) : Option FieldType := M.2.2.2.1
def zrm (M : zMeth) : Room := M.2.2.2.2.1
def zcode (M : zMeth) : List (List (Option zPl)) := M.2.2.2.2.2
def zT : List Cond := lw_tbl.filter goodWord
def znth {α : Type} : List α → Nat → Option α
  | [], _ => none
  | a :: _, 0 => some a
  | _ :: l, n + 1 => znth l n
def zfetch (M : zMeth) (pc : Nat) : Option zEn :=
  match znth (zcode M) (pc / 16) with
  | none => none
  | some r => match znth r (pc % 16) with
    | some (some q) => some q.1
    | _ => none
def zdead (M : zMeth) (pc : Nat) : List Bool :=
  match znth (zcode M) (pc / 16) with
  | none => []
  | some r => match znth r (pc % 16) with
    | some (some q) => q.2
    | _ => []
def zclrM : List Bool → List (Option Value) → List (Option Value)
  | [], lo => lo
  | b :: r, lo => match lo with
    | [] => []
    | v :: l => cond b none v :: zclrM r l
def zclr (lo : List (Option Value)) (r : List Bool) : List (Option Value) := zclrM r lo
def zclear (M : zMeth) (S : zS) : zS := match S with
  | (pc, lo, st, h, ce, sl) => (pc, zclr lo (zdead M pc), st, h, ce, sl)
def zup {α : Type} (f : Nat → Nat → α) (k i : Nat) (v : α) : Nat → Nat → α := fun a b => cond (Nat.beq a k && Nat.beq b i) v (f a b)
def zfil {α : Type} (f : Nat → Nat → α) (k : Nat) (v : α) : Nat → Nat → α := fun a b => cond (Nat.beq a k) v (f a b)
/-- n places of cell k from p on come out of cell j from q on -/
def zcpy {α : Type} (f : Nat → Nat → α) (j q k p n : Nat) : Nat → Nat → α := fun a b => cond (Nat.beq a k && Nat.ble p b && Nat.blt b (p + n)) (f j (q + (b - p))) (f a b)
def zin (i : Int32) (n : Nat) : Bool := !(decide (i < 0) || Nat.ble n i.toNatClampNeg)
def zlong : Option (Option Value) → Bool
  | some (some v) => Nat.beq v.category 2
  | _ => false
/-- a value of one place is stored -/
def zst1 (lo : List (Option Value)) : Nat → Value → List (Option Value)
  | 0, v => lo.set 0 (some v)
  | i + 1, v => cond (zlong (znth lo i)) ((lo.set i none).set (i + 1) (some v)) (lo.set (i + 1) (some v))
def zst2 (lo : List (Option Value)) (i : Nat) (v : Value) : List (Option Value) := (zst1 lo i v).set (i + 1) none
def zargs : List Value → List (Option Value)
  | [] => []
  | .long x :: r => some (.long x) :: none :: zargs r
  | .double x :: r => some (.double x) :: none :: zargs r
  | v :: r => some v :: zargs r
def zpad (l : List (Option Value)) (n : Nat) : List (Option Value) := l ++ List.replicate (n - l.length) none
def znar (ty : FieldType) (v : Int32) : Bool := match ty with
  | .int => true
  | .boolean => v == 0 || v == 1
  | _ => false
/-- class by its number: its fields' types, their number -/
def zty (ci : Nat) : Nat → FieldType := match ci with
  | 0 => tyX0 | 1 => tyX1 | 2 => tyX2 | 3 => tyX3 | 4 => tyX4 | 5 => tyX5 | 6 => tyX6 | 7 => tyX7 | 8 => tyX8 | 9 => tyX9 | _ => tyX10
def zN (ci : Nat) : Nat := match ci with
  | 0 => 2 | 1 => 11 | 2 => 16 | 3 => 1 | 4 => 15 | 5 => 2 | 6 => 2 | 7 => 14 | 8 => 1 | 9 => 13 | 10 => 48 | _ => 0
def zfv (h : zH) (ty : FieldType) (k f : Nat) : Value := match ty with
  | .int => .int (h.2.1 k f)
  | .boolean => .int (h.2.1 k f)
  | .long => .long (h.2.2.1 k f)
  | _ => va_rf (h.2.2.2 k f)
def zisC (h : zH) (k ci : Nat) : Bool := match znth h.1 k with
  | some (.inl c) => Nat.beq c ci
  | _ => false
/-- the length of an array cell of a kind; the script (cell 1000) is no such cell -/
def zisA (h : zH) (k t : Nat) : Option Nat := match znth h.1 k with
  | some (.inr (t', n)) => cond (Nat.beq t' t) (some n) none
  | _ => none
def zlen (h : zH) (k : Nat) : Option Nat := match znth h.1 k with
  | some (.inr (_, n)) => some n
  | _ => none
def zput (h : zH) (ty : FieldType) (k f : Nat) (v : Value) : Option (Bool × zH) := match ty, v with
  | .int, .int x => some (true, (h.1, zup h.2.1 k f x, h.2.2.1, h.2.2.2))
  | .boolean, .int x => some (znar .boolean x, (h.1, zup h.2.1 k f x, h.2.2.1, h.2.2.2))
  | .long, .long x => some (true, (h.1, h.2.1, zup h.2.2.1 k f x, h.2.2.2))
  | .object _, .ref r => some (true, (h.1, h.2.1, h.2.2.1, zup h.2.2.2 k f (some r)))
  | .array _, .ref r => some (true, (h.1, h.2.1, h.2.2.1, zup h.2.2.2 k f (some r)))
  | _, _ => none
def znewo (h : zH) (ci : Nat) : zH := (h.1 ++ [.inl ci], zfil h.2.1 h.1.length 0, zfil h.2.2.1 h.1.length 0, zfil h.2.2.2 h.1.length none)
def znewa (h : zH) (t n : Nat) : zH := (h.1 ++ [.inr (t, n)], zfil h.2.1 h.1.length 0, zfil h.2.2.1 h.1.length 0, zfil h.2.2.2 h.1.length none)
def zatk (a : ArrayType) : Option Nat := match a with
  | .int => some 0 | .long => some 1 | .byte => some 2 | .boolean => some 3 | _ => none
/-- the two texts -/
def zbyt : List (List Int32) := [[100, 101, 115, 107, 32, 100, 97, 121, 115, 32, 102, 105, 114, 115, 116, 32, 102, 101, 97, 115, 116, 32, 116, 114, 97, 105, 110, 32, 97, 116, 32, 110, 101, 118, 101, 114, 32, 100, 97, 105, 108, 121, 32, 102, 114, 111, 109, 32, 116, 111, 32, 110, 111, 116, 32, 97, 108, 115, 111, 32, 109, 111, 32, 116, 117, 32, 119, 101, 32, 116, 104, 32, 102, 114, 32, 115, 97, 32, 115, 117], [32, 100, 101, 115, 107, 32, 100, 97, 121, 115, 32, 102, 105, 114, 115, 116, 32, 102, 101, 97, 115, 116, 32, 116, 114, 97, 105, 110, 32, 97, 116, 32, 110, 101, 118, 101, 114, 32, 100, 97, 105, 108, 121, 32, 102, 114, 111, 109, 32, 116, 111, 32, 110, 111, 116, 32, 97, 108, 115, 111, 32, 109, 111, 32, 116, 117, 32, 119, 101, 32, 116, 104, 32, 102, 114, 32, 115, 97, 32, 115, 117, 32]]
def zlens : List Nat := [80, 82]
def zch (k : Nat) (i : Int32) : Int32 := (zbyt.getD k []).getD i.toNatClampNeg 0
def zcs (l : List Value) : Nat := (l.map fun v => v.category).sum
def zk (pc : Nat) (lo : List (Option Value)) (st : List Value) (h : zH) (ce sl : Nat) : Option (Bool × zO) := some (true, .inl ([], (pc, lo, st, h, ce, sl)))
def zg (g : Bool) (pc : Nat) (lo : List (Option Value)) (st : List Value) (h : zH) (ce sl : Nat) : Option (Bool × zO) := some (g, .inl ([], (pc, lo, st, h, ce, sl)))
def zbr (b : Bool) (t pc : Nat) (lo : List (Option Value)) (st : List Value) (h : zH) (ce sl : Nat) : Option (Bool × zO) := some (true, .inl ([(b, (t, lo, st, h, ce, sl))], (pc, lo, st, h, ce, sl)))
def zoff (pc : Nat) (off : Int) : Nat := ((pc : Int) + off).toNat
def zcmp (c : ClassFile.Cond) (x y : Int32) : Bool := match c with
  | .eq => decide (x = y)
  | .ne => !decide (x = y)
  | .lt => decide (x < y)
  | .ge => !decide (x < y)
  | .gt => decide (y < x)
  | .le => !decide (y < x)
def zldi (lo : List (Option Value)) (i pc : Nat) (st : List Value) (h : zH) (ce sl : Nat) : Option (Bool × zO) := match znth lo i with
  | some (some (.int x)) => zk pc lo (.int x :: st) h ce sl
  | _ => none
def zldl (lo : List (Option Value)) (i pc : Nat) (st : List Value) (h : zH) (ce sl : Nat) : Option (Bool × zO) := match znth lo i with
  | some (some (.long x)) => zk pc lo (.long x :: st) h ce sl
  | _ => none
def zlda (lo : List (Option Value)) (i pc : Nat) (st : List Value) (h : zH) (ce sl : Nat) : Option (Bool × zO) := match znth lo i with
  | some (some (.ref x)) => zk pc lo (.ref x :: st) h ce sl
  | some (some .null) => zk pc lo (.null :: st) h ce sl
  | _ => none
def zis (lo : List (Option Value)) (n i pc : Nat) (st : List Value) (h : zH) (ce sl : Nat) : Option (Bool × zO) := match st with
  | .int x :: r => zg (Nat.blt i n) pc (zst1 lo i (.int x)) r h ce sl
  | _ => none
def zls (lo : List (Option Value)) (n i pc : Nat) (st : List Value) (h : zH) (ce sl : Nat) : Option (Bool × zO) := match st with
  | .long x :: r => zg (Nat.blt (i + 1) n) pc (zst2 lo i (.long x)) r h ce sl
  | _ => none
def zas (lo : List (Option Value)) (n i pc : Nat) (st : List Value) (h : zH) (ce sl : Nat) : Option (Bool × zO) := match st with
  | .ref x :: r => zg (Nat.blt i n) pc (zst1 lo i (.ref x)) r h ce sl
  | .null :: r => zg (Nat.blt i n) pc (zst1 lo i .null) r h ce sl
  | _ => none
def zi2 (f : Int32 → Int32 → Int32) (lo : List (Option Value)) (pc : Nat) (st : List Value) (h : zH) (ce sl : Nat) : Option (Bool × zO) := match st with
  | .int y :: .int x :: r => zk pc lo (.int (f x y) :: r) h ce sl
  | _ => none
def zi1 (f : Int32 → Value) (lo : List (Option Value)) (pc : Nat) (st : List Value) (h : zH) (ce sl : Nat) : Option (Bool × zO) := match st with
  | .int x :: r => zk pc lo (f x :: r) h ce sl
  | _ => none
def zl2 (f : Int64 → Int64 → Int64) (lo : List (Option Value)) (pc : Nat) (st : List Value) (h : zH) (ce sl : Nat) : Option (Bool × zO) := match st with
  | .long y :: .long x :: r => zk pc lo (.long (f x y) :: r) h ce sl
  | _ => none
/-- a call: callee, arguments, the state behind it but for the answer -/
def zcl (g : Bool) (y : Nat) (as : List Value) (pc : Nat) (lo : List (Option Value)) (st : List Value) (h : zH) (ce sl : Nat) : Option (Bool × zO) := some (g, .inr (.inr (y, as, (pc, lo, st, h, ce, sl))))
def zinv (R : Room) (ns : List Nat) (lo : List (Option Value)) (pc : Nat) (st : List Value) (h : zH) (ce sl : Nat) : Option (Bool × zO) := match ns with
  | 0 :: y :: n :: mc :: ms :: ci :: _ =>
    match (st.take n).reverse with
    | .ref k :: as => zcl (zisC h k ci && Nat.beq (as.length + 1) n && Nat.ble (zcs (st.drop n)) 8 && Nat.ble (ce + mc) R.cells && Nat.ble (sl + ms) R.slots) y (.ref k :: as) pc lo (st.drop n) h (ce + mc) (sl + ms)
    | _ => none
  | 1 :: y :: n :: mc :: ms :: _ => zcl (Nat.beq (st.take n).length n && Nat.ble (zcs (st.drop n)) 8 && Nat.ble (ce + mc) R.cells && Nat.ble (sl + ms) R.slots) y (st.take n).reverse pc lo (st.drop n) h (ce + mc) (sl + ms)
  | 2 :: y :: n :: mc :: ms :: _ =>
    match (st.take n).reverse with
    | .ref k :: as => zcl (Nat.beq (as.length + 1) n && Nat.ble (zcs (st.drop n)) 8 && Nat.ble (ce + mc) R.cells && Nat.ble (sl + ms) R.slots) y (.ref k :: as) pc lo (st.drop n) h (ce + mc) (sl + ms)
    | _ => none
  | 3 :: _ => match st with
    | .ref _ :: r => zg (Nat.ble (zcs r + 12) R.locals) pc lo r h ce sl
    | _ => none
  | 4 :: _ => match st with
    | .int n :: .int dp :: .ref k :: .int sp :: .ref j :: r => match zisA h j 0, zisA h k 0 with
      | some n0, some n1 => zg (!decide (sp < 0) && !decide (dp < 0) && !decide (n < 0) && Nat.ble (sp.toNatClampNeg + n.toNatClampNeg) n0 && Nat.ble (dp.toNatClampNeg + n.toNatClampNeg) n1 && Nat.ble (zcs r) 8) pc lo r (h.1, zcpy h.2.1 j sp.toNatClampNeg k dp.toNatClampNeg n.toNatClampNeg, h.2.2.1, h.2.2.2) ce sl
      | _, _ => none
    | _ => none
  | 5 :: _ => match st with
    | .ref k :: r => zg (Nat.ble 1001 k && Nat.ble k 1002 && Nat.ble (zcs r) 8 && Nat.ble ce R.cells && Nat.ble sl R.slots) pc lo (.int (nI (zlens.getD (k - 1001) 0)) :: r) h ce sl
    | _ => none
  | 6 :: _ => match st with
    | .int i :: .ref k :: r => zg (Nat.ble 1001 k && Nat.ble k 1002 && Nat.ble (zcs r) 8 && zin i (zlens.getD (k - 1001) 0) && Nat.ble ce R.cells && Nat.ble sl R.slots) pc lo (.int (zch (k - 1001) i) :: r) h ce sl
    | _ => none
  | _ => none
def zstep (M : zMeth) (S : zS) : Option (Bool × zO) :=
  match S with
  | (pc, lo, st, h, ce, sl) =>
  match zfetch M pc with
  | none => none
  | some (ins, len, ns, z) =>
    match ins with
    | .iconst n => zk (pc + len) lo (.int (Int32.ofInt n) :: st) h ce sl
    | .bipush n => zk (pc + len) lo (.int (Int8.ofInt n).toInt32 :: st) h ce sl
    | .sipush n => zk (pc + len) lo (.int (Int16.ofInt n).toInt32 :: st) h ce sl
    | .lconst n => zk (pc + len) lo (.long (Int64.ofNat (n : Nat)) :: st) h ce sl
    | .aconst_null => zk (pc + len) lo (.null :: st) h ce sl
    | .ldc _ => match ns with
      | 0 :: _ => zk (pc + len) lo (.int (Int32.ofInt z) :: st) h ce sl
      | 1 :: k :: _ => zk (pc + len) lo (.ref (1001 + k) :: st) h ce sl
      | _ => none
    | .ldc_w _ => zk (pc + len) lo (.int (Int32.ofInt z) :: st) h ce sl
    | .ldc2_w _ => zk (pc + len) lo (.long (Int64.ofInt z) :: st) h ce sl
    | .iload_n k => zldi lo (k : Nat) (pc + len) st h ce sl
    | .iload k => zldi lo k (pc + len) st h ce sl
    | .lload_n k => zldl lo (k : Nat) (pc + len) st h ce sl
    | .lload k => zldl lo k (pc + len) st h ce sl
    | .aload_n k => zlda lo (k : Nat) (pc + len) st h ce sl
    | .aload k => zlda lo k (pc + len) st h ce sl
    | .istore_n k => zis lo (zml M) (k : Nat) (pc + len) st h ce sl
    | .istore k => zis lo (zml M) k (pc + len) st h ce sl
    | .lstore_n k => zls lo (zml M) (k : Nat) (pc + len) st h ce sl
    | .lstore k => zls lo (zml M) k (pc + len) st h ce sl
    | .astore_n k => zas lo (zml M) (k : Nat) (pc + len) st h ce sl
    | .astore k => zas lo (zml M) k (pc + len) st h ce sl
    | .iinc i n => match znth lo i with
      | some (some (.int x)) => zg (Nat.blt i (zml M)) (pc + len) (zst1 lo i (.int (x + Int32.ofInt n))) st h ce sl
      | _ => none
    | .iadd => zi2 (fun x y => x + y) lo (pc + len) st h ce sl
    | .isub => zi2 (fun x y => x - y) lo (pc + len) st h ce sl
    | .imul => zi2 (fun x y => x * y) lo (pc + len) st h ce sl
    | .iand => zi2 (fun x y => x &&& y) lo (pc + len) st h ce sl
    | .ior => zi2 (fun x y => x ||| y) lo (pc + len) st h ce sl
    | .ixor => zi2 (fun x y => x ^^^ y) lo (pc + len) st h ce sl
    | .ishl => zi2 (fun x y => x <<< (y &&& 31)) lo (pc + len) st h ce sl
    | .ishr => zi2 (fun x y => x >>> (y &&& 31)) lo (pc + len) st h ce sl
    | .iushr => zi2 (fun x y => (x.toUInt32 >>> (y.toUInt32 &&& Int32.toUInt32 31)).toInt32) lo (pc + len) st h ce sl
    | .idiv => match st with
      | .int y :: .int x :: r => zg (!decide (y = 0)) (pc + len) lo (.int (x / y) :: r) h ce sl
      | _ => none
    | .irem => match st with
      | .int y :: .int x :: r => zg (!decide (y = 0)) (pc + len) lo (.int (x - x / y * y) :: r) h ce sl
      | _ => none
    | .ineg => zi1 (fun x => .int (-x)) lo (pc + len) st h ce sl
    | .i2l => zi1 (fun x => .long x.toInt64) lo (pc + len) st h ce sl
    | .i2b => zi1 (fun x => .int x.toInt8.toInt32) lo (pc + len) st h ce sl
    | .i2c => zi1 (fun x => .int (x.toUInt32 % 65536).toInt32) lo (pc + len) st h ce sl
    | .l2i => match st with
      | .long x :: r => zk (pc + len) lo (.int x.toInt32 :: r) h ce sl
      | _ => none
    | .ladd => zl2 (fun x y => x + y) lo (pc + len) st h ce sl
    | .lmul => zl2 (fun x y => x * y) lo (pc + len) st h ce sl
    | .land => zl2 (fun x y => x &&& y) lo (pc + len) st h ce sl
    | .lor => zl2 (fun x y => x ||| y) lo (pc + len) st h ce sl
    | .lshl => match st with
      | .int y :: .long x :: r => zk (pc + len) lo (.long (x <<< (y.toInt64 &&& 63)) :: r) h ce sl
      | _ => none
    | .lshr => match st with
      | .int y :: .long x :: r => zk (pc + len) lo (.long (x >>> (y.toInt64 &&& 63)) :: r) h ce sl
      | _ => none
    | .lcmp => match st with
      | .long y :: .long x :: r => zk (pc + len) lo (.int (lg_cmp x y) :: r) h ce sl
      | _ => none
    | .dup => match st with
      | v :: r => zg (Nat.beq v.category 1) (pc + len) lo (v :: v :: r) h ce sl
      | _ => none
    | .dup2 => match st with
      | v :: w :: r => zg (Nat.beq v.category 1 && Nat.beq w.category 1) (pc + len) lo (v :: w :: v :: w :: r) h ce sl
      | _ => none
    | .pop => match st with
      | v :: r => zg (Nat.beq v.category 1) (pc + len) lo r h ce sl
      | _ => none
    | .goto o => zk (zoff pc o) lo st h ce sl
    | .ifCond c o => match st with
      | .int x :: r => zbr (zcmp c x 0) (zoff pc o) (pc + len) lo r h ce sl
      | _ => none
    | .if_icmp c o => match st with
      | .int y :: .int x :: r => zbr (zcmp c x y) (zoff pc o) (pc + len) lo r h ce sl
      | _ => none
    | .ifnull o => match st with
      | .null :: r => zk (zoff pc o) lo r h ce sl
      | .ref _ :: r => zk (pc + len) lo r h ce sl
      | _ => none
    | .tableswitch d a _ offs => match st with
      | .int x :: r => some (true, .inl (offs.toList.mapIdx (fun i o => (decide (x = Int32.ofInt (a + (i : Int))), (zoff pc o, lo, r, h, ce, sl))), (zoff pc d, lo, r, h, ce, sl)))
      | _ => none
    | .lookupswitch d ps => match st with
      | .int x :: r => some (true, .inl (ps.toList.map (fun q => (decide (x = Int32.ofInt q.1), (zoff pc q.2, lo, r, h, ce, sl))), (zoff pc d, lo, r, h, ce, sl)))
      | _ => none
    | .getfield _ => match ns, st with
      | ci :: f :: _, .ref k :: r => zg (zisC h k ci) (pc + len) lo (zfv h (zty ci f) k f :: r) h ce sl
      | _, _ => none
    | .putfield _ => match ns, st with
      | ci :: f :: _, v :: .ref k :: r => match zput h (zty ci f) k f v with
        | some (g, h') => zg (zisC h k ci && g) (pc + len) lo r h' ce sl
        | none => none
      | _, _ => none
    | .iaload => match st with
      | .int i :: .ref k :: r => match zisA h k 0 with
        | some n => zg (zin i n) (pc + len) lo (.int (h.2.1 k i.toNatClampNeg) :: r) h ce sl
        | none => none
      | _ => none
    | .baload => match st with
      | .int i :: .ref k :: r => match zlen h k with
        | some n => zg (zin i n && ((zisA h k 2).isSome || (zisA h k 3).isSome)) (pc + len) lo (.int (h.2.1 k i.toNatClampNeg) :: r) h ce sl
        | none => none
      | _ => none
    | .laload => match st with
      | .int i :: .ref k :: r => match zisA h k 1 with
        | some n => zg (zin i n) (pc + len) lo (.long (h.2.2.1 k i.toNatClampNeg) :: r) h ce sl
        | none => none
      | _ => none
    | .aaload => match st with
      | .int i :: .ref k :: r => match zisA h k 4 with
        | some n => zg (zin i n) (pc + len) lo (va_rf (h.2.2.2 k i.toNatClampNeg) :: r) h ce sl
        | none => none
      | _ => none
    | .iastore => match st with
      | .int x :: .int i :: .ref k :: r => match zisA h k 0 with
        | some n => zg (zin i n) (pc + len) lo r (h.1, zup h.2.1 k i.toNatClampNeg x, h.2.2.1, h.2.2.2) ce sl
        | none => none
      | _ => none
    | .bastore => match st with
      | .int x :: .int i :: .ref k :: r => match znth h.1 k with
        | some (.inr (2, n)) => zg (zin i n) (pc + len) lo r (h.1, zup h.2.1 k i.toNatClampNeg (vp_nar .byte x), h.2.2.1, h.2.2.2) ce sl
        | some (.inr (3, n)) => zg (zin i n) (pc + len) lo r (h.1, zup h.2.1 k i.toNatClampNeg (vp_nar .boolean x), h.2.2.1, h.2.2.2) ce sl
        | _ => none
      | _ => none
    | .lastore => match st with
      | .long x :: .int i :: .ref k :: r => match zisA h k 1 with
        | some n => zg (zin i n) (pc + len) lo r (h.1, h.2.1, zup h.2.2.1 k i.toNatClampNeg x, h.2.2.2) ce sl
        | none => none
      | _ => none
    | .aastore => match st with
      | .ref x :: .int i :: .ref k :: r => match zisA h k 4 with
        | some n => zg (zin i n && zisC h x 5) (pc + len) lo r (h.1, h.2.1, h.2.2.1, zup h.2.2.2 k i.toNatClampNeg (some x)) ce sl
        | none => none
      | _ => none
    | .arraylength => match st with
      | .ref k :: r => match zlen h k with
        | some n => zk (pc + len) lo (.int (nI n) :: r) h ce sl
        | none => none
      | _ => none
    | .newarray a => match st with
      | .int n :: r => match zatk a with
        | some t => zg (!decide (n < 0) && Nat.ble n.toNatClampNeg 65536 && Nat.blt h.1.length 900 && Nat.ble (ce + 1) (zrm M).cells && Nat.ble (sl + n.toNatClampNeg) (zrm M).slots) (pc + len) lo (.ref h.1.length :: r) (znewa h t n.toNatClampNeg) (ce + 1) (sl + n.toNatClampNeg)
        | none => none
      | _ => none
    | .anewarray _ => match st with
      | .int n :: r => zg (!decide (n < 0) && Nat.ble n.toNatClampNeg 65536 && Nat.blt h.1.length 900 && Nat.ble (ce + 1) (zrm M).cells && Nat.ble (sl + n.toNatClampNeg) (zrm M).slots) (pc + len) lo (.ref h.1.length :: r) (znewa h 4 n.toNatClampNeg) (ce + 1) (sl + n.toNatClampNeg)
      | _ => none
    | .new _ => match ns with
      | ci :: _ => zg (Nat.blt ci 11 && Nat.blt h.1.length 900 && Nat.ble (ce + 1) (zrm M).cells && Nat.ble (sl + zN ci) (zrm M).slots) (pc + len) lo (.ref h.1.length :: st) (znewo h ci) (ce + 1) (sl + zN ci)
      | _ => none
    | .invokevirtual _ => zinv (zrm M) ns lo (pc + len) st h ce sl
    | .invokespecial _ => zinv (zrm M) ns lo (pc + len) st h ce sl
    | .invokestatic _ => zinv (zrm M) ns lo (pc + len) st h ce sl
    | .ireturn => match st, zret M with
      | [.int x], some ty => some (znar ty x && Nat.ble ce (zrm M).cells && Nat.ble sl (zrm M).slots, .inr (.inl (some (.int x), h, ce, sl)))
      | _, _ => none
    | .lreturn => match st, zret M with
      | [.long x], some .long => some (Nat.ble ce (zrm M).cells && Nat.ble sl (zrm M).slots, .inr (.inl (some (.long x), h, ce, sl)))
      | _, _ => none
    | .areturn => match st, zret M with
      | [.ref x], some (.object _) => some (Nat.ble ce (zrm M).cells && Nat.ble sl (zrm M).slots, .inr (.inl (some (.ref x), h, ce, sl)))
      | _, _ => none
    | .return_ => match st, zret M with
      | [], none => some (Nat.ble ce (zrm M).cells && Nat.ble sl (zrm M).slots, .inr (.inl (none, h, ce, sl)))
      | _, _ => none
    | _ => none
def zsw {ρ : Type} : List (Bool × zS) → (zS → ρ) → zS → ρ
  | [], f, d => f d
  | (b, s) :: r, f, d => cond b (f s) (zsw r f d)
/-- what comes of a step, by what comes of the states behind it and of calls -/
def zthen (F : zS → Option zRes) (G : Nat → List Value → zH → Option (Option Value × zH)) (x : Option (Bool × zO)) : Option zRes := match x with
  | none => none
  | some (g, o) => cond g (match o with
    | .inl (bs, S') => zsw bs F S'
    | .inr (.inl r) => some r
    | .inr (.inr (y, as, (pc, lo, st, h, ce, sl))) => (G y as h).bind (fun q => F (pc, lo, q.1.toList ++ st, q.2, ce, sl))) none
def zent (M : zMeth) (as : List Value) (h : zH) : zS := cond (Nat.ble (zargs as).length (zml M)) (0, zpad (zargs as) (zml M), [], h, 0, 0) (99999, [], [], h, 0, 0)
section ZEX
variable (Z : Nat → zMeth)
def zex : Nat → zMeth → zS → Option zRes
  | 0, _, _ => none
  | n + 1, M, S => zthen (zex n M) (fun y as h => (zex n (Z y) (zent (Z y) as h)).map (fun r => (r.1, r.2.1))) (zstep M (zclear M S))
theorem zsw_map {ρ : Type} (F F' : zS → Option ρ) (hF : ∀ S r, F S = some r → F' S = some r) : ∀ (bs : List (Bool × zS)) (d : zS) (r : ρ), zsw bs F d = some r → zsw bs F' d = some r
  | [], d, r, h => hF d r h
  | (true, s) :: _, _, r, h => hF s r h
  | (false, _) :: bs, d, r, h => zsw_map F F' hF bs d r h
theorem zthen_mono {F F' : zS → Option zRes} {G G' : Nat → List Value → zH → Option (Option Value × zH)} (hF : ∀ S r, F S = some r → F' S = some r) (hG : ∀ y as h r, G y as h = some r → G' y as h = some r) (x : Option (Bool × zO)) (r : zRes) (h : zthen F G x = some r) : zthen F' G' x = some r := by
  match x with
  | none => exact h
  | some (false, _) => exact h
  | some (true, .inl (bs, S')) => exact zsw_map F F' hF bs S' r h
  | some (true, .inr (.inl r')) => exact h
  | some (true, .inr (.inr (y, as, (pc, lo, st, hh, ce, sl)))) =>
    have h1 : (G y as hh).bind (fun q => F (pc, lo, q.1.toList ++ st, q.2, ce, sl)) = some r := h
    show (G' y as hh).bind (fun q => F' (pc, lo, q.1.toList ++ st, q.2, ce, sl)) = some r
    obtain ⟨q, h2, h3⟩ := Option.bind_eq_some_iff.mp h1
    exact Option.bind_eq_some_iff.mpr ⟨q, hG _ _ _ _ h2, hF _ _ h3⟩
theorem zex_succ (n : Nat) : ∀ (M : zMeth) (S : zS) (r : zRes), zex Z n M S = some r → zex Z (n + 1) M S = some r := by
  induction n with
  | zero => intro M S r h; cases h
  | succ n ih =>
    intro M S r h
    refine zthen_mono (F := zex Z n M) (fun S r h => ih M S r h) (fun y as hh q h => ?_) (zstep M (zclear M S)) r h
    obtain ⟨r', h1, h2⟩ := Option.map_eq_some_iff.mp h
    exact Option.map_eq_some_iff.mpr ⟨r', ih _ _ _ h1, h2⟩
theorem zex_le {n k : Nat} (hk : n ≤ k) {M : zMeth} {S : zS} {r : zRes} (h : zex Z n M S = some r) : zex Z k M S = some r := by
  induction hk with
  | refl => exact h
  | step _ ih => exact zex_succ Z _ _ _ _ ih
noncomputable def zrun (M : zMeth) (S : zS) : Option zRes := Classical.epsilon (fun o : Option zRes => (∃ n, zex Z n M S = o ∧ o ≠ none) ∨ ((∀ n, zex Z n M S = none) ∧ o = none))
theorem zrun_spec (M : zMeth) (S : zS) : (∃ n, zex Z n M S = zrun Z M S ∧ zrun Z M S ≠ none) ∨ ((∀ n, zex Z n M S = none) ∧ zrun Z M S = none) := by
  refine Classical.epsilon_spec (p := fun o : Option zRes => (∃ n, zex Z n M S = o ∧ o ≠ none) ∨ ((∀ n, zex Z n M S = none) ∧ o = none)) ?_
  by_cases h : ∃ n, zex Z n M S ≠ none
  · obtain ⟨n, hn⟩ := h
    exact ⟨_, Or.inl ⟨n, rfl, hn⟩⟩
  · exact ⟨none, Or.inr ⟨fun n => Classical.byContradiction fun q => h ⟨n, q⟩, rfl⟩⟩
theorem zrun_some {M : zMeth} {S : zS} {r : zRes} : zrun Z M S = some r ↔ ∃ n, zex Z n M S = some r := by
  constructor
  · intro h
    rcases zrun_spec Z M S with ⟨n, h1, -⟩ | ⟨-, h2⟩
    · exact ⟨n, h1.trans h⟩
    · rw [h] at h2; cases h2
  · rintro ⟨n, hn⟩
    rcases zrun_spec Z M S with ⟨k, h1, h2⟩ | ⟨h1, -⟩
    · cases hz : zrun Z M S with
      | none => exact absurd hz h2
      | some r' =>
        rw [hz] at h1
        have a := zex_le Z (Nat.le_max_left n k) hn
        have b := zex_le Z (Nat.le_max_right n k) h1
        exact (b.symm.trans a)
    · rw [h1 n] at hn; cases hn
noncomputable def zcall (y : Nat) (as : List Value) (h : zH) : Option (Option Value × zH) := (zrun Z (Z y) (zent (Z y) as h)).map (fun r => (r.1, r.2.1))
theorem zcall_some {y : Nat} {as : List Value} {h : zH} {q : Option Value × zH} : zcall Z y as h = some q ↔ ∃ n ce sl, zex Z n (Z y) (zent (Z y) as h) = some (q.1, q.2, ce, sl) := by
  constructor
  · intro hc
    obtain ⟨r, h1, h2⟩ := Option.map_eq_some_iff.mp hc
    obtain ⟨n, hn⟩ := (zrun_some Z).mp h1
    subst h2
    exact ⟨n, r.2.2.1, r.2.2.2, hn⟩
  · rintro ⟨n, ce, sl, hn⟩
    exact Option.map_eq_some_iff.mpr ⟨_, (zrun_some Z).mpr ⟨n, hn⟩, rfl⟩
theorem zopt_ext {α : Type} {a b : Option α} (h : ∀ r, a = some r ↔ b = some r) : a = b := by
  cases a with
  | none => cases b with
    | none => rfl
    | some y => exact ((h y).mpr rfl)
  | some x => exact ((h x).mp rfl).symm
theorem zsw_fin {ρ : Type} (f : Nat → zS → Option ρ) (F : zS → Option ρ) (hF : ∀ S r, F S = some r → ∃ n, f n S = some r) : ∀ (bs : List (Bool × zS)) (d : zS) (r : ρ), zsw bs F d = some r → ∃ n, zsw bs (f n) d = some r
  | [], d, r, h => hF d r h
  | (true, s) :: _, _, r, h => hF s r h
  | (false, _) :: bs, d, r, h => zsw_fin f F hF bs d r h
theorem zrun_step (M : zMeth) (S : zS) : zrun Z M S = zthen (zrun Z M) (zcall Z) (zstep M (zclear M S)) := by
  refine zopt_ext fun r => ⟨fun h => ?_, fun h => ?_⟩
  · obtain ⟨n, hn⟩ := (zrun_some Z).mp h
    cases n with
    | zero => cases hn
    | succ n =>
      refine zthen_mono (F := zex Z n M) (fun S r h => (zrun_some Z).mpr ⟨n, h⟩) (fun y as hh q h => ?_) (zstep M (zclear M S)) r hn
      obtain ⟨r', h1, h2⟩ := Option.map_eq_some_iff.mp h
      exact Option.map_eq_some_iff.mpr ⟨r', (zrun_some Z).mpr ⟨n, h1⟩, h2⟩
  · refine (zrun_some Z).mpr ?_
    match hs : zstep M (zclear M S) with
    | none => rw [hs] at h; cases h
    | some (false, _) => rw [hs] at h; cases h
    | some (true, .inl (bs, S')) =>
      rw [hs] at h
      obtain ⟨n, hn⟩ := zsw_fin (fun n => zex Z n M) (zrun Z M) (fun S r h => (zrun_some Z).mp h) bs S' r h
      refine ⟨n + 1, ?_⟩
      show zthen _ _ (zstep M (zclear M S)) = some r
      rw [hs]
      exact hn
    | some (true, .inr (.inl r')) =>
      rw [hs] at h
      refine ⟨1, ?_⟩
      show zthen _ _ (zstep M (zclear M S)) = some r
      rw [hs]
      exact h
    | some (true, .inr (.inr (y, as, (pc, lo, st, hh, ce, sl)))) =>
      rw [hs] at h
      have h1 : (zcall Z y as hh).bind (fun q => zrun Z M (pc, lo, q.1.toList ++ st, q.2, ce, sl)) = some r := h
      obtain ⟨q, h2, h3⟩ := Option.bind_eq_some_iff.mp h1
      obtain ⟨n, c1, s1, hn⟩ := (zcall_some Z).mp h2
      obtain ⟨k, hk⟩ := (zrun_some Z).mp h3
      refine ⟨max n k + 1, ?_⟩
      show zthen _ _ (zstep M (zclear M S)) = some r
      rw [hs]
      show Option.bind _ _ = some r
      refine Option.bind_eq_some_iff.mpr ⟨q, Option.map_eq_some_iff.mpr ⟨_, zex_le Z (Nat.le_max_left n k) hn, rfl⟩, zex_le Z (Nat.le_max_right n k) hk⟩
theorem zclr_idem : ∀ (r : List Bool) (lo : List (Option Value)), zclr (zclr lo r) r = zclr lo r
  | [], [] => rfl
  | [], _ :: _ => rfl
  | _ :: _, [] => rfl
  | b :: r, v :: lo => by
    show cond b none (cond b none v) :: zclr (zclr lo r) r = cond b none v :: zclr lo r
    rw [zclr_idem r lo]
    cases b <;> rfl
theorem zclear_idem (M : zMeth) (S : zS) : zclear M (zclear M S) = zclear M S := by
  obtain ⟨pc, lo, st, h, ce, sl⟩ := S
  show (pc, zclr (zclr lo (zdead M pc)) (zdead M pc), st, h, ce, sl) = _
  rw [zclr_idem]
  rfl
theorem zrun_clear (M : zMeth) (S : zS) : zrun Z M (zclear M S) = zrun Z M S := by
  rw [zrun_step, zrun_step Z M S, zclear_idem]
/-- a run's next steps, as far as calls and the places that are named -/
def zstop (M : zMeth) (F G : zS → Option zRes) (stops : List Nat) (S : zS) : Option zRes := match S with
  | (pc, lo, st, h, ce, sl) => cond (stops.any (fun q => Nat.beq pc q)) (F (zclear M (pc, lo, st, h, ce, sl))) (G (pc, lo, st, h, ce, sl))
noncomputable def zgo (M : zMeth) (stops : List Nat) : Nat → zS → Option zRes
  | 0, S => zrun Z M S
  | k + 1, S => match zstep M (zclear M S) with
    | none => none
    | some (g, o) => cond g (match o with
      | .inl (bs, S') => zsw bs (zstop M (zrun Z M) (zgo M stops k) stops) S'
      | .inr (.inl r) => some r
      | .inr (.inr (y, as, (pc, lo, st, h, ce, sl))) => (zcall Z y as h).bind (fun q => zrun Z M (zclear M (pc, lo, q.1.toList ++ st, q.2, ce, sl)))) none
theorem zrun_go (stops : List Nat) (k : Nat) : ∀ (M : zMeth) (S : zS), zrun Z M S = zgo Z M stops k S := by
  induction k with
  | zero => intro M S; rfl
  | succ k ih =>
    intro M S
    rw [zrun_step]
    have hF : zstop M (zrun Z M) (zgo Z M stops k) stops = zrun Z M := by
      funext S
      obtain ⟨pc, lo, st, h, ce, sl⟩ := S
      unfold zstop
      cases hq : stops.any (fun q => Nat.beq pc q)
      · simp only [hq]
        exact (ih M _).symm
      · simp only [hq]
        exact zrun_clear Z M _
    show _ = (match zstep M (zclear M S) with
    | none => none
    | some (g, o) => cond g (match o with
      | .inl (bs, S') => zsw bs (zstop M (zrun Z M) (zgo Z M stops k) stops) S'
      | .inr (.inl r) => some r
      | .inr (.inr (y, as, (pc, lo, st, h, ce, sl))) => (zcall Z y as h).bind (fun q => zrun Z M (zclear M (pc, lo, q.1.toList ++ st, q.2, ce, sl)))) none)
    rw [hF]
    match zstep M (zclear M S) with
    | none => rfl
    | some (g, .inl (bs, S')) => rfl
    | some (g, .inr (.inl r)) => rfl
    | some (g, .inr (.inr (y, as, (pc, lo, st, h, ce, sl)))) =>
      cases g
      · rfl
      · show Option.bind _ _ = Option.bind _ _
        congr 1
        funext q
        exact (zrun_clear Z M _).symm
/-- a call, by its callee's run -/
theorem zcall_run (y : Nat) (as : List Value) (h : zH) : zcall Z y as h = (zrun Z (Z y) (zclear (Z y) (zent (Z y) as h))).map (fun r => (r.1, r.2.1)) := by
  rw [zrun_clear]
  rfl
end ZEX
end
section
/-! THE BIG MACHINE DOES WHAT THE SMALL ONE DOES: what holds between them -/
def zTT (ci : Nat) : u_T := match ci with
  | 0 => TX0 | 1 => TX1 | 2 => TX2 | 3 => TX3 | 4 => TX4 | 5 => TX5 | 6 => TX6 | 7 => TX7 | 8 => TX8 | 9 => TX9 | _ => TX10
def zcn (ci : Nat) : String := match ci with
  | 0 => RX0 | 1 => RX1 | 2 => RX2 | 3 => RX3 | 4 => RX4 | 5 => RX5 | 6 => RX6 | 7 => RX7 | 8 => RX8 | 9 => RX9 | _ => RX10
def ztab (i : Nat) : List Cond := match i with
  | 0 => k2_sels lw_privs_1 | 1 => k2_sels lw_privs_2 | 2 => k2_sels lw_privs_3 | 3 => k2_sels lw_privs_4 | 4 => k2_sels lw_privs_5 | 5 => k2_sels lw_privs_6 | 6 => k2_sels lw_privs_7
  | 7 => tables_1_1 | 8 => tables_1_2 | 9 => tables_1_3 | 10 => tables_1_4 | 11 => tables_1_5 | 12 => tables_1_6 | _ => tables_1_7
def zw (i : Nat) (c : Cond) : Bool := decide (znth (ztab (i / 1000)) (i % 1000) = some c) && goodWord c
theorem znth_mem {α : Type} : ∀ {l : List α} {i : Nat} {a : α}, znth l i = some a → a ∈ l
  | _ :: _, 0, _, h => by cases h; exact List.mem_cons_self
  | _ :: _, _ + 1, _, h => List.mem_cons_of_mem _ (znth_mem (by exact h))
  | [], _, _, h => by cases h
theorem ztab_in (i : Nat) : ∀ c ∈ ztab i, c ∈ lw_tbl := by
  have hT : ∀ j c, c ∈ (match j with | 0 => tables_1_1 | 1 => tables_1_2 | 2 => tables_1_3 | 3 => tables_1_4 | 4 => tables_1_5 | 5 => tables_1_6 | _ => tables_1_7 : List Cond) → c ∈ lw_tbl := by
    intro j c h
    refine List.mem_append_right _ ?_
    show c ∈ tables_1_1 ++ (tables_1_2 ++ (tables_1_3 ++ (tables_1_4 ++ (tables_1_5 ++ (tables_1_6 ++ tables_1_7)))))
    simp only [List.mem_append]
    match j, h with
    | 0, h => exact Or.inl h
    | 1, h => exact Or.inr (Or.inl h)
    | 2, h => exact Or.inr (Or.inr (Or.inl h))
    | 3, h => exact Or.inr (Or.inr (Or.inr (Or.inl h)))
    | 4, h => exact Or.inr (Or.inr (Or.inr (Or.inr (Or.inl h))))
    | 5, h => exact Or.inr (Or.inr (Or.inr (Or.inr (Or.inr (Or.inl h)))))
    | _ + 6, h => exact Or.inr (Or.inr (Or.inr (Or.inr (Or.inr (Or.inr h)))))
  have hS : ∀ j c, c ∈ k2_sels (match j with | 0 => lw_privs_1 | 1 => lw_privs_2 | 2 => lw_privs_3 | 3 => lw_privs_4 | 4 => lw_privs_5 | 5 => lw_privs_6 | _ => lw_privs_7 : List (MethodName × Nat)) → c ∈ lw_tbl := by
    intro j c h
    refine List.mem_append_left _ ?_
    obtain ⟨q, hq, rfl⟩ := List.mem_map.mp h
    refine List.mem_map.mpr ⟨q, ?_, rfl⟩
    show q ∈ lw_privs_1 ++ (lw_privs_2 ++ (lw_privs_3 ++ (lw_privs_4 ++ (lw_privs_5 ++ (lw_privs_6 ++ (lw_privs_7))))))
    simp only [List.mem_append]
    match j, hq with
    | 0, h => exact Or.inl h
    | 1, h => exact Or.inr (Or.inl h)
    | 2, h => exact Or.inr (Or.inr (Or.inl h))
    | 3, h => exact Or.inr (Or.inr (Or.inr (Or.inl h)))
    | 4, h => exact Or.inr (Or.inr (Or.inr (Or.inr (Or.inl h))))
    | 5, h => exact Or.inr (Or.inr (Or.inr (Or.inr (Or.inr (Or.inl h)))))
    | _ + 6, h => exact Or.inr (Or.inr (Or.inr (Or.inr (Or.inr (Or.inr h)))))
  intro c h
  match i, h with
  | 0, h => exact hS 0 c h
  | 1, h => exact hS 1 c h
  | 2, h => exact hS 2 c h
  | 3, h => exact hS 3 c h
  | 4, h => exact hS 4 c h
  | 5, h => exact hS 5 c h
  | 6, h => exact hS 6 c h
  | 7, h => exact hT 0 c h
  | 8, h => exact hT 1 c h
  | 9, h => exact hT 2 c h
  | 10, h => exact hT 3 c h
  | 11, h => exact hT 4 c h
  | 12, h => exact hT 5 c h
  | _ + 13, h => exact hT 6 c h
theorem zw_in {i : Nat} {c : Cond} (h : zw i c = true) : c ∈ zT := by
  simp only [zw, Bool.and_eq_true, decide_eq_true_eq] at h
  exact List.mem_filter.mpr ⟨ztab_in _ _ (znth_mem h.1), h.2⟩
/-- calls of a nest mate's private member -/
def zNe : List (String × Nat × MethodName) := [("DayWords", 12, ⟨"DayWords$Tape", "<init>", "()V"⟩), ("DayWords", 30, ⟨"DayWords$Acts", "<init>", "()V"⟩), ("DayWords", 37, ⟨"DayWords$Desk", "<init>", "()V"⟩), ("DayWords$Finder", 11, ⟨"DayWords$Words", "<init>", "()V"⟩), ("DayWords$Finder", 76, ⟨"DayWords$Row", "<init>", "()V"⟩), ("DayWords$Finder", 81, ⟨"DayWords", "rowStarts", "(I)I"⟩), ("DayWords$Finder", 84, ⟨"DayWords", "rowSize", "(II)I"⟩), ("DayWords$Writer", 63, ⟨"DayWords", "rowStarts", "(I)I"⟩), ("DayWords$Writer", 67, ⟨"DayWords", "rowSize", "(II)I"⟩)]
def ztx : List String := ["desk days first feast train at never daily from to not also mo tu we th fr sa su", " desk days first feast train at never daily from to not also mo tu we th fr sa su "]
def zilen (i : Instr) : Nat := match i with
  | .bipush _ => 2 | .sipush _ => 3 | .ldc _ => 2 | .ldc_w _ => 3 | .ldc2_w _ => 3
  | .iload _ => 2 | .lload _ => 2 | .aload _ => 2 | .istore _ => 2 | .lstore _ => 2 | .astore _ => 2
  | .iinc _ _ => 3 | .goto _ => 3 | .ifCond _ _ => 3 | .if_icmp _ _ => 3 | .ifnull _ => 3
  | .getfield _ => 3 | .putfield _ => 3 | .newarray _ => 2 | .anewarray _ => 3 | .new _ => 3
  | .invokevirtual _ => 3 | .invokespecial _ => 3 | .invokestatic _ => 3
  | _ => 1
def zsw_in (i : Instr) : Bool := match i with
  | .tableswitch _ _ _ _ => true
  | .lookupswitch _ _ => true
  | _ => false
section ZOK
variable (Z : Nat → zMeth)
/-- what holds of a callee, whatever the kind of the call -/
def zokY (M Y : zMeth) (mc ms wc n : Nat) : Bool := zw wc (.code (zy Y) (zb Y) (zml Y) (zret Y)) && decide ((zrm Y).cells = mc) && decide ((zrm Y).slots = ms) && decide ((zrm Y).frames + 1 ≤ (zrm M).frames) && decide (8 + (zml Y + 11) + (zrm Y).locals ≤ (zrm M).locals) && decide ((zy Y).cls ≠ "java/lang/invoke/MethodHandle") && decide ((zy Y).cls ≠ "java/lang/invoke/VarHandle") && decide ((parseMethodDescriptor (zy Y).desc).map (fun d => d.parameters.length) = some n)
def zokr (M : zMeth) (pc : Nat) (ins : Instr) (ns : List Nat) (z : Int) : Bool := match ins with
  | .ldc i => match ns with
    | 0 :: w :: _ => zw w (.constant (zy M).cls i (Int32.ofInt z))
    | 1 :: k :: _ => decide (k < 2) && decide ((zy M).cls = if k = 0 then "DayWords$Lexicon" else "DayWordsModel") && decide (i = if k = 0 then 15 else 98)
    | _ => false
  | .ldc_w i => match ns with
    | _ :: w :: _ => zw w (.constant (zy M).cls i (Int32.ofInt z))
    | _ => false
  | .ldc2_w i => match ns with
    | _ :: w :: _ => zw w (.constantLong (zy M).cls i (Int64.ofInt z))
    | _ => false
  | .goto o => decide (0 ≤ (pc : Int) + o)
  | .ifCond _ o => decide (0 ≤ (pc : Int) + o)
  | .if_icmp _ o => decide (0 ≤ (pc : Int) + o)
  | .ifnull o => decide (0 ≤ (pc : Int) + o)
  | .tableswitch d a b offs => decide (0 ≤ (pc : Int) + d) && decide (a = 0) && decide (b = (offs.size : Int) - 1) && decide (offs.size < 1000) && offs.toList.all (fun o => decide (0 ≤ (pc : Int) + o))
  | .lookupswitch d ps => decide (0 ≤ (pc : Int) + d) && (ps.toList.zip (ps.toList.drop 1)).all (fun (a, next) => a.1 < next.1) && ps.toList.all (fun q => decide (0 ≤ (pc : Int) + q.2) && decide ((Int32.ofInt q.1).toInt = q.1))
  | .getfield i => match ns with
    | ci :: f :: w :: _ => decide (ci < 11) && decide (f < zN ci) && zw w (.fieldLink (zy M).cls i (zTT ci f).1 (zTT ci f).2.1 (zTT ci f).2.2.1)
    | _ => false
  | .putfield i => match ns with
    | ci :: f :: w :: _ => decide (ci < 11) && decide (f < zN ci) && zw w (.fieldLink (zy M).cls i (zTT ci f).1 (zTT ci f).2.1 (zTT ci f).2.2.1) && (!(zTT ci f).2.2.2 || (decide ((zy M).name = "<init>") && decide ((zTT ci f).1 = (zy M).cls)))
    | _ => false
  | .new i => match ns with
    | ci :: w1 :: w2 :: w3 :: _ => zw w1 (.classLink (zy M).cls i (zcn ci)) && zw w2 (.instantiable (zcn ci) (zN ci)) && zw w3 (.initialized (zcn ci))
    | _ => false
  | .newarray a => match ns with
    | w :: _ => zw w (.arrayClass (newarray.typeOf a))
    | _ => false
  | .anewarray i => match ns with
    | w1 :: _ => zw w1 (.classLink (zy M).cls i "DayWords$Row")
    | _ => false
  | .invokevirtual i => match ns with
    | 0 :: y :: n :: mc :: ms :: ci :: w1 :: w2 :: w3 :: w4 :: w5 :: _ => decide (0 < n) && decide (ci < 11) && zokY M (Z y) mc ms w5 (n - 1) && zw w1 (.methodLink (zy M).cls i (zy (Z y))) && zw w2 (.instanceMethod (zy (Z y))) && zw w3 (.selects (zcn ci) (zy (Z y)) (zy (Z y))) && zw w4 (.initialized (zy (Z y)).cls)
    | 5 :: w1 :: _ => zw w1 (.methodLink (zy M).cls i yJ0_length_8abf5) && decide (4 ≤ (zrm M).frames) && decide (85 ≤ (zrm M).locals)
    | 6 :: w1 :: _ => zw w1 (.methodLink (zy M).cls i yJ0_charAt_5068e) && decide (4 ≤ (zrm M).frames) && decide (85 ≤ (zrm M).locals)
    | _ => false
  | .invokestatic i => match ns with
    | 1 :: y :: n :: mc :: ms :: w1 :: w2 :: w3 :: w4 :: nest :: _ => zokY M (Z y) mc ms w4 n && (if nest = 0 then zw w1 (.methodLink (zy M).cls i (zy (Z y))) else decide (zNe[w1]? = some ((zy M).cls, i, zy (Z y)))) && zw w2 (.static (zy (Z y))) && zw w3 (.initialized (zy (Z y)).cls)
    | 4 :: w1 :: w2 :: w3 :: w4 :: _ => zw w1 (.methodLink (zy M).cls i arraycopyName) && zw w2 (.native arraycopyName) && zw w3 (.static arraycopyName) && zw w4 (.initialized "java/lang/System") && decide (1 ≤ (zrm M).frames) && decide (50 ≤ (zrm M).locals)
    | _ => false
  | .invokespecial i => match ns with
    | 2 :: y :: n :: mc :: ms :: w1 :: w2 :: w3 :: w4 :: nest :: _ => decide (0 < n) && zokY M (Z y) mc ms w4 (n - 1) && decide (zret (Z y) = none) && decide ((zy (Z y)).name = "<init>") && (if nest = 0 then zw w1 (.methodLink (zy M).cls i (zy (Z y))) else decide (zNe[w1]? = some ((zy M).cls, i, zy (Z y)))) && zw w2 (.instanceMethod (zy (Z y))) && zw w3 (.initialized (zy (Z y)).cls)
    | 3 :: w1 :: w2 :: w3 :: _ => zw w1 (.methodLink (zy M).cls i objectInit) && zw w2 (.instanceMethod objectInit) && zw w3 (.code objectInit ⟨#[0xb1]⟩ 1 none) && decide (1 ≤ (zrm M).frames)
    | _ => false
  | _ => true
def zok (M : zMeth) (pc : Nat) (en : zEn) : Bool := decide (decode (zb M) pc = .ok (en.1, en.2.1)) && (zsw_in en.1 || Nat.beq en.2.1 (zilen en.1)) && zokr Z M pc en.1 en.2.2.1 en.2.2.2
def zokc (M : zMeth) : Nat → List (Option zPl) → Bool
  | _, [] => true
  | pc, none :: r => zokc M (pc + 1) r
  | pc, some en :: r => zok Z M pc en.1 && zokc M (pc + 1) r
def zokl (M : zMeth) : Nat → List (List (Option zPl)) → Bool
  | _, [] => true
  | pc, c :: r => Nat.ble c.length 16 && zokc Z M pc c && zokl M (pc + 16) r
def zokM (M : zMeth) : Bool := zokl Z M 0 (zcode M) && Nat.blt (zcode M).length 6000 && plainName (zy M).cls
theorem zokc_at (M : zMeth) : ∀ (r : List (Option zPl)) (pc i : Nat) (en : zPl), zokc Z M pc r = true → znth r i = some (some en) → zok Z M (pc + i) en.1 = true
  | [], _, _, _, _, h => by cases h
  | none :: r, pc, 0, en, _, h => by cases h
  | none :: r, pc, i + 1, en, hk, h => by
    have := zokc_at M r (pc + 1) i en hk h
    rwa [show pc + 1 + i = pc + (i + 1) by omega] at this
  | some e0 :: r, pc, 0, en, hk, h => by
    cases h
    simp only [zokc, Bool.and_eq_true] at hk
    exact hk.1
  | some e0 :: r, pc, i + 1, en, hk, h => by
    simp only [zokc, Bool.and_eq_true] at hk
    have := zokc_at M r (pc + 1) i en hk.2 h
    rwa [show pc + 1 + i = pc + (i + 1) by omega] at this
theorem zokl_at (M : zMeth) : ∀ (cs : List (List (Option zPl))) (pc j i : Nat) (r : List (Option zPl)) (en : zPl), zokl Z M pc cs = true → znth cs j = some r → znth r i = some (some en) → zok Z M (pc + 16 * j + i) en.1 = true
  | [], _, _, _, _, _, _, h, _ => by cases h
  | c :: cs, pc, 0, i, r, en, hk, h, h2 => by
    cases h
    simp only [zokl, Bool.and_eq_true] at hk
    exact zokc_at Z M _ pc i en hk.1.2 h2
  | c :: cs, pc, j + 1, i, r, en, hk, h, h2 => by
    simp only [zokl, Bool.and_eq_true] at hk
    have := zokl_at M cs (pc + 16) j i r en hk.2 h h2
    rwa [show pc + 16 + 16 * j + i = pc + 16 * (j + 1) + i by omega] at this
theorem zok_of {M : zMeth} {pc : Nat} {en : zEn} (hk : zokM Z M = true) (h : zfetch M pc = some en) : zok Z M pc en = true := by
  simp only [zokM, Bool.and_eq_true] at hk
  unfold zfetch at h
  cases h1 : znth (zcode M) (pc / 16) with
  | none => rw [h1] at h; cases h
  | some r =>
    rw [h1] at h
    match h2 : znth r (pc % 16) with
    | none => simp only [h2] at h; cases h
    | some none => simp only [h2] at h; cases h
    | some (some q) =>
      simp only [h2] at h
      cases h
      have := zokl_at Z M (zcode M) 0 (pc / 16) (pc % 16) r q hk.1.1 h1 h2
      rwa [show 0 + 16 * (pc / 16) + pc % 16 = pc by omega] at this
theorem zok_dec {M : zMeth} {pc len : Nat} {ins : Instr} {ns : List Nat} {z : Int} (hk : zokM Z M = true) (h : zfetch M pc = some (ins, len, ns, z)) : decode (zb M) pc = .ok (ins, len) ∧ (zsw_in ins = true ∨ len = zilen ins) ∧ zokr Z M pc ins ns z = true := by
  have := zok_of Z hk h
  simp only [zok, Bool.and_eq_true, Bool.or_eq_true, decide_eq_true_eq] at this
  exact ⟨this.1.1, this.1.2.imp id Nat.eq_of_beq_eq_true, this.2⟩
end ZOK
theorem znth_eq {α : Type} : ∀ (l : List α) (i : Nat), znth l i = l[i]?
  | [], i => by simp [znth]
  | a :: l, 0 => by simp [znth]
  | a :: l, i + 1 => by simp [znth, znth_eq l i]
/-- values: references by the map of addresses -/
def zv (ad : Nat → Option Nat) (v w : Value) : Prop := match v with
  | .ref k => ∃ a, ad k = some a ∧ w = .ref a
  | v => w = v
def zo (ad : Nat → Option Nat) (r r' : Option Nat) : Prop := match r with
  | none => r' = none
  | some k => ∃ a, ad k = some a ∧ r' = some a
def zle (ad ad' : Nat → Option Nat) : Prop := ∀ k a, ad k = some a → ad' k = some a
theorem zle.rf {ad : Nat → Option Nat} : zle ad ad := fun _ _ h => h
theorem zle.tr {a b c : Nat → Option Nat} (h : zle a b) (h2 : zle b c) : zle a c := fun k x q => h2 k x (h k x q)
theorem zv.mono {ad ad' : Nat → Option Nat} (hl : zle ad ad') {v w : Value} (h : zv ad v w) : zv ad' v w := by
  cases v with
  | ref k => obtain ⟨a, h1, h2⟩ := h; exact ⟨a, hl _ _ h1, h2⟩
  | _ => exact h
theorem zo.mono {ad ad' : Nat → Option Nat} (hl : zle ad ad') {r r' : Option Nat} (h : zo ad r r') : zo ad' r r' := by
  cases r with
  | some k => obtain ⟨a, h1, h2⟩ := h; exact ⟨a, hl _ _ h1, h2⟩
  | none => exact h
theorem zv_rf {ad : Nat → Option Nat} {r r' : Option Nat} (h : zo ad r r') : zv ad (va_rf r) (va_rf r') := by
  cases r with
  | some k => obtain ⟨a, h1, rfl⟩ := h; exact ⟨a, h1, rfl⟩
  | none => cases h; exact rfl
theorem zv_cat {ad : Nat → Option Nat} {v w : Value} (h : zv ad v w) : w.category = v.category := by
  cases v with
  | ref k => obtain ⟨a, h1, rfl⟩ := h; rfl
  | _ => cases h; rfl
def zF2 (ad : Nat → Option Nat) : List Value → List Value → Prop
  | [], [] => True
  | v :: r, w :: r' => zv ad v w ∧ zF2 ad r r'
  | _, _ => False
theorem zF2.mono {ad ad' : Nat → Option Nat} (hl : zle ad ad') : ∀ {a b : List Value}, zF2 ad a b → zF2 ad' a b
  | [], [], _ => trivial
  | _ :: _, _ :: _, h => ⟨h.1.mono hl, zF2.mono hl h.2⟩
  | [], _ :: _, h => h.elim
  | _ :: _, [], h => h.elim
theorem zF2_cons {ad : Nat → Option Nat} {v : Value} {r c : List Value} (h : zF2 ad (v :: r) c) : ∃ w r', c = w :: r' ∧ zv ad v w ∧ zF2 ad r r' := by
  cases c with
  | nil => exact h.elim
  | cons w r' => exact ⟨w, r', rfl, h.1, h.2⟩
theorem zF2_nil {ad : Nat → Option Nat} {c : List Value} (h : zF2 ad [] c) : c = [] := by
  cases c with
  | nil => rfl
  | cons w r' => exact h.elim
theorem zF2_int {ad : Nat → Option Nat} {x : Int32} {r c : List Value} (h : zF2 ad (.int x :: r) c) : ∃ r', c = .int x :: r' ∧ zF2 ad r r' := by
  obtain ⟨w, r', rfl, h1, h2⟩ := zF2_cons h
  cases h1
  exact ⟨r', rfl, h2⟩
theorem zF2_long {ad : Nat → Option Nat} {x : Int64} {r c : List Value} (h : zF2 ad (.long x :: r) c) : ∃ r', c = .long x :: r' ∧ zF2 ad r r' := by
  obtain ⟨w, r', rfl, h1, h2⟩ := zF2_cons h
  cases h1
  exact ⟨r', rfl, h2⟩
theorem zF2_null {ad : Nat → Option Nat} {r c : List Value} (h : zF2 ad (.null :: r) c) : ∃ r', c = .null :: r' ∧ zF2 ad r r' := by
  obtain ⟨w, r', rfl, h1, h2⟩ := zF2_cons h
  cases h1
  exact ⟨r', rfl, h2⟩
theorem zF2_ref {ad : Nat → Option Nat} {k : Nat} {r c : List Value} (h : zF2 ad (.ref k :: r) c) : ∃ a r', c = .ref a :: r' ∧ ad k = some a ∧ zF2 ad r r' := by
  obtain ⟨w, r', rfl, h1, h2⟩ := zF2_cons h
  obtain ⟨a, h3, rfl⟩ := h1
  exact ⟨a, r', rfl, h3, h2⟩
theorem zF2_app {ad : Nat → Option Nat} : ∀ {a b c d : List Value}, zF2 ad a b → zF2 ad c d → zF2 ad (a ++ c) (b ++ d)
  | [], [], _, _, _, h => h
  | _ :: _, _ :: _, _, _, h1, h => ⟨h1.1, zF2_app h1.2 h⟩
  | [], _ :: _, _, _, h, _ => h.elim
  | _ :: _, [], _, _, h, _ => h.elim
theorem zF2_rev {ad : Nat → Option Nat} : ∀ {a b : List Value}, zF2 ad a b → zF2 ad a.reverse b.reverse
  | [], [], _ => trivial
  | _ :: _, _ :: _, h => by
    rw [List.reverse_cons, List.reverse_cons]
    exact zF2_app (zF2_rev h.2) ⟨h.1, trivial⟩
  | [], _ :: _, h => h.elim
  | _ :: _, [], h => h.elim
theorem zF2_take {ad : Nat → Option Nat} : ∀ (n : Nat) {a b : List Value}, zF2 ad a b → zF2 ad (a.take n) (b.take n) ∧ zF2 ad (a.drop n) (b.drop n)
  | 0, _, _, h => ⟨trivial, h⟩
  | n + 1, [], [], _ => ⟨trivial, trivial⟩
  | n + 1, _ :: _, _ :: _, h => ⟨⟨h.1, (zF2_take n h.2).1⟩, (zF2_take n h.2).2⟩
  | n + 1, [], _ :: _, h => h.elim
  | n + 1, _ :: _, [], h => h.elim
theorem zF2_len {ad : Nat → Option Nat} : ∀ {a b : List Value}, zF2 ad a b → b.length = a.length
  | [], [], _ => rfl
  | _ :: _, _ :: _, h => by simp [zF2_len h.2]
  | [], _ :: _, h => h.elim
  | _ :: _, [], h => h.elim
theorem zF2_cs {ad : Nat → Option Nat} : ∀ {a b : List Value}, zF2 ad a b → (b.map fun v => v.category).sum = zcs a
  | [], [], _ => rfl
  | v :: a, w :: b, h => by
    show (w.category :: b.map fun v => v.category).sum = (v.category :: a.map fun v => v.category).sum
    rw [List.sum_cons, List.sum_cons, zF2_cs h.2, zv_cat h.1]
    rfl
  | [], _ :: _, h => h.elim
  | _ :: _, [], h => h.elim
/-- locals -/
def zLo (ad : Nat → Option Nat) (ls : Array Slot) (nL : Nat) (lo : List (Option Value)) : Prop := ∃ lv : List (Nat × Value), lv_has ls nL lv ∧ ∀ i v, lo[i]? = some (some v) → ∃ w, zv ad v w ∧ (i, w) ∈ lv
theorem zLo.mono {ad ad' : Nat → Option Nat} (hl : zle ad ad') {ls : Array Slot} {nL : Nat} {lo : List (Option Value)} (h : zLo ad ls nL lo) : zLo ad' ls nL lo := by
  obtain ⟨lv, h1, h2⟩ := h
  refine ⟨lv, h1, fun i v hi => ?_⟩
  obtain ⟨w, h3, h4⟩ := h2 i v hi
  exact ⟨w, h3.mono hl, h4⟩
theorem zLo.at {ad : Nat → Option Nat} {ls : Array Slot} {nL : Nat} {lo : List (Option Value)} (h : zLo ad ls nL lo) {i : Nat} {v : Value} (hi : znth lo i = some (some v)) : ∃ w, zv ad v w ∧ ls[i]? = some (.val w) := by
  obtain ⟨lv, h1, h2⟩ := h
  rw [znth_eq] at hi
  obtain ⟨w, h3, h4⟩ := h2 i v hi
  exact ⟨w, h3, h1.2.2 _ h4⟩
theorem zset_at {α : Type} {l : List α} {i j : Nat} {x y : α} (h : (l.set i x)[j]? = some y) : (j = i ∧ y = x) ∨ (j ≠ i ∧ l[j]? = some y) := by
  rw [List.getElem?_set] at h
  by_cases hij : i = j
  · rw [if_pos hij] at h
    by_cases hl : i < l.length
    · rw [if_pos hl] at h
      exact Or.inl ⟨hij.symm, (Option.some.inj h).symm⟩
    · rw [if_neg hl] at h; cases h
  · rw [if_neg hij] at h
    exact Or.inr ⟨fun q => hij q.symm, h⟩
theorem zst1_at {lo : List (Option Value)} {i j : Nat} {v x : Value} (h : (zst1 lo i v)[j]? = some (some x)) : (j = i ∧ x = v) ∨ (j ≠ i ∧ lo[j]? = some (some x) ∧ ¬ (j + 1 = i ∧ x.category = 2)) := by
  cases i with
  | zero =>
    rcases zset_at h with ⟨h1, h2⟩ | ⟨h1, h2⟩
    · exact Or.inl ⟨h1, Option.some.inj h2⟩
    · exact Or.inr ⟨h1, h2, fun q => by omega⟩
  | succ i =>
    have h : (cond (zlong (znth lo i)) ((lo.set i none).set (i + 1) (some v)) (lo.set (i + 1) (some v)))[j]? = some (some x) := h
    cases hz : zlong (znth lo i) with
    | true =>
      rw [hz] at h
      rcases zset_at h with ⟨h1, h2⟩ | ⟨h1, h2⟩
      · exact Or.inl ⟨h1, Option.some.inj h2⟩
      · rcases zset_at h2 with ⟨h3, h4⟩ | ⟨h3, h4⟩
        · cases h4
        · exact Or.inr ⟨h1, h4, fun q => h3 (by omega)⟩
    | false =>
      rw [hz] at h
      rcases zset_at h with ⟨h1, h2⟩ | ⟨h1, h2⟩
      · exact Or.inl ⟨h1, Option.some.inj h2⟩
      · refine Or.inr ⟨h1, h2, fun q => ?_⟩
        obtain ⟨q1, q2⟩ := q
        have hj : j = i := by omega
        subst hj
        rw [znth_eq, h2] at hz
        simp [zlong, q2] at hz
theorem zLo.st1 {ad : Nat → Option Nat} {ls' : Array Slot} {nL i : Nat} {lo : List (Option Value)} {lv : List (Nat × Value)} {v w : Value} (h2 : ∀ i v, lo[i]? = some (some v) → ∃ w, zv ad v w ∧ (i, w) ∈ lv) (hv : zv ad v w) (h : lv_has ls' nL ((i, w) :: lv.filter (fun q => !(q.1 == i) && !(q.1 + 1 == i && q.2.category == 2)))) : zLo ad ls' nL (zst1 lo i v) := by
  refine ⟨_, h, fun j x hj => ?_⟩
  rcases zst1_at hj with ⟨rfl, rfl⟩ | ⟨n1, h3, n2⟩
  · exact ⟨w, hv, List.mem_cons_self⟩
  · obtain ⟨y, h4, h5⟩ := h2 j x h3
    refine ⟨y, h4, List.mem_cons_of_mem _ (List.mem_filter.mpr ⟨h5, ?_⟩)⟩
    have hc := zv_cat h4
    simp only [Bool.and_eq_true, Bool.not_eq_true', beq_eq_false_iff_ne, ne_eq, Bool.and_eq_false_iff]
    refine ⟨n1, ?_⟩
    by_cases q : j + 1 = i
    · exact Or.inr (fun z => n2 ⟨q, by rw [← hc]; exact z⟩)
    · exact Or.inl q
theorem zLo.st2 {ad : Nat → Option Nat} {ls' : Array Slot} {nL i : Nat} {lo : List (Option Value)} {lv : List (Nat × Value)} {v w : Value} (h2 : ∀ i v, lo[i]? = some (some v) → ∃ w, zv ad v w ∧ (i, w) ∈ lv) (hv : zv ad v w) (h : lv_has ls' nL ((i, w) :: lv.filter (fun q => !(q.1 == i) && (!(q.1 == i + 1) && !(q.1 + 1 == i && q.2.category == 2))))) : zLo ad ls' nL (zst2 lo i v) := by
  refine ⟨_, h, fun j x hj => ?_⟩
  rcases zset_at hj with ⟨q1, q2⟩ | ⟨n0, hj⟩
  · cases q2
  · rcases zst1_at hj with ⟨rfl, rfl⟩ | ⟨n1, h3, n2⟩
    · exact ⟨w, hv, List.mem_cons_self⟩
    · obtain ⟨y, h4, h5⟩ := h2 j x h3
      refine ⟨y, h4, List.mem_cons_of_mem _ (List.mem_filter.mpr ⟨h5, ?_⟩)⟩
      have hc := zv_cat h4
      simp only [Bool.and_eq_true, Bool.not_eq_true', beq_eq_false_iff_ne, ne_eq, Bool.and_eq_false_iff]
      refine ⟨n1, n0, ?_⟩
      by_cases q : j + 1 = i
      · exact Or.inr (fun z => n2 ⟨q, by rw [← hc]; exact z⟩)
      · exact Or.inl q
theorem zargs_in {ad : Nat → Option Nat} : ∀ (as cas : List Value) (b : Nat), zF2 ad as cas → (∀ i v, (zargs as)[i]? = some (some v) → ∃ w, zv ad v w ∧ (b + i, w) ∈ lv_args b cas) ∧ (lg_sl cas).length = (zargs as).length
  | [], [], b, _ => ⟨fun i v h => by simp [zargs] at h, rfl⟩
  | v :: as, w :: cas, b, h => by
    obtain ⟨hv, h⟩ := h
    have hc := zv_cat hv
    have one : (∀ x, v ≠ .long x) → (∀ x, v ≠ .double x) → (∀ i x, (zargs (v :: as))[i]? = some (some x) → ∃ w', zv ad x w' ∧ (b + i, w') ∈ lv_args b (w :: cas)) ∧ (lg_sl (w :: cas)).length = (zargs (v :: as)).length := by
      intro n1 n2
      have e1 : zargs (v :: as) = some v :: zargs as := by
        cases v <;> first | rfl | exact absurd rfl (n1 _) | exact absurd rfl (n2 _)
      have e2 : w.category = 1 := by
        rw [hc]
        cases v <;> first | rfl | exact absurd rfl (n1 _) | exact absurd rfl (n2 _)
      obtain ⟨g1, g2⟩ := zargs_in as cas (b + 1) h
      have e3 : lv_args b (w :: cas) = (b, w) :: lv_args (b + 1) cas := by simp [lv_args, e2]
      rw [e1, e3]
      refine ⟨fun i x hi => ?_, ?_⟩
      · cases i with
        | zero =>
          simp at hi
          subst hi
          exact ⟨w, hv, List.mem_cons_self⟩
        | succ i =>
          simp at hi
          obtain ⟨y, h1, h2⟩ := g1 i x hi
          exact ⟨y, h1, List.mem_cons_of_mem _ (by rw [show b + (i + 1) = b + 1 + i by omega]; exact h2)⟩
      · have : lg_sl (w :: cas) = .val w :: lg_sl cas := by simp [lg_sl, e2]
        rw [this]
        simp [g2]
    cases v with
    | long x =>
      cases hv
      obtain ⟨g1, g2⟩ := zargs_in as cas (b + 2) h
      have e3 : lv_args b (.long x :: cas) = (b, .long x) :: lv_args (b + 2) cas := by simp [lv_args, Value.category]
      have e1 : zargs (.long x :: as) = some (.long x) :: none :: zargs as := rfl
      rw [e1, e3]
      refine ⟨fun i y hi => ?_, ?_⟩
      · match i, hi with
        | 0, hi =>
          simp at hi
          subst hi
          exact ⟨.long x, rfl, List.mem_cons_self⟩
        | 1, hi => simp at hi
        | i + 2, hi =>
          simp at hi
          obtain ⟨z, h1, h2⟩ := g1 i y hi
          exact ⟨z, h1, List.mem_cons_of_mem _ (by rw [show b + (i + 2) = b + 2 + i by omega]; exact h2)⟩
      · have : lg_sl (.long x :: cas) = .val (.long x) :: .second :: lg_sl cas := by simp [lg_sl, Value.category]
        rw [this]
        simp [g2]
    | double x =>
      cases hv
      obtain ⟨g1, g2⟩ := zargs_in as cas (b + 2) h
      have e3 : lv_args b (.double x :: cas) = (b, .double x) :: lv_args (b + 2) cas := by simp [lv_args, Value.category]
      have e1 : zargs (.double x :: as) = some (.double x) :: none :: zargs as := rfl
      rw [e1, e3]
      refine ⟨fun i y hi => ?_, ?_⟩
      · match i, hi with
        | 0, hi =>
          simp at hi
          subst hi
          exact ⟨.double x, rfl, List.mem_cons_self⟩
        | 1, hi => simp at hi
        | i + 2, hi =>
          simp at hi
          obtain ⟨z, h1, h2⟩ := g1 i y hi
          exact ⟨z, h1, List.mem_cons_of_mem _ (by rw [show b + (i + 2) = b + 2 + i by omega]; exact h2)⟩
      · have : lg_sl (.double x :: cas) = .val (.double x) :: .second :: lg_sl cas := by simp [lg_sl, Value.category]
        rw [this]
        simp [g2]
    | int x => exact one (fun _ q => by cases q) (fun _ q => by cases q)
    | float x => exact one (fun _ q => by cases q) (fun _ q => by cases q)
    | null => exact one (fun _ q => by cases q) (fun _ q => by cases q)
    | ref x => exact one (fun _ q => by cases q) (fun _ q => by cases q)
    | retAddr x => exact one (fun _ q => by cases q) (fun _ q => by cases q)
  | [], _ :: _, _, h => h.elim
  | _ :: _, [], _, h => h.elim
theorem zLo_entry {ad : Nat → Option Nat} {as cas : List Value} {n : Nat} (h : zF2 ad as cas) (hn : (zargs as).length ≤ n) : zLo ad ((lg_sl cas ++ List.replicate (n - (lg_sl cas).length) Slot.unset).toArray) n (zpad (zargs as) n) := by
  obtain ⟨h1, h2⟩ := zargs_in as cas 0 h
  refine ⟨lv_args 0 cas, lv_entry cas (by rw [h2]; exact hn), fun i v hi => ?_⟩
  unfold zpad at hi
  by_cases hl : i < (zargs as).length
  · rw [List.getElem?_append_left hl] at hi
    obtain ⟨w, h3, h4⟩ := h1 i v hi
    rw [Nat.zero_add] at h4
    exact ⟨w, h3, h4⟩
  · rw [List.getElem?_append_right (by omega), List.getElem?_replicate] at hi
    split at hi
    · cases hi
    · cases hi
end
section
abbrev nX0_init : Nat := 0
abbrev nX0_note : Nat := 1
abbrev nX0_backTo : Nat := 2
abbrev nX1_init : Nat := 3
abbrev nX1_clear : Nat := 4
abbrev nX1_openPeriod : Nat := 5
abbrev nX1_weekdayOf : Nat := 6
abbrev nX1_allDays : Nat := 7
abbrev nX1_feastNamed : Nat := 8
abbrev nX1_areMates : Nat := 9
abbrev nX1_leader : Nat := 10
abbrev nX1_jointDays : Nat := 11
abbrev nX1_trainsOn : Nat := 12
abbrev nX2_init : Nat := 13
abbrev nX2_tokensOf : Nat := 14
abbrev nX2_work : Nat := 15
abbrev nX2_fewest : Nat := 16
abbrev nX2_find : Nat := 17
abbrev nX2_absentWeekdays : Nat := 18
abbrev nX2_search : Nat := 19
abbrev nX2_feastsInside : Nat := 20
abbrev nX2_prepare : Nat := 21
abbrev nX2_feastsAsDays : Nat := 22
abbrev nX2_compare : Nat := 23
abbrev nX2_fill : Nat := 24
abbrev nX2_tokensOfDay : Nat := 25
abbrev nX2_stateBehindDay : Nat := 26
abbrev nX2_tokensOfBounds : Nat := 27
abbrev nX2_offerSpans : Nat := 28
abbrev nX2_offerPatterns : Nat := 29
abbrev nX2_offer : Nat := 30
abbrev nX2_trace : Nat := 31
abbrev nX2_traceSpan : Nat := 32
abbrev nX3_init : Nat := 33
abbrev nX3_kindOf : Nat := 34
abbrev nX4_init : Nat := 35
abbrev nX4_readDesk : Nat := 36
abbrev nX4_readAlone : Nat := 37
abbrev nX4_scan : Nat := 38
abbrev nX4_kindOfSign : Nat := 39
abbrev nX4_openToken : Nat := 40
abbrev nX4_widenToken : Nat := 41
abbrev nX4_fail : Nat := 42
abbrev nX4_step : Nat := 43
abbrev nX4_take : Nat := 44
abbrev nX4_seeNumber : Nat := 45
abbrev nX4_isWeekday : Nat := 46
abbrev nX4_readLine : Nat := 47
abbrev nX4_readHead : Nat := 48
abbrev nX4_readFeast : Nat := 49
abbrev nX4_readFeastDays : Nat := 50
abbrev nX4_readTrain : Nat := 51
abbrev nX4_readWording : Nat := 52
abbrev nX4_readSpans : Nat := 53
abbrev nX4_readPattern : Nat := 54
abbrev nX4_readBounds : Nat := 55
abbrev nX4_readExceptions : Nat := 56
abbrev nX4_readEntries : Nat := 57
abbrev nX5_init : Nat := 58
abbrev nX6_init : Nat := 59
abbrev nX6_add : Nat := 60
abbrev nX7_init : Nat := 61
abbrev nX7_clear : Nat := 62
abbrev nX7_addSpan : Nat := 63
abbrev nX8_init : Nat := 64
abbrev nX8_write : Nat := 65
abbrev nX8_writePattern : Nat := 66
abbrev nX8_writeEntries : Nat := 67
abbrev nX8_putWord : Nat := 68
abbrev nX8_putNumber : Nat := 69
abbrev nX8_putBlank : Nat := 70
abbrev nX8_putSign : Nat := 71
abbrev nX9_init : Nat := 72
abbrev nX9_feed : Nat := 73
abbrev nX9_end : Nat := 74
abbrev nX9_desk : Nat := 75
abbrev nX9_fault : Nat := 76
abbrev nX9_count : Nat := 77
abbrev nX9_weekday : Nat := 78
abbrev nX9_feast : Nat := 79
abbrev nX9_train : Nat := 80
abbrev nX9_days : Nat := 81
abbrev nX9_runs : Nat := 82
abbrev nX9_many : Nat := 83
abbrev nX9_votes : Nat := 84
abbrev nX9_vote : Nat := 85
abbrev nX9_strays : Nat := 86
abbrev nX9_next : Nat := 87
abbrev nX9_rest : Nat := 88
abbrev nX9_words : Nat := 89
abbrev nX9_length : Nat := 90
abbrev nX9_sign : Nat := 91
abbrev nX9_ways : Nat := 92
abbrev nX9_spans : Nat := 93
abbrev nX9_span : Nat := 94
abbrev nX9_nots : Nat := 95
abbrev nX9_alsos : Nat := 96
abbrev nX9_within : Nat := 97
abbrev nX9_plain : Nat := 98
abbrev nX9_other : Nat := 99
abbrev nX9_shift : Nat := 100
abbrev nX9_least : Nat := 101
abbrev nX9_tells : Nat := 102
abbrev nX9_told : Nat := 103
abbrev nX9_worse : Nat := 104
abbrev nX9_shares : Nat := 105
abbrev nX9_same : Nat := 106
abbrev nX9_join : Nat := 107
abbrev nX9_joint : Nat := 108
abbrev nX9_twice : Nat := 109
abbrev nX9_saved : Nat := 110
abbrev nX9_crowd : Nat := 111
abbrev nX9_full : Nat := 112
abbrev nX9_flips : Nat := 113
abbrev nX9_sets : Nat := 114
abbrev nX9_merges : Nat := 115
abbrev nX9_undo : Nat := 116
abbrev nX9_anew : Nat := 117
abbrev nX9_isTrain : Nat := 118
abbrev nX9_isDay : Nat := 119
abbrev nX9_votedWeekdays : Nat := 120
abbrev nX9_rowStarts : Nat := 121
abbrev nX9_rowSize : Nat := 122
abbrev nX10_in : Nat := 123
abbrev nX10_has : Nat := 124
abbrev nX10_bitsOf : Nat := 125
abbrev nX10_flag : Nat := 126
abbrev nX10_init : Nat := 127
abbrev nX10_feed : Nat := 128
abbrev nX10_end : Nat := 129
abbrev nX10_isAt : Nat := 130
abbrev nX10_next : Nat := 131
abbrev nX10_wordHere : Nat := 132
abbrev nX10_feastHere : Nat := 133
abbrev nX10_faults : Nat := 134
abbrev nX10_needs : Nat := 135
abbrev nX10_isSign : Nat := 136
abbrev nX10_reads : Nat := 137
abbrev nX10_isWeekday : Nat := 138
abbrev nX10_readsWeekday : Nat := 139
abbrev nX10_readsDesk : Nat := 140
abbrev nX10_readsDay : Nat := 141
abbrev nX10_readsFeast : Nat := 142
abbrev nX10_readsTrain : Nat := 143
abbrev nX10_readsWording : Nat := 144
abbrev nX10_readsSpans : Nat := 145
abbrev nX10_readsPattern : Nat := 146
abbrev nX10_readsBehind : Nat := 147
abbrev nX10_readsEntries : Nat := 148
abbrev nX10_begins : Nat := 149
abbrev nX10_desk : Nat := 150
abbrev nX10_fault : Nat := 151
abbrev nX10_count : Nat := 152
abbrev nX10_weekdayOf : Nat := 153
abbrev nX10_isDay : Nat := 154
abbrev nX10_isTrain : Nat := 155
abbrev nX10_runsOf : Nat := 156
abbrev nX10_whole : Nat := 157
abbrev nX10_weekday : Nat := 158
abbrev nX10_feast : Nat := 159
abbrev nX10_train : Nat := 160
abbrev nX10_days : Nat := 161
abbrev nX10_runs : Nat := 162
abbrev nX10_many : Nat := 163
abbrev nX10_daysOf : Nat := 164
abbrev nX10_votes : Nat := 165
abbrev nX10_voteOf : Nat := 166
abbrev nX10_vote : Nat := 167
abbrev nX10_strays : Nat := 168
abbrev nX10_next_ : Nat := 169
abbrev nX10_rest : Nat := 170
abbrev nX10_feastDays : Nat := 171
abbrev nX10_patternCost : Nat := 172
abbrev nX10_modeCost : Nat := 173
abbrev nX10_bareCost : Nat := 174
abbrev nX10_spanCost : Nat := 175
abbrev nX10_endsCost : Nat := 176
abbrev nX10_goesOn : Nat := 177
abbrev nX10_place : Nat := 178
abbrev nX10_weighs : Nat := 179
abbrev nX10_begins_ : Nat := 180
abbrev nX10_canStand : Nat := 181
abbrev nX10_solves : Nat := 182
abbrev nX10_withinOf : Nat := 183
abbrev nX10_weighsWithin : Nat := 184
abbrev nX10_chooses : Nat := 185
abbrev nX10_goesBare : Nat := 186
abbrev nX10_costOf : Nat := 187
abbrev nX10_begun : Nat := 188
abbrev nX10_takes : Nat := 189
abbrev nX10_rests : Nat := 190
abbrev nX10_words : Nat := 191
abbrev nX10_ways : Nat := 192
abbrev nX10_sign : Nat := 193
abbrev nX10_blank : Nat := 194
abbrev nX10_says : Nat := 195
abbrev nX10_saysNumber : Nat := 196
abbrev nX10_saysPattern : Nat := 197
abbrev nX10_saysEntries : Nat := 198
abbrev nX10_writes : Nat := 199
abbrev nX10_length : Nat := 200
abbrev nX10_sign_ : Nat := 201
abbrev nX10_spans : Nat := 202
abbrev nX10_span : Nat := 203
abbrev nX10_nots : Nat := 204
abbrev nX10_alsos : Nat := 205
abbrev nX10_within : Nat := 206
abbrev nX10_plain : Nat := 207
abbrev nX10_other : Nat := 208
abbrev nX10_shift : Nat := 209
abbrev nX10_least : Nat := 210
abbrev nX10_readsAlone : Nat := 211
abbrev nX10_tells : Nat := 212
abbrev nX10_told : Nat := 213
abbrev nX10_worse : Nat := 214
abbrev nX10_shares : Nat := 215
abbrev nX10_same : Nat := 216
abbrev nX10_isJoined : Nat := 217
abbrev nX10_joinOf : Nat := 218
abbrev nX10_jointOf : Nat := 219
abbrev nX10_join : Nat := 220
abbrev nX10_joint : Nat := 221
abbrev nX10_twice : Nat := 222
abbrev nX10_saved : Nat := 223
abbrev nX10_crowdOf : Nat := 224
abbrev nX10_crowd : Nat := 225
abbrev nX10_full : Nat := 226
abbrev nX10_keeps : Nat := 227
abbrev nX10_goesBack : Nat := 228
abbrev nX10_flips : Nat := 229
abbrev nX10_sets : Nat := 230
abbrev nX10_merges : Nat := 231
abbrev nX10_undo : Nat := 232
abbrev nX10_anew : Nat := 233
abbrev nJ6_numberOfTrailingZeros_0f7a4 : Nat := 234
abbrev nJ6_bitCount_0f7a4 : Nat := 235
abbrev nJ9_max_7cf53 : Nat := 236
abbrev nJ9_min_7cf53 : Nat := 237
abbrev nJ9_min_f86c9 : Nat := 238
abbrev nL_law : Nat := 239
def kX0_init : zMeth := (yX0_init, cX0_init, 1, none, { frames := 1, cells := 1, slots := 120, locals := 20 }, [
  [some ((.aload_n 0, 1, [], 0), []), some ((.invokespecial 3, 3, [3, 7167, 7025, 7026], 0), []), none, none, some ((.aload_n 0, 1, [], 0), []), some ((.bipush 120, 2, [], 0), []), none, some ((.newarray .int, 2, [7161], 0), []), none, some ((.putfield 9, 3, [0, 0, 7168], 0), []), none, none, some ((.aload_n 0, 1, [], 0), []), some ((.iconst 0, 1, [], 0), []), some ((.putfield 15, 3, [0, 1, 7169], 0), []), none],
  [none, some ((.return_, 1, [], 0), [])]])
def kX0_note : zMeth := (yX0_note, cX0_note, 2, none, { frames := 1, cells := 0, slots := 0, locals := 50 }, [
  [some ((.aload_n 0, 1, [], 0), []), some ((.getfield 15, 3, [0, 1, 7169], 0), []), none, none, some ((.bipush 20, 2, [], 0), []), none, some ((.if_icmp .ge 34, 3, [], 0), []), none, none, some ((.aload_n 1, 1, [], 0), []), some ((.getfield 19, 3, [1, 5, 7200], 0), []), none, none, some ((.iconst 0, 1, [], 0), []), some ((.aload_n 0, 1, [], 0), []), some ((.getfield 9, 3, [0, 0, 7168], 0), [])],
  [none, none, some ((.aload_n 0, 1, [], 0), []), some ((.getfield 15, 3, [0, 1, 7169], 0), []), none, none, some ((.bipush 6, 2, [], 0), []), none, some ((.imul, 1, [], 0), []), some ((.bipush 6, 2, [], 0), []), none, some ((.invokestatic 24, 3, [4, 10188, 10190, 10189, 7018], 0), []), none, none, some ((.aload_n 0, 1, [], 0), []), some ((.dup, 1, [], 0), [])],
  [some ((.getfield 15, 3, [0, 1, 7169], 0), []), none, none, some ((.iconst 1, 1, [], 0), []), some ((.iadd, 1, [], 0), []), some ((.putfield 15, 3, [0, 1, 7169], 0), []), none, none, some ((.return_, 1, [], 0), [true, true])]])
def kX0_backTo : zMeth := (yX0_backTo, cX0_backTo, 3, none, { frames := 1, cells := 0, slots := 0, locals := 50 }, [
  [some ((.iload_n 1, 1, [], 0), []), some ((.ifCond .lt 34, 3, [], 0), []), none, none, some ((.iload_n 1, 1, [], 0), []), some ((.aload_n 0, 1, [], 0), []), some ((.getfield 15, 3, [0, 1, 7169], 0), []), none, none, some ((.if_icmp .ge 26, 3, [], 0), []), none, none, some ((.aload_n 0, 1, [], 0), []), some ((.getfield 9, 3, [0, 0, 7168], 0), []), none, none],
  [some ((.iload_n 1, 1, [], 0), []), some ((.bipush 6, 2, [], 0), []), none, some ((.imul, 1, [], 0), []), some ((.aload_n 2, 1, [], 0), []), some ((.getfield 19, 3, [1, 5, 7200], 0), []), none, none, some ((.iconst 0, 1, [], 0), []), some ((.bipush 6, 2, [], 0), []), none, some ((.invokestatic 24, 3, [4, 10188, 10190, 10189, 7018], 0), []), none, none, some ((.aload_n 0, 1, [], 0), []), some ((.iload_n 1, 1, [], 0), [])],
  [some ((.putfield 15, 3, [0, 1, 7169], 0), []), none, none, some ((.return_, 1, [], 0), [true, true, true])]])
def kX1_init : zMeth := (yX1_init, cX1_init, 1, none, { frames := 1, cells := 6, slots := 150, locals := 20 }, [
  [some ((.aload_n 0, 1, [], 0), []), some ((.invokespecial 3, 3, [3, 7181, 7025, 7026], 0), []), none, none, some ((.aload_n 0, 1, [], 0), []), some ((.sipush 128, 3, [], 0), []), none, none, some ((.newarray .int, 2, [7161], 0), []), none, some ((.putfield 9, 3, [1, 0, 7182], 0), []), none, none, some ((.aload_n 0, 1, [], 0), []), some ((.iconst 2, 1, [], 0), []), some ((.newarray .long, 2, [7087], 0), [])],
  [none, some ((.putfield 15, 3, [1, 1, 7186], 0), []), none, none, some ((.aload_n 0, 1, [], 0), []), some ((.iconst 2, 1, [], 0), []), some ((.newarray .int, 2, [7161], 0), []), none, some ((.putfield 19, 3, [1, 2, 7189], 0), []), none, none, some ((.aload_n 0, 1, [], 0), []), some ((.bipush 6, 2, [], 0), []), none, some ((.newarray .int, 2, [7161], 0), []), none],
  [some ((.putfield 22, 3, [1, 3, 7193], 0), []), none, none, some ((.aload_n 0, 1, [], 0), []), some ((.bipush 6, 2, [], 0), []), none, some ((.newarray .int, 2, [7161], 0), []), none, some ((.putfield 25, 3, [1, 4, 7196], 0), []), none, none, some ((.aload_n 0, 1, [], 0), []), some ((.bipush 6, 2, [], 0), []), none, some ((.newarray .int, 2, [7161], 0), []), none],
  [some ((.putfield 28, 3, [1, 5, 7199], 0), []), none, none, some ((.aload_n 0, 1, [], 0), []), some ((.iconst 0, 1, [], 0), []), some ((.putfield 31, 3, [1, 6, 7203], 0), []), none, none, some ((.aload_n 0, 1, [], 0), []), some ((.iconst 0, 1, [], 0), []), some ((.putfield 35, 3, [1, 7, 7208], 0), []), none, none, some ((.aload_n 0, 1, [], 0), []), some ((.iconst 0, 1, [], 0), []), some ((.putfield 38, 3, [1, 8, 7210], 0), [])],
  [none, none, some ((.aload_n 0, 1, [], 0), []), some ((.iconst 0, 1, [], 0), []), some ((.putfield 41, 3, [1, 9, 7215], 0), []), none, none, some ((.aload_n 0, 1, [], 0), []), some ((.iconst 0, 1, [], 0), []), some ((.putfield 44, 3, [1, 10, 7218], 0), []), none, none, some ((.return_, 1, [], 0), [])]])
def kX1_clear : zMeth := (yX1_clear, cX1_clear, 1, none, { frames := 0, cells := 0, slots := 0, locals := 0 }, [
  [some ((.aload_n 0, 1, [], 0), []), some ((.iconst 0, 1, [], 0), []), some ((.putfield 31, 3, [1, 6, 7203], 0), []), none, none, some ((.aload_n 0, 1, [], 0), []), some ((.iconst 0, 1, [], 0), []), some ((.putfield 35, 3, [1, 7, 7208], 0), []), none, none, some ((.aload_n 0, 1, [], 0), []), some ((.iconst 0, 1, [], 0), []), some ((.putfield 38, 3, [1, 8, 7210], 0), []), none, none, some ((.aload_n 0, 1, [], 0), [])],
  [some ((.iconst 0, 1, [], 0), []), some ((.putfield 41, 3, [1, 9, 7215], 0), []), none, none, some ((.aload_n 0, 1, [], 0), []), some ((.iconst 0, 1, [], 0), []), some ((.putfield 44, 3, [1, 10, 7218], 0), []), none, none, some ((.return_, 1, [], 0), [])]])
def kX1_openPeriod : zMeth := (yX1_openPeriod, cX1_openPeriod, 7, none, { frames := 1, cells := 0, slots := 0, locals := 21 }, [
  [some ((.aload_n 0, 1, [], 0), []), some ((.iload_n 1, 1, [], 0), []), some ((.putfield 31, 3, [1, 6, 7203], 0), []), none, none, some ((.aload_n 0, 1, [], 0), []), some ((.iload_n 2, 1, [], 0), []), some ((.putfield 35, 3, [1, 7, 7208], 0), []), none, none, some ((.iconst 1, 1, [], 0), []), some ((.istore_n 3, 1, [], 0), []), some ((.iload_n 3, 1, [], 0), [false, true, true, false, true, true, true]), some ((.sipush 128, 3, [], 0), []), none, none],
  [some ((.if_icmp .ge 74, 3, [], 0), []), none, none, some ((.iload_n 3, 1, [], 0), []), some ((.invokestatic 47, 3, [1, 234, 1, 0, 0, 9064, 8128, 7015, 8129, 0], 0), []), none, none, some ((.istore 4, 2, [], 0), [false, true, true, false, true, true, true]), none, some ((.aload_n 0, 1, [], 0), []), some ((.getfield 9, 3, [1, 0, 7182], 0), []), none, none, some ((.iload_n 3, 1, [], 0), []), some ((.iload_n 3, 1, [], 0), []), some ((.iconst 1, 1, [], 0), [])],
  [some ((.isub, 1, [], 0), []), some ((.iand, 1, [], 0), []), some ((.iaload, 1, [], 0), []), some ((.istore 5, 2, [], 0), []), none, some ((.iload 4, 2, [], 0), []), none, some ((.bipush 7, 2, [], 0), []), none, some ((.iadd, 1, [], 0), []), some ((.aload_n 0, 1, [], 0), []), some ((.getfield 35, 3, [1, 7, 7208], 0), []), none, none, some ((.isub, 1, [], 0), []), some ((.bipush 7, 2, [], 0), [])],
  [none, some ((.irem, 1, [], 0), []), some ((.istore 6, 2, [], 0), []), none, some ((.iload 6, 2, [], 0), [false, true, true, false, true]), none, some ((.aload_n 0, 1, [], 0), []), some ((.getfield 31, 3, [1, 6, 7203], 0), []), none, none, some ((.if_icmp .ge 18, 3, [], 0), []), none, none, some ((.iload 5, 2, [], 0), []), none, some ((.iconst 1, 1, [], 0), [])],
  [some ((.iload 6, 2, [], 0), []), none, some ((.ishl, 1, [], 0), []), some ((.ior, 1, [], 0), []), some ((.istore 5, 2, [], 0), []), none, some ((.iinc 6 7, 3, [], 0), []), none, none, some ((.goto (-21), 3, [], 0), []), none, none, some ((.aload_n 0, 1, [], 0), []), some ((.getfield 9, 3, [1, 0, 7182], 0), []), none, none],
  [some ((.iload_n 3, 1, [], 0), []), some ((.iload 5, 2, [], 0), []), none, some ((.iastore, 1, [], 0), []), some ((.iinc 3 1, 3, [], 0), []), none, none, some ((.goto (-75), 3, [], 0), []), none, none, some ((.return_, 1, [], 0), [])]])
def kX1_weekdayOf : zMeth := (yX1_weekdayOf, cX1_weekdayOf, 2, (some .int), { frames := 0, cells := 0, slots := 0, locals := 0 }, [
  [some ((.aload_n 0, 1, [], 0), []), some ((.getfield 35, 3, [1, 7, 7208], 0), []), none, none, some ((.iload_n 1, 1, [], 0), []), some ((.iadd, 1, [], 0), []), some ((.bipush 7, 2, [], 0), []), none, some ((.irem, 1, [], 0), []), some ((.ireturn, 1, [], 0), [])]])
def kX1_allDays : zMeth := (yX1_allDays, cX1_allDays, 1, (some .int), { frames := 0, cells := 0, slots := 0, locals := 0 }, [
  [some ((.iconst 1, 1, [], 0), []), some ((.aload_n 0, 1, [], 0), []), some ((.getfield 31, 3, [1, 6, 7203], 0), []), none, none, some ((.ishl, 1, [], 0), []), some ((.iconst 1, 1, [], 0), []), some ((.isub, 1, [], 0), []), some ((.ireturn, 1, [], 0), [])]])
def kX1_feastNamed : zMeth := (yX1_feastNamed, cX1_feastNamed, 4, (some .int), { frames := 0, cells := 0, slots := 0, locals := 0 }, [
  [some ((.iconst 0, 1, [], 0), []), some ((.istore_n 3, 1, [], 0), []), some ((.iload_n 3, 1, [], 0), []), some ((.aload_n 0, 1, [], 0), []), some ((.getfield 38, 3, [1, 8, 7210], 0), []), none, none, some ((.if_icmp .ge 22, 3, [], 0), []), none, none, some ((.aload_n 0, 1, [], 0), []), some ((.getfield 15, 3, [1, 1, 7186], 0), []), none, none, some ((.iload_n 3, 1, [], 0), []), some ((.laload, 1, [], 0), [])],
  [some ((.lload_n 1, 1, [], 0), []), some ((.lcmp, 1, [], 0), []), some ((.ifCond .ne 5, 3, [], 0), []), none, none, some ((.iload_n 3, 1, [], 0), []), some ((.ireturn, 1, [], 0), []), some ((.iinc 3 1, 3, [], 0), []), none, none, some ((.goto (-24), 3, [], 0), []), none, none, some ((.iconst (-1), 1, [], 0), []), some ((.ireturn, 1, [], 0), [])]])
def kX1_areMates : zMeth := (yX1_areMates, cX1_areMates, 3, (some .boolean), { frames := 0, cells := 0, slots := 0, locals := 0 }, [
  [some ((.aload_n 0, 1, [], 0), []), some ((.getfield 22, 3, [1, 3, 7193], 0), []), none, none, some ((.iload_n 1, 1, [], 0), []), some ((.iaload, 1, [], 0), []), some ((.aload_n 0, 1, [], 0), []), some ((.getfield 22, 3, [1, 3, 7193], 0), []), none, none, some ((.iload_n 2, 1, [], 0), []), some ((.iaload, 1, [], 0), []), some ((.if_icmp .ne 22, 3, [], 0), []), none, none, some ((.aload_n 0, 1, [], 0), [])],
  [some ((.getfield 25, 3, [1, 4, 7196], 0), []), none, none, some ((.iload_n 1, 1, [], 0), []), some ((.iaload, 1, [], 0), []), some ((.aload_n 0, 1, [], 0), []), some ((.getfield 25, 3, [1, 4, 7196], 0), []), none, none, some ((.iload_n 2, 1, [], 0), []), some ((.iaload, 1, [], 0), []), some ((.if_icmp .ne 7, 3, [], 0), []), none, none, some ((.iconst 1, 1, [], 0), []), some ((.goto 4, 3, [], 0), [])],
  [none, none, some ((.iconst 0, 1, [], 0), [true, true, true]), some ((.ireturn, 1, [], 0), [true, true, true])]])
def kX1_leader : zMeth := (yX1_leader, cX1_leader, 3, (some .int), { frames := 1, cells := 0, slots := 0, locals := 22 }, [
  [some ((.iconst 0, 1, [], 0), []), some ((.istore_n 2, 1, [], 0), []), some ((.iload_n 2, 1, [], 0), []), some ((.iload_n 1, 1, [], 0), []), some ((.if_icmp .ge 20, 3, [], 0), []), none, none, some ((.aload_n 0, 1, [], 0), []), some ((.iload_n 1, 1, [], 0), []), some ((.iload_n 2, 1, [], 0), []), some ((.invokevirtual 53, 3, [0, 9, 3, 0, 0, 1, 10147, 10148, 10149, 7010, 10150], 0), []), none, none, some ((.ifCond .eq 5, 3, [], 0), []), none, none],
  [some ((.iload_n 2, 1, [], 0), []), some ((.ireturn, 1, [], 0), []), some ((.iinc 2 1, 3, [], 0), []), none, none, some ((.goto (-19), 3, [], 0), []), none, none, some ((.iload_n 1, 1, [], 0), []), some ((.ireturn, 1, [], 0), [])]])
def kX1_jointDays : zMeth := (yX1_jointDays, cX1_jointDays, 4, (some .int), { frames := 1, cells := 0, slots := 0, locals := 22 }, [
  [some ((.iconst 0, 1, [], 0), []), some ((.istore_n 2, 1, [], 0), []), some ((.iconst 0, 1, [], 0), []), some ((.istore_n 3, 1, [], 0), []), some ((.iload_n 3, 1, [], 0), []), some ((.aload_n 0, 1, [], 0), []), some ((.getfield 41, 3, [1, 9, 7215], 0), []), none, none, some ((.if_icmp .ge 27, 3, [], 0), []), none, none, some ((.aload_n 0, 1, [], 0), []), some ((.iload_n 1, 1, [], 0), []), some ((.iload_n 3, 1, [], 0), []), some ((.invokevirtual 53, 3, [0, 9, 3, 0, 0, 1, 10147, 10148, 10149, 7010, 10150], 0), [])],
  [none, none, some ((.ifCond .eq 12, 3, [], 0), []), none, none, some ((.iload_n 2, 1, [], 0), []), some ((.aload_n 0, 1, [], 0), []), some ((.getfield 28, 3, [1, 5, 7199], 0), []), none, none, some ((.iload_n 3, 1, [], 0), []), some ((.iaload, 1, [], 0), []), some ((.ior, 1, [], 0), []), some ((.istore_n 2, 1, [], 0), []), some ((.iinc 3 1, 3, [], 0), []), none],
  [none, some ((.goto (-29), 3, [], 0), []), none, none, some ((.iload_n 2, 1, [], 0), []), some ((.ireturn, 1, [], 0), [])]])
def kX1_trainsOn : zMeth := (yX1_trainsOn, cX1_trainsOn, 4, (some .int), { frames := 0, cells := 0, slots := 0, locals := 0 }, [
  [some ((.iconst 0, 1, [], 0), []), some ((.istore_n 2, 1, [], 0), []), some ((.iconst 0, 1, [], 0), []), some ((.istore_n 3, 1, [], 0), []), some ((.iload_n 3, 1, [], 0), []), some ((.aload_n 0, 1, [], 0), []), some ((.getfield 41, 3, [1, 9, 7215], 0), []), none, none, some ((.if_icmp .ge 24, 3, [], 0), []), none, none, some ((.iload_n 2, 1, [], 0), []), some ((.aload_n 0, 1, [], 0), []), some ((.getfield 28, 3, [1, 5, 7199], 0), []), none],
  [none, some ((.iload_n 3, 1, [], 0), []), some ((.iaload, 1, [], 0), []), some ((.iload_n 1, 1, [], 0), []), some ((.ishr, 1, [], 0), []), some ((.iconst 1, 1, [], 0), []), some ((.iand, 1, [], 0), []), some ((.iload_n 3, 1, [], 0), []), some ((.ishl, 1, [], 0), []), some ((.ior, 1, [], 0), []), some ((.istore_n 2, 1, [], 0), []), some ((.iinc 3 1, 3, [], 0), []), none, none, some ((.goto (-26), 3, [], 0), []), none],
  [none, some ((.iload_n 2, 1, [], 0), []), some ((.ireturn, 1, [], 0), [])]])
def kX2_init : zMeth := (yX2_init, cX2_init, 6, none, { frames := 3, cells := 26, slots := 1844, locals := 64 }, [
  [some ((.aload_n 0, 1, [], 0), []), some ((.invokespecial 3, 3, [3, 8009, 7025, 7026], 0), []), none, none, some ((.aload_n 0, 1, [], 0), []), some ((.new 9, 3, [7, 8010, 8011, 7012], 0), []), none, none, some ((.dup, 1, [], 0), []), some ((.invokespecial 11, 3, [2, 61, 1, 4, 384, 3, 8013, 7012, 8014, 1], 0), []), none, none, some ((.putfield 12, 3, [2, 1, 8135], 0), []), none, none, some ((.aload_n 0, 1, [], 0), [])],
  [some ((.sipush 128, 3, [], 0), []), none, none, some ((.newarray .int, 2, [7161], 0), []), none, some ((.putfield 18, 3, [2, 2, 8136], 0), []), none, none, some ((.aload_n 0, 1, [], 0), []), some ((.sipush 128, 3, [], 0), []), none, none, some ((.newarray .int, 2, [7161], 0), []), none, some ((.putfield 22, 3, [2, 3, 8137], 0), []), none],
  [none, some ((.aload_n 0, 1, [], 0), []), some ((.bipush 7, 2, [], 0), []), none, some ((.newarray .int, 2, [7161], 0), []), none, some ((.putfield 25, 3, [2, 4, 8138], 0), []), none, none, some ((.aload_n 0, 1, [], 0), []), some ((.iconst 5, 1, [], 0), []), some ((.anewarray 28, 3, [8092, 8093], 0), []), none, none, some ((.putfield 30, 3, [2, 5, 8139], 0), []), none],
  [none, some ((.aload_n 0, 1, [], 0), []), some ((.bipush 7, 2, [], 0), []), none, some ((.newarray .int, 2, [7161], 0), []), none, some ((.putfield 34, 3, [2, 6, 8140], 0), []), none, none, some ((.aload_n 0, 1, [], 0), []), some ((.iconst 0, 1, [], 0), []), some ((.putfield 37, 3, [2, 8, 8142], 0), []), none, none, some ((.aload_n 0, 1, [], 0), []), some ((.iconst 0, 1, [], 0), [])],
  [some ((.putfield 41, 3, [2, 9, 8143], 0), []), none, none, some ((.aload_n 0, 1, [], 0), []), some ((.iconst 0, 1, [], 0), []), some ((.putfield 44, 3, [2, 10, 8144], 0), []), none, none, some ((.aload_n 0, 1, [], 0), []), some ((.iconst 0, 1, [], 0), []), some ((.putfield 47, 3, [2, 11, 8145], 0), []), none, none, some ((.aload_n 0, 1, [], 0), []), some ((.iconst 0, 1, [], 0), []), some ((.putfield 50, 3, [2, 12, 8146], 0), [])],
  [none, none, some ((.aload_n 0, 1, [], 0), []), some ((.lconst 0, 1, [], 0), []), some ((.putfield 53, 3, [2, 13, 8147], 0), []), none, none, some ((.aload_n 0, 1, [], 0), []), some ((.iconst 0, 1, [], 0), []), some ((.putfield 57, 3, [2, 14, 8148], 0), []), none, none, some ((.aload_n 0, 1, [], 0), []), some ((.iconst 0, 1, [], 0), []), some ((.putfield 60, 3, [2, 15, 8149], 0), []), none],
  [none, some ((.aload_n 0, 1, [], 0), []), some ((.aload_n 2, 1, [], 0), []), some ((.putfield 63, 3, [2, 7, 8141], 0), []), none, none, some ((.aload_n 0, 1, [], 0), []), some ((.new 67, 3, [8, 8094, 8095, 7013], 0), []), none, none, some ((.dup, 1, [], 0), []), some ((.aload_n 1, 1, [], 0), []), some ((.invokespecial 69, 3, [2, 64, 2, 0, 0, 8096, 8097, 7013, 8098, 0], 0), []), none, none, some ((.putfield 72, 3, [2, 0, 8134], 0), [false, true, true])],
  [none, none, some ((.iconst 0, 1, [], 0), []), some ((.istore_n 3, 1, [], 0), []), some ((.iload_n 3, 1, [], 0), [false, true, true]), some ((.aload_n 0, 1, [], 0), []), some ((.getfield 30, 3, [2, 5, 8139], 0), []), none, none, some ((.arraylength, 1, [], 0), []), some ((.if_icmp .ge 22, 3, [], 0), []), none, none, some ((.aload_n 0, 1, [], 0), []), some ((.getfield 30, 3, [2, 5, 8139], 0), []), none],
  [none, some ((.iload_n 3, 1, [], 0), []), some ((.new 28, 3, [5, 8092, 8104, 7014], 0), []), none, none, some ((.dup, 1, [], 0), []), some ((.invokespecial 76, 3, [2, 58, 1, 2, 232, 4, 8106, 7014, 8107, 1], 0), []), none, none, some ((.aastore, 1, [], 0), [false, true, true]), some ((.iinc 3 1, 3, [], 0), []), none, none, some ((.goto (-25), 3, [], 0), []), none, none],
  [some ((.iconst 0, 1, [], 0), []), some ((.istore_n 3, 1, [], 0), []), some ((.iconst 1, 1, [], 0), []), some ((.istore 4, 2, [], 0), []), none, some ((.iload 4, 2, [], 0), [false, true, true]), none, some ((.sipush 128, 3, [], 0), []), none, none, some ((.if_icmp .ge 21, 3, [], 0), []), none, none, some ((.aload_n 0, 1, [], 0), []), some ((.getfield 18, 3, [2, 2, 8136], 0), []), none],
  [none, some ((.iload 4, 2, [], 0), []), none, some ((.iload 4, 2, [], 0), []), none, some ((.invokestatic 77, 3, [1, 14, 1, 0, 0, 8118, 8119, 7011, 8120, 0], 0), []), none, none, some ((.iastore, 1, [], 0), [false, true, true]), some ((.iinc 4 1, 3, [], 0), []), none, none, some ((.goto (-23), 3, [], 0), []), none, none, some ((.iconst 1, 1, [], 0), [])],
  [some ((.istore 4, 2, [], 0), []), none, some ((.iload 4, 2, [], 0), [false, true, true, false, false, true]), none, some ((.bipush 6, 2, [], 0), []), none, some ((.if_icmp .gt 57, 3, [], 0), []), none, none, some ((.iconst 1, 1, [], 0), []), some ((.istore 5, 2, [], 0), []), none, some ((.iload 5, 2, [], 0), [false, true, true]), none, some ((.sipush 128, 3, [], 0), []), none],
  [none, some ((.if_icmp .ge 32, 3, [], 0), []), none, none, some ((.aload_n 0, 1, [], 0), []), some ((.getfield 18, 3, [2, 2, 8136], 0), []), none, none, some ((.iload 5, 2, [], 0), []), none, some ((.iaload, 1, [], 0), []), some ((.iload 4, 2, [], 0), []), none, some ((.if_icmp .ne 14, 3, [], 0), []), none, none],
  [some ((.aload_n 0, 1, [], 0), []), some ((.getfield 22, 3, [2, 3, 8137], 0), []), none, none, some ((.iload_n 3, 1, [], 0), []), some ((.iload 5, 2, [], 0), []), none, some ((.iastore, 1, [], 0), []), some ((.iinc 3 1, 3, [], 0), []), none, none, some ((.iinc 5 1, 3, [], 0), [false, true, true]), none, none, some ((.goto (-34), 3, [], 0), []), none],
  [none, some ((.aload_n 0, 1, [], 0), []), some ((.getfield 25, 3, [2, 4, 8138], 0), []), none, none, some ((.iload 4, 2, [], 0), []), none, some ((.iload_n 3, 1, [], 0), []), some ((.iastore, 1, [], 0), []), some ((.iinc 4 1, 3, [], 0), []), none, none, some ((.goto (-58), 3, [], 0), []), none, none, some ((.return_, 1, [], 0), [])]])
def kX2_tokensOf : zMeth := (yX2_tokensOf, cX2_tokensOf, 3, (some .int), { frames := 2, cells := 0, slots := 0, locals := 42 }, [
  [some ((.iload_n 0, 1, [], 0), []), some ((.bipush 127, 2, [], 0), []), none, some ((.if_icmp .ne 5, 3, [], 0), []), none, none, some ((.iconst 1, 1, [], 0), []), some ((.ireturn, 1, [], 0), []), some ((.iconst 0, 1, [], 0), []), some ((.istore_n 1, 1, [], 0), []), some ((.iconst 0, 1, [], 0), []), some ((.istore_n 2, 1, [], 0), []), some ((.iload_n 2, 1, [], 0), []), some ((.bipush 7, 2, [], 0), []), none, some ((.if_icmp .ge 32, 3, [], 0), [])],
  [none, none, some ((.iload_n 0, 1, [], 0), []), some ((.invokestatic 81, 3, [1, 121, 1, 0, 0, 5, 8122, 7001, 8123, 1], 0), []), none, none, some ((.iload_n 2, 1, [], 0), []), some ((.ishr, 1, [], 0), []), some ((.iconst 1, 1, [], 0), []), some ((.iand, 1, [], 0), []), some ((.ifCond .eq 15, 3, [], 0), []), none, none, some ((.iload_n 1, 1, [], 0), []), some ((.iconst 3, 1, [], 0), []), some ((.iload_n 0, 1, [], 0), [])],
  [some ((.iload_n 2, 1, [], 0), []), some ((.invokestatic 84, 3, [1, 122, 2, 0, 0, 6, 8125, 7001, 8126, 1], 0), []), none, none, some ((.invokestatic 88, 3, [1, 237, 2, 0, 0, 8131, 8132, 7016, 8133, 0], 0), [false, true]), none, none, some ((.iadd, 1, [], 0), [false, true]), some ((.istore_n 1, 1, [], 0), []), some ((.iinc 2 1, 3, [], 0), []), none, none, some ((.goto (-32), 3, [], 0), []), none, none, some ((.iload_n 1, 1, [], 0), [])],
  [some ((.ireturn, 1, [], 0), [])]])
def kX2_work : zMeth := (yX2_work, cX2_work, 2, none, { frames := 0, cells := 0, slots := 0, locals := 0 }, [
  [some ((.aload_n 0, 1, [], 0), []), some ((.aload_n 1, 1, [], 0), []), some ((.putfield 63, 3, [2, 7, 8141], 0), []), none, none, some ((.aload_n 0, 1, [], 0), []), some ((.getfield 12, 3, [2, 1, 8135], 0), []), none, none, some ((.iconst 0, 1, [], 0), []), some ((.putfield 93, 3, [7, 4, 8030], 0), []), none, none, some ((.return_, 1, [], 0), [])]])
def kX2_fewest : zMeth := (yX2_fewest, cX2_fewest, 4, (some .int), { frames := 6, cells := 0, slots := 0, locals := 168 }, [
  [some ((.iload_n 1, 1, [], 0), []), some ((.ifCond .ne 5, 3, [], 0), []), none, none, some ((.iconst 1, 1, [], 0), []), some ((.ireturn, 1, [], 0), []), some ((.aload_n 0, 1, [], 0), []), some ((.iload_n 1, 1, [], 0), []), some ((.iload_n 2, 1, [], 0), []), some ((.iload_n 3, 1, [], 0), []), some ((.invokevirtual 97, 3, [0, 19, 4, 0, 0, 2, 9202, 9204, 1007, 7011, 9205], 0), []), none, none, some ((.aload_n 0, 1, [], 0), [false, true, true, true]), some ((.getfield 50, 3, [2, 12, 8146], 0), []), none],
  [none, some ((.ireturn, 1, [], 0), [])]])
def kX2_find : zMeth := (yX2_find, cX2_find, 2, (some (.object "DayWords$Words")), { frames := 6, cells := 0, slots := 0, locals := 168 }, [
  [some ((.aload_n 0, 1, [], 0), []), some ((.getfield 12, 3, [2, 1, 8135], 0), []), none, none, some ((.getfield 93, 3, [7, 4, 8030], 0), []), none, none, some ((.ifCond .eq 19, 3, [], 0), []), none, none, some ((.aload_n 0, 1, [], 0), []), some ((.getfield 12, 3, [2, 1, 8135], 0), []), none, none, some ((.getfield 101, 3, [7, 5, 8033], 0), []), none],
  [none, some ((.iload_n 1, 1, [], 0), []), some ((.if_icmp .ne 8, 3, [], 0), []), none, none, some ((.aload_n 0, 1, [], 0), []), some ((.getfield 12, 3, [2, 1, 8135], 0), []), none, none, some ((.areturn, 1, [], 0), []), some ((.aload_n 0, 1, [], 0), []), some ((.getfield 12, 3, [2, 1, 8135], 0), []), none, none, some ((.iload_n 1, 1, [], 0), []), some ((.invokevirtual 102, 3, [0, 62, 2, 0, 0, 7, 9194, 9195, 9196, 7012, 9197], 0), [])],
  [none, none, some ((.iload_n 1, 1, [], 0), []), some ((.ifCond .ne 28, 3, [], 0), []), none, none, some ((.aload_n 0, 1, [], 0), []), some ((.getfield 12, 3, [2, 1, 8135], 0), []), none, none, some ((.iconst 1, 1, [], 0), []), some ((.putfield 106, 3, [7, 6, 8035], 0), []), none, none, some ((.aload_n 0, 1, [], 0), []), some ((.getfield 12, 3, [2, 1, 8135], 0), [])],
  [none, none, some ((.iconst 1, 1, [], 0), []), some ((.aload_n 0, 1, [], 0), []), some ((.invokevirtual 109, 3, [0, 18, 1, 0, 0, 2, 9198, 9200, 1006, 7011, 9201], 0), []), none, none, some ((.iadd, 1, [], 0), [false, true]), some ((.i2l, 1, [], 0), []), some ((.putfield 113, 3, [7, 7, 8038], 0), []), none, none, some ((.goto 86, 3, [], 0), []), none, none, some ((.aload_n 0, 1, [], 0), [])],
  [some ((.iload_n 1, 1, [], 0), []), some ((.iconst (-1), 1, [], 0), []), some ((.iconst 1, 1, [], 0), []), some ((.invokevirtual 97, 3, [0, 19, 4, 0, 0, 2, 9202, 9204, 1007, 7011, 9205], 0), []), none, none, some ((.aload_n 0, 1, [], 0), [false, true]), some ((.getfield 12, 3, [2, 1, 8135], 0), []), none, none, some ((.aload_n 0, 1, [], 0), []), some ((.getfield 50, 3, [2, 12, 8146], 0), []), none, none, some ((.putfield 106, 3, [7, 6, 8035], 0), []), none],
  [none, some ((.aload_n 0, 1, [], 0), []), some ((.getfield 12, 3, [2, 1, 8135], 0), []), none, none, some ((.aload_n 0, 1, [], 0), []), some ((.getfield 53, 3, [2, 13, 8147], 0), []), none, none, some ((.putfield 113, 3, [7, 7, 8038], 0), []), none, none, some ((.aload_n 0, 1, [], 0), []), some ((.getfield 12, 3, [2, 1, 8135], 0), []), none, none],
  [some ((.aload_n 0, 1, [], 0), []), some ((.getfield 57, 3, [2, 14, 8148], 0), []), none, none, some ((.putfield 116, 3, [7, 9, 8046], 0), []), none, none, some ((.aload_n 0, 1, [], 0), []), some ((.getfield 12, 3, [2, 1, 8135], 0), []), none, none, some ((.aload_n 0, 1, [], 0), []), some ((.getfield 60, 3, [2, 15, 8149], 0), []), none, none, some ((.putfield 119, 3, [7, 11, 8054], 0), [])],
  [none, none, some ((.aload_n 0, 1, [], 0), []), some ((.aload_n 0, 1, [], 0), []), some ((.getfield 57, 3, [2, 14, 8148], 0), []), none, none, some ((.aload_n 0, 1, [], 0), []), some ((.getfield 60, 3, [2, 15, 8149], 0), []), none, none, some ((.invokevirtual 122, 3, [0, 21, 3, 0, 0, 2, 9212, 9214, 1009, 7011, 9215], 0), []), none, none, some ((.aload_n 0, 1, [], 0), [false, true]), some ((.aload_n 0, 1, [], 0), [])],
  [some ((.getfield 30, 3, [2, 5, 8139], 0), []), none, none, some ((.iconst 0, 1, [], 0), []), some ((.aaload, 1, [], 0), []), some ((.aload_n 0, 1, [], 0), []), some ((.getfield 30, 3, [2, 5, 8139], 0), []), none, none, some ((.iconst 0, 1, [], 0), []), some ((.aaload, 1, [], 0), []), some ((.invokevirtual 126, 3, [0, 24, 3, 0, 0, 2, 9220, 9222, 1011, 7011, 9223], 0), []), none, none, some ((.aload_n 0, 1, [], 0), [false, true]), some ((.invokevirtual 130, 3, [0, 31, 1, 0, 0, 2, 10014, 10016, 2003, 7011, 10017], 0), [])],
  [none, none, some ((.aload_n 0, 1, [], 0), [false, true]), some ((.getfield 72, 3, [2, 0, 8134], 0), []), none, none, some ((.aload_n 0, 1, [], 0), []), some ((.getfield 12, 3, [2, 1, 8135], 0), []), none, none, some ((.aload_n 0, 1, [], 0), []), some ((.getfield 63, 3, [2, 7, 8141], 0), []), none, none, some ((.invokevirtual 133, 3, [0, 65, 3, 0, 0, 8, 10026, 10027, 10028, 7013, 10029], 0), []), none],
  [none, some ((.aload_n 0, 1, [], 0), [false, true]), some ((.getfield 12, 3, [2, 1, 8135], 0), []), none, none, some ((.areturn, 1, [], 0), [])]])
def kX2_absentWeekdays : zMeth := (yX2_absentWeekdays, cX2_absentWeekdays, 3, (some .int), { frames := 0, cells := 0, slots := 0, locals := 0 }, [
  [some ((.iconst 0, 1, [], 0), []), some ((.istore_n 1, 1, [], 0), []), some ((.iconst 0, 1, [], 0), []), some ((.istore_n 2, 1, [], 0), []), some ((.iload_n 2, 1, [], 0), []), some ((.bipush 7, 2, [], 0), []), none, some ((.if_icmp .ge 26, 3, [], 0), []), none, none, some ((.aload_n 0, 1, [], 0), []), some ((.getfield 63, 3, [2, 7, 8141], 0), []), none, none, some ((.getfield 137, 3, [1, 0, 7183], 0), []), none],
  [none, some ((.iconst 1, 1, [], 0), []), some ((.iload_n 2, 1, [], 0), []), some ((.ishl, 1, [], 0), []), some ((.iaload, 1, [], 0), []), some ((.ifCond .ne 6, 3, [], 0), []), none, none, some ((.iinc 1 1, 3, [], 0), []), none, none, some ((.iinc 2 1, 3, [], 0), []), none, none, some ((.goto (-26), 3, [], 0), []), none],
  [none, some ((.iload_n 1, 1, [], 0), []), some ((.ireturn, 1, [], 0), [])]])
def kX2_search : zMeth := (yX2_search, cX2_search, 11, none, { frames := 5, cells := 0, slots := 0, locals := 138 }, [
  [some ((.aload_n 0, 1, [], 0), []), some ((.iload_n 1, 1, [], 0), []), some ((.putfield 37, 3, [2, 8, 8142], 0), []), none, none, some ((.aload_n 0, 1, [], 0), []), some ((.ldc 142, 2, [0, 9206], 1000000), []), none, some ((.putfield 50, 3, [2, 12, 8146], 0), []), none, none, some ((.iload_n 3, 1, [], 0), []), some ((.ifCond .eq 11, 3, [], 0), []), none, none, some ((.aload_n 0, 1, [], 0), [])],
  [some ((.iload_n 1, 1, [], 0), []), some ((.invokevirtual 143, 3, [0, 20, 2, 0, 0, 2, 9207, 9209, 1008, 7011, 9210], 0), []), none, none, some ((.goto 4, 3, [], 0), [false, true]), none, none, some ((.iconst 0, 1, [], 0), []), some ((.istore 4, 2, [], 0), [false, true]), none, some ((.iload_n 3, 1, [], 0), []), some ((.ifCond .eq 22, 3, [], 0), []), none, none, some ((.iconst 1, 1, [], 0), []), some ((.aload_n 0, 1, [], 0), [])],
  [some ((.getfield 63, 3, [2, 7, 8141], 0), []), none, none, some ((.getfield 146, 3, [1, 8, 7213], 0), []), none, none, some ((.ishl, 1, [], 0), []), some ((.iconst 1, 1, [], 0), []), some ((.isub, 1, [], 0), []), some ((.iload 4, 2, [], 0), []), none, some ((.iconst (-1), 1, [], 0), []), some ((.ixor, 1, [], 0), []), some ((.iand, 1, [], 0), []), some ((.goto 4, 3, [], 0), []), none],
  [none, some ((.iconst 0, 1, [], 0), []), some ((.istore 5, 2, [], 0), [false, true, false, true]), none, some ((.iload_n 2, 1, [], 0), []), some ((.iconst 0, 1, [], 0), []), some ((.invokestatic 149, 3, [1, 236, 2, 0, 0, 9211, 9184, 7016, 9185, 0], 0), []), none, none, some ((.iconst 4, 1, [], 0), [false, true, false, true]), some ((.invokestatic 88, 3, [1, 237, 2, 0, 0, 8131, 8132, 7016, 8133, 0], 0), []), none, none, some ((.istore 6, 2, [], 0), [false, true, false, true]), none, some ((.iconst 0, 1, [], 0), [])],
  [some ((.istore 7, 2, [], 0), []), none, some ((.iload 7, 2, [], 0), [false, true, false, true, false, false, false, false, true, true, true]), none, some ((.iload 5, 2, [], 0), []), none, some ((.if_icmp .gt 122, 3, [], 0), []), none, none, some ((.iconst 0, 1, [], 0), []), some ((.istore 8, 2, [], 0), []), none, some ((.iload 8, 2, [], 0), [false, true, false, true, false, false, false, false, false, true, true]), none, some ((.iload 4, 2, [], 0), []), none],
  [some ((.if_icmp .gt 106, 3, [], 0), []), none, none, some ((.iload 7, 2, [], 0), []), none, some ((.iload 5, 2, [], 0), []), none, some ((.iconst (-1), 1, [], 0), []), some ((.ixor, 1, [], 0), []), some ((.iand, 1, [], 0), []), some ((.ifCond .ne 90, 3, [], 0), []), none, none, some ((.iload 8, 2, [], 0), []), none, some ((.iload 4, 2, [], 0), [])],
  [none, some ((.iconst (-1), 1, [], 0), []), some ((.ixor, 1, [], 0), []), some ((.iand, 1, [], 0), []), some ((.ifCond .ne 80, 3, [], 0), []), none, none, some ((.aload_n 0, 1, [], 0), []), some ((.iload 7, 2, [], 0), []), none, some ((.iload 8, 2, [], 0), []), none, some ((.invokevirtual 122, 3, [0, 21, 3, 0, 0, 2, 9212, 9214, 1009, 7011, 9215], 0), []), none, none, some ((.iload_n 2, 1, [], 0), [false, true, false, true, false, false, false, false, false, true, true])],
  [some ((.ifCond .ge 12, 3, [], 0), []), none, none, some ((.aload_n 0, 1, [], 0), []), some ((.getfield 30, 3, [2, 5, 8139], 0), []), none, none, some ((.iconst 0, 1, [], 0), []), some ((.aaload, 1, [], 0), []), some ((.goto 4, 3, [], 0), []), none, none, some ((.aconst_null, 1, [], 0), []), some ((.astore 9, 2, [], 0), [false, true, false, true, false, false, false, false, false, true, true]), none, some ((.iconst 0, 1, [], 0), [])],
  [some ((.istore 10, 2, [], 0), []), none, some ((.iload 10, 2, [], 0), [false, true, false, true]), none, some ((.iload 6, 2, [], 0), []), none, some ((.if_icmp .gt 31, 3, [], 0), []), none, none, some ((.aload_n 0, 1, [], 0), []), some ((.aload_n 0, 1, [], 0), []), some ((.getfield 30, 3, [2, 5, 8139], 0), []), none, none, some ((.iload 10, 2, [], 0), []), none],
  [some ((.aaload, 1, [], 0), []), some ((.aload 9, 2, [], 0), []), none, some ((.invokevirtual 126, 3, [0, 24, 3, 0, 0, 2, 9220, 9222, 1011, 7011, 9223], 0), []), none, none, some ((.aload_n 0, 1, [], 0), [false, true, false, true, false, false, false, false, false, true]), some ((.getfield 30, 3, [2, 5, 8139], 0), []), none, none, some ((.iload 10, 2, [], 0), []), none, some ((.aaload, 1, [], 0), []), some ((.astore 9, 2, [], 0), []), none, some ((.iinc 10 1, 3, [], 0), [])],
  [none, none, some ((.goto (-32), 3, [], 0), []), none, none, some ((.aload_n 0, 1, [], 0), []), some ((.iload 7, 2, [], 0), []), none, some ((.iload 8, 2, [], 0), []), none, some ((.aload_n 0, 1, [], 0), []), some ((.getfield 30, 3, [2, 5, 8139], 0), []), none, none, some ((.iload 6, 2, [], 0), []), none],
  [some ((.aaload, 1, [], 0), []), some ((.invokevirtual 152, 3, [0, 23, 4, 0, 0, 2, 10010, 10012, 2002, 7011, 10013], 0), []), none, none, some ((.iinc 8 1, 3, [], 0), [false, true, false, true, false, false, false, false, false, true, true]), none, none, some ((.goto (-107), 3, [], 0), []), none, none, some ((.iinc 7 1, 3, [], 0), []), none, none, some ((.goto (-123), 3, [], 0), []), none, none],
  [some ((.return_, 1, [], 0), [])]])
def kX2_feastsInside : zMeth := (yX2_feastsInside, cX2_feastsInside, 4, (some .int), { frames := 0, cells := 0, slots := 0, locals := 0 }, [
  [some ((.iconst 0, 1, [], 0), []), some ((.istore_n 2, 1, [], 0), []), some ((.iconst 0, 1, [], 0), []), some ((.istore_n 3, 1, [], 0), []), some ((.iload_n 3, 1, [], 0), []), some ((.aload_n 0, 1, [], 0), []), some ((.getfield 63, 3, [2, 7, 8141], 0), []), none, none, some ((.getfield 146, 3, [1, 8, 7213], 0), []), none, none, some ((.if_icmp .ge 31, 3, [], 0), []), none, none, some ((.aload_n 0, 1, [], 0), [])],
  [some ((.getfield 63, 3, [2, 7, 8141], 0), []), none, none, some ((.getfield 156, 3, [1, 2, 7191], 0), []), none, none, some ((.iload_n 3, 1, [], 0), []), some ((.iaload, 1, [], 0), []), some ((.iload_n 1, 1, [], 0), []), some ((.iconst (-1), 1, [], 0), []), some ((.ixor, 1, [], 0), []), some ((.iand, 1, [], 0), []), some ((.ifCond .ne 9, 3, [], 0), []), none, none, some ((.iload_n 2, 1, [], 0), [])],
  [some ((.iconst 1, 1, [], 0), []), some ((.iload_n 3, 1, [], 0), []), some ((.ishl, 1, [], 0), []), some ((.ior, 1, [], 0), []), some ((.istore_n 2, 1, [], 0), []), some ((.iinc 3 1, 3, [], 0), []), none, none, some ((.goto (-36), 3, [], 0), []), none, none, some ((.iload_n 2, 1, [], 0), []), some ((.ireturn, 1, [], 0), [])]])
def kX2_prepare : zMeth := (yX2_prepare, cX2_prepare, 3, none, { frames := 1, cells := 0, slots := 0, locals := 23 }, [
  [some ((.aload_n 0, 1, [], 0), []), some ((.aload_n 0, 1, [], 0), []), some ((.iload_n 1, 1, [], 0), []), some ((.invokevirtual 159, 3, [0, 22, 2, 0, 0, 2, 9216, 9218, 1010, 7011, 9219], 0), []), none, none, some ((.putfield 41, 3, [2, 9, 8143], 0), []), none, none, some ((.aload_n 0, 1, [], 0), []), some ((.aload_n 0, 1, [], 0), []), some ((.getfield 37, 3, [2, 8, 8142], 0), []), none, none, some ((.aload_n 0, 1, [], 0), []), some ((.iload_n 2, 1, [], 0), [])],
  [some ((.invokevirtual 159, 3, [0, 22, 2, 0, 0, 2, 9216, 9218, 1010, 7011, 9219], 0), []), none, none, some ((.iconst (-1), 1, [], 0), []), some ((.ixor, 1, [], 0), []), some ((.iand, 1, [], 0), []), some ((.putfield 44, 3, [2, 10, 8144], 0), []), none, none, some ((.aload_n 0, 1, [], 0), []), some ((.iload_n 1, 1, [], 0), []), some ((.ifCond .eq 7, 3, [], 0), []), none, none, some ((.iconst 1, 1, [], 0), []), some ((.goto 4, 3, [], 0), [])],
  [none, none, some ((.iconst 0, 1, [], 0), []), some ((.iload_n 2, 1, [], 0), [true, true]), some ((.ifCond .eq 7, 3, [], 0), []), none, none, some ((.iconst 2, 1, [], 0), []), some ((.goto 4, 3, [], 0), []), none, none, some ((.iconst 0, 1, [], 0), []), some ((.ior, 1, [], 0), [true, true, true]), some ((.putfield 47, 3, [2, 11, 8145], 0), []), none, none],
  [some ((.return_, 1, [], 0), [])]])
def kX2_feastsAsDays : zMeth := (yX2_feastsAsDays, cX2_feastsAsDays, 4, (some .int), { frames := 0, cells := 0, slots := 0, locals := 0 }, [
  [some ((.iconst 0, 1, [], 0), []), some ((.istore_n 2, 1, [], 0), []), some ((.iconst 0, 1, [], 0), []), some ((.istore_n 3, 1, [], 0), []), some ((.iload_n 3, 1, [], 0), []), some ((.aload_n 0, 1, [], 0), []), some ((.getfield 63, 3, [2, 7, 8141], 0), []), none, none, some ((.getfield 146, 3, [1, 8, 7213], 0), []), none, none, some ((.if_icmp .ge 29, 3, [], 0), []), none, none, some ((.iload_n 1, 1, [], 0), [])],
  [some ((.iload_n 3, 1, [], 0), []), some ((.ishr, 1, [], 0), []), some ((.iconst 1, 1, [], 0), []), some ((.iand, 1, [], 0), []), some ((.ifCond .eq 15, 3, [], 0), []), none, none, some ((.iload_n 2, 1, [], 0), []), some ((.aload_n 0, 1, [], 0), []), some ((.getfield 63, 3, [2, 7, 8141], 0), []), none, none, some ((.getfield 156, 3, [1, 2, 7191], 0), []), none, none, some ((.iload_n 3, 1, [], 0), [])],
  [some ((.iaload, 1, [], 0), []), some ((.ior, 1, [], 0), []), some ((.istore_n 2, 1, [], 0), []), some ((.iinc 3 1, 3, [], 0), []), none, none, some ((.goto (-34), 3, [], 0), []), none, none, some ((.iload_n 2, 1, [], 0), []), some ((.ireturn, 1, [], 0), [])]])
def kX2_compare : zMeth := (yX2_compare, cX2_compare, 6, none, { frames := 1, cells := 0, slots := 0, locals := 20 }, [
  [some ((.iload_n 1, 1, [], 0), []), some ((.invokestatic 162, 3, [1, 235, 1, 0, 0, 10005, 9154, 7015, 9155, 0], 0), []), none, none, some ((.iload_n 2, 1, [], 0), []), some ((.invokestatic 162, 3, [1, 235, 1, 0, 0, 10005, 9154, 7015, 9155, 0], 0), []), none, none, some ((.iadd, 1, [], 0), []), some ((.istore 4, 2, [], 0), []), none, some ((.aload_n 3, 1, [], 0), []), some ((.getfield 167, 3, [5, 0, 8110], 0), []), none, none, some ((.aload_n 0, 1, [], 0), [])],
  [some ((.getfield 47, 3, [2, 11, 8145], 0), []), none, none, some ((.iaload, 1, [], 0), []), some ((.iload 4, 2, [], 0), []), none, some ((.iadd, 1, [], 0), []), some ((.aload_n 0, 1, [], 0), []), some ((.getfield 47, 3, [2, 11, 8145], 0), []), none, none, some ((.invokestatic 162, 3, [1, 235, 1, 0, 0, 10005, 9154, 7015, 9155, 0], 0), []), none, none, some ((.iadd, 1, [], 0), [false, false, false, false, true]), some ((.istore 5, 2, [], 0), [])],
  [none, some ((.iload 5, 2, [], 0), []), none, some ((.aload_n 0, 1, [], 0), []), some ((.getfield 50, 3, [2, 12, 8146], 0), []), none, none, some ((.if_icmp .ge 35, 3, [], 0), []), none, none, some ((.aload_n 0, 1, [], 0), []), some ((.iload 5, 2, [], 0), []), none, some ((.putfield 50, 3, [2, 12, 8146], 0), []), none, none],
  [some ((.aload_n 0, 1, [], 0), []), some ((.aload_n 3, 1, [], 0), []), some ((.getfield 169, 3, [5, 1, 8112], 0), []), none, none, some ((.aload_n 0, 1, [], 0), []), some ((.getfield 47, 3, [2, 11, 8145], 0), []), none, none, some ((.laload, 1, [], 0), []), some ((.putfield 53, 3, [2, 13, 8147], 0), []), none, none, some ((.aload_n 0, 1, [], 0), []), some ((.iload_n 1, 1, [], 0), []), some ((.putfield 57, 3, [2, 14, 8148], 0), [])],
  [none, none, some ((.aload_n 0, 1, [], 0), []), some ((.iload_n 2, 1, [], 0), []), some ((.putfield 60, 3, [2, 15, 8149], 0), []), none, none, some ((.goto 30, 3, [], 0), []), none, none, some ((.iload 5, 2, [], 0), []), none, some ((.aload_n 0, 1, [], 0), []), some ((.getfield 50, 3, [2, 12, 8146], 0), []), none, none],
  [some ((.if_icmp .ne 21, 3, [], 0), []), none, none, some ((.aload_n 0, 1, [], 0), [false, true, true, false, true, true]), some ((.dup, 1, [], 0), []), some ((.getfield 53, 3, [2, 13, 8147], 0), []), none, none, some ((.aload_n 3, 1, [], 0), []), some ((.getfield 169, 3, [5, 1, 8112], 0), []), none, none, some ((.aload_n 0, 1, [], 0), []), some ((.getfield 47, 3, [2, 11, 8145], 0), []), none, none],
  [some ((.laload, 1, [], 0), []), some ((.ladd, 1, [], 0), []), some ((.putfield 53, 3, [2, 13, 8147], 0), []), none, none, some ((.return_, 1, [], 0), [true, true, true, true, true, true])]])
def kX2_fill : zMeth := (yX2_fill, cX2_fill, 6, none, { frames := 4, cells := 0, slots := 0, locals := 113 }, [
  [some ((.iconst 0, 1, [], 0), []), some ((.istore_n 3, 1, [], 0), []), some ((.iload_n 3, 1, [], 0), []), some ((.iconst 4, 1, [], 0), []), some ((.if_icmp .ge 43, 3, [], 0), []), none, none, some ((.aload_n 1, 1, [], 0), []), some ((.getfield 167, 3, [5, 0, 8110], 0), []), none, none, some ((.aload_n 0, 1, [], 0), []), some ((.getfield 63, 3, [2, 7, 8141], 0), []), none, none, some ((.getfield 172, 3, [1, 6, 7206], 0), [])],
  [none, none, some ((.iconst 4, 1, [], 0), []), some ((.imul, 1, [], 0), []), some ((.iload_n 3, 1, [], 0), []), some ((.iadd, 1, [], 0), []), some ((.iconst 0, 1, [], 0), []), some ((.iastore, 1, [], 0), []), some ((.aload_n 1, 1, [], 0), []), some ((.getfield 169, 3, [5, 1, 8112], 0), []), none, none, some ((.aload_n 0, 1, [], 0), []), some ((.getfield 63, 3, [2, 7, 8141], 0), []), none, none],
  [some ((.getfield 172, 3, [1, 6, 7206], 0), []), none, none, some ((.iconst 4, 1, [], 0), []), some ((.imul, 1, [], 0), []), some ((.iload_n 3, 1, [], 0), []), some ((.iadd, 1, [], 0), []), some ((.lconst 1, 1, [], 0), []), some ((.lastore, 1, [], 0), []), some ((.iinc 3 1, 3, [], 0), []), none, none, some ((.goto (-42), 3, [], 0), []), none, none, some ((.aload_n 0, 1, [], 0), [])],
  [some ((.getfield 63, 3, [2, 7, 8141], 0), []), none, none, some ((.getfield 172, 3, [1, 6, 7206], 0), []), none, none, some ((.iconst 1, 1, [], 0), []), some ((.isub, 1, [], 0), []), some ((.istore_n 3, 1, [], 0), []), some ((.iload_n 3, 1, [], 0), [false, false, false, false, true, true]), some ((.ifCond .lt 94, 3, [], 0), []), none, none, some ((.iconst 0, 1, [], 0), []), some ((.istore 4, 2, [], 0), []), none],
  [some ((.iload 4, 2, [], 0), [false, false, false, false, false, true]), none, some ((.iconst 4, 1, [], 0), []), some ((.if_icmp .ge 68, 3, [], 0), []), none, none, some ((.iload_n 3, 1, [], 0), []), some ((.iconst 1, 1, [], 0), []), some ((.iadd, 1, [], 0), []), some ((.iconst 4, 1, [], 0), []), some ((.imul, 1, [], 0), []), some ((.aload_n 0, 1, [], 0), []), some ((.iload_n 3, 1, [], 0), []), some ((.iload 4, 2, [], 0), []), none, some ((.invokevirtual 175, 3, [0, 26, 3, 0, 0, 2, 9224, 9226, 1012, 7011, 9227], 0), [])],
  [none, none, some ((.iadd, 1, [], 0), [false, false, false, false, false, true]), some ((.istore 5, 2, [], 0), []), none, some ((.aload_n 1, 1, [], 0), []), some ((.getfield 167, 3, [5, 0, 8110], 0), []), none, none, some ((.iload_n 3, 1, [], 0), []), some ((.iconst 4, 1, [], 0), []), some ((.imul, 1, [], 0), []), some ((.iload 4, 2, [], 0), []), none, some ((.iadd, 1, [], 0), []), some ((.aload_n 0, 1, [], 0), [])],
  [some ((.iload_n 3, 1, [], 0), []), some ((.iload 4, 2, [], 0), []), none, some ((.invokevirtual 178, 3, [0, 25, 3, 0, 0, 2, 9228, 9230, 1013, 7011, 9231], 0), []), none, none, some ((.aload_n 1, 1, [], 0), []), some ((.getfield 167, 3, [5, 0, 8110], 0), []), none, none, some ((.iload 5, 2, [], 0), []), none, some ((.iaload, 1, [], 0), []), some ((.iadd, 1, [], 0), []), some ((.iastore, 1, [], 0), []), some ((.aload_n 1, 1, [], 0), [])],
  [some ((.getfield 169, 3, [5, 1, 8112], 0), []), none, none, some ((.iload_n 3, 1, [], 0), []), some ((.iconst 4, 1, [], 0), []), some ((.imul, 1, [], 0), []), some ((.iload 4, 2, [], 0), []), none, some ((.iadd, 1, [], 0), []), some ((.aload_n 1, 1, [], 0), []), some ((.getfield 169, 3, [5, 1, 8112], 0), []), none, none, some ((.iload 5, 2, [], 0), []), none, some ((.laload, 1, [], 0), [])],
  [some ((.lastore, 1, [], 0), []), some ((.iinc 4 1, 3, [], 0), []), none, none, some ((.goto (-68), 3, [], 0), []), none, none, some ((.aload_n 2, 1, [], 0), []), some ((.ifnull 10, 3, [], 0), []), none, none, some ((.aload_n 0, 1, [], 0), []), some ((.aload_n 1, 1, [], 0), []), some ((.aload_n 2, 1, [], 0), []), some ((.iload_n 3, 1, [], 0), []), some ((.invokevirtual 181, 3, [0, 28, 4, 0, 0, 2, 9232, 9234, 1014, 7011, 9235], 0), [])],
  [none, none, some ((.iinc 3 (-1), 3, [], 0), [false, false, false, false, true, true]), none, none, some ((.goto (-92), 3, [], 0), []), none, none, some ((.return_, 1, [], 0), [])]])
def kX2_tokensOfDay : zMeth := (yX2_tokensOfDay, cX2_tokensOfDay, 3, (some .int), { frames := 0, cells := 0, slots := 0, locals := 0 }, [
  [some ((.aload_n 0, 1, [], 0), []), some ((.getfield 44, 3, [2, 10, 8144], 0), []), none, none, some ((.iload_n 1, 1, [], 0), []), some ((.ishr, 1, [], 0), []), some ((.iconst 1, 1, [], 0), []), some ((.iand, 1, [], 0), []), some ((.ifCond .ne 5, 3, [], 0), []), none, none, some ((.iconst 0, 1, [], 0), []), some ((.ireturn, 1, [], 0), []), some ((.iload_n 2, 1, [], 0), []), some ((.iconst 2, 1, [], 0), []), some ((.iand, 1, [], 0), [])],
  [some ((.ifCond .ne 7, 3, [], 0), []), none, none, some ((.iconst 2, 1, [], 0), []), some ((.goto 4, 3, [], 0), []), none, none, some ((.iconst 1, 1, [], 0), []), some ((.ireturn, 1, [], 0), [true, true, true])]])
def kX2_stateBehindDay : zMeth := (yX2_stateBehindDay, cX2_stateBehindDay, 3, (some .int), { frames := 0, cells := 0, slots := 0, locals := 0 }, [
  [some ((.aload_n 0, 1, [], 0), []), some ((.getfield 44, 3, [2, 10, 8144], 0), []), none, none, some ((.iload_n 1, 1, [], 0), []), some ((.ishr, 1, [], 0), []), some ((.iconst 1, 1, [], 0), []), some ((.iand, 1, [], 0), []), some ((.ifCond .ne 7, 3, [], 0), []), none, none, some ((.iload_n 2, 1, [], 0), []), some ((.goto 6, 3, [], 0), []), none, none, some ((.iload_n 2, 1, [], 0), [])],
  [some ((.iconst 2, 1, [], 0), []), some ((.ior, 1, [], 0), []), some ((.ireturn, 1, [], 0), [true, true, true])]])
def kX2_tokensOfBounds : zMeth := (yX2_tokensOfBounds, cX2_tokensOfBounds, 3, (some .int), { frames := 0, cells := 0, slots := 0, locals := 0 }, [
  [some ((.iload_n 1, 1, [], 0), []), some ((.ifCond .le 7, 3, [], 0), []), none, none, some ((.iconst 2, 1, [], 0), []), some ((.goto 4, 3, [], 0), []), none, none, some ((.iconst 0, 1, [], 0), []), some ((.iload_n 2, 1, [], 0), [false, true]), some ((.aload_n 0, 1, [], 0), []), some ((.getfield 63, 3, [2, 7, 8141], 0), []), none, none, some ((.getfield 172, 3, [1, 6, 7206], 0), []), none],
  [none, some ((.iconst 1, 1, [], 0), []), some ((.isub, 1, [], 0), []), some ((.if_icmp .ge 7, 3, [], 0), []), none, none, some ((.iconst 2, 1, [], 0), []), some ((.goto 4, 3, [], 0), []), none, none, some ((.iconst 0, 1, [], 0), []), some ((.iadd, 1, [], 0), [true, true, true]), some ((.ireturn, 1, [], 0), [])]])
def kX2_offerSpans : zMeth := (yX2_offerSpans, cX2_offerSpans, 10, none, { frames := 3, cells := 0, slots := 0, locals := 84 }, [
  [some ((.iconst 0, 1, [], 0), []), some ((.istore 4, 2, [], 0), []), none, some ((.iload 4, 2, [], 0), []), none, some ((.bipush 7, 2, [], 0), []), none, some ((.if_icmp .ge 17, 3, [], 0), []), none, none, some ((.aload_n 0, 1, [], 0), []), some ((.getfield 34, 3, [2, 6, 8140], 0), []), none, none, some ((.iload 4, 2, [], 0), []), none],
  [some ((.iconst 0, 1, [], 0), []), some ((.iastore, 1, [], 0), []), some ((.iinc 4 1, 3, [], 0), []), none, none, some ((.goto (-18), 3, [], 0), []), none, none, some ((.iconst 0, 1, [], 0), []), some ((.istore 4, 2, [], 0), []), none, some ((.iload_n 3, 1, [], 0), []), some ((.istore 5, 2, [], 0), []), none, some ((.iload 5, 2, [], 0), [false, false, false, false, false, false, true, true, true, true]), none],
  [some ((.aload_n 0, 1, [], 0), []), some ((.getfield 63, 3, [2, 7, 8141], 0), []), none, none, some ((.getfield 172, 3, [1, 6, 7206], 0), []), none, none, some ((.if_icmp .ge 210, 3, [], 0), []), none, none, some ((.aload_n 0, 1, [], 0), []), some ((.getfield 63, 3, [2, 7, 8141], 0), []), none, none, some ((.iload 5, 2, [], 0), []), none],
  [some ((.invokevirtual 185, 3, [0, 6, 2, 0, 0, 1, 9236, 9126, 9127, 7010, 9128], 0), []), none, none, some ((.istore 6, 2, [], 0), [false, false, false, false, false, false, true, true, true, true]), none, some ((.aload_n 0, 1, [], 0), []), some ((.getfield 41, 3, [2, 9, 8143], 0), []), none, none, some ((.iload 5, 2, [], 0), []), none, some ((.ishr, 1, [], 0), []), some ((.iconst 1, 1, [], 0), []), some ((.iand, 1, [], 0), []), some ((.ifCond .ne 7, 3, [], 0), []), none],
  [none, some ((.iconst 1, 1, [], 0), []), some ((.goto 4, 3, [], 0), []), none, none, some ((.iconst 0, 1, [], 0), []), some ((.istore 7, 2, [], 0), [false, false, false, false, false, false, false, true, true, true]), none, some ((.aload_n 0, 1, [], 0), []), some ((.getfield 44, 3, [2, 10, 8144], 0), []), none, none, some ((.iload 5, 2, [], 0), []), none, some ((.ishr, 1, [], 0), []), some ((.iconst 1, 1, [], 0), [])],
  [some ((.iand, 1, [], 0), []), some ((.ifCond .eq 45, 3, [], 0), []), none, none, some ((.iinc 4 1, 3, [], 0), []), none, none, some ((.iload 7, 2, [], 0), []), none, some ((.ifCond .eq 85, 3, [], 0), []), none, none, some ((.iload 4, 2, [], 0), []), none, some ((.aload_n 0, 1, [], 0), []), some ((.getfield 34, 3, [2, 6, 8140], 0), [])],
  [none, none, some ((.iload 6, 2, [], 0), []), none, some ((.iaload, 1, [], 0), []), some ((.ifCond .gt 7, 3, [], 0), []), none, none, some ((.iconst 1, 1, [], 0), []), some ((.goto 4, 3, [], 0), []), none, none, some ((.iconst 0, 1, [], 0), []), some ((.isub, 1, [], 0), [false, false, false, false, true, false, false, true, true, true]), some ((.istore 4, 2, [], 0), []), none],
  [some ((.aload_n 0, 1, [], 0), []), some ((.getfield 34, 3, [2, 6, 8140], 0), []), none, none, some ((.iload 6, 2, [], 0), []), none, some ((.dup2, 1, [], 0), []), some ((.iaload, 1, [], 0), []), some ((.iconst 1, 1, [], 0), []), some ((.isub, 1, [], 0), []), some ((.iastore, 1, [], 0), []), some ((.goto 51, 3, [], 0), []), none, none, some ((.iload 7, 2, [], 0), []), none],
  [some ((.ifCond .eq 46, 3, [], 0), []), none, none, some ((.aload_n 0, 1, [], 0), []), some ((.getfield 37, 3, [2, 8, 8142], 0), []), none, none, some ((.iload 5, 2, [], 0), []), none, some ((.ishr, 1, [], 0), []), some ((.iconst 1, 1, [], 0), []), some ((.iand, 1, [], 0), []), some ((.ifCond .ne 34, 3, [], 0), []), none, none, some ((.iload 4, 2, [], 0), [])],
  [none, some ((.aload_n 0, 1, [], 0), []), some ((.getfield 34, 3, [2, 6, 8140], 0), []), none, none, some ((.iload 6, 2, [], 0), []), none, some ((.iaload, 1, [], 0), []), some ((.ifCond .ge 7, 3, [], 0), []), none, none, some ((.iconst 1, 1, [], 0), []), some ((.goto 4, 3, [], 0), []), none, none, some ((.iconst 0, 1, [], 0), [])],
  [some ((.iadd, 1, [], 0), [false, false, false, false, true, false, false, true, true, true]), some ((.istore 4, 2, [], 0), []), none, some ((.aload_n 0, 1, [], 0), []), some ((.getfield 34, 3, [2, 6, 8140], 0), []), none, none, some ((.iload 6, 2, [], 0), []), none, some ((.dup2, 1, [], 0), []), some ((.iaload, 1, [], 0), []), some ((.iconst 1, 1, [], 0), []), some ((.iadd, 1, [], 0), []), some ((.iastore, 1, [], 0), []), some ((.aload_n 1, 1, [], 0), [false, false, false, false, false, false, true, true, true, true]), some ((.getfield 167, 3, [5, 0, 8110], 0), [])],
  [none, none, some ((.iload_n 3, 1, [], 0), []), some ((.iconst 4, 1, [], 0), []), some ((.imul, 1, [], 0), []), some ((.aload_n 0, 1, [], 0), []), some ((.getfield 47, 3, [2, 11, 8145], 0), []), none, none, some ((.iadd, 1, [], 0), []), some ((.iaload, 1, [], 0), []), some ((.aload_n 2, 1, [], 0), []), some ((.getfield 167, 3, [5, 0, 8110], 0), []), none, none, some ((.iload 5, 2, [], 0), [])],
  [none, some ((.iconst 1, 1, [], 0), []), some ((.iadd, 1, [], 0), []), some ((.iconst 4, 1, [], 0), []), some ((.imul, 1, [], 0), []), some ((.iconst 4, 1, [], 0), []), some ((.iadd, 1, [], 0), []), some ((.iconst 1, 1, [], 0), []), some ((.isub, 1, [], 0), []), some ((.iaload, 1, [], 0), []), some ((.isub, 1, [], 0), []), some ((.aload_n 0, 1, [], 0), []), some ((.iload_n 3, 1, [], 0), []), some ((.iload 5, 2, [], 0), []), none, some ((.invokevirtual 188, 3, [0, 27, 3, 0, 0, 2, 9237, 9239, 1015, 7011, 10000], 0), [])],
  [none, none, some ((.isub, 1, [], 0), [false, false, false, false, false, false, true, true, true, true]), some ((.istore 8, 2, [], 0), []), none, some ((.iload 8, 2, [], 0), []), none, some ((.iload 4, 2, [], 0), []), none, some ((.isub, 1, [], 0), []), some ((.bipush 6, 2, [], 0), []), none, some ((.invokestatic 88, 3, [1, 237, 2, 0, 0, 8131, 8132, 7016, 8133, 0], 0), []), none, none, some ((.istore 9, 2, [], 0), [false, false, false, false, false, false, true, true, false, true])],
  [none, some ((.iload 9, 2, [], 0), []), none, some ((.ifCond .le 16, 3, [], 0), []), none, none, some ((.aload_n 0, 1, [], 0), []), some ((.aload_n 1, 1, [], 0), []), some ((.aload_n 2, 1, [], 0), []), some ((.iload_n 3, 1, [], 0), []), some ((.iload 5, 2, [], 0), []), none, some ((.iload 8, 2, [], 0), []), none, some ((.iload 9, 2, [], 0), []), none],
  [some ((.invokevirtual 191, 3, [0, 29, 7, 0, 0, 2, 10001, 10003, 2000, 7011, 10004], 0), []), none, none, some ((.iinc 5 1, 3, [], 0), [false, false, false, false, false, false, true, true, true, true]), none, none, some ((.goto (-216), 3, [], 0), []), none, none, some ((.return_, 1, [], 0), [])]])
def kX2_offerPatterns : zMeth := (yX2_offerPatterns, cX2_offerPatterns, 15, none, { frames := 2, cells := 0, slots := 0, locals := 50 }, [
  [some ((.iconst 1, 1, [], 0), []), some ((.iload 4, 2, [], 0), []), none, some ((.iconst 1, 1, [], 0), []), some ((.iadd, 1, [], 0), []), some ((.ishl, 1, [], 0), []), some ((.iconst 1, 1, [], 0), []), some ((.iload_n 3, 1, [], 0), []), some ((.ishl, 1, [], 0), []), some ((.isub, 1, [], 0), []), some ((.istore 7, 2, [], 0), []), none, some ((.aload_n 0, 1, [], 0), []), some ((.iload_n 3, 1, [], 0), []), some ((.iload 4, 2, [], 0), []), none],
  [some ((.invokevirtual 188, 3, [0, 27, 3, 0, 0, 2, 9237, 9239, 1015, 7011, 10000], 0), []), none, none, some ((.istore 8, 2, [], 0), []), none, some ((.iconst 0, 1, [], 0), []), some ((.istore 9, 2, [], 0), []), none, some ((.iload 9, 2, [], 0), [false, false, false, false, false, false, false, false, false, false, true, true, true, true, true]), none, some ((.aload_n 0, 1, [], 0), []), some ((.getfield 25, 3, [2, 4, 8138], 0), []), none, none, some ((.iload 6, 2, [], 0), []), none],
  [some ((.iaload, 1, [], 0), []), some ((.if_icmp .ge 133, 3, [], 0), []), none, none, some ((.iload 7, 2, [], 0), []), none, some ((.aload_n 0, 1, [], 0), []), some ((.getfield 63, 3, [2, 7, 8141], 0), []), none, none, some ((.getfield 137, 3, [1, 0, 7183], 0), []), none, none, some ((.aload_n 0, 1, [], 0), []), some ((.getfield 22, 3, [2, 3, 8137], 0), []), none],
  [none, some ((.iload 9, 2, [], 0), []), none, some ((.iaload, 1, [], 0), []), some ((.iaload, 1, [], 0), []), some ((.iand, 1, [], 0), []), some ((.aload_n 0, 1, [], 0), []), some ((.getfield 41, 3, [2, 9, 8143], 0), []), none, none, some ((.iconst (-1), 1, [], 0), []), some ((.ixor, 1, [], 0), []), some ((.iand, 1, [], 0), []), some ((.istore 10, 2, [], 0), []), none, some ((.iload 10, 2, [], 0), [])],
  [none, some ((.aload_n 0, 1, [], 0), []), some ((.getfield 37, 3, [2, 8, 8142], 0), []), none, none, some ((.iconst (-1), 1, [], 0), []), some ((.ixor, 1, [], 0), []), some ((.iand, 1, [], 0), []), some ((.istore 11, 2, [], 0), []), none, some ((.iload 7, 2, [], 0), [false, false, false, false, false, false, false, false, false, false, false, false, true, true, true]), none, some ((.aload_n 0, 1, [], 0), []), some ((.getfield 44, 3, [2, 10, 8144], 0), []), none, none],
  [some ((.iand, 1, [], 0), []), some ((.iload 10, 2, [], 0), []), none, some ((.iconst (-1), 1, [], 0), []), some ((.ixor, 1, [], 0), []), some ((.iand, 1, [], 0), []), some ((.istore 12, 2, [], 0), []), none, some ((.aload_n 0, 1, [], 0), []), some ((.getfield 18, 3, [2, 2, 8136], 0), []), none, none, some ((.aload_n 0, 1, [], 0), []), some ((.getfield 22, 3, [2, 3, 8137], 0), []), none, none],
  [some ((.iload 9, 2, [], 0), []), none, some ((.iaload, 1, [], 0), []), some ((.iaload, 1, [], 0), []), some ((.iload 11, 2, [], 0), []), none, some ((.invokestatic 162, 3, [1, 235, 1, 0, 0, 10005, 9154, 7015, 9155, 0], 0), []), none, none, some ((.iadd, 1, [], 0), [false, false, false, false, false, false, false, false, false, false, true, false, false, true, true]), some ((.iload 12, 2, [], 0), []), none, some ((.invokestatic 162, 3, [1, 235, 1, 0, 0, 10005, 9154, 7015, 9155, 0], 0), []), none, none, some ((.iadd, 1, [], 0), [false, false, false, false, false, false, false, false, false, false, true, false, false, true, true])],
  [some ((.istore 13, 2, [], 0), []), none, some ((.iload 13, 2, [], 0), []), none, some ((.iload 5, 2, [], 0), []), none, some ((.if_icmp .gt 42, 3, [], 0), []), none, none, some ((.iload 11, 2, [], 0), []), none, some ((.ifCond .eq 7, 3, [], 0), []), none, none, some ((.iconst 1, 1, [], 0), []), some ((.goto 4, 3, [], 0), [])],
  [none, none, some ((.iconst 0, 1, [], 0), []), some ((.iload 12, 2, [], 0), [false, false, false, false, false, false, false, false, false, false, true, true, false, false, true]), none, some ((.ifCond .eq 7, 3, [], 0), []), none, none, some ((.iconst 2, 1, [], 0), []), some ((.goto 4, 3, [], 0), []), none, none, some ((.iconst 0, 1, [], 0), []), some ((.ior, 1, [], 0), [false, false, false, false, false, false, false, false, false, false, true, true, true, false, true]), some ((.istore 14, 2, [], 0), []), none],
  [some ((.aload_n 0, 1, [], 0), []), some ((.aload_n 1, 1, [], 0), []), some ((.aload_n 2, 1, [], 0), []), some ((.iload_n 3, 1, [], 0), []), some ((.iload 4, 2, [], 0), []), none, some ((.iload 14, 2, [], 0), []), none, some ((.iload 13, 2, [], 0), []), none, some ((.iload 8, 2, [], 0), []), none, some ((.iadd, 1, [], 0), []), some ((.invokevirtual 195, 3, [0, 30, 7, 0, 0, 2, 10006, 10008, 2001, 7011, 10009], 0), []), none, none],
  [some ((.iinc 9 1, 3, [], 0), [false, false, false, false, false, false, false, false, false, false, true, true, true, true, true]), none, none, some ((.goto (-139), 3, [], 0), []), none, none, some ((.return_, 1, [], 0), [])]])
def kX2_offer : zMeth := (yX2_offer, cX2_offer, 11, none, { frames := 1, cells := 0, slots := 0, locals := 20 }, [
  [some ((.aload_n 0, 1, [], 0), []), some ((.getfield 47, 3, [2, 11, 8145], 0), []), none, none, some ((.istore 7, 2, [], 0), []), none, some ((.iload 7, 2, [], 0), [false, false, false, false, false, false, false, false, true, true, true]), none, some ((.iconst 4, 1, [], 0), []), some ((.if_icmp .ge 135, 3, [], 0), []), none, none, some ((.iload 7, 2, [], 0), []), none, some ((.aload_n 0, 1, [], 0), []), some ((.getfield 47, 3, [2, 11, 8145], 0), [])],
  [none, none, some ((.iand, 1, [], 0), []), some ((.aload_n 0, 1, [], 0), []), some ((.getfield 47, 3, [2, 11, 8145], 0), []), none, none, some ((.if_icmp .ne 115, 3, [], 0), []), none, none, some ((.iload_n 3, 1, [], 0), []), some ((.iconst 4, 1, [], 0), []), some ((.imul, 1, [], 0), []), some ((.iload 7, 2, [], 0), []), none, some ((.iadd, 1, [], 0), [])],
  [some ((.istore 8, 2, [], 0), []), none, some ((.iload 4, 2, [], 0), []), none, some ((.iconst 1, 1, [], 0), []), some ((.iadd, 1, [], 0), []), some ((.iconst 4, 1, [], 0), []), some ((.imul, 1, [], 0), []), some ((.iload 7, 2, [], 0), []), none, some ((.iload 5, 2, [], 0), []), none, some ((.ior, 1, [], 0), []), some ((.iadd, 1, [], 0), []), some ((.istore 9, 2, [], 0), []), none],
  [some ((.iload 6, 2, [], 0), [false, false, false, false, false, false, false, false, false, false, true]), none, some ((.iload 5, 2, [], 0), []), none, some ((.iload 7, 2, [], 0), []), none, some ((.iconst (-1), 1, [], 0), []), some ((.ixor, 1, [], 0), []), some ((.iand, 1, [], 0), []), some ((.invokestatic 162, 3, [1, 235, 1, 0, 0, 10005, 9154, 7015, 9155, 0], 0), []), none, none, some ((.iadd, 1, [], 0), [false, false, false, false, false, false, false, false, false, false, true]), some ((.aload_n 2, 1, [], 0), []), some ((.getfield 167, 3, [5, 0, 8110], 0), []), none],
  [none, some ((.iload 9, 2, [], 0), []), none, some ((.iaload, 1, [], 0), []), some ((.iadd, 1, [], 0), []), some ((.istore 10, 2, [], 0), []), none, some ((.iload 10, 2, [], 0), []), none, some ((.aload_n 1, 1, [], 0), []), some ((.getfield 167, 3, [5, 0, 8110], 0), []), none, none, some ((.iload 8, 2, [], 0), []), none, some ((.iaload, 1, [], 0), [])],
  [some ((.if_icmp .ge 29, 3, [], 0), []), none, none, some ((.aload_n 1, 1, [], 0), []), some ((.getfield 167, 3, [5, 0, 8110], 0), []), none, none, some ((.iload 8, 2, [], 0), []), none, some ((.iload 10, 2, [], 0), []), none, some ((.iastore, 1, [], 0), []), some ((.aload_n 1, 1, [], 0), []), some ((.getfield 169, 3, [5, 1, 8112], 0), []), none, none],
  [some ((.iload 8, 2, [], 0), []), none, some ((.aload_n 2, 1, [], 0), []), some ((.getfield 169, 3, [5, 1, 8112], 0), []), none, none, some ((.iload 9, 2, [], 0), []), none, some ((.laload, 1, [], 0), []), some ((.lastore, 1, [], 0), []), some ((.goto 32, 3, [], 0), [false, false, false, false, false, false, false, false, true, true, true]), none, none, some ((.iload 10, 2, [], 0), []), none, some ((.aload_n 1, 1, [], 0), [])],
  [some ((.getfield 167, 3, [5, 0, 8110], 0), []), none, none, some ((.iload 8, 2, [], 0), []), none, some ((.iaload, 1, [], 0), []), some ((.if_icmp .ne 20, 3, [], 0), []), none, none, some ((.aload_n 1, 1, [], 0), []), some ((.getfield 169, 3, [5, 1, 8112], 0), []), none, none, some ((.iload 8, 2, [], 0), []), none, some ((.dup2, 1, [], 0), [])],
  [some ((.laload, 1, [], 0), []), some ((.aload_n 2, 1, [], 0), []), some ((.getfield 169, 3, [5, 1, 8112], 0), []), none, none, some ((.iload 9, 2, [], 0), []), none, some ((.laload, 1, [], 0), []), some ((.ladd, 1, [], 0), []), some ((.lastore, 1, [], 0), []), some ((.iinc 7 1, 3, [], 0), [false, false, false, false, false, false, false, false, true, true, true]), none, none, some ((.goto (-135), 3, [], 0), []), none, none],
  [some ((.return_, 1, [], 0), [])]])
def kX2_trace : zMeth := (yX2_trace, cX2_trace, 7, none, { frames := 2, cells := 0, slots := 0, locals := 54 }, [
  [some ((.aload_n 0, 1, [], 0), []), some ((.getfield 30, 3, [2, 5, 8139], 0), []), none, none, some ((.iconst 0, 1, [], 0), []), some ((.aaload, 1, [], 0), []), some ((.getfield 167, 3, [5, 0, 8110], 0), []), none, none, some ((.astore_n 1, 1, [], 0), []), some ((.aload_n 0, 1, [], 0), []), some ((.getfield 47, 3, [2, 11, 8145], 0), []), none, none, some ((.istore_n 2, 1, [], 0), []), some ((.iconst 0, 1, [], 0), [])],
  [some ((.istore_n 3, 1, [], 0), []), some ((.iconst 0, 1, [], 0), []), some ((.istore 4, 2, [], 0), []), none, some ((.iload 4, 2, [], 0), [false, false, false, false, false, true, true]), none, some ((.bipush 28, 2, [], 0), []), none, some ((.if_icmp .ge 135, 3, [], 0), []), none, none, some ((.iload_n 3, 1, [], 0), []), some ((.aload_n 0, 1, [], 0), []), some ((.getfield 63, 3, [2, 7, 8141], 0), []), none, none],
  [some ((.getfield 172, 3, [1, 6, 7206], 0), []), none, none, some ((.if_icmp .ge 124, 3, [], 0), []), none, none, some ((.aload_n 0, 1, [], 0), []), some ((.iload_n 3, 1, [], 0), []), some ((.iload_n 2, 1, [], 0), []), some ((.invokevirtual 175, 3, [0, 26, 3, 0, 0, 2, 9224, 9226, 1012, 7011, 9227], 0), []), none, none, some ((.istore 5, 2, [], 0), [false, false, false, false, false, true, true]), none, some ((.aload_n 0, 1, [], 0), []), some ((.iload_n 3, 1, [], 0), [])],
  [some ((.iload_n 2, 1, [], 0), []), some ((.invokevirtual 178, 3, [0, 25, 3, 0, 0, 2, 9228, 9230, 1013, 7011, 9231], 0), []), none, none, some ((.aload_n 1, 1, [], 0), [false, false, false, false, false, false, true]), some ((.iload_n 3, 1, [], 0), []), some ((.iconst 1, 1, [], 0), []), some ((.iadd, 1, [], 0), []), some ((.iconst 4, 1, [], 0), []), some ((.imul, 1, [], 0), []), some ((.iload 5, 2, [], 0), []), none, some ((.iadd, 1, [], 0), []), some ((.iaload, 1, [], 0), []), some ((.iadd, 1, [], 0), []), some ((.istore 6, 2, [], 0), [])],
  [none, some ((.iload 6, 2, [], 0), []), none, some ((.aload_n 1, 1, [], 0), []), some ((.iload_n 3, 1, [], 0), []), some ((.iconst 4, 1, [], 0), []), some ((.imul, 1, [], 0), []), some ((.iload_n 2, 1, [], 0), []), some ((.iadd, 1, [], 0), []), some ((.iaload, 1, [], 0), []), some ((.if_icmp .ne 32, 3, [], 0), []), none, none, some ((.aload_n 0, 1, [], 0), []), some ((.getfield 12, 3, [2, 1, 8135], 0), []), none],
  [none, some ((.dup, 1, [], 0), []), some ((.getfield 198, 3, [7, 12, 8058], 0), []), none, none, some ((.aload_n 0, 1, [], 0), []), some ((.getfield 44, 3, [2, 10, 8144], 0), []), none, none, some ((.iconst 1, 1, [], 0), []), some ((.iload_n 3, 1, [], 0), []), some ((.ishl, 1, [], 0), []), some ((.iand, 1, [], 0), []), some ((.ior, 1, [], 0), []), some ((.putfield 198, 3, [7, 12, 8058], 0), []), none],
  [none, some ((.iload 5, 2, [], 0), [false, false, true, false, false, false, true]), none, some ((.istore_n 2, 1, [], 0), []), some ((.iinc 3 1, 3, [], 0), []), none, none, some ((.goto 50, 3, [], 0), []), none, none, some ((.aload_n 0, 1, [], 0), []), some ((.iload_n 3, 1, [], 0), []), some ((.iload_n 2, 1, [], 0), []), some ((.invokevirtual 201, 3, [0, 32, 3, 0, 0, 2, 10018, 10020, 2004, 7011, 10021], 0), []), none, none],
  [some ((.istore_n 2, 1, [], 0), [false, false, true, true, false, true, true]), some ((.aload_n 0, 1, [], 0), []), some ((.getfield 12, 3, [2, 1, 8135], 0), []), none, none, some ((.getfield 204, 3, [7, 8, 8042], 0), []), none, none, some ((.ifCond .le 25, 3, [], 0), []), none, none, some ((.aload_n 0, 1, [], 0), []), some ((.getfield 12, 3, [2, 1, 8135], 0), []), none, none, some ((.getfield 207, 3, [7, 1, 8021], 0), [])],
  [none, none, some ((.aload_n 0, 1, [], 0), []), some ((.getfield 12, 3, [2, 1, 8135], 0), []), none, none, some ((.getfield 204, 3, [7, 8, 8042], 0), []), none, none, some ((.iconst 1, 1, [], 0), []), some ((.isub, 1, [], 0), []), some ((.iaload, 1, [], 0), []), some ((.iconst 1, 1, [], 0), []), some ((.iadd, 1, [], 0), []), some ((.goto 10, 3, [], 0), []), none],
  [none, some ((.aload_n 0, 1, [], 0), []), some ((.getfield 63, 3, [2, 7, 8141], 0), []), none, none, some ((.getfield 172, 3, [1, 6, 7206], 0), []), none, none, some ((.istore_n 3, 1, [], 0), [false, false, false, true, false, true, true]), some ((.iinc 4 1, 3, [], 0), [false, false, false, false, false, true, true]), none, none, some ((.goto (-136), 3, [], 0), []), none, none, some ((.return_, 1, [], 0), [true, true, true, true, true, true, true])]])
def kX2_traceSpan : zMeth := (yX2_traceSpan, cX2_traceSpan, 12, (some .int), { frames := 1, cells := 0, slots := 0, locals := 23 }, [
  [some ((.aload_n 0, 1, [], 0), []), some ((.getfield 30, 3, [2, 5, 8139], 0), []), none, none, some ((.iconst 0, 1, [], 0), []), some ((.aaload, 1, [], 0), []), some ((.getfield 167, 3, [5, 0, 8110], 0), []), none, none, some ((.astore_n 3, 1, [], 0), []), some ((.iload_n 1, 1, [], 0), []), some ((.istore 4, 2, [], 0), []), none, some ((.iload 4, 2, [], 0), [false, false, false, false, false, true, true, true, true, true, true, true]), none, some ((.aload_n 0, 1, [], 0), [])],
  [some ((.getfield 63, 3, [2, 7, 8141], 0), []), none, none, some ((.getfield 172, 3, [1, 6, 7206], 0), []), none, none, some ((.if_icmp .ge 214, 3, [], 0), []), none, none, some ((.iconst 1, 1, [], 0), []), some ((.iload 4, 2, [], 0), []), none, some ((.iconst 1, 1, [], 0), []), some ((.iadd, 1, [], 0), []), some ((.ishl, 1, [], 0), []), some ((.iconst 1, 1, [], 0), [])],
  [some ((.iload_n 1, 1, [], 0), []), some ((.ishl, 1, [], 0), []), some ((.isub, 1, [], 0), []), some ((.istore 5, 2, [], 0), []), none, some ((.iconst 1, 1, [], 0), []), some ((.istore 6, 2, [], 0), []), none, some ((.iload 6, 2, [], 0), [false, false, false, false, false, false, false, true, true, true, true, true]), none, some ((.sipush 128, 3, [], 0), []), none, none, some ((.if_icmp .ge 185, 3, [], 0), []), none, none],
  [some ((.iload 5, 2, [], 0), []), none, some ((.aload_n 0, 1, [], 0), []), some ((.getfield 63, 3, [2, 7, 8141], 0), []), none, none, some ((.getfield 137, 3, [1, 0, 7183], 0), []), none, none, some ((.iload 6, 2, [], 0), []), none, some ((.iaload, 1, [], 0), []), some ((.iand, 1, [], 0), []), some ((.aload_n 0, 1, [], 0), []), some ((.getfield 41, 3, [2, 9, 8143], 0), []), none],
  [none, some ((.iconst (-1), 1, [], 0), []), some ((.ixor, 1, [], 0), []), some ((.iand, 1, [], 0), []), some ((.istore 7, 2, [], 0), []), none, some ((.iload 7, 2, [], 0), []), none, some ((.aload_n 0, 1, [], 0), []), some ((.getfield 37, 3, [2, 8, 8142], 0), []), none, none, some ((.iconst (-1), 1, [], 0), []), some ((.ixor, 1, [], 0), []), some ((.iand, 1, [], 0), []), some ((.istore 8, 2, [], 0), [])],
  [none, some ((.iload 5, 2, [], 0), []), none, some ((.aload_n 0, 1, [], 0), []), some ((.getfield 44, 3, [2, 10, 8144], 0), []), none, none, some ((.iand, 1, [], 0), []), some ((.iload 7, 2, [], 0), []), none, some ((.iconst (-1), 1, [], 0), []), some ((.ixor, 1, [], 0), []), some ((.iand, 1, [], 0), []), some ((.istore 9, 2, [], 0), []), none, some ((.iload_n 2, 1, [], 0), [false, false, false, false, false, false, false, true, false, false, true, true])],
  [some ((.iload 8, 2, [], 0), []), none, some ((.ifCond .eq 7, 3, [], 0), []), none, none, some ((.iconst 1, 1, [], 0), []), some ((.goto 4, 3, [], 0), []), none, none, some ((.iconst 0, 1, [], 0), []), some ((.ior, 1, [], 0), [false, false, false, false, false, false, false, true, false, false, true, true]), some ((.iload 9, 2, [], 0), []), none, some ((.ifCond .eq 7, 3, [], 0), []), none, none],
  [some ((.iconst 2, 1, [], 0), []), some ((.goto 4, 3, [], 0), []), none, none, some ((.iconst 0, 1, [], 0), []), some ((.ior, 1, [], 0), [false, false, false, false, false, false, false, true, false, false, true, true]), some ((.istore 10, 2, [], 0), []), none, some ((.aload_n 0, 1, [], 0), []), some ((.getfield 18, 3, [2, 2, 8136], 0), []), none, none, some ((.iload 6, 2, [], 0), []), none, some ((.iaload, 1, [], 0), []), some ((.aload_n 0, 1, [], 0), [])],
  [some ((.iload_n 1, 1, [], 0), []), some ((.iload 4, 2, [], 0), []), none, some ((.invokevirtual 188, 3, [0, 27, 3, 0, 0, 2, 9237, 9239, 1015, 7011, 10000], 0), []), none, none, some ((.iadd, 1, [], 0), [false, false, false, false, false, false, false, true, false, false, false, true]), some ((.iload 8, 2, [], 0), []), none, some ((.invokestatic 162, 3, [1, 235, 1, 0, 0, 10005, 9154, 7015, 9155, 0], 0), []), none, none, some ((.iadd, 1, [], 0), [false, false, false, false, false, false, false, true, false, false, false, true]), some ((.iload 9, 2, [], 0), []), none, some ((.invokestatic 162, 3, [1, 235, 1, 0, 0, 10005, 9154, 7015, 9155, 0], 0), [])],
  [none, none, some ((.iadd, 1, [], 0), [false, false, false, false, false, false, false, true, false, false, false, true]), some ((.iload 10, 2, [], 0), []), none, some ((.iload_n 2, 1, [], 0), []), some ((.ixor, 1, [], 0), []), some ((.invokestatic 162, 3, [1, 235, 1, 0, 0, 10005, 9154, 7015, 9155, 0], 0), []), none, none, some ((.iadd, 1, [], 0), [false, false, false, false, false, false, false, true, false, false, false, true]), some ((.aload_n 3, 1, [], 0), []), some ((.iload 4, 2, [], 0), []), none, some ((.iconst 1, 1, [], 0), []), some ((.iadd, 1, [], 0), [])],
  [some ((.iconst 4, 1, [], 0), []), some ((.imul, 1, [], 0), []), some ((.iload 10, 2, [], 0), []), none, some ((.iadd, 1, [], 0), []), some ((.iaload, 1, [], 0), []), some ((.iadd, 1, [], 0), []), some ((.istore 11, 2, [], 0), []), none, some ((.iload 11, 2, [], 0), []), none, some ((.aload_n 3, 1, [], 0), []), some ((.iload_n 1, 1, [], 0), []), some ((.iconst 4, 1, [], 0), []), some ((.imul, 1, [], 0), []), some ((.iload_n 2, 1, [], 0), [])],
  [some ((.iadd, 1, [], 0), []), some ((.iaload, 1, [], 0), []), some ((.if_icmp .ne 46, 3, [], 0), []), none, none, some ((.aload_n 0, 1, [], 0), []), some ((.getfield 12, 3, [2, 1, 8135], 0), []), none, none, some ((.iload_n 1, 1, [], 0), []), some ((.iload 4, 2, [], 0), []), none, some ((.iload 6, 2, [], 0), []), none, some ((.invokevirtual 210, 3, [0, 63, 4, 0, 0, 7, 10022, 10023, 10024, 7012, 10025], 0), []), none],
  [none, some ((.aload_n 0, 1, [], 0), [false, true, true, true, true, true, true, true, false, false, false, true]), some ((.getfield 12, 3, [2, 1, 8135], 0), []), none, none, some ((.dup, 1, [], 0), []), some ((.getfield 214, 3, [7, 10, 8050], 0), []), none, none, some ((.iload 8, 2, [], 0), []), none, some ((.ior, 1, [], 0), []), some ((.putfield 214, 3, [7, 10, 8050], 0), []), none, none, some ((.aload_n 0, 1, [], 0), [])],
  [some ((.getfield 12, 3, [2, 1, 8135], 0), []), none, none, some ((.dup, 1, [], 0), []), some ((.getfield 198, 3, [7, 12, 8058], 0), []), none, none, some ((.iload 9, 2, [], 0), []), none, some ((.ior, 1, [], 0), []), some ((.putfield 198, 3, [7, 12, 8058], 0), []), none, none, some ((.iload 10, 2, [], 0), []), none, some ((.ireturn, 1, [], 0), [])],
  [some ((.iinc 6 1, 3, [], 0), []), none, none, some ((.goto (-187), 3, [], 0), []), none, none, some ((.iinc 4 1, 3, [], 0), []), none, none, some ((.goto (-220), 3, [], 0), []), none, none, some ((.iload_n 2, 1, [], 0), []), some ((.ireturn, 1, [], 0), [])]])
def kX3_init : zMeth := (yX3_init, cX3_init, 4, none, { frames := 4, cells := 1, slots := 19, locals := 85 }, [
  [some ((.aload_n 0, 1, [], 0), []), some ((.invokespecial 3, 3, [3, 7032, 7025, 7026], 0), []), none, none, some ((.aload_n 0, 1, [], 0), []), some ((.bipush 19, 2, [], 0), []), none, some ((.newarray .long, 2, [7087], 0), []), none, some ((.putfield 9, 3, [3, 0, 7082], 0), []), none, none, some ((.iconst 0, 1, [], 0), []), some ((.istore_n 1, 1, [], 0), []), some ((.iconst 0, 1, [], 0), []), some ((.istore_n 2, 1, [], 0), [])],
  [some ((.iload_n 2, 1, [], 0), [false, false, false, true]), some ((.ldc 15, 2, [1, 0], 0), []), none, some ((.invokevirtual 17, 3, [5, 7034, 7035, 7036, 7003, 7037], 0), []), none, none, some ((.if_icmp .ge 52, 3, [], 0), []), none, none, some ((.iload_n 1, 1, [], 0), []), some ((.bipush 19, 2, [], 0), []), none, some ((.if_icmp .ge 46, 3, [], 0), []), none, none, some ((.ldc 15, 2, [1, 0], 0), [])],
  [none, some ((.iload_n 2, 1, [], 0), []), some ((.invokevirtual 23, 3, [6, 7044, 7045, 7046, 7003, 7047], 0), []), none, none, some ((.istore_n 3, 1, [], 0), []), some ((.iload_n 3, 1, [], 0), []), some ((.bipush 32, 2, [], 0), []), none, some ((.if_icmp .ne 9, 3, [], 0), []), none, none, some ((.iinc 1 1, 3, [], 0), []), none, none, some ((.goto 21, 3, [], 0), [])],
  [none, none, some ((.aload_n 0, 1, [], 0), []), some ((.getfield 9, 3, [3, 0, 7082], 0), []), none, none, some ((.iload_n 1, 1, [], 0), []), some ((.aload_n 0, 1, [], 0), []), some ((.getfield 9, 3, [3, 0, 7082], 0), []), none, none, some ((.iload_n 1, 1, [], 0), []), some ((.laload, 1, [], 0), []), some ((.bipush 8, 2, [], 0), []), none, some ((.lshl, 1, [], 0), [])],
  [some ((.iload_n 3, 1, [], 0), []), some ((.i2l, 1, [], 0), []), some ((.lor, 1, [], 0), []), some ((.lastore, 1, [], 0), []), some ((.iinc 2 1, 3, [], 0), [false, false, false, true]), none, none, some ((.goto (-55), 3, [], 0), []), none, none, some ((.return_, 1, [], 0), [true, true, true, true])]])
def kX3_kindOf : zMeth := (yX3_kindOf, cX3_kindOf, 4, (some .int), { frames := 0, cells := 0, slots := 0, locals := 0 }, [
  [some ((.iconst 0, 1, [], 0), []), some ((.istore_n 3, 1, [], 0), []), some ((.iload_n 3, 1, [], 0), []), some ((.bipush 19, 2, [], 0), []), none, some ((.if_icmp .ge 22, 3, [], 0), []), none, none, some ((.aload_n 0, 1, [], 0), []), some ((.getfield 9, 3, [3, 0, 7082], 0), []), none, none, some ((.iload_n 3, 1, [], 0), []), some ((.laload, 1, [], 0), []), some ((.lload_n 1, 1, [], 0), []), some ((.lcmp, 1, [], 0), [])],
  [some ((.ifCond .ne 5, 3, [], 0), []), none, none, some ((.iload_n 3, 1, [], 0), []), some ((.ireturn, 1, [], 0), []), some ((.iinc 3 1, 3, [], 0), []), none, none, some ((.goto (-22), 3, [], 0), []), none, none, some ((.bipush 19, 2, [], 0), []), none, some ((.ireturn, 1, [], 0), [])]])
def kX4_init : zMeth := (yX4_init, cX4_init, 2, none, { frames := 1, cells := 3, slots := 1803, locals := 20 }, [
  [some ((.aload_n 0, 1, [], 0), []), some ((.invokespecial 3, 3, [3, 7110, 7025, 7026], 0), []), none, none, some ((.aload_n 0, 1, [], 0), []), some ((.iconst 0, 1, [], 0), []), some ((.putfield 9, 3, [4, 0, 7111], 0), []), none, none, some ((.aload_n 0, 1, [], 0), []), some ((.iconst (-1), 1, [], 0), []), some ((.putfield 15, 3, [4, 1, 7113], 0), []), none, none, some ((.aload_n 0, 1, [], 0), []), some ((.iconst 0, 1, [], 0), [])],
  [some ((.putfield 18, 3, [4, 2, 7115], 0), []), none, none, some ((.aload_n 0, 1, [], 0), []), some ((.iconst 0, 1, [], 0), []), some ((.putfield 21, 3, [4, 3, 7117], 0), []), none, none, some ((.aload_n 0, 1, [], 0), []), some ((.sipush 601, 3, [], 0), []), none, none, some ((.newarray .int, 2, [7161], 0), []), none, some ((.putfield 24, 3, [4, 5, 7120], 0), []), none],
  [none, some ((.aload_n 0, 1, [], 0), []), some ((.sipush 601, 3, [], 0), []), none, none, some ((.newarray .int, 2, [7161], 0), []), none, some ((.putfield 28, 3, [4, 6, 7121], 0), []), none, none, some ((.aload_n 0, 1, [], 0), []), some ((.sipush 601, 3, [], 0), []), none, none, some ((.newarray .long, 2, [7087], 0), []), none],
  [some ((.putfield 31, 3, [4, 7, 7122], 0), []), none, none, some ((.aload_n 0, 1, [], 0), []), some ((.iconst 0, 1, [], 0), []), some ((.putfield 35, 3, [4, 8, 7123], 0), []), none, none, some ((.aload_n 0, 1, [], 0), []), some ((.iconst 0, 1, [], 0), []), some ((.putfield 38, 3, [4, 9, 7124], 0), []), none, none, some ((.aload_n 0, 1, [], 0), []), some ((.iconst 0, 1, [], 0), []), some ((.putfield 41, 3, [4, 10, 7125], 0), [])],
  [none, none, some ((.aload_n 0, 1, [], 0), []), some ((.iconst 0, 1, [], 0), []), some ((.putfield 44, 3, [4, 11, 7126], 0), []), none, none, some ((.aload_n 0, 1, [], 0), []), some ((.iconst 0, 1, [], 0), []), some ((.putfield 47, 3, [4, 12, 7127], 0), []), none, none, some ((.aload_n 0, 1, [], 0), []), some ((.iconst 0, 1, [], 0), []), some ((.putfield 50, 3, [4, 13, 7128], 0), []), none],
  [none, some ((.aload_n 0, 1, [], 0), []), some ((.iconst 0, 1, [], 0), []), some ((.putfield 54, 3, [4, 14, 7129], 0), []), none, none, some ((.aload_n 0, 1, [], 0), []), some ((.aload_n 1, 1, [], 0), []), some ((.putfield 57, 3, [4, 4, 7119], 0), []), none, none, some ((.return_, 1, [], 0), [])]])
def kX4_readDesk : zMeth := (yX4_readDesk, cX4_readDesk, 4, (some .boolean), { frames := 7, cells := 0, slots := 0, locals := 156 }, [
  [some ((.aload_n 0, 1, [], 0), []), some ((.aload_n 1, 1, [], 0), []), some ((.invokevirtual 61, 3, [0, 38, 2, 0, 0, 4, 9003, 9005, 0, 7008, 9006], 0), []), none, none, some ((.aload_n 2, 1, [], 0), [false, true]), some ((.invokevirtual 65, 3, [0, 4, 1, 0, 0, 1, 9028, 9029, 9030, 7010, 9031], 0), []), none, none, some ((.iconst 0, 1, [], 0), [false, true]), some ((.istore_n 3, 1, [], 0), []), some ((.iload_n 3, 1, [], 0), [false, true]), some ((.bipush 9, 2, [], 0), []), none, some ((.if_icmp .gt 52, 3, [], 0), []), none],
  [none, some ((.aload_n 0, 1, [], 0), []), some ((.getfield 24, 3, [4, 5, 7120], 0), []), none, none, some ((.aload_n 0, 1, [], 0), []), some ((.getfield 38, 3, [4, 9, 7124], 0), []), none, none, some ((.iaload, 1, [], 0), []), some ((.bipush 24, 2, [], 0), []), none, some ((.if_icmp .eq 38, 3, [], 0), []), none, none, some ((.aload_n 0, 1, [], 0), [])],
  [some ((.aload_n 2, 1, [], 0), []), some ((.invokevirtual 70, 3, [0, 47, 2, 0, 0, 4, 9032, 9034, 3, 7008, 9035], 0), []), none, none, some ((.ifCond .eq 12, 3, [], 0), [false, true]), none, none, some ((.aload_n 0, 1, [], 0), []), some ((.bipush 21, 2, [], 0), []), none, some ((.invokevirtual 74, 3, [0, 44, 2, 0, 0, 4, 9040, 9042, 5, 7008, 9043], 0), []), none, none, some ((.ifCond .ne 5, 3, [], 0), [false, true]), none, none],
  [some ((.iconst 0, 1, [], 0), [true, true, true, true]), some ((.ireturn, 1, [], 0), []), some ((.aload_n 2, 1, [], 0), []), some ((.dup, 1, [], 0), []), some ((.getfield 78, 3, [1, 10, 7219], 0), []), none, none, some ((.iconst 1, 1, [], 0), []), some ((.iadd, 1, [], 0), []), some ((.putfield 78, 3, [1, 10, 7219], 0), []), none, none, some ((.iinc 3 1, 3, [], 0), []), none, none, some ((.goto (-52), 3, [], 0), [])],
  [none, none, some ((.iconst 1, 1, [], 0), [true, true, true, true]), some ((.ireturn, 1, [], 0), [])]])
def kX4_readAlone : zMeth := (yX4_readAlone, cX4_readAlone, 3, (some .boolean), { frames := 5, cells := 0, slots := 0, locals := 113 }, [
  [some ((.aload_n 0, 1, [], 0), []), some ((.aload_n 1, 1, [], 0), []), some ((.invokevirtual 61, 3, [0, 38, 2, 0, 0, 4, 9003, 9005, 0, 7008, 9006], 0), []), none, none, some ((.aload_n 0, 1, [], 0), [false, true]), some ((.aload_n 2, 1, [], 0), []), some ((.invokevirtual 81, 3, [0, 52, 2, 0, 0, 4, 9081, 9083, 13, 7008, 9084], 0), []), none, none, some ((.ifCond .eq 16, 3, [], 0), [false, true, true]), none, none, some ((.aload_n 0, 1, [], 0), []), some ((.bipush 24, 2, [], 0), []), none],
  [some ((.invokevirtual 74, 3, [0, 44, 2, 0, 0, 4, 9040, 9042, 5, 7008, 9043], 0), []), none, none, some ((.ifCond .eq 7, 3, [], 0), [true, true, true]), none, none, some ((.iconst 1, 1, [], 0), []), some ((.goto 4, 3, [], 0), []), none, none, some ((.iconst 0, 1, [], 0), [true, true, true]), some ((.ireturn, 1, [], 0), [true, true, true])]])
def kX4_scan : zMeth := (yX4_scan, cX4_scan, 6, none, { frames := 2, cells := 0, slots := 0, locals := 47 }, [
  [some ((.aload_n 0, 1, [], 0), []), some ((.iconst 0, 1, [], 0), []), some ((.putfield 9, 3, [4, 0, 7111], 0), []), none, none, some ((.aload_n 0, 1, [], 0), []), some ((.iconst (-1), 1, [], 0), []), some ((.putfield 15, 3, [4, 1, 7113], 0), []), none, none, some ((.aload_n 0, 1, [], 0), []), some ((.iconst 0, 1, [], 0), []), some ((.putfield 38, 3, [4, 9, 7124], 0), []), none, none, some ((.aload_n 0, 1, [], 0), [])],
  [some ((.iconst (-1), 1, [], 0), []), some ((.putfield 35, 3, [4, 8, 7123], 0), []), none, none, some ((.bipush 26, 2, [], 0), []), none, some ((.istore_n 2, 1, [], 0), []), some ((.iconst 0, 1, [], 0), []), some ((.istore_n 3, 1, [], 0), []), some ((.iload_n 3, 1, [], 0), [false, false, false, false, true, true]), some ((.aload_n 1, 1, [], 0), []), some ((.getfield 84, 3, [6, 1, 7099], 0), []), none, none, some ((.if_icmp .ge 69, 3, [], 0), []), none],
  [none, some ((.aload_n 1, 1, [], 0), []), some ((.getfield 89, 3, [6, 0, 7096], 0), []), none, none, some ((.iload_n 3, 1, [], 0), []), some ((.baload, 1, [], 0), []), some ((.istore 4, 2, [], 0), []), none, some ((.iload 4, 2, [], 0), []), none, some ((.invokestatic 93, 3, [1, 39, 1, 0, 0, 9007, 9008, 7008, 9009, 0], 0), []), none, none, some ((.istore 5, 2, [], 0), [false, false, false, false, false, true]), none],
  [some ((.iload 5, 2, [], 0), []), none, some ((.bipush 26, 2, [], 0), []), none, some ((.if_icmp .eq 38, 3, [], 0), []), none, none, some ((.iload 5, 2, [], 0), []), none, some ((.iload_n 2, 1, [], 0), []), some ((.if_icmp .ne 17, 3, [], 0), []), none, none, some ((.iload 5, 2, [], 0), []), none, some ((.bipush 19, 2, [], 0), [])],
  [none, some ((.if_icmp .eq 17, 3, [], 0), []), none, none, some ((.iload 5, 2, [], 0), []), none, some ((.bipush 20, 2, [], 0), []), none, some ((.if_icmp .eq 10, 3, [], 0), []), none, none, some ((.aload_n 0, 1, [], 0), [false, false, true]), some ((.iload 5, 2, [], 0), []), none, some ((.iload_n 3, 1, [], 0), []), some ((.invokevirtual 97, 3, [0, 40, 3, 0, 0, 4, 9010, 9012, 1, 7008, 9013], 0), [])],
  [none, none, some ((.aload_n 0, 1, [], 0), [false, false, true]), some ((.iload 5, 2, [], 0), []), none, some ((.iload 4, 2, [], 0), []), none, some ((.invokevirtual 101, 3, [0, 41, 3, 0, 0, 4, 9014, 9016, 2, 7008, 9017], 0), []), none, none, some ((.iload 5, 2, [], 0), [false, false, true, false, true]), none, some ((.istore_n 2, 1, [], 0), []), some ((.iinc 3 1, 3, [], 0), []), none, none],
  [some ((.goto (-71), 3, [], 0), []), none, none, some ((.aload_n 0, 1, [], 0), []), some ((.bipush 24, 2, [], 0), []), none, some ((.aload_n 1, 1, [], 0), []), some ((.getfield 84, 3, [6, 1, 7099], 0), []), none, none, some ((.invokevirtual 97, 3, [0, 40, 3, 0, 0, 4, 9010, 9012, 1, 7008, 9013], 0), []), none, none, some ((.iconst 0, 1, [], 0), [false, true, true, true, true, true]), some ((.istore_n 3, 1, [], 0), []), some ((.iload_n 3, 1, [], 0), [false, true, true, false, true, true])],
  [some ((.aload_n 0, 1, [], 0), []), some ((.getfield 35, 3, [4, 8, 7123], 0), []), none, none, some ((.if_icmp .ge 39, 3, [], 0), []), none, none, some ((.aload_n 0, 1, [], 0), []), some ((.getfield 24, 3, [4, 5, 7120], 0), []), none, none, some ((.iload_n 3, 1, [], 0), []), some ((.iaload, 1, [], 0), []), some ((.bipush 19, 2, [], 0), []), none, some ((.if_icmp .ne 22, 3, [], 0), [])],
  [none, none, some ((.aload_n 0, 1, [], 0), []), some ((.getfield 24, 3, [4, 5, 7120], 0), []), none, none, some ((.iload_n 3, 1, [], 0), []), some ((.aload_n 0, 1, [], 0), []), some ((.getfield 57, 3, [4, 4, 7119], 0), []), none, none, some ((.aload_n 0, 1, [], 0), []), some ((.getfield 31, 3, [4, 7, 7122], 0), []), none, none, some ((.iload_n 3, 1, [], 0), [])],
  [some ((.laload, 1, [], 0), []), some ((.invokevirtual 104, 3, [0, 34, 2, 0, 0, 3, 9024, 9025, 9026, 7002, 9027], 0), []), none, none, some ((.iastore, 1, [], 0), [false, true, true, false, true, true]), some ((.iinc 3 1, 3, [], 0), [false, true, true, false, true, true]), none, none, some ((.goto (-41), 3, [], 0), []), none, none, some ((.return_, 1, [], 0), [])]])
def kX4_kindOfSign : zMeth := (yX4_kindOfSign, cX4_kindOfSign, 1, (some .int), { frames := 0, cells := 0, slots := 0, locals := 0 }, [
  [some ((.iload_n 0, 1, [], 0), []), some ((.bipush 97, 2, [], 0), []), none, some ((.if_icmp .lt 12, 3, [], 0), []), none, none, some ((.iload_n 0, 1, [], 0), []), some ((.bipush 122, 2, [], 0), []), none, some ((.if_icmp .gt 6, 3, [], 0), []), none, none, some ((.bipush 19, 2, [], 0), []), none, some ((.ireturn, 1, [], 0), []), some ((.iload_n 0, 1, [], 0), [])],
  [some ((.bipush 48, 2, [], 0), []), none, some ((.if_icmp .lt 12, 3, [], 0), []), none, none, some ((.iload_n 0, 1, [], 0), []), some ((.bipush 57, 2, [], 0), []), none, some ((.if_icmp .gt 6, 3, [], 0), []), none, none, some ((.bipush 20, 2, [], 0), []), none, some ((.ireturn, 1, [], 0), []), some ((.iload_n 0, 1, [], 0), []), some ((.lookupswitch 64 #[(10, 52), (32, 49), (45, 61), (58, 58), (59, 55)], 49, [], 0), [])],
  [none, none, none, none, none, none, none, none, none, none, none, none, none, none, none, none],
  [none, none, none, none, none, none, none, none, none, none, none, none, none, none, none, none],
  [none, none, none, none, none, none, none, none, none, none, none, none, none, none, none, none],
  [some ((.bipush 26, 2, [], 0), []), none, some ((.ireturn, 1, [], 0), []), some ((.bipush 26, 2, [], 0), []), none, some ((.ireturn, 1, [], 0), []), some ((.bipush 21, 2, [], 0), []), none, some ((.ireturn, 1, [], 0), []), some ((.bipush 22, 2, [], 0), []), none, some ((.ireturn, 1, [], 0), []), some ((.bipush 23, 2, [], 0), []), none, some ((.ireturn, 1, [], 0), []), some ((.bipush 25, 2, [], 0), [])],
  [none, some ((.ireturn, 1, [], 0), [])]])
def kX4_openToken : zMeth := (yX4_openToken, cX4_openToken, 3, none, { frames := 0, cells := 0, slots := 0, locals := 0 }, [
  [some ((.aload_n 0, 1, [], 0), []), some ((.getfield 35, 3, [4, 8, 7123], 0), []), none, none, some ((.sipush 600, 3, [], 0), []), none, none, some ((.if_icmp .ge 43, 3, [], 0), []), none, none, some ((.aload_n 0, 1, [], 0), []), some ((.dup, 1, [], 0), []), some ((.getfield 35, 3, [4, 8, 7123], 0), []), none, none, some ((.iconst 1, 1, [], 0), [])],
  [some ((.iadd, 1, [], 0), []), some ((.putfield 35, 3, [4, 8, 7123], 0), []), none, none, some ((.aload_n 0, 1, [], 0), []), some ((.getfield 24, 3, [4, 5, 7120], 0), []), none, none, some ((.aload_n 0, 1, [], 0), []), some ((.getfield 35, 3, [4, 8, 7123], 0), []), none, none, some ((.iload_n 1, 1, [], 0), []), some ((.iastore, 1, [], 0), []), some ((.aload_n 0, 1, [], 0), []), some ((.getfield 28, 3, [4, 6, 7121], 0), [])],
  [none, none, some ((.aload_n 0, 1, [], 0), []), some ((.getfield 35, 3, [4, 8, 7123], 0), []), none, none, some ((.iload_n 2, 1, [], 0), []), some ((.iastore, 1, [], 0), []), some ((.aload_n 0, 1, [], 0), []), some ((.getfield 31, 3, [4, 7, 7122], 0), []), none, none, some ((.aload_n 0, 1, [], 0), []), some ((.getfield 35, 3, [4, 8, 7123], 0), []), none, none],
  [some ((.lconst 0, 1, [], 0), []), some ((.lastore, 1, [], 0), []), some ((.return_, 1, [], 0), [true, true, true])]])
def kX4_widenToken : zMeth := (yX4_widenToken, cX4_widenToken, 5, none, { frames := 1, cells := 0, slots := 0, locals := 23 }, [
  [some ((.aload_n 0, 1, [], 0), []), some ((.getfield 35, 3, [4, 8, 7123], 0), []), none, none, some ((.ifCond .ge 4, 3, [], 0), []), none, none, some ((.return_, 1, [], 0), []), some ((.aload_n 0, 1, [], 0), []), some ((.getfield 31, 3, [4, 7, 7122], 0), []), none, none, some ((.aload_n 0, 1, [], 0), []), some ((.getfield 35, 3, [4, 8, 7123], 0), []), none, none],
  [some ((.laload, 1, [], 0), []), some ((.lstore_n 3, 1, [], 0), []), some ((.iload_n 1, 1, [], 0), []), some ((.bipush 20, 2, [], 0), []), none, some ((.if_icmp .ne 32, 3, [], 0), []), none, none, some ((.aload_n 0, 1, [], 0), []), some ((.getfield 31, 3, [4, 7, 7122], 0), []), none, none, some ((.aload_n 0, 1, [], 0), []), some ((.getfield 35, 3, [4, 8, 7123], 0), []), none, none],
  [some ((.ldc2_w 110, 3, [0, 9018], 1000000), []), none, none, some ((.lload_n 3, 1, [], 0), []), some ((.ldc2_w 112, 3, [0, 9019], 10), []), none, none, some ((.lmul, 1, [], 0), []), some ((.iload_n 2, 1, [], 0), []), some ((.bipush 48, 2, [], 0), []), none, some ((.isub, 1, [], 0), []), some ((.i2l, 1, [], 0), []), some ((.ladd, 1, [], 0), []), some ((.invokestatic 114, 3, [1, 238, 2, 0, 0, 9020, 9021, 7016, 9022, 0], 0), []), none],
  [none, some ((.lastore, 1, [], 0), [true, true, true, true, true]), some ((.goto 40, 3, [], 0), []), none, none, some ((.iload_n 1, 1, [], 0), []), some ((.bipush 19, 2, [], 0), []), none, some ((.if_icmp .ne 34, 3, [], 0), []), none, none, some ((.aload_n 0, 1, [], 0), []), some ((.getfield 31, 3, [4, 7, 7122], 0), []), none, none, some ((.aload_n 0, 1, [], 0), [])],
  [some ((.getfield 35, 3, [4, 8, 7123], 0), []), none, none, some ((.lload_n 3, 1, [], 0), []), some ((.bipush 56, 2, [], 0), []), none, some ((.lshr, 1, [], 0), []), some ((.lconst 0, 1, [], 0), []), some ((.lcmp, 1, [], 0), []), some ((.ifCond .eq 9, 3, [], 0), []), none, none, some ((.ldc2_w 120, 3, [0, 9023], (-1)), []), none, none, some ((.goto 10, 3, [], 0), [])],
  [none, none, some ((.lload_n 3, 1, [], 0), []), some ((.bipush 8, 2, [], 0), []), none, some ((.lshl, 1, [], 0), []), some ((.iload_n 2, 1, [], 0), []), some ((.i2l, 1, [], 0), []), some ((.lor, 1, [], 0), []), some ((.lastore, 1, [], 0), [true, true, true, true, true]), some ((.return_, 1, [], 0), [true, true, true, true, true])]])
def kX4_fail : zMeth := (yX4_fail, cX4_fail, 2, (some .boolean), { frames := 0, cells := 0, slots := 0, locals := 0 }, [
  [some ((.aload_n 0, 1, [], 0), []), some ((.iload_n 1, 1, [], 0), []), some ((.putfield 9, 3, [4, 0, 7111], 0), []), none, none, some ((.aload_n 0, 1, [], 0), []), some ((.aload_n 0, 1, [], 0), []), some ((.getfield 28, 3, [4, 6, 7121], 0), []), none, none, some ((.aload_n 0, 1, [], 0), []), some ((.getfield 38, 3, [4, 9, 7124], 0), []), none, none, some ((.iaload, 1, [], 0), []), some ((.putfield 15, 3, [4, 1, 7113], 0), [])],
  [none, none, some ((.iconst 0, 1, [], 0), []), some ((.ireturn, 1, [], 0), [])]])
def kX4_step : zMeth := (yX4_step, cX4_step, 1, none, { frames := 0, cells := 0, slots := 0, locals := 0 }, [
  [some ((.aload_n 0, 1, [], 0), []), some ((.getfield 38, 3, [4, 9, 7124], 0), []), none, none, some ((.aload_n 0, 1, [], 0), []), some ((.getfield 35, 3, [4, 8, 7123], 0), []), none, none, some ((.if_icmp .ge 13, 3, [], 0), []), none, none, some ((.aload_n 0, 1, [], 0), []), some ((.dup, 1, [], 0), []), some ((.getfield 38, 3, [4, 9, 7124], 0), []), none, none],
  [some ((.iconst 1, 1, [], 0), []), some ((.iadd, 1, [], 0), []), some ((.putfield 38, 3, [4, 9, 7124], 0), []), none, none, some ((.return_, 1, [], 0), [true])]])
def kX4_take : zMeth := (yX4_take, cX4_take, 2, (some .boolean), { frames := 1, cells := 0, slots := 0, locals := 21 }, [
  [some ((.aload_n 0, 1, [], 0), []), some ((.getfield 24, 3, [4, 5, 7120], 0), []), none, none, some ((.aload_n 0, 1, [], 0), []), some ((.getfield 38, 3, [4, 9, 7124], 0), []), none, none, some ((.iaload, 1, [], 0), []), some ((.iload_n 1, 1, [], 0), []), some ((.if_icmp .eq 9, 3, [], 0), []), none, none, some ((.aload_n 0, 1, [], 0), []), some ((.iconst 1, 1, [], 0), []), some ((.invokevirtual 122, 3, [0, 42, 2, 0, 0, 4, 9044, 9046, 6, 7008, 9047], 0), [])],
  [none, none, some ((.ireturn, 1, [], 0), [true, true]), some ((.aload_n 0, 1, [], 0), []), some ((.invokevirtual 125, 3, [0, 43, 1, 0, 0, 4, 9048, 9050, 7, 7008, 9051], 0), []), none, none, some ((.iconst 1, 1, [], 0), [true, true]), some ((.ireturn, 1, [], 0), [])]])
def kX4_seeNumber : zMeth := (yX4_seeNumber, cX4_seeNumber, 3, (some .boolean), { frames := 1, cells := 0, slots := 0, locals := 21 }, [
  [some ((.aload_n 0, 1, [], 0), []), some ((.getfield 24, 3, [4, 5, 7120], 0), []), none, none, some ((.aload_n 0, 1, [], 0), []), some ((.getfield 38, 3, [4, 9, 7124], 0), []), none, none, some ((.iaload, 1, [], 0), []), some ((.bipush 20, 2, [], 0), []), none, some ((.if_icmp .eq 9, 3, [], 0), []), none, none, some ((.aload_n 0, 1, [], 0), []), some ((.iconst 1, 1, [], 0), [])],
  [some ((.invokevirtual 122, 3, [0, 42, 2, 0, 0, 4, 9044, 9046, 6, 7008, 9047], 0), []), none, none, some ((.ireturn, 1, [], 0), [true, true, true]), some ((.aload_n 0, 1, [], 0), []), some ((.getfield 31, 3, [4, 7, 7122], 0), []), none, none, some ((.aload_n 0, 1, [], 0), []), some ((.getfield 38, 3, [4, 9, 7124], 0), []), none, none, some ((.laload, 1, [], 0), []), some ((.iload_n 1, 1, [], 0), []), some ((.i2l, 1, [], 0), []), some ((.lcmp, 1, [], 0), [])],
  [some ((.ifCond .lt 18, 3, [], 0), []), none, none, some ((.aload_n 0, 1, [], 0), []), some ((.getfield 31, 3, [4, 7, 7122], 0), []), none, none, some ((.aload_n 0, 1, [], 0), []), some ((.getfield 38, 3, [4, 9, 7124], 0), []), none, none, some ((.laload, 1, [], 0), []), some ((.iload_n 2, 1, [], 0), []), some ((.i2l, 1, [], 0), []), some ((.lcmp, 1, [], 0), []), some ((.ifCond .le 11, 3, [], 0), [])],
  [none, none, some ((.aload_n 0, 1, [], 0), [false, true, true]), some ((.iconst 2, 1, [], 0), []), some ((.invokevirtual 122, 3, [0, 42, 2, 0, 0, 4, 9044, 9046, 6, 7008, 9047], 0), []), none, none, some ((.ifCond .eq 7, 3, [], 0), [true, true, true]), none, none, some ((.iconst 1, 1, [], 0), [true, true, true]), some ((.goto 4, 3, [], 0), []), none, none, some ((.iconst 0, 1, [], 0), []), some ((.ireturn, 1, [], 0), [true, true, true])]])
def kX4_isWeekday : zMeth := (yX4_isWeekday, cX4_isWeekday, 1, (some .boolean), { frames := 0, cells := 0, slots := 0, locals := 0 }, [
  [some ((.aload_n 0, 1, [], 0), []), some ((.getfield 24, 3, [4, 5, 7120], 0), []), none, none, some ((.aload_n 0, 1, [], 0), []), some ((.getfield 38, 3, [4, 9, 7124], 0), []), none, none, some ((.iaload, 1, [], 0), []), some ((.bipush 12, 2, [], 0), []), none, some ((.if_icmp .lt 21, 3, [], 0), []), none, none, some ((.aload_n 0, 1, [], 0), []), some ((.getfield 24, 3, [4, 5, 7120], 0), [])],
  [none, none, some ((.aload_n 0, 1, [], 0), []), some ((.getfield 38, 3, [4, 9, 7124], 0), []), none, none, some ((.iaload, 1, [], 0), []), some ((.bipush 19, 2, [], 0), []), none, some ((.if_icmp .ge 7, 3, [], 0), []), none, none, some ((.iconst 1, 1, [], 0), []), some ((.goto 4, 3, [], 0), []), none, none],
  [some ((.iconst 0, 1, [], 0), [true]), some ((.ireturn, 1, [], 0), [true])]])
def kX4_readLine : zMeth := (yX4_readLine, cX4_readLine, 2, (some .boolean), { frames := 6, cells := 0, slots := 0, locals := 135 }, [
  [some ((.aload_n 1, 1, [], 0), []), some ((.getfield 78, 3, [1, 10, 7219], 0), []), none, none, some ((.ifCond .ne 9, 3, [], 0), []), none, none, some ((.aload_n 0, 1, [], 0), []), some ((.aload_n 1, 1, [], 0), []), some ((.invokevirtual 128, 3, [0, 48, 2, 0, 0, 4, 9036, 9038, 4, 7008, 9039], 0), []), none, none, some ((.ireturn, 1, [], 0), [true, true]), some ((.aload_n 0, 1, [], 0), []), some ((.getfield 24, 3, [4, 5, 7120], 0), []), none],
  [none, some ((.aload_n 0, 1, [], 0), []), some ((.getfield 38, 3, [4, 9, 7124], 0), []), none, none, some ((.iaload, 1, [], 0), []), some ((.lookupswitch 38 #[(3, 26), (4, 32)], 26, [], 0), []), none, none, none, none, none, none, none, none, none],
  [none, none, none, none, none, none, none, none, none, none, none, none, none, none, none, none],
  [some ((.aload_n 0, 1, [], 0), []), some ((.aload_n 1, 1, [], 0), []), some ((.invokevirtual 131, 3, [0, 49, 2, 0, 0, 4, 9065, 9067, 10, 7008, 9068], 0), []), none, none, some ((.ireturn, 1, [], 0), [true, true]), some ((.aload_n 0, 1, [], 0), []), some ((.aload_n 1, 1, [], 0), []), some ((.invokevirtual 134, 3, [0, 51, 2, 0, 0, 4, 9077, 9079, 12, 7008, 9080], 0), []), none, none, some ((.ireturn, 1, [], 0), [true, true]), some ((.aload_n 0, 1, [], 0), []), some ((.iconst 1, 1, [], 0), []), some ((.invokevirtual 122, 3, [0, 42, 2, 0, 0, 4, 9044, 9046, 6, 7008, 9047], 0), []), none],
  [none, some ((.ireturn, 1, [], 0), [true, true])]])
def kX4_readHead : zMeth := (yX4_readHead, cX4_readHead, 3, (some .boolean), { frames := 2, cells := 0, slots := 0, locals := 47 }, [
  [some ((.aload_n 0, 1, [], 0), []), some ((.iconst 0, 1, [], 0), []), some ((.invokevirtual 74, 3, [0, 44, 2, 0, 0, 4, 9040, 9042, 5, 7008, 9043], 0), []), none, none, some ((.ifCond .eq 21, 3, [], 0), []), none, none, some ((.aload_n 0, 1, [], 0), []), some ((.iconst 1, 1, [], 0), []), some ((.invokevirtual 74, 3, [0, 44, 2, 0, 0, 4, 9040, 9042, 5, 7008, 9043], 0), []), none, none, some ((.ifCond .eq 13, 3, [], 0), []), none, none],
  [some ((.aload_n 0, 1, [], 0), []), some ((.iconst 1, 1, [], 0), []), some ((.bipush 28, 2, [], 0), []), none, some ((.invokevirtual 137, 3, [0, 45, 3, 0, 0, 4, 9052, 9054, 8, 7008, 9055], 0), []), none, none, some ((.ifCond .ne 5, 3, [], 0), []), none, none, some ((.iconst 0, 1, [], 0), [true, true]), some ((.ireturn, 1, [], 0), []), some ((.aload_n 0, 1, [], 0), []), some ((.getfield 31, 3, [4, 7, 7122], 0), []), none, none],
  [some ((.aload_n 0, 1, [], 0), []), some ((.getfield 38, 3, [4, 9, 7124], 0), []), none, none, some ((.laload, 1, [], 0), []), some ((.l2i, 1, [], 0), []), some ((.istore_n 2, 1, [], 0), []), some ((.aload_n 0, 1, [], 0), []), some ((.invokevirtual 125, 3, [0, 43, 1, 0, 0, 4, 9048, 9050, 7, 7008, 9051], 0), []), none, none, some ((.aload_n 0, 1, [], 0), []), some ((.iconst 2, 1, [], 0), []), some ((.invokevirtual 74, 3, [0, 44, 2, 0, 0, 4, 9040, 9042, 5, 7008, 9043], 0), []), none, none],
  [some ((.ifCond .ne 5, 3, [], 0), []), none, none, some ((.iconst 0, 1, [], 0), []), some ((.ireturn, 1, [], 0), []), some ((.aload_n 0, 1, [], 0), []), some ((.invokevirtual 141, 3, [0, 46, 1, 0, 0, 4, 9056, 9058, 9, 7008, 9059], 0), []), none, none, some ((.ifCond .ne 9, 3, [], 0), []), none, none, some ((.aload_n 0, 1, [], 0), []), some ((.iconst 1, 1, [], 0), []), some ((.invokevirtual 122, 3, [0, 42, 2, 0, 0, 4, 9044, 9046, 6, 7008, 9047], 0), []), none],
  [none, some ((.ireturn, 1, [], 0), [true, true, true]), some ((.aload_n 1, 1, [], 0), []), some ((.iload_n 2, 1, [], 0), []), some ((.aload_n 0, 1, [], 0), []), some ((.getfield 24, 3, [4, 5, 7120], 0), []), none, none, some ((.aload_n 0, 1, [], 0), []), some ((.getfield 38, 3, [4, 9, 7124], 0), []), none, none, some ((.iaload, 1, [], 0), []), some ((.bipush 12, 2, [], 0), []), none, some ((.isub, 1, [], 0), [])],
  [some ((.invokevirtual 145, 3, [0, 5, 3, 0, 0, 1, 9060, 9061, 9062, 7010, 9063], 0), []), none, none, some ((.aload_n 0, 1, [], 0), [false, true, true]), some ((.invokevirtual 125, 3, [0, 43, 1, 0, 0, 4, 9048, 9050, 7, 7008, 9051], 0), []), none, none, some ((.iconst 1, 1, [], 0), [true, true, true]), some ((.ireturn, 1, [], 0), [])]])
def kX4_readFeast : zMeth := (yX4_readFeast, cX4_readFeast, 5, (some .boolean), { frames := 3, cells := 0, slots := 0, locals := 66 }, [
  [some ((.aload_n 1, 1, [], 0), []), some ((.getfield 148, 3, [1, 8, 7214], 0), []), none, none, some ((.istore_n 2, 1, [], 0), []), some ((.iload_n 2, 1, [], 0), []), some ((.iconst 2, 1, [], 0), []), some ((.if_icmp .lt 9, 3, [], 0), []), none, none, some ((.aload_n 0, 1, [], 0), []), some ((.iconst 3, 1, [], 0), []), some ((.invokevirtual 122, 3, [0, 42, 2, 0, 0, 4, 9044, 9046, 6, 7008, 9047], 0), []), none, none, some ((.ireturn, 1, [], 0), [true, true, true])],
  [some ((.aload_n 0, 1, [], 0), []), some ((.invokevirtual 125, 3, [0, 43, 1, 0, 0, 4, 9048, 9050, 7, 7008, 9051], 0), []), none, none, some ((.aload_n 0, 1, [], 0), []), some ((.getfield 24, 3, [4, 5, 7120], 0), []), none, none, some ((.aload_n 0, 1, [], 0), []), some ((.getfield 38, 3, [4, 9, 7124], 0), []), none, none, some ((.iaload, 1, [], 0), []), some ((.bipush 19, 2, [], 0), []), none, some ((.if_icmp .le 9, 3, [], 0), [])],
  [none, none, some ((.aload_n 0, 1, [], 0), []), some ((.iconst 1, 1, [], 0), []), some ((.invokevirtual 122, 3, [0, 42, 2, 0, 0, 4, 9044, 9046, 6, 7008, 9047], 0), []), none, none, some ((.ireturn, 1, [], 0), [true, true, true]), some ((.aload_n 0, 1, [], 0), []), some ((.getfield 31, 3, [4, 7, 7122], 0), []), none, none, some ((.aload_n 0, 1, [], 0), []), some ((.getfield 38, 3, [4, 9, 7124], 0), []), none, none],
  [some ((.laload, 1, [], 0), []), some ((.lstore_n 3, 1, [], 0), []), some ((.aload_n 0, 1, [], 0), []), some ((.getfield 24, 3, [4, 5, 7120], 0), []), none, none, some ((.aload_n 0, 1, [], 0), []), some ((.getfield 38, 3, [4, 9, 7124], 0), []), none, none, some ((.iaload, 1, [], 0), []), some ((.bipush 19, 2, [], 0), []), none, some ((.if_icmp .ne 20, 3, [], 0), []), none, none],
  [some ((.lload_n 3, 1, [], 0), []), some ((.ldc2_w 120, 3, [0, 9023], (-1)), []), none, none, some ((.lcmp, 1, [], 0), []), some ((.ifCond .eq 12, 3, [], 0), []), none, none, some ((.aload_n 1, 1, [], 0), []), some ((.lload_n 3, 1, [], 0), []), some ((.invokevirtual 151, 3, [0, 8, 2, 0, 0, 1, 9069, 9070, 9071, 7010, 9072], 0), []), none, none, some ((.iconst (-1), 1, [], 0), [false, false, false, false, true]), some ((.if_icmp .eq 9, 3, [], 0), []), none],
  [none, some ((.aload_n 0, 1, [], 0), [false, true, true, true, true]), some ((.iconst 2, 1, [], 0), []), some ((.invokevirtual 122, 3, [0, 42, 2, 0, 0, 4, 9044, 9046, 6, 7008, 9047], 0), []), none, none, some ((.ireturn, 1, [], 0), [true, true, true, true, true]), some ((.aload_n 0, 1, [], 0), []), some ((.invokevirtual 125, 3, [0, 43, 1, 0, 0, 4, 9048, 9050, 7, 7008, 9051], 0), []), none, none, some ((.aload_n 0, 1, [], 0), [false, false, false, false, true]), some ((.aload_n 1, 1, [], 0), []), some ((.invokevirtual 154, 3, [0, 50, 2, 0, 0, 4, 9073, 9075, 11, 7008, 9076], 0), []), none, none],
  [some ((.ifCond .ne 5, 3, [], 0), [false, false, false, false, true]), none, none, some ((.iconst 0, 1, [], 0), []), some ((.ireturn, 1, [], 0), []), some ((.aload_n 1, 1, [], 0), []), some ((.getfield 157, 3, [1, 1, 7188], 0), []), none, none, some ((.iload_n 2, 1, [], 0), []), some ((.lload_n 3, 1, [], 0), []), some ((.lastore, 1, [], 0), []), some ((.aload_n 1, 1, [], 0), []), some ((.getfield 160, 3, [1, 2, 7192], 0), []), none, none],
  [some ((.iload_n 2, 1, [], 0), []), some ((.aload_n 0, 1, [], 0), []), some ((.getfield 54, 3, [4, 14, 7129], 0), []), none, none, some ((.iastore, 1, [], 0), []), some ((.aload_n 1, 1, [], 0), []), some ((.dup, 1, [], 0), []), some ((.getfield 148, 3, [1, 8, 7214], 0), []), none, none, some ((.iconst 1, 1, [], 0), []), some ((.iadd, 1, [], 0), []), some ((.putfield 148, 3, [1, 8, 7214], 0), []), none, none],
  [some ((.iconst 1, 1, [], 0), []), some ((.ireturn, 1, [], 0), [])]])
def kX4_readFeastDays : zMeth := (yX4_readFeastDays, cX4_readFeastDays, 4, (some .boolean), { frames := 2, cells := 0, slots := 0, locals := 43 }, [
  [some ((.aload_n 0, 1, [], 0), []), some ((.iconst 0, 1, [], 0), []), some ((.putfield 54, 3, [4, 14, 7129], 0), []), none, none, some ((.iconst 0, 1, [], 0), []), some ((.istore_n 2, 1, [], 0), []), some ((.iload_n 2, 1, [], 0), [false, false, false, true]), some ((.aload_n 1, 1, [], 0), []), some ((.getfield 163, 3, [1, 6, 7207], 0), []), none, none, some ((.if_icmp .gt 85, 3, [], 0), []), none, none, some ((.iload_n 2, 1, [], 0), [])],
  [some ((.ifCond .eq 17, 3, [], 0), []), none, none, some ((.aload_n 0, 1, [], 0), []), some ((.getfield 24, 3, [4, 5, 7120], 0), []), none, none, some ((.aload_n 0, 1, [], 0), []), some ((.getfield 38, 3, [4, 9, 7124], 0), []), none, none, some ((.iaload, 1, [], 0), []), some ((.bipush 20, 2, [], 0), []), none, some ((.if_icmp .ne 67, 3, [], 0), []), none],
  [none, some ((.aload_n 0, 1, [], 0), [false, false, false, true]), some ((.iconst 0, 1, [], 0), []), some ((.aload_n 1, 1, [], 0), []), some ((.getfield 163, 3, [1, 6, 7207], 0), []), none, none, some ((.iconst 1, 1, [], 0), []), some ((.isub, 1, [], 0), []), some ((.invokevirtual 137, 3, [0, 45, 3, 0, 0, 4, 9052, 9054, 8, 7008, 9055], 0), []), none, none, some ((.ifCond .ne 5, 3, [], 0), [false, false, false, true]), none, none, some ((.iconst 0, 1, [], 0), [])],
  [some ((.ireturn, 1, [], 0), []), some ((.iconst 1, 1, [], 0), []), some ((.aload_n 0, 1, [], 0), []), some ((.getfield 31, 3, [4, 7, 7122], 0), []), none, none, some ((.aload_n 0, 1, [], 0), []), some ((.getfield 38, 3, [4, 9, 7124], 0), []), none, none, some ((.laload, 1, [], 0), []), some ((.l2i, 1, [], 0), []), some ((.ishl, 1, [], 0), []), some ((.istore_n 3, 1, [], 0), []), some ((.aload_n 0, 1, [], 0), []), some ((.getfield 54, 3, [4, 14, 7129], 0), [])],
  [none, none, some ((.iload_n 3, 1, [], 0), []), some ((.iand, 1, [], 0), []), some ((.ifCond .eq 9, 3, [], 0), []), none, none, some ((.aload_n 0, 1, [], 0), []), some ((.iconst 2, 1, [], 0), []), some ((.invokevirtual 122, 3, [0, 42, 2, 0, 0, 4, 9044, 9046, 6, 7008, 9047], 0), []), none, none, some ((.ireturn, 1, [], 0), [true, true, true, true]), some ((.aload_n 0, 1, [], 0), []), some ((.dup, 1, [], 0), []), some ((.getfield 54, 3, [4, 14, 7129], 0), [])],
  [none, none, some ((.iload_n 3, 1, [], 0), []), some ((.ior, 1, [], 0), []), some ((.putfield 54, 3, [4, 14, 7129], 0), []), none, none, some ((.aload_n 0, 1, [], 0), []), some ((.invokevirtual 125, 3, [0, 43, 1, 0, 0, 4, 9048, 9050, 7, 7008, 9051], 0), []), none, none, some ((.iinc 2 1, 3, [], 0), [false, false, false, true]), none, none, some ((.goto (-87), 3, [], 0), []), none],
  [none, some ((.iconst 1, 1, [], 0), [true, true, true, true]), some ((.ireturn, 1, [], 0), [])]])
def kX4_readTrain : zMeth := (yX4_readTrain, cX4_readTrain, 3, (some .boolean), { frames := 5, cells := 0, slots := 0, locals := 113 }, [
  [some ((.aload_n 1, 1, [], 0), []), some ((.getfield 166, 3, [1, 9, 7217], 0), []), none, none, some ((.istore_n 2, 1, [], 0), []), some ((.iload_n 2, 1, [], 0), []), some ((.bipush 6, 2, [], 0), []), none, some ((.if_icmp .lt 9, 3, [], 0), []), none, none, some ((.aload_n 0, 1, [], 0), []), some ((.iconst 3, 1, [], 0), []), some ((.invokevirtual 122, 3, [0, 42, 2, 0, 0, 4, 9044, 9046, 6, 7008, 9047], 0), []), none, none],
  [some ((.ireturn, 1, [], 0), [true, true, true]), some ((.aload_n 0, 1, [], 0), []), some ((.invokevirtual 125, 3, [0, 43, 1, 0, 0, 4, 9048, 9050, 7, 7008, 9051], 0), []), none, none, some ((.aload_n 0, 1, [], 0), []), some ((.iconst 0, 1, [], 0), []), some ((.bipush 9, 2, [], 0), []), none, some ((.invokevirtual 137, 3, [0, 45, 3, 0, 0, 4, 9052, 9054, 8, 7008, 9055], 0), []), none, none, some ((.ifCond .ne 5, 3, [], 0), []), none, none, some ((.iconst 0, 1, [], 0), [])],
  [some ((.ireturn, 1, [], 0), []), some ((.aload_n 1, 1, [], 0), []), some ((.getfield 169, 3, [1, 3, 7195], 0), []), none, none, some ((.iload_n 2, 1, [], 0), []), some ((.aload_n 0, 1, [], 0), []), some ((.getfield 31, 3, [4, 7, 7122], 0), []), none, none, some ((.aload_n 0, 1, [], 0), []), some ((.getfield 38, 3, [4, 9, 7124], 0), []), none, none, some ((.laload, 1, [], 0), []), some ((.l2i, 1, [], 0), [])],
  [some ((.iastore, 1, [], 0), []), some ((.aload_n 0, 1, [], 0), []), some ((.invokevirtual 125, 3, [0, 43, 1, 0, 0, 4, 9048, 9050, 7, 7008, 9051], 0), []), none, none, some ((.aload_n 0, 1, [], 0), []), some ((.iconst 5, 1, [], 0), []), some ((.invokevirtual 74, 3, [0, 44, 2, 0, 0, 4, 9040, 9042, 5, 7008, 9043], 0), []), none, none, some ((.ifCond .eq 14, 3, [], 0), []), none, none, some ((.aload_n 0, 1, [], 0), []), some ((.iconst 0, 1, [], 0), []), some ((.sipush 1439, 3, [], 0), [])],
  [none, none, some ((.invokevirtual 137, 3, [0, 45, 3, 0, 0, 4, 9052, 9054, 8, 7008, 9055], 0), []), none, none, some ((.ifCond .ne 5, 3, [], 0), []), none, none, some ((.iconst 0, 1, [], 0), [true, true, true]), some ((.ireturn, 1, [], 0), []), some ((.aload_n 1, 1, [], 0), []), some ((.getfield 172, 3, [1, 4, 7198], 0), []), none, none, some ((.iload_n 2, 1, [], 0), []), some ((.aload_n 0, 1, [], 0), [])],
  [some ((.getfield 31, 3, [4, 7, 7122], 0), []), none, none, some ((.aload_n 0, 1, [], 0), []), some ((.getfield 38, 3, [4, 9, 7124], 0), []), none, none, some ((.laload, 1, [], 0), []), some ((.l2i, 1, [], 0), []), some ((.iastore, 1, [], 0), []), some ((.aload_n 0, 1, [], 0), []), some ((.invokevirtual 125, 3, [0, 43, 1, 0, 0, 4, 9048, 9050, 7, 7008, 9051], 0), []), none, none, some ((.aload_n 0, 1, [], 0), []), some ((.bipush 22, 2, [], 0), [])],
  [none, some ((.invokevirtual 74, 3, [0, 44, 2, 0, 0, 4, 9040, 9042, 5, 7008, 9043], 0), []), none, none, some ((.ifCond .eq 11, 3, [], 0), []), none, none, some ((.aload_n 0, 1, [], 0), []), some ((.aload_n 1, 1, [], 0), []), some ((.invokevirtual 81, 3, [0, 52, 2, 0, 0, 4, 9081, 9083, 13, 7008, 9084], 0), []), none, none, some ((.ifCond .ne 5, 3, [], 0), []), none, none, some ((.iconst 0, 1, [], 0), [true, true, true])],
  [some ((.ireturn, 1, [], 0), []), some ((.aload_n 1, 1, [], 0), []), some ((.getfield 175, 3, [1, 5, 7202], 0), []), none, none, some ((.iload_n 2, 1, [], 0), []), some ((.aload_n 0, 1, [], 0), []), some ((.getfield 18, 3, [4, 2, 7115], 0), []), none, none, some ((.iastore, 1, [], 0), []), some ((.aload_n 1, 1, [], 0), []), some ((.dup, 1, [], 0), []), some ((.getfield 166, 3, [1, 9, 7217], 0), []), none, none],
  [some ((.iconst 1, 1, [], 0), []), some ((.iadd, 1, [], 0), []), some ((.putfield 166, 3, [1, 9, 7217], 0), []), none, none, some ((.iconst 1, 1, [], 0), []), some ((.ireturn, 1, [], 0), [])]])
def kX4_readWording : zMeth := (yX4_readWording, cX4_readWording, 3, (some .boolean), { frames := 4, cells := 0, slots := 0, locals := 91 }, [
  [some ((.aload_n 0, 1, [], 0), []), some ((.getfield 38, 3, [4, 9, 7124], 0), []), none, none, some ((.istore_n 2, 1, [], 0), []), some ((.aload_n 0, 1, [], 0), []), some ((.iconst 0, 1, [], 0), []), some ((.putfield 18, 3, [4, 2, 7115], 0), []), none, none, some ((.aload_n 0, 1, [], 0), []), some ((.getfield 24, 3, [4, 5, 7120], 0), []), none, none, some ((.aload_n 0, 1, [], 0), []), some ((.getfield 38, 3, [4, 9, 7124], 0), [])],
  [none, none, some ((.iaload, 1, [], 0), []), some ((.bipush 6, 2, [], 0), []), none, some ((.if_icmp .ne 10, 3, [], 0), []), none, none, some ((.aload_n 0, 1, [], 0), []), some ((.invokevirtual 125, 3, [0, 43, 1, 0, 0, 4, 9048, 9050, 7, 7008, 9051], 0), []), none, none, some ((.goto 35, 3, [], 0), [false, true]), none, none, some ((.aload_n 0, 1, [], 0), [])],
  [some ((.aload_n 1, 1, [], 0), []), some ((.invokevirtual 178, 3, [0, 53, 2, 0, 0, 4, 9085, 9087, 14, 7008, 9088], 0), []), none, none, some ((.ifCond .eq 11, 3, [], 0), []), none, none, some ((.aload_n 0, 1, [], 0), []), some ((.aload_n 1, 1, [], 0), []), some ((.invokevirtual 181, 3, [0, 56, 2, 0, 0, 4, 9097, 9099, 1001, 7008, 9100], 0), []), none, none, some ((.ifCond .ne 5, 3, [], 0), [false, true]), none, none, some ((.iconst 0, 1, [], 0), [true, true, true])],
  [some ((.ireturn, 1, [], 0), []), some ((.aload_n 0, 1, [], 0), []), some ((.getfield 38, 3, [4, 9, 7124], 0), []), none, none, some ((.iload_n 2, 1, [], 0), []), some ((.if_icmp .ne 9, 3, [], 0), []), none, none, some ((.aload_n 0, 1, [], 0), []), some ((.iconst 1, 1, [], 0), []), some ((.invokevirtual 122, 3, [0, 42, 2, 0, 0, 4, 9044, 9046, 6, 7008, 9047], 0), []), none, none, some ((.ireturn, 1, [], 0), [true, true, true]), some ((.aload_n 0, 1, [], 0), [false, true])],
  [some ((.aload_n 0, 1, [], 0), []), some ((.getfield 38, 3, [4, 9, 7124], 0), []), none, none, some ((.iload_n 2, 1, [], 0), []), some ((.isub, 1, [], 0), []), some ((.putfield 21, 3, [4, 3, 7117], 0), []), none, none, some ((.iconst 1, 1, [], 0), []), some ((.ireturn, 1, [], 0), [])]])
def kX4_readSpans : zMeth := (yX4_readSpans, cX4_readSpans, 4, (some .boolean), { frames := 3, cells := 0, slots := 0, locals := 65 }, [
  [some ((.aload_n 0, 1, [], 0), []), some ((.iconst (-1), 1, [], 0), []), some ((.putfield 47, 3, [4, 12, 7127], 0), []), none, none, some ((.aload_n 0, 1, [], 0), []), some ((.iconst 1, 1, [], 0), []), some ((.putfield 50, 3, [4, 13, 7128], 0), []), none, none, some ((.iconst 0, 1, [], 0), []), some ((.istore_n 2, 1, [], 0), []), some ((.iload_n 2, 1, [], 0), [false, false, false, true]), some ((.aload_n 1, 1, [], 0), []), some ((.getfield 163, 3, [1, 6, 7207], 0), []), none],
  [none, some ((.if_icmp .gt 90, 3, [], 0), []), none, none, some ((.aload_n 0, 1, [], 0), []), some ((.getfield 50, 3, [4, 13, 7128], 0), []), none, none, some ((.ifCond .eq 83, 3, [], 0), []), none, none, some ((.aload_n 0, 1, [], 0), []), some ((.invokevirtual 141, 3, [0, 46, 1, 0, 0, 4, 9056, 9058, 9, 7008, 9059], 0), []), none, none, some ((.ifCond .ne 17, 3, [], 0), [false, false, false, true])],
  [none, none, some ((.aload_n 0, 1, [], 0), []), some ((.getfield 24, 3, [4, 5, 7120], 0), []), none, none, some ((.aload_n 0, 1, [], 0), []), some ((.getfield 38, 3, [4, 9, 7124], 0), []), none, none, some ((.iaload, 1, [], 0), []), some ((.bipush 7, 2, [], 0), []), none, some ((.if_icmp .ne 62, 3, [], 0), []), none, none],
  [some ((.aload_n 0, 1, [], 0), [false, false, false, true]), some ((.invokevirtual 184, 3, [0, 54, 1, 0, 0, 4, 9089, 9091, 15, 7008, 9092], 0), []), none, none, some ((.ifCond .eq 11, 3, [], 0), [false, false, false, true]), none, none, some ((.aload_n 0, 1, [], 0), []), some ((.aload_n 1, 1, [], 0), []), some ((.invokevirtual 187, 3, [0, 55, 2, 0, 0, 4, 9093, 9095, 1000, 7008, 9096], 0), []), none, none, some ((.ifCond .ne 5, 3, [], 0), [false, false, false, true]), none, none, some ((.iconst 0, 1, [], 0), [true, true, true, true])],
  [some ((.ireturn, 1, [], 0), []), some ((.iconst 1, 1, [], 0), []), some ((.aload_n 0, 1, [], 0), []), some ((.getfield 47, 3, [4, 12, 7127], 0), []), none, none, some ((.iconst 1, 1, [], 0), []), some ((.iadd, 1, [], 0), []), some ((.ishl, 1, [], 0), []), some ((.iconst 1, 1, [], 0), []), some ((.aload_n 0, 1, [], 0), []), some ((.getfield 44, 3, [4, 11, 7126], 0), []), none, none, some ((.ishl, 1, [], 0), []), some ((.isub, 1, [], 0), [])],
  [some ((.istore_n 3, 1, [], 0), []), some ((.aload_n 0, 1, [], 0), []), some ((.dup, 1, [], 0), []), some ((.getfield 18, 3, [4, 2, 7115], 0), []), none, none, some ((.iload_n 3, 1, [], 0), []), some ((.aload_n 1, 1, [], 0), []), some ((.getfield 190, 3, [1, 0, 7185], 0), []), none, none, some ((.aload_n 0, 1, [], 0), []), some ((.getfield 41, 3, [4, 10, 7125], 0), []), none, none, some ((.iaload, 1, [], 0), [])],
  [some ((.iand, 1, [], 0), []), some ((.ior, 1, [], 0), []), some ((.putfield 18, 3, [4, 2, 7115], 0), []), none, none, some ((.iinc 2 1, 3, [], 0), [false, false, false, true]), none, none, some ((.goto (-92), 3, [], 0), []), none, none, some ((.iconst 1, 1, [], 0), [true, true, true, true]), some ((.ireturn, 1, [], 0), [])]])
def kX4_readPattern : zMeth := (yX4_readPattern, cX4_readPattern, 5, (some .boolean), { frames := 1, cells := 0, slots := 0, locals := 21 }, [
  [some ((.aload_n 0, 1, [], 0), []), some ((.getfield 24, 3, [4, 5, 7120], 0), []), none, none, some ((.aload_n 0, 1, [], 0), []), some ((.getfield 38, 3, [4, 9, 7124], 0), []), none, none, some ((.iaload, 1, [], 0), []), some ((.bipush 7, 2, [], 0), []), none, some ((.if_icmp .ne 15, 3, [], 0), []), none, none, some ((.aload_n 0, 1, [], 0), []), some ((.bipush 127, 2, [], 0), [])],
  [none, some ((.putfield 41, 3, [4, 10, 7125], 0), []), none, none, some ((.aload_n 0, 1, [], 0), []), some ((.invokevirtual 125, 3, [0, 43, 1, 0, 0, 4, 9048, 9050, 7, 7008, 9051], 0), []), none, none, some ((.iconst 1, 1, [], 0), [true]), some ((.ireturn, 1, [], 0), []), some ((.aload_n 0, 1, [], 0), []), some ((.iconst 0, 1, [], 0), []), some ((.putfield 41, 3, [4, 10, 7125], 0), []), none, none, some ((.iconst 0, 1, [], 0), [])],
  [some ((.istore_n 1, 1, [], 0), []), some ((.iconst 0, 1, [], 0), []), some ((.istore_n 2, 1, [], 0), []), some ((.iload_n 2, 1, [], 0), [false, false, false, true, true]), some ((.bipush 7, 2, [], 0), []), none, some ((.if_icmp .gt 129, 3, [], 0), []), none, none, some ((.aload_n 0, 1, [], 0), []), some ((.invokevirtual 141, 3, [0, 46, 1, 0, 0, 4, 9056, 9058, 9, 7008, 9059], 0), []), none, none, some ((.ifCond .eq 122, 3, [], 0), [false, false, false, true, true]), none, none],
  [some ((.aload_n 0, 1, [], 0), []), some ((.getfield 24, 3, [4, 5, 7120], 0), []), none, none, some ((.aload_n 0, 1, [], 0), []), some ((.getfield 38, 3, [4, 9, 7124], 0), []), none, none, some ((.iaload, 1, [], 0), []), some ((.bipush 12, 2, [], 0), []), none, some ((.isub, 1, [], 0), []), some ((.istore_n 3, 1, [], 0), []), some ((.iload_n 3, 1, [], 0), []), some ((.iload_n 1, 1, [], 0), []), some ((.if_icmp .ge 9, 3, [], 0), [])],
  [none, none, some ((.aload_n 0, 1, [], 0), []), some ((.iconst 2, 1, [], 0), []), some ((.invokevirtual 122, 3, [0, 42, 2, 0, 0, 4, 9044, 9046, 6, 7008, 9047], 0), []), none, none, some ((.ireturn, 1, [], 0), [true, true, true, true, true]), some ((.aload_n 0, 1, [], 0), []), some ((.invokevirtual 125, 3, [0, 43, 1, 0, 0, 4, 9048, 9050, 7, 7008, 9051], 0), []), none, none, some ((.iload_n 3, 1, [], 0), [false, true, false, false, true]), some ((.istore 4, 2, [], 0), []), none, some ((.aload_n 0, 1, [], 0), [])],
  [some ((.getfield 24, 3, [4, 5, 7120], 0), []), none, none, some ((.aload_n 0, 1, [], 0), []), some ((.getfield 38, 3, [4, 9, 7124], 0), []), none, none, some ((.iaload, 1, [], 0), []), some ((.bipush 23, 2, [], 0), []), none, some ((.if_icmp .ne 50, 3, [], 0), []), none, none, some ((.aload_n 0, 1, [], 0), []), some ((.invokevirtual 125, 3, [0, 43, 1, 0, 0, 4, 9048, 9050, 7, 7008, 9051], 0), []), none],
  [none, some ((.aload_n 0, 1, [], 0), [false, true, false, false, true]), some ((.invokevirtual 141, 3, [0, 46, 1, 0, 0, 4, 9056, 9058, 9, 7008, 9059], 0), []), none, none, some ((.ifCond .ne 9, 3, [], 0), [false, true, false, false, true]), none, none, some ((.aload_n 0, 1, [], 0), []), some ((.iconst 1, 1, [], 0), []), some ((.invokevirtual 122, 3, [0, 42, 2, 0, 0, 4, 9044, 9046, 6, 7008, 9047], 0), []), none, none, some ((.ireturn, 1, [], 0), [true, true, true, true, true]), some ((.aload_n 0, 1, [], 0), []), some ((.getfield 24, 3, [4, 5, 7120], 0), [])],
  [none, none, some ((.aload_n 0, 1, [], 0), []), some ((.getfield 38, 3, [4, 9, 7124], 0), []), none, none, some ((.iaload, 1, [], 0), []), some ((.bipush 12, 2, [], 0), []), none, some ((.isub, 1, [], 0), []), some ((.istore 4, 2, [], 0), []), none, some ((.iload 4, 2, [], 0), []), none, some ((.iload_n 3, 1, [], 0), []), some ((.if_icmp .gt 9, 3, [], 0), [])],
  [none, none, some ((.aload_n 0, 1, [], 0), []), some ((.iconst 2, 1, [], 0), []), some ((.invokevirtual 122, 3, [0, 42, 2, 0, 0, 4, 9044, 9046, 6, 7008, 9047], 0), []), none, none, some ((.ireturn, 1, [], 0), [true, true, true, true, true]), some ((.aload_n 0, 1, [], 0), []), some ((.invokevirtual 125, 3, [0, 43, 1, 0, 0, 4, 9048, 9050, 7, 7008, 9051], 0), []), none, none, some ((.iload 4, 2, [], 0), [false, true]), none, some ((.iconst 1, 1, [], 0), []), some ((.iadd, 1, [], 0), [])],
  [some ((.istore_n 1, 1, [], 0), []), some ((.aload_n 0, 1, [], 0), []), some ((.dup, 1, [], 0), []), some ((.getfield 41, 3, [4, 10, 7125], 0), []), none, none, some ((.iconst 1, 1, [], 0), []), some ((.iload_n 1, 1, [], 0), []), some ((.ishl, 1, [], 0), []), some ((.iconst 1, 1, [], 0), []), some ((.iload_n 3, 1, [], 0), []), some ((.ishl, 1, [], 0), []), some ((.isub, 1, [], 0), []), some ((.ior, 1, [], 0), []), some ((.putfield 41, 3, [4, 10, 7125], 0), []), none],
  [none, some ((.iinc 2 1, 3, [], 0), []), none, none, some ((.goto (-129), 3, [], 0), []), none, none, some ((.iconst 1, 1, [], 0), [true, true, true, true, true]), some ((.ireturn, 1, [], 0), [])]])
def kX4_readBounds : zMeth := (yX4_readBounds, cX4_readBounds, 3, (some .boolean), { frames := 2, cells := 0, slots := 0, locals := 43 }, [
  [some ((.aload_n 0, 1, [], 0), []), some ((.getfield 47, 3, [4, 12, 7127], 0), []), none, none, some ((.iconst 1, 1, [], 0), []), some ((.iadd, 1, [], 0), []), some ((.istore_n 2, 1, [], 0), []), some ((.aload_n 0, 1, [], 0), []), some ((.iconst 0, 1, [], 0), []), some ((.putfield 44, 3, [4, 11, 7126], 0), []), none, none, some ((.aload_n 0, 1, [], 0), []), some ((.getfield 24, 3, [4, 5, 7120], 0), []), none, none],
  [some ((.aload_n 0, 1, [], 0), []), some ((.getfield 38, 3, [4, 9, 7124], 0), []), none, none, some ((.iaload, 1, [], 0), []), some ((.bipush 8, 2, [], 0), []), none, some ((.if_icmp .ne 44, 3, [], 0), []), none, none, some ((.aload_n 0, 1, [], 0), []), some ((.invokevirtual 125, 3, [0, 43, 1, 0, 0, 4, 9048, 9050, 7, 7008, 9051], 0), []), none, none, some ((.aload_n 0, 1, [], 0), []), some ((.iload_n 2, 1, [], 0), [])],
  [some ((.aload_n 1, 1, [], 0), []), some ((.getfield 163, 3, [1, 6, 7207], 0), []), none, none, some ((.iconst 1, 1, [], 0), []), some ((.isub, 1, [], 0), []), some ((.invokevirtual 137, 3, [0, 45, 3, 0, 0, 4, 9052, 9054, 8, 7008, 9055], 0), []), none, none, some ((.ifCond .ne 5, 3, [], 0), [false, false, true]), none, none, some ((.iconst 0, 1, [], 0), []), some ((.ireturn, 1, [], 0), []), some ((.aload_n 0, 1, [], 0), []), some ((.aload_n 0, 1, [], 0), [])],
  [some ((.getfield 31, 3, [4, 7, 7122], 0), []), none, none, some ((.aload_n 0, 1, [], 0), []), some ((.getfield 38, 3, [4, 9, 7124], 0), []), none, none, some ((.laload, 1, [], 0), []), some ((.l2i, 1, [], 0), []), some ((.putfield 44, 3, [4, 11, 7126], 0), []), none, none, some ((.aload_n 0, 1, [], 0), []), some ((.invokevirtual 125, 3, [0, 43, 1, 0, 0, 4, 9048, 9050, 7, 7008, 9051], 0), []), none, none],
  [some ((.goto 13, 3, [], 0), [false, false, true]), none, none, some ((.iload_n 2, 1, [], 0), []), some ((.ifCond .le 9, 3, [], 0), []), none, none, some ((.aload_n 0, 1, [], 0), []), some ((.iconst 1, 1, [], 0), []), some ((.invokevirtual 122, 3, [0, 42, 2, 0, 0, 4, 9044, 9046, 6, 7008, 9047], 0), []), none, none, some ((.ireturn, 1, [], 0), [true, true, true]), some ((.aload_n 0, 1, [], 0), [false, false, true]), some ((.aload_n 1, 1, [], 0), []), some ((.getfield 163, 3, [1, 6, 7207], 0), [])],
  [none, none, some ((.iconst 1, 1, [], 0), []), some ((.isub, 1, [], 0), []), some ((.putfield 47, 3, [4, 12, 7127], 0), []), none, none, some ((.aload_n 0, 1, [], 0), []), some ((.aload_n 0, 1, [], 0), []), some ((.getfield 24, 3, [4, 5, 7120], 0), []), none, none, some ((.aload_n 0, 1, [], 0), []), some ((.getfield 38, 3, [4, 9, 7124], 0), []), none, none],
  [some ((.iaload, 1, [], 0), []), some ((.bipush 9, 2, [], 0), []), none, some ((.if_icmp .ne 7, 3, [], 0), []), none, none, some ((.iconst 1, 1, [], 0), []), some ((.goto 4, 3, [], 0), []), none, none, some ((.iconst 0, 1, [], 0), []), some ((.putfield 50, 3, [4, 13, 7128], 0), [false, false, true]), none, none, some ((.aload_n 0, 1, [], 0), []), some ((.getfield 50, 3, [4, 13, 7128], 0), [])],
  [none, none, some ((.ifCond .eq 44, 3, [], 0), []), none, none, some ((.aload_n 0, 1, [], 0), []), some ((.invokevirtual 125, 3, [0, 43, 1, 0, 0, 4, 9048, 9050, 7, 7008, 9051], 0), []), none, none, some ((.aload_n 0, 1, [], 0), [false, false, true]), some ((.aload_n 0, 1, [], 0), []), some ((.getfield 44, 3, [4, 11, 7126], 0), []), none, none, some ((.aload_n 1, 1, [], 0), []), some ((.getfield 163, 3, [1, 6, 7207], 0), [])],
  [none, none, some ((.iconst 1, 1, [], 0), []), some ((.isub, 1, [], 0), []), some ((.invokevirtual 137, 3, [0, 45, 3, 0, 0, 4, 9052, 9054, 8, 7008, 9055], 0), []), none, none, some ((.ifCond .ne 5, 3, [], 0), [false, true, true]), none, none, some ((.iconst 0, 1, [], 0), []), some ((.ireturn, 1, [], 0), []), some ((.aload_n 0, 1, [], 0), []), some ((.aload_n 0, 1, [], 0), []), some ((.getfield 31, 3, [4, 7, 7122], 0), []), none],
  [none, some ((.aload_n 0, 1, [], 0), []), some ((.getfield 38, 3, [4, 9, 7124], 0), []), none, none, some ((.laload, 1, [], 0), []), some ((.l2i, 1, [], 0), []), some ((.putfield 47, 3, [4, 12, 7127], 0), []), none, none, some ((.aload_n 0, 1, [], 0), []), some ((.invokevirtual 125, 3, [0, 43, 1, 0, 0, 4, 9048, 9050, 7, 7008, 9051], 0), []), none, none, some ((.iconst 1, 1, [], 0), [true, true, true]), some ((.ireturn, 1, [], 0), [])]])
def kX4_readExceptions : zMeth := (yX4_readExceptions, cX4_readExceptions, 2, (some .boolean), { frames := 3, cells := 0, slots := 0, locals := 70 }, [
  [some ((.aload_n 0, 1, [], 0), []), some ((.getfield 24, 3, [4, 5, 7120], 0), []), none, none, some ((.aload_n 0, 1, [], 0), []), some ((.getfield 38, 3, [4, 9, 7124], 0), []), none, none, some ((.iaload, 1, [], 0), []), some ((.bipush 10, 2, [], 0), []), none, some ((.if_icmp .ne 32, 3, [], 0), []), none, none, some ((.aload_n 0, 1, [], 0), []), some ((.invokevirtual 125, 3, [0, 43, 1, 0, 0, 4, 9048, 9050, 7, 7008, 9051], 0), [])],
  [none, none, some ((.aload_n 0, 1, [], 0), []), some ((.aload_n 1, 1, [], 0), []), some ((.invokevirtual 193, 3, [0, 57, 2, 0, 0, 4, 9101, 9103, 1002, 7008, 9104], 0), []), none, none, some ((.ifCond .ne 5, 3, [], 0), []), none, none, some ((.iconst 0, 1, [], 0), []), some ((.ireturn, 1, [], 0), []), some ((.aload_n 0, 1, [], 0), []), some ((.dup, 1, [], 0), []), some ((.getfield 18, 3, [4, 2, 7115], 0), []), none],
  [none, some ((.aload_n 0, 1, [], 0), []), some ((.getfield 54, 3, [4, 14, 7129], 0), []), none, none, some ((.iconst (-1), 1, [], 0), []), some ((.ixor, 1, [], 0), []), some ((.iand, 1, [], 0), []), some ((.putfield 18, 3, [4, 2, 7115], 0), []), none, none, some ((.aload_n 0, 1, [], 0), []), some ((.getfield 24, 3, [4, 5, 7120], 0), []), none, none, some ((.aload_n 0, 1, [], 0), [])],
  [some ((.getfield 38, 3, [4, 9, 7124], 0), []), none, none, some ((.iaload, 1, [], 0), []), some ((.bipush 11, 2, [], 0), []), none, some ((.if_icmp .ne 30, 3, [], 0), []), none, none, some ((.aload_n 0, 1, [], 0), []), some ((.invokevirtual 125, 3, [0, 43, 1, 0, 0, 4, 9048, 9050, 7, 7008, 9051], 0), []), none, none, some ((.aload_n 0, 1, [], 0), []), some ((.aload_n 1, 1, [], 0), []), some ((.invokevirtual 193, 3, [0, 57, 2, 0, 0, 4, 9101, 9103, 1002, 7008, 9104], 0), [])],
  [none, none, some ((.ifCond .ne 5, 3, [], 0), [false, true]), none, none, some ((.iconst 0, 1, [], 0), []), some ((.ireturn, 1, [], 0), []), some ((.aload_n 0, 1, [], 0), []), some ((.dup, 1, [], 0), []), some ((.getfield 18, 3, [4, 2, 7115], 0), []), none, none, some ((.aload_n 0, 1, [], 0), []), some ((.getfield 54, 3, [4, 14, 7129], 0), []), none, none],
  [some ((.ior, 1, [], 0), []), some ((.putfield 18, 3, [4, 2, 7115], 0), []), none, none, some ((.iconst 1, 1, [], 0), [true, true]), some ((.ireturn, 1, [], 0), [])]])
def kX4_readEntries : zMeth := (yX4_readEntries, cX4_readEntries, 8, (some .boolean), { frames := 2, cells := 0, slots := 0, locals := 43 }, [
  [some ((.aload_n 0, 1, [], 0), []), some ((.iconst 0, 1, [], 0), []), some ((.putfield 54, 3, [4, 14, 7129], 0), []), none, none, some ((.iconst 0, 1, [], 0), []), some ((.istore_n 2, 1, [], 0), []), some ((.iconst 0, 1, [], 0), []), some ((.istore_n 3, 1, [], 0), []), some ((.bipush 30, 2, [], 0), []), none, some ((.istore 4, 2, [], 0), []), none, some ((.iconst 0, 1, [], 0), []), some ((.istore 5, 2, [], 0), []), none],
  [some ((.iload 5, 2, [], 0), [false, false, false, false, false, false, true, true]), none, some ((.iload 4, 2, [], 0), []), none, some ((.if_icmp .gt 188, 3, [], 0), []), none, none, some ((.aload_n 0, 1, [], 0), []), some ((.getfield 24, 3, [4, 5, 7120], 0), []), none, none, some ((.aload_n 0, 1, [], 0), []), some ((.getfield 38, 3, [4, 9, 7124], 0), []), none, none, some ((.iaload, 1, [], 0), [])],
  [some ((.bipush 19, 2, [], 0), []), none, some ((.if_icmp .ne 19, 3, [], 0), []), none, none, some ((.aload_n 1, 1, [], 0), []), some ((.aload_n 0, 1, [], 0), []), some ((.getfield 31, 3, [4, 7, 7122], 0), []), none, none, some ((.aload_n 0, 1, [], 0), []), some ((.getfield 38, 3, [4, 9, 7124], 0), []), none, none, some ((.laload, 1, [], 0), []), some ((.invokevirtual 151, 3, [0, 8, 2, 0, 0, 1, 9069, 9070, 9071, 7010, 9072], 0), [])],
  [none, none, some ((.goto 4, 3, [], 0), [false, false, false, false, false, false, true, true]), none, none, some ((.iconst (-1), 1, [], 0), []), some ((.istore 6, 2, [], 0), [false, false, false, false, false, false, true, true]), none, some ((.iload 6, 2, [], 0), []), none, some ((.iconst (-1), 1, [], 0), []), some ((.if_icmp .eq 44, 3, [], 0), []), none, none, some ((.iload_n 2, 1, [], 0), []), some ((.iload 6, 2, [], 0), [])],
  [none, some ((.ishr, 1, [], 0), []), some ((.iconst 1, 1, [], 0), []), some ((.iand, 1, [], 0), []), some ((.ifCond .eq 9, 3, [], 0), []), none, none, some ((.aload_n 0, 1, [], 0), []), some ((.iconst 2, 1, [], 0), []), some ((.invokevirtual 122, 3, [0, 42, 2, 0, 0, 4, 9044, 9046, 6, 7008, 9047], 0), []), none, none, some ((.ireturn, 1, [], 0), [true, true, true, true, true, true, true, true]), some ((.iload_n 2, 1, [], 0), []), some ((.iconst 1, 1, [], 0), []), some ((.iload 6, 2, [], 0), [])],
  [none, some ((.ishl, 1, [], 0), []), some ((.ior, 1, [], 0), []), some ((.istore_n 2, 1, [], 0), []), some ((.aload_n 0, 1, [], 0), []), some ((.dup, 1, [], 0), []), some ((.getfield 54, 3, [4, 14, 7129], 0), []), none, none, some ((.aload_n 1, 1, [], 0), []), some ((.getfield 160, 3, [1, 2, 7192], 0), []), none, none, some ((.iload 6, 2, [], 0), []), none, some ((.iaload, 1, [], 0), [])],
  [some ((.ior, 1, [], 0), []), some ((.putfield 54, 3, [4, 14, 7129], 0), []), none, none, some ((.goto 98, 3, [], 0), []), none, none, some ((.aload_n 0, 1, [], 0), []), some ((.getfield 24, 3, [4, 5, 7120], 0), []), none, none, some ((.aload_n 0, 1, [], 0), []), some ((.getfield 38, 3, [4, 9, 7124], 0), []), none, none, some ((.iaload, 1, [], 0), [])],
  [some ((.bipush 20, 2, [], 0), []), none, some ((.if_icmp .ne 65, 3, [], 0), []), none, none, some ((.aload_n 0, 1, [], 0), []), some ((.iconst 0, 1, [], 0), []), some ((.aload_n 1, 1, [], 0), []), some ((.getfield 163, 3, [1, 6, 7207], 0), []), none, none, some ((.iconst 1, 1, [], 0), []), some ((.isub, 1, [], 0), []), some ((.invokevirtual 137, 3, [0, 45, 3, 0, 0, 4, 9052, 9054, 8, 7008, 9055], 0), []), none, none],
  [some ((.ifCond .ne 5, 3, [], 0), [false, false, false, false, false, false, true, true]), none, none, some ((.iconst 0, 1, [], 0), []), some ((.ireturn, 1, [], 0), []), some ((.iconst 1, 1, [], 0), []), some ((.aload_n 0, 1, [], 0), []), some ((.getfield 31, 3, [4, 7, 7122], 0), []), none, none, some ((.aload_n 0, 1, [], 0), []), some ((.getfield 38, 3, [4, 9, 7124], 0), []), none, none, some ((.laload, 1, [], 0), []), some ((.l2i, 1, [], 0), [])],
  [some ((.ishl, 1, [], 0), []), some ((.istore 7, 2, [], 0), []), none, some ((.iload_n 3, 1, [], 0), []), some ((.iload 7, 2, [], 0), []), none, some ((.iand, 1, [], 0), []), some ((.ifCond .eq 9, 3, [], 0), []), none, none, some ((.aload_n 0, 1, [], 0), []), some ((.iconst 2, 1, [], 0), []), some ((.invokevirtual 122, 3, [0, 42, 2, 0, 0, 4, 9044, 9046, 6, 7008, 9047], 0), []), none, none, some ((.ireturn, 1, [], 0), [true, true, true, true, true, true, true, true])],
  [some ((.iload_n 3, 1, [], 0), []), some ((.iload 7, 2, [], 0), []), none, some ((.ior, 1, [], 0), []), some ((.istore_n 3, 1, [], 0), []), some ((.aload_n 0, 1, [], 0), []), some ((.dup, 1, [], 0), []), some ((.getfield 54, 3, [4, 14, 7129], 0), []), none, none, some ((.iload 7, 2, [], 0), []), none, some ((.ior, 1, [], 0), []), some ((.putfield 54, 3, [4, 14, 7129], 0), []), none, none],
  [some ((.goto 22, 3, [], 0), []), none, none, some ((.iload 5, 2, [], 0), []), none, some ((.ifCond .gt 11, 3, [], 0), []), none, none, some ((.aload_n 0, 1, [], 0), []), some ((.iconst 1, 1, [], 0), []), some ((.invokevirtual 122, 3, [0, 42, 2, 0, 0, 4, 9044, 9046, 6, 7008, 9047], 0), []), none, none, some ((.ifCond .eq 7, 3, [], 0), [true, true, true, true, true, true, true, true]), none, none],
  [some ((.iconst 1, 1, [], 0), [true, true, true, true, true, true, true, true]), some ((.goto 4, 3, [], 0), []), none, none, some ((.iconst 0, 1, [], 0), []), some ((.ireturn, 1, [], 0), [true, true, true, true, true, true, true, true]), some ((.aload_n 0, 1, [], 0), [false, false, false, false, false, false, true, true]), some ((.invokevirtual 125, 3, [0, 43, 1, 0, 0, 4, 9048, 9050, 7, 7008, 9051], 0), []), none, none, some ((.iinc 5 1, 3, [], 0), [false, false, false, false, false, false, true, true]), none, none, some ((.goto (-189), 3, [], 0), []), none, none],
  [some ((.iconst 1, 1, [], 0), []), some ((.ireturn, 1, [], 0), [])]])
def kX5_init : zMeth := (yX5_init, cX5_init, 1, none, { frames := 1, cells := 2, slots := 232, locals := 20 }, [
  [some ((.aload_n 0, 1, [], 0), []), some ((.invokespecial 3, 3, [3, 8108, 7025, 7026], 0), []), none, none, some ((.aload_n 0, 1, [], 0), []), some ((.bipush 116, 2, [], 0), []), none, some ((.newarray .int, 2, [7161], 0), []), none, some ((.putfield 9, 3, [5, 0, 8109], 0), []), none, none, some ((.aload_n 0, 1, [], 0), []), some ((.bipush 116, 2, [], 0), []), none, some ((.newarray .long, 2, [7087], 0), [])],
  [none, some ((.putfield 15, 3, [5, 1, 8111], 0), []), none, none, some ((.return_, 1, [], 0), [])]])
def kX6_init : zMeth := (yX6_init, cX6_init, 1, none, { frames := 1, cells := 1, slots := 600, locals := 20 }, [
  [some ((.aload_n 0, 1, [], 0), []), some ((.invokespecial 3, 3, [3, 7094, 7025, 7026], 0), []), none, none, some ((.aload_n 0, 1, [], 0), []), some ((.sipush 600, 3, [], 0), []), none, none, some ((.newarray .byte, 2, [7088], 0), []), none, some ((.putfield 9, 3, [6, 0, 7095], 0), []), none, none, some ((.aload_n 0, 1, [], 0), []), some ((.iconst 0, 1, [], 0), []), some ((.putfield 15, 3, [6, 1, 7097], 0), [])],
  [none, none, some ((.return_, 1, [], 0), [])]])
def kX6_add : zMeth := (yX6_add, cX6_add, 3, none, { frames := 0, cells := 0, slots := 0, locals := 0 }, [
  [some ((.bipush 24, 2, [], 0), []), none, some ((.istore_n 2, 1, [], 0), []), some ((.iload_n 2, 1, [], 0), []), some ((.ifCond .lt 42, 3, [], 0), []), none, none, some ((.aload_n 0, 1, [], 0), []), some ((.getfield 15, 3, [6, 1, 7097], 0), []), none, none, some ((.sipush 600, 3, [], 0), []), none, none, some ((.if_icmp .ge 32, 3, [], 0), []), none],
  [none, some ((.aload_n 0, 1, [], 0), []), some ((.getfield 9, 3, [6, 0, 7095], 0), []), none, none, some ((.aload_n 0, 1, [], 0), []), some ((.getfield 15, 3, [6, 1, 7097], 0), []), none, none, some ((.iload_n 1, 1, [], 0), []), some ((.iload_n 2, 1, [], 0), []), some ((.ishr, 1, [], 0), []), some ((.i2b, 1, [], 0), []), some ((.bastore, 1, [], 0), []), some ((.aload_n 0, 1, [], 0), []), some ((.dup, 1, [], 0), [])],
  [some ((.getfield 15, 3, [6, 1, 7097], 0), []), none, none, some ((.iconst 1, 1, [], 0), []), some ((.iadd, 1, [], 0), []), some ((.putfield 15, 3, [6, 1, 7097], 0), []), none, none, some ((.iinc 2 (-8), 3, [], 0), []), none, none, some ((.goto (-40), 3, [], 0), []), none, none, some ((.return_, 1, [], 0), [true, true, true])]])
def kX7_init : zMeth := (yX7_init, cX7_init, 1, none, { frames := 1, cells := 4, slots := 384, locals := 20 }, [
  [some ((.aload_n 0, 1, [], 0), []), some ((.invokespecial 3, 3, [3, 8015, 7025, 7026], 0), []), none, none, some ((.aload_n 0, 1, [], 0), []), some ((.bipush 28, 2, [], 0), []), none, some ((.newarray .int, 2, [7161], 0), []), none, some ((.putfield 9, 3, [7, 0, 8016], 0), []), none, none, some ((.aload_n 0, 1, [], 0), []), some ((.bipush 28, 2, [], 0), []), none, some ((.newarray .int, 2, [7161], 0), [])],
  [none, some ((.putfield 15, 3, [7, 1, 8019], 0), []), none, none, some ((.aload_n 0, 1, [], 0), []), some ((.bipush 28, 2, [], 0), []), none, some ((.newarray .int, 2, [7161], 0), []), none, some ((.putfield 18, 3, [7, 2, 8023], 0), []), none, none, some ((.aload_n 0, 1, [], 0), []), some ((.sipush 300, 3, [], 0), []), none, none],
  [some ((.newarray .byte, 2, [7088], 0), []), none, some ((.putfield 21, 3, [7, 3, 8026], 0), []), none, none, some ((.aload_n 0, 1, [], 0), []), some ((.iconst 0, 1, [], 0), []), some ((.putfield 25, 3, [7, 4, 8029], 0), []), none, none, some ((.aload_n 0, 1, [], 0), []), some ((.iconst 0, 1, [], 0), []), some ((.putfield 29, 3, [7, 5, 8031], 0), []), none, none, some ((.aload_n 0, 1, [], 0), [])],
  [some ((.iconst 0, 1, [], 0), []), some ((.putfield 33, 3, [7, 6, 8034], 0), []), none, none, some ((.aload_n 0, 1, [], 0), []), some ((.lconst 0, 1, [], 0), []), some ((.putfield 36, 3, [7, 7, 8037], 0), []), none, none, some ((.aload_n 0, 1, [], 0), []), some ((.iconst 0, 1, [], 0), []), some ((.putfield 40, 3, [7, 8, 8040], 0), []), none, none, some ((.aload_n 0, 1, [], 0), []), some ((.iconst 0, 1, [], 0), [])],
  [some ((.putfield 43, 3, [7, 9, 8044], 0), []), none, none, some ((.aload_n 0, 1, [], 0), []), some ((.iconst 0, 1, [], 0), []), some ((.putfield 46, 3, [7, 10, 8048], 0), []), none, none, some ((.aload_n 0, 1, [], 0), []), some ((.iconst 0, 1, [], 0), []), some ((.putfield 49, 3, [7, 11, 8052], 0), []), none, none, some ((.aload_n 0, 1, [], 0), []), some ((.iconst 0, 1, [], 0), []), some ((.putfield 52, 3, [7, 12, 8056], 0), [])],
  [none, none, some ((.aload_n 0, 1, [], 0), []), some ((.iconst 0, 1, [], 0), []), some ((.putfield 55, 3, [7, 13, 8060], 0), []), none, none, some ((.return_, 1, [], 0), [])]])
def kX7_clear : zMeth := (yX7_clear, cX7_clear, 2, none, { frames := 0, cells := 0, slots := 0, locals := 0 }, [
  [some ((.aload_n 0, 1, [], 0), []), some ((.iconst 1, 1, [], 0), []), some ((.putfield 25, 3, [7, 4, 8029], 0), []), none, none, some ((.aload_n 0, 1, [], 0), []), some ((.iload_n 1, 1, [], 0), []), some ((.putfield 29, 3, [7, 5, 8031], 0), []), none, none, some ((.aload_n 0, 1, [], 0), []), some ((.iconst 0, 1, [], 0), []), some ((.putfield 40, 3, [7, 8, 8040], 0), []), none, none, some ((.aload_n 0, 1, [], 0), [])],
  [some ((.iconst 0, 1, [], 0), []), some ((.putfield 43, 3, [7, 9, 8044], 0), []), none, none, some ((.aload_n 0, 1, [], 0), []), some ((.iconst 0, 1, [], 0), []), some ((.putfield 46, 3, [7, 10, 8048], 0), []), none, none, some ((.aload_n 0, 1, [], 0), []), some ((.iconst 0, 1, [], 0), []), some ((.putfield 49, 3, [7, 11, 8052], 0), []), none, none, some ((.aload_n 0, 1, [], 0), []), some ((.iconst 0, 1, [], 0), [])],
  [some ((.putfield 52, 3, [7, 12, 8056], 0), []), none, none, some ((.aload_n 0, 1, [], 0), []), some ((.iconst 0, 1, [], 0), []), some ((.putfield 55, 3, [7, 13, 8060], 0), []), none, none, some ((.return_, 1, [], 0), [])]])
def kX7_addSpan : zMeth := (yX7_addSpan, cX7_addSpan, 4, none, { frames := 0, cells := 0, slots := 0, locals := 0 }, [
  [some ((.aload_n 0, 1, [], 0), []), some ((.getfield 40, 3, [7, 8, 8040], 0), []), none, none, some ((.bipush 28, 2, [], 0), []), none, some ((.if_icmp .ge 43, 3, [], 0), []), none, none, some ((.aload_n 0, 1, [], 0), []), some ((.getfield 9, 3, [7, 0, 8016], 0), []), none, none, some ((.aload_n 0, 1, [], 0), []), some ((.getfield 40, 3, [7, 8, 8040], 0), []), none],
  [none, some ((.iload_n 1, 1, [], 0), []), some ((.iastore, 1, [], 0), []), some ((.aload_n 0, 1, [], 0), []), some ((.getfield 15, 3, [7, 1, 8019], 0), []), none, none, some ((.aload_n 0, 1, [], 0), []), some ((.getfield 40, 3, [7, 8, 8040], 0), []), none, none, some ((.iload_n 2, 1, [], 0), []), some ((.iastore, 1, [], 0), []), some ((.aload_n 0, 1, [], 0), []), some ((.getfield 18, 3, [7, 2, 8023], 0), []), none],
  [none, some ((.aload_n 0, 1, [], 0), []), some ((.getfield 40, 3, [7, 8, 8040], 0), []), none, none, some ((.iload_n 3, 1, [], 0), []), some ((.iastore, 1, [], 0), []), some ((.aload_n 0, 1, [], 0), []), some ((.dup, 1, [], 0), []), some ((.getfield 40, 3, [7, 8, 8040], 0), []), none, none, some ((.iconst 1, 1, [], 0), []), some ((.iadd, 1, [], 0), []), some ((.putfield 40, 3, [7, 8, 8040], 0), []), none],
  [none, some ((.return_, 1, [], 0), [true, true, true, true])]])
def kX8_init : zMeth := (yX8_init, cX8_init, 2, none, { frames := 1, cells := 0, slots := 0, locals := 20 }, [
  [some ((.aload_n 0, 1, [], 0), []), some ((.invokespecial 3, 3, [3, 8099, 7025, 7026], 0), []), none, none, some ((.aload_n 0, 1, [], 0), []), some ((.aload_n 1, 1, [], 0), []), some ((.putfield 9, 3, [8, 0, 8100], 0), []), none, none, some ((.return_, 1, [], 0), [])]])
def kX8_write : zMeth := (yX8_write, cX8_write, 4, none, { frames := 4, cells := 0, slots := 0, locals := 94 }, [
  [some ((.aload_n 1, 1, [], 0), []), some ((.iconst 0, 1, [], 0), []), some ((.putfield 15, 3, [7, 13, 8061], 0), []), none, none, some ((.aload_n 1, 1, [], 0), []), some ((.getfield 21, 3, [7, 5, 8032], 0), []), none, none, some ((.ifCond .ne 18, 3, [], 0), []), none, none, some ((.aload_n 0, 1, [], 0), []), some ((.aload_n 1, 1, [], 0), []), some ((.aload_n 0, 1, [], 0), []), some ((.getfield 9, 3, [8, 0, 8100], 0), [])],
  [none, none, some ((.getfield 24, 3, [3, 0, 7083], 0), []), none, none, some ((.bipush 6, 2, [], 0), []), none, some ((.laload, 1, [], 0), []), some ((.invokevirtual 30, 3, [0, 68, 3, 0, 0, 8, 10030, 10032, 2005, 7013, 10033], 0), []), none, none, some ((.iconst 0, 1, [], 0), []), some ((.istore_n 3, 1, [], 0), []), some ((.iload_n 3, 1, [], 0), []), some ((.aload_n 1, 1, [], 0), []), some ((.getfield 34, 3, [7, 8, 8041], 0), [])],
  [none, none, some ((.if_icmp .ge 96, 3, [], 0), []), none, none, some ((.aload_n 0, 1, [], 0), []), some ((.aload_n 1, 1, [], 0), []), some ((.aload_n 1, 1, [], 0), []), some ((.getfield 37, 3, [7, 2, 8024], 0), []), none, none, some ((.iload_n 3, 1, [], 0), []), some ((.iaload, 1, [], 0), []), some ((.invokevirtual 41, 3, [0, 66, 3, 0, 0, 8, 10043, 10045, 2008, 7013, 10046], 0), []), none, none],
  [some ((.aload_n 1, 1, [], 0), []), some ((.getfield 45, 3, [7, 0, 8017], 0), []), none, none, some ((.iload_n 3, 1, [], 0), []), some ((.iaload, 1, [], 0), []), some ((.ifCond .le 29, 3, [], 0), []), none, none, some ((.aload_n 0, 1, [], 0), []), some ((.aload_n 1, 1, [], 0), []), some ((.aload_n 0, 1, [], 0), []), some ((.getfield 9, 3, [8, 0, 8100], 0), []), none, none, some ((.getfield 24, 3, [3, 0, 7083], 0), [])],
  [none, none, some ((.bipush 8, 2, [], 0), []), none, some ((.laload, 1, [], 0), []), some ((.invokevirtual 30, 3, [0, 68, 3, 0, 0, 8, 10030, 10032, 2005, 7013, 10033], 0), []), none, none, some ((.aload_n 0, 1, [], 0), []), some ((.aload_n 1, 1, [], 0), []), some ((.aload_n 1, 1, [], 0), []), some ((.getfield 45, 3, [7, 0, 8017], 0), []), none, none, some ((.iload_n 3, 1, [], 0), []), some ((.iaload, 1, [], 0), [])],
  [some ((.invokevirtual 48, 3, [0, 69, 3, 0, 0, 8, 10050, 10052, 2009, 7013, 10053], 0), []), none, none, some ((.aload_n 1, 1, [], 0), []), some ((.getfield 51, 3, [7, 1, 8020], 0), []), none, none, some ((.iload_n 3, 1, [], 0), []), some ((.iaload, 1, [], 0), []), some ((.aload_n 2, 1, [], 0), []), some ((.getfield 54, 3, [1, 6, 7204], 0), []), none, none, some ((.iconst 1, 1, [], 0), []), some ((.isub, 1, [], 0), []), some ((.if_icmp .ge 29, 3, [], 0), [])],
  [none, none, some ((.aload_n 0, 1, [], 0), []), some ((.aload_n 1, 1, [], 0), []), some ((.aload_n 0, 1, [], 0), []), some ((.getfield 9, 3, [8, 0, 8100], 0), []), none, none, some ((.getfield 24, 3, [3, 0, 7083], 0), []), none, none, some ((.bipush 9, 2, [], 0), []), none, some ((.laload, 1, [], 0), []), some ((.invokevirtual 30, 3, [0, 68, 3, 0, 0, 8, 10030, 10032, 2005, 7013, 10033], 0), []), none],
  [none, some ((.aload_n 0, 1, [], 0), []), some ((.aload_n 1, 1, [], 0), []), some ((.aload_n 1, 1, [], 0), []), some ((.getfield 51, 3, [7, 1, 8020], 0), []), none, none, some ((.iload_n 3, 1, [], 0), []), some ((.iaload, 1, [], 0), []), some ((.invokevirtual 48, 3, [0, 69, 3, 0, 0, 8, 10050, 10052, 2009, 7013, 10053], 0), []), none, none, some ((.iinc 3 1, 3, [], 0), []), none, none, some ((.goto (-98), 3, [], 0), [])],
  [none, none, some ((.aload_n 0, 1, [], 0), []), some ((.aload_n 1, 1, [], 0), []), some ((.aload_n 2, 1, [], 0), []), some ((.bipush 10, 2, [], 0), []), none, some ((.invokevirtual 59, 3, [0, 67, 4, 0, 0, 8, 10054, 10056, 2010, 7013, 10057], 0), []), none, none, some ((.aload_n 0, 1, [], 0), [false, false, false, true]), some ((.aload_n 1, 1, [], 0), []), some ((.aload_n 2, 1, [], 0), []), some ((.bipush 11, 2, [], 0), []), none, some ((.invokevirtual 59, 3, [0, 67, 4, 0, 0, 8, 10054, 10056, 2010, 7013, 10057], 0), [])],
  [none, none, some ((.return_, 1, [], 0), [true, true, true, true])]])
def kX8_writePattern : zMeth := (yX8_writePattern, cX8_writePattern, 5, none, { frames := 3, cells := 0, slots := 0, locals := 68 }, [
  [some ((.iload_n 2, 1, [], 0), []), some ((.bipush 127, 2, [], 0), []), none, some ((.if_icmp .ne 19, 3, [], 0), []), none, none, some ((.aload_n 0, 1, [], 0), []), some ((.aload_n 1, 1, [], 0), []), some ((.aload_n 0, 1, [], 0), []), some ((.getfield 9, 3, [8, 0, 8100], 0), []), none, none, some ((.getfield 24, 3, [3, 0, 7083], 0), []), none, none, some ((.bipush 7, 2, [], 0), [])],
  [none, some ((.laload, 1, [], 0), []), some ((.invokevirtual 30, 3, [0, 68, 3, 0, 0, 8, 10030, 10032, 2005, 7013, 10033], 0), []), none, none, some ((.return_, 1, [], 0), [true, true, true]), some ((.iconst 0, 1, [], 0), []), some ((.istore_n 3, 1, [], 0), []), some ((.iload_n 3, 1, [], 0), [false, false, false, false, true]), some ((.bipush 7, 2, [], 0), []), none, some ((.if_icmp .ge 86, 3, [], 0), []), none, none, some ((.iload_n 2, 1, [], 0), []), some ((.invokestatic 63, 3, [1, 121, 1, 0, 0, 7, 8122, 7001, 8123, 1], 0), [])],
  [none, none, some ((.iload_n 3, 1, [], 0), [false, false, false, false, true]), some ((.ishr, 1, [], 0), []), some ((.iconst 1, 1, [], 0), []), some ((.iand, 1, [], 0), []), some ((.ifCond .eq 69, 3, [], 0), []), none, none, some ((.iload_n 2, 1, [], 0), []), some ((.iload_n 3, 1, [], 0), []), some ((.invokestatic 67, 3, [1, 122, 2, 0, 0, 8, 8125, 7001, 8126, 1], 0), []), none, none, some ((.istore 4, 2, [], 0), [false, false, false, false, true]), none],
  [some ((.aload_n 0, 1, [], 0), []), some ((.aload_n 1, 1, [], 0), []), some ((.aload_n 0, 1, [], 0), []), some ((.getfield 9, 3, [8, 0, 8100], 0), []), none, none, some ((.getfield 24, 3, [3, 0, 7083], 0), []), none, none, some ((.bipush 12, 2, [], 0), []), none, some ((.iload_n 3, 1, [], 0), []), some ((.iadd, 1, [], 0), []), some ((.laload, 1, [], 0), []), some ((.invokevirtual 30, 3, [0, 68, 3, 0, 0, 8, 10030, 10032, 2005, 7013, 10033], 0), []), none],
  [none, some ((.iload 4, 2, [], 0), []), none, some ((.iconst 2, 1, [], 0), []), some ((.if_icmp .le 11, 3, [], 0), []), none, none, some ((.aload_n 0, 1, [], 0), []), some ((.aload_n 1, 1, [], 0), []), some ((.ldc2_w 71, 3, [0, 10049], 45), []), none, none, some ((.invokevirtual 30, 3, [0, 68, 3, 0, 0, 8, 10030, 10032, 2005, 7013, 10033], 0), []), none, none, some ((.iload 4, 2, [], 0), [])],
  [none, some ((.iconst 1, 1, [], 0), []), some ((.if_icmp .le 25, 3, [], 0), []), none, none, some ((.aload_n 0, 1, [], 0), []), some ((.aload_n 1, 1, [], 0), []), some ((.aload_n 0, 1, [], 0), []), some ((.getfield 9, 3, [8, 0, 8100], 0), []), none, none, some ((.getfield 24, 3, [3, 0, 7083], 0), []), none, none, some ((.bipush 12, 2, [], 0), []), none],
  [some ((.iload_n 3, 1, [], 0), []), some ((.iadd, 1, [], 0), []), some ((.iload 4, 2, [], 0), []), none, some ((.iadd, 1, [], 0), []), some ((.iconst 1, 1, [], 0), []), some ((.isub, 1, [], 0), []), some ((.laload, 1, [], 0), []), some ((.invokevirtual 30, 3, [0, 68, 3, 0, 0, 8, 10030, 10032, 2005, 7013, 10033], 0), []), none, none, some ((.iinc 3 1, 3, [], 0), [false, false, false, false, true]), none, none, some ((.goto (-86), 3, [], 0), []), none],
  [none, some ((.return_, 1, [], 0), [])]])
def kX8_writeEntries : zMeth := (yX8_writeEntries, cX8_writeEntries, 7, none, { frames := 3, cells := 0, slots := 0, locals := 68 }, [
  [some ((.iload_n 3, 1, [], 0), []), some ((.bipush 10, 2, [], 0), []), none, some ((.if_icmp .ne 10, 3, [], 0), []), none, none, some ((.aload_n 1, 1, [], 0), []), some ((.getfield 73, 3, [7, 9, 8045], 0), []), none, none, some ((.goto 7, 3, [], 0), []), none, none, some ((.aload_n 1, 1, [], 0), []), some ((.getfield 76, 3, [7, 11, 8053], 0), []), none],
  [none, some ((.istore 4, 2, [], 0), []), none, some ((.iload_n 3, 1, [], 0), []), some ((.bipush 10, 2, [], 0), []), none, some ((.if_icmp .ne 10, 3, [], 0), []), none, none, some ((.aload_n 1, 1, [], 0), []), some ((.getfield 79, 3, [7, 10, 8049], 0), []), none, none, some ((.goto 7, 3, [], 0), []), none, none],
  [some ((.aload_n 1, 1, [], 0), []), some ((.getfield 82, 3, [7, 12, 8057], 0), []), none, none, some ((.istore 5, 2, [], 0), []), none, some ((.iload 4, 2, [], 0), []), none, some ((.ifCond .ne 9, 3, [], 0), []), none, none, some ((.iload 5, 2, [], 0), []), none, some ((.ifCond .ne 4, 3, [], 0), []), none, none],
  [some ((.return_, 1, [], 0), []), some ((.aload_n 0, 1, [], 0), []), some ((.aload_n 1, 1, [], 0), []), some ((.aload_n 0, 1, [], 0), []), some ((.getfield 9, 3, [8, 0, 8100], 0), []), none, none, some ((.getfield 24, 3, [3, 0, 7083], 0), []), none, none, some ((.iload_n 3, 1, [], 0), []), some ((.laload, 1, [], 0), []), some ((.invokevirtual 30, 3, [0, 68, 3, 0, 0, 8, 10030, 10032, 2005, 7013, 10033], 0), []), none, none, some ((.iconst 0, 1, [], 0), [false, false, false, true])],
  [some ((.istore 6, 2, [], 0), []), none, some ((.iload 6, 2, [], 0), [false, false, false, true]), none, some ((.aload_n 2, 1, [], 0), []), some ((.getfield 85, 3, [1, 8, 7211], 0), []), none, none, some ((.if_icmp .ge 31, 3, [], 0), []), none, none, some ((.iload 4, 2, [], 0), []), none, some ((.iload 6, 2, [], 0), []), none, some ((.ishr, 1, [], 0), [])],
  [some ((.iconst 1, 1, [], 0), []), some ((.iand, 1, [], 0), []), some ((.ifCond .eq 15, 3, [], 0), []), none, none, some ((.aload_n 0, 1, [], 0), []), some ((.aload_n 1, 1, [], 0), []), some ((.aload_n 2, 1, [], 0), []), some ((.getfield 88, 3, [1, 1, 7187], 0), []), none, none, some ((.iload 6, 2, [], 0), []), none, some ((.laload, 1, [], 0), []), some ((.invokevirtual 30, 3, [0, 68, 3, 0, 0, 8, 10030, 10032, 2005, 7013, 10033], 0), []), none],
  [none, some ((.iinc 6 1, 3, [], 0), [false, false, false, true]), none, none, some ((.goto (-34), 3, [], 0), []), none, none, some ((.iconst 0, 1, [], 0), []), some ((.istore 6, 2, [], 0), []), none, some ((.iload 6, 2, [], 0), [false, false, false, true, true]), none, some ((.aload_n 2, 1, [], 0), []), some ((.getfield 54, 3, [1, 6, 7204], 0), []), none, none],
  [some ((.if_icmp .ge 26, 3, [], 0), []), none, none, some ((.iload 5, 2, [], 0), []), none, some ((.iload 6, 2, [], 0), []), none, some ((.ishr, 1, [], 0), []), some ((.iconst 1, 1, [], 0), []), some ((.iand, 1, [], 0), []), some ((.ifCond .eq 10, 3, [], 0), []), none, none, some ((.aload_n 0, 1, [], 0), []), some ((.aload_n 1, 1, [], 0), []), some ((.iload 6, 2, [], 0), [])],
  [none, some ((.invokevirtual 48, 3, [0, 69, 3, 0, 0, 8, 10050, 10052, 2009, 7013, 10053], 0), []), none, none, some ((.iinc 6 1, 3, [], 0), [false, false, false, true, true]), none, none, some ((.goto (-29), 3, [], 0), []), none, none, some ((.return_, 1, [], 0), [])]])
def kX8_putWord : zMeth := (yX8_putWord, cX8_putWord, 6, none, { frames := 2, cells := 0, slots := 0, locals := 43 }, [
  [some ((.aload_n 0, 1, [], 0), []), some ((.aload_n 1, 1, [], 0), []), some ((.invokevirtual 91, 3, [0, 70, 2, 0, 0, 8, 10034, 10036, 2006, 7013, 10037], 0), []), none, none, some ((.bipush 56, 2, [], 0), []), none, some ((.istore 4, 2, [], 0), []), none, some ((.iload 4, 2, [], 0), [false, false, false, false, false, true]), none, some ((.ifCond .lt 32, 3, [], 0), []), none, none, some ((.lload_n 2, 1, [], 0), []), some ((.iload 4, 2, [], 0), [])],
  [none, some ((.lshr, 1, [], 0), []), some ((.ldc2_w 95, 3, [0, 10042], 255), []), none, none, some ((.land, 1, [], 0), []), some ((.l2i, 1, [], 0), []), some ((.istore 5, 2, [], 0), []), none, some ((.iload 5, 2, [], 0), []), none, some ((.ifCond .eq 10, 3, [], 0), []), none, none, some ((.aload_n 0, 1, [], 0), []), some ((.aload_n 1, 1, [], 0), [])],
  [some ((.iload 5, 2, [], 0), []), none, some ((.invokevirtual 97, 3, [0, 71, 3, 0, 0, 8, 10038, 10040, 2007, 7013, 10041], 0), []), none, none, some ((.iinc 4 (-8), 3, [], 0), [false, false, false, false, false, true]), none, none, some ((.goto (-31), 3, [], 0), []), none, none, some ((.return_, 1, [], 0), [])]])
def kX8_putNumber : zMeth := (yX8_putNumber, cX8_putNumber, 3, none, { frames := 2, cells := 0, slots := 0, locals := 43 }, [
  [some ((.aload_n 0, 1, [], 0), []), some ((.aload_n 1, 1, [], 0), []), some ((.invokevirtual 91, 3, [0, 70, 2, 0, 0, 8, 10034, 10036, 2006, 7013, 10037], 0), []), none, none, some ((.iload_n 2, 1, [], 0), []), some ((.bipush 9, 2, [], 0), []), none, some ((.if_icmp .le 15, 3, [], 0), []), none, none, some ((.aload_n 0, 1, [], 0), []), some ((.aload_n 1, 1, [], 0), []), some ((.bipush 48, 2, [], 0), []), none, some ((.iload_n 2, 1, [], 0), [])],
  [some ((.bipush 10, 2, [], 0), []), none, some ((.idiv, 1, [], 0), []), some ((.iadd, 1, [], 0), []), some ((.invokevirtual 97, 3, [0, 71, 3, 0, 0, 8, 10038, 10040, 2007, 7013, 10041], 0), []), none, none, some ((.aload_n 0, 1, [], 0), []), some ((.aload_n 1, 1, [], 0), []), some ((.bipush 48, 2, [], 0), []), none, some ((.iload_n 2, 1, [], 0), []), some ((.bipush 10, 2, [], 0), []), none, some ((.irem, 1, [], 0), []), some ((.iadd, 1, [], 0), [])],
  [some ((.invokevirtual 97, 3, [0, 71, 3, 0, 0, 8, 10038, 10040, 2007, 7013, 10041], 0), []), none, none, some ((.return_, 1, [], 0), [true, true, true])]])
def kX8_putBlank : zMeth := (yX8_putBlank, cX8_putBlank, 2, none, { frames := 1, cells := 0, slots := 0, locals := 22 }, [
  [some ((.aload_n 1, 1, [], 0), []), some ((.getfield 15, 3, [7, 13, 8061], 0), []), none, none, some ((.ifCond .le 10, 3, [], 0), []), none, none, some ((.aload_n 0, 1, [], 0), []), some ((.aload_n 1, 1, [], 0), []), some ((.bipush 32, 2, [], 0), []), none, some ((.invokevirtual 97, 3, [0, 71, 3, 0, 0, 8, 10038, 10040, 2007, 7013, 10041], 0), []), none, none, some ((.return_, 1, [], 0), [true, true])]])
def kX8_putSign : zMeth := (yX8_putSign, cX8_putSign, 3, none, { frames := 0, cells := 0, slots := 0, locals := 0 }, [
  [some ((.aload_n 1, 1, [], 0), [true]), some ((.getfield 15, 3, [7, 13, 8061], 0), []), none, none, some ((.aload_n 1, 1, [], 0), []), some ((.getfield 100, 3, [7, 3, 8027], 0), []), none, none, some ((.arraylength, 1, [], 0), []), some ((.if_icmp .ge 24, 3, [], 0), []), none, none, some ((.aload_n 1, 1, [], 0), []), some ((.getfield 100, 3, [7, 3, 8027], 0), []), none, none],
  [some ((.aload_n 1, 1, [], 0), []), some ((.getfield 15, 3, [7, 13, 8061], 0), []), none, none, some ((.iload_n 2, 1, [], 0), []), some ((.i2b, 1, [], 0), []), some ((.bastore, 1, [], 0), []), some ((.aload_n 1, 1, [], 0), []), some ((.dup, 1, [], 0), []), some ((.getfield 15, 3, [7, 13, 8061], 0), []), none, none, some ((.iconst 1, 1, [], 0), []), some ((.iadd, 1, [], 0), []), some ((.putfield 15, 3, [7, 13, 8061], 0), []), none],
  [none, some ((.return_, 1, [], 0), [true, true, true])]])
def kX9_init : zMeth := (yX9_init, cX9_init, 2, none, { frames := 5, cells := 51, slots := 4744, locals := 108 }, [
  [some ((.aload_n 0, 1, [], 0), []), some ((.invokespecial 1, 3, [3, 7024, 7025, 7026], 0), []), none, none, some ((.new 7, 3, [3, 7027, 7028, 7002], 0), []), none, none, some ((.dup, 1, [], 0), []), some ((.invokespecial 9, 3, [2, 33, 1, 1, 19, 7029, 7030, 7002, 7031, 0], 0), []), none, none, some ((.astore_n 1, 1, [], 0), []), some ((.aload_n 0, 1, [], 0), []), some ((.new 10, 3, [6, 7089, 7090, 7007], 0), []), none, none],
  [some ((.dup, 1, [], 0), []), some ((.invokespecial 12, 3, [2, 59, 1, 1, 600, 0, 7092, 7007, 7093, 1], 0), []), none, none, some ((.putfield 13, 3, [9, 0, 8183], 0), []), none, none, some ((.aload_n 0, 1, [], 0), []), some ((.new 19, 3, [4, 7105, 7106, 7008], 0), []), none, none, some ((.dup, 1, [], 0), []), some ((.aload_n 1, 1, [], 0), []), some ((.invokespecial 21, 3, [2, 35, 2, 3, 1803, 7107, 7108, 7008, 7109, 0], 0), []), none, none],
  [some ((.putfield 24, 3, [9, 1, 8184], 0), []), none, none, some ((.aload_n 0, 1, [], 0), []), some ((.new 28, 3, [0, 7162, 7163, 7009], 0), []), none, none, some ((.dup, 1, [], 0), []), some ((.invokespecial 30, 3, [2, 0, 1, 1, 120, 1, 7165, 7009, 7166, 1], 0), []), none, none, some ((.putfield 31, 3, [9, 3, 8186], 0), []), none, none, some ((.aload_n 0, 1, [], 0), []), some ((.new 35, 3, [1, 7176, 7177, 7010], 0), [])],
  [none, none, some ((.dup, 1, [], 0), []), some ((.invokespecial 37, 3, [2, 3, 1, 6, 150, 2, 7179, 7010, 7180, 1], 0), []), none, none, some ((.putfield 38, 3, [9, 4, 8187], 0), []), none, none, some ((.aload_n 0, 1, [], 0), []), some ((.new 35, 3, [1, 7176, 7177, 7010], 0), []), none, none, some ((.dup, 1, [], 0), []), some ((.invokespecial 37, 3, [2, 3, 1, 6, 150, 2, 7179, 7010, 7180, 1], 0), []), none],
  [none, some ((.putfield 42, 3, [9, 5, 8188], 0), []), none, none, some ((.aload_n 0, 1, [], 0), []), some ((.new 45, 3, [2, 8004, 8005, 7011], 0), []), none, none, some ((.dup, 1, [], 0), []), some ((.aload_n 1, 1, [], 0), []), some ((.aload_n 0, 1, [], 0), []), some ((.getfield 38, 3, [9, 4, 8187], 0), []), none, none, some ((.invokespecial 47, 3, [2, 13, 3, 26, 1844, 8006, 8007, 7011, 8008, 0], 0), []), none],
  [none, some ((.putfield 50, 3, [9, 2, 8185], 0), [false, true]), none, none, some ((.aload_n 0, 1, [], 0), []), some ((.iconst 0, 1, [], 0), []), some ((.putfield 54, 3, [9, 6, 8189], 0), []), none, none, some ((.aload_n 0, 1, [], 0), []), some ((.iconst (-1), 1, [], 0), []), some ((.putfield 58, 3, [9, 7, 8190], 0), []), none, none, some ((.aload_n 0, 1, [], 0), []), some ((.iconst 0, 1, [], 0), [])],
  [some ((.putfield 61, 3, [9, 8, 8191], 0), []), none, none, some ((.aload_n 0, 1, [], 0), []), some ((.iconst (-1), 1, [], 0), []), some ((.putfield 65, 3, [9, 9, 8192], 0), []), none, none, some ((.aload_n 0, 1, [], 0), []), some ((.iconst (-1), 1, [], 0), []), some ((.putfield 68, 3, [9, 10, 8193], 0), []), none, none, some ((.aload_n 0, 1, [], 0), []), some ((.iconst 0, 1, [], 0), []), some ((.putfield 71, 3, [9, 11, 8194], 0), [])],
  [none, none, some ((.aload_n 0, 1, [], 0), []), some ((.iconst (-1), 1, [], 0), []), some ((.putfield 74, 3, [9, 12, 8195], 0), []), none, none, some ((.return_, 1, [], 0), [])]])
def kX9_feed : zMeth := (yX9_feed, cX9_feed, 6, (some .int), { frames := 1, cells := 0, slots := 0, locals := 22 }, [
  [some ((.aload_n 0, 1, [], 0), []), some ((.getfield 13, 3, [9, 0, 8183], 0), []), none, none, some ((.getfield 77, 3, [6, 1, 7098], 0), []), none, none, some ((.bipush 20, 2, [], 0), []), none, some ((.iadd, 1, [], 0), []), some ((.sipush 600, 3, [], 0), []), none, none, some ((.if_icmp .le 5, 3, [], 0), []), none, none],
  [some ((.iconst (-1), 1, [], 0), []), some ((.ireturn, 1, [], 0), []), some ((.aload_n 0, 1, [], 0), []), some ((.getfield 13, 3, [9, 0, 8183], 0), []), none, none, some ((.iload_n 1, 1, [], 0), []), some ((.invokevirtual 80, 3, [0, 60, 2, 0, 0, 6, 8227, 8228, 8229, 7007, 8230], 0), []), none, none, some ((.aload_n 0, 1, [], 0), [false, true]), some ((.getfield 13, 3, [9, 0, 8183], 0), []), none, none, some ((.iload_n 2, 1, [], 0), []), some ((.invokevirtual 80, 3, [0, 60, 2, 0, 0, 6, 8227, 8228, 8229, 7007, 8230], 0), [])],
  [none, none, some ((.aload_n 0, 1, [], 0), [false, true, true]), some ((.getfield 13, 3, [9, 0, 8183], 0), []), none, none, some ((.iload_n 3, 1, [], 0), []), some ((.invokevirtual 80, 3, [0, 60, 2, 0, 0, 6, 8227, 8228, 8229, 7007, 8230], 0), []), none, none, some ((.aload_n 0, 1, [], 0), [false, true, true, true]), some ((.getfield 13, 3, [9, 0, 8183], 0), []), none, none, some ((.iload 4, 2, [], 0), []), none],
  [some ((.invokevirtual 80, 3, [0, 60, 2, 0, 0, 6, 8227, 8228, 8229, 7007, 8230], 0), []), none, none, some ((.aload_n 0, 1, [], 0), [false, true, true, true, true]), some ((.getfield 13, 3, [9, 0, 8183], 0), []), none, none, some ((.iload 5, 2, [], 0), []), none, some ((.invokevirtual 80, 3, [0, 60, 2, 0, 0, 6, 8227, 8228, 8229, 7007, 8230], 0), []), none, none, some ((.aload_n 0, 1, [], 0), [false, true, true, true, true, true]), some ((.getfield 13, 3, [9, 0, 8183], 0), []), none, none],
  [some ((.getfield 77, 3, [6, 1, 7098], 0), []), none, none, some ((.ireturn, 1, [], 0), [])]])
def kX9_end : zMeth := (yX9_end, cX9_end, 2, (some .int), { frames := 0, cells := 0, slots := 0, locals := 0 }, [
  [some ((.iload_n 1, 1, [], 0), []), some ((.ifCond .lt 14, 3, [], 0), []), none, none, some ((.iload_n 1, 1, [], 0), []), some ((.aload_n 0, 1, [], 0), []), some ((.getfield 13, 3, [9, 0, 8183], 0), []), none, none, some ((.getfield 77, 3, [6, 1, 7098], 0), []), none, none, some ((.if_icmp .le 5, 3, [], 0), []), none, none, some ((.iconst (-1), 1, [], 0), [true, true])],
  [some ((.ireturn, 1, [], 0), []), some ((.aload_n 0, 1, [], 0), []), some ((.getfield 13, 3, [9, 0, 8183], 0), []), none, none, some ((.iload_n 1, 1, [], 0), []), some ((.putfield 77, 3, [6, 1, 7098], 0), []), none, none, some ((.iload_n 1, 1, [], 0), []), some ((.ireturn, 1, [], 0), [])]])
def kX9_desk : zMeth := (yX9_desk, cX9_desk, 3, (some .int), { frames := 8, cells := 0, slots := 0, locals := 179 }, [
  [some ((.aload_n 0, 1, [], 0), []), some ((.getfield 24, 3, [9, 1, 8184], 0), []), none, none, some ((.aload_n 0, 1, [], 0), []), some ((.getfield 13, 3, [9, 0, 8183], 0), []), none, none, some ((.aload_n 0, 1, [], 0), []), some ((.getfield 42, 3, [9, 5, 8188], 0), []), none, none, some ((.invokevirtual 84, 3, [0, 36, 3, 0, 0, 4, 8239, 9000, 9001, 7008, 9002], 0), []), none, none, some ((.istore_n 1, 1, [], 0), [])],
  [some ((.aload_n 0, 1, [], 0), []), some ((.getfield 13, 3, [9, 0, 8183], 0), []), none, none, some ((.iconst 0, 1, [], 0), []), some ((.putfield 77, 3, [6, 1, 7098], 0), []), none, none, some ((.aload_n 0, 1, [], 0), []), some ((.aload_n 0, 1, [], 0), []), some ((.getfield 24, 3, [9, 1, 8184], 0), []), none, none, some ((.getfield 88, 3, [4, 0, 7112], 0), []), none, none],
  [some ((.putfield 54, 3, [9, 6, 8189], 0), []), none, none, some ((.aload_n 0, 1, [], 0), []), some ((.aload_n 0, 1, [], 0), []), some ((.getfield 24, 3, [9, 1, 8184], 0), []), none, none, some ((.getfield 91, 3, [4, 1, 7114], 0), []), none, none, some ((.putfield 58, 3, [9, 7, 8190], 0), []), none, none, some ((.iload_n 1, 1, [], 0), []), some ((.ifCond .ne 6, 3, [], 0), [])],
  [none, none, some ((.bipush (-4), 2, [], 0), []), none, some ((.ireturn, 1, [], 0), []), some ((.aload_n 0, 1, [], 0), []), some ((.getfield 38, 3, [9, 4, 8187], 0), []), none, none, some ((.astore_n 2, 1, [], 0), []), some ((.aload_n 0, 1, [], 0), []), some ((.aload_n 0, 1, [], 0), []), some ((.getfield 42, 3, [9, 5, 8188], 0), []), none, none, some ((.putfield 38, 3, [9, 4, 8187], 0), [])],
  [none, none, some ((.aload_n 0, 1, [], 0), [false, true]), some ((.aload_n 2, 1, [], 0), []), some ((.putfield 42, 3, [9, 5, 8188], 0), []), none, none, some ((.aload_n 0, 1, [], 0), []), some ((.getfield 50, 3, [9, 2, 8185], 0), []), none, none, some ((.aload_n 0, 1, [], 0), []), some ((.getfield 38, 3, [9, 4, 8187], 0), []), none, none, some ((.invokevirtual 94, 3, [0, 15, 2, 0, 0, 2, 9105, 9106, 9107, 7011, 9108], 0), [])],
  [none, none, some ((.aload_n 0, 1, [], 0), [false, true, true]), some ((.getfield 31, 3, [9, 3, 8186], 0), []), none, none, some ((.iconst 0, 1, [], 0), []), some ((.putfield 98, 3, [0, 1, 7170], 0), []), none, none, some ((.aload_n 0, 1, [], 0), []), some ((.iconst 0, 1, [], 0), []), some ((.putfield 61, 3, [9, 8, 8191], 0), []), none, none, some ((.aload_n 0, 1, [], 0), [])],
  [some ((.getfield 38, 3, [9, 4, 8187], 0), []), none, none, some ((.getfield 101, 3, [1, 10, 7220], 0), []), none, none, some ((.ireturn, 1, [], 0), [])]])
def kX9_fault : zMeth := (yX9_fault, cX9_fault, 2, (some .int), { frames := 0, cells := 0, slots := 0, locals := 0 }, [
  [some ((.iload_n 1, 1, [], 0), []), some ((.ifCond .ne 8, 3, [], 0), []), none, none, some ((.aload_n 0, 1, [], 0), []), some ((.getfield 54, 3, [9, 6, 8189], 0), []), none, none, some ((.ireturn, 1, [], 0), []), some ((.iload_n 1, 1, [], 0), []), some ((.iconst 1, 1, [], 0), []), some ((.if_icmp .ne 10, 3, [], 0), []), none, none, some ((.aload_n 0, 1, [], 0), []), some ((.getfield 58, 3, [9, 7, 8190], 0), [])],
  [none, none, some ((.goto 4, 3, [], 0), []), none, none, some ((.iconst (-1), 1, [], 0), []), some ((.ireturn, 1, [], 0), [true, true])]])
def kX9_count : zMeth := (yX9_count, cX9_count, 2, (some .int), { frames := 0, cells := 0, slots := 0, locals := 0 }, [
  [some ((.iload_n 1, 1, [], 0), []), some ((.tableswitch 99 0 6 #[43, 51, 59, 67, 75, 83, 91], 43, [], 0), []), none, none, none, none, none, none, none, none, none, none, none, none, none, none],
  [none, none, none, none, none, none, none, none, none, none, none, none, none, none, none, none],
  [none, none, none, none, none, none, none, none, none, none, none, none, some ((.aload_n 0, 1, [], 0), []), some ((.getfield 38, 3, [9, 4, 8187], 0), []), none, none],
  [some ((.getfield 104, 3, [1, 6, 7205], 0), []), none, none, some ((.ireturn, 1, [], 0), []), some ((.aload_n 0, 1, [], 0), []), some ((.getfield 38, 3, [9, 4, 8187], 0), []), none, none, some ((.getfield 107, 3, [1, 7, 7209], 0), []), none, none, some ((.ireturn, 1, [], 0), []), some ((.aload_n 0, 1, [], 0), []), some ((.getfield 38, 3, [9, 4, 8187], 0), []), none, none],
  [some ((.getfield 110, 3, [1, 8, 7212], 0), []), none, none, some ((.ireturn, 1, [], 0), []), some ((.aload_n 0, 1, [], 0), []), some ((.getfield 38, 3, [9, 4, 8187], 0), []), none, none, some ((.getfield 113, 3, [1, 9, 7216], 0), []), none, none, some ((.ireturn, 1, [], 0), []), some ((.aload_n 0, 1, [], 0), []), some ((.getfield 31, 3, [9, 3, 8186], 0), []), none, none],
  [some ((.getfield 98, 3, [0, 1, 7170], 0), []), none, none, some ((.ireturn, 1, [], 0), []), some ((.aload_n 0, 1, [], 0), []), some ((.getfield 38, 3, [9, 4, 8187], 0), []), none, none, some ((.getfield 101, 3, [1, 10, 7220], 0), []), none, none, some ((.ireturn, 1, [], 0), []), some ((.aload_n 0, 1, [], 0), [false, true]), some ((.getfield 13, 3, [9, 0, 8183], 0), []), none, none],
  [some ((.getfield 77, 3, [6, 1, 7098], 0), []), none, none, some ((.ireturn, 1, [], 0), []), some ((.iconst (-1), 1, [], 0), []), some ((.ireturn, 1, [], 0), [])]])
def kX9_weekday : zMeth := (yX9_weekday, cX9_weekday, 2, (some .int), { frames := 1, cells := 0, slots := 0, locals := 21 }, [
  [some ((.aload_n 0, 1, [], 0), []), some ((.iload_n 1, 1, [], 0), []), some ((.invokevirtual 116, 3, [0, 119, 2, 0, 0, 9, 9121, 9123, 1003, 7001, 9124], 0), []), none, none, some ((.ifCond .eq 14, 3, [], 0), []), none, none, some ((.aload_n 0, 1, [], 0), []), some ((.getfield 38, 3, [9, 4, 8187], 0), []), none, none, some ((.iload_n 1, 1, [], 0), []), some ((.invokevirtual 120, 3, [0, 6, 2, 0, 0, 1, 9125, 9126, 9127, 7010, 9128], 0), []), none, none],
  [some ((.goto 5, 3, [], 0), [true, true]), none, none, some ((.bipush (-2), 2, [], 0), []), none, some ((.ireturn, 1, [], 0), [true, true])]])
def kX9_feast : zMeth := (yX9_feast, cX9_feast, 2, (some .int), { frames := 0, cells := 0, slots := 0, locals := 0 }, [
  [some ((.iload_n 1, 1, [], 0), []), some ((.ifCond .lt 26, 3, [], 0), []), none, none, some ((.iload_n 1, 1, [], 0), []), some ((.aload_n 0, 1, [], 0), []), some ((.getfield 38, 3, [9, 4, 8187], 0), []), none, none, some ((.getfield 110, 3, [1, 8, 7212], 0), []), none, none, some ((.if_icmp .ge 15, 3, [], 0), []), none, none, some ((.aload_n 0, 1, [], 0), [])],
  [some ((.getfield 38, 3, [9, 4, 8187], 0), []), none, none, some ((.getfield 124, 3, [1, 2, 7190], 0), []), none, none, some ((.iload_n 1, 1, [], 0), []), some ((.iaload, 1, [], 0), []), some ((.goto 5, 3, [], 0), []), none, none, some ((.bipush (-2), 2, [], 0), [true, true]), none, some ((.ireturn, 1, [], 0), [true, true])]])
def kX9_train : zMeth := (yX9_train, cX9_train, 3, (some .int), { frames := 1, cells := 0, slots := 0, locals := 21 }, [
  [some ((.aload_n 0, 1, [], 0), []), some ((.iload_n 1, 1, [], 0), []), some ((.invokevirtual 128, 3, [0, 118, 2, 0, 0, 9, 9137, 9139, 1004, 7001, 9140], 0), []), none, none, some ((.ifCond .eq 12, 3, [], 0), []), none, none, some ((.iload_n 2, 1, [], 0), []), some ((.ifCond .lt 8, 3, [], 0), []), none, none, some ((.iload_n 2, 1, [], 0), []), some ((.iconst 1, 1, [], 0), []), some ((.if_icmp .le 6, 3, [], 0), []), none],
  [none, some ((.bipush (-2), 2, [], 0), [true, true, true]), none, some ((.ireturn, 1, [], 0), []), some ((.iload_n 2, 1, [], 0), []), some ((.ifCond .ne 15, 3, [], 0), []), none, none, some ((.aload_n 0, 1, [], 0), []), some ((.getfield 38, 3, [9, 4, 8187], 0), []), none, none, some ((.getfield 131, 3, [1, 3, 7194], 0), []), none, none, some ((.iload_n 1, 1, [], 0), [])],
  [some ((.iaload, 1, [], 0), []), some ((.goto 12, 3, [], 0), []), none, none, some ((.aload_n 0, 1, [], 0), []), some ((.getfield 38, 3, [9, 4, 8187], 0), []), none, none, some ((.getfield 134, 3, [1, 4, 7197], 0), []), none, none, some ((.iload_n 1, 1, [], 0), []), some ((.iaload, 1, [], 0), []), some ((.ireturn, 1, [], 0), [true, true, true])]])
def kX9_days : zMeth := (yX9_days, cX9_days, 2, (some .int), { frames := 1, cells := 0, slots := 0, locals := 21 }, [
  [some ((.aload_n 0, 1, [], 0), []), some ((.iload_n 1, 1, [], 0), []), some ((.invokevirtual 128, 3, [0, 118, 2, 0, 0, 9, 9137, 9139, 1004, 7001, 9140], 0), []), none, none, some ((.ifCond .eq 15, 3, [], 0), []), none, none, some ((.aload_n 0, 1, [], 0), []), some ((.getfield 38, 3, [9, 4, 8187], 0), []), none, none, some ((.getfield 137, 3, [1, 5, 7201], 0), []), none, none, some ((.iload_n 1, 1, [], 0), [])],
  [some ((.iaload, 1, [], 0), []), some ((.goto 5, 3, [], 0), []), none, none, some ((.bipush (-2), 2, [], 0), []), none, some ((.ireturn, 1, [], 0), [true, true])]])
def kX9_runs : zMeth := (yX9_runs, cX9_runs, 3, (some .int), { frames := 1, cells := 0, slots := 0, locals := 21 }, [
  [some ((.aload_n 0, 1, [], 0), []), some ((.iload_n 1, 1, [], 0), []), some ((.invokevirtual 128, 3, [0, 118, 2, 0, 0, 9, 9137, 9139, 1004, 7001, 9140], 0), []), none, none, some ((.ifCond .eq 11, 3, [], 0), []), none, none, some ((.aload_n 0, 1, [], 0), []), some ((.iload_n 2, 1, [], 0), []), some ((.invokevirtual 116, 3, [0, 119, 2, 0, 0, 9, 9121, 9123, 1003, 7001, 9124], 0), []), none, none, some ((.ifCond .ne 6, 3, [], 0), []), none, none],
  [some ((.bipush (-2), 2, [], 0), [true, true, true]), none, some ((.ireturn, 1, [], 0), []), some ((.aload_n 0, 1, [], 0), []), some ((.getfield 38, 3, [9, 4, 8187], 0), []), none, none, some ((.getfield 137, 3, [1, 5, 7201], 0), []), none, none, some ((.iload_n 1, 1, [], 0), []), some ((.iaload, 1, [], 0), []), some ((.iload_n 2, 1, [], 0), []), some ((.ishr, 1, [], 0), []), some ((.iconst 1, 1, [], 0), []), some ((.iand, 1, [], 0), [])],
  [some ((.ireturn, 1, [], 0), [])]])
def kX9_many : zMeth := (yX9_many, cX9_many, 2, (some .int), { frames := 1, cells := 0, slots := 0, locals := 21 }, [
  [some ((.aload_n 0, 1, [], 0), []), some ((.iload_n 1, 1, [], 0), []), some ((.invokevirtual 128, 3, [0, 118, 2, 0, 0, 9, 9137, 9139, 1004, 7001, 9140], 0), []), none, none, some ((.ifCond .eq 18, 3, [], 0), []), none, none, some ((.aload_n 0, 1, [], 0), []), some ((.getfield 38, 3, [9, 4, 8187], 0), []), none, none, some ((.getfield 137, 3, [1, 5, 7201], 0), []), none, none, some ((.iload_n 1, 1, [], 0), [])],
  [some ((.iaload, 1, [], 0), []), some ((.invokestatic 140, 3, [1, 235, 1, 0, 0, 9153, 9154, 7015, 9155, 0], 0), []), none, none, some ((.goto 5, 3, [], 0), [true, true]), none, none, some ((.bipush (-2), 2, [], 0), []), none, some ((.ireturn, 1, [], 0), [true, true])]])
def kX9_votes : zMeth := (yX9_votes, cX9_votes, 3, (some .int), { frames := 1, cells := 0, slots := 0, locals := 21 }, [
  [some ((.aload_n 0, 1, [], 0), []), some ((.iload_n 1, 1, [], 0), []), some ((.invokevirtual 128, 3, [0, 118, 2, 0, 0, 9, 9137, 9139, 1004, 7001, 9140], 0), []), none, none, some ((.ifCond .eq 13, 3, [], 0), []), none, none, some ((.iload_n 2, 1, [], 0), []), some ((.ifCond .lt 9, 3, [], 0), []), none, none, some ((.iload_n 2, 1, [], 0), []), some ((.bipush 7, 2, [], 0), []), none, some ((.if_icmp .lt 6, 3, [], 0), [])],
  [none, none, some ((.bipush (-2), 2, [], 0), [true, true, true]), none, some ((.ireturn, 1, [], 0), []), some ((.aload_n 0, 1, [], 0), []), some ((.getfield 38, 3, [9, 4, 8187], 0), []), none, none, some ((.getfield 137, 3, [1, 5, 7201], 0), []), none, none, some ((.iload_n 1, 1, [], 0), []), some ((.iaload, 1, [], 0), []), some ((.aload_n 0, 1, [], 0), []), some ((.getfield 38, 3, [9, 4, 8187], 0), [])],
  [none, none, some ((.getfield 145, 3, [1, 0, 7184], 0), []), none, none, some ((.iconst 1, 1, [], 0), []), some ((.iload_n 2, 1, [], 0), []), some ((.ishl, 1, [], 0), []), some ((.iaload, 1, [], 0), []), some ((.iand, 1, [], 0), []), some ((.invokestatic 140, 3, [1, 235, 1, 0, 0, 9153, 9154, 7015, 9155, 0], 0), []), none, none, some ((.ireturn, 1, [], 0), [true, true, true])]])
def kX9_vote : zMeth := (yX9_vote, cX9_vote, 2, (some .int), { frames := 2, cells := 0, slots := 0, locals := 44 }, [
  [some ((.aload_n 0, 1, [], 0), []), some ((.iload_n 1, 1, [], 0), []), some ((.invokevirtual 128, 3, [0, 118, 2, 0, 0, 9, 9137, 9139, 1004, 7001, 9140], 0), []), none, none, some ((.ifCond .eq 19, 3, [], 0), []), none, none, some ((.aload_n 0, 1, [], 0), []), some ((.aload_n 0, 1, [], 0), []), some ((.getfield 38, 3, [9, 4, 8187], 0), []), none, none, some ((.getfield 137, 3, [1, 5, 7201], 0), []), none, none],
  [some ((.iload_n 1, 1, [], 0), []), some ((.iaload, 1, [], 0), []), some ((.invokevirtual 148, 3, [0, 120, 2, 0, 0, 9, 9167, 9169, 1005, 7001, 9170], 0), []), none, none, some ((.goto 5, 3, [], 0), [true, true]), none, none, some ((.bipush (-2), 2, [], 0), []), none, some ((.ireturn, 1, [], 0), [true, true])]])
def kX9_strays : zMeth := (yX9_strays, cX9_strays, 3, (some .int), { frames := 2, cells := 0, slots := 0, locals := 44 }, [
  [some ((.aload_n 0, 1, [], 0), []), some ((.iload_n 1, 1, [], 0), []), some ((.invokevirtual 128, 3, [0, 118, 2, 0, 0, 9, 9137, 9139, 1004, 7001, 9140], 0), []), none, none, some ((.ifCond .ne 6, 3, [], 0), []), none, none, some ((.bipush (-2), 2, [], 0), []), none, some ((.ireturn, 1, [], 0), []), some ((.aload_n 0, 1, [], 0), []), some ((.getfield 38, 3, [9, 4, 8187], 0), []), none, none, some ((.getfield 137, 3, [1, 5, 7201], 0), [])],
  [none, none, some ((.iload_n 1, 1, [], 0), []), some ((.iaload, 1, [], 0), []), some ((.istore_n 2, 1, [], 0), []), some ((.iload_n 2, 1, [], 0), []), some ((.aload_n 0, 1, [], 0), []), some ((.getfield 38, 3, [9, 4, 8187], 0), []), none, none, some ((.getfield 145, 3, [1, 0, 7184], 0), []), none, none, some ((.aload_n 0, 1, [], 0), []), some ((.iload_n 2, 1, [], 0), []), some ((.invokevirtual 148, 3, [0, 120, 2, 0, 0, 9, 9167, 9169, 1005, 7001, 9170], 0), [])],
  [none, none, some ((.iaload, 1, [], 0), [true, true, true]), some ((.ixor, 1, [], 0), []), some ((.invokestatic 140, 3, [1, 235, 1, 0, 0, 9153, 9154, 7015, 9155, 0], 0), []), none, none, some ((.ireturn, 1, [], 0), [true, true, true])]])
def kX9_next : zMeth := (yX9_next, cX9_next, 4, (some .int), { frames := 1, cells := 0, slots := 0, locals := 21 }, [
  [some ((.aload_n 0, 1, [], 0), []), some ((.iload_n 1, 1, [], 0), []), some ((.invokevirtual 128, 3, [0, 118, 2, 0, 0, 9, 9137, 9139, 1004, 7001, 9140], 0), []), none, none, some ((.ifCond .eq 11, 3, [], 0), []), none, none, some ((.aload_n 0, 1, [], 0), []), some ((.iload_n 2, 1, [], 0), []), some ((.invokevirtual 116, 3, [0, 119, 2, 0, 0, 9, 9121, 9123, 1003, 7001, 9124], 0), []), none, none, some ((.ifCond .ne 6, 3, [], 0), []), none, none],
  [some ((.bipush (-2), 2, [], 0), [true, true, true]), none, some ((.ireturn, 1, [], 0), []), some ((.aload_n 0, 1, [], 0), []), some ((.getfield 38, 3, [9, 4, 8187], 0), []), none, none, some ((.getfield 137, 3, [1, 5, 7201], 0), []), none, none, some ((.iload_n 1, 1, [], 0), []), some ((.iaload, 1, [], 0), []), some ((.iload_n 2, 1, [], 0), []), some ((.ishr, 1, [], 0), []), some ((.istore_n 3, 1, [], 0), []), some ((.iload_n 3, 1, [], 0), [])],
  [some ((.ifCond .ne 7, 3, [], 0), []), none, none, some ((.iconst (-1), 1, [], 0), []), some ((.goto 9, 3, [], 0), []), none, none, some ((.iload_n 2, 1, [], 0), []), some ((.iload_n 3, 1, [], 0), []), some ((.invokestatic 151, 3, [1, 234, 1, 0, 0, 8127, 8128, 7015, 8129, 0], 0), []), none, none, some ((.iadd, 1, [], 0), [true, true, true, true]), some ((.ireturn, 1, [], 0), [true, true, true, true])]])
def kX9_rest : zMeth := (yX9_rest, cX9_rest, 5, (some .int), { frames := 1, cells := 0, slots := 0, locals := 21 }, [
  [some ((.aload_n 0, 1, [], 0), []), some ((.iload_n 1, 1, [], 0), []), some ((.invokevirtual 128, 3, [0, 118, 2, 0, 0, 9, 9137, 9139, 1004, 7001, 9140], 0), []), none, none, some ((.ifCond .ne 6, 3, [], 0), []), none, none, some ((.bipush (-2), 2, [], 0), []), none, some ((.ireturn, 1, [], 0), []), some ((.iconst 0, 1, [], 0), []), some ((.istore_n 2, 1, [], 0), []), some ((.iconst 0, 1, [], 0), []), some ((.istore_n 3, 1, [], 0), []), some ((.iconst 0, 1, [], 0), [])],
  [some ((.istore 4, 2, [], 0), []), none, some ((.iload 4, 2, [], 0), []), none, some ((.aload_n 0, 1, [], 0), []), some ((.getfield 38, 3, [9, 4, 8187], 0), []), none, none, some ((.getfield 104, 3, [1, 6, 7205], 0), []), none, none, some ((.if_icmp .ge 40, 3, [], 0), []), none, none, some ((.aload_n 0, 1, [], 0), []), some ((.getfield 38, 3, [9, 4, 8187], 0), [])],
  [none, none, some ((.getfield 137, 3, [1, 5, 7201], 0), []), none, none, some ((.iload_n 1, 1, [], 0), []), some ((.iaload, 1, [], 0), []), some ((.iload 4, 2, [], 0), []), none, some ((.ishr, 1, [], 0), []), some ((.iconst 1, 1, [], 0), []), some ((.iand, 1, [], 0), []), some ((.ifCond .ne 9, 3, [], 0), []), none, none, some ((.iload_n 3, 1, [], 0), [])],
  [some ((.iconst 1, 1, [], 0), []), some ((.iadd, 1, [], 0), []), some ((.goto 4, 3, [], 0), []), none, none, some ((.iconst 0, 1, [], 0), []), some ((.istore_n 3, 1, [], 0), [false, false, false, true]), some ((.iload_n 2, 1, [], 0), []), some ((.iload_n 3, 1, [], 0), []), some ((.invokestatic 154, 3, [1, 236, 2, 0, 0, 9183, 9184, 7016, 9185, 0], 0), []), none, none, some ((.istore_n 2, 1, [], 0), [false, false, true]), some ((.iinc 4 1, 3, [], 0), []), none, none],
  [some ((.goto (-46), 3, [], 0), []), none, none, some ((.iload_n 2, 1, [], 0), []), some ((.ireturn, 1, [], 0), [])]])
def kX9_words : zMeth := (yX9_words, cX9_words, 2, (some .int), { frames := 7, cells := 0, slots := 0, locals := 189 }, [
  [some ((.aload_n 0, 1, [], 0), []), some ((.iload_n 1, 1, [], 0), []), some ((.invokevirtual 128, 3, [0, 118, 2, 0, 0, 9, 9137, 9139, 1004, 7001, 9140], 0), []), none, none, some ((.ifCond .eq 25, 3, [], 0), []), none, none, some ((.aload_n 0, 1, [], 0), []), some ((.getfield 50, 3, [9, 2, 8185], 0), []), none, none, some ((.aload_n 0, 1, [], 0), []), some ((.getfield 38, 3, [9, 4, 8187], 0), []), none, none],
  [some ((.getfield 137, 3, [1, 5, 7201], 0), []), none, none, some ((.iload_n 1, 1, [], 0), []), some ((.iaload, 1, [], 0), []), some ((.invokevirtual 160, 3, [0, 17, 2, 0, 0, 2, 9190, 9191, 9192, 7011, 9193], 0), []), none, none, some ((.getfield 164, 3, [7, 6, 8036], 0), [true, true]), none, none, some ((.goto 5, 3, [], 0), []), none, none, some ((.bipush (-2), 2, [], 0), []), none],
  [some ((.ireturn, 1, [], 0), [true, true])]])
def kX9_length : zMeth := (yX9_length, cX9_length, 2, (some .int), { frames := 7, cells := 0, slots := 0, locals := 189 }, [
  [some ((.aload_n 0, 1, [], 0), []), some ((.iload_n 1, 1, [], 0), []), some ((.invokevirtual 128, 3, [0, 118, 2, 0, 0, 9, 9137, 9139, 1004, 7001, 9140], 0), []), none, none, some ((.ifCond .eq 25, 3, [], 0), []), none, none, some ((.aload_n 0, 1, [], 0), []), some ((.getfield 50, 3, [9, 2, 8185], 0), []), none, none, some ((.aload_n 0, 1, [], 0), []), some ((.getfield 38, 3, [9, 4, 8187], 0), []), none, none],
  [some ((.getfield 137, 3, [1, 5, 7201], 0), []), none, none, some ((.iload_n 1, 1, [], 0), []), some ((.iaload, 1, [], 0), []), some ((.invokevirtual 160, 3, [0, 17, 2, 0, 0, 2, 9190, 9191, 9192, 7011, 9193], 0), []), none, none, some ((.getfield 169, 3, [7, 13, 8062], 0), [true, true]), none, none, some ((.goto 5, 3, [], 0), []), none, none, some ((.bipush (-2), 2, [], 0), []), none],
  [some ((.ireturn, 1, [], 0), [true, true])]])
def kX9_sign : zMeth := (yX9_sign, cX9_sign, 4, (some .int), { frames := 7, cells := 0, slots := 0, locals := 189 }, [
  [some ((.aload_n 0, 1, [], 0), []), some ((.iload_n 1, 1, [], 0), []), some ((.invokevirtual 128, 3, [0, 118, 2, 0, 0, 9, 9137, 9139, 1004, 7001, 9140], 0), []), none, none, some ((.ifCond .eq 7, 3, [], 0), []), none, none, some ((.iload_n 2, 1, [], 0), []), some ((.ifCond .ge 6, 3, [], 0), []), none, none, some ((.bipush (-2), 2, [], 0), [true, true, true]), none, some ((.ireturn, 1, [], 0), []), some ((.aload_n 0, 1, [], 0), [])],
  [some ((.getfield 50, 3, [9, 2, 8185], 0), []), none, none, some ((.aload_n 0, 1, [], 0), []), some ((.getfield 38, 3, [9, 4, 8187], 0), []), none, none, some ((.getfield 137, 3, [1, 5, 7201], 0), []), none, none, some ((.iload_n 1, 1, [], 0), []), some ((.iaload, 1, [], 0), []), some ((.invokevirtual 160, 3, [0, 17, 2, 0, 0, 2, 9190, 9191, 9192, 7011, 9193], 0), []), none, none, some ((.astore_n 3, 1, [], 0), [true, true])],
  [some ((.iload_n 2, 1, [], 0), []), some ((.aload_n 3, 1, [], 0), []), some ((.getfield 169, 3, [7, 13, 8062], 0), []), none, none, some ((.if_icmp .ge 12, 3, [], 0), []), none, none, some ((.aload_n 3, 1, [], 0), []), some ((.getfield 170, 3, [7, 3, 8028], 0), []), none, none, some ((.iload_n 2, 1, [], 0), []), some ((.baload, 1, [], 0), []), some ((.goto 4, 3, [], 0), []), none],
  [none, some ((.iconst (-1), 1, [], 0), []), some ((.ireturn, 1, [], 0), [true, true, true, true])]])
def kX9_ways : zMeth := (yX9_ways, cX9_ways, 2, (some .long), { frames := 7, cells := 0, slots := 0, locals := 189 }, [
  [some ((.aload_n 0, 1, [], 0), []), some ((.iload_n 1, 1, [], 0), []), some ((.invokevirtual 128, 3, [0, 118, 2, 0, 0, 9, 9137, 9139, 1004, 7001, 9140], 0), []), none, none, some ((.ifCond .eq 25, 3, [], 0), []), none, none, some ((.aload_n 0, 1, [], 0), []), some ((.getfield 50, 3, [9, 2, 8185], 0), []), none, none, some ((.aload_n 0, 1, [], 0), []), some ((.getfield 38, 3, [9, 4, 8187], 0), []), none, none],
  [some ((.getfield 137, 3, [1, 5, 7201], 0), []), none, none, some ((.iload_n 1, 1, [], 0), []), some ((.iaload, 1, [], 0), []), some ((.invokevirtual 160, 3, [0, 17, 2, 0, 0, 2, 9190, 9191, 9192, 7011, 9193], 0), []), none, none, some ((.getfield 174, 3, [7, 7, 8039], 0), [true, true]), none, none, some ((.goto 6, 3, [], 0), []), none, none, some ((.ldc2_w 178, 3, [0, 10070], (-2)), []), none],
  [none, some ((.lreturn, 1, [], 0), [true, true])]])
def kX9_spans : zMeth := (yX9_spans, cX9_spans, 2, (some .int), { frames := 7, cells := 0, slots := 0, locals := 189 }, [
  [some ((.aload_n 0, 1, [], 0), []), some ((.iload_n 1, 1, [], 0), []), some ((.invokevirtual 128, 3, [0, 118, 2, 0, 0, 9, 9137, 9139, 1004, 7001, 9140], 0), []), none, none, some ((.ifCond .eq 25, 3, [], 0), []), none, none, some ((.aload_n 0, 1, [], 0), []), some ((.getfield 50, 3, [9, 2, 8185], 0), []), none, none, some ((.aload_n 0, 1, [], 0), []), some ((.getfield 38, 3, [9, 4, 8187], 0), []), none, none],
  [some ((.getfield 137, 3, [1, 5, 7201], 0), []), none, none, some ((.iload_n 1, 1, [], 0), []), some ((.iaload, 1, [], 0), []), some ((.invokevirtual 160, 3, [0, 17, 2, 0, 0, 2, 9190, 9191, 9192, 7011, 9193], 0), []), none, none, some ((.getfield 180, 3, [7, 8, 8043], 0), [true, true]), none, none, some ((.goto 5, 3, [], 0), []), none, none, some ((.bipush (-2), 2, [], 0), []), none],
  [some ((.ireturn, 1, [], 0), [true, true])]])
def kX9_span : zMeth := (yX9_span, cX9_span, 5, (some .int), { frames := 7, cells := 0, slots := 0, locals := 189 }, [
  [some ((.aload_n 0, 1, [], 0), []), some ((.iload_n 1, 1, [], 0), []), some ((.invokevirtual 128, 3, [0, 118, 2, 0, 0, 9, 9137, 9139, 1004, 7001, 9140], 0), []), none, none, some ((.ifCond .eq 16, 3, [], 0), []), none, none, some ((.iload_n 2, 1, [], 0), []), some ((.ifCond .lt 12, 3, [], 0), []), none, none, some ((.iload_n 3, 1, [], 0), []), some ((.ifCond .lt 8, 3, [], 0), []), none, none],
  [some ((.iload_n 3, 1, [], 0), []), some ((.iconst 2, 1, [], 0), []), some ((.if_icmp .le 6, 3, [], 0), []), none, none, some ((.bipush (-2), 2, [], 0), [true, true, true, true]), none, some ((.ireturn, 1, [], 0), []), some ((.aload_n 0, 1, [], 0), []), some ((.getfield 50, 3, [9, 2, 8185], 0), []), none, none, some ((.aload_n 0, 1, [], 0), []), some ((.getfield 38, 3, [9, 4, 8187], 0), []), none, none],
  [some ((.getfield 137, 3, [1, 5, 7201], 0), []), none, none, some ((.iload_n 1, 1, [], 0), []), some ((.iaload, 1, [], 0), []), some ((.invokevirtual 160, 3, [0, 17, 2, 0, 0, 2, 9190, 9191, 9192, 7011, 9193], 0), []), none, none, some ((.astore 4, 2, [], 0), [true, true]), none, some ((.iload_n 2, 1, [], 0), []), some ((.aload 4, 2, [], 0), []), none, some ((.getfield 180, 3, [7, 8, 8043], 0), []), none, none],
  [some ((.if_icmp .lt 5, 3, [], 0), []), none, none, some ((.iconst (-1), 1, [], 0), []), some ((.ireturn, 1, [], 0), []), some ((.iload_n 3, 1, [], 0), []), some ((.ifCond .ne 11, 3, [], 0), []), none, none, some ((.aload 4, 2, [], 0), []), none, some ((.getfield 183, 3, [7, 0, 8018], 0), []), none, none, some ((.iload_n 2, 1, [], 0), []), some ((.iaload, 1, [], 0), [])],
  [some ((.ireturn, 1, [], 0), []), some ((.iload_n 3, 1, [], 0), []), some ((.iconst 1, 1, [], 0), []), some ((.if_icmp .ne 13, 3, [], 0), []), none, none, some ((.aload 4, 2, [], 0), []), none, some ((.getfield 186, 3, [7, 1, 8022], 0), []), none, none, some ((.iload_n 2, 1, [], 0), []), some ((.iaload, 1, [], 0), []), some ((.goto 10, 3, [], 0), []), none, none],
  [some ((.aload 4, 2, [], 0), []), none, some ((.getfield 189, 3, [7, 2, 8025], 0), []), none, none, some ((.iload_n 2, 1, [], 0), []), some ((.iaload, 1, [], 0), []), some ((.ireturn, 1, [], 0), [true, true, true, true, true])]])
def kX9_nots : zMeth := (yX9_nots, cX9_nots, 4, (some .int), { frames := 7, cells := 0, slots := 0, locals := 189 }, [
  [some ((.aload_n 0, 1, [], 0), []), some ((.iload_n 1, 1, [], 0), []), some ((.invokevirtual 128, 3, [0, 118, 2, 0, 0, 9, 9137, 9139, 1004, 7001, 9140], 0), []), none, none, some ((.ifCond .eq 12, 3, [], 0), []), none, none, some ((.iload_n 2, 1, [], 0), []), some ((.ifCond .lt 8, 3, [], 0), []), none, none, some ((.iload_n 2, 1, [], 0), []), some ((.iconst 1, 1, [], 0), []), some ((.if_icmp .le 6, 3, [], 0), []), none],
  [none, some ((.bipush (-2), 2, [], 0), [true, true, true]), none, some ((.ireturn, 1, [], 0), []), some ((.aload_n 0, 1, [], 0), []), some ((.getfield 50, 3, [9, 2, 8185], 0), []), none, none, some ((.aload_n 0, 1, [], 0), []), some ((.getfield 38, 3, [9, 4, 8187], 0), []), none, none, some ((.getfield 137, 3, [1, 5, 7201], 0), []), none, none, some ((.iload_n 1, 1, [], 0), [])],
  [some ((.iaload, 1, [], 0), []), some ((.invokevirtual 160, 3, [0, 17, 2, 0, 0, 2, 9190, 9191, 9192, 7011, 9193], 0), []), none, none, some ((.astore_n 3, 1, [], 0), [true, true]), some ((.iload_n 2, 1, [], 0), []), some ((.ifCond .ne 10, 3, [], 0), []), none, none, some ((.aload_n 3, 1, [], 0), []), some ((.getfield 192, 3, [7, 9, 8047], 0), []), none, none, some ((.goto 7, 3, [], 0), []), none, none],
  [some ((.aload_n 3, 1, [], 0), []), some ((.getfield 195, 3, [7, 10, 8051], 0), []), none, none, some ((.ireturn, 1, [], 0), [true, true, true, true])]])
def kX9_alsos : zMeth := (yX9_alsos, cX9_alsos, 4, (some .int), { frames := 7, cells := 0, slots := 0, locals := 189 }, [
  [some ((.aload_n 0, 1, [], 0), []), some ((.iload_n 1, 1, [], 0), []), some ((.invokevirtual 128, 3, [0, 118, 2, 0, 0, 9, 9137, 9139, 1004, 7001, 9140], 0), []), none, none, some ((.ifCond .eq 12, 3, [], 0), []), none, none, some ((.iload_n 2, 1, [], 0), []), some ((.ifCond .lt 8, 3, [], 0), []), none, none, some ((.iload_n 2, 1, [], 0), []), some ((.iconst 1, 1, [], 0), []), some ((.if_icmp .le 6, 3, [], 0), []), none],
  [none, some ((.bipush (-2), 2, [], 0), [true, true, true]), none, some ((.ireturn, 1, [], 0), []), some ((.aload_n 0, 1, [], 0), []), some ((.getfield 50, 3, [9, 2, 8185], 0), []), none, none, some ((.aload_n 0, 1, [], 0), []), some ((.getfield 38, 3, [9, 4, 8187], 0), []), none, none, some ((.getfield 137, 3, [1, 5, 7201], 0), []), none, none, some ((.iload_n 1, 1, [], 0), [])],
  [some ((.iaload, 1, [], 0), []), some ((.invokevirtual 160, 3, [0, 17, 2, 0, 0, 2, 9190, 9191, 9192, 7011, 9193], 0), []), none, none, some ((.astore_n 3, 1, [], 0), [true, true]), some ((.iload_n 2, 1, [], 0), []), some ((.ifCond .ne 10, 3, [], 0), []), none, none, some ((.aload_n 3, 1, [], 0), []), some ((.getfield 198, 3, [7, 11, 8055], 0), []), none, none, some ((.goto 7, 3, [], 0), []), none, none],
  [some ((.aload_n 3, 1, [], 0), []), some ((.getfield 201, 3, [7, 12, 8059], 0), []), none, none, some ((.ireturn, 1, [], 0), [true, true, true, true])]])
def kX9_within : zMeth := (yX9_within, cX9_within, 3, (some .int), { frames := 7, cells := 0, slots := 0, locals := 191 }, [
  [some ((.aload_n 0, 1, [], 0), []), some ((.iload_n 1, 1, [], 0), []), some ((.invokevirtual 128, 3, [0, 118, 2, 0, 0, 9, 9137, 9139, 1004, 7001, 9140], 0), []), none, none, some ((.ifCond .eq 12, 3, [], 0), []), none, none, some ((.iload_n 2, 1, [], 0), []), some ((.ifCond .lt 8, 3, [], 0), []), none, none, some ((.iload_n 2, 1, [], 0), []), some ((.iconst 4, 1, [], 0), []), some ((.if_icmp .le 6, 3, [], 0), []), none],
  [none, some ((.bipush (-2), 2, [], 0), [true, true, true]), none, some ((.ireturn, 1, [], 0), []), some ((.aload_n 0, 1, [], 0), []), some ((.getfield 50, 3, [9, 2, 8185], 0), []), none, none, some ((.aload_n 0, 1, [], 0), []), some ((.getfield 38, 3, [9, 4, 8187], 0), []), none, none, some ((.getfield 137, 3, [1, 5, 7201], 0), []), none, none, some ((.iload_n 1, 1, [], 0), [])],
  [some ((.iaload, 1, [], 0), []), some ((.iload_n 2, 1, [], 0), []), some ((.iconst 1, 1, [], 0), []), some ((.invokevirtual 204, 3, [0, 16, 4, 0, 0, 2, 10091, 10092, 10093, 7011, 10094], 0), []), none, none, some ((.ireturn, 1, [], 0), [true, true, true])]])
def kX9_plain : zMeth := (yX9_plain, cX9_plain, 2, (some .int), { frames := 7, cells := 0, slots := 0, locals := 191 }, [
  [some ((.aload_n 0, 1, [], 0), []), some ((.iload_n 1, 1, [], 0), []), some ((.invokevirtual 128, 3, [0, 118, 2, 0, 0, 9, 9137, 9139, 1004, 7001, 9140], 0), []), none, none, some ((.ifCond .eq 24, 3, [], 0), []), none, none, some ((.aload_n 0, 1, [], 0), []), some ((.getfield 50, 3, [9, 2, 8185], 0), []), none, none, some ((.aload_n 0, 1, [], 0), []), some ((.getfield 38, 3, [9, 4, 8187], 0), []), none, none],
  [some ((.getfield 137, 3, [1, 5, 7201], 0), []), none, none, some ((.iload_n 1, 1, [], 0), []), some ((.iaload, 1, [], 0), []), some ((.iconst (-1), 1, [], 0), []), some ((.iconst 0, 1, [], 0), []), some ((.invokevirtual 204, 3, [0, 16, 4, 0, 0, 2, 10091, 10092, 10093, 7011, 10094], 0), []), none, none, some ((.goto 5, 3, [], 0), [true, true]), none, none, some ((.bipush (-2), 2, [], 0), []), none, some ((.ireturn, 1, [], 0), [true, true])]])
def kX9_other : zMeth := (yX9_other, cX9_other, 3, (some .int), { frames := 7, cells := 0, slots := 0, locals := 191 }, [
  [some ((.aload_n 0, 1, [], 0), []), some ((.iload_n 1, 1, [], 0), []), some ((.invokevirtual 128, 3, [0, 118, 2, 0, 0, 9, 9137, 9139, 1004, 7001, 9140], 0), []), none, none, some ((.ifCond .eq 11, 3, [], 0), []), none, none, some ((.aload_n 0, 1, [], 0), []), some ((.iload_n 2, 1, [], 0), []), some ((.invokevirtual 116, 3, [0, 119, 2, 0, 0, 9, 9121, 9123, 1003, 7001, 9124], 0), []), none, none, some ((.ifCond .ne 6, 3, [], 0), []), none, none],
  [some ((.bipush (-2), 2, [], 0), [true, true, true]), none, some ((.ireturn, 1, [], 0), []), some ((.aload_n 0, 1, [], 0), []), some ((.getfield 50, 3, [9, 2, 8185], 0), []), none, none, some ((.aload_n 0, 1, [], 0), []), some ((.getfield 38, 3, [9, 4, 8187], 0), []), none, none, some ((.getfield 137, 3, [1, 5, 7201], 0), []), none, none, some ((.iload_n 1, 1, [], 0), []), some ((.iaload, 1, [], 0), [])],
  [some ((.iconst 1, 1, [], 0), []), some ((.iload_n 2, 1, [], 0), []), some ((.ishl, 1, [], 0), []), some ((.ixor, 1, [], 0), []), some ((.iconst (-1), 1, [], 0), []), some ((.iconst 1, 1, [], 0), []), some ((.invokevirtual 204, 3, [0, 16, 4, 0, 0, 2, 10091, 10092, 10093, 7011, 10094], 0), []), none, none, some ((.ireturn, 1, [], 0), [true, true, true])]])
def kX9_shift : zMeth := (yX9_shift, cX9_shift, 5, (some .int), { frames := 7, cells := 0, slots := 0, locals := 191 }, [
  [some ((.aload_n 0, 1, [], 0), []), some ((.iload_n 1, 1, [], 0), []), some ((.invokevirtual 128, 3, [0, 118, 2, 0, 0, 9, 9137, 9139, 1004, 7001, 9140], 0), []), none, none, some ((.ifCond .eq 15, 3, [], 0), []), none, none, some ((.iload_n 2, 1, [], 0), []), some ((.bipush (-27), 2, [], 0), []), none, some ((.if_icmp .lt 9, 3, [], 0), []), none, none, some ((.iload_n 2, 1, [], 0), []), some ((.bipush 27, 2, [], 0), [])],
  [none, some ((.if_icmp .le 6, 3, [], 0), []), none, none, some ((.bipush (-2), 2, [], 0), [true, true, true]), none, some ((.ireturn, 1, [], 0), []), some ((.aload_n 0, 1, [], 0), []), some ((.getfield 38, 3, [9, 4, 8187], 0), []), none, none, some ((.getfield 137, 3, [1, 5, 7201], 0), []), none, none, some ((.iload_n 1, 1, [], 0), []), some ((.iaload, 1, [], 0), [])],
  [some ((.istore_n 3, 1, [], 0), []), some ((.iload_n 2, 1, [], 0), []), some ((.ifCond .ge 10, 3, [], 0), []), none, none, some ((.iload_n 3, 1, [], 0), []), some ((.iload_n 2, 1, [], 0), []), some ((.ineg, 1, [], 0), []), some ((.ishr, 1, [], 0), []), some ((.goto 6, 3, [], 0), []), none, none, some ((.iload_n 3, 1, [], 0), []), some ((.iload_n 2, 1, [], 0), []), some ((.ishl, 1, [], 0), []), some ((.istore 4, 2, [], 0), [false, true, true, true])],
  [none, some ((.aload_n 0, 1, [], 0), []), some ((.getfield 50, 3, [9, 2, 8185], 0), []), none, none, some ((.iload 4, 2, [], 0), []), none, some ((.aload_n 0, 1, [], 0), []), some ((.getfield 38, 3, [9, 4, 8187], 0), []), none, none, some ((.invokevirtual 208, 3, [0, 7, 1, 0, 0, 1, 10107, 10108, 10109, 7010, 10110], 0), []), none, none, some ((.iand, 1, [], 0), [true, true, true, true, true]), some ((.iconst (-1), 1, [], 0), [])],
  [some ((.iconst 1, 1, [], 0), []), some ((.invokevirtual 204, 3, [0, 16, 4, 0, 0, 2, 10091, 10092, 10093, 7011, 10094], 0), []), none, none, some ((.ireturn, 1, [], 0), [true, true, true, true, true])]])
def kX9_least : zMeth := (yX9_least, cX9_least, 2, (some .int), { frames := 7, cells := 0, slots := 0, locals := 191 }, [
  [some ((.aload_n 0, 1, [], 0), []), some ((.getfield 38, 3, [9, 4, 8187], 0), []), none, none, some ((.getfield 104, 3, [1, 6, 7205], 0), []), none, none, some ((.ifCond .eq 17, 3, [], 0), []), none, none, some ((.iload_n 1, 1, [], 0), []), some ((.aload_n 0, 1, [], 0), []), some ((.getfield 38, 3, [9, 4, 8187], 0), []), none, none, some ((.invokevirtual 208, 3, [0, 7, 1, 0, 0, 1, 10107, 10108, 10109, 7010, 10110], 0), [])],
  [none, none, some ((.iconst (-1), 1, [], 0), []), some ((.ixor, 1, [], 0), []), some ((.iand, 1, [], 0), []), some ((.ifCond .eq 6, 3, [], 0), []), none, none, some ((.bipush (-2), 2, [], 0), [true, true]), none, some ((.ireturn, 1, [], 0), []), some ((.aload_n 0, 1, [], 0), []), some ((.getfield 50, 3, [9, 2, 8185], 0), []), none, none, some ((.iload_n 1, 1, [], 0), [])],
  [some ((.iconst (-1), 1, [], 0), []), some ((.iconst 1, 1, [], 0), []), some ((.invokevirtual 204, 3, [0, 16, 4, 0, 0, 2, 10091, 10092, 10093, 7011, 10094], 0), []), none, none, some ((.ireturn, 1, [], 0), [true, true])]])
def kX9_tells : zMeth := (yX9_tells, cX9_tells, 2, (some .int), { frames := 6, cells := 0, slots := 0, locals := 135 }, [
  [some ((.aload_n 0, 1, [], 0), []), some ((.getfield 38, 3, [9, 4, 8187], 0), []), none, none, some ((.getfield 104, 3, [1, 6, 7205], 0), []), none, none, some ((.ifCond .ne 6, 3, [], 0), []), none, none, some ((.bipush (-2), 2, [], 0), []), none, some ((.ireturn, 1, [], 0), []), some ((.aload_n 0, 1, [], 0), []), some ((.getfield 24, 3, [9, 1, 8184], 0), []), none],
  [none, some ((.aload_n 0, 1, [], 0), []), some ((.getfield 13, 3, [9, 0, 8183], 0), []), none, none, some ((.aload_n 0, 1, [], 0), []), some ((.getfield 38, 3, [9, 4, 8187], 0), []), none, none, some ((.invokevirtual 212, 3, [0, 37, 3, 0, 0, 4, 10119, 10120, 10121, 7008, 10122], 0), []), none, none, some ((.istore_n 1, 1, [], 0), []), some ((.aload_n 0, 1, [], 0), []), some ((.getfield 13, 3, [9, 0, 8183], 0), []), none],
  [none, some ((.iconst 0, 1, [], 0), []), some ((.putfield 77, 3, [6, 1, 7098], 0), []), none, none, some ((.aload_n 0, 1, [], 0), []), some ((.iconst 1, 1, [], 0), []), some ((.putfield 61, 3, [9, 8, 8191], 0), []), none, none, some ((.aload_n 0, 1, [], 0), []), some ((.iload_n 1, 1, [], 0), []), some ((.ifCond .eq 13, 3, [], 0), []), none, none, some ((.aload_n 0, 1, [], 0), [])],
  [some ((.getfield 24, 3, [9, 1, 8184], 0), []), none, none, some ((.getfield 215, 3, [4, 2, 7116], 0), []), none, none, some ((.goto 4, 3, [], 0), []), none, none, some ((.iconst (-1), 1, [], 0), []), some ((.putfield 65, 3, [9, 9, 8192], 0), []), none, none, some ((.aload_n 0, 1, [], 0), []), some ((.iload_n 1, 1, [], 0), []), some ((.ifCond .eq 13, 3, [], 0), [])],
  [none, none, some ((.aload_n 0, 1, [], 0), []), some ((.getfield 24, 3, [9, 1, 8184], 0), []), none, none, some ((.getfield 218, 3, [4, 3, 7118], 0), []), none, none, some ((.goto 4, 3, [], 0), []), none, none, some ((.iconst (-1), 1, [], 0), []), some ((.putfield 68, 3, [9, 10, 8193], 0), []), none, none],
  [some ((.aload_n 0, 1, [], 0), []), some ((.aload_n 0, 1, [], 0), []), some ((.getfield 24, 3, [9, 1, 8184], 0), []), none, none, some ((.getfield 88, 3, [4, 0, 7112], 0), []), none, none, some ((.putfield 71, 3, [9, 11, 8194], 0), []), none, none, some ((.aload_n 0, 1, [], 0), []), some ((.aload_n 0, 1, [], 0), []), some ((.getfield 24, 3, [9, 1, 8184], 0), []), none, none],
  [some ((.getfield 91, 3, [4, 1, 7114], 0), []), none, none, some ((.putfield 74, 3, [9, 12, 8195], 0), []), none, none, some ((.iload_n 1, 1, [], 0), []), some ((.ifCond .eq 13, 3, [], 0), []), none, none, some ((.aload_n 0, 1, [], 0), []), some ((.getfield 65, 3, [9, 9, 8192], 0), []), none, none, some ((.invokestatic 140, 3, [1, 235, 1, 0, 0, 9153, 9154, 7015, 9155, 0], 0), []), none],
  [none, some ((.goto 5, 3, [], 0), [true, true]), none, none, some ((.bipush (-4), 2, [], 0), []), none, some ((.ireturn, 1, [], 0), [true, true])]])
def kX9_told : zMeth := (yX9_told, cX9_told, 2, (some .int), { frames := 0, cells := 0, slots := 0, locals := 0 }, [
  [some ((.aload_n 0, 1, [], 0), []), some ((.getfield 61, 3, [9, 8, 8191], 0), []), none, none, some ((.ifCond .ne 5, 3, [], 0), []), none, none, some ((.iconst (-1), 1, [], 0), []), some ((.ireturn, 1, [], 0), []), some ((.iload_n 1, 1, [], 0), []), some ((.tableswitch 50 0 3 #[30, 35, 40, 45], 30, [], 0), []), none, none, none, none, none],
  [none, none, none, none, none, none, none, none, none, none, none, none, none, none, none, none],
  [none, none, none, none, none, none, none, none, some ((.aload_n 0, 1, [], 0), []), some ((.getfield 65, 3, [9, 9, 8192], 0), []), none, none, some ((.ireturn, 1, [], 0), []), some ((.aload_n 0, 1, [], 0), []), some ((.getfield 68, 3, [9, 10, 8193], 0), []), none],
  [none, some ((.ireturn, 1, [], 0), []), some ((.aload_n 0, 1, [], 0), []), some ((.getfield 71, 3, [9, 11, 8194], 0), []), none, none, some ((.ireturn, 1, [], 0), []), some ((.aload_n 0, 1, [], 0), []), some ((.getfield 74, 3, [9, 12, 8195], 0), []), none, none, some ((.ireturn, 1, [], 0), []), some ((.iconst (-1), 1, [], 0), []), some ((.ireturn, 1, [], 0), [])]])
def kX9_worse : zMeth := (yX9_worse, cX9_worse, 1, (some .int), { frames := 7, cells := 0, slots := 0, locals := 191 }, [
  [some ((.aload_n 0, 1, [], 0), []), some ((.getfield 61, 3, [9, 8, 8191], 0), []), none, none, some ((.ifCond .eq 10, 3, [], 0), []), none, none, some ((.aload_n 0, 1, [], 0), []), some ((.getfield 71, 3, [9, 11, 8194], 0), []), none, none, some ((.ifCond .eq 5, 3, [], 0), []), none, none, some ((.iconst (-1), 1, [], 0), [true]), some ((.ireturn, 1, [], 0), [])],
  [some ((.aload_n 0, 1, [], 0), []), some ((.getfield 68, 3, [9, 10, 8193], 0), []), none, none, some ((.aload_n 0, 1, [], 0), []), some ((.getfield 50, 3, [9, 2, 8185], 0), []), none, none, some ((.aload_n 0, 1, [], 0), []), some ((.getfield 65, 3, [9, 9, 8192], 0), []), none, none, some ((.iconst (-1), 1, [], 0), []), some ((.iconst 1, 1, [], 0), []), some ((.invokevirtual 204, 3, [0, 16, 4, 0, 0, 2, 10091, 10092, 10093, 7011, 10094], 0), []), none],
  [none, some ((.isub, 1, [], 0), [true]), some ((.ireturn, 1, [], 0), [])]])
def kX9_shares : zMeth := (yX9_shares, cX9_shares, 3, (some .int), { frames := 1, cells := 0, slots := 0, locals := 21 }, [
  [some ((.aload_n 0, 1, [], 0), []), some ((.iload_n 1, 1, [], 0), []), some ((.invokevirtual 128, 3, [0, 118, 2, 0, 0, 9, 9137, 9139, 1004, 7001, 9140], 0), []), none, none, some ((.ifCond .eq 11, 3, [], 0), []), none, none, some ((.aload_n 0, 1, [], 0), []), some ((.iload_n 2, 1, [], 0), []), some ((.invokevirtual 128, 3, [0, 118, 2, 0, 0, 9, 9137, 9139, 1004, 7001, 9140], 0), []), none, none, some ((.ifCond .ne 6, 3, [], 0), []), none, none],
  [some ((.bipush (-2), 2, [], 0), [true, true, true]), none, some ((.ireturn, 1, [], 0), []), some ((.aload_n 0, 1, [], 0), []), some ((.getfield 38, 3, [9, 4, 8187], 0), []), none, none, some ((.getfield 137, 3, [1, 5, 7201], 0), []), none, none, some ((.iload_n 1, 1, [], 0), []), some ((.iaload, 1, [], 0), []), some ((.aload_n 0, 1, [], 0), []), some ((.getfield 38, 3, [9, 4, 8187], 0), []), none, none],
  [some ((.getfield 137, 3, [1, 5, 7201], 0), []), none, none, some ((.iload_n 2, 1, [], 0), []), some ((.iaload, 1, [], 0), []), some ((.iand, 1, [], 0), []), some ((.ireturn, 1, [], 0), [])]])
def kX9_same : zMeth := (yX9_same, cX9_same, 3, (some .int), { frames := 1, cells := 0, slots := 0, locals := 21 }, [
  [some ((.aload_n 0, 1, [], 0), []), some ((.iload_n 1, 1, [], 0), []), some ((.invokevirtual 128, 3, [0, 118, 2, 0, 0, 9, 9137, 9139, 1004, 7001, 9140], 0), []), none, none, some ((.ifCond .eq 11, 3, [], 0), []), none, none, some ((.aload_n 0, 1, [], 0), []), some ((.iload_n 2, 1, [], 0), []), some ((.invokevirtual 128, 3, [0, 118, 2, 0, 0, 9, 9137, 9139, 1004, 7001, 9140], 0), []), none, none, some ((.ifCond .ne 6, 3, [], 0), []), none, none],
  [some ((.bipush (-2), 2, [], 0), [true, true, true]), none, some ((.ireturn, 1, [], 0), []), some ((.aload_n 0, 1, [], 0), []), some ((.getfield 38, 3, [9, 4, 8187], 0), []), none, none, some ((.getfield 137, 3, [1, 5, 7201], 0), []), none, none, some ((.iload_n 1, 1, [], 0), []), some ((.iaload, 1, [], 0), []), some ((.aload_n 0, 1, [], 0), []), some ((.getfield 38, 3, [9, 4, 8187], 0), []), none, none],
  [some ((.getfield 137, 3, [1, 5, 7201], 0), []), none, none, some ((.iload_n 2, 1, [], 0), []), some ((.iaload, 1, [], 0), []), some ((.if_icmp .ne 7, 3, [], 0), []), none, none, some ((.iconst 1, 1, [], 0), []), some ((.goto 4, 3, [], 0), []), none, none, some ((.iconst 0, 1, [], 0), []), some ((.ireturn, 1, [], 0), [true, true, true])]])
def kX9_join : zMeth := (yX9_join, cX9_join, 2, (some .int), { frames := 2, cells := 0, slots := 0, locals := 44 }, [
  [some ((.aload_n 0, 1, [], 0), []), some ((.iload_n 1, 1, [], 0), []), some ((.invokevirtual 128, 3, [0, 118, 2, 0, 0, 9, 9137, 9139, 1004, 7001, 9140], 0), []), none, none, some ((.ifCond .eq 14, 3, [], 0), []), none, none, some ((.aload_n 0, 1, [], 0), []), some ((.getfield 38, 3, [9, 4, 8187], 0), []), none, none, some ((.iload_n 1, 1, [], 0), []), some ((.invokevirtual 221, 3, [0, 10, 2, 0, 0, 1, 10143, 10144, 10145, 7010, 10146], 0), []), none, none],
  [some ((.goto 5, 3, [], 0), [true, true]), none, none, some ((.bipush (-2), 2, [], 0), []), none, some ((.ireturn, 1, [], 0), [true, true])]])
def kX9_joint : zMeth := (yX9_joint, cX9_joint, 2, (some .int), { frames := 2, cells := 0, slots := 0, locals := 45 }, [
  [some ((.aload_n 0, 1, [], 0), []), some ((.iload_n 1, 1, [], 0), []), some ((.invokevirtual 128, 3, [0, 118, 2, 0, 0, 9, 9137, 9139, 1004, 7001, 9140], 0), []), none, none, some ((.ifCond .eq 14, 3, [], 0), []), none, none, some ((.aload_n 0, 1, [], 0), []), some ((.getfield 38, 3, [9, 4, 8187], 0), []), none, none, some ((.iload_n 1, 1, [], 0), []), some ((.invokevirtual 224, 3, [0, 11, 2, 0, 0, 1, 10155, 10156, 10157, 7010, 10158], 0), []), none, none],
  [some ((.goto 5, 3, [], 0), [true, true]), none, none, some ((.bipush (-2), 2, [], 0), []), none, some ((.ireturn, 1, [], 0), [true, true])]])
def kX9_twice : zMeth := (yX9_twice, cX9_twice, 5, (some .int), { frames := 1, cells := 0, slots := 0, locals := 22 }, [
  [some ((.aload_n 0, 1, [], 0), []), some ((.iload_n 1, 1, [], 0), []), some ((.invokevirtual 128, 3, [0, 118, 2, 0, 0, 9, 9137, 9139, 1004, 7001, 9140], 0), []), none, none, some ((.ifCond .ne 6, 3, [], 0), []), none, none, some ((.bipush (-2), 2, [], 0), []), none, some ((.ireturn, 1, [], 0), []), some ((.iconst 0, 1, [], 0), []), some ((.istore_n 2, 1, [], 0), []), some ((.iconst 0, 1, [], 0), []), some ((.istore_n 3, 1, [], 0), []), some ((.iconst 0, 1, [], 0), [])],
  [some ((.istore 4, 2, [], 0), []), none, some ((.iload 4, 2, [], 0), []), none, some ((.aload_n 0, 1, [], 0), []), some ((.getfield 38, 3, [9, 4, 8187], 0), []), none, none, some ((.getfield 113, 3, [1, 9, 7216], 0), []), none, none, some ((.if_icmp .ge 50, 3, [], 0), []), none, none, some ((.aload_n 0, 1, [], 0), []), some ((.getfield 38, 3, [9, 4, 8187], 0), [])],
  [none, none, some ((.iload_n 1, 1, [], 0), []), some ((.iload 4, 2, [], 0), []), none, some ((.invokevirtual 227, 3, [0, 9, 3, 0, 0, 1, 10163, 10148, 10149, 7010, 10150], 0), []), none, none, some ((.ifCond .eq 31, 3, [], 0), []), none, none, some ((.iload_n 3, 1, [], 0), []), some ((.iload_n 2, 1, [], 0), []), some ((.aload_n 0, 1, [], 0), []), some ((.getfield 38, 3, [9, 4, 8187], 0), []), none],
  [none, some ((.getfield 137, 3, [1, 5, 7201], 0), []), none, none, some ((.iload 4, 2, [], 0), []), none, some ((.iaload, 1, [], 0), []), some ((.iand, 1, [], 0), []), some ((.ior, 1, [], 0), []), some ((.istore_n 3, 1, [], 0), []), some ((.iload_n 2, 1, [], 0), []), some ((.aload_n 0, 1, [], 0), []), some ((.getfield 38, 3, [9, 4, 8187], 0), []), none, none, some ((.getfield 137, 3, [1, 5, 7201], 0), [])],
  [none, none, some ((.iload 4, 2, [], 0), []), none, some ((.iaload, 1, [], 0), []), some ((.ior, 1, [], 0), []), some ((.istore_n 2, 1, [], 0), []), some ((.iinc 4 1, 3, [], 0), []), none, none, some ((.goto (-56), 3, [], 0), []), none, none, some ((.iload_n 3, 1, [], 0), []), some ((.ireturn, 1, [], 0), [])]])
def kX9_saved : zMeth := (yX9_saved, cX9_saved, 3, (some .int), { frames := 7, cells := 0, slots := 0, locals := 191 }, [
  [some ((.aload_n 0, 1, [], 0), []), some ((.getfield 38, 3, [9, 4, 8187], 0), []), none, none, some ((.getfield 104, 3, [1, 6, 7205], 0), []), none, none, some ((.ifCond .ne 6, 3, [], 0), []), none, none, some ((.bipush (-2), 2, [], 0), []), none, some ((.ireturn, 1, [], 0), []), some ((.iconst 0, 1, [], 0), []), some ((.istore_n 1, 1, [], 0), []), some ((.iconst 0, 1, [], 0), [])],
  [some ((.istore_n 2, 1, [], 0), []), some ((.iload_n 2, 1, [], 0), []), some ((.aload_n 0, 1, [], 0), []), some ((.getfield 38, 3, [9, 4, 8187], 0), []), none, none, some ((.getfield 113, 3, [1, 9, 7216], 0), []), none, none, some ((.if_icmp .ge 62, 3, [], 0), []), none, none, some ((.iload_n 1, 1, [], 0), []), some ((.aload_n 0, 1, [], 0), []), some ((.getfield 50, 3, [9, 2, 8185], 0), []), none],
  [none, some ((.aload_n 0, 1, [], 0), []), some ((.getfield 38, 3, [9, 4, 8187], 0), []), none, none, some ((.getfield 137, 3, [1, 5, 7201], 0), []), none, none, some ((.iload_n 2, 1, [], 0), []), some ((.iaload, 1, [], 0), []), some ((.iconst (-1), 1, [], 0), []), some ((.iconst 1, 1, [], 0), []), some ((.invokevirtual 204, 3, [0, 16, 4, 0, 0, 2, 10091, 10092, 10093, 7011, 10094], 0), []), none, none, some ((.iadd, 1, [], 0), [false, true])],
  [some ((.istore_n 1, 1, [], 0), []), some ((.aload_n 0, 1, [], 0), []), some ((.getfield 38, 3, [9, 4, 8187], 0), []), none, none, some ((.iload_n 2, 1, [], 0), []), some ((.invokevirtual 221, 3, [0, 10, 2, 0, 0, 1, 10143, 10144, 10145, 7010, 10146], 0), []), none, none, some ((.iload_n 2, 1, [], 0), []), some ((.if_icmp .ne 23, 3, [], 0), []), none, none, some ((.iload_n 1, 1, [], 0), []), some ((.aload_n 0, 1, [], 0), []), some ((.getfield 50, 3, [9, 2, 8185], 0), [])],
  [none, none, some ((.aload_n 0, 1, [], 0), []), some ((.getfield 38, 3, [9, 4, 8187], 0), []), none, none, some ((.iload_n 2, 1, [], 0), []), some ((.invokevirtual 224, 3, [0, 11, 2, 0, 0, 1, 10155, 10156, 10157, 7010, 10158], 0), []), none, none, some ((.iconst (-1), 1, [], 0), [false, true]), some ((.iconst 1, 1, [], 0), []), some ((.invokevirtual 204, 3, [0, 16, 4, 0, 0, 2, 10091, 10092, 10093, 7011, 10094], 0), []), none, none, some ((.isub, 1, [], 0), [false, true])],
  [some ((.istore_n 1, 1, [], 0), []), some ((.iinc 2 1, 3, [], 0), []), none, none, some ((.goto (-67), 3, [], 0), []), none, none, some ((.iload_n 1, 1, [], 0), []), some ((.ireturn, 1, [], 0), [])]])
def kX9_crowd : zMeth := (yX9_crowd, cX9_crowd, 2, (some .int), { frames := 1, cells := 0, slots := 0, locals := 23 }, [
  [some ((.aload_n 0, 1, [], 0), []), some ((.iload_n 1, 1, [], 0), []), some ((.invokevirtual 116, 3, [0, 119, 2, 0, 0, 9, 9121, 9123, 1003, 7001, 9124], 0), []), none, none, some ((.ifCond .eq 14, 3, [], 0), []), none, none, some ((.aload_n 0, 1, [], 0), []), some ((.getfield 38, 3, [9, 4, 8187], 0), []), none, none, some ((.iload_n 1, 1, [], 0), []), some ((.invokevirtual 231, 3, [0, 12, 2, 0, 0, 1, 10172, 10173, 10174, 7010, 10175], 0), []), none, none],
  [some ((.goto 5, 3, [], 0), [true, true]), none, none, some ((.bipush (-2), 2, [], 0), []), none, some ((.ireturn, 1, [], 0), [true, true])]])
def kX9_full : zMeth := (yX9_full, cX9_full, 5, (some .int), { frames := 1, cells := 0, slots := 0, locals := 23 }, [
  [some ((.aload_n 0, 1, [], 0), []), some ((.getfield 38, 3, [9, 4, 8187], 0), []), none, none, some ((.getfield 104, 3, [1, 6, 7205], 0), []), none, none, some ((.ifCond .ne 6, 3, [], 0), []), none, none, some ((.bipush (-2), 2, [], 0), []), none, some ((.ireturn, 1, [], 0), []), some ((.iconst 0, 1, [], 0), []), some ((.istore_n 1, 1, [], 0), []), some ((.iconst 0, 1, [], 0), [])],
  [some ((.istore_n 2, 1, [], 0), []), some ((.iconst 0, 1, [], 0), []), some ((.istore_n 3, 1, [], 0), []), some ((.iload_n 3, 1, [], 0), [false, false, false, false, true]), some ((.aload_n 0, 1, [], 0), []), some ((.getfield 38, 3, [9, 4, 8187], 0), []), none, none, some ((.getfield 104, 3, [1, 6, 7205], 0), []), none, none, some ((.if_icmp .ge 33, 3, [], 0), []), none, none, some ((.aload_n 0, 1, [], 0), []), some ((.getfield 38, 3, [9, 4, 8187], 0), [])],
  [none, none, some ((.iload_n 3, 1, [], 0), []), some ((.invokevirtual 231, 3, [0, 12, 2, 0, 0, 1, 10172, 10173, 10174, 7010, 10175], 0), []), none, none, some ((.invokestatic 140, 3, [1, 235, 1, 0, 0, 9153, 9154, 7015, 9155, 0], 0), [false, false, false, false, true]), none, none, some ((.istore 4, 2, [], 0), [false, false, false, false, true]), none, some ((.iload 4, 2, [], 0), []), none, some ((.iload_n 2, 1, [], 0), []), some ((.if_icmp .le 8, 3, [], 0), []), none],
  [none, some ((.iload 4, 2, [], 0), []), none, some ((.istore_n 2, 1, [], 0), []), some ((.iload_n 3, 1, [], 0), []), some ((.istore_n 1, 1, [], 0), []), some ((.iinc 3 1, 3, [], 0), [false, false, false, false, true]), none, none, some ((.goto (-38), 3, [], 0), []), none, none, some ((.iload_n 1, 1, [], 0), []), some ((.ireturn, 1, [], 0), [])]])
def kX9_flips : zMeth := (yX9_flips, cX9_flips, 3, (some .int), { frames := 7, cells := 0, slots := 0, locals := 191 }, [
  [some ((.aload_n 0, 1, [], 0), []), some ((.iload_n 1, 1, [], 0), []), some ((.invokevirtual 128, 3, [0, 118, 2, 0, 0, 9, 9137, 9139, 1004, 7001, 9140], 0), []), none, none, some ((.ifCond .eq 11, 3, [], 0), []), none, none, some ((.aload_n 0, 1, [], 0), []), some ((.iload_n 2, 1, [], 0), []), some ((.invokevirtual 116, 3, [0, 119, 2, 0, 0, 9, 9121, 9123, 1003, 7001, 9124], 0), []), none, none, some ((.ifCond .ne 6, 3, [], 0), []), none, none],
  [some ((.bipush (-2), 2, [], 0), [true, true, true]), none, some ((.ireturn, 1, [], 0), []), some ((.aload_n 0, 1, [], 0), []), some ((.getfield 31, 3, [9, 3, 8186], 0), []), none, none, some ((.getfield 98, 3, [0, 1, 7170], 0), []), none, none, some ((.bipush 20, 2, [], 0), []), none, some ((.if_icmp .lt 6, 3, [], 0), []), none, none, some ((.bipush (-5), 2, [], 0), [])],
  [none, some ((.ireturn, 1, [], 0), []), some ((.aload_n 0, 1, [], 0), []), some ((.getfield 31, 3, [9, 3, 8186], 0), []), none, none, some ((.aload_n 0, 1, [], 0), []), some ((.getfield 38, 3, [9, 4, 8187], 0), []), none, none, some ((.invokevirtual 234, 3, [0, 1, 2, 0, 0, 0, 10184, 10185, 10186, 7009, 10187], 0), []), none, none, some ((.aload_n 0, 1, [], 0), []), some ((.getfield 38, 3, [9, 4, 8187], 0), []), none],
  [none, some ((.getfield 137, 3, [1, 5, 7201], 0), []), none, none, some ((.iload_n 1, 1, [], 0), []), some ((.dup2, 1, [], 0), []), some ((.iaload, 1, [], 0), []), some ((.iconst 1, 1, [], 0), []), some ((.iload_n 2, 1, [], 0), []), some ((.ishl, 1, [], 0), []), some ((.ixor, 1, [], 0), []), some ((.iastore, 1, [], 0), []), some ((.aload_n 0, 1, [], 0), []), some ((.getfield 50, 3, [9, 2, 8185], 0), []), none, none],
  [some ((.aload_n 0, 1, [], 0), []), some ((.getfield 38, 3, [9, 4, 8187], 0), []), none, none, some ((.getfield 137, 3, [1, 5, 7201], 0), []), none, none, some ((.iload_n 1, 1, [], 0), []), some ((.iaload, 1, [], 0), []), some ((.iconst (-1), 1, [], 0), []), some ((.iconst 1, 1, [], 0), []), some ((.invokevirtual 204, 3, [0, 16, 4, 0, 0, 2, 10091, 10092, 10093, 7011, 10094], 0), []), none, none, some ((.ireturn, 1, [], 0), [true, true, true])]])
def kX9_sets : zMeth := (yX9_sets, cX9_sets, 4, (some .int), { frames := 6, cells := 0, slots := 0, locals := 135 }, [
  [some ((.aload_n 0, 1, [], 0), []), some ((.iload_n 1, 1, [], 0), []), some ((.invokevirtual 128, 3, [0, 118, 2, 0, 0, 9, 9137, 9139, 1004, 7001, 9140], 0), []), none, none, some ((.ifCond .ne 6, 3, [], 0), []), none, none, some ((.bipush (-2), 2, [], 0), []), none, some ((.ireturn, 1, [], 0), []), some ((.aload_n 0, 1, [], 0), []), some ((.getfield 31, 3, [9, 3, 8186], 0), []), none, none, some ((.getfield 98, 3, [0, 1, 7170], 0), [])],
  [none, none, some ((.bipush 20, 2, [], 0), []), none, some ((.if_icmp .lt 7, 3, [], 0), []), none, none, some ((.iconst 1, 1, [], 0), []), some ((.goto 4, 3, [], 0), []), none, none, some ((.iconst 0, 1, [], 0), []), some ((.istore_n 2, 1, [], 0), []), some ((.iload_n 2, 1, [], 0), []), some ((.ifCond .ne 25, 3, [], 0), []), none],
  [none, some ((.aload_n 0, 1, [], 0), []), some ((.getfield 24, 3, [9, 1, 8184], 0), []), none, none, some ((.aload_n 0, 1, [], 0), []), some ((.getfield 13, 3, [9, 0, 8183], 0), []), none, none, some ((.aload_n 0, 1, [], 0), []), some ((.getfield 38, 3, [9, 4, 8187], 0), []), none, none, some ((.invokevirtual 212, 3, [0, 37, 3, 0, 0, 4, 10119, 10120, 10121, 7008, 10122], 0), []), none, none],
  [some ((.ifCond .eq 7, 3, [], 0), []), none, none, some ((.iconst 1, 1, [], 0), []), some ((.goto 4, 3, [], 0), []), none, none, some ((.iconst 0, 1, [], 0), []), some ((.istore_n 3, 1, [], 0), []), some ((.aload_n 0, 1, [], 0), []), some ((.getfield 13, 3, [9, 0, 8183], 0), []), none, none, some ((.iconst 0, 1, [], 0), []), some ((.putfield 77, 3, [6, 1, 7098], 0), []), none],
  [none, some ((.iload_n 3, 1, [], 0), []), some ((.ifCond .ne 15, 3, [], 0), []), none, none, some ((.iload_n 2, 1, [], 0), []), some ((.ifCond .eq 8, 3, [], 0), []), none, none, some ((.bipush (-5), 2, [], 0), []), none, some ((.goto 5, 3, [], 0), []), none, none, some ((.bipush (-4), 2, [], 0), []), none],
  [some ((.ireturn, 1, [], 0), [true, true, true, true]), some ((.aload_n 0, 1, [], 0), []), some ((.getfield 31, 3, [9, 3, 8186], 0), []), none, none, some ((.aload_n 0, 1, [], 0), []), some ((.getfield 38, 3, [9, 4, 8187], 0), []), none, none, some ((.invokevirtual 234, 3, [0, 1, 2, 0, 0, 0, 10184, 10185, 10186, 7009, 10187], 0), []), none, none, some ((.aload_n 0, 1, [], 0), [false, false, true, true]), some ((.getfield 38, 3, [9, 4, 8187], 0), []), none, none],
  [some ((.getfield 137, 3, [1, 5, 7201], 0), []), none, none, some ((.iload_n 1, 1, [], 0), []), some ((.aload_n 0, 1, [], 0), []), some ((.getfield 24, 3, [9, 1, 8184], 0), []), none, none, some ((.getfield 215, 3, [4, 2, 7116], 0), []), none, none, some ((.iastore, 1, [], 0), []), some ((.aload_n 0, 1, [], 0), []), some ((.getfield 24, 3, [9, 1, 8184], 0), []), none, none],
  [some ((.getfield 215, 3, [4, 2, 7116], 0), []), none, none, some ((.invokestatic 140, 3, [1, 235, 1, 0, 0, 9153, 9154, 7015, 9155, 0], 0), []), none, none, some ((.ireturn, 1, [], 0), [true, true, true, true])]])
def kX9_merges : zMeth := (yX9_merges, cX9_merges, 4, (some .int), { frames := 2, cells := 0, slots := 0, locals := 71 }, [
  [some ((.aload_n 0, 1, [], 0), []), some ((.getfield 38, 3, [9, 4, 8187], 0), []), none, none, some ((.getfield 104, 3, [1, 6, 7205], 0), []), none, none, some ((.ifCond .ne 6, 3, [], 0), []), none, none, some ((.bipush (-2), 2, [], 0), []), none, some ((.ireturn, 1, [], 0), []), some ((.aload_n 0, 1, [], 0), []), some ((.getfield 31, 3, [9, 3, 8186], 0), []), none],
  [none, some ((.getfield 98, 3, [0, 1, 7170], 0), []), none, none, some ((.bipush 20, 2, [], 0), []), none, some ((.if_icmp .lt 6, 3, [], 0), []), none, none, some ((.bipush (-5), 2, [], 0), []), none, some ((.ireturn, 1, [], 0), []), some ((.aload_n 0, 1, [], 0), []), some ((.getfield 31, 3, [9, 3, 8186], 0), []), none, none],
  [some ((.aload_n 0, 1, [], 0), []), some ((.getfield 38, 3, [9, 4, 8187], 0), []), none, none, some ((.invokevirtual 234, 3, [0, 1, 2, 0, 0, 0, 10184, 10185, 10186, 7009, 10187], 0), []), none, none, some ((.iconst 0, 1, [], 0), []), some ((.istore_n 1, 1, [], 0), []), some ((.iconst 0, 1, [], 0), []), some ((.istore_n 2, 1, [], 0), []), some ((.iload_n 2, 1, [], 0), [false, false, false, true]), some ((.aload_n 0, 1, [], 0), []), some ((.getfield 38, 3, [9, 4, 8187], 0), []), none, none],
  [some ((.getfield 113, 3, [1, 9, 7216], 0), []), none, none, some ((.if_icmp .ge 60, 3, [], 0), []), none, none, some ((.aload_n 0, 1, [], 0), []), some ((.getfield 38, 3, [9, 4, 8187], 0), []), none, none, some ((.iload_n 2, 1, [], 0), []), some ((.invokevirtual 221, 3, [0, 10, 2, 0, 0, 1, 10143, 10144, 10145, 7010, 10146], 0), []), none, none, some ((.iload_n 2, 1, [], 0), [false, false, false, true]), some ((.if_icmp .ne 14, 3, [], 0), [])],
  [none, none, some ((.aload_n 0, 1, [], 0), []), some ((.getfield 38, 3, [9, 4, 8187], 0), []), none, none, some ((.iload_n 2, 1, [], 0), []), some ((.invokevirtual 224, 3, [0, 11, 2, 0, 0, 1, 10155, 10156, 10157, 7010, 10158], 0), []), none, none, some ((.goto 4, 3, [], 0), [false, false, false, true]), none, none, some ((.iconst 0, 1, [], 0), []), some ((.istore_n 3, 1, [], 0), [false, false, false, true]), some ((.iload_n 3, 1, [], 0), [])],
  [some ((.aload_n 0, 1, [], 0), []), some ((.getfield 38, 3, [9, 4, 8187], 0), []), none, none, some ((.getfield 137, 3, [1, 5, 7201], 0), []), none, none, some ((.iload_n 2, 1, [], 0), []), some ((.iaload, 1, [], 0), []), some ((.if_icmp .eq 6, 3, [], 0), []), none, none, some ((.iinc 1 1, 3, [], 0), []), none, none, some ((.aload_n 0, 1, [], 0), [])],
  [some ((.getfield 38, 3, [9, 4, 8187], 0), []), none, none, some ((.getfield 137, 3, [1, 5, 7201], 0), []), none, none, some ((.iload_n 2, 1, [], 0), []), some ((.iload_n 3, 1, [], 0), []), some ((.iastore, 1, [], 0), []), some ((.iinc 2 1, 3, [], 0), []), none, none, some ((.goto (-65), 3, [], 0), []), none, none, some ((.iload_n 1, 1, [], 0), [])],
  [some ((.ireturn, 1, [], 0), [])]])
def kX9_undo : zMeth := (yX9_undo, cX9_undo, 1, (some .int), { frames := 2, cells := 0, slots := 0, locals := 72 }, [
  [some ((.aload_n 0, 1, [], 0), []), some ((.getfield 38, 3, [9, 4, 8187], 0), []), none, none, some ((.getfield 104, 3, [1, 6, 7205], 0), []), none, none, some ((.ifCond .ne 6, 3, [], 0), []), none, none, some ((.bipush (-2), 2, [], 0), []), none, some ((.ireturn, 1, [], 0), []), some ((.aload_n 0, 1, [], 0), []), some ((.getfield 31, 3, [9, 3, 8186], 0), []), none],
  [none, some ((.getfield 98, 3, [0, 1, 7170], 0), []), none, none, some ((.ifCond .ne 6, 3, [], 0), []), none, none, some ((.bipush (-5), 2, [], 0), []), none, some ((.ireturn, 1, [], 0), []), some ((.aload_n 0, 1, [], 0), []), some ((.getfield 31, 3, [9, 3, 8186], 0), []), none, none, some ((.aload_n 0, 1, [], 0), []), some ((.getfield 31, 3, [9, 3, 8186], 0), [])],
  [none, none, some ((.getfield 98, 3, [0, 1, 7170], 0), []), none, none, some ((.iconst 1, 1, [], 0), []), some ((.isub, 1, [], 0), []), some ((.aload_n 0, 1, [], 0), []), some ((.getfield 38, 3, [9, 4, 8187], 0), []), none, none, some ((.invokevirtual 237, 3, [0, 2, 3, 0, 0, 0, 10203, 10204, 10205, 7009, 10206], 0), []), none, none, some ((.aload_n 0, 1, [], 0), []), some ((.getfield 31, 3, [9, 3, 8186], 0), [])],
  [none, none, some ((.getfield 98, 3, [0, 1, 7170], 0), []), none, none, some ((.ireturn, 1, [], 0), [])]])
def kX9_anew : zMeth := (yX9_anew, cX9_anew, 2, (some .int), { frames := 2, cells := 0, slots := 0, locals := 72 }, [
  [some ((.aload_n 0, 1, [], 0), []), some ((.getfield 38, 3, [9, 4, 8187], 0), []), none, none, some ((.getfield 104, 3, [1, 6, 7205], 0), []), none, none, some ((.ifCond .ne 6, 3, [], 0), []), none, none, some ((.bipush (-2), 2, [], 0), []), none, some ((.ireturn, 1, [], 0), []), some ((.aload_n 0, 1, [], 0), []), some ((.getfield 31, 3, [9, 3, 8186], 0), []), none],
  [none, some ((.getfield 98, 3, [0, 1, 7170], 0), []), none, none, some ((.istore_n 1, 1, [], 0), []), some ((.iload_n 1, 1, [], 0), []), some ((.ifCond .le 15, 3, [], 0), []), none, none, some ((.aload_n 0, 1, [], 0), []), some ((.getfield 31, 3, [9, 3, 8186], 0), []), none, none, some ((.iconst 0, 1, [], 0), []), some ((.aload_n 0, 1, [], 0), []), some ((.getfield 38, 3, [9, 4, 8187], 0), [])],
  [none, none, some ((.invokevirtual 237, 3, [0, 2, 3, 0, 0, 0, 10203, 10204, 10205, 7009, 10206], 0), []), none, none, some ((.iload_n 1, 1, [], 0), [true]), some ((.ireturn, 1, [], 0), [])]])
def kX9_isTrain : zMeth := (yX9_isTrain, cX9_isTrain, 2, (some .boolean), { frames := 0, cells := 0, slots := 0, locals := 0 }, [
  [some ((.iload_n 1, 1, [], 0), []), some ((.ifCond .lt 18, 3, [], 0), []), none, none, some ((.iload_n 1, 1, [], 0), []), some ((.aload_n 0, 1, [], 0), []), some ((.getfield 38, 3, [9, 4, 8187], 0), []), none, none, some ((.getfield 113, 3, [1, 9, 7216], 0), []), none, none, some ((.if_icmp .ge 7, 3, [], 0), []), none, none, some ((.iconst 1, 1, [], 0), [])],
  [some ((.goto 4, 3, [], 0), []), none, none, some ((.iconst 0, 1, [], 0), [true, true]), some ((.ireturn, 1, [], 0), [true, true])]])
def kX9_isDay : zMeth := (yX9_isDay, cX9_isDay, 2, (some .boolean), { frames := 0, cells := 0, slots := 0, locals := 0 }, [
  [some ((.iload_n 1, 1, [], 0), []), some ((.ifCond .lt 18, 3, [], 0), []), none, none, some ((.iload_n 1, 1, [], 0), []), some ((.aload_n 0, 1, [], 0), []), some ((.getfield 38, 3, [9, 4, 8187], 0), []), none, none, some ((.getfield 104, 3, [1, 6, 7205], 0), []), none, none, some ((.if_icmp .ge 7, 3, [], 0), []), none, none, some ((.iconst 1, 1, [], 0), [])],
  [some ((.goto 4, 3, [], 0), []), none, none, some ((.iconst 0, 1, [], 0), [true, true]), some ((.ireturn, 1, [], 0), [true, true])]])
def kX9_votedWeekdays : zMeth := (yX9_votedWeekdays, cX9_votedWeekdays, 5, (some .int), { frames := 1, cells := 0, slots := 0, locals := 20 }, [
  [some ((.iconst 0, 1, [], 0), []), some ((.istore_n 2, 1, [], 0), []), some ((.iconst 0, 1, [], 0), []), some ((.istore_n 3, 1, [], 0), []), some ((.iload_n 3, 1, [], 0), [false, false, false, false, true]), some ((.bipush 7, 2, [], 0), []), none, some ((.if_icmp .ge 45, 3, [], 0), []), none, none, some ((.aload_n 0, 1, [], 0), []), some ((.getfield 38, 3, [9, 4, 8187], 0), []), none, none, some ((.getfield 145, 3, [1, 0, 7184], 0), []), none],
  [none, some ((.iconst 1, 1, [], 0), []), some ((.iload_n 3, 1, [], 0), []), some ((.ishl, 1, [], 0), []), some ((.iaload, 1, [], 0), []), some ((.istore 4, 2, [], 0), []), none, some ((.iconst 2, 1, [], 0), []), some ((.iload_n 1, 1, [], 0), []), some ((.iload 4, 2, [], 0), []), none, some ((.iand, 1, [], 0), []), some ((.invokestatic 140, 3, [1, 235, 1, 0, 0, 9153, 9154, 7015, 9155, 0], 0), []), none, none, some ((.imul, 1, [], 0), [])],
  [some ((.iload 4, 2, [], 0), []), none, some ((.invokestatic 140, 3, [1, 235, 1, 0, 0, 9153, 9154, 7015, 9155, 0], 0), []), none, none, some ((.if_icmp .le 9, 3, [], 0), [false, false, false, false, true]), none, none, some ((.iload_n 2, 1, [], 0), []), some ((.iconst 1, 1, [], 0), []), some ((.iload_n 3, 1, [], 0), []), some ((.ishl, 1, [], 0), []), some ((.ior, 1, [], 0), []), some ((.istore_n 2, 1, [], 0), []), some ((.iinc 3 1, 3, [], 0), [false, false, false, false, true]), none],
  [none, some ((.goto (-45), 3, [], 0), []), none, none, some ((.iload_n 2, 1, [], 0), []), some ((.ireturn, 1, [], 0), [])]])
def kX9_rowStarts : zMeth := (yX9_rowStarts, cX9_rowStarts, 1, (some .int), { frames := 0, cells := 0, slots := 0, locals := 0 }, [
  [some ((.iload_n 0, 1, [], 0), []), some ((.iload_n 0, 1, [], 0), []), some ((.iconst 1, 1, [], 0), []), some ((.ishl, 1, [], 0), []), some ((.iconst (-1), 1, [], 0), []), some ((.ixor, 1, [], 0), []), some ((.iand, 1, [], 0), []), some ((.ireturn, 1, [], 0), [])]])
def kX9_rowSize : zMeth := (yX9_rowSize, cX9_rowSize, 2, (some .int), { frames := 1, cells := 0, slots := 0, locals := 21 }, [
  [some ((.iload_n 0, 1, [], 0), []), some ((.iload_n 1, 1, [], 0), []), some ((.ishr, 1, [], 0), []), some ((.iconst (-1), 1, [], 0), []), some ((.ixor, 1, [], 0), []), some ((.invokestatic 151, 3, [1, 234, 1, 0, 0, 8127, 8128, 7015, 8129, 0], 0), []), none, none, some ((.ireturn, 1, [], 0), [true, true])]])
def kX10_in : zMeth := (yX10_in, cX10_in, 6, (some .boolean), { frames := 0, cells := 0, slots := 0, locals := 0 }, [
  [some ((.lload_n 0, 1, [], 0), []), some ((.lload_n 2, 1, [], 0), []), some ((.lcmp, 1, [], 0), []), some ((.ifCond .lt 14, 3, [], 0), []), none, none, some ((.lload_n 0, 1, [], 0), []), some ((.lload 4, 2, [], 0), []), none, some ((.lcmp, 1, [], 0), []), some ((.ifCond .gt 7, 3, [], 0), []), none, none, some ((.iconst 1, 1, [], 0), []), some ((.goto 4, 3, [], 0), []), none],
  [none, some ((.iconst 0, 1, [], 0), [true, false, true, false, true]), some ((.ireturn, 1, [], 0), [true, false, true, false, true])]])
def kX10_has : zMeth := (yX10_has, cX10_has, 2, (some .boolean), { frames := 0, cells := 0, slots := 0, locals := 0 }, [
  [some ((.iload_n 0, 1, [], 0), []), some ((.iload_n 1, 1, [], 0), []), some ((.ishr, 1, [], 0), []), some ((.iconst 1, 1, [], 0), []), some ((.iand, 1, [], 0), []), some ((.iconst 1, 1, [], 0), []), some ((.if_icmp .ne 7, 3, [], 0), []), none, none, some ((.iconst 1, 1, [], 0), []), some ((.goto 4, 3, [], 0), []), none, none, some ((.iconst 0, 1, [], 0), []), some ((.ireturn, 1, [], 0), [true, true])]])
def kX10_bitsOf : zMeth := (yX10_bitsOf, cX10_bitsOf, 3, (some .int), { frames := 0, cells := 0, slots := 0, locals := 0 }, [
  [some ((.iconst 0, 1, [], 0), []), some ((.istore_n 1, 1, [], 0), []), some ((.iconst 0, 1, [], 0), []), some ((.istore_n 2, 1, [], 0), []), some ((.iload_n 2, 1, [], 0), []), some ((.bipush 31, 2, [], 0), []), none, some ((.if_icmp .ge 17, 3, [], 0), []), none, none, some ((.iload_n 1, 1, [], 0), []), some ((.iload_n 0, 1, [], 0), []), some ((.iload_n 2, 1, [], 0), []), some ((.ishr, 1, [], 0), []), some ((.iconst 1, 1, [], 0), []), some ((.iand, 1, [], 0), [])],
  [some ((.iadd, 1, [], 0), []), some ((.istore_n 1, 1, [], 0), []), some ((.iinc 2 1, 3, [], 0), []), none, none, some ((.goto (-17), 3, [], 0), []), none, none, some ((.iload_n 1, 1, [], 0), []), some ((.ireturn, 1, [], 0), [])]])
def kX10_flag : zMeth := (yX10_flag, cX10_flag, 1, (some .int), { frames := 0, cells := 0, slots := 0, locals := 0 }, [
  [some ((.iload_n 0, 1, [], 0), []), some ((.ifCond .eq 7, 3, [], 0), []), none, none, some ((.iconst 1, 1, [], 0), []), some ((.goto 4, 3, [], 0), []), none, none, some ((.iconst 0, 1, [], 0), []), some ((.ireturn, 1, [], 0), [true])]])
def kX10_init : zMeth := (yX10_init, cX10_init, 1, none, { frames := 1, cells := 15, slots := 1540, locals := 20 }, [
  [some ((.aload_n 0, 1, [], 0), []), some ((.invokespecial 1, 3, [3, 10216, 7025, 7026], 0), []), none, none, some ((.aload_n 0, 1, [], 0), []), some ((.bipush 44, 2, [], 0), []), none, some ((.newarray .int, 2, [7161], 0), []), none, some ((.putfield 9, 3, [10, 0, 10217], 0), []), none, none, some ((.aload_n 0, 1, [], 0), []), some ((.bipush 44, 2, [], 0), []), none, some ((.newarray .int, 2, [7161], 0), [])],
  [none, some ((.putfield 13, 3, [10, 1, 10218], 0), []), none, none, some ((.aload_n 0, 1, [], 0), []), some ((.bipush 120, 2, [], 0), []), none, some ((.newarray .int, 2, [7161], 0), []), none, some ((.putfield 16, 3, [10, 2, 10219], 0), []), none, none, some ((.aload_n 0, 1, [], 0), []), some ((.sipush 600, 3, [], 0), []), none, none],
  [some ((.newarray .int, 2, [7161], 0), []), none, some ((.putfield 19, 3, [10, 4, 10221], 0), []), none, none, some ((.aload_n 0, 1, [], 0), []), some ((.iconst (-1), 1, [], 0), []), some ((.putfield 22, 3, [10, 7, 10224], 0), []), none, none, some ((.aload_n 0, 1, [], 0), []), some ((.bipush 116, 2, [], 0), []), none, some ((.newarray .int, 2, [7161], 0), []), none, some ((.putfield 26, 3, [10, 20, 10237], 0), [])],
  [none, none, some ((.aload_n 0, 1, [], 0), []), some ((.bipush 116, 2, [], 0), []), none, some ((.newarray .long, 2, [7087], 0), []), none, some ((.putfield 29, 3, [10, 21, 10238], 0), []), none, none, some ((.aload_n 0, 1, [], 0), []), some ((.sipush 145, 3, [], 0), []), none, none, some ((.newarray .int, 2, [7161], 0), []), none],
  [some ((.putfield 33, 3, [10, 22, 10239], 0), []), none, none, some ((.aload_n 0, 1, [], 0), []), some ((.sipush 128, 3, [], 0), []), none, none, some ((.newarray .int, 2, [7161], 0), []), none, some ((.putfield 36, 3, [10, 23, 11000], 0), []), none, none, some ((.aload_n 0, 1, [], 0), []), some ((.bipush 7, 2, [], 0), []), none, some ((.newarray .int, 2, [7161], 0), [])],
  [none, some ((.putfield 39, 3, [10, 24, 11001], 0), []), none, none, some ((.aload_n 0, 1, [], 0), []), some ((.sipush 128, 3, [], 0), []), none, none, some ((.newarray .int, 2, [7161], 0), []), none, some ((.putfield 42, 3, [10, 25, 11002], 0), []), none, none, some ((.aload_n 0, 1, [], 0), []), some ((.bipush 28, 2, [], 0), []), none],
  [some ((.newarray .int, 2, [7161], 0), []), none, some ((.putfield 45, 3, [10, 30, 11007], 0), []), none, none, some ((.aload_n 0, 1, [], 0), []), some ((.bipush 28, 2, [], 0), []), none, some ((.newarray .int, 2, [7161], 0), []), none, some ((.putfield 48, 3, [10, 31, 11008], 0), []), none, none, some ((.aload_n 0, 1, [], 0), []), some ((.bipush 28, 2, [], 0), []), none],
  [some ((.newarray .int, 2, [7161], 0), []), none, some ((.putfield 51, 3, [10, 32, 11009], 0), []), none, none, some ((.aload_n 0, 1, [], 0), []), some ((.iconst 4, 1, [], 0), []), some ((.newarray .int, 2, [7161], 0), []), none, some ((.putfield 54, 3, [10, 38, 11015], 0), []), none, none, some ((.aload_n 0, 1, [], 0), []), some ((.iconst 4, 1, [], 0), []), some ((.newarray .boolean, 2, [11122], 0), []), none],
  [some ((.putfield 57, 3, [10, 39, 11016], 0), []), none, none, some ((.return_, 1, [], 0), [])]])
def kX10_feed : zMeth := (yX10_feed, cX10_feed, 8, (some .int), { frames := 0, cells := 1, slots := 5, locals := 0 }, [
  [some ((.aload_n 0, 1, [], 0), []), some ((.getfield 61, 3, [10, 5, 10222], 0), []), none, none, some ((.sipush 580, 3, [], 0), []), none, none, some ((.if_icmp .le 5, 3, [], 0), []), none, none, some ((.iconst (-1), 1, [], 0), []), some ((.ireturn, 1, [], 0), []), some ((.iconst 5, 1, [], 0), []), some ((.newarray .int, 2, [7161], 0), []), none, some ((.dup, 1, [], 0), [])],
  [some ((.iconst 0, 1, [], 0), []), some ((.iload_n 1, 1, [], 0), []), some ((.iastore, 1, [], 0), []), some ((.dup, 1, [], 0), []), some ((.iconst 1, 1, [], 0), []), some ((.iload_n 2, 1, [], 0), []), some ((.iastore, 1, [], 0), []), some ((.dup, 1, [], 0), []), some ((.iconst 2, 1, [], 0), []), some ((.iload_n 3, 1, [], 0), []), some ((.iastore, 1, [], 0), []), some ((.dup, 1, [], 0), []), some ((.iconst 3, 1, [], 0), []), some ((.iload 4, 2, [], 0), []), none, some ((.iastore, 1, [], 0), [])],
  [some ((.dup, 1, [], 0), []), some ((.iconst 4, 1, [], 0), []), some ((.iload 5, 2, [], 0), []), none, some ((.iastore, 1, [], 0), []), some ((.astore 6, 2, [], 0), []), none, some ((.iconst 0, 1, [], 0), [false, true, true, true, true, true]), some ((.istore 7, 2, [], 0), []), none, some ((.iload 7, 2, [], 0), [false, true, true, true, true, true]), none, some ((.bipush 20, 2, [], 0), []), none, some ((.if_icmp .ge 43, 3, [], 0), []), none],
  [none, some ((.aload_n 0, 1, [], 0), []), some ((.getfield 19, 3, [10, 4, 10221], 0), []), none, none, some ((.aload_n 0, 1, [], 0), []), some ((.getfield 61, 3, [10, 5, 10222], 0), []), none, none, some ((.iload 7, 2, [], 0), []), none, some ((.iadd, 1, [], 0), []), some ((.aload 6, 2, [], 0), []), none, some ((.iload 7, 2, [], 0), []), none],
  [some ((.iconst 4, 1, [], 0), []), some ((.idiv, 1, [], 0), []), some ((.iaload, 1, [], 0), []), some ((.bipush 24, 2, [], 0), []), none, some ((.bipush 8, 2, [], 0), []), none, some ((.iload 7, 2, [], 0), []), none, some ((.iconst 4, 1, [], 0), []), some ((.irem, 1, [], 0), []), some ((.imul, 1, [], 0), []), some ((.isub, 1, [], 0), []), some ((.iushr, 1, [], 0), []), some ((.sipush 255, 3, [], 0), []), none],
  [none, some ((.iand, 1, [], 0), []), some ((.iastore, 1, [], 0), []), some ((.iinc 7 1, 3, [], 0), []), none, none, some ((.goto (-44), 3, [], 0), [false, true, true, true, true, true]), none, none, some ((.aload_n 0, 1, [], 0), []), some ((.dup, 1, [], 0), []), some ((.getfield 61, 3, [10, 5, 10222], 0), []), none, none, some ((.bipush 20, 2, [], 0), []), none],
  [some ((.iadd, 1, [], 0), []), some ((.putfield 61, 3, [10, 5, 10222], 0), []), none, none, some ((.aload_n 0, 1, [], 0), []), some ((.getfield 61, 3, [10, 5, 10222], 0), []), none, none, some ((.ireturn, 1, [], 0), [])]])
def kX10_end : zMeth := (yX10_end, cX10_end, 2, (some .int), { frames := 1, cells := 0, slots := 0, locals := 25 }, [
  [some ((.iload_n 1, 1, [], 0), []), some ((.i2l, 1, [], 0), []), some ((.lconst 0, 1, [], 0), []), some ((.aload_n 0, 1, [], 0), []), some ((.getfield 61, 3, [10, 5, 10222], 0), []), none, none, some ((.i2l, 1, [], 0), []), some ((.invokestatic 64, 3, [1, 123, 3, 0, 0, 11131, 11132, 7017, 11133, 0], 0), []), none, none, some ((.ifCond .ne 5, 3, [], 0), []), none, none, some ((.iconst (-1), 1, [], 0), []), some ((.ireturn, 1, [], 0), [])],
  [some ((.aload_n 0, 1, [], 0), []), some ((.iload_n 1, 1, [], 0), []), some ((.putfield 61, 3, [10, 5, 10222], 0), []), none, none, some ((.iload_n 1, 1, [], 0), []), some ((.ireturn, 1, [], 0), [])]])
def kX10_isAt : zMeth := (yX10_isAt, cX10_isAt, 3, (some .boolean), { frames := 1, cells := 0, slots := 0, locals := 25 }, [
  [some ((.aload_n 0, 1, [], 0), []), some ((.getfield 68, 3, [10, 8, 10225], 0), []), none, none, some ((.aload_n 0, 1, [], 0), []), some ((.getfield 61, 3, [10, 5, 10222], 0), []), none, none, some ((.if_icmp .ge 27, 3, [], 0), []), none, none, some ((.aload_n 0, 1, [], 0), []), some ((.getfield 19, 3, [10, 4, 10221], 0), []), none, none, some ((.aload_n 0, 1, [], 0), [])],
  [some ((.getfield 68, 3, [10, 8, 10225], 0), []), none, none, some ((.iaload, 1, [], 0), []), some ((.i2l, 1, [], 0), []), some ((.iload_n 1, 1, [], 0), []), some ((.i2l, 1, [], 0), []), some ((.iload_n 2, 1, [], 0), []), some ((.i2l, 1, [], 0), []), some ((.invokestatic 64, 3, [1, 123, 3, 0, 0, 11131, 11132, 7017, 11133, 0], 0), []), none, none, some ((.ifCond .eq 7, 3, [], 0), [true, true, true]), none, none, some ((.iconst 1, 1, [], 0), [])],
  [some ((.goto 4, 3, [], 0), []), none, none, some ((.iconst 0, 1, [], 0), [true, true, true]), some ((.ireturn, 1, [], 0), [true, true, true])]])
def kX10_next : zMeth := (yX10_next, cX10_next, 1, none, { frames := 5, cells := 0, slots := 0, locals := 110 }, [
  [some ((.aload_n 0, 1, [], 0), []), some ((.bipush 32, 2, [], 0), []), none, some ((.bipush 32, 2, [], 0), []), none, some ((.invokevirtual 71, 3, [0, 130, 3, 0, 0, 10, 11146, 11148, 2013, 7017, 11149], 0), []), none, none, some ((.ifCond .ne 14, 3, [], 0), []), none, none, some ((.aload_n 0, 1, [], 0), []), some ((.bipush 10, 2, [], 0), []), none, some ((.bipush 10, 2, [], 0), []), none],
  [some ((.invokevirtual 71, 3, [0, 130, 3, 0, 0, 10, 11146, 11148, 2013, 7017, 11149], 0), []), none, none, some ((.ifCond .eq 16, 3, [], 0), []), none, none, some ((.aload_n 0, 1, [], 0), []), some ((.dup, 1, [], 0), []), some ((.getfield 68, 3, [10, 8, 10225], 0), []), none, none, some ((.iconst 1, 1, [], 0), []), some ((.iadd, 1, [], 0), []), some ((.putfield 68, 3, [10, 8, 10225], 0), []), none, none],
  [some ((.goto (-32), 3, [], 0), []), none, none, some ((.aload_n 0, 1, [], 0), []), some ((.aload_n 0, 1, [], 0), []), some ((.getfield 68, 3, [10, 8, 10225], 0), []), none, none, some ((.putfield 75, 3, [10, 9, 10226], 0), []), none, none, some ((.aload_n 0, 1, [], 0), []), some ((.iconst 0, 1, [], 0), []), some ((.putfield 78, 3, [10, 11, 10228], 0), []), none, none],
  [some ((.aload_n 0, 1, [], 0), []), some ((.iconst (-1), 1, [], 0), []), some ((.putfield 81, 3, [10, 12, 10229], 0), []), none, none, some ((.aload_n 0, 1, [], 0), []), some ((.getfield 68, 3, [10, 8, 10225], 0), []), none, none, some ((.aload_n 0, 1, [], 0), []), some ((.getfield 61, 3, [10, 5, 10222], 0), []), none, none, some ((.if_icmp .ne 11, 3, [], 0), []), none, none],
  [some ((.aload_n 0, 1, [], 0), []), some ((.iconst 0, 1, [], 0), []), some ((.putfield 84, 3, [10, 10, 10227], 0), []), none, none, some ((.goto 175, 3, [], 0), []), none, none, some ((.aload_n 0, 1, [], 0), []), some ((.bipush 97, 2, [], 0), []), none, some ((.bipush 122, 2, [], 0), []), none, some ((.invokevirtual 71, 3, [0, 130, 3, 0, 0, 10, 11146, 11148, 2013, 7017, 11149], 0), []), none, none],
  [some ((.ifCond .eq 43, 3, [], 0), []), none, none, some ((.aload_n 0, 1, [], 0), []), some ((.iconst 1, 1, [], 0), []), some ((.putfield 84, 3, [10, 10, 10227], 0), []), none, none, some ((.aload_n 0, 1, [], 0), []), some ((.bipush 97, 2, [], 0), []), none, some ((.bipush 122, 2, [], 0), []), none, some ((.invokevirtual 71, 3, [0, 130, 3, 0, 0, 10, 11146, 11148, 2013, 7017, 11149], 0), []), none, none],
  [some ((.ifCond .eq 16, 3, [], 0), []), none, none, some ((.aload_n 0, 1, [], 0), []), some ((.dup, 1, [], 0), []), some ((.getfield 68, 3, [10, 8, 10225], 0), []), none, none, some ((.iconst 1, 1, [], 0), []), some ((.iadd, 1, [], 0), []), some ((.putfield 68, 3, [10, 8, 10225], 0), []), none, none, some ((.goto (-21), 3, [], 0), []), none, none],
  [some ((.aload_n 0, 1, [], 0), []), some ((.aload_n 0, 1, [], 0), []), some ((.invokevirtual 87, 3, [0, 132, 1, 0, 0, 10, 11150, 11152, 2014, 7017, 11153], 0), []), none, none, some ((.putfield 81, 3, [10, 12, 10229], 0), [true]), none, none, some ((.goto 124, 3, [], 0), []), none, none, some ((.aload_n 0, 1, [], 0), []), some ((.bipush 48, 2, [], 0), []), none, some ((.bipush 57, 2, [], 0), []), none],
  [some ((.invokevirtual 71, 3, [0, 130, 3, 0, 0, 10, 11146, 11148, 2013, 7017, 11149], 0), []), none, none, some ((.ifCond .eq 61, 3, [], 0), []), none, none, some ((.aload_n 0, 1, [], 0), []), some ((.iconst 2, 1, [], 0), []), some ((.putfield 84, 3, [10, 10, 10227], 0), []), none, none, some ((.aload_n 0, 1, [], 0), []), some ((.bipush 48, 2, [], 0), []), none, some ((.bipush 57, 2, [], 0), []), none],
  [some ((.invokevirtual 71, 3, [0, 130, 3, 0, 0, 10, 11146, 11148, 2013, 7017, 11149], 0), []), none, none, some ((.ifCond .eq 97, 3, [], 0), []), none, none, some ((.aload_n 0, 1, [], 0), []), some ((.ldc 91, 2, [0, 11157], 99999), []), none, some ((.bipush 10, 2, [], 0), []), none, some ((.aload_n 0, 1, [], 0), []), some ((.getfield 78, 3, [10, 11, 10228], 0), []), none, none, some ((.imul, 1, [], 0), [])],
  [some ((.aload_n 0, 1, [], 0), []), some ((.getfield 19, 3, [10, 4, 10221], 0), []), none, none, some ((.aload_n 0, 1, [], 0), []), some ((.getfield 68, 3, [10, 8, 10225], 0), []), none, none, some ((.iaload, 1, [], 0), []), some ((.iadd, 1, [], 0), []), some ((.bipush 48, 2, [], 0), []), none, some ((.isub, 1, [], 0), []), some ((.invokestatic 92, 3, [1, 237, 2, 0, 0, 11158, 8132, 7016, 8133, 0], 0), []), none, none],
  [some ((.putfield 78, 3, [10, 11, 10228], 0), []), none, none, some ((.aload_n 0, 1, [], 0), []), some ((.dup, 1, [], 0), []), some ((.getfield 68, 3, [10, 8, 10225], 0), []), none, none, some ((.iconst 1, 1, [], 0), []), some ((.iadd, 1, [], 0), []), some ((.putfield 68, 3, [10, 8, 10225], 0), []), none, none, some ((.goto (-50), 3, [], 0), []), none, none],
  [some ((.aload_n 0, 1, [], 0), []), some ((.aload_n 0, 1, [], 0), []), some ((.bipush 59, 2, [], 0), []), none, some ((.bipush 59, 2, [], 0), []), none, some ((.invokevirtual 71, 3, [0, 130, 3, 0, 0, 10, 11146, 11148, 2013, 7017, 11149], 0), []), none, none, some ((.ifCond .ne 25, 3, [], 0), []), none, none, some ((.aload_n 0, 1, [], 0), []), some ((.bipush 58, 2, [], 0), []), none, some ((.bipush 58, 2, [], 0), [])],
  [none, some ((.invokevirtual 71, 3, [0, 130, 3, 0, 0, 10, 11146, 11148, 2013, 7017, 11149], 0), []), none, none, some ((.ifCond .ne 14, 3, [], 0), []), none, none, some ((.aload_n 0, 1, [], 0), []), some ((.bipush 45, 2, [], 0), []), none, some ((.bipush 45, 2, [], 0), []), none, some ((.invokevirtual 71, 3, [0, 130, 3, 0, 0, 10, 11146, 11148, 2013, 7017, 11149], 0), []), none, none, some ((.ifCond .eq 7, 3, [], 0), [])],
  [none, none, some ((.iconst 3, 1, [], 0), []), some ((.goto 4, 3, [], 0), []), none, none, some ((.iconst 4, 1, [], 0), []), some ((.putfield 84, 3, [10, 10, 10227], 0), []), none, none, some ((.aload_n 0, 1, [], 0), []), some ((.dup, 1, [], 0), []), some ((.getfield 68, 3, [10, 8, 10225], 0), []), none, none, some ((.iconst 1, 1, [], 0), [])],
  [some ((.iadd, 1, [], 0), []), some ((.putfield 68, 3, [10, 8, 10225], 0), []), none, none, some ((.return_, 1, [], 0), [true])]])
def kX10_wordHere : zMeth := (yX10_wordHere, cX10_wordHere, 6, (some .int), { frames := 4, cells := 0, slots := 0, locals := 85 }, [
  [some ((.iconst 0, 1, [], 0), []), some ((.istore_n 1, 1, [], 0), []), some ((.iconst 1, 1, [], 0), []), some ((.istore_n 2, 1, [], 0), []), some ((.iload_n 2, 1, [], 0), [false, false, false, true, true, true]), some ((.ldc 98, 2, [1, 1], 0), []), none, some ((.invokevirtual 100, 3, [5, 11155, 7035, 7036, 7003, 7037], 0), []), none, none, some ((.if_icmp .ge 114, 3, [], 0), []), none, none, some ((.iload_n 2, 1, [], 0), []), some ((.istore_n 3, 1, [], 0), []), some ((.ldc 98, 2, [1, 1], 0), [false, false, false, false, true, true])],
  [none, some ((.iload_n 3, 1, [], 0), []), some ((.invokevirtual 105, 3, [6, 11156, 7045, 7046, 7003, 7047], 0), []), none, none, some ((.bipush 32, 2, [], 0), []), none, some ((.if_icmp .eq 9, 3, [], 0), []), none, none, some ((.iinc 3 1, 3, [], 0), []), none, none, some ((.goto (-14), 3, [], 0), []), none, none],
  [some ((.iload_n 3, 1, [], 0), []), some ((.iload_n 2, 1, [], 0), []), some ((.isub, 1, [], 0), []), some ((.aload_n 0, 1, [], 0), []), some ((.getfield 68, 3, [10, 8, 10225], 0), []), none, none, some ((.aload_n 0, 1, [], 0), []), some ((.getfield 75, 3, [10, 9, 10226], 0), []), none, none, some ((.isub, 1, [], 0), []), some ((.if_icmp .ne 7, 3, [], 0), []), none, none, some ((.iconst 1, 1, [], 0), [])],
  [some ((.goto 4, 3, [], 0), []), none, none, some ((.iconst 0, 1, [], 0), []), some ((.istore 4, 2, [], 0), [false, false, false, false, true, true]), none, some ((.iconst 0, 1, [], 0), []), some ((.istore 5, 2, [], 0), []), none, some ((.iload 5, 2, [], 0), []), none, some ((.iload_n 3, 1, [], 0), []), some ((.iload_n 2, 1, [], 0), []), some ((.isub, 1, [], 0), []), some ((.if_icmp .ge 45, 3, [], 0), []), none],
  [none, some ((.iload 4, 2, [], 0), []), none, some ((.ifCond .eq 40, 3, [], 0), []), none, none, some ((.ldc 98, 2, [1, 1], 0), []), none, some ((.iload_n 2, 1, [], 0), []), some ((.iload 5, 2, [], 0), []), none, some ((.iadd, 1, [], 0), []), some ((.invokevirtual 105, 3, [6, 11156, 7045, 7046, 7003, 7047], 0), []), none, none, some ((.aload_n 0, 1, [], 0), [])],
  [some ((.getfield 19, 3, [10, 4, 10221], 0), []), none, none, some ((.aload_n 0, 1, [], 0), []), some ((.getfield 75, 3, [10, 9, 10226], 0), []), none, none, some ((.iload 5, 2, [], 0), []), none, some ((.iadd, 1, [], 0), []), some ((.iaload, 1, [], 0), []), some ((.if_icmp .ne 7, 3, [], 0), []), none, none, some ((.iconst 1, 1, [], 0), []), some ((.goto 4, 3, [], 0), [])],
  [none, none, some ((.iconst 0, 1, [], 0), []), some ((.istore 4, 2, [], 0), [false, false, false, false, true]), none, some ((.iinc 5 1, 3, [], 0), []), none, none, some ((.goto (-47), 3, [], 0), []), none, none, some ((.iload 4, 2, [], 0), [false, false, true, false, false, true]), none, some ((.ifCond .eq 5, 3, [], 0), []), none, none],
  [some ((.iload_n 1, 1, [], 0), []), some ((.ireturn, 1, [], 0), []), some ((.iinc 1 1, 3, [], 0), []), none, none, some ((.iload_n 3, 1, [], 0), []), some ((.iconst 1, 1, [], 0), []), some ((.iadd, 1, [], 0), []), some ((.istore_n 2, 1, [], 0), []), some ((.goto (-117), 3, [], 0), []), none, none, some ((.iconst (-1), 1, [], 0), []), some ((.ireturn, 1, [], 0), [])]])
def kX10_feastHere : zMeth := (yX10_feastHere, cX10_feastHere, 4, (some .int), { frames := 0, cells := 0, slots := 0, locals := 0 }, [
  [some ((.iconst 0, 1, [], 0), []), some ((.istore_n 1, 1, [], 0), []), some ((.iload_n 1, 1, [], 0), [false, false, true, true]), some ((.aload_n 0, 1, [], 0), []), some ((.getfield 9, 3, [10, 0, 10217], 0), []), none, none, some ((.iconst 2, 1, [], 0), []), some ((.iaload, 1, [], 0), []), some ((.if_icmp .ge 109, 3, [], 0), []), none, none, some ((.aload_n 0, 1, [], 0), []), some ((.getfield 84, 3, [10, 10, 10227], 0), []), none, none],
  [some ((.iconst 1, 1, [], 0), []), some ((.if_icmp .ne 28, 3, [], 0), []), none, none, some ((.aload_n 0, 1, [], 0), []), some ((.getfield 68, 3, [10, 8, 10225], 0), []), none, none, some ((.aload_n 0, 1, [], 0), []), some ((.getfield 75, 3, [10, 9, 10226], 0), []), none, none, some ((.isub, 1, [], 0), []), some ((.aload_n 0, 1, [], 0), []), some ((.getfield 9, 3, [10, 0, 10217], 0), []), none],
  [none, some ((.bipush 8, 2, [], 0), []), none, some ((.iload_n 1, 1, [], 0), []), some ((.iadd, 1, [], 0), []), some ((.iaload, 1, [], 0), []), some ((.if_icmp .ne 7, 3, [], 0), []), none, none, some ((.iconst 1, 1, [], 0), []), some ((.goto 4, 3, [], 0), []), none, none, some ((.iconst 0, 1, [], 0), [false, false, true, true]), some ((.istore_n 2, 1, [], 0), [false, false, true, true]), some ((.iconst 0, 1, [], 0), [])],
  [some ((.istore_n 3, 1, [], 0), []), some ((.iload_n 3, 1, [], 0), []), some ((.aload_n 0, 1, [], 0), []), some ((.getfield 9, 3, [10, 0, 10217], 0), []), none, none, some ((.bipush 8, 2, [], 0), []), none, some ((.iload_n 1, 1, [], 0), []), some ((.iadd, 1, [], 0), []), some ((.iaload, 1, [], 0), []), some ((.if_icmp .ge 47, 3, [], 0), []), none, none, some ((.iload_n 2, 1, [], 0), []), some ((.ifCond .eq 43, 3, [], 0), [])],
  [none, none, some ((.aload_n 0, 1, [], 0), []), some ((.getfield 19, 3, [10, 4, 10221], 0), []), none, none, some ((.aload_n 0, 1, [], 0), []), some ((.getfield 75, 3, [10, 9, 10226], 0), []), none, none, some ((.iload_n 3, 1, [], 0), []), some ((.iadd, 1, [], 0), []), some ((.iaload, 1, [], 0), []), some ((.aload_n 0, 1, [], 0), []), some ((.getfield 9, 3, [10, 0, 10217], 0), []), none],
  [none, some ((.bipush 10, 2, [], 0), []), none, some ((.bipush 8, 2, [], 0), []), none, some ((.iload_n 1, 1, [], 0), []), some ((.imul, 1, [], 0), []), some ((.iadd, 1, [], 0), []), some ((.iload_n 3, 1, [], 0), []), some ((.iadd, 1, [], 0), []), some ((.iaload, 1, [], 0), []), some ((.if_icmp .ne 7, 3, [], 0), []), none, none, some ((.iconst 1, 1, [], 0), [false, false, true]), some ((.goto 4, 3, [], 0), [])],
  [none, none, some ((.iconst 0, 1, [], 0), []), some ((.istore_n 2, 1, [], 0), [false, false, true]), some ((.iinc 3 1, 3, [], 0), []), none, none, some ((.goto (-54), 3, [], 0), []), none, none, some ((.iload_n 2, 1, [], 0), [false, false, false, true]), some ((.ifCond .eq 5, 3, [], 0), []), none, none, some ((.iload_n 1, 1, [], 0), []), some ((.ireturn, 1, [], 0), [])],
  [some ((.iinc 1 1, 3, [], 0), []), none, none, some ((.goto (-113), 3, [], 0), []), none, none, some ((.iconst (-1), 1, [], 0), []), some ((.ireturn, 1, [], 0), [])]])
def kX10_faults : zMeth := (yX10_faults, cX10_faults, 2, none, { frames := 0, cells := 0, slots := 0, locals := 0 }, [
  [some ((.aload_n 0, 1, [], 0), []), some ((.getfield 109, 3, [10, 14, 10231], 0), []), none, none, some ((.ifCond .ne 21, 3, [], 0), []), none, none, some ((.aload_n 0, 1, [], 0), []), some ((.iconst 1, 1, [], 0), []), some ((.putfield 109, 3, [10, 14, 10231], 0), []), none, none, some ((.aload_n 0, 1, [], 0), []), some ((.iload_n 1, 1, [], 0), []), some ((.putfield 113, 3, [10, 15, 10232], 0), []), none],
  [none, some ((.aload_n 0, 1, [], 0), []), some ((.aload_n 0, 1, [], 0), []), some ((.getfield 75, 3, [10, 9, 10226], 0), []), none, none, some ((.putfield 116, 3, [10, 16, 10233], 0), []), none, none, some ((.return_, 1, [], 0), [true, true])]])
def kX10_needs : zMeth := (yX10_needs, cX10_needs, 2, none, { frames := 6, cells := 0, slots := 0, locals := 130 }, [
  [some ((.iload_n 1, 1, [], 0), []), some ((.ifCond .ne 8, 3, [], 0), []), none, none, some ((.aload_n 0, 1, [], 0), []), some ((.iconst 1, 1, [], 0), []), some ((.invokevirtual 119, 3, [0, 134, 2, 0, 0, 10, 11167, 11169, 3001, 7017, 11170], 0), []), none, none, some ((.aload_n 0, 1, [], 0), [false, true]), some ((.getfield 109, 3, [10, 14, 10231], 0), []), none, none, some ((.ifCond .ne 17, 3, [], 0), []), none, none],
  [some ((.aload_n 0, 1, [], 0), []), some ((.invokevirtual 123, 3, [0, 131, 1, 0, 0, 10, 11142, 11144, 2012, 7017, 11145], 0), []), none, none, some ((.aload_n 0, 1, [], 0), [false, true]), some ((.dup, 1, [], 0), []), some ((.getfield 126, 3, [10, 13, 10230], 0), []), none, none, some ((.iconst 1, 1, [], 0), []), some ((.iadd, 1, [], 0), []), some ((.putfield 126, 3, [10, 13, 10230], 0), []), none, none, some ((.return_, 1, [], 0), [true, true])]])
def kX10_isSign : zMeth := (yX10_isSign, cX10_isSign, 2, (some .boolean), { frames := 0, cells := 0, slots := 0, locals := 0 }, [
  [some ((.aload_n 0, 1, [], 0), []), some ((.getfield 84, 3, [10, 10, 10227], 0), []), none, none, some ((.iconst 3, 1, [], 0), []), some ((.if_icmp .ne 20, 3, [], 0), []), none, none, some ((.aload_n 0, 1, [], 0), []), some ((.getfield 19, 3, [10, 4, 10221], 0), []), none, none, some ((.aload_n 0, 1, [], 0), []), some ((.getfield 75, 3, [10, 9, 10226], 0), []), none, none],
  [some ((.iaload, 1, [], 0), []), some ((.iload_n 1, 1, [], 0), []), some ((.if_icmp .ne 7, 3, [], 0), []), none, none, some ((.iconst 1, 1, [], 0), []), some ((.goto 4, 3, [], 0), []), none, none, some ((.iconst 0, 1, [], 0), [true, true]), some ((.ireturn, 1, [], 0), [true, true])]])
def kX10_reads : zMeth := (yX10_reads, cX10_reads, 4, (some .int), { frames := 7, cells := 0, slots := 0, locals := 151 }, [
  [some ((.aload_n 0, 1, [], 0), []), some ((.getfield 84, 3, [10, 10, 10227], 0), []), none, none, some ((.iconst 2, 1, [], 0), []), some ((.if_icmp .eq 11, 3, [], 0), []), none, none, some ((.aload_n 0, 1, [], 0), []), some ((.iconst 1, 1, [], 0), []), some ((.invokevirtual 119, 3, [0, 134, 2, 0, 0, 10, 11167, 11169, 3001, 7017, 11170], 0), []), none, none, some ((.goto 23, 3, [], 0), [false, true, true]), none, none],
  [some ((.aload_n 0, 1, [], 0), []), some ((.getfield 78, 3, [10, 11, 10228], 0), []), none, none, some ((.i2l, 1, [], 0), []), some ((.iload_n 1, 1, [], 0), []), some ((.i2l, 1, [], 0), []), some ((.iload_n 2, 1, [], 0), []), some ((.i2l, 1, [], 0), []), some ((.invokestatic 64, 3, [1, 123, 3, 0, 0, 11131, 11132, 7017, 11133, 0], 0), []), none, none, some ((.ifCond .ne 8, 3, [], 0), [false, true, true]), none, none, some ((.aload_n 0, 1, [], 0), [])],
  [some ((.iconst 2, 1, [], 0), []), some ((.invokevirtual 119, 3, [0, 134, 2, 0, 0, 10, 11167, 11169, 3001, 7017, 11170], 0), []), none, none, some ((.aload_n 0, 1, [], 0), [false, true, true]), some ((.getfield 78, 3, [10, 11, 10228], 0), []), none, none, some ((.istore_n 3, 1, [], 0), []), some ((.aload_n 0, 1, [], 0), []), some ((.iconst 1, 1, [], 0), []), some ((.invokevirtual 129, 3, [0, 135, 2, 0, 0, 10, 11163, 11165, 3000, 7017, 11166], 0), []), none, none, some ((.iload_n 3, 1, [], 0), [true, true, true]), some ((.ireturn, 1, [], 0), [])]])
def kX10_isWeekday : zMeth := (yX10_isWeekday, cX10_isWeekday, 1, (some .boolean), { frames := 0, cells := 0, slots := 0, locals := 0 }, [
  [some ((.aload_n 0, 1, [], 0), []), some ((.getfield 81, 3, [10, 12, 10229], 0), []), none, none, some ((.bipush 12, 2, [], 0), []), none, some ((.if_icmp .lt 7, 3, [], 0), []), none, none, some ((.iconst 1, 1, [], 0), []), some ((.goto 4, 3, [], 0), []), none, none, some ((.iconst 0, 1, [], 0), []), some ((.ireturn, 1, [], 0), [true])]])
def kX10_readsWeekday : zMeth := (yX10_readsWeekday, cX10_readsWeekday, 2, (some .int), { frames := 7, cells := 0, slots := 0, locals := 151 }, [
  [some ((.aload_n 0, 1, [], 0), []), some ((.getfield 81, 3, [10, 12, 10229], 0), []), none, none, some ((.bipush 12, 2, [], 0), []), none, some ((.isub, 1, [], 0), []), some ((.istore_n 1, 1, [], 0), []), some ((.aload_n 0, 1, [], 0), []), some ((.aload_n 0, 1, [], 0), []), some ((.invokevirtual 133, 3, [0, 138, 1, 0, 0, 10, 11179, 11181, 3004, 7017, 11182], 0), []), none, none, some ((.invokevirtual 129, 3, [0, 135, 2, 0, 0, 10, 11163, 11165, 3000, 7017, 11166], 0), [true]), none, none],
  [some ((.iload_n 1, 1, [], 0), [true]), some ((.ireturn, 1, [], 0), [])]])
def kX10_readsDesk : zMeth := (yX10_readsDesk, cX10_readsDesk, 1, none, { frames := 8, cells := 0, slots := 0, locals := 174 }, [
  [some ((.aload_n 0, 1, [], 0), []), some ((.aload_n 0, 1, [], 0), []), some ((.getfield 81, 3, [10, 12, 10229], 0), []), none, none, some ((.ifCond .ne 7, 3, [], 0), []), none, none, some ((.iconst 1, 1, [], 0), []), some ((.goto 4, 3, [], 0), []), none, none, some ((.iconst 0, 1, [], 0), []), some ((.invokevirtual 129, 3, [0, 135, 2, 0, 0, 10, 11163, 11165, 3000, 7017, 11166], 0), []), none, none],
  [some ((.aload_n 0, 1, [], 0), []), some ((.getfield 109, 3, [10, 14, 10231], 0), []), none, none, some ((.ifCond .ne 20, 3, [], 0), []), none, none, some ((.aload_n 0, 1, [], 0), []), some ((.aload_n 0, 1, [], 0), []), some ((.getfield 81, 3, [10, 12, 10229], 0), []), none, none, some ((.iconst 1, 1, [], 0), []), some ((.if_icmp .ne 7, 3, [], 0), []), none, none],
  [some ((.iconst 1, 1, [], 0), []), some ((.goto 4, 3, [], 0), []), none, none, some ((.iconst 0, 1, [], 0), []), some ((.invokevirtual 129, 3, [0, 135, 2, 0, 0, 10, 11163, 11165, 3000, 7017, 11166], 0), []), none, none, some ((.aload_n 0, 1, [], 0), []), some ((.getfield 109, 3, [10, 14, 10231], 0), []), none, none, some ((.ifCond .ne 16, 3, [], 0), []), none, none, some ((.aload_n 0, 1, [], 0), [])],
  [some ((.getfield 9, 3, [10, 0, 10217], 0), []), none, none, some ((.iconst 0, 1, [], 0), []), some ((.aload_n 0, 1, [], 0), []), some ((.iconst 1, 1, [], 0), []), some ((.bipush 28, 2, [], 0), []), none, some ((.invokevirtual 137, 3, [0, 137, 3, 0, 0, 10, 11171, 11173, 3002, 7017, 11174], 0), []), none, none, some ((.iastore, 1, [], 0), []), some ((.aload_n 0, 1, [], 0), []), some ((.getfield 109, 3, [10, 14, 10231], 0), []), none, none],
  [some ((.ifCond .ne 20, 3, [], 0), []), none, none, some ((.aload_n 0, 1, [], 0), []), some ((.aload_n 0, 1, [], 0), []), some ((.getfield 81, 3, [10, 12, 10229], 0), []), none, none, some ((.iconst 2, 1, [], 0), []), some ((.if_icmp .ne 7, 3, [], 0), []), none, none, some ((.iconst 1, 1, [], 0), []), some ((.goto 4, 3, [], 0), []), none, none],
  [some ((.iconst 0, 1, [], 0), []), some ((.invokevirtual 129, 3, [0, 135, 2, 0, 0, 10, 11163, 11165, 3000, 7017, 11166], 0), []), none, none, some ((.aload_n 0, 1, [], 0), []), some ((.getfield 109, 3, [10, 14, 10231], 0), []), none, none, some ((.ifCond .ne 13, 3, [], 0), []), none, none, some ((.aload_n 0, 1, [], 0), []), some ((.getfield 9, 3, [10, 0, 10217], 0), []), none, none, some ((.iconst 1, 1, [], 0), [])],
  [some ((.aload_n 0, 1, [], 0), []), some ((.invokevirtual 140, 3, [0, 139, 1, 0, 0, 10, 11175, 11177, 3003, 7017, 11178], 0), []), none, none, some ((.iastore, 1, [], 0), [true]), some ((.return_, 1, [], 0), [true])]])
def kX10_readsDay : zMeth := (yX10_readsDay, cX10_readsDay, 2, (some .int), { frames := 8, cells := 0, slots := 0, locals := 174 }, [
  [some ((.aload_n 0, 1, [], 0), []), some ((.getfield 84, 3, [10, 10, 10227], 0), []), none, none, some ((.iconst 2, 1, [], 0), []), some ((.if_icmp .ne 32, 3, [], 0), []), none, none, some ((.aload_n 0, 1, [], 0), []), some ((.getfield 78, 3, [10, 11, 10228], 0), []), none, none, some ((.aload_n 0, 1, [], 0), []), some ((.getfield 9, 3, [10, 0, 10217], 0), []), none, none],
  [some ((.iconst 0, 1, [], 0), []), some ((.iaload, 1, [], 0), []), some ((.if_icmp .ge 19, 3, [], 0), []), none, none, some ((.iload_n 1, 1, [], 0), []), some ((.aload_n 0, 1, [], 0), []), some ((.getfield 78, 3, [10, 11, 10228], 0), []), none, none, some ((.invokestatic 143, 3, [1, 124, 2, 0, 0, 11195, 11196, 7017, 11197, 0], 0), []), none, none, some ((.ifCond .eq 8, 3, [], 0), [false, true]), none, none],
  [some ((.aload_n 0, 1, [], 0), []), some ((.iconst 2, 1, [], 0), []), some ((.invokevirtual 119, 3, [0, 134, 2, 0, 0, 10, 11167, 11169, 3001, 7017, 11170], 0), []), none, none, some ((.aload_n 0, 1, [], 0), [false, true]), some ((.getfield 109, 3, [10, 14, 10231], 0), []), none, none, some ((.ifCond .eq 7, 3, [], 0), []), none, none, some ((.iconst 0, 1, [], 0), []), some ((.goto 16, 3, [], 0), []), none, none],
  [some ((.aload_n 0, 1, [], 0), []), some ((.iconst 0, 1, [], 0), []), some ((.aload_n 0, 1, [], 0), []), some ((.getfield 9, 3, [10, 0, 10217], 0), []), none, none, some ((.iconst 0, 1, [], 0), []), some ((.iaload, 1, [], 0), []), some ((.iconst 1, 1, [], 0), []), some ((.isub, 1, [], 0), []), some ((.invokevirtual 137, 3, [0, 137, 3, 0, 0, 10, 11171, 11173, 3002, 7017, 11174], 0), []), none, none, some ((.ireturn, 1, [], 0), [true, true])]])
def kX10_readsFeast : zMeth := (yX10_readsFeast, cX10_readsFeast, 5, none, { frames := 9, cells := 0, slots := 0, locals := 195 }, [
  [some ((.aload_n 0, 1, [], 0), []), some ((.getfield 9, 3, [10, 0, 10217], 0), []), none, none, some ((.iconst 2, 1, [], 0), []), some ((.iaload, 1, [], 0), []), some ((.iconst 2, 1, [], 0), []), some ((.if_icmp .ne 9, 3, [], 0), []), none, none, some ((.aload_n 0, 1, [], 0), []), some ((.iconst 3, 1, [], 0), []), some ((.invokevirtual 119, 3, [0, 134, 2, 0, 0, 10, 11167, 11169, 3001, 7017, 11170], 0), []), none, none, some ((.return_, 1, [], 0), [true])],
  [some ((.aload_n 0, 1, [], 0), []), some ((.invokevirtual 123, 3, [0, 131, 1, 0, 0, 10, 11142, 11144, 2012, 7017, 11145], 0), []), none, none, some ((.aload_n 0, 1, [], 0), []), some ((.getfield 84, 3, [10, 10, 10227], 0), []), none, none, some ((.iconst 1, 1, [], 0), []), some ((.if_icmp .eq 9, 3, [], 0), []), none, none, some ((.aload_n 0, 1, [], 0), []), some ((.iconst 1, 1, [], 0), []), some ((.invokevirtual 119, 3, [0, 134, 2, 0, 0, 10, 11167, 11169, 3001, 7017, 11170], 0), []), none],
  [none, some ((.return_, 1, [], 0), [true]), some ((.aload_n 0, 1, [], 0), []), some ((.getfield 68, 3, [10, 8, 10225], 0), []), none, none, some ((.aload_n 0, 1, [], 0), []), some ((.getfield 75, 3, [10, 9, 10226], 0), []), none, none, some ((.isub, 1, [], 0), []), some ((.bipush 8, 2, [], 0), []), none, some ((.if_icmp .gt 17, 3, [], 0), []), none, none],
  [some ((.aload_n 0, 1, [], 0), []), some ((.getfield 81, 3, [10, 12, 10229], 0), []), none, none, some ((.ifCond .ge 10, 3, [], 0), []), none, none, some ((.aload_n 0, 1, [], 0), []), some ((.invokevirtual 146, 3, [0, 133, 1, 0, 0, 10, 11187, 11189, 3006, 7017, 11190], 0), []), none, none, some ((.ifCond .lt 9, 3, [], 0), []), none, none, some ((.aload_n 0, 1, [], 0), []), some ((.iconst 2, 1, [], 0), [])],
  [some ((.invokevirtual 119, 3, [0, 134, 2, 0, 0, 10, 11167, 11169, 3001, 7017, 11170], 0), []), none, none, some ((.return_, 1, [], 0), [true]), some ((.aload_n 0, 1, [], 0), []), some ((.getfield 9, 3, [10, 0, 10217], 0), []), none, none, some ((.iconst 2, 1, [], 0), []), some ((.iaload, 1, [], 0), []), some ((.istore_n 1, 1, [], 0), []), some ((.aload_n 0, 1, [], 0), []), some ((.getfield 9, 3, [10, 0, 10217], 0), []), none, none, some ((.bipush 8, 2, [], 0), [])],
  [none, some ((.iload_n 1, 1, [], 0), []), some ((.iadd, 1, [], 0), []), some ((.aload_n 0, 1, [], 0), []), some ((.getfield 68, 3, [10, 8, 10225], 0), []), none, none, some ((.aload_n 0, 1, [], 0), []), some ((.getfield 75, 3, [10, 9, 10226], 0), []), none, none, some ((.isub, 1, [], 0), []), some ((.iastore, 1, [], 0), []), some ((.iconst 0, 1, [], 0), []), some ((.istore_n 2, 1, [], 0), []), some ((.iload_n 2, 1, [], 0), [])],
  [some ((.aload_n 0, 1, [], 0), []), some ((.getfield 68, 3, [10, 8, 10225], 0), []), none, none, some ((.aload_n 0, 1, [], 0), []), some ((.getfield 75, 3, [10, 9, 10226], 0), []), none, none, some ((.isub, 1, [], 0), []), some ((.if_icmp .ge 34, 3, [], 0), []), none, none, some ((.aload_n 0, 1, [], 0), []), some ((.getfield 9, 3, [10, 0, 10217], 0), []), none, none],
  [some ((.bipush 10, 2, [], 0), []), none, some ((.bipush 8, 2, [], 0), []), none, some ((.iload_n 1, 1, [], 0), []), some ((.imul, 1, [], 0), []), some ((.iadd, 1, [], 0), []), some ((.iload_n 2, 1, [], 0), []), some ((.iadd, 1, [], 0), []), some ((.aload_n 0, 1, [], 0), []), some ((.getfield 19, 3, [10, 4, 10221], 0), []), none, none, some ((.aload_n 0, 1, [], 0), []), some ((.getfield 75, 3, [10, 9, 10226], 0), []), none],
  [none, some ((.iload_n 2, 1, [], 0), []), some ((.iadd, 1, [], 0), []), some ((.iaload, 1, [], 0), []), some ((.iastore, 1, [], 0), []), some ((.iinc 2 1, 3, [], 0), []), none, none, some ((.goto (-41), 3, [], 0), []), none, none, some ((.aload_n 0, 1, [], 0), [false, false, true]), some ((.invokevirtual 123, 3, [0, 131, 1, 0, 0, 10, 11142, 11144, 2012, 7017, 11145], 0), []), none, none, some ((.iconst 0, 1, [], 0), [false, false, true])],
  [some ((.istore_n 2, 1, [], 0), []), some ((.iconst 1, 1, [], 0), []), some ((.istore_n 3, 1, [], 0), []), some ((.iload_n 3, 1, [], 0), [false, false, false, false, true]), some ((.ifCond .eq 52, 3, [], 0), []), none, none, some ((.aload_n 0, 1, [], 0), []), some ((.iload_n 2, 1, [], 0), []), some ((.invokevirtual 149, 3, [0, 141, 2, 0, 0, 10, 11191, 11193, 3007, 7017, 11194], 0), []), none, none, some ((.istore 4, 2, [], 0), [false, false, false, true, true]), none, some ((.iload_n 2, 1, [], 0), []), some ((.aload_n 0, 1, [], 0), [])],
  [some ((.getfield 109, 3, [10, 14, 10231], 0), []), none, none, some ((.ifCond .eq 7, 3, [], 0), []), none, none, some ((.iconst 0, 1, [], 0), []), some ((.goto 7, 3, [], 0), []), none, none, some ((.iconst 1, 1, [], 0), []), some ((.iload 4, 2, [], 0), []), none, some ((.ishl, 1, [], 0), []), some ((.ior, 1, [], 0), [false, false, true, true, true]), some ((.istore_n 2, 1, [], 0), [])],
  [some ((.aload_n 0, 1, [], 0), []), some ((.getfield 109, 3, [10, 14, 10231], 0), []), none, none, some ((.ifCond .ne 15, 3, [], 0), []), none, none, some ((.aload_n 0, 1, [], 0), []), some ((.getfield 84, 3, [10, 10, 10227], 0), []), none, none, some ((.iconst 2, 1, [], 0), []), some ((.if_icmp .ne 7, 3, [], 0), []), none, none, some ((.iconst 1, 1, [], 0), [])],
  [some ((.goto 4, 3, [], 0), []), none, none, some ((.iconst 0, 1, [], 0), [false, false, false, true, true]), some ((.istore_n 3, 1, [], 0), [false, false, false, true, true]), some ((.goto (-50), 3, [], 0), []), none, none, some ((.aload_n 0, 1, [], 0), []), some ((.getfield 9, 3, [10, 0, 10217], 0), []), none, none, some ((.bipush 6, 2, [], 0), []), none, some ((.iload_n 1, 1, [], 0), []), some ((.iadd, 1, [], 0), [])],
  [some ((.iload_n 2, 1, [], 0), []), some ((.iastore, 1, [], 0), []), some ((.aload_n 0, 1, [], 0), []), some ((.getfield 9, 3, [10, 0, 10217], 0), []), none, none, some ((.iconst 2, 1, [], 0), []), some ((.dup2, 1, [], 0), []), some ((.iaload, 1, [], 0), []), some ((.iconst 1, 1, [], 0), []), some ((.iadd, 1, [], 0), []), some ((.iastore, 1, [], 0), []), some ((.return_, 1, [], 0), [])]])
def kX10_readsTrain : zMeth := (yX10_readsTrain, cX10_readsTrain, 2, none, { frames := 12, cells := 0, slots := 0, locals := 266 }, [
  [some ((.aload_n 0, 1, [], 0), []), some ((.getfield 9, 3, [10, 0, 10217], 0), []), none, none, some ((.iconst 3, 1, [], 0), []), some ((.iaload, 1, [], 0), []), some ((.bipush 6, 2, [], 0), []), none, some ((.if_icmp .ne 9, 3, [], 0), []), none, none, some ((.aload_n 0, 1, [], 0), []), some ((.iconst 3, 1, [], 0), []), some ((.invokevirtual 119, 3, [0, 134, 2, 0, 0, 10, 11167, 11169, 3001, 7017, 11170], 0), []), none, none],
  [some ((.return_, 1, [], 0), [true]), some ((.aload_n 0, 1, [], 0), []), some ((.getfield 9, 3, [10, 0, 10217], 0), []), none, none, some ((.iconst 3, 1, [], 0), []), some ((.iaload, 1, [], 0), []), some ((.istore_n 1, 1, [], 0), []), some ((.aload_n 0, 1, [], 0), []), some ((.invokevirtual 123, 3, [0, 131, 1, 0, 0, 10, 11142, 11144, 2012, 7017, 11145], 0), []), none, none, some ((.aload_n 0, 1, [], 0), []), some ((.getfield 9, 3, [10, 0, 10217], 0), []), none, none],
  [some ((.bipush 26, 2, [], 0), []), none, some ((.iload_n 1, 1, [], 0), []), some ((.iadd, 1, [], 0), []), some ((.aload_n 0, 1, [], 0), []), some ((.iconst 0, 1, [], 0), []), some ((.bipush 9, 2, [], 0), []), none, some ((.invokevirtual 137, 3, [0, 137, 3, 0, 0, 10, 11171, 11173, 3002, 7017, 11174], 0), []), none, none, some ((.iastore, 1, [], 0), []), some ((.aload_n 0, 1, [], 0), []), some ((.getfield 109, 3, [10, 14, 10231], 0), []), none, none],
  [some ((.ifCond .ne 20, 3, [], 0), []), none, none, some ((.aload_n 0, 1, [], 0), []), some ((.aload_n 0, 1, [], 0), []), some ((.getfield 81, 3, [10, 12, 10229], 0), []), none, none, some ((.iconst 5, 1, [], 0), []), some ((.if_icmp .ne 7, 3, [], 0), []), none, none, some ((.iconst 1, 1, [], 0), []), some ((.goto 4, 3, [], 0), []), none, none],
  [some ((.iconst 0, 1, [], 0), []), some ((.invokevirtual 129, 3, [0, 135, 2, 0, 0, 10, 11163, 11165, 3000, 7017, 11166], 0), []), none, none, some ((.aload_n 0, 1, [], 0), []), some ((.getfield 109, 3, [10, 14, 10231], 0), []), none, none, some ((.ifCond .ne 20, 3, [], 0), []), none, none, some ((.aload_n 0, 1, [], 0), []), some ((.getfield 9, 3, [10, 0, 10217], 0), []), none, none, some ((.bipush 32, 2, [], 0), [])],
  [none, some ((.iload_n 1, 1, [], 0), []), some ((.iadd, 1, [], 0), []), some ((.aload_n 0, 1, [], 0), []), some ((.iconst 0, 1, [], 0), []), some ((.sipush 1439, 3, [], 0), []), none, none, some ((.invokevirtual 137, 3, [0, 137, 3, 0, 0, 10, 11171, 11173, 3002, 7017, 11174], 0), []), none, none, some ((.iastore, 1, [], 0), []), some ((.aload_n 0, 1, [], 0), []), some ((.getfield 109, 3, [10, 14, 10231], 0), []), none, none],
  [some ((.ifCond .ne 13, 3, [], 0), []), none, none, some ((.aload_n 0, 1, [], 0), []), some ((.aload_n 0, 1, [], 0), []), some ((.bipush 58, 2, [], 0), []), none, some ((.invokevirtual 153, 3, [0, 136, 2, 0, 0, 10, 11202, 11204, 3009, 7017, 11205], 0), []), none, none, some ((.invokevirtual 129, 3, [0, 135, 2, 0, 0, 10, 11163, 11165, 3000, 7017, 11166], 0), []), none, none, some ((.aload_n 0, 1, [], 0), []), some ((.getfield 109, 3, [10, 14, 10231], 0), []), none],
  [none, some ((.ifCond .ne 16, 3, [], 0), []), none, none, some ((.aload_n 0, 1, [], 0), []), some ((.getfield 9, 3, [10, 0, 10217], 0), []), none, none, some ((.bipush 38, 2, [], 0), []), none, some ((.iload_n 1, 1, [], 0), []), some ((.iadd, 1, [], 0), []), some ((.aload_n 0, 1, [], 0), []), some ((.invokevirtual 157, 3, [0, 144, 1, 0, 0, 10, 11206, 11208, 3010, 7017, 11209], 0), []), none, none],
  [some ((.iastore, 1, [], 0), [false, true]), some ((.aload_n 0, 1, [], 0), [false, true]), some ((.getfield 9, 3, [10, 0, 10217], 0), []), none, none, some ((.iconst 3, 1, [], 0), []), some ((.dup2, 1, [], 0), []), some ((.iaload, 1, [], 0), []), some ((.iconst 1, 1, [], 0), []), some ((.iadd, 1, [], 0), []), some ((.iastore, 1, [], 0), []), some ((.return_, 1, [], 0), [])]])
def kX10_readsWording : zMeth := (yX10_readsWording, cX10_readsWording, 2, (some .int), { frames := 11, cells := 0, slots := 0, locals := 245 }, [
  [some ((.aload_n 0, 1, [], 0), []), some ((.getfield 81, 3, [10, 12, 10229], 0), []), none, none, some ((.bipush 6, 2, [], 0), []), none, some ((.if_icmp .ne 10, 3, [], 0), []), none, none, some ((.aload_n 0, 1, [], 0), []), some ((.iconst 1, 1, [], 0), []), some ((.invokevirtual 129, 3, [0, 135, 2, 0, 0, 10, 11163, 11165, 3000, 7017, 11166], 0), []), none, none, some ((.iconst 0, 1, [], 0), [true]), some ((.ireturn, 1, [], 0), [])],
  [some ((.aload_n 0, 1, [], 0), []), some ((.getfield 81, 3, [10, 12, 10229], 0), []), none, none, some ((.bipush 7, 2, [], 0), []), none, some ((.if_icmp .eq 35, 3, [], 0), []), none, none, some ((.aload_n 0, 1, [], 0), []), some ((.getfield 81, 3, [10, 12, 10229], 0), []), none, none, some ((.bipush 10, 2, [], 0), []), none, some ((.if_icmp .eq 26, 3, [], 0), [])],
  [none, none, some ((.aload_n 0, 1, [], 0), []), some ((.getfield 81, 3, [10, 12, 10229], 0), []), none, none, some ((.bipush 11, 2, [], 0), []), none, some ((.if_icmp .eq 17, 3, [], 0), []), none, none, some ((.aload_n 0, 1, [], 0), []), some ((.invokevirtual 133, 3, [0, 138, 1, 0, 0, 10, 11179, 11181, 3004, 7017, 11182], 0), []), none, none, some ((.ifCond .ne 10, 3, [], 0), [])],
  [none, none, some ((.aload_n 0, 1, [], 0), []), some ((.iconst 1, 1, [], 0), []), some ((.invokevirtual 119, 3, [0, 134, 2, 0, 0, 10, 11167, 11169, 3001, 7017, 11170], 0), []), none, none, some ((.iconst 0, 1, [], 0), [true]), some ((.ireturn, 1, [], 0), []), some ((.aload_n 0, 1, [], 0), []), some ((.invokevirtual 160, 3, [0, 145, 1, 0, 0, 10, 11210, 11212, 3011, 7017, 11213], 0), []), none, none, some ((.istore_n 1, 1, [], 0), []), some ((.aload_n 0, 1, [], 0), []), some ((.getfield 109, 3, [10, 14, 10231], 0), [])],
  [none, none, some ((.ifCond .ne 26, 3, [], 0), []), none, none, some ((.aload_n 0, 1, [], 0), []), some ((.getfield 81, 3, [10, 12, 10229], 0), []), none, none, some ((.bipush 10, 2, [], 0), []), none, some ((.if_icmp .ne 17, 3, [], 0), []), none, none, some ((.aload_n 0, 1, [], 0), []), some ((.iconst 1, 1, [], 0), [])],
  [some ((.invokevirtual 129, 3, [0, 135, 2, 0, 0, 10, 11163, 11165, 3000, 7017, 11166], 0), []), none, none, some ((.iload_n 1, 1, [], 0), []), some ((.aload_n 0, 1, [], 0), []), some ((.invokevirtual 163, 3, [0, 148, 1, 0, 0, 10, 11226, 11228, 3015, 7017, 11229], 0), []), none, none, some ((.iconst (-1), 1, [], 0), [false, true]), some ((.ixor, 1, [], 0), []), some ((.iand, 1, [], 0), []), some ((.istore_n 1, 1, [], 0), []), some ((.aload_n 0, 1, [], 0), []), some ((.getfield 109, 3, [10, 14, 10231], 0), []), none, none],
  [some ((.ifCond .ne 24, 3, [], 0), []), none, none, some ((.aload_n 0, 1, [], 0), []), some ((.getfield 81, 3, [10, 12, 10229], 0), []), none, none, some ((.bipush 11, 2, [], 0), []), none, some ((.if_icmp .ne 15, 3, [], 0), []), none, none, some ((.aload_n 0, 1, [], 0), []), some ((.iconst 1, 1, [], 0), []), some ((.invokevirtual 129, 3, [0, 135, 2, 0, 0, 10, 11163, 11165, 3000, 7017, 11166], 0), []), none],
  [none, some ((.iload_n 1, 1, [], 0), []), some ((.aload_n 0, 1, [], 0), []), some ((.invokevirtual 163, 3, [0, 148, 1, 0, 0, 10, 11226, 11228, 3015, 7017, 11229], 0), []), none, none, some ((.ior, 1, [], 0), [true, true]), some ((.istore_n 1, 1, [], 0), []), some ((.iload_n 1, 1, [], 0), [true]), some ((.ireturn, 1, [], 0), [])]])
def kX10_readsSpans : zMeth := (yX10_readsSpans, cX10_readsSpans, 8, (some .int), { frames := 10, cells := 0, slots := 0, locals := 218 }, [
  [some ((.iconst 0, 1, [], 0), []), some ((.istore_n 1, 1, [], 0), []), some ((.iconst (-1), 1, [], 0), []), some ((.istore_n 2, 1, [], 0), []), some ((.aload_n 0, 1, [], 0), [false, false, false, true, true, true, true, true]), some ((.getfield 109, 3, [10, 14, 10231], 0), []), none, none, some ((.ifCond .ne 234, 3, [], 0), []), none, none, some ((.aload_n 0, 1, [], 0), []), some ((.getfield 81, 3, [10, 12, 10229], 0), []), none, none, some ((.bipush 7, 2, [], 0), [])],
  [none, some ((.if_icmp .eq 10, 3, [], 0), []), none, none, some ((.aload_n 0, 1, [], 0), []), some ((.invokevirtual 133, 3, [0, 138, 1, 0, 0, 10, 11179, 11181, 3004, 7017, 11182], 0), []), none, none, some ((.ifCond .eq 218, 3, [], 0), [false, false, false, true, true, true, true, true]), none, none, some ((.iload_n 2, 1, [], 0), [false, false, false, true, true, true, true, true]), some ((.aload_n 0, 1, [], 0), []), some ((.getfield 9, 3, [10, 0, 10217], 0), []), none, none],
  [some ((.iconst 0, 1, [], 0), []), some ((.iaload, 1, [], 0), []), some ((.if_icmp .ne 10, 3, [], 0), []), none, none, some ((.aload_n 0, 1, [], 0), []), some ((.iconst 1, 1, [], 0), []), some ((.invokevirtual 119, 3, [0, 134, 2, 0, 0, 10, 11167, 11169, 3001, 7017, 11170], 0), []), none, none, some ((.iconst 0, 1, [], 0), [true, true, true, true, true, true, true, true]), some ((.ireturn, 1, [], 0), []), some ((.aload_n 0, 1, [], 0), []), some ((.invokevirtual 166, 3, [0, 146, 1, 0, 0, 10, 11214, 11216, 3012, 7017, 11217], 0), []), none, none],
  [some ((.istore_n 3, 1, [], 0), [false, false, false, true, true, true, true, true]), some ((.iconst 0, 1, [], 0), []), some ((.istore 4, 2, [], 0), []), none, some ((.aload_n 0, 1, [], 0), []), some ((.getfield 9, 3, [10, 0, 10217], 0), []), none, none, some ((.iconst 0, 1, [], 0), []), some ((.iaload, 1, [], 0), []), some ((.iconst 1, 1, [], 0), []), some ((.isub, 1, [], 0), []), some ((.istore 5, 2, [], 0), []), none, some ((.aload_n 0, 1, [], 0), []), some ((.getfield 109, 3, [10, 14, 10231], 0), [])],
  [none, none, some ((.ifCond .ne 21, 3, [], 0), []), none, none, some ((.iload_n 2, 1, [], 0), []), some ((.ifCond .lt 17, 3, [], 0), []), none, none, some ((.aload_n 0, 1, [], 0), []), some ((.getfield 81, 3, [10, 12, 10229], 0), []), none, none, some ((.bipush 8, 2, [], 0), []), none, some ((.if_icmp .eq 8, 3, [], 0), [])],
  [none, none, some ((.aload_n 0, 1, [], 0), []), some ((.iconst 1, 1, [], 0), []), some ((.invokevirtual 119, 3, [0, 134, 2, 0, 0, 10, 11167, 11169, 3001, 7017, 11170], 0), []), none, none, some ((.aload_n 0, 1, [], 0), [false, false, false, false, false, false, true, true]), some ((.getfield 109, 3, [10, 14, 10231], 0), []), none, none, some ((.ifCond .ne 34, 3, [], 0), []), none, none, some ((.aload_n 0, 1, [], 0), []), some ((.getfield 81, 3, [10, 12, 10229], 0), [])],
  [none, none, some ((.bipush 8, 2, [], 0), []), none, some ((.if_icmp .ne 25, 3, [], 0), []), none, none, some ((.aload_n 0, 1, [], 0), []), some ((.iconst 1, 1, [], 0), []), some ((.invokevirtual 129, 3, [0, 135, 2, 0, 0, 10, 11163, 11165, 3000, 7017, 11166], 0), []), none, none, some ((.aload_n 0, 1, [], 0), [false, false, false, false, true, false, true, true]), some ((.iload_n 2, 1, [], 0), []), some ((.iconst 1, 1, [], 0), []), some ((.iadd, 1, [], 0), [])],
  [some ((.aload_n 0, 1, [], 0), []), some ((.getfield 9, 3, [10, 0, 10217], 0), []), none, none, some ((.iconst 0, 1, [], 0), []), some ((.iaload, 1, [], 0), []), some ((.iconst 1, 1, [], 0), []), some ((.isub, 1, [], 0), []), some ((.invokevirtual 137, 3, [0, 137, 3, 0, 0, 10, 11171, 11173, 3002, 7017, 11174], 0), []), none, none, some ((.istore 4, 2, [], 0), [false, false, true, false, true, false, true, true]), none, some ((.aload_n 0, 1, [], 0), [false, false, true, false, false, false, true, true]), some ((.getfield 109, 3, [10, 14, 10231], 0), []), none],
  [none, some ((.ifCond .ne 16, 3, [], 0), []), none, none, some ((.aload_n 0, 1, [], 0), []), some ((.getfield 81, 3, [10, 12, 10229], 0), []), none, none, some ((.bipush 9, 2, [], 0), []), none, some ((.if_icmp .ne 7, 3, [], 0), []), none, none, some ((.iconst 1, 1, [], 0), []), some ((.goto 4, 3, [], 0), []), none],
  [none, some ((.iconst 0, 1, [], 0), [false, false, true, false, false, false, true, true]), some ((.istore 6, 2, [], 0), [false, false, true, false, false, false, true, true]), none, some ((.iload 6, 2, [], 0), []), none, some ((.ifCond .eq 24, 3, [], 0), []), none, none, some ((.aload_n 0, 1, [], 0), []), some ((.iconst 1, 1, [], 0), []), some ((.invokevirtual 129, 3, [0, 135, 2, 0, 0, 10, 11163, 11165, 3000, 7017, 11166], 0), []), none, none, some ((.aload_n 0, 1, [], 0), [false, false, true, false, false, true, false, true]), some ((.iload 4, 2, [], 0), [])],
  [none, some ((.aload_n 0, 1, [], 0), []), some ((.getfield 9, 3, [10, 0, 10217], 0), []), none, none, some ((.iconst 0, 1, [], 0), []), some ((.iaload, 1, [], 0), []), some ((.iconst 1, 1, [], 0), []), some ((.isub, 1, [], 0), []), some ((.invokevirtual 137, 3, [0, 137, 3, 0, 0, 10, 11171, 11173, 3002, 7017, 11174], 0), []), none, none, some ((.istore 5, 2, [], 0), [false, false, true, false, false, true, false, true]), none, some ((.iload 6, 2, [], 0), [false, false, true, false, false, false, false, true]), none],
  [some ((.ifCond .eq 8, 3, [], 0), []), none, none, some ((.iload 5, 2, [], 0), []), none, some ((.goto 9, 3, [], 0), []), none, none, some ((.aload_n 0, 1, [], 0), []), some ((.getfield 9, 3, [10, 0, 10217], 0), []), none, none, some ((.iconst 0, 1, [], 0), []), some ((.iaload, 1, [], 0), []), some ((.istore_n 2, 1, [], 0), [false, false, true, false, false, false, true, true]), some ((.iload 4, 2, [], 0), [])],
  [none, some ((.istore 7, 2, [], 0), []), none, some ((.iload 7, 2, [], 0), [false, false, false, false, true, false, true]), none, some ((.iload 5, 2, [], 0), []), none, some ((.if_icmp .gt 40, 3, [], 0), []), none, none, some ((.aload_n 0, 1, [], 0), []), some ((.getfield 109, 3, [10, 14, 10231], 0), []), none, none, some ((.ifCond .ne 33, 3, [], 0), []), none],
  [none, some ((.iload_n 1, 1, [], 0), []), some ((.iload_n 3, 1, [], 0), []), some ((.aload_n 0, 1, [], 0), []), some ((.iload 7, 2, [], 0), []), none, some ((.invokevirtual 169, 3, [0, 153, 2, 0, 0, 10, 11222, 11224, 3014, 7017, 11225], 0), []), none, none, some ((.invokestatic 143, 3, [1, 124, 2, 0, 0, 11195, 11196, 7017, 11197, 0], 0), [false, true, false, false, true, false, true]), none, none, some ((.ifCond .eq 10, 3, [], 0), [false, true, false, false, true, false, true]), none, none, some ((.iconst 1, 1, [], 0), [])],
  [some ((.iload 7, 2, [], 0), []), none, some ((.ishl, 1, [], 0), []), some ((.goto 4, 3, [], 0), []), none, none, some ((.iconst 0, 1, [], 0), []), some ((.ior, 1, [], 0), [false, true, false, false, true, false, true]), some ((.istore_n 1, 1, [], 0), []), some ((.iinc 7 1, 3, [], 0), []), none, none, some ((.goto (-41), 3, [], 0), []), none, none, some ((.goto (-235), 3, [], 0), [false, false, false, true, true, true, true, true])],
  [none, none, some ((.iload_n 1, 1, [], 0), [true, false, true, true, true, true, true, true]), some ((.ireturn, 1, [], 0), [])]])
def kX10_readsPattern : zMeth := (yX10_readsPattern, cX10_readsPattern, 6, (some .int), { frames := 9, cells := 0, slots := 0, locals := 193 }, [
  [some ((.aload_n 0, 1, [], 0), []), some ((.getfield 81, 3, [10, 12, 10229], 0), []), none, none, some ((.bipush 7, 2, [], 0), []), none, some ((.if_icmp .ne 11, 3, [], 0), []), none, none, some ((.aload_n 0, 1, [], 0), []), some ((.iconst 1, 1, [], 0), []), some ((.invokevirtual 129, 3, [0, 135, 2, 0, 0, 10, 11163, 11165, 3000, 7017, 11166], 0), []), none, none, some ((.bipush 127, 2, [], 0), [true]), none],
  [some ((.ireturn, 1, [], 0), []), some ((.iconst 0, 1, [], 0), []), some ((.istore_n 1, 1, [], 0), []), some ((.iconst (-1), 1, [], 0), []), some ((.istore_n 2, 1, [], 0), []), some ((.aload_n 0, 1, [], 0), [false, false, false, true, true, true]), some ((.getfield 109, 3, [10, 14, 10231], 0), []), none, none, some ((.ifCond .ne 83, 3, [], 0), []), none, none, some ((.aload_n 0, 1, [], 0), []), some ((.invokevirtual 133, 3, [0, 138, 1, 0, 0, 10, 11179, 11181, 3004, 7017, 11182], 0), []), none, none],
  [some ((.ifCond .eq 76, 3, [], 0), [false, false, false, true, true, true]), none, none, some ((.aload_n 0, 1, [], 0), []), some ((.iload_n 2, 1, [], 0), []), some ((.invokevirtual 172, 3, [0, 147, 2, 0, 0, 10, 11218, 11220, 3013, 7017, 11221], 0), []), none, none, some ((.istore_n 3, 1, [], 0), [false, false, true, true, true, true]), some ((.iload_n 3, 1, [], 0), []), some ((.istore 4, 2, [], 0), []), none, some ((.aload_n 0, 1, [], 0), []), some ((.getfield 109, 3, [10, 14, 10231], 0), []), none, none],
  [some ((.ifCond .ne 24, 3, [], 0), []), none, none, some ((.aload_n 0, 1, [], 0), []), some ((.bipush 45, 2, [], 0), []), none, some ((.invokevirtual 153, 3, [0, 136, 2, 0, 0, 10, 11202, 11204, 3009, 7017, 11205], 0), []), none, none, some ((.ifCond .eq 15, 3, [], 0), [false, false, true, false, false, true]), none, none, some ((.aload_n 0, 1, [], 0), []), some ((.iconst 1, 1, [], 0), []), some ((.invokevirtual 129, 3, [0, 135, 2, 0, 0, 10, 11163, 11165, 3000, 7017, 11166], 0), []), none],
  [none, some ((.aload_n 0, 1, [], 0), [false, false, true, false, true, true]), some ((.iload_n 3, 1, [], 0), []), some ((.invokevirtual 172, 3, [0, 147, 2, 0, 0, 10, 11218, 11220, 3013, 7017, 11221], 0), []), none, none, some ((.istore 4, 2, [], 0), [false, false, true, false, true, true]), none, some ((.iload_n 3, 1, [], 0), [false, false, true, false, false, true]), some ((.istore 5, 2, [], 0), []), none, some ((.iload 5, 2, [], 0), [false, false, true, true]), none, some ((.iload 4, 2, [], 0), []), none, some ((.if_icmp .gt 23, 3, [], 0), [])],
  [none, none, some ((.aload_n 0, 1, [], 0), []), some ((.getfield 109, 3, [10, 14, 10231], 0), []), none, none, some ((.ifCond .ne 16, 3, [], 0), []), none, none, some ((.iload_n 1, 1, [], 0), []), some ((.iconst 1, 1, [], 0), []), some ((.iload 5, 2, [], 0), []), none, some ((.ishl, 1, [], 0), []), some ((.ior, 1, [], 0), []), some ((.istore_n 1, 1, [], 0), [])],
  [some ((.iinc 5 1, 3, [], 0), []), none, none, some ((.goto (-24), 3, [], 0), []), none, none, some ((.iload 4, 2, [], 0), [false, false, true, true, false, true]), none, some ((.istore_n 2, 1, [], 0), []), some ((.goto (-84), 3, [], 0), []), none, none, some ((.iload_n 1, 1, [], 0), [true, false, true, true, true, true]), some ((.ireturn, 1, [], 0), [])]])
def kX10_readsBehind : zMeth := (yX10_readsBehind, cX10_readsBehind, 2, (some .int), { frames := 8, cells := 0, slots := 0, locals := 172 }, [
  [some ((.aload_n 0, 1, [], 0), []), some ((.getfield 109, 3, [10, 14, 10231], 0), []), none, none, some ((.ifCond .ne 26, 3, [], 0), []), none, none, some ((.aload_n 0, 1, [], 0), []), some ((.invokevirtual 133, 3, [0, 138, 1, 0, 0, 10, 11179, 11181, 3004, 7017, 11182], 0), []), none, none, some ((.ifCond .eq 19, 3, [], 0), []), none, none, some ((.aload_n 0, 1, [], 0), []), some ((.getfield 81, 3, [10, 12, 10229], 0), [])],
  [none, none, some ((.bipush 12, 2, [], 0), []), none, some ((.isub, 1, [], 0), []), some ((.iload_n 1, 1, [], 0), []), some ((.if_icmp .gt 8, 3, [], 0), []), none, none, some ((.aload_n 0, 1, [], 0), []), some ((.iconst 2, 1, [], 0), []), some ((.invokevirtual 119, 3, [0, 134, 2, 0, 0, 10, 11167, 11169, 3001, 7017, 11170], 0), []), none, none, some ((.aload_n 0, 1, [], 0), [false, true]), some ((.getfield 109, 3, [10, 14, 10231], 0), [])],
  [none, none, some ((.ifCond .eq 7, 3, [], 0), []), none, none, some ((.iconst 0, 1, [], 0), []), some ((.goto 7, 3, [], 0), []), none, none, some ((.aload_n 0, 1, [], 0), []), some ((.invokevirtual 140, 3, [0, 139, 1, 0, 0, 10, 11175, 11177, 3003, 7017, 11178], 0), []), none, none, some ((.ireturn, 1, [], 0), [true, true])]])
def kX10_readsEntries : zMeth := (yX10_readsEntries, cX10_readsEntries, 7, (some .int), { frames := 9, cells := 0, slots := 0, locals := 195 }, [
  [some ((.iconst 0, 1, [], 0), []), some ((.istore_n 1, 1, [], 0), []), some ((.iconst 0, 1, [], 0), []), some ((.istore_n 2, 1, [], 0), []), some ((.iconst 0, 1, [], 0), []), some ((.istore_n 3, 1, [], 0), []), some ((.aload_n 0, 1, [], 0), []), some ((.getfield 109, 3, [10, 14, 10231], 0), []), none, none, some ((.ifCond .ne 7, 3, [], 0), []), none, none, some ((.iconst 1, 1, [], 0), []), some ((.goto 4, 3, [], 0), []), none],
  [none, some ((.iconst 0, 1, [], 0), []), some ((.istore 4, 2, [], 0), []), none, some ((.iload 4, 2, [], 0), [false, false, false, false, false, true, true]), none, some ((.ifCond .eq 161, 3, [], 0), []), none, none, some ((.aload_n 0, 1, [], 0), []), some ((.invokevirtual 146, 3, [0, 133, 1, 0, 0, 10, 11187, 11189, 3006, 7017, 11190], 0), []), none, none, some ((.istore 5, 2, [], 0), [false, false, false, false, true, true, true]), none, some ((.aload_n 0, 1, [], 0), [])],
  [some ((.getfield 84, 3, [10, 10, 10227], 0), []), none, none, some ((.iconst 1, 1, [], 0), []), some ((.if_icmp .ne 80, 3, [], 0), []), none, none, some ((.iload 5, 2, [], 0), []), none, some ((.ifCond .ge 11, 3, [], 0), []), none, none, some ((.aload_n 0, 1, [], 0), []), some ((.iconst 1, 1, [], 0), []), some ((.invokevirtual 119, 3, [0, 134, 2, 0, 0, 10, 11167, 11169, 3001, 7017, 11170], 0), []), none],
  [none, some ((.goto 17, 3, [], 0), [false, false, false, false, true, false, true]), none, none, some ((.iload_n 2, 1, [], 0), []), some ((.iload 5, 2, [], 0), []), none, some ((.invokestatic 143, 3, [1, 124, 2, 0, 0, 11195, 11196, 7017, 11197, 0], 0), []), none, none, some ((.ifCond .eq 8, 3, [], 0), [false, false, false, false, true, false, true]), none, none, some ((.aload_n 0, 1, [], 0), []), some ((.iconst 2, 1, [], 0), []), some ((.invokevirtual 119, 3, [0, 134, 2, 0, 0, 10, 11167, 11169, 3001, 7017, 11170], 0), [])],
  [none, none, some ((.aload_n 0, 1, [], 0), [false, false, false, false, true, false, true]), some ((.iconst 1, 1, [], 0), []), some ((.invokevirtual 129, 3, [0, 135, 2, 0, 0, 10, 11163, 11165, 3000, 7017, 11166], 0), []), none, none, some ((.iload_n 2, 1, [], 0), [false, false, false, false, true, false, true]), some ((.aload_n 0, 1, [], 0), []), some ((.getfield 109, 3, [10, 14, 10231], 0), []), none, none, some ((.ifCond .eq 7, 3, [], 0), []), none, none, some ((.iconst 0, 1, [], 0), [])],
  [some ((.goto 7, 3, [], 0), []), none, none, some ((.iconst 1, 1, [], 0), []), some ((.iload 5, 2, [], 0), []), none, some ((.ishl, 1, [], 0), []), some ((.ior, 1, [], 0), [false, false, true, false, true, false, true]), some ((.istore_n 2, 1, [], 0), []), some ((.iload_n 3, 1, [], 0), []), some ((.aload_n 0, 1, [], 0), []), some ((.getfield 109, 3, [10, 14, 10231], 0), []), none, none, some ((.ifCond .eq 7, 3, [], 0), []), none],
  [none, some ((.iconst 0, 1, [], 0), []), some ((.goto 13, 3, [], 0), []), none, none, some ((.aload_n 0, 1, [], 0), []), some ((.getfield 9, 3, [10, 0, 10217], 0), []), none, none, some ((.bipush 6, 2, [], 0), []), none, some ((.iload 5, 2, [], 0), []), none, some ((.iadd, 1, [], 0), []), some ((.iaload, 1, [], 0), []), some ((.ior, 1, [], 0), [false, false, false, true, true, true, true])],
  [some ((.istore_n 3, 1, [], 0), []), some ((.goto 28, 3, [], 0), []), none, none, some ((.aload_n 0, 1, [], 0), []), some ((.iload_n 1, 1, [], 0), []), some ((.invokevirtual 149, 3, [0, 141, 2, 0, 0, 10, 11191, 11193, 3007, 7017, 11194], 0), []), none, none, some ((.istore 6, 2, [], 0), [false, false, false, false, true, true, true]), none, some ((.iload_n 1, 1, [], 0), []), some ((.aload_n 0, 1, [], 0), []), some ((.getfield 109, 3, [10, 14, 10231], 0), []), none, none],
  [some ((.ifCond .eq 7, 3, [], 0), []), none, none, some ((.iconst 0, 1, [], 0), []), some ((.goto 7, 3, [], 0), []), none, none, some ((.iconst 1, 1, [], 0), []), some ((.iload 6, 2, [], 0), []), none, some ((.ishl, 1, [], 0), []), some ((.ior, 1, [], 0), [false, true, false, false, true, true, true]), some ((.istore_n 1, 1, [], 0), []), some ((.aload_n 0, 1, [], 0), [false, false, false, false, true, true, true]), some ((.getfield 109, 3, [10, 14, 10231], 0), []), none],
  [none, some ((.ifCond .ne 32, 3, [], 0), []), none, none, some ((.aload_n 0, 1, [], 0), []), some ((.getfield 84, 3, [10, 10, 10227], 0), []), none, none, some ((.iconst 2, 1, [], 0), []), some ((.if_icmp .eq 20, 3, [], 0), []), none, none, some ((.aload_n 0, 1, [], 0), []), some ((.getfield 84, 3, [10, 10, 10227], 0), []), none, none],
  [some ((.iconst 1, 1, [], 0), []), some ((.if_icmp .ne 16, 3, [], 0), []), none, none, some ((.aload_n 0, 1, [], 0), []), some ((.getfield 81, 3, [10, 12, 10229], 0), []), none, none, some ((.bipush 11, 2, [], 0), []), none, some ((.if_icmp .eq 7, 3, [], 0), []), none, none, some ((.iconst 1, 1, [], 0), [false, false, false, false, true, true, true]), some ((.goto 4, 3, [], 0), []), none],
  [none, some ((.iconst 0, 1, [], 0), [false, false, false, false, true, true, true]), some ((.istore 4, 2, [], 0), [false, false, false, false, true, true, true]), none, some ((.goto (-160), 3, [], 0), []), none, none, some ((.iload_n 1, 1, [], 0), []), some ((.iload_n 3, 1, [], 0), []), some ((.ior, 1, [], 0), []), some ((.ireturn, 1, [], 0), [])]])
def kX10_begins : zMeth := (yX10_begins, cX10_begins, 1, none, { frames := 6, cells := 0, slots := 0, locals := 130 }, [
  [some ((.aload_n 0, 1, [], 0), []), some ((.iconst 0, 1, [], 0), []), some ((.putfield 68, 3, [10, 8, 10225], 0), []), none, none, some ((.aload_n 0, 1, [], 0), []), some ((.iconst 0, 1, [], 0), []), some ((.putfield 109, 3, [10, 14, 10231], 0), []), none, none, some ((.aload_n 0, 1, [], 0), []), some ((.iconst 0, 1, [], 0), []), some ((.putfield 113, 3, [10, 15, 10232], 0), []), none, none, some ((.aload_n 0, 1, [], 0), [])],
  [some ((.iconst (-1), 1, [], 0), []), some ((.putfield 116, 3, [10, 16, 10233], 0), []), none, none, some ((.aload_n 0, 1, [], 0), []), some ((.iconst 0, 1, [], 0), []), some ((.putfield 126, 3, [10, 13, 10230], 0), []), none, none, some ((.aload_n 0, 1, [], 0), []), some ((.invokevirtual 123, 3, [0, 131, 1, 0, 0, 10, 11142, 11144, 2012, 7017, 11145], 0), []), none, none, some ((.return_, 1, [], 0), [true])]])
def kX10_desk : zMeth := (yX10_desk, cX10_desk, 2, (some .int), { frames := 13, cells := 0, slots := 0, locals := 287 }, [
  [some ((.iconst 0, 1, [], 0), []), some ((.istore_n 1, 1, [], 0), []), some ((.iload_n 1, 1, [], 0), []), some ((.bipush 44, 2, [], 0), []), none, some ((.if_icmp .ge 28, 3, [], 0), []), none, none, some ((.aload_n 0, 1, [], 0), []), some ((.getfield 13, 3, [10, 1, 10218], 0), []), none, none, some ((.iload_n 1, 1, [], 0), []), some ((.aload_n 0, 1, [], 0), []), some ((.getfield 9, 3, [10, 0, 10217], 0), []), none],
  [none, some ((.iload_n 1, 1, [], 0), []), some ((.iaload, 1, [], 0), []), some ((.iastore, 1, [], 0), []), some ((.aload_n 0, 1, [], 0), []), some ((.getfield 9, 3, [10, 0, 10217], 0), []), none, none, some ((.iload_n 1, 1, [], 0), []), some ((.iconst 0, 1, [], 0), []), some ((.iastore, 1, [], 0), []), some ((.iinc 1 1, 3, [], 0), []), none, none, some ((.goto (-28), 3, [], 0), []), none],
  [none, some ((.aload_n 0, 1, [], 0), []), some ((.invokevirtual 175, 3, [0, 149, 1, 0, 0, 10, 11138, 11140, 2011, 7017, 11141], 0), []), none, none, some ((.aload_n 0, 1, [], 0), [false, true]), some ((.getfield 109, 3, [10, 14, 10231], 0), []), none, none, some ((.ifCond .ne 91, 3, [], 0), []), none, none, some ((.aload_n 0, 1, [], 0), []), some ((.getfield 84, 3, [10, 10, 10227], 0), []), none, none],
  [some ((.ifCond .eq 84, 3, [], 0), []), none, none, some ((.aload_n 0, 1, [], 0), []), some ((.getfield 9, 3, [10, 0, 10217], 0), []), none, none, some ((.iconst 4, 1, [], 0), []), some ((.iaload, 1, [], 0), []), some ((.ifCond .ne 10, 3, [], 0), []), none, none, some ((.aload_n 0, 1, [], 0), []), some ((.invokevirtual 178, 3, [0, 140, 1, 0, 0, 10, 11159, 11161, 2015, 7017, 11162], 0), []), none, none],
  [some ((.goto 38, 3, [], 0), [false, true]), none, none, some ((.aload_n 0, 1, [], 0), []), some ((.getfield 81, 3, [10, 12, 10229], 0), []), none, none, some ((.iconst 3, 1, [], 0), []), some ((.if_icmp .ne 10, 3, [], 0), []), none, none, some ((.aload_n 0, 1, [], 0), []), some ((.invokevirtual 181, 3, [0, 142, 1, 0, 0, 10, 11183, 11185, 3005, 7017, 11186], 0), []), none, none, some ((.goto 23, 3, [], 0), [false, true])],
  [none, none, some ((.aload_n 0, 1, [], 0), []), some ((.getfield 81, 3, [10, 12, 10229], 0), []), none, none, some ((.iconst 4, 1, [], 0), []), some ((.if_icmp .ne 10, 3, [], 0), []), none, none, some ((.aload_n 0, 1, [], 0), []), some ((.invokevirtual 184, 3, [0, 143, 1, 0, 0, 10, 11198, 11200, 3008, 7017, 11201], 0), []), none, none, some ((.goto 8, 3, [], 0), [false, true]), none],
  [none, some ((.aload_n 0, 1, [], 0), []), some ((.iconst 1, 1, [], 0), []), some ((.invokevirtual 119, 3, [0, 134, 2, 0, 0, 10, 11167, 11169, 3001, 7017, 11170], 0), []), none, none, some ((.aload_n 0, 1, [], 0), [false, true]), some ((.getfield 109, 3, [10, 14, 10231], 0), []), none, none, some ((.ifCond .ne (-69), 3, [], 0), []), none, none, some ((.aload_n 0, 1, [], 0), []), some ((.aload_n 0, 1, [], 0), []), some ((.bipush 59, 2, [], 0), [])],
  [none, some ((.invokevirtual 153, 3, [0, 136, 2, 0, 0, 10, 11202, 11204, 3009, 7017, 11205], 0), []), none, none, some ((.invokevirtual 129, 3, [0, 135, 2, 0, 0, 10, 11163, 11165, 3000, 7017, 11166], 0), [false, true]), none, none, some ((.aload_n 0, 1, [], 0), [false, true]), some ((.getfield 9, 3, [10, 0, 10217], 0), []), none, none, some ((.iconst 4, 1, [], 0), []), some ((.dup2, 1, [], 0), []), some ((.iaload, 1, [], 0), []), some ((.iconst 1, 1, [], 0), []), some ((.iadd, 1, [], 0), [])],
  [some ((.iastore, 1, [], 0), []), some ((.goto (-92), 3, [], 0), []), none, none, some ((.aload_n 0, 1, [], 0), [false, true]), some ((.iconst 0, 1, [], 0), []), some ((.putfield 61, 3, [10, 5, 10222], 0), []), none, none, some ((.aload_n 0, 1, [], 0), []), some ((.aload_n 0, 1, [], 0), []), some ((.getfield 113, 3, [10, 15, 10232], 0), []), none, none, some ((.putfield 187, 3, [10, 6, 10223], 0), []), none],
  [none, some ((.aload_n 0, 1, [], 0), []), some ((.aload_n 0, 1, [], 0), []), some ((.getfield 116, 3, [10, 16, 10233], 0), []), none, none, some ((.putfield 22, 3, [10, 7, 10224], 0), []), none, none, some ((.aload_n 0, 1, [], 0), []), some ((.getfield 109, 3, [10, 14, 10231], 0), []), none, none, some ((.ifCond .eq 32, 3, [], 0), []), none, none],
  [some ((.iconst 0, 1, [], 0), []), some ((.istore_n 1, 1, [], 0), []), some ((.iload_n 1, 1, [], 0), []), some ((.bipush 44, 2, [], 0), []), none, some ((.if_icmp .ge 21, 3, [], 0), []), none, none, some ((.aload_n 0, 1, [], 0), []), some ((.getfield 9, 3, [10, 0, 10217], 0), []), none, none, some ((.iload_n 1, 1, [], 0), []), some ((.aload_n 0, 1, [], 0), []), some ((.getfield 13, 3, [10, 1, 10218], 0), []), none],
  [none, some ((.iload_n 1, 1, [], 0), []), some ((.iaload, 1, [], 0), []), some ((.iastore, 1, [], 0), []), some ((.iinc 1 1, 3, [], 0), []), none, none, some ((.goto (-21), 3, [], 0), []), none, none, some ((.bipush (-4), 2, [], 0), []), none, some ((.ireturn, 1, [], 0), []), some ((.aload_n 0, 1, [], 0), []), some ((.iconst 0, 1, [], 0), []), some ((.putfield 190, 3, [10, 3, 10220], 0), [])],
  [none, none, some ((.aload_n 0, 1, [], 0), []), some ((.iconst 0, 1, [], 0), []), some ((.putfield 193, 3, [10, 43, 11020], 0), []), none, none, some ((.aload_n 0, 1, [], 0), []), some ((.getfield 9, 3, [10, 0, 10217], 0), []), none, none, some ((.iconst 4, 1, [], 0), []), some ((.iaload, 1, [], 0), []), some ((.ireturn, 1, [], 0), [])]])
def kX10_fault : zMeth := (yX10_fault, cX10_fault, 2, (some .int), { frames := 0, cells := 0, slots := 0, locals := 0 }, [
  [some ((.iload_n 1, 1, [], 0), []), some ((.ifCond .ne 10, 3, [], 0), []), none, none, some ((.aload_n 0, 1, [], 0), []), some ((.getfield 187, 3, [10, 6, 10223], 0), []), none, none, some ((.goto 16, 3, [], 0), []), none, none, some ((.iload_n 1, 1, [], 0), []), some ((.iconst 1, 1, [], 0), []), some ((.if_icmp .ne 10, 3, [], 0), []), none, none],
  [some ((.aload_n 0, 1, [], 0), []), some ((.getfield 22, 3, [10, 7, 10224], 0), []), none, none, some ((.goto 4, 3, [], 0), []), none, none, some ((.iconst (-1), 1, [], 0), []), some ((.ireturn, 1, [], 0), [true, true])]])
def kX10_count : zMeth := (yX10_count, cX10_count, 2, (some .int), { frames := 0, cells := 0, slots := 0, locals := 0 }, [
  [some ((.iload_n 1, 1, [], 0), []), some ((.tableswitch 88 0 6 #[43, 50, 57, 64, 71, 76, 83], 43, [], 0), []), none, none, none, none, none, none, none, none, none, none, none, none, none, none],
  [none, none, none, none, none, none, none, none, none, none, none, none, none, none, none, none],
  [none, none, none, none, none, none, none, none, none, none, none, none, some ((.aload_n 0, 1, [], 0), []), some ((.getfield 9, 3, [10, 0, 10217], 0), []), none, none],
  [some ((.iconst 0, 1, [], 0), []), some ((.iaload, 1, [], 0), []), some ((.ireturn, 1, [], 0), []), some ((.aload_n 0, 1, [], 0), []), some ((.getfield 9, 3, [10, 0, 10217], 0), []), none, none, some ((.iconst 1, 1, [], 0), []), some ((.iaload, 1, [], 0), []), some ((.ireturn, 1, [], 0), []), some ((.aload_n 0, 1, [], 0), []), some ((.getfield 9, 3, [10, 0, 10217], 0), []), none, none, some ((.iconst 2, 1, [], 0), []), some ((.iaload, 1, [], 0), [])],
  [some ((.ireturn, 1, [], 0), []), some ((.aload_n 0, 1, [], 0), []), some ((.getfield 9, 3, [10, 0, 10217], 0), []), none, none, some ((.iconst 3, 1, [], 0), []), some ((.iaload, 1, [], 0), []), some ((.ireturn, 1, [], 0), []), some ((.aload_n 0, 1, [], 0), []), some ((.getfield 190, 3, [10, 3, 10220], 0), []), none, none, some ((.ireturn, 1, [], 0), []), some ((.aload_n 0, 1, [], 0), []), some ((.getfield 9, 3, [10, 0, 10217], 0), []), none],
  [none, some ((.iconst 4, 1, [], 0), []), some ((.iaload, 1, [], 0), []), some ((.ireturn, 1, [], 0), []), some ((.aload_n 0, 1, [], 0), [false, true]), some ((.getfield 61, 3, [10, 5, 10222], 0), []), none, none, some ((.ireturn, 1, [], 0), []), some ((.iconst (-1), 1, [], 0), []), some ((.ireturn, 1, [], 0), [])]])
def kX10_weekdayOf : zMeth := (yX10_weekdayOf, cX10_weekdayOf, 2, (some .int), { frames := 0, cells := 0, slots := 0, locals := 0 }, [
  [some ((.aload_n 0, 1, [], 0), []), some ((.getfield 9, 3, [10, 0, 10217], 0), []), none, none, some ((.iconst 1, 1, [], 0), []), some ((.iaload, 1, [], 0), []), some ((.iload_n 1, 1, [], 0), []), some ((.iadd, 1, [], 0), []), some ((.bipush 7, 2, [], 0), []), none, some ((.irem, 1, [], 0), []), some ((.ireturn, 1, [], 0), [])]])
def kX10_isDay : zMeth := (yX10_isDay, cX10_isDay, 2, (some .boolean), { frames := 1, cells := 0, slots := 0, locals := 25 }, [
  [some ((.iload_n 1, 1, [], 0), []), some ((.i2l, 1, [], 0), []), some ((.lconst 0, 1, [], 0), []), some ((.aload_n 0, 1, [], 0), []), some ((.getfield 9, 3, [10, 0, 10217], 0), []), none, none, some ((.iconst 0, 1, [], 0), []), some ((.iaload, 1, [], 0), []), some ((.iconst 1, 1, [], 0), []), some ((.isub, 1, [], 0), []), some ((.i2l, 1, [], 0), []), some ((.invokestatic 64, 3, [1, 123, 3, 0, 0, 11131, 11132, 7017, 11133, 0], 0), []), none, none, some ((.ireturn, 1, [], 0), [true, true])]])
def kX10_isTrain : zMeth := (yX10_isTrain, cX10_isTrain, 2, (some .boolean), { frames := 1, cells := 0, slots := 0, locals := 25 }, [
  [some ((.iload_n 1, 1, [], 0), []), some ((.i2l, 1, [], 0), []), some ((.lconst 0, 1, [], 0), []), some ((.aload_n 0, 1, [], 0), []), some ((.getfield 9, 3, [10, 0, 10217], 0), []), none, none, some ((.iconst 3, 1, [], 0), []), some ((.iaload, 1, [], 0), []), some ((.iconst 1, 1, [], 0), []), some ((.isub, 1, [], 0), []), some ((.i2l, 1, [], 0), []), some ((.invokestatic 64, 3, [1, 123, 3, 0, 0, 11131, 11132, 7017, 11133, 0], 0), []), none, none, some ((.ireturn, 1, [], 0), [true, true])]])
def kX10_runsOf : zMeth := (yX10_runsOf, cX10_runsOf, 2, (some .int), { frames := 0, cells := 0, slots := 0, locals := 0 }, [
  [some ((.aload_n 0, 1, [], 0), []), some ((.getfield 9, 3, [10, 0, 10217], 0), []), none, none, some ((.bipush 38, 2, [], 0), []), none, some ((.iload_n 1, 1, [], 0), []), some ((.iadd, 1, [], 0), []), some ((.iaload, 1, [], 0), []), some ((.ireturn, 1, [], 0), [])]])
def kX10_whole : zMeth := (yX10_whole, cX10_whole, 1, (some .int), { frames := 0, cells := 0, slots := 0, locals := 0 }, [
  [some ((.iconst 1, 1, [], 0), []), some ((.aload_n 0, 1, [], 0), []), some ((.getfield 9, 3, [10, 0, 10217], 0), []), none, none, some ((.iconst 0, 1, [], 0), []), some ((.iaload, 1, [], 0), []), some ((.ishl, 1, [], 0), []), some ((.iconst 1, 1, [], 0), []), some ((.isub, 1, [], 0), []), some ((.ireturn, 1, [], 0), [])]])
def kX10_weekday : zMeth := (yX10_weekday, cX10_weekday, 2, (some .int), { frames := 2, cells := 0, slots := 0, locals := 46 }, [
  [some ((.aload_n 0, 1, [], 0), []), some ((.iload_n 1, 1, [], 0), []), some ((.invokevirtual 196, 3, [0, 154, 2, 0, 0, 10, 12002, 12004, 4000, 7017, 12005], 0), []), none, none, some ((.ifCond .eq 11, 3, [], 0), []), none, none, some ((.aload_n 0, 1, [], 0), []), some ((.iload_n 1, 1, [], 0), []), some ((.invokevirtual 169, 3, [0, 153, 2, 0, 0, 10, 11222, 11224, 3014, 7017, 11225], 0), []), none, none, some ((.goto 5, 3, [], 0), [true, true]), none, none],
  [some ((.bipush (-2), 2, [], 0), []), none, some ((.ireturn, 1, [], 0), [true, true])]])
def kX10_feast : zMeth := (yX10_feast, cX10_feast, 2, (some .int), { frames := 1, cells := 0, slots := 0, locals := 25 }, [
  [some ((.iload_n 1, 1, [], 0), []), some ((.i2l, 1, [], 0), []), some ((.lconst 0, 1, [], 0), []), some ((.aload_n 0, 1, [], 0), []), some ((.getfield 9, 3, [10, 0, 10217], 0), []), none, none, some ((.iconst 2, 1, [], 0), []), some ((.iaload, 1, [], 0), []), some ((.iconst 1, 1, [], 0), []), some ((.isub, 1, [], 0), []), some ((.i2l, 1, [], 0), []), some ((.invokestatic 64, 3, [1, 123, 3, 0, 0, 11131, 11132, 7017, 11133, 0], 0), []), none, none, some ((.ifCond .eq 15, 3, [], 0), [])],
  [none, none, some ((.aload_n 0, 1, [], 0), []), some ((.getfield 9, 3, [10, 0, 10217], 0), []), none, none, some ((.bipush 6, 2, [], 0), []), none, some ((.iload_n 1, 1, [], 0), []), some ((.iadd, 1, [], 0), []), some ((.iaload, 1, [], 0), []), some ((.goto 5, 3, [], 0), []), none, none, some ((.bipush (-2), 2, [], 0), []), none],
  [some ((.ireturn, 1, [], 0), [true, true])]])
def kX10_train : zMeth := (yX10_train, cX10_train, 3, (some .int), { frames := 2, cells := 0, slots := 0, locals := 46 }, [
  [some ((.aload_n 0, 1, [], 0), []), some ((.iload_n 1, 1, [], 0), []), some ((.invokevirtual 200, 3, [0, 155, 2, 0, 0, 10, 12014, 12016, 4001, 7017, 12017], 0), []), none, none, some ((.ifCond .eq 34, 3, [], 0), []), none, none, some ((.iload_n 2, 1, [], 0), []), some ((.i2l, 1, [], 0), []), some ((.lconst 0, 1, [], 0), []), some ((.lconst 1, 1, [], 0), []), some ((.invokestatic 64, 3, [1, 123, 3, 0, 0, 11131, 11132, 7017, 11133, 0], 0), []), none, none, some ((.ifCond .eq 24, 3, [], 0), [])],
  [none, none, some ((.aload_n 0, 1, [], 0), []), some ((.getfield 9, 3, [10, 0, 10217], 0), []), none, none, some ((.iload_n 2, 1, [], 0), []), some ((.ifCond .ne 8, 3, [], 0), []), none, none, some ((.bipush 26, 2, [], 0), []), none, some ((.goto 5, 3, [], 0), []), none, none, some ((.bipush 32, 2, [], 0), [])],
  [none, some ((.iload_n 1, 1, [], 0), [true, false, true]), some ((.iadd, 1, [], 0), []), some ((.iaload, 1, [], 0), []), some ((.goto 5, 3, [], 0), []), none, none, some ((.bipush (-2), 2, [], 0), [true, true, true]), none, some ((.ireturn, 1, [], 0), [true, true, true])]])
def kX10_days : zMeth := (yX10_days, cX10_days, 2, (some .int), { frames := 2, cells := 0, slots := 0, locals := 46 }, [
  [some ((.aload_n 0, 1, [], 0), []), some ((.iload_n 1, 1, [], 0), []), some ((.invokevirtual 200, 3, [0, 155, 2, 0, 0, 10, 12014, 12016, 4001, 7017, 12017], 0), []), none, none, some ((.ifCond .eq 11, 3, [], 0), []), none, none, some ((.aload_n 0, 1, [], 0), []), some ((.iload_n 1, 1, [], 0), []), some ((.invokevirtual 203, 3, [0, 156, 2, 0, 0, 10, 12022, 12024, 4002, 7017, 12025], 0), []), none, none, some ((.goto 5, 3, [], 0), [true, true]), none, none],
  [some ((.bipush (-2), 2, [], 0), []), none, some ((.ireturn, 1, [], 0), [true, true])]])
def kX10_runs : zMeth := (yX10_runs, cX10_runs, 3, (some .int), { frames := 2, cells := 0, slots := 0, locals := 46 }, [
  [some ((.aload_n 0, 1, [], 0), []), some ((.iload_n 1, 1, [], 0), []), some ((.invokevirtual 200, 3, [0, 155, 2, 0, 0, 10, 12014, 12016, 4001, 7017, 12017], 0), []), none, none, some ((.ifCond .eq 26, 3, [], 0), []), none, none, some ((.aload_n 0, 1, [], 0), []), some ((.iload_n 2, 1, [], 0), []), some ((.invokevirtual 196, 3, [0, 154, 2, 0, 0, 10, 12002, 12004, 4000, 7017, 12005], 0), []), none, none, some ((.ifCond .eq 18, 3, [], 0), []), none, none],
  [some ((.aload_n 0, 1, [], 0), []), some ((.iload_n 1, 1, [], 0), []), some ((.invokevirtual 203, 3, [0, 156, 2, 0, 0, 10, 12022, 12024, 4002, 7017, 12025], 0), []), none, none, some ((.iload_n 2, 1, [], 0), [true, true]), some ((.invokestatic 143, 3, [1, 124, 2, 0, 0, 11195, 11196, 7017, 11197, 0], 0), []), none, none, some ((.invokestatic 206, 3, [1, 126, 1, 0, 0, 12030, 12031, 7017, 12032, 0], 0), [true, true, true]), none, none, some ((.goto 5, 3, [], 0), [true, true, true]), none, none, some ((.bipush (-2), 2, [], 0), [true, true, true])],
  [none, some ((.ireturn, 1, [], 0), [true, true, true])]])
def kX10_many : zMeth := (yX10_many, cX10_many, 2, (some .int), { frames := 2, cells := 0, slots := 0, locals := 46 }, [
  [some ((.aload_n 0, 1, [], 0), []), some ((.iload_n 1, 1, [], 0), []), some ((.invokevirtual 200, 3, [0, 155, 2, 0, 0, 10, 12014, 12016, 4001, 7017, 12017], 0), []), none, none, some ((.ifCond .eq 14, 3, [], 0), []), none, none, some ((.aload_n 0, 1, [], 0), []), some ((.iload_n 1, 1, [], 0), []), some ((.invokevirtual 203, 3, [0, 156, 2, 0, 0, 10, 12022, 12024, 4002, 7017, 12025], 0), []), none, none, some ((.invokestatic 210, 3, [1, 125, 1, 0, 0, 12037, 12038, 7017, 12039, 0], 0), [true, true]), none, none],
  [some ((.goto 5, 3, [], 0), [true, true]), none, none, some ((.bipush (-2), 2, [], 0), []), none, some ((.ireturn, 1, [], 0), [true, true])]])
def kX10_daysOf : zMeth := (yX10_daysOf, cX10_daysOf, 4, (some .int), { frames := 1, cells := 0, slots := 0, locals := 21 }, [
  [some ((.iconst 0, 1, [], 0), []), some ((.istore_n 2, 1, [], 0), []), some ((.iconst 0, 1, [], 0), []), some ((.istore_n 3, 1, [], 0), []), some ((.iload_n 3, 1, [], 0), []), some ((.aload_n 0, 1, [], 0), []), some ((.getfield 9, 3, [10, 0, 10217], 0), []), none, none, some ((.iconst 0, 1, [], 0), []), some ((.iaload, 1, [], 0), []), some ((.if_icmp .ge 28, 3, [], 0), []), none, none, some ((.iload_n 2, 1, [], 0), []), some ((.aload_n 0, 1, [], 0), [])],
  [some ((.iload_n 3, 1, [], 0), []), some ((.invokevirtual 169, 3, [0, 153, 2, 0, 0, 10, 11222, 11224, 3014, 7017, 11225], 0), []), none, none, some ((.iload_n 1, 1, [], 0), [false, false, true]), some ((.if_icmp .ne 9, 3, [], 0), []), none, none, some ((.iconst 1, 1, [], 0), []), some ((.iload_n 3, 1, [], 0), []), some ((.ishl, 1, [], 0), []), some ((.goto 4, 3, [], 0), []), none, none, some ((.iconst 0, 1, [], 0), []), some ((.ior, 1, [], 0), [false, false, true])],
  [some ((.istore_n 2, 1, [], 0), []), some ((.iinc 3 1, 3, [], 0), []), none, none, some ((.goto (-32), 3, [], 0), []), none, none, some ((.iload_n 2, 1, [], 0), []), some ((.ireturn, 1, [], 0), [])]])
def kX10_votes : zMeth := (yX10_votes, cX10_votes, 3, (some .int), { frames := 2, cells := 0, slots := 0, locals := 46 }, [
  [some ((.aload_n 0, 1, [], 0), []), some ((.iload_n 1, 1, [], 0), []), some ((.invokevirtual 200, 3, [0, 155, 2, 0, 0, 10, 12014, 12016, 4001, 7017, 12017], 0), []), none, none, some ((.ifCond .eq 32, 3, [], 0), []), none, none, some ((.iload_n 2, 1, [], 0), []), some ((.i2l, 1, [], 0), []), some ((.lconst 0, 1, [], 0), []), some ((.ldc2_w 213, 3, [0, 12044], 6), []), none, none, some ((.invokestatic 64, 3, [1, 123, 3, 0, 0, 11131, 11132, 7017, 11133, 0], 0), []), none],
  [none, some ((.ifCond .eq 20, 3, [], 0), []), none, none, some ((.aload_n 0, 1, [], 0), []), some ((.iload_n 1, 1, [], 0), []), some ((.invokevirtual 203, 3, [0, 156, 2, 0, 0, 10, 12022, 12024, 4002, 7017, 12025], 0), []), none, none, some ((.aload_n 0, 1, [], 0), [false, true]), some ((.iload_n 2, 1, [], 0), []), some ((.invokevirtual 215, 3, [0, 164, 2, 0, 0, 10, 12045, 12047, 4003, 7017, 12048], 0), []), none, none, some ((.iand, 1, [], 0), [true, true, true]), some ((.invokestatic 210, 3, [1, 125, 1, 0, 0, 12037, 12038, 7017, 12039, 0], 0), [])],
  [none, none, some ((.goto 5, 3, [], 0), [true, true, true]), none, none, some ((.bipush (-2), 2, [], 0), [true, true, true]), none, some ((.ireturn, 1, [], 0), [true, true, true])]])
def kX10_voteOf : zMeth := (yX10_voteOf, cX10_voteOf, 4, (some .int), { frames := 2, cells := 0, slots := 0, locals := 44 }, [
  [some ((.iconst 0, 1, [], 0), []), some ((.istore_n 2, 1, [], 0), []), some ((.iconst 0, 1, [], 0), []), some ((.istore_n 3, 1, [], 0), []), some ((.iload_n 3, 1, [], 0), []), some ((.bipush 7, 2, [], 0), []), none, some ((.if_icmp .ge 46, 3, [], 0), []), none, none, some ((.iload_n 2, 1, [], 0), []), some ((.iconst 2, 1, [], 0), []), some ((.aload_n 0, 1, [], 0), []), some ((.iload_n 1, 1, [], 0), []), some ((.invokevirtual 203, 3, [0, 156, 2, 0, 0, 10, 12022, 12024, 4002, 7017, 12025], 0), []), none],
  [none, some ((.aload_n 0, 1, [], 0), [false, false, true]), some ((.iload_n 3, 1, [], 0), []), some ((.invokevirtual 215, 3, [0, 164, 2, 0, 0, 10, 12045, 12047, 4003, 7017, 12048], 0), []), none, none, some ((.iand, 1, [], 0), [false, false, true]), some ((.invokestatic 210, 3, [1, 125, 1, 0, 0, 12037, 12038, 7017, 12039, 0], 0), []), none, none, some ((.imul, 1, [], 0), [false, false, true]), some ((.aload_n 0, 1, [], 0), []), some ((.iload_n 3, 1, [], 0), []), some ((.invokevirtual 215, 3, [0, 164, 2, 0, 0, 10, 12045, 12047, 4003, 7017, 12048], 0), []), none, none],
  [some ((.invokestatic 210, 3, [1, 125, 1, 0, 0, 12037, 12038, 7017, 12039, 0], 0), [false, false, true]), none, none, some ((.if_icmp .le 9, 3, [], 0), [false, false, true]), none, none, some ((.iconst 1, 1, [], 0), []), some ((.iload_n 3, 1, [], 0), []), some ((.ishl, 1, [], 0), []), some ((.goto 4, 3, [], 0), []), none, none, some ((.iconst 0, 1, [], 0), []), some ((.ior, 1, [], 0), [false, false, true]), some ((.istore_n 2, 1, [], 0), []), some ((.iinc 3 1, 3, [], 0), [])],
  [none, none, some ((.goto (-46), 3, [], 0), []), none, none, some ((.iload_n 2, 1, [], 0), []), some ((.ireturn, 1, [], 0), [])]])
def kX10_vote : zMeth := (yX10_vote, cX10_vote, 2, (some .int), { frames := 3, cells := 0, slots := 0, locals := 67 }, [
  [some ((.aload_n 0, 1, [], 0), []), some ((.iload_n 1, 1, [], 0), []), some ((.invokevirtual 200, 3, [0, 155, 2, 0, 0, 10, 12014, 12016, 4001, 7017, 12017], 0), []), none, none, some ((.ifCond .eq 11, 3, [], 0), []), none, none, some ((.aload_n 0, 1, [], 0), []), some ((.iload_n 1, 1, [], 0), []), some ((.invokevirtual 218, 3, [0, 166, 2, 0, 0, 10, 12053, 12055, 4004, 7017, 12056], 0), []), none, none, some ((.goto 5, 3, [], 0), [true, true]), none, none],
  [some ((.bipush (-2), 2, [], 0), []), none, some ((.ireturn, 1, [], 0), [true, true])]])
def kX10_strays : zMeth := (yX10_strays, cX10_strays, 5, (some .int), { frames := 3, cells := 0, slots := 0, locals := 67 }, [
  [some ((.aload_n 0, 1, [], 0), []), some ((.iload_n 1, 1, [], 0), []), some ((.invokevirtual 200, 3, [0, 155, 2, 0, 0, 10, 12014, 12016, 4001, 7017, 12017], 0), []), none, none, some ((.ifCond .ne 6, 3, [], 0), []), none, none, some ((.bipush (-2), 2, [], 0), []), none, some ((.ireturn, 1, [], 0), []), some ((.aload_n 0, 1, [], 0), []), some ((.iload_n 1, 1, [], 0), []), some ((.invokevirtual 218, 3, [0, 166, 2, 0, 0, 10, 12053, 12055, 4004, 7017, 12056], 0), []), none, none],
  [some ((.istore_n 2, 1, [], 0), []), some ((.iconst 0, 1, [], 0), []), some ((.istore_n 3, 1, [], 0), []), some ((.iconst 0, 1, [], 0), []), some ((.istore 4, 2, [], 0), []), none, some ((.iload 4, 2, [], 0), []), none, some ((.aload_n 0, 1, [], 0), []), some ((.getfield 9, 3, [10, 0, 10217], 0), []), none, none, some ((.iconst 0, 1, [], 0), []), some ((.iaload, 1, [], 0), []), some ((.if_icmp .ge 43, 3, [], 0), []), none],
  [none, some ((.iload_n 3, 1, [], 0), []), some ((.iload_n 2, 1, [], 0), []), some ((.aload_n 0, 1, [], 0), []), some ((.iload 4, 2, [], 0), []), none, some ((.invokevirtual 169, 3, [0, 153, 2, 0, 0, 10, 11222, 11224, 3014, 7017, 11225], 0), []), none, none, some ((.invokestatic 143, 3, [1, 124, 2, 0, 0, 11195, 11196, 7017, 11197, 0], 0), [false, false, false, true]), none, none, some ((.aload_n 0, 1, [], 0), [false, false, false, true]), some ((.iload_n 1, 1, [], 0), []), some ((.invokevirtual 203, 3, [0, 156, 2, 0, 0, 10, 12022, 12024, 4002, 7017, 12025], 0), []), none],
  [none, some ((.iload 4, 2, [], 0), [false, false, false, true]), none, some ((.invokestatic 143, 3, [1, 124, 2, 0, 0, 11195, 11196, 7017, 11197, 0], 0), []), none, none, some ((.if_icmp .eq 7, 3, [], 0), [false, false, false, true]), none, none, some ((.iconst 1, 1, [], 0), []), some ((.goto 4, 3, [], 0), []), none, none, some ((.iconst 0, 1, [], 0), []), some ((.invokestatic 206, 3, [1, 126, 1, 0, 0, 12030, 12031, 7017, 12032, 0], 0), [false, false, false, true]), none],
  [none, some ((.iadd, 1, [], 0), [false, false, false, true]), some ((.istore_n 3, 1, [], 0), []), some ((.iinc 4 1, 3, [], 0), []), none, none, some ((.goto (-48), 3, [], 0), []), none, none, some ((.iload_n 3, 1, [], 0), []), some ((.ireturn, 1, [], 0), [])]])
def kX10_next_ : zMeth := (yX10_next_, cX10_next_, 4, (some .int), { frames := 2, cells := 0, slots := 0, locals := 46 }, [
  [some ((.aload_n 0, 1, [], 0), []), some ((.iload_n 1, 1, [], 0), []), some ((.invokevirtual 200, 3, [0, 155, 2, 0, 0, 10, 12014, 12016, 4001, 7017, 12017], 0), []), none, none, some ((.ifCond .eq 11, 3, [], 0), []), none, none, some ((.aload_n 0, 1, [], 0), []), some ((.iload_n 2, 1, [], 0), []), some ((.invokevirtual 196, 3, [0, 154, 2, 0, 0, 10, 12002, 12004, 4000, 7017, 12005], 0), []), none, none, some ((.ifCond .ne 6, 3, [], 0), []), none, none],
  [some ((.bipush (-2), 2, [], 0), [true, true, true]), none, some ((.ireturn, 1, [], 0), []), some ((.iload_n 2, 1, [], 0), []), some ((.istore_n 3, 1, [], 0), []), some ((.iload_n 3, 1, [], 0), [false, false, true]), some ((.aload_n 0, 1, [], 0), []), some ((.getfield 9, 3, [10, 0, 10217], 0), []), none, none, some ((.iconst 0, 1, [], 0), []), some ((.iaload, 1, [], 0), []), some ((.if_icmp .ge 23, 3, [], 0), []), none, none, some ((.aload_n 0, 1, [], 0), [])],
  [some ((.iload_n 1, 1, [], 0), []), some ((.invokevirtual 203, 3, [0, 156, 2, 0, 0, 10, 12022, 12024, 4002, 7017, 12025], 0), []), none, none, some ((.iload_n 3, 1, [], 0), [false, false, true]), some ((.invokestatic 143, 3, [1, 124, 2, 0, 0, 11195, 11196, 7017, 11197, 0], 0), []), none, none, some ((.ifCond .eq 5, 3, [], 0), [false, false, true]), none, none, some ((.iload_n 3, 1, [], 0), []), some ((.ireturn, 1, [], 0), []), some ((.iinc 3 1, 3, [], 0), []), none, none],
  [some ((.goto (-27), 3, [], 0), []), none, none, some ((.iconst (-1), 1, [], 0), []), some ((.ireturn, 1, [], 0), [])]])
def kX10_rest : zMeth := (yX10_rest, cX10_rest, 5, (some .int), { frames := 2, cells := 0, slots := 0, locals := 46 }, [
  [some ((.aload_n 0, 1, [], 0), []), some ((.iload_n 1, 1, [], 0), []), some ((.invokevirtual 200, 3, [0, 155, 2, 0, 0, 10, 12014, 12016, 4001, 7017, 12017], 0), []), none, none, some ((.ifCond .ne 6, 3, [], 0), []), none, none, some ((.bipush (-2), 2, [], 0), []), none, some ((.ireturn, 1, [], 0), []), some ((.iconst 0, 1, [], 0), []), some ((.istore_n 2, 1, [], 0), []), some ((.iconst 0, 1, [], 0), []), some ((.istore_n 3, 1, [], 0), []), some ((.iconst 0, 1, [], 0), [])],
  [some ((.istore 4, 2, [], 0), []), none, some ((.iload 4, 2, [], 0), []), none, some ((.aload_n 0, 1, [], 0), []), some ((.getfield 9, 3, [10, 0, 10217], 0), []), none, none, some ((.iconst 0, 1, [], 0), []), some ((.iaload, 1, [], 0), []), some ((.if_icmp .ge 36, 3, [], 0), []), none, none, some ((.aload_n 0, 1, [], 0), []), some ((.iload_n 1, 1, [], 0), []), some ((.invokevirtual 203, 3, [0, 156, 2, 0, 0, 10, 12022, 12024, 4002, 7017, 12025], 0), [])],
  [none, none, some ((.iload 4, 2, [], 0), []), none, some ((.invokestatic 143, 3, [1, 124, 2, 0, 0, 11195, 11196, 7017, 11197, 0], 0), []), none, none, some ((.ifCond .eq 7, 3, [], 0), []), none, none, some ((.iconst 0, 1, [], 0), []), some ((.goto 6, 3, [], 0), []), none, none, some ((.iload_n 3, 1, [], 0), []), some ((.iconst 1, 1, [], 0), [])],
  [some ((.iadd, 1, [], 0), []), some ((.istore_n 3, 1, [], 0), [false, false, false, true]), some ((.iload_n 2, 1, [], 0), []), some ((.iload_n 3, 1, [], 0), []), some ((.invokestatic 221, 3, [1, 236, 2, 0, 0, 12069, 9184, 7016, 9185, 0], 0), []), none, none, some ((.istore_n 2, 1, [], 0), [false, false, true]), some ((.iinc 4 1, 3, [], 0), []), none, none, some ((.goto (-41), 3, [], 0), []), none, none, some ((.iload_n 2, 1, [], 0), []), some ((.ireturn, 1, [], 0), [])]])
def kX10_feastDays : zMeth := (yX10_feastDays, cX10_feastDays, 2, (some .int), { frames := 1, cells := 0, slots := 0, locals := 21 }, [
  [some ((.iload_n 1, 1, [], 0), []), some ((.iconst 0, 1, [], 0), []), some ((.invokestatic 143, 3, [1, 124, 2, 0, 0, 11195, 11196, 7017, 11197, 0], 0), []), none, none, some ((.ifCond .eq 13, 3, [], 0), []), none, none, some ((.aload_n 0, 1, [], 0), []), some ((.getfield 9, 3, [10, 0, 10217], 0), []), none, none, some ((.bipush 6, 2, [], 0), []), none, some ((.iaload, 1, [], 0), []), some ((.goto 4, 3, [], 0), [])],
  [none, none, some ((.iconst 0, 1, [], 0), []), some ((.iload_n 1, 1, [], 0), []), some ((.iconst 1, 1, [], 0), []), some ((.invokestatic 143, 3, [1, 124, 2, 0, 0, 11195, 11196, 7017, 11197, 0], 0), []), none, none, some ((.ifCond .eq 13, 3, [], 0), [false, true]), none, none, some ((.aload_n 0, 1, [], 0), []), some ((.getfield 9, 3, [10, 0, 10217], 0), []), none, none, some ((.bipush 7, 2, [], 0), [])],
  [none, some ((.iaload, 1, [], 0), []), some ((.goto 4, 3, [], 0), []), none, none, some ((.iconst 0, 1, [], 0), []), some ((.ior, 1, [], 0), [true, true]), some ((.ireturn, 1, [], 0), [])]])
def kX10_patternCost : zMeth := (yX10_patternCost, cX10_patternCost, 4, (some .int), { frames := 1, cells := 0, slots := 0, locals := 21 }, [
  [some ((.iload_n 0, 1, [], 0), []), some ((.bipush 127, 2, [], 0), []), none, some ((.if_icmp .ne 5, 3, [], 0), []), none, none, some ((.iconst 1, 1, [], 0), []), some ((.ireturn, 1, [], 0), []), some ((.iconst 0, 1, [], 0), []), some ((.istore_n 1, 1, [], 0), []), some ((.iconst 0, 1, [], 0), []), some ((.istore_n 2, 1, [], 0), []), some ((.iconst 0, 1, [], 0), []), some ((.istore_n 3, 1, [], 0), []), some ((.iload_n 3, 1, [], 0), []), some ((.bipush 7, 2, [], 0), [])],
  [none, some ((.if_icmp .gt 48, 3, [], 0), []), none, none, some ((.iload_n 3, 1, [], 0), []), some ((.bipush 7, 2, [], 0), []), none, some ((.if_icmp .ge 17, 3, [], 0), []), none, none, some ((.iload_n 0, 1, [], 0), []), some ((.iload_n 3, 1, [], 0), []), some ((.invokestatic 143, 3, [1, 124, 2, 0, 0, 11195, 11196, 7017, 11197, 0], 0), []), none, none, some ((.ifCond .eq 9, 3, [], 0), [])],
  [none, none, some ((.iload_n 2, 1, [], 0), []), some ((.iconst 1, 1, [], 0), []), some ((.iadd, 1, [], 0), []), some ((.goto 4, 3, [], 0), []), none, none, some ((.iconst 0, 1, [], 0), [false, false, true]), some ((.istore_n 2, 1, [], 0), [false, false, true]), some ((.iload_n 1, 1, [], 0), []), some ((.iload_n 2, 1, [], 0), []), some ((.ifCond .le 12, 3, [], 0), []), none, none, some ((.iload_n 2, 1, [], 0), [])],
  [some ((.iconst 4, 1, [], 0), []), some ((.if_icmp .ge 7, 3, [], 0), []), none, none, some ((.iconst 1, 1, [], 0), []), some ((.goto 4, 3, [], 0), []), none, none, some ((.iconst 0, 1, [], 0), [false, true]), some ((.iadd, 1, [], 0), [false, true]), some ((.istore_n 1, 1, [], 0), []), some ((.iinc 3 1, 3, [], 0), []), none, none, some ((.goto (-48), 3, [], 0), []), none],
  [none, some ((.iload_n 1, 1, [], 0), []), some ((.ireturn, 1, [], 0), [])]])
def kX10_modeCost : zMeth := (yX10_modeCost, cX10_modeCost, 4, (some .int), { frames := 1, cells := 0, slots := 0, locals := 22 }, [
  [some ((.iload_n 1, 1, [], 0), []), some ((.iconst 0, 1, [], 0), []), some ((.invokestatic 143, 3, [1, 124, 2, 0, 0, 11195, 11196, 7017, 11197, 0], 0), []), none, none, some ((.istore_n 2, 1, [], 0), []), some ((.iload_n 1, 1, [], 0), []), some ((.iconst 1, 1, [], 0), []), some ((.invokestatic 143, 3, [1, 124, 2, 0, 0, 11195, 11196, 7017, 11197, 0], 0), []), none, none, some ((.istore_n 3, 1, [], 0), [false, true]), some ((.aload_n 0, 1, [], 0), []), some ((.getfield 224, 3, [10, 18, 10235], 0), []), none, none],
  [some ((.ifCond .le 7, 3, [], 0), []), none, none, some ((.iload_n 2, 1, [], 0), []), some ((.ifCond .eq 14, 3, [], 0), []), none, none, some ((.aload_n 0, 1, [], 0), [false, true]), some ((.getfield 227, 3, [10, 19, 10236], 0), []), none, none, some ((.ifCond .le 11, 3, [], 0), []), none, none, some ((.iload_n 3, 1, [], 0), []), some ((.ifCond .ne 7, 3, [], 0), [])],
  [none, none, some ((.sipush 1000, 3, [], 0), [true, true, true, true]), none, none, some ((.ireturn, 1, [], 0), []), some ((.iload_n 2, 1, [], 0), [false, true]), some ((.invokestatic 206, 3, [1, 126, 1, 0, 0, 12030, 12031, 7017, 12032, 0], 0), []), none, none, some ((.iload_n 3, 1, [], 0), [false, true, true]), some ((.invokestatic 206, 3, [1, 126, 1, 0, 0, 12030, 12031, 7017, 12032, 0], 0), []), none, none, some ((.iadd, 1, [], 0), [false, true, true, true]), some ((.aload_n 0, 1, [], 0), [])],
  [some ((.getfield 224, 3, [10, 18, 10235], 0), []), none, none, some ((.invokestatic 210, 3, [1, 125, 1, 0, 0, 12037, 12038, 7017, 12039, 0], 0), []), none, none, some ((.iadd, 1, [], 0), [false, true, true, true]), some ((.aload_n 0, 1, [], 0), []), some ((.getfield 227, 3, [10, 19, 10236], 0), []), none, none, some ((.invokestatic 210, 3, [1, 125, 1, 0, 0, 12037, 12038, 7017, 12039, 0], 0), []), none, none, some ((.iadd, 1, [], 0), [true, true, true, true]), some ((.ireturn, 1, [], 0), [])]])
def kX10_bareCost : zMeth := (yX10_bareCost, cX10_bareCost, 3, (some .int), { frames := 2, cells := 0, slots := 0, locals := 42 }, [
  [some ((.aload_n 0, 1, [], 0), []), some ((.getfield 230, 3, [10, 17, 10234], 0), []), none, none, some ((.iload_n 2, 1, [], 0), []), some ((.invokestatic 143, 3, [1, 124, 2, 0, 0, 11195, 11196, 7017, 11197, 0], 0), []), none, none, some ((.ifCond .eq 18, 3, [], 0), []), none, none, some ((.aload_n 0, 1, [], 0), []), some ((.aload_n 0, 1, [], 0), []), some ((.getfield 227, 3, [10, 19, 10236], 0), []), none, none],
  [some ((.invokevirtual 233, 3, [0, 171, 2, 0, 0, 10, 12089, 12091, 4008, 7017, 12092], 0), []), none, none, some ((.iload_n 2, 1, [], 0), [true]), some ((.invokestatic 143, 3, [1, 124, 2, 0, 0, 11195, 11196, 7017, 11197, 0], 0), []), none, none, some ((.ifCond .eq 7, 3, [], 0), [true, false, true]), none, none, some ((.iconst 0, 1, [], 0), [true, true, true]), some ((.goto 18, 3, [], 0), []), none, none, some ((.iload_n 1, 1, [], 0), []), some ((.iconst 1, 1, [], 0), [])],
  [some ((.invokestatic 143, 3, [1, 124, 2, 0, 0, 11195, 11196, 7017, 11197, 0], 0), []), none, none, some ((.ifCond .eq 7, 3, [], 0), [true, true, true]), none, none, some ((.iconst 1, 1, [], 0), []), some ((.goto 6, 3, [], 0), []), none, none, some ((.sipush 1000, 3, [], 0), []), none, none, some ((.ireturn, 1, [], 0), [true, true, true])]])
def kX10_spanCost : zMeth := (yX10_spanCost, cX10_spanCost, 3, (some .int), { frames := 3, cells := 0, slots := 0, locals := 64 }, [
  [some ((.aload_n 0, 1, [], 0), []), some ((.getfield 230, 3, [10, 17, 10234], 0), []), none, none, some ((.iload_n 2, 1, [], 0), []), some ((.invokestatic 143, 3, [1, 124, 2, 0, 0, 11195, 11196, 7017, 11197, 0], 0), []), none, none, some ((.ifCond .eq 29, 3, [], 0), []), none, none, some ((.aload_n 0, 1, [], 0), []), some ((.aload_n 0, 1, [], 0), []), some ((.getfield 224, 3, [10, 18, 10235], 0), []), none, none],
  [some ((.invokevirtual 233, 3, [0, 171, 2, 0, 0, 10, 12089, 12091, 4008, 7017, 12092], 0), []), none, none, some ((.iload_n 2, 1, [], 0), []), some ((.invokestatic 143, 3, [1, 124, 2, 0, 0, 11195, 11196, 7017, 11197, 0], 0), []), none, none, some ((.ifCond .eq 12, 3, [], 0), []), none, none, some ((.aload_n 0, 1, [], 0), []), some ((.iload_n 1, 1, [], 0), []), some ((.iload_n 2, 1, [], 0), []), some ((.invokevirtual 236, 3, [0, 174, 3, 0, 0, 10, 12104, 12106, 4011, 7017, 12107], 0), []), none, none],
  [some ((.goto 4, 3, [], 0), [true, true, true]), none, none, some ((.iconst 0, 1, [], 0), []), some ((.ireturn, 1, [], 0), [true, true, true]), some ((.aload_n 0, 1, [], 0), []), some ((.aload_n 0, 1, [], 0), []), some ((.getfield 224, 3, [10, 18, 10235], 0), []), none, none, some ((.invokevirtual 233, 3, [0, 171, 2, 0, 0, 10, 12089, 12091, 4008, 7017, 12092], 0), []), none, none, some ((.iload_n 2, 1, [], 0), [true]), some ((.invokestatic 143, 3, [1, 124, 2, 0, 0, 11195, 11196, 7017, 11197, 0], 0), []), none],
  [none, some ((.ifCond .eq 7, 3, [], 0), [true, false, true]), none, none, some ((.iconst 0, 1, [], 0), []), some ((.goto 18, 3, [], 0), []), none, none, some ((.iload_n 1, 1, [], 0), []), some ((.iconst 0, 1, [], 0), []), some ((.invokestatic 143, 3, [1, 124, 2, 0, 0, 11195, 11196, 7017, 11197, 0], 0), []), none, none, some ((.ifCond .eq 7, 3, [], 0), [true, true, true]), none, none],
  [some ((.iconst 1, 1, [], 0), []), some ((.goto 6, 3, [], 0), []), none, none, some ((.sipush 1000, 3, [], 0), []), none, none, some ((.ireturn, 1, [], 0), [true, true, true])]])
def kX10_endsCost : zMeth := (yX10_endsCost, cX10_endsCost, 3, (some .int), { frames := 0, cells := 0, slots := 0, locals := 0 }, [
  [some ((.iload_n 1, 1, [], 0), []), some ((.ifCond .le 7, 3, [], 0), []), none, none, some ((.iconst 2, 1, [], 0), []), some ((.goto 4, 3, [], 0), []), none, none, some ((.iconst 0, 1, [], 0), []), some ((.iload_n 2, 1, [], 0), [false, true]), some ((.aload_n 0, 1, [], 0), []), some ((.getfield 9, 3, [10, 0, 10217], 0), []), none, none, some ((.iconst 0, 1, [], 0), []), some ((.iaload, 1, [], 0), [])],
  [some ((.iconst 1, 1, [], 0), []), some ((.isub, 1, [], 0), []), some ((.if_icmp .ge 7, 3, [], 0), []), none, none, some ((.iconst 2, 1, [], 0), []), some ((.goto 4, 3, [], 0), []), none, none, some ((.iconst 0, 1, [], 0), []), some ((.iadd, 1, [], 0), [true, true, true]), some ((.ireturn, 1, [], 0), [])]])
def kX10_goesOn : zMeth := (yX10_goesOn, cX10_goesOn, 7, (some .int), { frames := 4, cells := 0, slots := 0, locals := 86 }, [
  [some ((.iconst 0, 1, [], 0), []), some ((.istore 5, 2, [], 0), []), none, some ((.iload 5, 2, [], 0), []), none, some ((.bipush 7, 2, [], 0), []), none, some ((.if_icmp .ge 22, 3, [], 0), []), none, none, some ((.iload_n 2, 1, [], 0), []), some ((.iload_n 3, 1, [], 0), []), some ((.if_icmp .ne 17, 3, [], 0), []), none, none, some ((.aload_n 0, 1, [], 0), [])],
  [some ((.getfield 39, 3, [10, 24, 11001], 0), []), none, none, some ((.iload 5, 2, [], 0), []), none, some ((.iconst 0, 1, [], 0), []), some ((.iastore, 1, [], 0), []), some ((.iinc 5 1, 3, [], 0), []), none, none, some ((.goto (-23), 3, [], 0), []), none, none, some ((.aload_n 0, 1, [], 0), [false, false, false, false, false, true]), some ((.getfield 39, 3, [10, 24, 11001], 0), []), none],
  [none, some ((.aload_n 0, 1, [], 0), []), some ((.iload_n 3, 1, [], 0), []), some ((.invokevirtual 169, 3, [0, 153, 2, 0, 0, 10, 11222, 11224, 3014, 7017, 11225], 0), []), none, none, some ((.dup2, 1, [], 0), [false, false, false, false, false, true]), some ((.iaload, 1, [], 0), []), some ((.aload_n 0, 1, [], 0), []), some ((.iload_n 1, 1, [], 0), []), some ((.iload_n 3, 1, [], 0), []), some ((.invokevirtual 239, 3, [0, 175, 3, 0, 0, 10, 12112, 12114, 4013, 7017, 12115], 0), []), none, none, some ((.aload_n 0, 1, [], 0), [false, false, false, false, false, true]), some ((.iload_n 1, 1, [], 0), [])],
  [some ((.iload_n 3, 1, [], 0), []), some ((.invokevirtual 236, 3, [0, 174, 3, 0, 0, 10, 12104, 12106, 4011, 7017, 12107], 0), []), none, none, some ((.isub, 1, [], 0), [false, false, false, false, false, true]), some ((.iadd, 1, [], 0), []), some ((.iastore, 1, [], 0), []), some ((.aload_n 0, 1, [], 0), []), some ((.getfield 36, 3, [10, 23, 11000], 0), []), none, none, some ((.iconst 0, 1, [], 0), []), some ((.iconst 0, 1, [], 0), []), some ((.iastore, 1, [], 0), []), some ((.iconst 1, 1, [], 0), []), some ((.istore 5, 2, [], 0), [])],
  [none, some ((.iload 5, 2, [], 0), [false, false, false, false, false, false, true]), none, some ((.sipush 128, 3, [], 0), []), none, none, some ((.if_icmp .ge 43, 3, [], 0), []), none, none, some ((.iload 5, 2, [], 0), []), none, some ((.invokestatic 242, 3, [1, 234, 1, 0, 0, 12116, 8128, 7015, 8129, 0], 0), []), none, none, some ((.istore 6, 2, [], 0), [false, false, false, false, false, false, true]), none],
  [some ((.aload_n 0, 1, [], 0), []), some ((.getfield 36, 3, [10, 23, 11000], 0), []), none, none, some ((.iload 5, 2, [], 0), []), none, some ((.aload_n 0, 1, [], 0), []), some ((.getfield 36, 3, [10, 23, 11000], 0), []), none, none, some ((.iload 5, 2, [], 0), []), none, some ((.iload 5, 2, [], 0), []), none, some ((.iconst 1, 1, [], 0), []), some ((.isub, 1, [], 0), [])],
  [some ((.iand, 1, [], 0), []), some ((.iaload, 1, [], 0), []), some ((.aload_n 0, 1, [], 0), []), some ((.getfield 39, 3, [10, 24, 11001], 0), []), none, none, some ((.iload 6, 2, [], 0), []), none, some ((.iaload, 1, [], 0), []), some ((.iadd, 1, [], 0), []), some ((.iastore, 1, [], 0), []), some ((.iinc 5 1, 3, [], 0), []), none, none, some ((.goto (-45), 3, [], 0), []), none],
  [none, some ((.iload_n 2, 1, [], 0), []), some ((.iload_n 3, 1, [], 0), []), some ((.if_icmp .ne 7, 3, [], 0), []), none, none, some ((.iconst 0, 1, [], 0), []), some ((.goto 5, 3, [], 0), []), none, none, some ((.iload 4, 2, [], 0), []), none, some ((.aload_n 0, 1, [], 0), [false, false, true, false, true, true, true]), some ((.iload_n 1, 1, [], 0), []), some ((.iload_n 3, 1, [], 0), []), some ((.invokevirtual 236, 3, [0, 174, 3, 0, 0, 10, 12104, 12106, 4011, 7017, 12107], 0), [])],
  [none, none, some ((.iadd, 1, [], 0), [true, true, true, true, true, true, true]), some ((.ireturn, 1, [], 0), [])]])
def kX10_place : zMeth := (yX10_place, cX10_place, 2, (some .int), { frames := 0, cells := 0, slots := 0, locals := 0 }, [
  [some ((.iload_n 0, 1, [], 0), []), some ((.bipush 29, 2, [], 0), []), none, some ((.imul, 1, [], 0), []), some ((.iload_n 1, 1, [], 0), []), some ((.iadd, 1, [], 0), []), some ((.ireturn, 1, [], 0), [])]])
def kX10_weighs : zMeth := (yX10_weighs, cX10_weighs, 12, none, { frames := 5, cells := 0, slots := 0, locals := 112 }, [
  [some ((.aload_n 0, 1, [], 0), []), some ((.getfield 9, 3, [10, 0, 10217], 0), []), none, none, some ((.iconst 0, 1, [], 0), []), some ((.iaload, 1, [], 0), []), some ((.istore_n 2, 1, [], 0), []), some ((.aload_n 0, 1, [], 0), []), some ((.getfield 26, 3, [10, 20, 10237], 0), []), none, none, some ((.iload_n 1, 1, [], 0), []), some ((.iload_n 2, 1, [], 0), []), some ((.invokestatic 247, 3, [1, 178, 2, 0, 0, 12101, 12102, 7017, 12103, 0], 0), []), none, none],
  [some ((.iconst 0, 1, [], 0), []), some ((.iastore, 1, [], 0), []), some ((.aload_n 0, 1, [], 0), []), some ((.getfield 29, 3, [10, 21, 10238], 0), []), none, none, some ((.iload_n 1, 1, [], 0), []), some ((.iload_n 2, 1, [], 0), []), some ((.invokestatic 247, 3, [1, 178, 2, 0, 0, 12101, 12102, 7017, 12103, 0], 0), []), none, none, some ((.lconst 1, 1, [], 0), []), some ((.lastore, 1, [], 0), []), some ((.iload_n 2, 1, [], 0), []), some ((.iconst 1, 1, [], 0), []), some ((.isub, 1, [], 0), [])],
  [some ((.istore_n 3, 1, [], 0), []), some ((.iload_n 3, 1, [], 0), [false, false, false, false, true, true, true, true, true, true, true, true]), some ((.ifCond .lt 222, 3, [], 0), []), none, none, some ((.aload_n 0, 1, [], 0), []), some ((.iload_n 1, 1, [], 0), []), some ((.iload_n 3, 1, [], 0), []), some ((.invokevirtual 236, 3, [0, 174, 3, 0, 0, 10, 12104, 12106, 4011, 7017, 12107], 0), []), none, none, some ((.aload_n 0, 1, [], 0), [false, false, false, false, true, true, true, true, true, true, true, true]), some ((.getfield 26, 3, [10, 20, 10237], 0), []), none, none, some ((.iload_n 1, 1, [], 0), [])],
  [some ((.iload_n 3, 1, [], 0), []), some ((.iconst 1, 1, [], 0), []), some ((.iadd, 1, [], 0), []), some ((.invokestatic 247, 3, [1, 178, 2, 0, 0, 12101, 12102, 7017, 12103, 0], 0), []), none, none, some ((.iaload, 1, [], 0), [false, false, false, false, true, true, true, true, true, true, true, true]), some ((.iadd, 1, [], 0), []), some ((.istore 4, 2, [], 0), []), none, some ((.aload_n 0, 1, [], 0), []), some ((.getfield 29, 3, [10, 21, 10238], 0), []), none, none, some ((.iload_n 1, 1, [], 0), []), some ((.iload_n 3, 1, [], 0), [])],
  [some ((.iconst 1, 1, [], 0), []), some ((.iadd, 1, [], 0), []), some ((.invokestatic 247, 3, [1, 178, 2, 0, 0, 12101, 12102, 7017, 12103, 0], 0), []), none, none, some ((.laload, 1, [], 0), [false, false, false, false, false, true, true, true, true, true, true, true]), some ((.lstore 5, 2, [], 0), []), none, some ((.iconst 0, 1, [], 0), []), some ((.istore 7, 2, [], 0), []), none, some ((.iload_n 3, 1, [], 0), []), some ((.istore 8, 2, [], 0), []), none, some ((.iload 8, 2, [], 0), [false, false, false, false, false, false, true, false, false, true, true, true]), none],
  [some ((.iload_n 2, 1, [], 0), []), some ((.if_icmp .ge 127, 3, [], 0), []), none, none, some ((.aload_n 0, 1, [], 0), []), some ((.iload_n 1, 1, [], 0), []), some ((.iload_n 3, 1, [], 0), []), some ((.iload 8, 2, [], 0), []), none, some ((.iload 7, 2, [], 0), []), none, some ((.invokevirtual 250, 3, [0, 177, 5, 0, 0, 10, 12108, 12110, 4012, 7017, 12111], 0), []), none, none, some ((.istore 7, 2, [], 0), [false, false, false, false, false, false, true, true, false, true, true, true]), none],
  [some ((.iload 7, 2, [], 0), []), none, some ((.aload_n 0, 1, [], 0), []), some ((.iload_n 3, 1, [], 0), []), some ((.iload 8, 2, [], 0), []), none, some ((.invokevirtual 254, 3, [0, 176, 3, 0, 0, 10, 12117, 12119, 4014, 7017, 12120], 0), []), none, none, some ((.iadd, 1, [], 0), [false, false, false, false, false, false, true, false, false, true, true, true]), some ((.aload_n 0, 1, [], 0), []), some ((.getfield 26, 3, [10, 20, 10237], 0), []), none, none, some ((.iload_n 1, 1, [], 0), []), some ((.iload 8, 2, [], 0), [])],
  [none, some ((.iconst 1, 1, [], 0), []), some ((.iadd, 1, [], 0), []), some ((.invokestatic 247, 3, [1, 178, 2, 0, 0, 12101, 12102, 7017, 12103, 0], 0), []), none, none, some ((.iaload, 1, [], 0), [false, false, false, false, false, false, true, false, false, true, true, true]), some ((.iadd, 1, [], 0), []), some ((.istore 9, 2, [], 0), []), none, some ((.iconst 1, 1, [], 0), []), some ((.istore 10, 2, [], 0), []), none, some ((.iload 10, 2, [], 0), [false, false, false, false, false, false, true, false, false, false, false, true]), none, some ((.sipush 128, 3, [], 0), [])],
  [none, none, some ((.if_icmp .ge 72, 3, [], 0), []), none, none, some ((.iload 9, 2, [], 0), []), none, some ((.aload_n 0, 1, [], 0), []), some ((.getfield 36, 3, [10, 23, 11000], 0), []), none, none, some ((.iload 10, 2, [], 0), []), none, some ((.iaload, 1, [], 0), []), some ((.iadd, 1, [], 0), []), some ((.aload_n 0, 1, [], 0), [])],
  [some ((.getfield 42, 3, [10, 25, 11002], 0), []), none, none, some ((.iload 10, 2, [], 0), []), none, some ((.iaload, 1, [], 0), []), some ((.iadd, 1, [], 0), []), some ((.istore 11, 2, [], 0), []), none, some ((.iload 11, 2, [], 0), []), none, some ((.iload 4, 2, [], 0), []), none, some ((.if_icmp .ge 10, 3, [], 0), []), none, none],
  [some ((.iload 11, 2, [], 0), []), none, some ((.istore 4, 2, [], 0), []), none, some ((.lconst 0, 1, [], 0), []), some ((.lstore 5, 2, [], 0), []), none, some ((.lload 5, 2, [], 0), [false, false, false, false, false, false, true]), none, some ((.iload 11, 2, [], 0), []), none, some ((.iload 4, 2, [], 0), []), none, some ((.if_icmp .ne 19, 3, [], 0), []), none, none],
  [some ((.aload_n 0, 1, [], 0), []), some ((.getfield 29, 3, [10, 21, 10238], 0), []), none, none, some ((.iload_n 1, 1, [], 0), []), some ((.iload 8, 2, [], 0), []), none, some ((.iconst 1, 1, [], 0), []), some ((.iadd, 1, [], 0), []), some ((.invokestatic 247, 3, [1, 178, 2, 0, 0, 12101, 12102, 7017, 12103, 0], 0), []), none, none, some ((.laload, 1, [], 0), [false, false, false, false, false, true, true, false, false, false, false, true]), some ((.goto 4, 3, [], 0), []), none, none],
  [some ((.lconst 0, 1, [], 0), []), some ((.ladd, 1, [], 0), [false, false, false, false, false, true, true, false, false, false, false, true]), some ((.lstore 5, 2, [], 0), []), none, some ((.iinc 10 1, 3, [], 0), []), none, none, some ((.goto (-74), 3, [], 0), []), none, none, some ((.iinc 8 1, 3, [], 0), []), none, none, some ((.goto (-127), 3, [], 0), []), none, none],
  [some ((.aload_n 0, 1, [], 0), []), some ((.getfield 26, 3, [10, 20, 10237], 0), []), none, none, some ((.iload_n 1, 1, [], 0), []), some ((.iload_n 3, 1, [], 0), []), some ((.invokestatic 247, 3, [1, 178, 2, 0, 0, 12101, 12102, 7017, 12103, 0], 0), []), none, none, some ((.sipush 1000, 3, [], 0), [false, false, false, false, false, false, true, true, true, true, true, true]), none, none, some ((.iload 4, 2, [], 0), []), none, some ((.invokestatic 92, 3, [1, 237, 2, 0, 0, 11158, 8132, 7016, 8133, 0], 0), []), none],
  [none, some ((.iastore, 1, [], 0), [false, false, false, false, false, false, true, true, true, true, true, true]), some ((.aload_n 0, 1, [], 0), []), some ((.getfield 29, 3, [10, 21, 10238], 0), []), none, none, some ((.iload_n 1, 1, [], 0), []), some ((.iload_n 3, 1, [], 0), []), some ((.invokestatic 247, 3, [1, 178, 2, 0, 0, 12101, 12102, 7017, 12103, 0], 0), []), none, none, some ((.iload 4, 2, [], 0), [false, false, false, false, false, false, true, true, true, true, true, true]), none, some ((.sipush 1000, 3, [], 0), []), none, none],
  [some ((.if_icmp .ge 8, 3, [], 0), []), none, none, some ((.lload 5, 2, [], 0), []), none, some ((.goto 4, 3, [], 0), []), none, none, some ((.lconst 0, 1, [], 0), []), some ((.lastore, 1, [], 0), [false, false, false, false, true, true, true, true, true, true, true, true]), some ((.iinc 3 (-1), 3, [], 0), []), none, none, some ((.goto (-220), 3, [], 0), []), none, none],
  [some ((.return_, 1, [], 0), [])]])
def kX10_begins_ : zMeth := (yX10_begins_, cX10_begins_, 3, none, { frames := 2, cells := 0, slots := 0, locals := 44 }, [
  [some ((.aload_n 0, 1, [], 0), []), some ((.iload_n 1, 1, [], 0), []), some ((.putfield 230, 3, [10, 17, 10234], 0), []), none, none, some ((.iconst 1, 1, [], 0), []), some ((.istore_n 2, 1, [], 0), []), some ((.iload_n 2, 1, [], 0), [false, true]), some ((.sipush 128, 3, [], 0), []), none, none, some ((.if_icmp .ge 19, 3, [], 0), []), none, none, some ((.aload_n 0, 1, [], 0), []), some ((.getfield 42, 3, [10, 25, 11002], 0), [])],
  [none, none, some ((.iload_n 2, 1, [], 0), []), some ((.iload_n 2, 1, [], 0), []), some ((.invokestatic 257, 3, [1, 172, 1, 0, 0, 12082, 12083, 7017, 12084, 0], 0), []), none, none, some ((.iastore, 1, [], 0), [false, true]), some ((.iinc 2 1, 3, [], 0), []), none, none, some ((.goto (-20), 3, [], 0), []), none, none, some ((.return_, 1, [], 0), [])]])
def kX10_canStand : zMeth := (yX10_canStand, cX10_canStand, 1, (some .boolean), { frames := 2, cells := 0, slots := 0, locals := 42 }, [
  [some ((.aload_n 0, 1, [], 0), []), some ((.aload_n 0, 1, [], 0), []), some ((.getfield 227, 3, [10, 19, 10236], 0), []), none, none, some ((.invokevirtual 233, 3, [0, 171, 2, 0, 0, 10, 12089, 12091, 4008, 7017, 12092], 0), []), none, none, some ((.aload_n 0, 1, [], 0), []), some ((.getfield 230, 3, [10, 17, 10234], 0), []), none, none, some ((.iconst (-1), 1, [], 0), []), some ((.ixor, 1, [], 0), []), some ((.iand, 1, [], 0), []), some ((.ifCond .ne 37, 3, [], 0), [])],
  [none, none, some ((.aload_n 0, 1, [], 0), []), some ((.getfield 224, 3, [10, 18, 10235], 0), []), none, none, some ((.iconst 1, 1, [], 0), []), some ((.aload_n 0, 1, [], 0), []), some ((.getfield 9, 3, [10, 0, 10217], 0), []), none, none, some ((.iconst 2, 1, [], 0), []), some ((.iaload, 1, [], 0), []), some ((.ishl, 1, [], 0), []), some ((.if_icmp .ge 22, 3, [], 0), []), none],
  [none, some ((.aload_n 0, 1, [], 0), []), some ((.getfield 227, 3, [10, 19, 10236], 0), []), none, none, some ((.iconst 1, 1, [], 0), []), some ((.aload_n 0, 1, [], 0), []), some ((.getfield 9, 3, [10, 0, 10217], 0), []), none, none, some ((.iconst 2, 1, [], 0), []), some ((.iaload, 1, [], 0), []), some ((.ishl, 1, [], 0), []), some ((.if_icmp .ge 7, 3, [], 0), []), none, none],
  [some ((.iconst 1, 1, [], 0), []), some ((.goto 4, 3, [], 0), []), none, none, some ((.iconst 0, 1, [], 0), [true]), some ((.ireturn, 1, [], 0), [true])]])
def kX10_solves : zMeth := (yX10_solves, cX10_solves, 6, (some .int), { frames := 6, cells := 0, slots := 0, locals := 143 }, [
  [some ((.aload_n 0, 1, [], 0), []), some ((.iload_n 1, 1, [], 0), []), some ((.invokevirtual 260, 3, [0, 180, 2, 0, 0, 10, 12078, 12080, 4006, 7017, 12081], 0), []), none, none, some ((.aload_n 0, 1, [], 0), []), some ((.sipush 1000, 3, [], 0), []), none, none, some ((.putfield 262, 3, [10, 26, 11003], 0), []), none, none, some ((.aload_n 0, 1, [], 0), []), some ((.lconst 0, 1, [], 0), []), some ((.putfield 265, 3, [10, 27, 11004], 0), []), none],
  [none, some ((.aload_n 0, 1, [], 0), []), some ((.iconst 0, 1, [], 0), []), some ((.putfield 269, 3, [10, 28, 11005], 0), []), none, none, some ((.aload_n 0, 1, [], 0), []), some ((.iconst 0, 1, [], 0), []), some ((.putfield 272, 3, [10, 29, 11006], 0), []), none, none, some ((.iload_n 1, 1, [], 0), []), some ((.ifCond .ne 51, 3, [], 0), []), none, none, some ((.aload_n 0, 1, [], 0), [])],
  [some ((.iconst 1, 1, [], 0), []), some ((.putfield 262, 3, [10, 26, 11003], 0), []), none, none, some ((.aload_n 0, 1, [], 0), []), some ((.lconst 1, 1, [], 0), []), some ((.putfield 265, 3, [10, 27, 11004], 0), []), none, none, some ((.iconst 0, 1, [], 0), []), some ((.istore_n 3, 1, [], 0), []), some ((.iload_n 3, 1, [], 0), [false, true, true]), some ((.bipush 7, 2, [], 0), []), none, some ((.if_icmp .ge 31, 3, [], 0), []), none],
  [none, some ((.aload_n 0, 1, [], 0), []), some ((.dup, 1, [], 0), []), some ((.getfield 265, 3, [10, 27, 11004], 0), []), none, none, some ((.aload_n 0, 1, [], 0), []), some ((.iload_n 3, 1, [], 0), []), some ((.invokevirtual 215, 3, [0, 164, 2, 0, 0, 10, 12045, 12047, 4003, 7017, 12048], 0), []), none, none, some ((.ifCond .ne 7, 3, [], 0), [false, true, true]), none, none, some ((.lconst 1, 1, [], 0), []), some ((.goto 4, 3, [], 0), [])],
  [none, none, some ((.lconst 0, 1, [], 0), []), some ((.ladd, 1, [], 0), [false, true, true]), some ((.putfield 265, 3, [10, 27, 11004], 0), []), none, none, some ((.iinc 3 1, 3, [], 0), []), none, none, some ((.goto (-31), 3, [], 0), []), none, none, some ((.iconst 1, 1, [], 0), []), some ((.ireturn, 1, [], 0), []), some ((.iconst 0, 1, [], 0), [])],
  [some ((.istore_n 3, 1, [], 0), []), some ((.iload_n 3, 1, [], 0), [false, true, false, false, true, true]), some ((.iload_n 2, 1, [], 0), []), some ((.ifCond .eq 8, 3, [], 0), []), none, none, some ((.bipush 16, 2, [], 0), []), none, some ((.goto 4, 3, [], 0), []), none, none, some ((.iconst 1, 1, [], 0), []), some ((.if_icmp .ge 176, 3, [], 0), [false, true, false, false, true, true]), none, none, some ((.aload_n 0, 1, [], 0), [])],
  [some ((.iload_n 3, 1, [], 0), []), some ((.iconst 4, 1, [], 0), []), some ((.idiv, 1, [], 0), []), some ((.putfield 224, 3, [10, 18, 10235], 0), []), none, none, some ((.aload_n 0, 1, [], 0), []), some ((.iload_n 3, 1, [], 0), []), some ((.iconst 4, 1, [], 0), []), some ((.irem, 1, [], 0), []), some ((.putfield 227, 3, [10, 19, 10236], 0), []), none, none, some ((.iconst 0, 1, [], 0), []), some ((.istore 4, 2, [], 0), []), none],
  [some ((.iload 4, 2, [], 0), [false, true, false, false, false, true]), none, some ((.iconst 4, 1, [], 0), []), some ((.if_icmp .ge 147, 3, [], 0), []), none, none, some ((.aload_n 0, 1, [], 0), []), some ((.invokevirtual 275, 3, [0, 181, 1, 0, 0, 10, 12085, 12087, 4007, 7017, 12088], 0), []), none, none, some ((.ifCond .eq 140, 3, [], 0), [false, true, false, false, false, true]), none, none, some ((.aload_n 0, 1, [], 0), []), some ((.iload 4, 2, [], 0), []), none],
  [some ((.invokevirtual 278, 3, [0, 173, 2, 0, 0, 10, 12093, 12095, 4009, 7017, 12096], 0), []), none, none, some ((.sipush 1000, 3, [], 0), [false, true, false, false, false, true]), none, none, some ((.if_icmp .ge 122, 3, [], 0), []), none, none, some ((.aload_n 0, 1, [], 0), []), some ((.iload 4, 2, [], 0), []), none, some ((.invokevirtual 278, 3, [0, 173, 2, 0, 0, 10, 12093, 12095, 4009, 7017, 12096], 0), []), none, none, some ((.aload_n 0, 1, [], 0), [false, true, false, false, false, true])],
  [some ((.getfield 262, 3, [10, 26, 11003], 0), []), none, none, some ((.if_icmp .le 6, 3, [], 0), []), none, none, some ((.goto 106, 3, [], 0), []), none, none, some ((.aload_n 0, 1, [], 0), []), some ((.iload 4, 2, [], 0), []), none, some ((.invokevirtual 281, 3, [0, 179, 2, 0, 0, 10, 12097, 12099, 4010, 7017, 12100], 0), []), none, none, some ((.aload_n 0, 1, [], 0), [false, true, false, false, false, true])],
  [some ((.iload 4, 2, [], 0), []), none, some ((.invokevirtual 278, 3, [0, 173, 2, 0, 0, 10, 12093, 12095, 4009, 7017, 12096], 0), []), none, none, some ((.aload_n 0, 1, [], 0), [false, true, false, false, false, true]), some ((.getfield 26, 3, [10, 20, 10237], 0), []), none, none, some ((.iload 4, 2, [], 0), []), none, some ((.iconst 0, 1, [], 0), []), some ((.invokestatic 247, 3, [1, 178, 2, 0, 0, 12101, 12102, 7017, 12103, 0], 0), []), none, none, some ((.iaload, 1, [], 0), [false, true, false, false, false, true])],
  [some ((.iadd, 1, [], 0), []), some ((.istore 5, 2, [], 0), []), none, some ((.iload 5, 2, [], 0), []), none, some ((.aload_n 0, 1, [], 0), []), some ((.getfield 262, 3, [10, 26, 11003], 0), []), none, none, some ((.if_icmp .ge 30, 3, [], 0), []), none, none, some ((.aload_n 0, 1, [], 0), []), some ((.iload 5, 2, [], 0), []), none, some ((.putfield 262, 3, [10, 26, 11003], 0), [])],
  [none, none, some ((.aload_n 0, 1, [], 0), []), some ((.lconst 0, 1, [], 0), []), some ((.putfield 265, 3, [10, 27, 11004], 0), []), none, none, some ((.aload_n 0, 1, [], 0), []), some ((.aload_n 0, 1, [], 0), []), some ((.getfield 224, 3, [10, 18, 10235], 0), []), none, none, some ((.putfield 269, 3, [10, 28, 11005], 0), []), none, none, some ((.aload_n 0, 1, [], 0), [])],
  [some ((.aload_n 0, 1, [], 0), []), some ((.getfield 227, 3, [10, 19, 10236], 0), []), none, none, some ((.putfield 272, 3, [10, 29, 11006], 0), []), none, none, some ((.aload_n 0, 1, [], 0), [false, true]), some ((.dup, 1, [], 0), []), some ((.getfield 265, 3, [10, 27, 11004], 0), []), none, none, some ((.iload 5, 2, [], 0), []), none, some ((.aload_n 0, 1, [], 0), []), some ((.getfield 262, 3, [10, 26, 11003], 0), [])],
  [none, none, some ((.if_icmp .ne 25, 3, [], 0), []), none, none, some ((.iload 5, 2, [], 0), []), none, some ((.sipush 1000, 3, [], 0), []), none, none, some ((.if_icmp .ge 17, 3, [], 0), []), none, none, some ((.aload_n 0, 1, [], 0), []), some ((.getfield 29, 3, [10, 21, 10238], 0), []), none],
  [none, some ((.iload 4, 2, [], 0), []), none, some ((.iconst 0, 1, [], 0), []), some ((.invokestatic 247, 3, [1, 178, 2, 0, 0, 12101, 12102, 7017, 12103, 0], 0), []), none, none, some ((.laload, 1, [], 0), [false, true, false, false, false, true]), some ((.goto 4, 3, [], 0), []), none, none, some ((.lconst 0, 1, [], 0), [false, true, false, false, false, true]), some ((.ladd, 1, [], 0), [false, true, false, false, false, true]), some ((.putfield 265, 3, [10, 27, 11004], 0), []), none, none],
  [some ((.iinc 4 1, 3, [], 0), [false, true, false, false, false, true]), none, none, some ((.goto (-147), 3, [], 0), []), none, none, some ((.iinc 3 1, 3, [], 0), [false, true, false, false, true, true]), none, none, some ((.goto (-184), 3, [], 0), []), none, none, some ((.aload_n 0, 1, [], 0), []), some ((.getfield 262, 3, [10, 26, 11003], 0), []), none, none],
  [some ((.ireturn, 1, [], 0), [])]])
def kX10_withinOf : zMeth := (yX10_withinOf, cX10_withinOf, 6, (some .int), { frames := 6, cells := 0, slots := 0, locals := 140 }, [
  [some ((.iload_n 1, 1, [], 0), []), some ((.ifCond .ne 5, 3, [], 0), []), none, none, some ((.iconst 1, 1, [], 0), []), some ((.ireturn, 1, [], 0), []), some ((.aload_n 0, 1, [], 0), []), some ((.iload_n 1, 1, [], 0), []), some ((.invokevirtual 260, 3, [0, 180, 2, 0, 0, 10, 12078, 12080, 4006, 7017, 12081], 0), []), none, none, some ((.sipush 1000, 3, [], 0), [false, true]), none, none, some ((.istore_n 3, 1, [], 0), []), some ((.iconst 0, 1, [], 0), [])],
  [some ((.istore 4, 2, [], 0), []), none, some ((.iload 4, 2, [], 0), [false, true, false, false, false, true]), none, some ((.bipush 16, 2, [], 0), []), none, some ((.if_icmp .ge 76, 3, [], 0), []), none, none, some ((.aload_n 0, 1, [], 0), []), some ((.iload 4, 2, [], 0), []), none, some ((.iconst 4, 1, [], 0), []), some ((.idiv, 1, [], 0), []), some ((.putfield 224, 3, [10, 18, 10235], 0), []), none],
  [none, some ((.aload_n 0, 1, [], 0), []), some ((.iload 4, 2, [], 0), []), none, some ((.iconst 4, 1, [], 0), []), some ((.irem, 1, [], 0), []), some ((.putfield 227, 3, [10, 19, 10236], 0), []), none, none, some ((.iconst 0, 1, [], 0), []), some ((.istore 5, 2, [], 0), []), none, some ((.iload 5, 2, [], 0), [false, true]), none, some ((.iconst 4, 1, [], 0), []), some ((.if_icmp .ge 45, 3, [], 0), [])],
  [none, none, some ((.aload_n 0, 1, [], 0), []), some ((.invokevirtual 275, 3, [0, 181, 1, 0, 0, 10, 12085, 12087, 4007, 7017, 12088], 0), []), none, none, some ((.ifCond .eq 38, 3, [], 0), [false, true]), none, none, some ((.aload_n 0, 1, [], 0), []), some ((.iload 5, 2, [], 0), []), none, some ((.invokevirtual 278, 3, [0, 173, 2, 0, 0, 10, 12093, 12095, 4009, 7017, 12096], 0), []), none, none, some ((.iload_n 3, 1, [], 0), [false, true])],
  [some ((.if_icmp .ge 22, 3, [], 0), []), none, none, some ((.iload_n 3, 1, [], 0), []), some ((.aload_n 0, 1, [], 0), []), some ((.iload 5, 2, [], 0), []), none, some ((.invokevirtual 278, 3, [0, 173, 2, 0, 0, 10, 12093, 12095, 4009, 7017, 12096], 0), []), none, none, some ((.aload_n 0, 1, [], 0), [false, true, false, true]), some ((.iload 5, 2, [], 0), []), none, some ((.iload_n 2, 1, [], 0), []), some ((.invokevirtual 284, 3, [0, 184, 3, 0, 0, 10, 12212, 12214, 5013, 7017, 12215], 0), []), none],
  [none, some ((.iadd, 1, [], 0), [false, true, false, true]), some ((.invokestatic 92, 3, [1, 237, 2, 0, 0, 11158, 8132, 7016, 8133, 0], 0), []), none, none, some ((.istore_n 3, 1, [], 0), [false, true, false, true]), some ((.iinc 5 1, 3, [], 0), [false, true]), none, none, some ((.goto (-45), 3, [], 0), []), none, none, some ((.iinc 4 1, 3, [], 0), [false, true, false, false, false, true]), none, none, some ((.goto (-77), 3, [], 0), [])],
  [none, none, some ((.iload_n 3, 1, [], 0), []), some ((.ireturn, 1, [], 0), [])]])
def kX10_weighsWithin : zMeth := (yX10_weighsWithin, cX10_weighsWithin, 9, (some .int), { frames := 5, cells := 0, slots := 0, locals := 112 }, [
  [some ((.aload_n 0, 1, [], 0), []), some ((.getfield 9, 3, [10, 0, 10217], 0), []), none, none, some ((.iconst 0, 1, [], 0), []), some ((.iaload, 1, [], 0), []), some ((.istore_n 3, 1, [], 0), []), some ((.iconst 0, 1, [], 0), []), some ((.istore 4, 2, [], 0), []), none, some ((.iload 4, 2, [], 0), []), none, some ((.iload_n 2, 1, [], 0), []), some ((.if_icmp .gt 21, 3, [], 0), []), none, none],
  [some ((.aload_n 0, 1, [], 0), []), some ((.getfield 33, 3, [10, 22, 10239], 0), []), none, none, some ((.iload 4, 2, [], 0), []), none, some ((.iload_n 3, 1, [], 0), []), some ((.invokestatic 247, 3, [1, 178, 2, 0, 0, 12101, 12102, 7017, 12103, 0], 0), []), none, none, some ((.iconst 0, 1, [], 0), []), some ((.iastore, 1, [], 0), []), some ((.iinc 4 1, 3, [], 0), []), none, none, some ((.goto (-21), 3, [], 0), [])],
  [none, none, some ((.iload_n 3, 1, [], 0), []), some ((.iconst 1, 1, [], 0), []), some ((.isub, 1, [], 0), []), some ((.istore 4, 2, [], 0), []), none, some ((.iload 4, 2, [], 0), [false, false, false, false, false, true, true, true, true]), none, some ((.ifCond .lt 207, 3, [], 0), []), none, none, some ((.iconst 0, 1, [], 0), []), some ((.istore 5, 2, [], 0), []), none, some ((.iload 5, 2, [], 0), [false, false, false, false, false, false, true, true, true])],
  [none, some ((.iload_n 2, 1, [], 0), []), some ((.if_icmp .gt 43, 3, [], 0), []), none, none, some ((.aload_n 0, 1, [], 0), []), some ((.getfield 33, 3, [10, 22, 10239], 0), []), none, none, some ((.iload 5, 2, [], 0), []), none, some ((.iload 4, 2, [], 0), []), none, some ((.invokestatic 247, 3, [1, 178, 2, 0, 0, 12101, 12102, 7017, 12103, 0], 0), []), none, none],
  [some ((.aload_n 0, 1, [], 0), [false, false, false, false, false, false, true, true, true]), some ((.iload_n 1, 1, [], 0), []), some ((.iload 4, 2, [], 0), []), none, some ((.invokevirtual 236, 3, [0, 174, 3, 0, 0, 10, 12104, 12106, 4011, 7017, 12107], 0), []), none, none, some ((.aload_n 0, 1, [], 0), [false, false, false, false, false, false, true, true, true]), some ((.getfield 33, 3, [10, 22, 10239], 0), []), none, none, some ((.iload 5, 2, [], 0), []), none, some ((.iload 4, 2, [], 0), []), none, some ((.iconst 1, 1, [], 0), [])],
  [some ((.iadd, 1, [], 0), []), some ((.invokestatic 247, 3, [1, 178, 2, 0, 0, 12101, 12102, 7017, 12103, 0], 0), []), none, none, some ((.iaload, 1, [], 0), [false, false, false, false, false, false, true, true, true]), some ((.iadd, 1, [], 0), []), some ((.iastore, 1, [], 0), []), some ((.iinc 5 1, 3, [], 0), []), none, none, some ((.goto (-43), 3, [], 0), []), none, none, some ((.iconst 0, 1, [], 0), []), some ((.istore 5, 2, [], 0), []), none],
  [some ((.iload 4, 2, [], 0), []), none, some ((.istore 6, 2, [], 0), []), none, some ((.iload 6, 2, [], 0), [false, false, false, false, false, false, false, true, true]), none, some ((.iload_n 3, 1, [], 0), []), some ((.if_icmp .ge 139, 3, [], 0), []), none, none, some ((.aload_n 0, 1, [], 0), []), some ((.iload_n 1, 1, [], 0), []), some ((.iload 4, 2, [], 0), []), none, some ((.iload 6, 2, [], 0), []), none],
  [some ((.iload 5, 2, [], 0), []), none, some ((.invokevirtual 250, 3, [0, 177, 5, 0, 0, 10, 12108, 12110, 4012, 7017, 12111], 0), []), none, none, some ((.istore 5, 2, [], 0), [false, false, false, false, false, true, false, true, true]), none, some ((.sipush 1000, 3, [], 0), []), none, none, some ((.istore 7, 2, [], 0), []), none, some ((.iconst 1, 1, [], 0), []), some ((.istore 8, 2, [], 0), []), none, some ((.iload 8, 2, [], 0), [])],
  [none, some ((.sipush 128, 3, [], 0), []), none, none, some ((.if_icmp .ge 43, 3, [], 0), []), none, none, some ((.iload 7, 2, [], 0), []), none, some ((.iload 5, 2, [], 0), []), none, some ((.aload_n 0, 1, [], 0), []), some ((.iload 4, 2, [], 0), []), none, some ((.iload 6, 2, [], 0), []), none],
  [some ((.invokevirtual 254, 3, [0, 176, 3, 0, 0, 10, 12117, 12119, 4014, 7017, 12120], 0), []), none, none, some ((.iadd, 1, [], 0), [false, false, false, false, false, false, false, true]), some ((.aload_n 0, 1, [], 0), []), some ((.getfield 36, 3, [10, 23, 11000], 0), []), none, none, some ((.iload 8, 2, [], 0), []), none, some ((.iaload, 1, [], 0), []), some ((.iadd, 1, [], 0), []), some ((.aload_n 0, 1, [], 0), []), some ((.getfield 42, 3, [10, 25, 11002], 0), []), none, none],
  [some ((.iload 8, 2, [], 0), []), none, some ((.iaload, 1, [], 0), []), some ((.iadd, 1, [], 0), []), some ((.invokestatic 92, 3, [1, 237, 2, 0, 0, 11158, 8132, 7016, 8133, 0], 0), []), none, none, some ((.istore 7, 2, [], 0), [false, false, false, false, false, false, false, true]), none, some ((.iinc 8 1, 3, [], 0), []), none, none, some ((.goto (-45), 3, [], 0), []), none, none, some ((.iconst 1, 1, [], 0), [])],
  [some ((.istore 8, 2, [], 0), []), none, some ((.iload 8, 2, [], 0), []), none, some ((.iload_n 2, 1, [], 0), []), some ((.if_icmp .gt 55, 3, [], 0), []), none, none, some ((.aload_n 0, 1, [], 0), []), some ((.getfield 33, 3, [10, 22, 10239], 0), []), none, none, some ((.iload 8, 2, [], 0), []), none, some ((.iload 4, 2, [], 0), []), none],
  [some ((.invokestatic 247, 3, [1, 178, 2, 0, 0, 12101, 12102, 7017, 12103, 0], 0), []), none, none, some ((.aload_n 0, 1, [], 0), []), some ((.getfield 33, 3, [10, 22, 10239], 0), []), none, none, some ((.iload 8, 2, [], 0), []), none, some ((.iload 4, 2, [], 0), []), none, some ((.invokestatic 247, 3, [1, 178, 2, 0, 0, 12101, 12102, 7017, 12103, 0], 0), []), none, none, some ((.iaload, 1, [], 0), []), some ((.iload 7, 2, [], 0), [])],
  [none, some ((.aload_n 0, 1, [], 0), []), some ((.getfield 33, 3, [10, 22, 10239], 0), []), none, none, some ((.iload 8, 2, [], 0), []), none, some ((.iconst 1, 1, [], 0), []), some ((.isub, 1, [], 0), []), some ((.iload 6, 2, [], 0), []), none, some ((.iconst 1, 1, [], 0), []), some ((.iadd, 1, [], 0), []), some ((.invokestatic 247, 3, [1, 178, 2, 0, 0, 12101, 12102, 7017, 12103, 0], 0), []), none, none],
  [some ((.iaload, 1, [], 0), []), some ((.iadd, 1, [], 0), []), some ((.invokestatic 92, 3, [1, 237, 2, 0, 0, 11158, 8132, 7016, 8133, 0], 0), []), none, none, some ((.iastore, 1, [], 0), []), some ((.iinc 8 1, 3, [], 0), []), none, none, some ((.goto (-55), 3, [], 0), []), none, none, some ((.iinc 6 1, 3, [], 0), []), none, none, some ((.goto (-139), 3, [], 0), [])],
  [none, none, some ((.iinc 4 (-1), 3, [], 0), []), none, none, some ((.goto (-206), 3, [], 0), []), none, none, some ((.aload_n 0, 1, [], 0), []), some ((.getfield 33, 3, [10, 22, 10239], 0), []), none, none, some ((.iload_n 2, 1, [], 0), []), some ((.iconst 0, 1, [], 0), []), some ((.invokestatic 247, 3, [1, 178, 2, 0, 0, 12101, 12102, 7017, 12103, 0], 0), []), none],
  [none, some ((.iaload, 1, [], 0), [true, true, true, true, true, true, true, true, true]), some ((.ireturn, 1, [], 0), [])]])
def kX10_chooses : zMeth := (yX10_chooses, cX10_chooses, 4, (some .int), { frames := 7, cells := 0, slots := 0, locals := 168 }, [
  [some ((.aload_n 0, 1, [], 0), []), some ((.iload_n 1, 1, [], 0), []), some ((.iconst 1, 1, [], 0), []), some ((.invokevirtual 287, 3, [0, 182, 3, 0, 0, 10, 12074, 12076, 4005, 7017, 12077], 0), []), none, none, some ((.istore_n 2, 1, [], 0), []), some ((.aload_n 0, 1, [], 0), []), some ((.iconst 0, 1, [], 0), []), some ((.putfield 291, 3, [10, 33, 11010], 0), []), none, none, some ((.aload_n 0, 1, [], 0), []), some ((.iconst 0, 1, [], 0), []), some ((.putfield 294, 3, [10, 36, 11013], 0), []), none],
  [none, some ((.aload_n 0, 1, [], 0), []), some ((.iconst 0, 1, [], 0), []), some ((.putfield 297, 3, [10, 37, 11014], 0), []), none, none, some ((.aload_n 0, 1, [], 0), []), some ((.aload_n 0, 1, [], 0), []), some ((.getfield 269, 3, [10, 28, 11005], 0), []), none, none, some ((.putfield 300, 3, [10, 34, 11011], 0), []), none, none, some ((.aload_n 0, 1, [], 0), []), some ((.aload_n 0, 1, [], 0), [])],
  [some ((.getfield 272, 3, [10, 29, 11006], 0), []), none, none, some ((.putfield 303, 3, [10, 35, 11012], 0), []), none, none, some ((.iload_n 1, 1, [], 0), []), some ((.ifCond .ne 5, 3, [], 0), []), none, none, some ((.iload_n 2, 1, [], 0), []), some ((.ireturn, 1, [], 0), []), some ((.aload_n 0, 1, [], 0), []), some ((.aload_n 0, 1, [], 0), []), some ((.getfield 269, 3, [10, 28, 11005], 0), []), none],
  [none, some ((.putfield 224, 3, [10, 18, 10235], 0), []), none, none, some ((.aload_n 0, 1, [], 0), [false, true]), some ((.aload_n 0, 1, [], 0), []), some ((.getfield 272, 3, [10, 29, 11006], 0), []), none, none, some ((.putfield 227, 3, [10, 19, 10236], 0), []), none, none, some ((.iconst 0, 1, [], 0), []), some ((.istore_n 3, 1, [], 0), []), some ((.iload_n 3, 1, [], 0), [false, true]), some ((.iconst 4, 1, [], 0), [])],
  [some ((.if_icmp .ge 73, 3, [], 0), []), none, none, some ((.aload_n 0, 1, [], 0), []), some ((.getfield 54, 3, [10, 38, 11015], 0), []), none, none, some ((.iload_n 3, 1, [], 0), []), some ((.iload_n 2, 1, [], 0), []), some ((.aload_n 0, 1, [], 0), []), some ((.iload_n 3, 1, [], 0), []), some ((.invokevirtual 278, 3, [0, 173, 2, 0, 0, 10, 12093, 12095, 4009, 7017, 12096], 0), []), none, none, some ((.isub, 1, [], 0), [false, true]), some ((.iastore, 1, [], 0), [])],
  [some ((.aload_n 0, 1, [], 0), []), some ((.getfield 57, 3, [10, 39, 11016], 0), []), none, none, some ((.iload_n 3, 1, [], 0), []), some ((.iconst 0, 1, [], 0), []), some ((.bastore, 1, [], 0), []), some ((.aload_n 0, 1, [], 0), []), some ((.getfield 54, 3, [10, 38, 11015], 0), []), none, none, some ((.iload_n 3, 1, [], 0), []), some ((.iaload, 1, [], 0), []), some ((.ifCond .lt 38, 3, [], 0), []), none, none],
  [some ((.aload_n 0, 1, [], 0), []), some ((.iload_n 3, 1, [], 0), []), some ((.invokevirtual 281, 3, [0, 179, 2, 0, 0, 10, 12097, 12099, 4010, 7017, 12100], 0), []), none, none, some ((.aload_n 0, 1, [], 0), [false, true]), some ((.getfield 57, 3, [10, 39, 11016], 0), []), none, none, some ((.iload_n 3, 1, [], 0), []), some ((.aload_n 0, 1, [], 0), []), some ((.getfield 26, 3, [10, 20, 10237], 0), []), none, none, some ((.iload_n 3, 1, [], 0), []), some ((.iconst 0, 1, [], 0), [])],
  [some ((.invokestatic 247, 3, [1, 178, 2, 0, 0, 12101, 12102, 7017, 12103, 0], 0), []), none, none, some ((.iaload, 1, [], 0), [false, true]), some ((.aload_n 0, 1, [], 0), []), some ((.getfield 54, 3, [10, 38, 11015], 0), []), none, none, some ((.iload_n 3, 1, [], 0), []), some ((.iaload, 1, [], 0), []), some ((.if_icmp .ne 7, 3, [], 0), []), none, none, some ((.iconst 1, 1, [], 0), []), some ((.goto 4, 3, [], 0), []), none],
  [none, some ((.iconst 0, 1, [], 0), []), some ((.bastore, 1, [], 0), [false, true]), some ((.iinc 3 1, 3, [], 0), [false, true]), none, none, some ((.goto (-72), 3, [], 0), []), none, none, some ((.iconst 0, 1, [], 0), []), some ((.istore_n 3, 1, [], 0), []), some ((.iload_n 3, 1, [], 0), [false, true]), some ((.aload_n 0, 1, [], 0), []), some ((.getfield 9, 3, [10, 0, 10217], 0), []), none, none],
  [some ((.iconst 0, 1, [], 0), []), some ((.iaload, 1, [], 0), []), some ((.if_icmp .ge 26, 3, [], 0), []), none, none, some ((.aload_n 0, 1, [], 0), []), some ((.iload_n 3, 1, [], 0), []), some ((.invokevirtual 306, 3, [0, 186, 2, 0, 0, 10, 12138, 12140, 5001, 7017, 12141], 0), []), none, none, some ((.ifCond .eq 9, 3, [], 0), [false, true]), none, none, some ((.iload_n 3, 1, [], 0), []), some ((.iconst 1, 1, [], 0), []), some ((.iadd, 1, [], 0), [])],
  [some ((.goto 8, 3, [], 0), []), none, none, some ((.aload_n 0, 1, [], 0), []), some ((.iload_n 3, 1, [], 0), []), some ((.invokevirtual 309, 3, [0, 188, 2, 0, 0, 10, 12142, 12144, 5002, 7017, 12145], 0), []), none, none, some ((.istore_n 3, 1, [], 0), [false, true, false, true]), some ((.goto (-30), 3, [], 0), []), none, none, some ((.aload_n 0, 1, [], 0), []), some ((.invokevirtual 312, 3, [0, 190, 1, 0, 0, 10, 12154, 12156, 5005, 7017, 12157], 0), []), none, none],
  [some ((.iload_n 2, 1, [], 0), [true, true, false, true]), some ((.ireturn, 1, [], 0), [])]])
def kX10_goesBare : zMeth := (yX10_goesBare, cX10_goesBare, 4, (some .boolean), { frames := 3, cells := 0, slots := 0, locals := 64 }, [
  [some ((.iconst 0, 1, [], 0), []), some ((.istore_n 2, 1, [], 0), []), some ((.iconst 0, 1, [], 0), []), some ((.istore_n 3, 1, [], 0), []), some ((.iload_n 3, 1, [], 0), []), some ((.iconst 4, 1, [], 0), []), some ((.if_icmp .ge 56, 3, [], 0), []), none, none, some ((.iload_n 2, 1, [], 0), []), some ((.ifCond .ne 40, 3, [], 0), []), none, none, some ((.aload_n 0, 1, [], 0), []), some ((.getfield 57, 3, [10, 39, 11016], 0), []), none],
  [none, some ((.iload_n 3, 1, [], 0), []), some ((.baload, 1, [], 0), []), some ((.ifCond .eq 35, 3, [], 0), []), none, none, some ((.aload_n 0, 1, [], 0), []), some ((.iload_n 3, 1, [], 0), []), some ((.iload_n 1, 1, [], 0), []), some ((.invokevirtual 236, 3, [0, 174, 3, 0, 0, 10, 12104, 12106, 4011, 7017, 12107], 0), []), none, none, some ((.aload_n 0, 1, [], 0), [false, false, true]), some ((.getfield 26, 3, [10, 20, 10237], 0), []), none, none],
  [some ((.iload_n 3, 1, [], 0), []), some ((.iload_n 1, 1, [], 0), []), some ((.iconst 1, 1, [], 0), []), some ((.iadd, 1, [], 0), []), some ((.invokestatic 247, 3, [1, 178, 2, 0, 0, 12101, 12102, 7017, 12103, 0], 0), []), none, none, some ((.iaload, 1, [], 0), [false, false, true]), some ((.iadd, 1, [], 0), []), some ((.aload_n 0, 1, [], 0), []), some ((.getfield 54, 3, [10, 38, 11015], 0), []), none, none, some ((.iload_n 3, 1, [], 0), []), some ((.iaload, 1, [], 0), []), some ((.if_icmp .ne 7, 3, [], 0), [])],
  [none, none, some ((.iconst 1, 1, [], 0), [false, false, true]), some ((.goto 4, 3, [], 0), []), none, none, some ((.iconst 0, 1, [], 0), [false, false, true]), some ((.istore_n 2, 1, [], 0), [false, false, true]), some ((.iinc 3 1, 3, [], 0), []), none, none, some ((.goto (-55), 3, [], 0), []), none, none, some ((.iconst 0, 1, [], 0), []), some ((.istore_n 3, 1, [], 0), [])],
  [some ((.iload_n 3, 1, [], 0), []), some ((.iconst 4, 1, [], 0), []), some ((.if_icmp .ge 76, 3, [], 0), []), none, none, some ((.iload_n 2, 1, [], 0), []), some ((.ifCond .eq 72, 3, [], 0), []), none, none, some ((.aload_n 0, 1, [], 0), []), some ((.getfield 57, 3, [10, 39, 11016], 0), []), none, none, some ((.iload_n 3, 1, [], 0), []), some ((.aload_n 0, 1, [], 0), []), some ((.getfield 57, 3, [10, 39, 11016], 0), [])],
  [none, none, some ((.iload_n 3, 1, [], 0), []), some ((.baload, 1, [], 0), []), some ((.ifCond .eq 35, 3, [], 0), []), none, none, some ((.aload_n 0, 1, [], 0), []), some ((.iload_n 3, 1, [], 0), []), some ((.iload_n 1, 1, [], 0), []), some ((.invokevirtual 236, 3, [0, 174, 3, 0, 0, 10, 12104, 12106, 4011, 7017, 12107], 0), []), none, none, some ((.aload_n 0, 1, [], 0), []), some ((.getfield 26, 3, [10, 20, 10237], 0), []), none],
  [none, some ((.iload_n 3, 1, [], 0), []), some ((.iload_n 1, 1, [], 0), []), some ((.iconst 1, 1, [], 0), []), some ((.iadd, 1, [], 0), []), some ((.invokestatic 247, 3, [1, 178, 2, 0, 0, 12101, 12102, 7017, 12103, 0], 0), []), none, none, some ((.iaload, 1, [], 0), []), some ((.iadd, 1, [], 0), []), some ((.aload_n 0, 1, [], 0), []), some ((.getfield 54, 3, [10, 38, 11015], 0), []), none, none, some ((.iload_n 3, 1, [], 0), []), some ((.iaload, 1, [], 0), [])],
  [some ((.if_icmp .ne 7, 3, [], 0), []), none, none, some ((.iconst 1, 1, [], 0), []), some ((.goto 4, 3, [], 0), []), none, none, some ((.iconst 0, 1, [], 0), []), some ((.bastore, 1, [], 0), []), some ((.aload_n 0, 1, [], 0), []), some ((.getfield 54, 3, [10, 38, 11015], 0), []), none, none, some ((.iload_n 3, 1, [], 0), []), some ((.dup2, 1, [], 0), []), some ((.iaload, 1, [], 0), [])],
  [some ((.aload_n 0, 1, [], 0), []), some ((.iload_n 3, 1, [], 0), []), some ((.iload_n 1, 1, [], 0), []), some ((.invokevirtual 236, 3, [0, 174, 3, 0, 0, 10, 12104, 12106, 4011, 7017, 12107], 0), []), none, none, some ((.isub, 1, [], 0), []), some ((.iastore, 1, [], 0), []), some ((.iinc 3 1, 3, [], 0), []), none, none, some ((.goto (-75), 3, [], 0), []), none, none, some ((.iload_n 2, 1, [], 0), [true, true, false, true]), some ((.ireturn, 1, [], 0), [])]])
def kX10_costOf : zMeth := (yX10_costOf, cX10_costOf, 7, (some .int), { frames := 4, cells := 0, slots := 0, locals := 86 }, [
  [some ((.aload_n 0, 1, [], 0), []), some ((.getfield 42, 3, [10, 25, 11002], 0), []), none, none, some ((.iload 4, 2, [], 0), []), none, some ((.iaload, 1, [], 0), []), some ((.aload_n 0, 1, [], 0), []), some ((.iload_n 2, 1, [], 0), []), some ((.iload_n 3, 1, [], 0), []), some ((.invokevirtual 254, 3, [0, 176, 3, 0, 0, 10, 12117, 12119, 4014, 7017, 12120], 0), []), none, none, some ((.iadd, 1, [], 0), []), some ((.istore 5, 2, [], 0), []), none],
  [some ((.iload_n 2, 1, [], 0), []), some ((.istore 6, 2, [], 0), []), none, some ((.iload 6, 2, [], 0), [false, false, true]), none, some ((.iload_n 3, 1, [], 0), []), some ((.if_icmp .gt 45, 3, [], 0), []), none, none, some ((.iload 5, 2, [], 0), []), none, some ((.iload 4, 2, [], 0), []), none, some ((.aload_n 0, 1, [], 0), []), some ((.iload 6, 2, [], 0), []), none],
  [some ((.invokevirtual 169, 3, [0, 153, 2, 0, 0, 10, 11222, 11224, 3014, 7017, 11225], 0), []), none, none, some ((.invokestatic 143, 3, [1, 124, 2, 0, 0, 11195, 11196, 7017, 11197, 0], 0), [false, false, true, false, false, true]), none, none, some ((.ifCond .eq 13, 3, [], 0), [false, false, true, false, false, true]), none, none, some ((.aload_n 0, 1, [], 0), []), some ((.iload_n 1, 1, [], 0), []), some ((.iload 6, 2, [], 0), []), none, some ((.invokevirtual 239, 3, [0, 175, 3, 0, 0, 10, 12112, 12114, 4013, 7017, 12115], 0), []), none, none],
  [some ((.goto 10, 3, [], 0), [false, false, true, false, false, true]), none, none, some ((.aload_n 0, 1, [], 0), []), some ((.iload_n 1, 1, [], 0), []), some ((.iload 6, 2, [], 0), []), none, some ((.invokevirtual 236, 3, [0, 174, 3, 0, 0, 10, 12104, 12106, 4011, 7017, 12107], 0), []), none, none, some ((.iadd, 1, [], 0), [false, false, true, false, false, true]), some ((.istore 5, 2, [], 0), []), none, some ((.iinc 6 1, 3, [], 0), []), none, none],
  [some ((.goto (-45), 3, [], 0), []), none, none, some ((.iload 5, 2, [], 0), []), none, some ((.ireturn, 1, [], 0), [])]])
def kX10_begun : zMeth := (yX10_begun, cX10_begun, 4, (some .int), { frames := 6, cells := 0, slots := 0, locals := 138 }, [
  [some ((.iload_n 1, 1, [], 0), []), some ((.istore_n 2, 1, [], 0), []), some ((.iload_n 2, 1, [], 0), [false, false, false, true]), some ((.aload_n 0, 1, [], 0), []), some ((.getfield 9, 3, [10, 0, 10217], 0), []), none, none, some ((.iconst 0, 1, [], 0), []), some ((.iaload, 1, [], 0), []), some ((.if_icmp .ge 78, 3, [], 0), []), none, none, some ((.iconst 1, 1, [], 0), []), some ((.istore_n 3, 1, [], 0), []), some ((.iload_n 3, 1, [], 0), []), some ((.sipush 128, 3, [], 0), [])],
  [none, none, some ((.if_icmp .ge 63, 3, [], 0), []), none, none, some ((.aload_n 0, 1, [], 0), []), some ((.iload_n 1, 1, [], 0), []), some ((.iload_n 2, 1, [], 0), []), some ((.iload_n 3, 1, [], 0), []), some ((.invokevirtual 315, 3, [0, 189, 4, 0, 0, 10, 12146, 12148, 5003, 7017, 12149], 0), []), none, none, some ((.ifCond .eq 47, 3, [], 0), []), none, none, some ((.aload_n 0, 1, [], 0), [])],
  [some ((.getfield 45, 3, [10, 30, 11007], 0), []), none, none, some ((.aload_n 0, 1, [], 0), []), some ((.getfield 291, 3, [10, 33, 11010], 0), []), none, none, some ((.iload_n 1, 1, [], 0), []), some ((.iastore, 1, [], 0), []), some ((.aload_n 0, 1, [], 0), []), some ((.getfield 48, 3, [10, 31, 11008], 0), []), none, none, some ((.aload_n 0, 1, [], 0), []), some ((.getfield 291, 3, [10, 33, 11010], 0), []), none],
  [none, some ((.iload_n 2, 1, [], 0), []), some ((.iastore, 1, [], 0), []), some ((.aload_n 0, 1, [], 0), []), some ((.getfield 51, 3, [10, 32, 11009], 0), []), none, none, some ((.aload_n 0, 1, [], 0), []), some ((.getfield 291, 3, [10, 33, 11010], 0), []), none, none, some ((.iload_n 3, 1, [], 0), []), some ((.iastore, 1, [], 0), []), some ((.aload_n 0, 1, [], 0), []), some ((.dup, 1, [], 0), []), some ((.getfield 291, 3, [10, 33, 11010], 0), [])],
  [none, none, some ((.iconst 1, 1, [], 0), []), some ((.iadd, 1, [], 0), []), some ((.putfield 291, 3, [10, 33, 11010], 0), []), none, none, some ((.iload_n 2, 1, [], 0), []), some ((.iconst 1, 1, [], 0), []), some ((.iadd, 1, [], 0), []), some ((.ireturn, 1, [], 0), []), some ((.iinc 3 1, 3, [], 0), []), none, none, some ((.goto (-64), 3, [], 0), []), none],
  [none, some ((.iinc 2 1, 3, [], 0), []), none, none, some ((.goto (-82), 3, [], 0), []), none, none, some ((.aload_n 0, 1, [], 0), []), some ((.getfield 9, 3, [10, 0, 10217], 0), []), none, none, some ((.iconst 0, 1, [], 0), []), some ((.iaload, 1, [], 0), []), some ((.ireturn, 1, [], 0), [])]])
def kX10_takes : zMeth := (yX10_takes, cX10_takes, 7, (some .boolean), { frames := 5, cells := 0, slots := 0, locals := 112 }, [
  [some ((.iconst 0, 1, [], 0), []), some ((.istore 4, 2, [], 0), []), none, some ((.iconst 0, 1, [], 0), []), some ((.istore 5, 2, [], 0), []), none, some ((.iload 5, 2, [], 0), []), none, some ((.iconst 4, 1, [], 0), []), some ((.if_icmp .ge 64, 3, [], 0), []), none, none, some ((.iload 4, 2, [], 0), []), none, some ((.ifCond .ne 46, 3, [], 0), []), none],
  [none, some ((.aload_n 0, 1, [], 0), []), some ((.getfield 57, 3, [10, 39, 11016], 0), []), none, none, some ((.iload 5, 2, [], 0), []), none, some ((.baload, 1, [], 0), []), some ((.ifCond .eq 40, 3, [], 0), []), none, none, some ((.aload_n 0, 1, [], 0), []), some ((.iload 5, 2, [], 0), []), none, some ((.iload_n 1, 1, [], 0), []), some ((.iload_n 2, 1, [], 0), [])],
  [some ((.iload_n 3, 1, [], 0), []), some ((.invokevirtual 319, 3, [0, 187, 5, 0, 0, 10, 12150, 12152, 5004, 7017, 12153], 0), []), none, none, some ((.aload_n 0, 1, [], 0), [false, false, false, false, true]), some ((.getfield 26, 3, [10, 20, 10237], 0), []), none, none, some ((.iload 5, 2, [], 0), []), none, some ((.iload_n 2, 1, [], 0), []), some ((.iconst 1, 1, [], 0), []), some ((.iadd, 1, [], 0), []), some ((.invokestatic 247, 3, [1, 178, 2, 0, 0, 12101, 12102, 7017, 12103, 0], 0), []), none, none],
  [some ((.iaload, 1, [], 0), [false, false, false, false, true]), some ((.iadd, 1, [], 0), []), some ((.aload_n 0, 1, [], 0), []), some ((.getfield 54, 3, [10, 38, 11015], 0), []), none, none, some ((.iload 5, 2, [], 0), []), none, some ((.iaload, 1, [], 0), []), some ((.if_icmp .ne 7, 3, [], 0), []), none, none, some ((.iconst 1, 1, [], 0), [false, false, false, false, true]), some ((.goto 4, 3, [], 0), []), none, none],
  [some ((.iconst 0, 1, [], 0), [false, false, false, false, true]), some ((.istore 4, 2, [], 0), [false, false, false, false, true]), none, some ((.iinc 5 1, 3, [], 0), []), none, none, some ((.goto (-64), 3, [], 0), []), none, none, some ((.iconst 0, 1, [], 0), []), some ((.istore 5, 2, [], 0), []), none, some ((.iload 5, 2, [], 0), [false, false, false, false, false, false, true]), none, some ((.iconst 4, 1, [], 0), []), some ((.if_icmp .ge 85, 3, [], 0), [])],
  [none, none, some ((.iload 4, 2, [], 0), []), none, some ((.ifCond .eq 80, 3, [], 0), []), none, none, some ((.aload_n 0, 1, [], 0), []), some ((.iload 5, 2, [], 0), []), none, some ((.iload_n 1, 1, [], 0), []), some ((.iload_n 2, 1, [], 0), []), some ((.iload_n 3, 1, [], 0), []), some ((.invokevirtual 319, 3, [0, 187, 5, 0, 0, 10, 12150, 12152, 5004, 7017, 12153], 0), []), none, none],
  [some ((.istore 6, 2, [], 0), [false, false, false, false, false, false, true]), none, some ((.aload_n 0, 1, [], 0), []), some ((.getfield 57, 3, [10, 39, 11016], 0), []), none, none, some ((.iload 5, 2, [], 0), []), none, some ((.aload_n 0, 1, [], 0), []), some ((.getfield 57, 3, [10, 39, 11016], 0), []), none, none, some ((.iload 5, 2, [], 0), []), none, some ((.baload, 1, [], 0), []), some ((.ifCond .eq 33, 3, [], 0), [])],
  [none, none, some ((.iload 6, 2, [], 0), []), none, some ((.aload_n 0, 1, [], 0), []), some ((.getfield 26, 3, [10, 20, 10237], 0), []), none, none, some ((.iload 5, 2, [], 0), []), none, some ((.iload_n 2, 1, [], 0), []), some ((.iconst 1, 1, [], 0), []), some ((.iadd, 1, [], 0), []), some ((.invokestatic 247, 3, [1, 178, 2, 0, 0, 12101, 12102, 7017, 12103, 0], 0), []), none, none],
  [some ((.iaload, 1, [], 0), []), some ((.iadd, 1, [], 0), []), some ((.aload_n 0, 1, [], 0), []), some ((.getfield 54, 3, [10, 38, 11015], 0), []), none, none, some ((.iload 5, 2, [], 0), []), none, some ((.iaload, 1, [], 0), []), some ((.if_icmp .ne 7, 3, [], 0), []), none, none, some ((.iconst 1, 1, [], 0), []), some ((.goto 4, 3, [], 0), []), none, none],
  [some ((.iconst 0, 1, [], 0), []), some ((.bastore, 1, [], 0), []), some ((.aload_n 0, 1, [], 0), []), some ((.getfield 54, 3, [10, 38, 11015], 0), []), none, none, some ((.iload 5, 2, [], 0), []), none, some ((.dup2, 1, [], 0), []), some ((.iaload, 1, [], 0), []), some ((.iload 6, 2, [], 0), []), none, some ((.isub, 1, [], 0), []), some ((.iastore, 1, [], 0), []), some ((.iinc 5 1, 3, [], 0), []), none],
  [none, some ((.goto (-85), 3, [], 0), []), none, none, some ((.iload 4, 2, [], 0), [true, true, true, true, false, true, true]), none, some ((.ireturn, 1, [], 0), [])]])
def kX10_rests : zMeth := (yX10_rests, cX10_rests, 4, none, { frames := 2, cells := 0, slots := 0, locals := 42 }, [
  [some ((.iconst 0, 1, [], 0), []), some ((.istore_n 1, 1, [], 0), []), some ((.iconst 0, 1, [], 0), []), some ((.istore_n 2, 1, [], 0), []), some ((.iload_n 2, 1, [], 0), [false, false, false, true]), some ((.aload_n 0, 1, [], 0), []), some ((.getfield 291, 3, [10, 33, 11010], 0), []), none, none, some ((.if_icmp .ge 59, 3, [], 0), []), none, none, some ((.aload_n 0, 1, [], 0), []), some ((.getfield 45, 3, [10, 30, 11007], 0), []), none, none],
  [some ((.iload_n 2, 1, [], 0), []), some ((.iaload, 1, [], 0), []), some ((.istore_n 3, 1, [], 0), []), some ((.iload_n 3, 1, [], 0), []), some ((.aload_n 0, 1, [], 0), []), some ((.getfield 48, 3, [10, 31, 11008], 0), []), none, none, some ((.iload_n 2, 1, [], 0), []), some ((.iaload, 1, [], 0), []), some ((.if_icmp .gt 36, 3, [], 0), []), none, none, some ((.iload_n 1, 1, [], 0), []), some ((.aload_n 0, 1, [], 0), []), some ((.getfield 51, 3, [10, 32, 11009], 0), [])],
  [none, none, some ((.iload_n 2, 1, [], 0), []), some ((.iaload, 1, [], 0), []), some ((.aload_n 0, 1, [], 0), []), some ((.iload_n 3, 1, [], 0), []), some ((.invokevirtual 169, 3, [0, 153, 2, 0, 0, 10, 11222, 11224, 3014, 7017, 11225], 0), []), none, none, some ((.invokestatic 143, 3, [1, 124, 2, 0, 0, 11195, 11196, 7017, 11197, 0], 0), [false, true]), none, none, some ((.ifCond .eq 9, 3, [], 0), [false, true]), none, none, some ((.iconst 1, 1, [], 0), [])],
  [some ((.iload_n 3, 1, [], 0), []), some ((.ishl, 1, [], 0), []), some ((.goto 4, 3, [], 0), []), none, none, some ((.iconst 0, 1, [], 0), []), some ((.ior, 1, [], 0), [false, true]), some ((.istore_n 1, 1, [], 0), []), some ((.iinc 3 1, 3, [], 0), []), none, none, some ((.goto (-40), 3, [], 0), []), none, none, some ((.iinc 2 1, 3, [], 0), []), none],
  [none, some ((.goto (-61), 3, [], 0), []), none, none, some ((.iload_n 1, 1, [], 0), []), some ((.aload_n 0, 1, [], 0), []), some ((.aload_n 0, 1, [], 0), []), some ((.getfield 300, 3, [10, 34, 11011], 0), []), none, none, some ((.invokevirtual 233, 3, [0, 171, 2, 0, 0, 10, 12089, 12091, 4008, 7017, 12092], 0), []), none, none, some ((.iconst (-1), 1, [], 0), [false, true, true, true]), some ((.ixor, 1, [], 0), []), some ((.iand, 1, [], 0), [])],
  [some ((.istore_n 1, 1, [], 0), []), some ((.aload_n 0, 1, [], 0), []), some ((.iload_n 1, 1, [], 0), []), some ((.aload_n 0, 1, [], 0), []), some ((.getfield 230, 3, [10, 17, 10234], 0), []), none, none, some ((.iconst (-1), 1, [], 0), []), some ((.ixor, 1, [], 0), []), some ((.iand, 1, [], 0), []), some ((.putfield 294, 3, [10, 36, 11013], 0), []), none, none, some ((.aload_n 0, 1, [], 0), []), some ((.aload_n 0, 1, [], 0), []), some ((.getfield 230, 3, [10, 17, 10234], 0), [])],
  [none, none, some ((.iload_n 1, 1, [], 0), []), some ((.iconst (-1), 1, [], 0), []), some ((.ixor, 1, [], 0), []), some ((.iand, 1, [], 0), []), some ((.aload_n 0, 1, [], 0), []), some ((.aload_n 0, 1, [], 0), []), some ((.getfield 303, 3, [10, 35, 11012], 0), []), none, none, some ((.invokevirtual 233, 3, [0, 171, 2, 0, 0, 10, 12089, 12091, 4008, 7017, 12092], 0), []), none, none, some ((.iconst (-1), 1, [], 0), [true, true, true, true]), some ((.ixor, 1, [], 0), [])],
  [some ((.iand, 1, [], 0), []), some ((.putfield 297, 3, [10, 37, 11014], 0), []), none, none, some ((.return_, 1, [], 0), [])]])
def kX10_words : zMeth := (yX10_words, cX10_words, 2, (some .int), { frames := 7, cells := 0, slots := 0, locals := 168 }, [
  [some ((.aload_n 0, 1, [], 0), []), some ((.iload_n 1, 1, [], 0), []), some ((.invokevirtual 200, 3, [0, 155, 2, 0, 0, 10, 12014, 12016, 4001, 7017, 12017], 0), []), none, none, some ((.ifCond .eq 16, 3, [], 0), []), none, none, some ((.aload_n 0, 1, [], 0), []), some ((.aload_n 0, 1, [], 0), []), some ((.iload_n 1, 1, [], 0), []), some ((.invokevirtual 203, 3, [0, 156, 2, 0, 0, 10, 12022, 12024, 4002, 7017, 12025], 0), []), none, none, some ((.iconst 1, 1, [], 0), [true, true]), some ((.invokevirtual 287, 3, [0, 182, 3, 0, 0, 10, 12074, 12076, 4005, 7017, 12077], 0), [])],
  [none, none, some ((.goto 5, 3, [], 0), [true, true]), none, none, some ((.bipush (-2), 2, [], 0), []), none, some ((.ireturn, 1, [], 0), [true, true])]])
def kX10_ways : zMeth := (yX10_ways, cX10_ways, 2, (some .long), { frames := 7, cells := 0, slots := 0, locals := 168 }, [
  [some ((.aload_n 0, 1, [], 0), []), some ((.iload_n 1, 1, [], 0), []), some ((.invokevirtual 200, 3, [0, 155, 2, 0, 0, 10, 12014, 12016, 4001, 7017, 12017], 0), []), none, none, some ((.ifCond .ne 7, 3, [], 0), []), none, none, some ((.ldc2_w 322, 3, [0, 12125], (-2)), []), none, none, some ((.lreturn, 1, [], 0), []), some ((.aload_n 0, 1, [], 0), []), some ((.aload_n 0, 1, [], 0), []), some ((.iload_n 1, 1, [], 0), []), some ((.invokevirtual 203, 3, [0, 156, 2, 0, 0, 10, 12022, 12024, 4002, 7017, 12025], 0), [])],
  [none, none, some ((.iconst 1, 1, [], 0), [false, true]), some ((.invokevirtual 287, 3, [0, 182, 3, 0, 0, 10, 12074, 12076, 4005, 7017, 12077], 0), []), none, none, some ((.pop, 1, [], 0), [false, true]), some ((.aload_n 0, 1, [], 0), []), some ((.getfield 265, 3, [10, 27, 11004], 0), []), none, none, some ((.lreturn, 1, [], 0), [])]])
def kX10_sign : zMeth := (yX10_sign, cX10_sign, 2, none, { frames := 0, cells := 0, slots := 0, locals := 0 }, [
  [some ((.aload_n 0, 1, [], 0), []), some ((.aload_n 0, 1, [], 0), []), some ((.getfield 324, 3, [10, 40, 11017], 0), []), none, none, some ((.aload_n 0, 1, [], 0), []), some ((.getfield 327, 3, [10, 41, 11018], 0), []), none, none, some ((.if_icmp .ne 7, 3, [], 0), []), none, none, some ((.iload_n 1, 1, [], 0), []), some ((.goto 7, 3, [], 0), []), none, none],
  [some ((.aload_n 0, 1, [], 0), []), some ((.getfield 330, 3, [10, 42, 11019], 0), []), none, none, some ((.putfield 330, 3, [10, 42, 11019], 0), [false, true]), none, none, some ((.aload_n 0, 1, [], 0), []), some ((.dup, 1, [], 0), []), some ((.getfield 324, 3, [10, 40, 11017], 0), []), none, none, some ((.iconst 1, 1, [], 0), []), some ((.iadd, 1, [], 0), []), some ((.putfield 324, 3, [10, 40, 11017], 0), []), none],
  [none, some ((.return_, 1, [], 0), [])]])
def kX10_blank : zMeth := (yX10_blank, cX10_blank, 1, none, { frames := 1, cells := 0, slots := 0, locals := 21 }, [
  [some ((.aload_n 0, 1, [], 0), []), some ((.getfield 324, 3, [10, 40, 11017], 0), []), none, none, some ((.ifCond .le 9, 3, [], 0), []), none, none, some ((.aload_n 0, 1, [], 0), []), some ((.bipush 32, 2, [], 0), []), none, some ((.invokevirtual 333, 3, [0, 193, 2, 0, 0, 10, 12166, 12168, 5008, 7017, 12169], 0), []), none, none, some ((.return_, 1, [], 0), [true])]])
def kX10_says : zMeth := (yX10_says, cX10_says, 4, none, { frames := 4, cells := 0, slots := 0, locals := 85 }, [
  [some ((.aload_n 0, 1, [], 0), []), some ((.invokevirtual 336, 3, [0, 194, 1, 0, 0, 10, 12162, 12164, 5007, 7017, 12165], 0), []), none, none, some ((.iconst 0, 1, [], 0), []), some ((.istore_n 2, 1, [], 0), []), some ((.iload_n 1, 1, [], 0), []), some ((.istore_n 3, 1, [], 0), []), some ((.iload_n 3, 1, [], 0), [false, true]), some ((.ifCond .lt 53, 3, [], 0), []), none, none, some ((.iinc 2 1, 3, [], 0), []), none, none, some ((.iload_n 3, 1, [], 0), [])],
  [some ((.ifCond .ne 24, 3, [], 0), []), none, none, some ((.ldc 98, 2, [1, 1], 0), []), none, some ((.iload_n 2, 1, [], 0), []), some ((.invokevirtual 105, 3, [6, 11156, 7045, 7046, 7003, 7047], 0), []), none, none, some ((.bipush 32, 2, [], 0), []), none, some ((.if_icmp .eq 13, 3, [], 0), []), none, none, some ((.aload_n 0, 1, [], 0), []), some ((.ldc 98, 2, [1, 1], 0), [])],
  [none, some ((.iload_n 2, 1, [], 0), []), some ((.invokevirtual 105, 3, [6, 11156, 7045, 7046, 7003, 7047], 0), []), none, none, some ((.invokevirtual 333, 3, [0, 193, 2, 0, 0, 10, 12166, 12168, 5008, 7017, 12169], 0), []), none, none, some ((.iload_n 3, 1, [], 0), [false, true]), some ((.ldc 98, 2, [1, 1], 0), []), none, some ((.iload_n 2, 1, [], 0), []), some ((.invokevirtual 105, 3, [6, 11156, 7045, 7046, 7003, 7047], 0), []), none, none, some ((.bipush 32, 2, [], 0), [])],
  [none, some ((.if_icmp .ne 7, 3, [], 0), []), none, none, some ((.iconst 1, 1, [], 0), []), some ((.goto 4, 3, [], 0), []), none, none, some ((.iconst 0, 1, [], 0), []), some ((.isub, 1, [], 0), [false, true, false, true]), some ((.istore_n 3, 1, [], 0), []), some ((.goto (-51), 3, [], 0), []), none, none, some ((.return_, 1, [], 0), [])]])
def kX10_saysNumber : zMeth := (yX10_saysNumber, cX10_saysNumber, 2, none, { frames := 2, cells := 0, slots := 0, locals := 41 }, [
  [some ((.aload_n 0, 1, [], 0), []), some ((.invokevirtual 336, 3, [0, 194, 1, 0, 0, 10, 12162, 12164, 5007, 7017, 12165], 0), []), none, none, some ((.iload_n 1, 1, [], 0), []), some ((.bipush 9, 2, [], 0), []), none, some ((.if_icmp .le 14, 3, [], 0), []), none, none, some ((.aload_n 0, 1, [], 0), []), some ((.bipush 48, 2, [], 0), []), none, some ((.iload_n 1, 1, [], 0), []), some ((.bipush 10, 2, [], 0), []), none],
  [some ((.idiv, 1, [], 0), []), some ((.iadd, 1, [], 0), []), some ((.invokevirtual 333, 3, [0, 193, 2, 0, 0, 10, 12166, 12168, 5008, 7017, 12169], 0), []), none, none, some ((.aload_n 0, 1, [], 0), []), some ((.bipush 48, 2, [], 0), []), none, some ((.iload_n 1, 1, [], 0), []), some ((.bipush 10, 2, [], 0), []), none, some ((.irem, 1, [], 0), []), some ((.iadd, 1, [], 0), []), some ((.invokevirtual 333, 3, [0, 193, 2, 0, 0, 10, 12166, 12168, 5008, 7017, 12169], 0), []), none, none],
  [some ((.return_, 1, [], 0), [true, true])]])
def kX10_saysPattern : zMeth := (yX10_saysPattern, cX10_saysPattern, 5, none, { frames := 5, cells := 0, slots := 0, locals := 108 }, [
  [some ((.iload_n 1, 1, [], 0), []), some ((.bipush 127, 2, [], 0), []), none, some ((.if_icmp .ne 10, 3, [], 0), []), none, none, some ((.aload_n 0, 1, [], 0), []), some ((.bipush 7, 2, [], 0), []), none, some ((.invokevirtual 339, 3, [0, 195, 2, 0, 0, 10, 12158, 12160, 5006, 7017, 12161], 0), []), none, none, some ((.return_, 1, [], 0), [true, true]), some ((.iconst 0, 1, [], 0), []), some ((.istore_n 2, 1, [], 0), []), some ((.iload_n 2, 1, [], 0), [false, false, false, true, true])],
  [some ((.bipush 7, 2, [], 0), []), none, some ((.if_icmp .ge 102, 3, [], 0), []), none, none, some ((.iload_n 2, 1, [], 0), []), some ((.istore_n 3, 1, [], 0), []), some ((.iload_n 3, 1, [], 0), [false, false, false, false, true]), some ((.bipush 7, 2, [], 0), []), none, some ((.if_icmp .ge 17, 3, [], 0), []), none, none, some ((.iload_n 1, 1, [], 0), []), some ((.iload_n 3, 1, [], 0), []), some ((.invokestatic 143, 3, [1, 124, 2, 0, 0, 11195, 11196, 7017, 11197, 0], 0), [])],
  [none, none, some ((.ifCond .eq 9, 3, [], 0), [false, false, false, false, true]), none, none, some ((.iinc 3 1, 3, [], 0), []), none, none, some ((.goto (-17), 3, [], 0), []), none, none, some ((.iload_n 3, 1, [], 0), [false, false, false, false, true]), some ((.iload_n 2, 1, [], 0), []), some ((.isub, 1, [], 0), []), some ((.iconst 2, 1, [], 0), []), some ((.if_icmp .le 31, 3, [], 0), [])],
  [none, none, some ((.aload_n 0, 1, [], 0), []), some ((.bipush 12, 2, [], 0), []), none, some ((.iload_n 2, 1, [], 0), []), some ((.iadd, 1, [], 0), []), some ((.invokevirtual 339, 3, [0, 195, 2, 0, 0, 10, 12158, 12160, 5006, 7017, 12161], 0), []), none, none, some ((.aload_n 0, 1, [], 0), [false, false, false, false, true]), some ((.invokevirtual 336, 3, [0, 194, 1, 0, 0, 10, 12162, 12164, 5007, 7017, 12165], 0), []), none, none, some ((.aload_n 0, 1, [], 0), [false, false, false, false, true]), some ((.bipush 45, 2, [], 0), [])],
  [none, some ((.invokevirtual 333, 3, [0, 193, 2, 0, 0, 10, 12166, 12168, 5008, 7017, 12169], 0), []), none, none, some ((.aload_n 0, 1, [], 0), [false, false, false, false, true]), some ((.bipush 12, 2, [], 0), []), none, some ((.iload_n 3, 1, [], 0), []), some ((.iadd, 1, [], 0), []), some ((.iconst 1, 1, [], 0), []), some ((.isub, 1, [], 0), []), some ((.invokevirtual 339, 3, [0, 195, 2, 0, 0, 10, 12158, 12160, 5006, 7017, 12161], 0), []), none, none, some ((.iload_n 2, 1, [], 0), [false, false, false, false, true]), some ((.istore 4, 2, [], 0), [])],
  [none, some ((.iload 4, 2, [], 0), []), none, some ((.iload_n 3, 1, [], 0), []), some ((.if_icmp .ge 25, 3, [], 0), []), none, none, some ((.iload_n 3, 1, [], 0), []), some ((.iload_n 2, 1, [], 0), []), some ((.isub, 1, [], 0), []), some ((.iconst 3, 1, [], 0), []), some ((.if_icmp .ge 18, 3, [], 0), []), none, none, some ((.aload_n 0, 1, [], 0), []), some ((.bipush 12, 2, [], 0), [])],
  [none, some ((.iload 4, 2, [], 0), []), none, some ((.iadd, 1, [], 0), []), some ((.invokevirtual 339, 3, [0, 195, 2, 0, 0, 10, 12158, 12160, 5006, 7017, 12161], 0), []), none, none, some ((.iinc 4 1, 3, [], 0), []), none, none, some ((.goto (-25), 3, [], 0), []), none, none, some ((.iload_n 3, 1, [], 0), [false, false, false, false, true]), some ((.iload_n 2, 1, [], 0), []), some ((.iconst 1, 1, [], 0), [])],
  [some ((.iadd, 1, [], 0), []), some ((.invokestatic 221, 3, [1, 236, 2, 0, 0, 12069, 9184, 7016, 9185, 0], 0), []), none, none, some ((.istore_n 2, 1, [], 0), [false, false, true, true, true]), some ((.goto (-102), 3, [], 0), []), none, none, some ((.return_, 1, [], 0), [])]])
def kX10_saysEntries : zMeth := (yX10_saysEntries, cX10_saysEntries, 6, none, { frames := 5, cells := 0, slots := 0, locals := 108 }, [
  [some ((.iload_n 2, 1, [], 0), []), some ((.ifCond .ne 8, 3, [], 0), []), none, none, some ((.iload_n 3, 1, [], 0), []), some ((.ifCond .ne 4, 3, [], 0), []), none, none, some ((.return_, 1, [], 0), []), some ((.aload_n 0, 1, [], 0), []), some ((.iload_n 1, 1, [], 0), []), some ((.invokevirtual 339, 3, [0, 195, 2, 0, 0, 10, 12158, 12160, 5006, 7017, 12161], 0), []), none, none, some ((.iconst 0, 1, [], 0), [false, true]), some ((.istore 4, 2, [], 0), [])],
  [none, some ((.iload 4, 2, [], 0), [false, true, false, false, false, true]), none, some ((.iconst 2, 1, [], 0), []), some ((.if_icmp .ge 66, 3, [], 0), []), none, none, some ((.iload_n 2, 1, [], 0), []), some ((.iload 4, 2, [], 0), []), none, some ((.invokestatic 143, 3, [1, 124, 2, 0, 0, 11195, 11196, 7017, 11197, 0], 0), []), none, none, some ((.ifCond .eq 51, 3, [], 0), [false, true, false, false, false, true]), none, none],
  [some ((.aload_n 0, 1, [], 0), []), some ((.invokevirtual 336, 3, [0, 194, 1, 0, 0, 10, 12162, 12164, 5007, 7017, 12165], 0), []), none, none, some ((.iconst 0, 1, [], 0), [false, true, false, false, false, true]), some ((.istore 5, 2, [], 0), []), none, some ((.iload 5, 2, [], 0), [false, true]), none, some ((.aload_n 0, 1, [], 0), []), some ((.getfield 9, 3, [10, 0, 10217], 0), []), none, none, some ((.bipush 8, 2, [], 0), []), none, some ((.iload 4, 2, [], 0), [])],
  [none, some ((.iadd, 1, [], 0), []), some ((.iaload, 1, [], 0), []), some ((.if_icmp .ge 29, 3, [], 0), []), none, none, some ((.aload_n 0, 1, [], 0), []), some ((.aload_n 0, 1, [], 0), []), some ((.getfield 9, 3, [10, 0, 10217], 0), []), none, none, some ((.bipush 10, 2, [], 0), []), none, some ((.bipush 8, 2, [], 0), []), none, some ((.iload 4, 2, [], 0), [])],
  [none, some ((.imul, 1, [], 0), []), some ((.iadd, 1, [], 0), []), some ((.iload 5, 2, [], 0), []), none, some ((.iadd, 1, [], 0), []), some ((.iaload, 1, [], 0), []), some ((.invokevirtual 333, 3, [0, 193, 2, 0, 0, 10, 12166, 12168, 5008, 7017, 12169], 0), []), none, none, some ((.iinc 5 1, 3, [], 0), [false, true]), none, none, some ((.goto (-38), 3, [], 0), []), none, none],
  [some ((.iinc 4 1, 3, [], 0), [false, true, false, false, false, true]), none, none, some ((.goto (-66), 3, [], 0), []), none, none, some ((.iconst 0, 1, [], 0), []), some ((.istore 4, 2, [], 0), []), none, some ((.iload 4, 2, [], 0), [false, true, true, false, false, true]), none, some ((.aload_n 0, 1, [], 0), []), some ((.getfield 9, 3, [10, 0, 10217], 0), []), none, none, some ((.iconst 0, 1, [], 0), [])],
  [some ((.iaload, 1, [], 0), []), some ((.if_icmp .ge 24, 3, [], 0), []), none, none, some ((.iload_n 3, 1, [], 0), []), some ((.iload 4, 2, [], 0), []), none, some ((.invokestatic 143, 3, [1, 124, 2, 0, 0, 11195, 11196, 7017, 11197, 0], 0), []), none, none, some ((.ifCond .eq 9, 3, [], 0), [false, true, true, false, false, true]), none, none, some ((.aload_n 0, 1, [], 0), []), some ((.iload 4, 2, [], 0), []), none],
  [some ((.invokevirtual 342, 3, [0, 196, 2, 0, 0, 10, 12174, 12176, 5010, 7017, 12177], 0), []), none, none, some ((.iinc 4 1, 3, [], 0), [false, true, true, false, false, true]), none, none, some ((.goto (-29), 3, [], 0), []), none, none, some ((.return_, 1, [], 0), [])]])
def kX10_writes : zMeth := (yX10_writes, cX10_writes, 4, none, { frames := 8, cells := 0, slots := 0, locals := 191 }, [
  [some ((.aload_n 0, 1, [], 0), []), some ((.aload_n 0, 1, [], 0), []), some ((.iload_n 1, 1, [], 0), []), some ((.invokevirtual 203, 3, [0, 156, 2, 0, 0, 10, 12022, 12024, 4002, 7017, 12025], 0), []), none, none, some ((.invokevirtual 345, 3, [0, 185, 2, 0, 0, 10, 12134, 12136, 5000, 7017, 12137], 0), []), none, none, some ((.pop, 1, [], 0), []), some ((.aload_n 0, 1, [], 0), []), some ((.iconst 0, 1, [], 0), []), some ((.putfield 324, 3, [10, 40, 11017], 0), []), none, none, some ((.aload_n 0, 1, [], 0), [])],
  [some ((.iload_n 2, 1, [], 0), []), some ((.putfield 327, 3, [10, 41, 11018], 0), []), none, none, some ((.aload_n 0, 1, [], 0), []), some ((.iconst (-1), 1, [], 0), []), some ((.putfield 330, 3, [10, 42, 11019], 0), []), none, none, some ((.aload_n 0, 1, [], 0), []), some ((.iload_n 1, 1, [], 0), []), some ((.invokevirtual 203, 3, [0, 156, 2, 0, 0, 10, 12022, 12024, 4002, 7017, 12025], 0), []), none, none, some ((.ifCond .ne 10, 3, [], 0), [false, true, true]), none],
  [none, some ((.aload_n 0, 1, [], 0), []), some ((.bipush 6, 2, [], 0), []), none, some ((.invokevirtual 339, 3, [0, 195, 2, 0, 0, 10, 12158, 12160, 5006, 7017, 12161], 0), []), none, none, some ((.return_, 1, [], 0), [true, true, true]), some ((.iconst 0, 1, [], 0), []), some ((.istore_n 3, 1, [], 0), []), some ((.iload_n 3, 1, [], 0), [false, true, true]), some ((.aload_n 0, 1, [], 0), []), some ((.getfield 291, 3, [10, 33, 11010], 0), []), none, none, some ((.if_icmp .ge 77, 3, [], 0), [])],
  [none, none, some ((.aload_n 0, 1, [], 0), []), some ((.aload_n 0, 1, [], 0), []), some ((.getfield 51, 3, [10, 32, 11009], 0), []), none, none, some ((.iload_n 3, 1, [], 0), []), some ((.iaload, 1, [], 0), []), some ((.invokevirtual 348, 3, [0, 197, 2, 0, 0, 10, 12170, 12172, 5009, 7017, 12173], 0), []), none, none, some ((.aload_n 0, 1, [], 0), [false, true, true]), some ((.getfield 45, 3, [10, 30, 11007], 0), []), none, none],
  [some ((.iload_n 3, 1, [], 0), []), some ((.iaload, 1, [], 0), []), some ((.ifCond .le 19, 3, [], 0), []), none, none, some ((.aload_n 0, 1, [], 0), []), some ((.bipush 8, 2, [], 0), []), none, some ((.invokevirtual 339, 3, [0, 195, 2, 0, 0, 10, 12158, 12160, 5006, 7017, 12161], 0), []), none, none, some ((.aload_n 0, 1, [], 0), [false, true, true]), some ((.aload_n 0, 1, [], 0), []), some ((.getfield 45, 3, [10, 30, 11007], 0), []), none, none],
  [some ((.iload_n 3, 1, [], 0), []), some ((.iaload, 1, [], 0), []), some ((.invokevirtual 342, 3, [0, 196, 2, 0, 0, 10, 12174, 12176, 5010, 7017, 12177], 0), []), none, none, some ((.aload_n 0, 1, [], 0), [false, true, true]), some ((.getfield 48, 3, [10, 31, 11008], 0), []), none, none, some ((.iload_n 3, 1, [], 0), []), some ((.iaload, 1, [], 0), []), some ((.aload_n 0, 1, [], 0), []), some ((.getfield 9, 3, [10, 0, 10217], 0), []), none, none, some ((.iconst 0, 1, [], 0), [])],
  [some ((.iaload, 1, [], 0), []), some ((.iconst 1, 1, [], 0), []), some ((.isub, 1, [], 0), []), some ((.if_icmp .ge 19, 3, [], 0), []), none, none, some ((.aload_n 0, 1, [], 0), []), some ((.bipush 9, 2, [], 0), []), none, some ((.invokevirtual 339, 3, [0, 195, 2, 0, 0, 10, 12158, 12160, 5006, 7017, 12161], 0), []), none, none, some ((.aload_n 0, 1, [], 0), [false, true, true]), some ((.aload_n 0, 1, [], 0), []), some ((.getfield 48, 3, [10, 31, 11008], 0), []), none],
  [none, some ((.iload_n 3, 1, [], 0), []), some ((.iaload, 1, [], 0), []), some ((.invokevirtual 342, 3, [0, 196, 2, 0, 0, 10, 12174, 12176, 5010, 7017, 12177], 0), []), none, none, some ((.iinc 3 1, 3, [], 0), [false, true, true]), none, none, some ((.goto (-79), 3, [], 0), []), none, none, some ((.aload_n 0, 1, [], 0), []), some ((.bipush 10, 2, [], 0), []), none, some ((.aload_n 0, 1, [], 0), [])],
  [some ((.getfield 300, 3, [10, 34, 11011], 0), []), none, none, some ((.aload_n 0, 1, [], 0), []), some ((.getfield 294, 3, [10, 36, 11013], 0), []), none, none, some ((.invokevirtual 351, 3, [0, 198, 4, 0, 0, 10, 12178, 12180, 5011, 7017, 12181], 0), []), none, none, some ((.aload_n 0, 1, [], 0), [false, true, true, true]), some ((.bipush 11, 2, [], 0), []), none, some ((.aload_n 0, 1, [], 0), []), some ((.getfield 303, 3, [10, 35, 11012], 0), []), none],
  [none, some ((.aload_n 0, 1, [], 0), []), some ((.getfield 297, 3, [10, 37, 11014], 0), []), none, none, some ((.invokevirtual 351, 3, [0, 198, 4, 0, 0, 10, 12178, 12180, 5011, 7017, 12181], 0), []), none, none, some ((.return_, 1, [], 0), [true, true, true, true])]])
def kX10_length : zMeth := (yX10_length, cX10_length, 2, (some .int), { frames := 9, cells := 0, slots := 0, locals := 214 }, [
  [some ((.aload_n 0, 1, [], 0), []), some ((.iload_n 1, 1, [], 0), []), some ((.invokevirtual 200, 3, [0, 155, 2, 0, 0, 10, 12014, 12016, 4001, 7017, 12017], 0), []), none, none, some ((.ifCond .ne 6, 3, [], 0), []), none, none, some ((.bipush (-2), 2, [], 0), []), none, some ((.ireturn, 1, [], 0), []), some ((.aload_n 0, 1, [], 0), []), some ((.iload_n 1, 1, [], 0), []), some ((.iconst (-1), 1, [], 0), []), some ((.invokevirtual 355, 3, [0, 199, 3, 0, 0, 10, 12130, 12132, 4015, 7017, 12133], 0), []), none],
  [none, some ((.aload_n 0, 1, [], 0), [false, true]), some ((.getfield 324, 3, [10, 40, 11017], 0), []), none, none, some ((.ireturn, 1, [], 0), [])]])
def kX10_sign_ : zMeth := (yX10_sign_, cX10_sign_, 3, (some .int), { frames := 9, cells := 0, slots := 0, locals := 214 }, [
  [some ((.aload_n 0, 1, [], 0), []), some ((.iload_n 1, 1, [], 0), []), some ((.invokevirtual 200, 3, [0, 155, 2, 0, 0, 10, 12014, 12016, 4001, 7017, 12017], 0), []), none, none, some ((.ifCond .eq 7, 3, [], 0), []), none, none, some ((.iload_n 2, 1, [], 0), []), some ((.ifCond .ge 6, 3, [], 0), []), none, none, some ((.bipush (-2), 2, [], 0), [true, true, true]), none, some ((.ireturn, 1, [], 0), []), some ((.aload_n 0, 1, [], 0), [])],
  [some ((.iload_n 1, 1, [], 0), []), some ((.iload_n 2, 1, [], 0), []), some ((.invokevirtual 355, 3, [0, 199, 3, 0, 0, 10, 12130, 12132, 4015, 7017, 12133], 0), []), none, none, some ((.aload_n 0, 1, [], 0), [false, true, true]), some ((.getfield 330, 3, [10, 42, 11019], 0), []), none, none, some ((.ireturn, 1, [], 0), [])]])
def kX10_spans : zMeth := (yX10_spans, cX10_spans, 2, (some .int), { frames := 8, cells := 0, slots := 0, locals := 191 }, [
  [some ((.aload_n 0, 1, [], 0), []), some ((.iload_n 1, 1, [], 0), []), some ((.invokevirtual 200, 3, [0, 155, 2, 0, 0, 10, 12014, 12016, 4001, 7017, 12017], 0), []), none, none, some ((.ifCond .ne 6, 3, [], 0), []), none, none, some ((.bipush (-2), 2, [], 0), []), none, some ((.ireturn, 1, [], 0), []), some ((.aload_n 0, 1, [], 0), []), some ((.aload_n 0, 1, [], 0), []), some ((.iload_n 1, 1, [], 0), []), some ((.invokevirtual 203, 3, [0, 156, 2, 0, 0, 10, 12022, 12024, 4002, 7017, 12025], 0), []), none],
  [none, some ((.invokevirtual 345, 3, [0, 185, 2, 0, 0, 10, 12134, 12136, 5000, 7017, 12137], 0), [false, true]), none, none, some ((.pop, 1, [], 0), [false, true]), some ((.aload_n 0, 1, [], 0), []), some ((.getfield 291, 3, [10, 33, 11010], 0), []), none, none, some ((.ireturn, 1, [], 0), [])]])
def kX10_span : zMeth := (yX10_span, cX10_span, 4, (some .int), { frames := 8, cells := 0, slots := 0, locals := 191 }, [
  [some ((.aload_n 0, 1, [], 0), []), some ((.iload_n 1, 1, [], 0), []), some ((.invokevirtual 200, 3, [0, 155, 2, 0, 0, 10, 12014, 12016, 4001, 7017, 12017], 0), []), none, none, some ((.ifCond .eq 19, 3, [], 0), []), none, none, some ((.iload_n 2, 1, [], 0), []), some ((.ifCond .lt 15, 3, [], 0), []), none, none, some ((.iload_n 3, 1, [], 0), []), some ((.i2l, 1, [], 0), []), some ((.lconst 0, 1, [], 0), []), some ((.ldc2_w 359, 3, [0, 12194], 2), [])],
  [none, none, some ((.invokestatic 64, 3, [1, 123, 3, 0, 0, 11131, 11132, 7017, 11133, 0], 0), []), none, none, some ((.ifCond .ne 6, 3, [], 0), []), none, none, some ((.bipush (-2), 2, [], 0), [true, true, true, true]), none, some ((.ireturn, 1, [], 0), []), some ((.aload_n 0, 1, [], 0), []), some ((.aload_n 0, 1, [], 0), []), some ((.iload_n 1, 1, [], 0), []), some ((.invokevirtual 203, 3, [0, 156, 2, 0, 0, 10, 12022, 12024, 4002, 7017, 12025], 0), []), none],
  [none, some ((.invokevirtual 345, 3, [0, 185, 2, 0, 0, 10, 12134, 12136, 5000, 7017, 12137], 0), [false, true]), none, none, some ((.pop, 1, [], 0), [false, true]), some ((.iload_n 2, 1, [], 0), []), some ((.aload_n 0, 1, [], 0), []), some ((.getfield 291, 3, [10, 33, 11010], 0), []), none, none, some ((.if_icmp .lt 5, 3, [], 0), []), none, none, some ((.iconst (-1), 1, [], 0), []), some ((.ireturn, 1, [], 0), []), some ((.iload_n 3, 1, [], 0), [])],
  [some ((.ifCond .ne 12, 3, [], 0), []), none, none, some ((.aload_n 0, 1, [], 0), []), some ((.getfield 45, 3, [10, 30, 11007], 0), []), none, none, some ((.iload_n 2, 1, [], 0), []), some ((.iaload, 1, [], 0), []), some ((.goto 23, 3, [], 0), []), none, none, some ((.iload_n 3, 1, [], 0), []), some ((.iconst 1, 1, [], 0), []), some ((.if_icmp .ne 12, 3, [], 0), []), none],
  [none, some ((.aload_n 0, 1, [], 0), []), some ((.getfield 48, 3, [10, 31, 11008], 0), []), none, none, some ((.iload_n 2, 1, [], 0), []), some ((.iaload, 1, [], 0), []), some ((.goto 9, 3, [], 0), []), none, none, some ((.aload_n 0, 1, [], 0), []), some ((.getfield 51, 3, [10, 32, 11009], 0), []), none, none, some ((.iload_n 2, 1, [], 0), []), some ((.iaload, 1, [], 0), [])],
  [some ((.ireturn, 1, [], 0), [true, true, true, true])]])
def kX10_nots : zMeth := (yX10_nots, cX10_nots, 3, (some .int), { frames := 8, cells := 0, slots := 0, locals := 191 }, [
  [some ((.aload_n 0, 1, [], 0), []), some ((.iload_n 1, 1, [], 0), []), some ((.invokevirtual 200, 3, [0, 155, 2, 0, 0, 10, 12014, 12016, 4001, 7017, 12017], 0), []), none, none, some ((.ifCond .eq 13, 3, [], 0), []), none, none, some ((.iload_n 2, 1, [], 0), []), some ((.i2l, 1, [], 0), []), some ((.lconst 0, 1, [], 0), []), some ((.lconst 1, 1, [], 0), []), some ((.invokestatic 64, 3, [1, 123, 3, 0, 0, 11131, 11132, 7017, 11133, 0], 0), []), none, none, some ((.ifCond .ne 6, 3, [], 0), [])],
  [none, none, some ((.bipush (-2), 2, [], 0), [true, true, true]), none, some ((.ireturn, 1, [], 0), []), some ((.aload_n 0, 1, [], 0), []), some ((.aload_n 0, 1, [], 0), []), some ((.iload_n 1, 1, [], 0), []), some ((.invokevirtual 203, 3, [0, 156, 2, 0, 0, 10, 12022, 12024, 4002, 7017, 12025], 0), []), none, none, some ((.invokevirtual 345, 3, [0, 185, 2, 0, 0, 10, 12134, 12136, 5000, 7017, 12137], 0), [false, true]), none, none, some ((.pop, 1, [], 0), [false, true]), some ((.iload_n 2, 1, [], 0), [])],
  [some ((.ifCond .ne 10, 3, [], 0), []), none, none, some ((.aload_n 0, 1, [], 0), []), some ((.getfield 300, 3, [10, 34, 11011], 0), []), none, none, some ((.goto 7, 3, [], 0), []), none, none, some ((.aload_n 0, 1, [], 0), []), some ((.getfield 294, 3, [10, 36, 11013], 0), []), none, none, some ((.ireturn, 1, [], 0), [true, true, true])]])
def kX10_alsos : zMeth := (yX10_alsos, cX10_alsos, 3, (some .int), { frames := 8, cells := 0, slots := 0, locals := 191 }, [
  [some ((.aload_n 0, 1, [], 0), []), some ((.iload_n 1, 1, [], 0), []), some ((.invokevirtual 200, 3, [0, 155, 2, 0, 0, 10, 12014, 12016, 4001, 7017, 12017], 0), []), none, none, some ((.ifCond .eq 13, 3, [], 0), []), none, none, some ((.iload_n 2, 1, [], 0), []), some ((.i2l, 1, [], 0), []), some ((.lconst 0, 1, [], 0), []), some ((.lconst 1, 1, [], 0), []), some ((.invokestatic 64, 3, [1, 123, 3, 0, 0, 11131, 11132, 7017, 11133, 0], 0), []), none, none, some ((.ifCond .ne 6, 3, [], 0), [])],
  [none, none, some ((.bipush (-2), 2, [], 0), [true, true, true]), none, some ((.ireturn, 1, [], 0), []), some ((.aload_n 0, 1, [], 0), []), some ((.aload_n 0, 1, [], 0), []), some ((.iload_n 1, 1, [], 0), []), some ((.invokevirtual 203, 3, [0, 156, 2, 0, 0, 10, 12022, 12024, 4002, 7017, 12025], 0), []), none, none, some ((.invokevirtual 345, 3, [0, 185, 2, 0, 0, 10, 12134, 12136, 5000, 7017, 12137], 0), [false, true]), none, none, some ((.pop, 1, [], 0), [false, true]), some ((.iload_n 2, 1, [], 0), [])],
  [some ((.ifCond .ne 10, 3, [], 0), []), none, none, some ((.aload_n 0, 1, [], 0), []), some ((.getfield 303, 3, [10, 35, 11012], 0), []), none, none, some ((.goto 7, 3, [], 0), []), none, none, some ((.aload_n 0, 1, [], 0), []), some ((.getfield 297, 3, [10, 37, 11014], 0), []), none, none, some ((.ireturn, 1, [], 0), [true, true, true])]])
def kX10_within : zMeth := (yX10_within, cX10_within, 3, (some .int), { frames := 7, cells := 0, slots := 0, locals := 165 }, [
  [some ((.aload_n 0, 1, [], 0), []), some ((.iload_n 1, 1, [], 0), []), some ((.invokevirtual 200, 3, [0, 155, 2, 0, 0, 10, 12014, 12016, 4001, 7017, 12017], 0), []), none, none, some ((.ifCond .eq 28, 3, [], 0), []), none, none, some ((.iload_n 2, 1, [], 0), []), some ((.i2l, 1, [], 0), []), some ((.lconst 0, 1, [], 0), []), some ((.ldc2_w 361, 3, [0, 12207], 4), []), none, none, some ((.invokestatic 64, 3, [1, 123, 3, 0, 0, 11131, 11132, 7017, 11133, 0], 0), []), none],
  [none, some ((.ifCond .eq 16, 3, [], 0), []), none, none, some ((.aload_n 0, 1, [], 0), []), some ((.aload_n 0, 1, [], 0), []), some ((.iload_n 1, 1, [], 0), []), some ((.invokevirtual 203, 3, [0, 156, 2, 0, 0, 10, 12022, 12024, 4002, 7017, 12025], 0), []), none, none, some ((.iload_n 2, 1, [], 0), [true, true]), some ((.invokevirtual 363, 3, [0, 183, 3, 0, 0, 10, 12208, 12210, 5012, 7017, 12211], 0), []), none, none, some ((.goto 5, 3, [], 0), [true, true, true]), none],
  [none, some ((.bipush (-2), 2, [], 0), [true, true, true]), none, some ((.ireturn, 1, [], 0), [true, true, true])]])
def kX10_plain : zMeth := (yX10_plain, cX10_plain, 2, (some .int), { frames := 7, cells := 0, slots := 0, locals := 168 }, [
  [some ((.aload_n 0, 1, [], 0), []), some ((.iload_n 1, 1, [], 0), []), some ((.invokevirtual 200, 3, [0, 155, 2, 0, 0, 10, 12014, 12016, 4001, 7017, 12017], 0), []), none, none, some ((.ifCond .eq 16, 3, [], 0), []), none, none, some ((.aload_n 0, 1, [], 0), []), some ((.aload_n 0, 1, [], 0), []), some ((.iload_n 1, 1, [], 0), []), some ((.invokevirtual 203, 3, [0, 156, 2, 0, 0, 10, 12022, 12024, 4002, 7017, 12025], 0), []), none, none, some ((.iconst 0, 1, [], 0), [true, true]), some ((.invokevirtual 287, 3, [0, 182, 3, 0, 0, 10, 12074, 12076, 4005, 7017, 12077], 0), [])],
  [none, none, some ((.goto 5, 3, [], 0), [true, true]), none, none, some ((.bipush (-2), 2, [], 0), []), none, some ((.ireturn, 1, [], 0), [true, true])]])
def kX10_other : zMeth := (yX10_other, cX10_other, 3, (some .int), { frames := 7, cells := 0, slots := 0, locals := 168 }, [
  [some ((.aload_n 0, 1, [], 0), []), some ((.iload_n 1, 1, [], 0), []), some ((.invokevirtual 200, 3, [0, 155, 2, 0, 0, 10, 12014, 12016, 4001, 7017, 12017], 0), []), none, none, some ((.ifCond .eq 28, 3, [], 0), []), none, none, some ((.aload_n 0, 1, [], 0), []), some ((.iload_n 2, 1, [], 0), []), some ((.invokevirtual 196, 3, [0, 154, 2, 0, 0, 10, 12002, 12004, 4000, 7017, 12005], 0), []), none, none, some ((.ifCond .eq 20, 3, [], 0), []), none, none],
  [some ((.aload_n 0, 1, [], 0), []), some ((.aload_n 0, 1, [], 0), []), some ((.iload_n 1, 1, [], 0), []), some ((.invokevirtual 203, 3, [0, 156, 2, 0, 0, 10, 12022, 12024, 4002, 7017, 12025], 0), []), none, none, some ((.iconst 1, 1, [], 0), [true, true]), some ((.iload_n 2, 1, [], 0), []), some ((.ishl, 1, [], 0), []), some ((.ixor, 1, [], 0), []), some ((.iconst 1, 1, [], 0), []), some ((.invokevirtual 287, 3, [0, 182, 3, 0, 0, 10, 12074, 12076, 4005, 7017, 12077], 0), []), none, none, some ((.goto 5, 3, [], 0), [true, true, true]), none],
  [none, some ((.bipush (-2), 2, [], 0), [true, true, true]), none, some ((.ireturn, 1, [], 0), [true, true, true])]])
def kX10_shift : zMeth := (yX10_shift, cX10_shift, 3, (some .int), { frames := 7, cells := 0, slots := 0, locals := 168 }, [
  [some ((.aload_n 0, 1, [], 0), []), some ((.iload_n 1, 1, [], 0), []), some ((.invokevirtual 200, 3, [0, 155, 2, 0, 0, 10, 12014, 12016, 4001, 7017, 12017], 0), []), none, none, some ((.ifCond .eq 17, 3, [], 0), []), none, none, some ((.iload_n 2, 1, [], 0), []), some ((.i2l, 1, [], 0), []), some ((.ldc2_w 366, 3, [0, 12228], (-27)), []), none, none, some ((.ldc2_w 368, 3, [0, 12229], 27), []), none, none],
  [some ((.invokestatic 64, 3, [1, 123, 3, 0, 0, 11131, 11132, 7017, 11133, 0], 0), []), none, none, some ((.ifCond .ne 6, 3, [], 0), []), none, none, some ((.bipush (-2), 2, [], 0), [true, true, true]), none, some ((.ireturn, 1, [], 0), []), some ((.aload_n 0, 1, [], 0), []), some ((.iload_n 2, 1, [], 0), []), some ((.ifCond .ge 14, 3, [], 0), []), none, none, some ((.aload_n 0, 1, [], 0), []), some ((.iload_n 1, 1, [], 0), [])],
  [some ((.invokevirtual 203, 3, [0, 156, 2, 0, 0, 10, 12022, 12024, 4002, 7017, 12025], 0), []), none, none, some ((.iload_n 2, 1, [], 0), [false, true]), some ((.ineg, 1, [], 0), []), some ((.ishr, 1, [], 0), []), some ((.goto 10, 3, [], 0), []), none, none, some ((.aload_n 0, 1, [], 0), []), some ((.iload_n 1, 1, [], 0), []), some ((.invokevirtual 203, 3, [0, 156, 2, 0, 0, 10, 12022, 12024, 4002, 7017, 12025], 0), []), none, none, some ((.iload_n 2, 1, [], 0), [false, true]), some ((.ishl, 1, [], 0), [])],
  [some ((.aload_n 0, 1, [], 0), [false, true, true]), some ((.invokevirtual 370, 3, [0, 157, 1, 0, 0, 10, 12230, 12232, 5014, 7017, 12233], 0), []), none, none, some ((.iand, 1, [], 0), [true, true, true]), some ((.iconst 1, 1, [], 0), []), some ((.invokevirtual 287, 3, [0, 182, 3, 0, 0, 10, 12074, 12076, 4005, 7017, 12077], 0), []), none, none, some ((.ireturn, 1, [], 0), [true, true, true])]])
def kX10_least : zMeth := (yX10_least, cX10_least, 2, (some .int), { frames := 7, cells := 0, slots := 0, locals := 168 }, [
  [some ((.aload_n 0, 1, [], 0), []), some ((.getfield 9, 3, [10, 0, 10217], 0), []), none, none, some ((.iconst 4, 1, [], 0), []), some ((.iaload, 1, [], 0), []), some ((.ifCond .le 26, 3, [], 0), []), none, none, some ((.iload_n 1, 1, [], 0), []), some ((.i2l, 1, [], 0), []), some ((.lconst 0, 1, [], 0), []), some ((.aload_n 0, 1, [], 0), []), some ((.invokevirtual 370, 3, [0, 157, 1, 0, 0, 10, 12230, 12232, 5014, 7017, 12233], 0), []), none, none],
  [some ((.i2l, 1, [], 0), []), some ((.invokestatic 64, 3, [1, 123, 3, 0, 0, 11131, 11132, 7017, 11133, 0], 0), []), none, none, some ((.ifCond .eq 12, 3, [], 0), []), none, none, some ((.aload_n 0, 1, [], 0), []), some ((.iload_n 1, 1, [], 0), []), some ((.iconst 1, 1, [], 0), []), some ((.invokevirtual 287, 3, [0, 182, 3, 0, 0, 10, 12074, 12076, 4005, 7017, 12077], 0), []), none, none, some ((.goto 5, 3, [], 0), [true, true]), none, none],
  [some ((.bipush (-2), 2, [], 0), [true, true]), none, some ((.ireturn, 1, [], 0), [true, true])]])
def kX10_readsAlone : zMeth := (yX10_readsAlone, cX10_readsAlone, 2, (some .int), { frames := 12, cells := 0, slots := 0, locals := 266 }, [
  [some ((.aload_n 0, 1, [], 0), []), some ((.invokevirtual 175, 3, [0, 149, 1, 0, 0, 10, 11138, 11140, 2011, 7017, 11141], 0), []), none, none, some ((.aload_n 0, 1, [], 0), []), some ((.invokevirtual 157, 3, [0, 144, 1, 0, 0, 10, 11206, 11208, 3010, 7017, 11209], 0), []), none, none, some ((.istore_n 1, 1, [], 0), []), some ((.aload_n 0, 1, [], 0), []), some ((.getfield 109, 3, [10, 14, 10231], 0), []), none, none, some ((.ifCond .ne 15, 3, [], 0), []), none, none],
  [some ((.aload_n 0, 1, [], 0), []), some ((.getfield 84, 3, [10, 10, 10227], 0), []), none, none, some ((.ifCond .eq 8, 3, [], 0), []), none, none, some ((.aload_n 0, 1, [], 0), []), some ((.iconst 1, 1, [], 0), []), some ((.invokevirtual 119, 3, [0, 134, 2, 0, 0, 10, 11167, 11169, 3001, 7017, 11170], 0), []), none, none, some ((.aload_n 0, 1, [], 0), []), some ((.iconst 0, 1, [], 0), []), some ((.putfield 61, 3, [10, 5, 10222], 0), []), none],
  [none, some ((.iload_n 1, 1, [], 0), []), some ((.ireturn, 1, [], 0), [])]])
def kX10_tells : zMeth := (yX10_tells, cX10_tells, 2, (some .int), { frames := 13, cells := 0, slots := 0, locals := 287 }, [
  [some ((.aload_n 0, 1, [], 0), []), some ((.getfield 9, 3, [10, 0, 10217], 0), []), none, none, some ((.iconst 4, 1, [], 0), []), some ((.iaload, 1, [], 0), []), some ((.ifCond .ne 6, 3, [], 0), []), none, none, some ((.bipush (-2), 2, [], 0), []), none, some ((.ireturn, 1, [], 0), []), some ((.aload_n 0, 1, [], 0), []), some ((.invokevirtual 373, 3, [0, 211, 1, 0, 0, 10, 13002, 13004, 5015, 7017, 13005], 0), []), none, none],
  [some ((.istore_n 1, 1, [], 0), []), some ((.aload_n 0, 1, [], 0), []), some ((.iconst 1, 1, [], 0), []), some ((.putfield 193, 3, [10, 43, 11020], 0), []), none, none, some ((.aload_n 0, 1, [], 0), []), some ((.aload_n 0, 1, [], 0), []), some ((.getfield 109, 3, [10, 14, 10231], 0), []), none, none, some ((.ifCond .eq 7, 3, [], 0), []), none, none, some ((.iconst (-1), 1, [], 0), []), some ((.goto 4, 3, [], 0), [])],
  [none, none, some ((.iload_n 1, 1, [], 0), []), some ((.putfield 376, 3, [10, 44, 11021], 0), []), none, none, some ((.aload_n 0, 1, [], 0), []), some ((.aload_n 0, 1, [], 0), []), some ((.getfield 109, 3, [10, 14, 10231], 0), []), none, none, some ((.ifCond .eq 7, 3, [], 0), []), none, none, some ((.iconst (-1), 1, [], 0), []), some ((.goto 7, 3, [], 0), [])],
  [none, none, some ((.aload_n 0, 1, [], 0), []), some ((.getfield 126, 3, [10, 13, 10230], 0), []), none, none, some ((.putfield 379, 3, [10, 45, 11022], 0), []), none, none, some ((.aload_n 0, 1, [], 0), []), some ((.aload_n 0, 1, [], 0), []), some ((.getfield 113, 3, [10, 15, 10232], 0), []), none, none, some ((.putfield 382, 3, [10, 46, 11023], 0), []), none],
  [none, some ((.aload_n 0, 1, [], 0), []), some ((.aload_n 0, 1, [], 0), []), some ((.getfield 116, 3, [10, 16, 10233], 0), []), none, none, some ((.putfield 385, 3, [10, 47, 11024], 0), []), none, none, some ((.aload_n 0, 1, [], 0), []), some ((.getfield 109, 3, [10, 14, 10231], 0), []), none, none, some ((.ifCond .eq 8, 3, [], 0), []), none, none],
  [some ((.bipush (-4), 2, [], 0), []), none, some ((.goto 7, 3, [], 0), []), none, none, some ((.iload_n 1, 1, [], 0), []), some ((.invokestatic 210, 3, [1, 125, 1, 0, 0, 12037, 12038, 7017, 12039, 0], 0), []), none, none, some ((.ireturn, 1, [], 0), [true, true])]])
def kX10_told : zMeth := (yX10_told, cX10_told, 2, (some .int), { frames := 0, cells := 0, slots := 0, locals := 0 }, [
  [some ((.aload_n 0, 1, [], 0), []), some ((.getfield 193, 3, [10, 43, 11020], 0), []), none, none, some ((.ifCond .ne 5, 3, [], 0), []), none, none, some ((.iconst (-1), 1, [], 0), []), some ((.ireturn, 1, [], 0), []), some ((.iload_n 1, 1, [], 0), []), some ((.tableswitch 50 0 3 #[30, 35, 40, 45], 30, [], 0), []), none, none, none, none, none],
  [none, none, none, none, none, none, none, none, none, none, none, none, none, none, none, none],
  [none, none, none, none, none, none, none, none, some ((.aload_n 0, 1, [], 0), []), some ((.getfield 376, 3, [10, 44, 11021], 0), []), none, none, some ((.ireturn, 1, [], 0), []), some ((.aload_n 0, 1, [], 0), []), some ((.getfield 379, 3, [10, 45, 11022], 0), []), none],
  [none, some ((.ireturn, 1, [], 0), []), some ((.aload_n 0, 1, [], 0), []), some ((.getfield 382, 3, [10, 46, 11023], 0), []), none, none, some ((.ireturn, 1, [], 0), []), some ((.aload_n 0, 1, [], 0), []), some ((.getfield 385, 3, [10, 47, 11024], 0), []), none, none, some ((.ireturn, 1, [], 0), []), some ((.iconst (-1), 1, [], 0), []), some ((.ireturn, 1, [], 0), [])]])
def kX10_worse : zMeth := (yX10_worse, cX10_worse, 1, (some .int), { frames := 7, cells := 0, slots := 0, locals := 168 }, [
  [some ((.aload_n 0, 1, [], 0), []), some ((.getfield 193, 3, [10, 43, 11020], 0), []), none, none, some ((.ifCond .eq 10, 3, [], 0), []), none, none, some ((.aload_n 0, 1, [], 0), []), some ((.getfield 382, 3, [10, 46, 11023], 0), []), none, none, some ((.ifCond .le 7, 3, [], 0), []), none, none, some ((.iconst (-1), 1, [], 0), [true]), some ((.goto 17, 3, [], 0), [])],
  [none, none, some ((.aload_n 0, 1, [], 0), []), some ((.getfield 379, 3, [10, 45, 11022], 0), []), none, none, some ((.aload_n 0, 1, [], 0), []), some ((.aload_n 0, 1, [], 0), []), some ((.getfield 376, 3, [10, 44, 11021], 0), []), none, none, some ((.iconst 1, 1, [], 0), []), some ((.invokevirtual 287, 3, [0, 182, 3, 0, 0, 10, 12074, 12076, 4005, 7017, 12077], 0), []), none, none, some ((.isub, 1, [], 0), [true])],
  [some ((.ireturn, 1, [], 0), [true])]])
def kX10_shares : zMeth := (yX10_shares, cX10_shares, 3, (some .int), { frames := 2, cells := 0, slots := 0, locals := 46 }, [
  [some ((.aload_n 0, 1, [], 0), []), some ((.iload_n 1, 1, [], 0), []), some ((.invokevirtual 200, 3, [0, 155, 2, 0, 0, 10, 12014, 12016, 4001, 7017, 12017], 0), []), none, none, some ((.ifCond .eq 25, 3, [], 0), []), none, none, some ((.aload_n 0, 1, [], 0), []), some ((.iload_n 2, 1, [], 0), []), some ((.invokevirtual 200, 3, [0, 155, 2, 0, 0, 10, 12014, 12016, 4001, 7017, 12017], 0), []), none, none, some ((.ifCond .eq 17, 3, [], 0), []), none, none],
  [some ((.aload_n 0, 1, [], 0), []), some ((.iload_n 1, 1, [], 0), []), some ((.invokevirtual 203, 3, [0, 156, 2, 0, 0, 10, 12022, 12024, 4002, 7017, 12025], 0), []), none, none, some ((.aload_n 0, 1, [], 0), [false, true]), some ((.iload_n 2, 1, [], 0), []), some ((.invokevirtual 203, 3, [0, 156, 2, 0, 0, 10, 12022, 12024, 4002, 7017, 12025], 0), []), none, none, some ((.iand, 1, [], 0), [true, true, true]), some ((.goto 5, 3, [], 0), []), none, none, some ((.bipush (-2), 2, [], 0), [true, true, true]), none],
  [some ((.ireturn, 1, [], 0), [true, true, true])]])
def kX10_same : zMeth := (yX10_same, cX10_same, 3, (some .int), { frames := 2, cells := 0, slots := 0, locals := 46 }, [
  [some ((.aload_n 0, 1, [], 0), []), some ((.iload_n 1, 1, [], 0), []), some ((.invokevirtual 200, 3, [0, 155, 2, 0, 0, 10, 12014, 12016, 4001, 7017, 12017], 0), []), none, none, some ((.ifCond .eq 35, 3, [], 0), []), none, none, some ((.aload_n 0, 1, [], 0), []), some ((.iload_n 2, 1, [], 0), []), some ((.invokevirtual 200, 3, [0, 155, 2, 0, 0, 10, 12014, 12016, 4001, 7017, 12017], 0), []), none, none, some ((.ifCond .eq 27, 3, [], 0), []), none, none],
  [some ((.aload_n 0, 1, [], 0), []), some ((.iload_n 1, 1, [], 0), []), some ((.invokevirtual 203, 3, [0, 156, 2, 0, 0, 10, 12022, 12024, 4002, 7017, 12025], 0), []), none, none, some ((.aload_n 0, 1, [], 0), [false, true]), some ((.iload_n 2, 1, [], 0), []), some ((.invokevirtual 203, 3, [0, 156, 2, 0, 0, 10, 12022, 12024, 4002, 7017, 12025], 0), []), none, none, some ((.if_icmp .ne 7, 3, [], 0), [true, true, true]), none, none, some ((.iconst 1, 1, [], 0), []), some ((.goto 4, 3, [], 0), []), none],
  [none, some ((.iconst 0, 1, [], 0), []), some ((.invokestatic 206, 3, [1, 126, 1, 0, 0, 12030, 12031, 7017, 12032, 0], 0), [true, true, true]), none, none, some ((.goto 5, 3, [], 0), [true, true, true]), none, none, some ((.bipush (-2), 2, [], 0), [true, true, true]), none, some ((.ireturn, 1, [], 0), [true, true, true])]])
def kX10_isJoined : zMeth := (yX10_isJoined, cX10_isJoined, 3, (some .boolean), { frames := 0, cells := 0, slots := 0, locals := 0 }, [
  [some ((.aload_n 0, 1, [], 0), []), some ((.getfield 9, 3, [10, 0, 10217], 0), []), none, none, some ((.bipush 26, 2, [], 0), []), none, some ((.iload_n 1, 1, [], 0), []), some ((.iadd, 1, [], 0), []), some ((.iaload, 1, [], 0), []), some ((.aload_n 0, 1, [], 0), []), some ((.getfield 9, 3, [10, 0, 10217], 0), []), none, none, some ((.bipush 26, 2, [], 0), []), none, some ((.iload_n 2, 1, [], 0), [])],
  [some ((.iadd, 1, [], 0), []), some ((.iaload, 1, [], 0), []), some ((.if_icmp .ne 28, 3, [], 0), []), none, none, some ((.aload_n 0, 1, [], 0), []), some ((.getfield 9, 3, [10, 0, 10217], 0), []), none, none, some ((.bipush 32, 2, [], 0), []), none, some ((.iload_n 1, 1, [], 0), []), some ((.iadd, 1, [], 0), []), some ((.iaload, 1, [], 0), []), some ((.aload_n 0, 1, [], 0), []), some ((.getfield 9, 3, [10, 0, 10217], 0), [])],
  [none, none, some ((.bipush 32, 2, [], 0), []), none, some ((.iload_n 2, 1, [], 0), []), some ((.iadd, 1, [], 0), []), some ((.iaload, 1, [], 0), []), some ((.if_icmp .ne 7, 3, [], 0), []), none, none, some ((.iconst 1, 1, [], 0), [true, true, true]), some ((.goto 4, 3, [], 0), []), none, none, some ((.iconst 0, 1, [], 0), [true, true, true]), some ((.ireturn, 1, [], 0), [true, true, true])]])
def kX10_joinOf : zMeth := (yX10_joinOf, cX10_joinOf, 3, (some .int), { frames := 1, cells := 0, slots := 0, locals := 22 }, [
  [some ((.iconst 0, 1, [], 0), []), some ((.istore_n 2, 1, [], 0), []), some ((.aload_n 0, 1, [], 0), []), some ((.iload_n 1, 1, [], 0), []), some ((.iload_n 2, 1, [], 0), []), some ((.invokevirtual 388, 3, [0, 217, 3, 0, 0, 10, 13030, 13032, 6001, 7017, 13033], 0), []), none, none, some ((.ifCond .ne 9, 3, [], 0), []), none, none, some ((.iinc 2 1, 3, [], 0), []), none, none, some ((.goto (-12), 3, [], 0), []), none],
  [none, some ((.iload_n 2, 1, [], 0), []), some ((.ireturn, 1, [], 0), [])]])
def kX10_jointOf : zMeth := (yX10_jointOf, cX10_jointOf, 6, (some .int), { frames := 1, cells := 0, slots := 0, locals := 22 }, [
  [some ((.iconst 0, 1, [], 0), []), some ((.istore_n 3, 1, [], 0), []), some ((.iconst 0, 1, [], 0), []), some ((.istore 4, 2, [], 0), []), none, some ((.iconst 0, 1, [], 0), []), some ((.istore 5, 2, [], 0), []), none, some ((.iload 5, 2, [], 0), []), none, some ((.aload_n 0, 1, [], 0), []), some ((.getfield 9, 3, [10, 0, 10217], 0), []), none, none, some ((.iconst 3, 1, [], 0), []), some ((.iaload, 1, [], 0), [])],
  [some ((.if_icmp .ge 41, 3, [], 0), []), none, none, some ((.aload_n 0, 1, [], 0), []), some ((.iload_n 1, 1, [], 0), []), some ((.iload 5, 2, [], 0), []), none, some ((.invokevirtual 388, 3, [0, 217, 3, 0, 0, 10, 13030, 13032, 6001, 7017, 13033], 0), []), none, none, some ((.ifCond .eq 25, 3, [], 0), []), none, none, some ((.iload 4, 2, [], 0), []), none, some ((.iload_n 3, 1, [], 0), [])],
  [some ((.aload_n 0, 1, [], 0), []), some ((.iload 5, 2, [], 0), []), none, some ((.invokevirtual 203, 3, [0, 156, 2, 0, 0, 10, 12022, 12024, 4002, 7017, 12025], 0), []), none, none, some ((.iand, 1, [], 0), [false, false, false, false, true]), some ((.ior, 1, [], 0), []), some ((.istore 4, 2, [], 0), []), none, some ((.iload_n 3, 1, [], 0), []), some ((.aload_n 0, 1, [], 0), []), some ((.iload 5, 2, [], 0), []), none, some ((.invokevirtual 203, 3, [0, 156, 2, 0, 0, 10, 12022, 12024, 4002, 7017, 12025], 0), []), none],
  [none, some ((.ior, 1, [], 0), [false, false, false, true]), some ((.istore_n 3, 1, [], 0), []), some ((.iinc 5 1, 3, [], 0), []), none, none, some ((.goto (-46), 3, [], 0), []), none, none, some ((.iload_n 2, 1, [], 0), []), some ((.ifCond .eq 8, 3, [], 0), []), none, none, some ((.iload 4, 2, [], 0), []), none, some ((.goto 4, 3, [], 0), [])],
  [none, none, some ((.iload_n 3, 1, [], 0), []), some ((.ireturn, 1, [], 0), [true, true, true, true, true, true])]])
def kX10_join : zMeth := (yX10_join, cX10_join, 2, (some .int), { frames := 2, cells := 0, slots := 0, locals := 46 }, [
  [some ((.aload_n 0, 1, [], 0), []), some ((.iload_n 1, 1, [], 0), []), some ((.invokevirtual 200, 3, [0, 155, 2, 0, 0, 10, 12014, 12016, 4001, 7017, 12017], 0), []), none, none, some ((.ifCond .eq 11, 3, [], 0), []), none, none, some ((.aload_n 0, 1, [], 0), []), some ((.iload_n 1, 1, [], 0), []), some ((.invokevirtual 391, 3, [0, 218, 2, 0, 0, 10, 13026, 13028, 6000, 7017, 13029], 0), []), none, none, some ((.goto 5, 3, [], 0), [true, true]), none, none],
  [some ((.bipush (-2), 2, [], 0), []), none, some ((.ireturn, 1, [], 0), [true, true])]])
def kX10_joint : zMeth := (yX10_joint, cX10_joint, 2, (some .int), { frames := 2, cells := 0, slots := 0, locals := 47 }, [
  [some ((.aload_n 0, 1, [], 0), []), some ((.iload_n 1, 1, [], 0), []), some ((.invokevirtual 200, 3, [0, 155, 2, 0, 0, 10, 12014, 12016, 4001, 7017, 12017], 0), []), none, none, some ((.ifCond .eq 12, 3, [], 0), []), none, none, some ((.aload_n 0, 1, [], 0), []), some ((.iload_n 1, 1, [], 0), []), some ((.iconst 0, 1, [], 0), []), some ((.invokevirtual 394, 3, [0, 219, 3, 0, 0, 10, 13038, 13040, 6002, 7017, 13041], 0), []), none, none, some ((.goto 5, 3, [], 0), [true, true]), none],
  [none, some ((.bipush (-2), 2, [], 0), []), none, some ((.ireturn, 1, [], 0), [true, true])]])
def kX10_twice : zMeth := (yX10_twice, cX10_twice, 2, (some .int), { frames := 2, cells := 0, slots := 0, locals := 47 }, [
  [some ((.aload_n 0, 1, [], 0), []), some ((.iload_n 1, 1, [], 0), []), some ((.invokevirtual 200, 3, [0, 155, 2, 0, 0, 10, 12014, 12016, 4001, 7017, 12017], 0), []), none, none, some ((.ifCond .eq 12, 3, [], 0), []), none, none, some ((.aload_n 0, 1, [], 0), []), some ((.iload_n 1, 1, [], 0), []), some ((.iconst 1, 1, [], 0), []), some ((.invokevirtual 394, 3, [0, 219, 3, 0, 0, 10, 13038, 13040, 6002, 7017, 13041], 0), []), none, none, some ((.goto 5, 3, [], 0), [true, true]), none],
  [none, some ((.bipush (-2), 2, [], 0), []), none, some ((.ireturn, 1, [], 0), [true, true])]])
def kX10_saved : zMeth := (yX10_saved, cX10_saved, 3, (some .int), { frames := 7, cells := 0, slots := 0, locals := 168 }, [
  [some ((.aload_n 0, 1, [], 0), []), some ((.getfield 9, 3, [10, 0, 10217], 0), []), none, none, some ((.iconst 4, 1, [], 0), []), some ((.iaload, 1, [], 0), []), some ((.ifCond .ne 6, 3, [], 0), []), none, none, some ((.bipush (-2), 2, [], 0), []), none, some ((.ireturn, 1, [], 0), []), some ((.iconst 0, 1, [], 0), []), some ((.istore_n 1, 1, [], 0), []), some ((.iconst 0, 1, [], 0), []), some ((.istore_n 2, 1, [], 0), [])],
  [some ((.iload_n 2, 1, [], 0), []), some ((.aload_n 0, 1, [], 0), []), some ((.getfield 9, 3, [10, 0, 10217], 0), []), none, none, some ((.iconst 3, 1, [], 0), []), some ((.iaload, 1, [], 0), []), some ((.if_icmp .ge 49, 3, [], 0), []), none, none, some ((.iload_n 1, 1, [], 0), []), some ((.aload_n 0, 1, [], 0), []), some ((.aload_n 0, 1, [], 0), []), some ((.iload_n 2, 1, [], 0), []), some ((.invokevirtual 203, 3, [0, 156, 2, 0, 0, 10, 12022, 12024, 4002, 7017, 12025], 0), []), none],
  [none, some ((.iconst 1, 1, [], 0), [false, true]), some ((.invokevirtual 287, 3, [0, 182, 3, 0, 0, 10, 12074, 12076, 4005, 7017, 12077], 0), []), none, none, some ((.iadd, 1, [], 0), [false, true]), some ((.istore_n 1, 1, [], 0), []), some ((.iload_n 1, 1, [], 0), []), some ((.aload_n 0, 1, [], 0), []), some ((.iload_n 2, 1, [], 0), []), some ((.invokevirtual 391, 3, [0, 218, 2, 0, 0, 10, 13026, 13028, 6000, 7017, 13029], 0), []), none, none, some ((.iload_n 2, 1, [], 0), [false, true]), some ((.if_icmp .ne 17, 3, [], 0), []), none],
  [none, some ((.aload_n 0, 1, [], 0), []), some ((.aload_n 0, 1, [], 0), []), some ((.iload_n 2, 1, [], 0), []), some ((.iconst 0, 1, [], 0), []), some ((.invokevirtual 394, 3, [0, 219, 3, 0, 0, 10, 13038, 13040, 6002, 7017, 13041], 0), []), none, none, some ((.iconst 1, 1, [], 0), [false, true]), some ((.invokevirtual 287, 3, [0, 182, 3, 0, 0, 10, 12074, 12076, 4005, 7017, 12077], 0), []), none, none, some ((.goto 4, 3, [], 0), [false, true]), none, none, some ((.iconst 0, 1, [], 0), [])],
  [some ((.isub, 1, [], 0), [false, true]), some ((.istore_n 1, 1, [], 0), []), some ((.iinc 2 1, 3, [], 0), []), none, none, some ((.goto (-53), 3, [], 0), []), none, none, some ((.iload_n 1, 1, [], 0), []), some ((.ireturn, 1, [], 0), [])]])
def kX10_crowdOf : zMeth := (yX10_crowdOf, cX10_crowdOf, 4, (some .int), { frames := 1, cells := 0, slots := 0, locals := 21 }, [
  [some ((.iconst 0, 1, [], 0), []), some ((.istore_n 2, 1, [], 0), []), some ((.iconst 0, 1, [], 0), []), some ((.istore_n 3, 1, [], 0), []), some ((.iload_n 3, 1, [], 0), []), some ((.aload_n 0, 1, [], 0), []), some ((.getfield 9, 3, [10, 0, 10217], 0), []), none, none, some ((.iconst 3, 1, [], 0), []), some ((.iaload, 1, [], 0), []), some ((.if_icmp .ge 31, 3, [], 0), []), none, none, some ((.iload_n 2, 1, [], 0), []), some ((.aload_n 0, 1, [], 0), [])],
  [some ((.iload_n 3, 1, [], 0), []), some ((.invokevirtual 203, 3, [0, 156, 2, 0, 0, 10, 12022, 12024, 4002, 7017, 12025], 0), []), none, none, some ((.iload_n 1, 1, [], 0), [false, false, true]), some ((.invokestatic 143, 3, [1, 124, 2, 0, 0, 11195, 11196, 7017, 11197, 0], 0), []), none, none, some ((.ifCond .eq 9, 3, [], 0), [false, false, true]), none, none, some ((.iconst 1, 1, [], 0), []), some ((.iload_n 3, 1, [], 0), []), some ((.ishl, 1, [], 0), []), some ((.goto 4, 3, [], 0), []), none],
  [none, some ((.iconst 0, 1, [], 0), []), some ((.ior, 1, [], 0), [false, false, true]), some ((.istore_n 2, 1, [], 0), []), some ((.iinc 3 1, 3, [], 0), []), none, none, some ((.goto (-35), 3, [], 0), []), none, none, some ((.iload_n 2, 1, [], 0), []), some ((.ireturn, 1, [], 0), [])]])
def kX10_crowd : zMeth := (yX10_crowd, cX10_crowd, 2, (some .int), { frames := 2, cells := 0, slots := 0, locals := 46 }, [
  [some ((.aload_n 0, 1, [], 0), []), some ((.iload_n 1, 1, [], 0), []), some ((.invokevirtual 196, 3, [0, 154, 2, 0, 0, 10, 12002, 12004, 4000, 7017, 12005], 0), []), none, none, some ((.ifCond .eq 11, 3, [], 0), []), none, none, some ((.aload_n 0, 1, [], 0), []), some ((.iload_n 1, 1, [], 0), []), some ((.invokevirtual 397, 3, [0, 224, 2, 0, 0, 10, 13054, 13056, 6003, 7017, 13057], 0), []), none, none, some ((.goto 5, 3, [], 0), [true, true]), none, none],
  [some ((.bipush (-2), 2, [], 0), []), none, some ((.ireturn, 1, [], 0), [true, true])]])
def kX10_full : zMeth := (yX10_full, cX10_full, 3, (some .int), { frames := 2, cells := 0, slots := 0, locals := 44 }, [
  [some ((.aload_n 0, 1, [], 0), []), some ((.getfield 9, 3, [10, 0, 10217], 0), []), none, none, some ((.iconst 4, 1, [], 0), []), some ((.iaload, 1, [], 0), []), some ((.ifCond .ne 6, 3, [], 0), []), none, none, some ((.bipush (-2), 2, [], 0), []), none, some ((.ireturn, 1, [], 0), []), some ((.iconst 0, 1, [], 0), []), some ((.istore_n 1, 1, [], 0), []), some ((.iconst 1, 1, [], 0), []), some ((.istore_n 2, 1, [], 0), [])],
  [some ((.iload_n 2, 1, [], 0), []), some ((.aload_n 0, 1, [], 0), []), some ((.getfield 9, 3, [10, 0, 10217], 0), []), none, none, some ((.iconst 0, 1, [], 0), []), some ((.iaload, 1, [], 0), []), some ((.if_icmp .ge 34, 3, [], 0), []), none, none, some ((.aload_n 0, 1, [], 0), []), some ((.iload_n 2, 1, [], 0), []), some ((.invokevirtual 397, 3, [0, 224, 2, 0, 0, 10, 13054, 13056, 6003, 7017, 13057], 0), []), none, none, some ((.invokestatic 210, 3, [1, 125, 1, 0, 0, 12037, 12038, 7017, 12039, 0], 0), [])],
  [none, none, some ((.aload_n 0, 1, [], 0), []), some ((.iload_n 1, 1, [], 0), []), some ((.invokevirtual 397, 3, [0, 224, 2, 0, 0, 10, 13054, 13056, 6003, 7017, 13057], 0), []), none, none, some ((.invokestatic 210, 3, [1, 125, 1, 0, 0, 12037, 12038, 7017, 12039, 0], 0), []), none, none, some ((.if_icmp .le 7, 3, [], 0), []), none, none, some ((.iload_n 2, 1, [], 0), []), some ((.goto 4, 3, [], 0), []), none],
  [none, some ((.iload_n 1, 1, [], 0), []), some ((.istore_n 1, 1, [], 0), [false, true]), some ((.iinc 2 1, 3, [], 0), []), none, none, some ((.goto (-38), 3, [], 0), []), none, none, some ((.iload_n 1, 1, [], 0), []), some ((.ireturn, 1, [], 0), [])]])
def kX10_keeps : zMeth := (yX10_keeps, cX10_keeps, 2, none, { frames := 0, cells := 0, slots := 0, locals := 0 }, [
  [some ((.iconst 0, 1, [], 0), []), some ((.istore_n 1, 1, [], 0), []), some ((.iload_n 1, 1, [], 0), []), some ((.bipush 6, 2, [], 0), []), none, some ((.if_icmp .ge 32, 3, [], 0), []), none, none, some ((.aload_n 0, 1, [], 0), []), some ((.getfield 16, 3, [10, 2, 10219], 0), []), none, none, some ((.bipush 6, 2, [], 0), []), none, some ((.aload_n 0, 1, [], 0), []), some ((.getfield 190, 3, [10, 3, 10220], 0), [])],
  [none, none, some ((.imul, 1, [], 0), []), some ((.iload_n 1, 1, [], 0), []), some ((.iadd, 1, [], 0), []), some ((.aload_n 0, 1, [], 0), []), some ((.getfield 9, 3, [10, 0, 10217], 0), []), none, none, some ((.bipush 38, 2, [], 0), []), none, some ((.iload_n 1, 1, [], 0), []), some ((.iadd, 1, [], 0), []), some ((.iaload, 1, [], 0), []), some ((.iastore, 1, [], 0), []), some ((.iinc 1 1, 3, [], 0), [])],
  [none, none, some ((.goto (-32), 3, [], 0), []), none, none, some ((.aload_n 0, 1, [], 0), []), some ((.dup, 1, [], 0), []), some ((.getfield 190, 3, [10, 3, 10220], 0), []), none, none, some ((.iconst 1, 1, [], 0), []), some ((.iadd, 1, [], 0), []), some ((.putfield 190, 3, [10, 3, 10220], 0), []), none, none, some ((.return_, 1, [], 0), [true, true])]])
def kX10_goesBack : zMeth := (yX10_goesBack, cX10_goesBack, 3, none, { frames := 0, cells := 0, slots := 0, locals := 0 }, [
  [some ((.aload_n 0, 1, [], 0), []), some ((.iload_n 1, 1, [], 0), []), some ((.putfield 190, 3, [10, 3, 10220], 0), []), none, none, some ((.iconst 0, 1, [], 0), []), some ((.istore_n 2, 1, [], 0), []), some ((.iload_n 2, 1, [], 0), []), some ((.bipush 6, 2, [], 0), []), none, some ((.if_icmp .ge 29, 3, [], 0), []), none, none, some ((.aload_n 0, 1, [], 0), []), some ((.getfield 9, 3, [10, 0, 10217], 0), []), none],
  [none, some ((.bipush 38, 2, [], 0), []), none, some ((.iload_n 2, 1, [], 0), []), some ((.iadd, 1, [], 0), []), some ((.aload_n 0, 1, [], 0), []), some ((.getfield 16, 3, [10, 2, 10219], 0), []), none, none, some ((.bipush 6, 2, [], 0), []), none, some ((.iload_n 1, 1, [], 0), []), some ((.imul, 1, [], 0), []), some ((.iload_n 2, 1, [], 0), []), some ((.iadd, 1, [], 0), []), some ((.iaload, 1, [], 0), [])],
  [some ((.iastore, 1, [], 0), []), some ((.iinc 2 1, 3, [], 0), []), none, none, some ((.goto (-29), 3, [], 0), []), none, none, some ((.return_, 1, [], 0), [])]])
def kX10_flips : zMeth := (yX10_flips, cX10_flips, 3, (some .int), { frames := 7, cells := 0, slots := 0, locals := 168 }, [
  [some ((.aload_n 0, 1, [], 0), []), some ((.iload_n 1, 1, [], 0), []), some ((.invokevirtual 200, 3, [0, 155, 2, 0, 0, 10, 12014, 12016, 4001, 7017, 12017], 0), []), none, none, some ((.ifCond .eq 11, 3, [], 0), []), none, none, some ((.aload_n 0, 1, [], 0), []), some ((.iload_n 2, 1, [], 0), []), some ((.invokevirtual 196, 3, [0, 154, 2, 0, 0, 10, 12002, 12004, 4000, 7017, 12005], 0), []), none, none, some ((.ifCond .ne 6, 3, [], 0), []), none, none],
  [some ((.bipush (-2), 2, [], 0), [true, true, true]), none, some ((.ireturn, 1, [], 0), []), some ((.aload_n 0, 1, [], 0), []), some ((.getfield 190, 3, [10, 3, 10220], 0), []), none, none, some ((.bipush 20, 2, [], 0), []), none, some ((.if_icmp .ne 6, 3, [], 0), []), none, none, some ((.bipush (-5), 2, [], 0), []), none, some ((.ireturn, 1, [], 0), []), some ((.aload_n 0, 1, [], 0), [])],
  [some ((.invokevirtual 400, 3, [0, 227, 1, 0, 0, 10, 13066, 13068, 6004, 7017, 13069], 0), []), none, none, some ((.aload_n 0, 1, [], 0), []), some ((.getfield 9, 3, [10, 0, 10217], 0), []), none, none, some ((.bipush 38, 2, [], 0), []), none, some ((.iload_n 1, 1, [], 0), []), some ((.iadd, 1, [], 0), []), some ((.dup2, 1, [], 0), []), some ((.iaload, 1, [], 0), []), some ((.iconst 1, 1, [], 0), []), some ((.iload_n 2, 1, [], 0), []), some ((.ishl, 1, [], 0), [])],
  [some ((.ixor, 1, [], 0), []), some ((.iastore, 1, [], 0), []), some ((.aload_n 0, 1, [], 0), []), some ((.aload_n 0, 1, [], 0), []), some ((.iload_n 1, 1, [], 0), []), some ((.invokevirtual 203, 3, [0, 156, 2, 0, 0, 10, 12022, 12024, 4002, 7017, 12025], 0), []), none, none, some ((.iconst 1, 1, [], 0), [true, true, true]), some ((.invokevirtual 287, 3, [0, 182, 3, 0, 0, 10, 12074, 12076, 4005, 7017, 12077], 0), []), none, none, some ((.ireturn, 1, [], 0), [true, true, true])]])
def kX10_sets : zMeth := (yX10_sets, cX10_sets, 3, (some .int), { frames := 13, cells := 0, slots := 0, locals := 287 }, [
  [some ((.aload_n 0, 1, [], 0), []), some ((.iload_n 1, 1, [], 0), []), some ((.invokevirtual 200, 3, [0, 155, 2, 0, 0, 10, 12014, 12016, 4001, 7017, 12017], 0), []), none, none, some ((.ifCond .ne 6, 3, [], 0), []), none, none, some ((.bipush (-2), 2, [], 0), []), none, some ((.ireturn, 1, [], 0), []), some ((.aload_n 0, 1, [], 0), []), some ((.getfield 190, 3, [10, 3, 10220], 0), []), none, none, some ((.bipush 20, 2, [], 0), [])],
  [none, some ((.if_icmp .ne 11, 3, [], 0), []), none, none, some ((.aload_n 0, 1, [], 0), []), some ((.iconst 0, 1, [], 0), []), some ((.putfield 61, 3, [10, 5, 10222], 0), []), none, none, some ((.bipush (-5), 2, [], 0), []), none, some ((.ireturn, 1, [], 0), []), some ((.aload_n 0, 1, [], 0), []), some ((.invokevirtual 373, 3, [0, 211, 1, 0, 0, 10, 13002, 13004, 5015, 7017, 13005], 0), []), none, none],
  [some ((.istore_n 2, 1, [], 0), []), some ((.aload_n 0, 1, [], 0), []), some ((.getfield 109, 3, [10, 14, 10231], 0), []), none, none, some ((.ifCond .eq 6, 3, [], 0), []), none, none, some ((.bipush (-4), 2, [], 0), []), none, some ((.ireturn, 1, [], 0), []), some ((.aload_n 0, 1, [], 0), []), some ((.invokevirtual 400, 3, [0, 227, 1, 0, 0, 10, 13066, 13068, 6004, 7017, 13069], 0), []), none, none, some ((.aload_n 0, 1, [], 0), [])],
  [some ((.getfield 9, 3, [10, 0, 10217], 0), []), none, none, some ((.bipush 38, 2, [], 0), []), none, some ((.iload_n 1, 1, [], 0), []), some ((.iadd, 1, [], 0), []), some ((.iload_n 2, 1, [], 0), []), some ((.iastore, 1, [], 0), []), some ((.iload_n 2, 1, [], 0), []), some ((.invokestatic 210, 3, [1, 125, 1, 0, 0, 12037, 12038, 7017, 12039, 0], 0), []), none, none, some ((.ireturn, 1, [], 0), [true, true, true])]])
def kX10_merges : zMeth := (yX10_merges, cX10_merges, 5, (some .int), { frames := 2, cells := 0, slots := 0, locals := 47 }, [
  [some ((.aload_n 0, 1, [], 0), []), some ((.getfield 9, 3, [10, 0, 10217], 0), []), none, none, some ((.iconst 4, 1, [], 0), []), some ((.iaload, 1, [], 0), []), some ((.ifCond .ne 6, 3, [], 0), []), none, none, some ((.bipush (-2), 2, [], 0), []), none, some ((.ireturn, 1, [], 0), []), some ((.aload_n 0, 1, [], 0), []), some ((.getfield 190, 3, [10, 3, 10220], 0), []), none, none],
  [some ((.bipush 20, 2, [], 0), []), none, some ((.if_icmp .ne 6, 3, [], 0), []), none, none, some ((.bipush (-5), 2, [], 0), []), none, some ((.ireturn, 1, [], 0), []), some ((.aload_n 0, 1, [], 0), []), some ((.invokevirtual 400, 3, [0, 227, 1, 0, 0, 10, 13066, 13068, 6004, 7017, 13069], 0), []), none, none, some ((.iconst 0, 1, [], 0), []), some ((.istore_n 1, 1, [], 0), []), some ((.aload_n 0, 1, [], 0), []), some ((.getfield 9, 3, [10, 0, 10217], 0), [])],
  [none, none, some ((.iconst 3, 1, [], 0), []), some ((.iaload, 1, [], 0), []), some ((.iconst 1, 1, [], 0), []), some ((.isub, 1, [], 0), []), some ((.istore_n 2, 1, [], 0), []), some ((.iload_n 2, 1, [], 0), [false, false, false, true, true]), some ((.ifCond .lt 131, 3, [], 0), []), none, none, some ((.aload_n 0, 1, [], 0), []), some ((.iload_n 2, 1, [], 0), []), some ((.invokevirtual 391, 3, [0, 218, 2, 0, 0, 10, 13026, 13028, 6000, 7017, 13029], 0), []), none, none],
  [some ((.iload_n 2, 1, [], 0), [false, false, false, true, true]), some ((.if_icmp .ne 12, 3, [], 0), []), none, none, some ((.aload_n 0, 1, [], 0), []), some ((.iload_n 2, 1, [], 0), []), some ((.iconst 0, 1, [], 0), []), some ((.invokevirtual 394, 3, [0, 219, 3, 0, 0, 10, 13038, 13040, 6002, 7017, 13041], 0), []), none, none, some ((.goto 4, 3, [], 0), [false, false, false, true, true]), none, none, some ((.iconst 0, 1, [], 0), []), some ((.istore_n 3, 1, [], 0), [false, false, false, true, true]), some ((.iload_n 1, 1, [], 0), [])],
  [some ((.iload_n 3, 1, [], 0), []), some ((.aload_n 0, 1, [], 0), []), some ((.getfield 16, 3, [10, 2, 10219], 0), []), none, none, some ((.bipush 6, 2, [], 0), []), none, some ((.aload_n 0, 1, [], 0), []), some ((.getfield 190, 3, [10, 3, 10220], 0), []), none, none, some ((.iconst 1, 1, [], 0), []), some ((.isub, 1, [], 0), []), some ((.imul, 1, [], 0), []), some ((.iload_n 2, 1, [], 0), []), some ((.iadd, 1, [], 0), [])],
  [some ((.iaload, 1, [], 0), []), some ((.if_icmp .eq 7, 3, [], 0), []), none, none, some ((.iconst 1, 1, [], 0), []), some ((.goto 4, 3, [], 0), []), none, none, some ((.iconst 0, 1, [], 0), []), some ((.invokestatic 206, 3, [1, 126, 1, 0, 0, 12030, 12031, 7017, 12032, 0], 0), [false, true, false, false, true]), none, none, some ((.iadd, 1, [], 0), [false, true, false, false, true]), some ((.istore_n 1, 1, [], 0), []), some ((.aload_n 0, 1, [], 0), []), some ((.iload_n 2, 1, [], 0), [])],
  [some ((.invokevirtual 391, 3, [0, 218, 2, 0, 0, 10, 13026, 13028, 6000, 7017, 13029], 0), []), none, none, some ((.iload_n 2, 1, [], 0), [false, false, false, false, true]), some ((.if_icmp .ne 65, 3, [], 0), []), none, none, some ((.iload_n 2, 1, [], 0), []), some ((.iconst 1, 1, [], 0), []), some ((.iadd, 1, [], 0), []), some ((.istore 4, 2, [], 0), []), none, some ((.iload 4, 2, [], 0), []), none, some ((.aload_n 0, 1, [], 0), []), some ((.getfield 9, 3, [10, 0, 10217], 0), [])],
  [none, none, some ((.iconst 3, 1, [], 0), []), some ((.iaload, 1, [], 0), []), some ((.if_icmp .ge 39, 3, [], 0), []), none, none, some ((.aload_n 0, 1, [], 0), []), some ((.getfield 9, 3, [10, 0, 10217], 0), []), none, none, some ((.bipush 38, 2, [], 0), []), none, some ((.iload 4, 2, [], 0), []), none, some ((.iadd, 1, [], 0), [])],
  [some ((.aload_n 0, 1, [], 0), []), some ((.iload_n 2, 1, [], 0), []), some ((.iload 4, 2, [], 0), []), none, some ((.invokevirtual 388, 3, [0, 217, 3, 0, 0, 10, 13030, 13032, 6001, 7017, 13033], 0), []), none, none, some ((.ifCond .eq 7, 3, [], 0), []), none, none, some ((.iconst 0, 1, [], 0), []), some ((.goto 9, 3, [], 0), []), none, none, some ((.aload_n 0, 1, [], 0), []), some ((.iload 4, 2, [], 0), [])],
  [none, some ((.invokevirtual 203, 3, [0, 156, 2, 0, 0, 10, 12022, 12024, 4002, 7017, 12025], 0), []), none, none, some ((.iastore, 1, [], 0), []), some ((.iinc 4 1, 3, [], 0), []), none, none, some ((.goto (-44), 3, [], 0), []), none, none, some ((.aload_n 0, 1, [], 0), []), some ((.getfield 9, 3, [10, 0, 10217], 0), []), none, none, some ((.bipush 38, 2, [], 0), [])],
  [none, some ((.iload_n 2, 1, [], 0), []), some ((.iadd, 1, [], 0), []), some ((.iload_n 3, 1, [], 0), []), some ((.iastore, 1, [], 0), []), some ((.iinc 2 (-1), 3, [], 0), [false, false, false, true, true]), none, none, some ((.goto (-129), 3, [], 0), []), none, none, some ((.iload_n 1, 1, [], 0), []), some ((.ireturn, 1, [], 0), [])]])
def kX10_undo : zMeth := (yX10_undo, cX10_undo, 1, (some .int), { frames := 1, cells := 0, slots := 0, locals := 22 }, [
  [some ((.aload_n 0, 1, [], 0), []), some ((.getfield 9, 3, [10, 0, 10217], 0), []), none, none, some ((.iconst 4, 1, [], 0), []), some ((.iaload, 1, [], 0), []), some ((.ifCond .ne 6, 3, [], 0), []), none, none, some ((.bipush (-2), 2, [], 0), []), none, some ((.ireturn, 1, [], 0), []), some ((.aload_n 0, 1, [], 0), []), some ((.getfield 190, 3, [10, 3, 10220], 0), []), none, none],
  [some ((.ifCond .ne 6, 3, [], 0), []), none, none, some ((.bipush (-5), 2, [], 0), []), none, some ((.ireturn, 1, [], 0), []), some ((.aload_n 0, 1, [], 0), []), some ((.aload_n 0, 1, [], 0), []), some ((.getfield 190, 3, [10, 3, 10220], 0), []), none, none, some ((.iconst 1, 1, [], 0), []), some ((.isub, 1, [], 0), []), some ((.invokevirtual 403, 3, [0, 228, 2, 0, 0, 10, 13082, 13084, 6005, 7017, 13085], 0), []), none, none],
  [some ((.aload_n 0, 1, [], 0), []), some ((.getfield 190, 3, [10, 3, 10220], 0), []), none, none, some ((.ireturn, 1, [], 0), [])]])
def kX10_anew : zMeth := (yX10_anew, cX10_anew, 2, (some .int), { frames := 1, cells := 0, slots := 0, locals := 22 }, [
  [some ((.aload_n 0, 1, [], 0), []), some ((.getfield 9, 3, [10, 0, 10217], 0), []), none, none, some ((.iconst 4, 1, [], 0), []), some ((.iaload, 1, [], 0), []), some ((.ifCond .ne 6, 3, [], 0), []), none, none, some ((.bipush (-2), 2, [], 0), []), none, some ((.ireturn, 1, [], 0), []), some ((.aload_n 0, 1, [], 0), []), some ((.getfield 190, 3, [10, 3, 10220], 0), []), none, none],
  [some ((.istore_n 1, 1, [], 0), []), some ((.aload_n 0, 1, [], 0), []), some ((.getfield 190, 3, [10, 3, 10220], 0), []), none, none, some ((.ifCond .le 8, 3, [], 0), []), none, none, some ((.aload_n 0, 1, [], 0), []), some ((.iconst 0, 1, [], 0), []), some ((.invokevirtual 403, 3, [0, 228, 2, 0, 0, 10, 13082, 13084, 6005, 7017, 13085], 0), []), none, none, some ((.iload_n 1, 1, [], 0), [true]), some ((.ireturn, 1, [], 0), [])]])
def kJ6_numberOfTrailingZeros_0f7a4 : zMeth := (yJ6_numberOfTrailingZeros_0f7a4, cJ6_numberOfTrailingZeros_0f7a4, 2, (some .int), { frames := 0, cells := 0, slots := 0, locals := 0 }, [
  [some ((.iload_n 0, 1, [], 0), []), some ((.iconst (-1), 1, [], 0), []), some ((.ixor, 1, [], 0), []), some ((.iload_n 0, 1, [], 0), []), some ((.iconst 1, 1, [], 0), []), some ((.isub, 1, [], 0), []), some ((.iand, 1, [], 0), []), some ((.istore_n 0, 1, [], 0), []), some ((.iload_n 0, 1, [], 0), []), some ((.ifCond .gt 8, 3, [], 0), []), none, none, some ((.iload_n 0, 1, [], 0), []), some ((.bipush 32, 2, [], 0), []), none, some ((.iand, 1, [], 0), [])],
  [some ((.ireturn, 1, [], 0), []), some ((.iconst 1, 1, [], 0), []), some ((.istore_n 1, 1, [], 0), []), some ((.iload_n 0, 1, [], 0), []), some ((.ldc_w 264, 3, [0, 8130], 65536), []), none, none, some ((.if_icmp .le 11, 3, [], 0), []), none, none, some ((.iinc 1 16, 3, [], 0), []), none, none, some ((.iload_n 0, 1, [], 0), []), some ((.bipush 16, 2, [], 0), []), none],
  [some ((.iushr, 1, [], 0), []), some ((.istore_n 0, 1, [], 0), []), some ((.iload_n 0, 1, [], 0), []), some ((.sipush 256, 3, [], 0), []), none, none, some ((.if_icmp .le 11, 3, [], 0), []), none, none, some ((.iinc 1 8, 3, [], 0), []), none, none, some ((.iload_n 0, 1, [], 0), []), some ((.bipush 8, 2, [], 0), []), none, some ((.iushr, 1, [], 0), [])],
  [some ((.istore_n 0, 1, [], 0), []), some ((.iload_n 0, 1, [], 0), []), some ((.bipush 16, 2, [], 0), []), none, some ((.if_icmp .le 10, 3, [], 0), []), none, none, some ((.iinc 1 4, 3, [], 0), []), none, none, some ((.iload_n 0, 1, [], 0), []), some ((.iconst 4, 1, [], 0), []), some ((.iushr, 1, [], 0), []), some ((.istore_n 0, 1, [], 0), []), some ((.iload_n 0, 1, [], 0), []), some ((.iconst 4, 1, [], 0), [])],
  [some ((.if_icmp .le 10, 3, [], 0), []), none, none, some ((.iinc 1 2, 3, [], 0), []), none, none, some ((.iload_n 0, 1, [], 0), []), some ((.iconst 2, 1, [], 0), []), some ((.iushr, 1, [], 0), []), some ((.istore_n 0, 1, [], 0), []), some ((.iload_n 1, 1, [], 0), []), some ((.iload_n 0, 1, [], 0), []), some ((.iconst 1, 1, [], 0), []), some ((.iushr, 1, [], 0), []), some ((.iadd, 1, [], 0), []), some ((.ireturn, 1, [], 0), [])]])
def kJ6_bitCount_0f7a4 : zMeth := (yJ6_bitCount_0f7a4, cJ6_bitCount_0f7a4, 1, (some .int), { frames := 0, cells := 0, slots := 0, locals := 0 }, [
  [some ((.iload_n 0, 1, [], 0), []), some ((.iload_n 0, 1, [], 0), []), some ((.iconst 1, 1, [], 0), []), some ((.iushr, 1, [], 0), []), some ((.ldc_w 265, 3, [0, 9156], 1431655765), []), none, none, some ((.iand, 1, [], 0), []), some ((.isub, 1, [], 0), []), some ((.istore_n 0, 1, [], 0), []), some ((.iload_n 0, 1, [], 0), []), some ((.ldc_w 266, 3, [0, 9157], 858993459), []), none, none, some ((.iand, 1, [], 0), []), some ((.iload_n 0, 1, [], 0), [])],
  [some ((.iconst 2, 1, [], 0), []), some ((.iushr, 1, [], 0), []), some ((.ldc_w 266, 3, [0, 9157], 858993459), []), none, none, some ((.iand, 1, [], 0), []), some ((.iadd, 1, [], 0), []), some ((.istore_n 0, 1, [], 0), []), some ((.iload_n 0, 1, [], 0), []), some ((.iload_n 0, 1, [], 0), []), some ((.iconst 4, 1, [], 0), []), some ((.iushr, 1, [], 0), []), some ((.iadd, 1, [], 0), []), some ((.ldc_w 267, 3, [0, 9158], 252645135), []), none, none],
  [some ((.iand, 1, [], 0), []), some ((.istore_n 0, 1, [], 0), []), some ((.iload_n 0, 1, [], 0), []), some ((.iload_n 0, 1, [], 0), []), some ((.bipush 8, 2, [], 0), []), none, some ((.iushr, 1, [], 0), []), some ((.iadd, 1, [], 0), []), some ((.istore_n 0, 1, [], 0), []), some ((.iload_n 0, 1, [], 0), []), some ((.iload_n 0, 1, [], 0), []), some ((.bipush 16, 2, [], 0), []), none, some ((.iushr, 1, [], 0), []), some ((.iadd, 1, [], 0), []), some ((.istore_n 0, 1, [], 0), [])],
  [some ((.iload_n 0, 1, [], 0), []), some ((.bipush 63, 2, [], 0), []), none, some ((.iand, 1, [], 0), []), some ((.ireturn, 1, [], 0), [])]])
def kJ9_max_7cf53 : zMeth := (yJ9_max_7cf53, cJ9_max_7cf53, 2, (some .int), { frames := 0, cells := 0, slots := 0, locals := 0 }, [
  [some ((.iload_n 0, 1, [], 0), []), some ((.iload_n 1, 1, [], 0), []), some ((.if_icmp .lt 7, 3, [], 0), []), none, none, some ((.iload_n 0, 1, [], 0), []), some ((.goto 4, 3, [], 0), []), none, none, some ((.iload_n 1, 1, [], 0), []), some ((.ireturn, 1, [], 0), [true, true])]])
def kJ9_min_7cf53 : zMeth := (yJ9_min_7cf53, cJ9_min_7cf53, 2, (some .int), { frames := 0, cells := 0, slots := 0, locals := 0 }, [
  [some ((.iload_n 0, 1, [], 0), []), some ((.iload_n 1, 1, [], 0), []), some ((.if_icmp .gt 7, 3, [], 0), []), none, none, some ((.iload_n 0, 1, [], 0), []), some ((.goto 4, 3, [], 0), []), none, none, some ((.iload_n 1, 1, [], 0), []), some ((.ireturn, 1, [], 0), [true, true])]])
def kJ9_min_f86c9 : zMeth := (yJ9_min_f86c9, cJ9_min_f86c9, 4, (some .long), { frames := 0, cells := 0, slots := 0, locals := 0 }, [
  [some ((.lload_n 0, 1, [], 0), []), some ((.lload_n 2, 1, [], 0), []), some ((.lcmp, 1, [], 0), []), some ((.ifCond .gt 7, 3, [], 0), []), none, none, some ((.lload_n 0, 1, [], 0), []), some ((.goto 4, 3, [], 0), []), none, none, some ((.lload_n 2, 1, [], 0), []), some ((.lreturn, 1, [], 0), [true, false, true])]])
def kL_law : zMeth := (yL_law, cL_law, 4, (some .boolean), { frames := 17, cells := 600000, slots := 7302250, locals := 662 }, [
  [some ((.new 7, 3, [9, 7019, 7020, 7001], 0), []), none, none, some ((.dup, 1, [], 0), []), some ((.invokespecial 9, 3, [2, 72, 1, 51, 4744, 7021, 7022, 7001, 7023, 0], 0), []), none, none, some ((.astore_n 1, 1, [], 0), []), some ((.new 10, 3, [10, 10211, 10212, 7017], 0), []), none, none, some ((.dup, 1, [], 0), []), some ((.invokespecial 12, 3, [2, 127, 1, 15, 1540, 10213, 10214, 7017, 10215, 0], 0), []), none, none, some ((.astore_n 2, 1, [], 0), [])],
  [some ((.iconst 0, 1, [], 0), []), some ((.istore_n 3, 1, [], 0), []), some ((.iload_n 3, 1, [], 0), []), some ((.aload_n 0, 1, [], 0), []), some ((.arraylength, 1, [], 0), []), some ((.bipush 6, 2, [], 0), []), none, some ((.isub, 1, [], 0), []), some ((.if_icmp .gt 1356, 3, [], 0), []), none, none, some ((.aload_n 0, 1, [], 0), []), some ((.iload_n 3, 1, [], 0), []), some ((.iaload, 1, [], 0), []), some ((.bipush 63, 2, [], 0), []), none],
  [some ((.iand, 1, [], 0), []), some ((.tableswitch 1341 0 44 #[195, 258, 281, 294, 317, 340, 363, 386, 419, 442, 475, 498, 531, 554, 577, 610, 633, 656, 679, 712, 736, 759, 802, 835, 868, 901, 924, 957, 990, 1013, 1026, 1049, 1062, 1095, 1128, 1151, 1174, 1197, 1210, 1233, 1246, 1279, 1302, 1315, 1328], 195, [], 0), []), none, none, none, none, none, none, none, none, none, none, none, none, none, none],
  [none, none, none, none, none, none, none, none, none, none, none, none, none, none, none, none],
  [none, none, none, none, none, none, none, none, none, none, none, none, none, none, none, none],
  [none, none, none, none, none, none, none, none, none, none, none, none, none, none, none, none],
  [none, none, none, none, none, none, none, none, none, none, none, none, none, none, none, none],
  [none, none, none, none, none, none, none, none, none, none, none, none, none, none, none, none],
  [none, none, none, none, none, none, none, none, none, none, none, none, none, none, none, none],
  [none, none, none, none, none, none, none, none, none, none, none, none, none, none, none, none],
  [none, none, none, none, none, none, none, none, none, none, none, none, none, none, none, none],
  [none, none, none, none, none, none, none, none, none, none, none, none, none, none, none, none],
  [none, none, none, none, none, none, none, none, none, none, none, none, none, none, none, none],
  [none, none, none, none, none, none, none, none, none, none, none, none, none, none, none, none],
  [none, none, none, none, some ((.aload_n 1, 1, [], 0), []), some ((.aload_n 0, 1, [], 0), []), some ((.iload_n 3, 1, [], 0), []), some ((.iconst 1, 1, [], 0), []), some ((.iadd, 1, [], 0), []), some ((.iaload, 1, [], 0), []), some ((.aload_n 0, 1, [], 0), []), some ((.iload_n 3, 1, [], 0), []), some ((.iconst 2, 1, [], 0), []), some ((.iadd, 1, [], 0), []), some ((.iaload, 1, [], 0), []), some ((.aload_n 0, 1, [], 0), [])],
  [some ((.iload_n 3, 1, [], 0), []), some ((.iconst 3, 1, [], 0), []), some ((.iadd, 1, [], 0), []), some ((.iaload, 1, [], 0), []), some ((.aload_n 0, 1, [], 0), []), some ((.iload_n 3, 1, [], 0), []), some ((.iconst 4, 1, [], 0), []), some ((.iadd, 1, [], 0), []), some ((.iaload, 1, [], 0), []), some ((.aload_n 0, 1, [], 0), []), some ((.iload_n 3, 1, [], 0), []), some ((.iconst 5, 1, [], 0), []), some ((.iadd, 1, [], 0), []), some ((.iaload, 1, [], 0), []), some ((.invokevirtual 13, 3, [0, 73, 6, 0, 0, 9, 8223, 8224, 8225, 7001, 8226], 0), []), none],
  [none, some ((.aload_n 2, 1, [], 0), []), some ((.aload_n 0, 1, [], 0), []), some ((.iload_n 3, 1, [], 0), []), some ((.iconst 1, 1, [], 0), []), some ((.iadd, 1, [], 0), []), some ((.iaload, 1, [], 0), []), some ((.aload_n 0, 1, [], 0), []), some ((.iload_n 3, 1, [], 0), []), some ((.iconst 2, 1, [], 0), []), some ((.iadd, 1, [], 0), []), some ((.iaload, 1, [], 0), []), some ((.aload_n 0, 1, [], 0), []), some ((.iload_n 3, 1, [], 0), []), some ((.iconst 3, 1, [], 0), []), some ((.iadd, 1, [], 0), [])],
  [some ((.iaload, 1, [], 0), []), some ((.aload_n 0, 1, [], 0), []), some ((.iload_n 3, 1, [], 0), []), some ((.iconst 4, 1, [], 0), []), some ((.iadd, 1, [], 0), []), some ((.iaload, 1, [], 0), []), some ((.aload_n 0, 1, [], 0), []), some ((.iload_n 3, 1, [], 0), []), some ((.iconst 5, 1, [], 0), []), some ((.iadd, 1, [], 0), []), some ((.iaload, 1, [], 0), []), some ((.invokevirtual 17, 3, [0, 128, 6, 1, 5, 10, 11123, 11124, 11125, 7017, 11126], 0), []), none, none, some ((.if_icmp .eq 1088, 3, [], 0), []), none],
  [none, some ((.iconst 0, 1, [], 0), []), some ((.ireturn, 1, [], 0), []), some ((.aload_n 1, 1, [], 0), []), some ((.aload_n 0, 1, [], 0), []), some ((.iload_n 3, 1, [], 0), []), some ((.iconst 1, 1, [], 0), []), some ((.iadd, 1, [], 0), []), some ((.iaload, 1, [], 0), []), some ((.invokevirtual 18, 3, [0, 74, 2, 0, 0, 9, 8231, 8232, 8233, 7001, 8234], 0), []), none, none, some ((.aload_n 2, 1, [], 0), []), some ((.aload_n 0, 1, [], 0), []), some ((.iload_n 3, 1, [], 0), []), some ((.iconst 1, 1, [], 0), [])],
  [some ((.iadd, 1, [], 0), []), some ((.iaload, 1, [], 0), []), some ((.invokevirtual 22, 3, [0, 129, 2, 0, 0, 10, 11127, 11128, 11129, 7017, 11130], 0), []), none, none, some ((.if_icmp .eq 1065, 3, [], 0), []), none, none, some ((.iconst 0, 1, [], 0), []), some ((.ireturn, 1, [], 0), []), some ((.aload_n 1, 1, [], 0), []), some ((.invokevirtual 23, 3, [0, 75, 1, 0, 0, 9, 8235, 8236, 8237, 7001, 8238], 0), []), none, none, some ((.aload_n 2, 1, [], 0), []), some ((.invokevirtual 27, 3, [0, 150, 1, 0, 0, 10, 11134, 11135, 11136, 7017, 11137], 0), [])],
  [none, none, some ((.if_icmp .eq 1052, 3, [], 0), []), none, none, some ((.iconst 0, 1, [], 0), []), some ((.ireturn, 1, [], 0), []), some ((.aload_n 1, 1, [], 0), []), some ((.aload_n 0, 1, [], 0), []), some ((.iload_n 3, 1, [], 0), []), some ((.iconst 1, 1, [], 0), []), some ((.iadd, 1, [], 0), []), some ((.iaload, 1, [], 0), []), some ((.invokevirtual 28, 3, [0, 76, 2, 0, 0, 9, 9109, 9110, 9111, 7001, 9112], 0), []), none, none],
  [some ((.aload_n 2, 1, [], 0), []), some ((.aload_n 0, 1, [], 0), []), some ((.iload_n 3, 1, [], 0), []), some ((.iconst 1, 1, [], 0), []), some ((.iadd, 1, [], 0), []), some ((.iaload, 1, [], 0), []), some ((.invokevirtual 31, 3, [0, 151, 2, 0, 0, 10, 11230, 11231, 11232, 7017, 11233], 0), []), none, none, some ((.if_icmp .eq 1029, 3, [], 0), []), none, none, some ((.iconst 0, 1, [], 0), []), some ((.ireturn, 1, [], 0), []), some ((.aload_n 1, 1, [], 0), []), some ((.aload_n 0, 1, [], 0), [])],
  [some ((.iload_n 3, 1, [], 0), []), some ((.iconst 1, 1, [], 0), []), some ((.iadd, 1, [], 0), []), some ((.iaload, 1, [], 0), []), some ((.invokevirtual 32, 3, [0, 77, 2, 0, 0, 9, 9113, 9114, 9115, 7001, 9116], 0), []), none, none, some ((.aload_n 2, 1, [], 0), []), some ((.aload_n 0, 1, [], 0), []), some ((.iload_n 3, 1, [], 0), []), some ((.iconst 1, 1, [], 0), []), some ((.iadd, 1, [], 0), []), some ((.iaload, 1, [], 0), []), some ((.invokevirtual 35, 3, [0, 152, 2, 0, 0, 10, 11234, 11235, 11236, 7017, 11237], 0), []), none, none],
  [some ((.if_icmp .eq 1006, 3, [], 0), []), none, none, some ((.iconst 0, 1, [], 0), []), some ((.ireturn, 1, [], 0), []), some ((.aload_n 1, 1, [], 0), []), some ((.aload_n 0, 1, [], 0), []), some ((.iload_n 3, 1, [], 0), []), some ((.iconst 1, 1, [], 0), []), some ((.iadd, 1, [], 0), []), some ((.iaload, 1, [], 0), []), some ((.invokevirtual 36, 3, [0, 78, 2, 0, 0, 9, 9117, 9118, 9119, 7001, 9120], 0), []), none, none, some ((.aload_n 2, 1, [], 0), []), some ((.aload_n 0, 1, [], 0), [])],
  [some ((.iload_n 3, 1, [], 0), []), some ((.iconst 1, 1, [], 0), []), some ((.iadd, 1, [], 0), []), some ((.iaload, 1, [], 0), []), some ((.invokevirtual 39, 3, [0, 158, 2, 0, 0, 10, 11238, 11239, 12000, 7017, 12001], 0), []), none, none, some ((.if_icmp .eq 983, 3, [], 0), []), none, none, some ((.iconst 0, 1, [], 0), []), some ((.ireturn, 1, [], 0), []), some ((.aload_n 1, 1, [], 0), []), some ((.aload_n 0, 1, [], 0), []), some ((.iload_n 3, 1, [], 0), []), some ((.iconst 1, 1, [], 0), [])],
  [some ((.iadd, 1, [], 0), []), some ((.iaload, 1, [], 0), []), some ((.invokevirtual 40, 3, [0, 79, 2, 0, 0, 9, 9129, 9130, 9131, 7001, 9132], 0), []), none, none, some ((.aload_n 2, 1, [], 0), []), some ((.aload_n 0, 1, [], 0), []), some ((.iload_n 3, 1, [], 0), []), some ((.iconst 1, 1, [], 0), []), some ((.iadd, 1, [], 0), []), some ((.iaload, 1, [], 0), []), some ((.invokevirtual 43, 3, [0, 159, 2, 0, 0, 10, 12006, 12007, 12008, 7017, 12009], 0), []), none, none, some ((.if_icmp .eq 960, 3, [], 0), []), none],
  [none, some ((.iconst 0, 1, [], 0), []), some ((.ireturn, 1, [], 0), []), some ((.aload_n 1, 1, [], 0), []), some ((.aload_n 0, 1, [], 0), []), some ((.iload_n 3, 1, [], 0), []), some ((.iconst 1, 1, [], 0), []), some ((.iadd, 1, [], 0), []), some ((.iaload, 1, [], 0), []), some ((.aload_n 0, 1, [], 0), []), some ((.iload_n 3, 1, [], 0), []), some ((.iconst 2, 1, [], 0), []), some ((.iadd, 1, [], 0), []), some ((.iaload, 1, [], 0), []), some ((.invokevirtual 44, 3, [0, 80, 3, 0, 0, 9, 9133, 9134, 9135, 7001, 9136], 0), []), none],
  [none, some ((.aload_n 2, 1, [], 0), []), some ((.aload_n 0, 1, [], 0), []), some ((.iload_n 3, 1, [], 0), []), some ((.iconst 1, 1, [], 0), []), some ((.iadd, 1, [], 0), []), some ((.iaload, 1, [], 0), []), some ((.aload_n 0, 1, [], 0), []), some ((.iload_n 3, 1, [], 0), []), some ((.iconst 2, 1, [], 0), []), some ((.iadd, 1, [], 0), []), some ((.iaload, 1, [], 0), []), some ((.invokevirtual 48, 3, [0, 160, 3, 0, 0, 10, 12010, 12011, 12012, 7017, 12013], 0), []), none, none, some ((.if_icmp .eq 927, 3, [], 0), [])],
  [none, none, some ((.iconst 0, 1, [], 0), []), some ((.ireturn, 1, [], 0), []), some ((.aload_n 1, 1, [], 0), []), some ((.aload_n 0, 1, [], 0), []), some ((.iload_n 3, 1, [], 0), []), some ((.iconst 1, 1, [], 0), []), some ((.iadd, 1, [], 0), []), some ((.iaload, 1, [], 0), []), some ((.invokevirtual 49, 3, [0, 81, 2, 0, 0, 9, 9141, 9142, 9143, 7001, 9144], 0), []), none, none, some ((.aload_n 2, 1, [], 0), []), some ((.aload_n 0, 1, [], 0), []), some ((.iload_n 3, 1, [], 0), [])],
  [some ((.iconst 1, 1, [], 0), []), some ((.iadd, 1, [], 0), []), some ((.iaload, 1, [], 0), []), some ((.invokevirtual 52, 3, [0, 161, 2, 0, 0, 10, 12018, 12019, 12020, 7017, 12021], 0), []), none, none, some ((.if_icmp .eq 904, 3, [], 0), []), none, none, some ((.iconst 0, 1, [], 0), []), some ((.ireturn, 1, [], 0), []), some ((.aload_n 1, 1, [], 0), []), some ((.aload_n 0, 1, [], 0), []), some ((.iload_n 3, 1, [], 0), []), some ((.iconst 1, 1, [], 0), []), some ((.iadd, 1, [], 0), [])],
  [some ((.iaload, 1, [], 0), []), some ((.aload_n 0, 1, [], 0), []), some ((.iload_n 3, 1, [], 0), []), some ((.iconst 2, 1, [], 0), []), some ((.iadd, 1, [], 0), []), some ((.iaload, 1, [], 0), []), some ((.invokevirtual 53, 3, [0, 82, 3, 0, 0, 9, 9145, 9146, 9147, 7001, 9148], 0), []), none, none, some ((.aload_n 2, 1, [], 0), []), some ((.aload_n 0, 1, [], 0), []), some ((.iload_n 3, 1, [], 0), []), some ((.iconst 1, 1, [], 0), []), some ((.iadd, 1, [], 0), []), some ((.iaload, 1, [], 0), []), some ((.aload_n 0, 1, [], 0), [])],
  [some ((.iload_n 3, 1, [], 0), []), some ((.iconst 2, 1, [], 0), []), some ((.iadd, 1, [], 0), []), some ((.iaload, 1, [], 0), []), some ((.invokevirtual 56, 3, [0, 162, 3, 0, 0, 10, 12026, 12027, 12028, 7017, 12029], 0), []), none, none, some ((.if_icmp .eq 871, 3, [], 0), []), none, none, some ((.iconst 0, 1, [], 0), []), some ((.ireturn, 1, [], 0), []), some ((.aload_n 1, 1, [], 0), []), some ((.aload_n 0, 1, [], 0), []), some ((.iload_n 3, 1, [], 0), []), some ((.iconst 1, 1, [], 0), [])],
  [some ((.iadd, 1, [], 0), []), some ((.iaload, 1, [], 0), []), some ((.invokevirtual 57, 3, [0, 83, 2, 0, 0, 9, 9149, 9150, 9151, 7001, 9152], 0), []), none, none, some ((.aload_n 2, 1, [], 0), []), some ((.aload_n 0, 1, [], 0), []), some ((.iload_n 3, 1, [], 0), []), some ((.iconst 1, 1, [], 0), []), some ((.iadd, 1, [], 0), []), some ((.iaload, 1, [], 0), []), some ((.invokevirtual 60, 3, [0, 163, 2, 0, 0, 10, 12033, 12034, 12035, 7017, 12036], 0), []), none, none, some ((.if_icmp .eq 848, 3, [], 0), []), none],
  [none, some ((.iconst 0, 1, [], 0), []), some ((.ireturn, 1, [], 0), []), some ((.aload_n 1, 1, [], 0), []), some ((.aload_n 0, 1, [], 0), []), some ((.iload_n 3, 1, [], 0), []), some ((.iconst 1, 1, [], 0), []), some ((.iadd, 1, [], 0), []), some ((.iaload, 1, [], 0), []), some ((.aload_n 0, 1, [], 0), []), some ((.iload_n 3, 1, [], 0), []), some ((.iconst 2, 1, [], 0), []), some ((.iadd, 1, [], 0), []), some ((.iaload, 1, [], 0), []), some ((.invokevirtual 61, 3, [0, 84, 3, 0, 0, 9, 9159, 9160, 9161, 7001, 9162], 0), []), none],
  [none, some ((.aload_n 2, 1, [], 0), []), some ((.aload_n 0, 1, [], 0), []), some ((.iload_n 3, 1, [], 0), []), some ((.iconst 1, 1, [], 0), []), some ((.iadd, 1, [], 0), []), some ((.iaload, 1, [], 0), []), some ((.aload_n 0, 1, [], 0), []), some ((.iload_n 3, 1, [], 0), []), some ((.iconst 2, 1, [], 0), []), some ((.iadd, 1, [], 0), []), some ((.iaload, 1, [], 0), []), some ((.invokevirtual 64, 3, [0, 165, 3, 0, 0, 10, 12040, 12041, 12042, 7017, 12043], 0), []), none, none, some ((.if_icmp .eq 815, 3, [], 0), [])],
  [none, none, some ((.iconst 0, 1, [], 0), []), some ((.ireturn, 1, [], 0), []), some ((.aload_n 1, 1, [], 0), []), some ((.aload_n 0, 1, [], 0), []), some ((.iload_n 3, 1, [], 0), []), some ((.iconst 1, 1, [], 0), []), some ((.iadd, 1, [], 0), []), some ((.iaload, 1, [], 0), []), some ((.invokevirtual 65, 3, [0, 85, 2, 0, 0, 9, 9163, 9164, 9165, 7001, 9166], 0), []), none, none, some ((.aload_n 2, 1, [], 0), []), some ((.aload_n 0, 1, [], 0), []), some ((.iload_n 3, 1, [], 0), [])],
  [some ((.iconst 1, 1, [], 0), []), some ((.iadd, 1, [], 0), []), some ((.iaload, 1, [], 0), []), some ((.invokevirtual 68, 3, [0, 167, 2, 0, 0, 10, 12049, 12050, 12051, 7017, 12052], 0), []), none, none, some ((.if_icmp .eq 792, 3, [], 0), []), none, none, some ((.iconst 0, 1, [], 0), []), some ((.ireturn, 1, [], 0), []), some ((.aload_n 1, 1, [], 0), []), some ((.aload_n 0, 1, [], 0), []), some ((.iload_n 3, 1, [], 0), []), some ((.iconst 1, 1, [], 0), []), some ((.iadd, 1, [], 0), [])],
  [some ((.iaload, 1, [], 0), []), some ((.invokevirtual 69, 3, [0, 86, 2, 0, 0, 9, 9171, 9172, 9173, 7001, 9174], 0), []), none, none, some ((.aload_n 2, 1, [], 0), []), some ((.aload_n 0, 1, [], 0), []), some ((.iload_n 3, 1, [], 0), []), some ((.iconst 1, 1, [], 0), []), some ((.iadd, 1, [], 0), []), some ((.iaload, 1, [], 0), []), some ((.invokevirtual 72, 3, [0, 168, 2, 0, 0, 10, 12057, 12058, 12059, 7017, 12060], 0), []), none, none, some ((.if_icmp .eq 769, 3, [], 0), []), none, none],
  [some ((.iconst 0, 1, [], 0), []), some ((.ireturn, 1, [], 0), []), some ((.aload_n 1, 1, [], 0), []), some ((.aload_n 0, 1, [], 0), []), some ((.iload_n 3, 1, [], 0), []), some ((.iconst 1, 1, [], 0), []), some ((.iadd, 1, [], 0), []), some ((.iaload, 1, [], 0), []), some ((.aload_n 0, 1, [], 0), []), some ((.iload_n 3, 1, [], 0), []), some ((.iconst 2, 1, [], 0), []), some ((.iadd, 1, [], 0), []), some ((.iaload, 1, [], 0), []), some ((.invokevirtual 73, 3, [0, 87, 3, 0, 0, 9, 9175, 9176, 9177, 7001, 9178], 0), []), none, none],
  [some ((.aload_n 2, 1, [], 0), []), some ((.aload_n 0, 1, [], 0), []), some ((.iload_n 3, 1, [], 0), []), some ((.iconst 1, 1, [], 0), []), some ((.iadd, 1, [], 0), []), some ((.iaload, 1, [], 0), []), some ((.aload_n 0, 1, [], 0), []), some ((.iload_n 3, 1, [], 0), []), some ((.iconst 2, 1, [], 0), []), some ((.iadd, 1, [], 0), []), some ((.iaload, 1, [], 0), []), some ((.invokevirtual 76, 3, [0, 169, 3, 0, 0, 10, 12061, 12062, 12063, 7017, 12064], 0), []), none, none, some ((.if_icmp .eq 736, 3, [], 0), []), none],
  [none, some ((.iconst 0, 1, [], 0), []), some ((.ireturn, 1, [], 0), []), some ((.aload_n 1, 1, [], 0), []), some ((.aload_n 0, 1, [], 0), []), some ((.iload_n 3, 1, [], 0), []), some ((.iconst 1, 1, [], 0), []), some ((.iadd, 1, [], 0), []), some ((.iaload, 1, [], 0), []), some ((.invokevirtual 77, 3, [0, 88, 2, 0, 0, 9, 9179, 9180, 9181, 7001, 9182], 0), []), none, none, some ((.aload_n 2, 1, [], 0), []), some ((.aload_n 0, 1, [], 0), []), some ((.iload_n 3, 1, [], 0), []), some ((.iconst 1, 1, [], 0), [])],
  [some ((.iadd, 1, [], 0), []), some ((.iaload, 1, [], 0), []), some ((.invokevirtual 80, 3, [0, 170, 2, 0, 0, 10, 12065, 12066, 12067, 7017, 12068], 0), []), none, none, some ((.if_icmp .eq 713, 3, [], 0), []), none, none, some ((.iconst 0, 1, [], 0), []), some ((.ireturn, 1, [], 0), []), some ((.aload_n 1, 1, [], 0), []), some ((.aload_n 0, 1, [], 0), []), some ((.iload_n 3, 1, [], 0), []), some ((.iconst 1, 1, [], 0), []), some ((.iadd, 1, [], 0), []), some ((.iaload, 1, [], 0), [])],
  [some ((.invokevirtual 81, 3, [0, 89, 2, 0, 0, 9, 9186, 9187, 9188, 7001, 9189], 0), []), none, none, some ((.aload_n 2, 1, [], 0), []), some ((.aload_n 0, 1, [], 0), []), some ((.iload_n 3, 1, [], 0), []), some ((.iconst 1, 1, [], 0), []), some ((.iadd, 1, [], 0), []), some ((.iaload, 1, [], 0), []), some ((.invokevirtual 84, 3, [0, 191, 2, 0, 0, 10, 12070, 12071, 12072, 7017, 12073], 0), []), none, none, some ((.if_icmp .eq 690, 3, [], 0), []), none, none, some ((.iconst 0, 1, [], 0), [])],
  [some ((.ireturn, 1, [], 0), []), some ((.aload_n 1, 1, [], 0), []), some ((.aload_n 0, 1, [], 0), []), some ((.iload_n 3, 1, [], 0), []), some ((.iconst 1, 1, [], 0), []), some ((.iadd, 1, [], 0), []), some ((.iaload, 1, [], 0), []), some ((.invokevirtual 85, 3, [0, 90, 2, 0, 0, 9, 10058, 10059, 10060, 7001, 10061], 0), []), none, none, some ((.aload_n 2, 1, [], 0), []), some ((.aload_n 0, 1, [], 0), []), some ((.iload_n 3, 1, [], 0), []), some ((.iconst 1, 1, [], 0), []), some ((.iadd, 1, [], 0), []), some ((.iaload, 1, [], 0), [])],
  [some ((.invokevirtual 88, 3, [0, 200, 2, 0, 0, 10, 12126, 12127, 12128, 7017, 12129], 0), []), none, none, some ((.if_icmp .eq 667, 3, [], 0), []), none, none, some ((.iconst 0, 1, [], 0), []), some ((.ireturn, 1, [], 0), []), some ((.aload_n 1, 1, [], 0), []), some ((.aload_n 0, 1, [], 0), []), some ((.iload_n 3, 1, [], 0), []), some ((.iconst 1, 1, [], 0), []), some ((.iadd, 1, [], 0), []), some ((.iaload, 1, [], 0), []), some ((.aload_n 0, 1, [], 0), []), some ((.iload_n 3, 1, [], 0), [])],
  [some ((.iconst 2, 1, [], 0), []), some ((.iadd, 1, [], 0), []), some ((.iaload, 1, [], 0), []), some ((.invokevirtual 89, 3, [0, 91, 3, 0, 0, 9, 10062, 10063, 10064, 7001, 10065], 0), []), none, none, some ((.aload_n 2, 1, [], 0), []), some ((.aload_n 0, 1, [], 0), []), some ((.iload_n 3, 1, [], 0), []), some ((.iconst 1, 1, [], 0), []), some ((.iadd, 1, [], 0), []), some ((.iaload, 1, [], 0), []), some ((.aload_n 0, 1, [], 0), []), some ((.iload_n 3, 1, [], 0), []), some ((.iconst 2, 1, [], 0), []), some ((.iadd, 1, [], 0), [])],
  [some ((.iaload, 1, [], 0), []), some ((.invokevirtual 92, 3, [0, 201, 3, 0, 0, 10, 12182, 12183, 12184, 7017, 12185], 0), []), none, none, some ((.if_icmp .eq 634, 3, [], 0), []), none, none, some ((.iconst 0, 1, [], 0), []), some ((.ireturn, 1, [], 0), []), some ((.aload_n 1, 1, [], 0), []), some ((.aload_n 0, 1, [], 0), []), some ((.iload_n 3, 1, [], 0), []), some ((.iconst 1, 1, [], 0), []), some ((.iadd, 1, [], 0), []), some ((.iaload, 1, [], 0), []), some ((.invokevirtual 93, 3, [0, 92, 2, 0, 0, 9, 10066, 10067, 10068, 7001, 10069], 0), [])],
  [none, none, some ((.aload_n 2, 1, [], 0), []), some ((.aload_n 0, 1, [], 0), []), some ((.iload_n 3, 1, [], 0), []), some ((.iconst 1, 1, [], 0), []), some ((.iadd, 1, [], 0), []), some ((.iaload, 1, [], 0), []), some ((.invokevirtual 97, 3, [0, 192, 2, 0, 0, 10, 12121, 12122, 12123, 7017, 12124], 0), []), none, none, some ((.lcmp, 1, [], 0), []), some ((.ifCond .eq 610, 3, [], 0), []), none, none, some ((.iconst 0, 1, [], 0), [])],
  [some ((.ireturn, 1, [], 0), []), some ((.aload_n 1, 1, [], 0), []), some ((.aload_n 0, 1, [], 0), []), some ((.iload_n 3, 1, [], 0), []), some ((.iconst 1, 1, [], 0), []), some ((.iadd, 1, [], 0), []), some ((.iaload, 1, [], 0), []), some ((.invokevirtual 98, 3, [0, 93, 2, 0, 0, 9, 10071, 10072, 10073, 7001, 10074], 0), []), none, none, some ((.aload_n 2, 1, [], 0), []), some ((.aload_n 0, 1, [], 0), []), some ((.iload_n 3, 1, [], 0), []), some ((.iconst 1, 1, [], 0), []), some ((.iadd, 1, [], 0), []), some ((.iaload, 1, [], 0), [])],
  [some ((.invokevirtual 101, 3, [0, 202, 2, 0, 0, 10, 12186, 12187, 12188, 7017, 12189], 0), []), none, none, some ((.if_icmp .eq 587, 3, [], 0), []), none, none, some ((.iconst 0, 1, [], 0), []), some ((.ireturn, 1, [], 0), []), some ((.aload_n 1, 1, [], 0), []), some ((.aload_n 0, 1, [], 0), []), some ((.iload_n 3, 1, [], 0), []), some ((.iconst 1, 1, [], 0), []), some ((.iadd, 1, [], 0), []), some ((.iaload, 1, [], 0), []), some ((.aload_n 0, 1, [], 0), []), some ((.iload_n 3, 1, [], 0), [])],
  [some ((.iconst 2, 1, [], 0), []), some ((.iadd, 1, [], 0), []), some ((.iaload, 1, [], 0), []), some ((.aload_n 0, 1, [], 0), []), some ((.iload_n 3, 1, [], 0), []), some ((.iconst 3, 1, [], 0), []), some ((.iadd, 1, [], 0), []), some ((.iaload, 1, [], 0), []), some ((.invokevirtual 102, 3, [0, 94, 4, 0, 0, 9, 10075, 10076, 10077, 7001, 10078], 0), []), none, none, some ((.aload_n 2, 1, [], 0), []), some ((.aload_n 0, 1, [], 0), []), some ((.iload_n 3, 1, [], 0), []), some ((.iconst 1, 1, [], 0), []), some ((.iadd, 1, [], 0), [])],
  [some ((.iaload, 1, [], 0), []), some ((.aload_n 0, 1, [], 0), []), some ((.iload_n 3, 1, [], 0), []), some ((.iconst 2, 1, [], 0), []), some ((.iadd, 1, [], 0), []), some ((.iaload, 1, [], 0), []), some ((.aload_n 0, 1, [], 0), []), some ((.iload_n 3, 1, [], 0), []), some ((.iconst 3, 1, [], 0), []), some ((.iadd, 1, [], 0), []), some ((.iaload, 1, [], 0), []), some ((.invokevirtual 106, 3, [0, 203, 4, 0, 0, 10, 12190, 12191, 12192, 7017, 12193], 0), []), none, none, some ((.if_icmp .eq 544, 3, [], 0), []), none],
  [none, some ((.iconst 0, 1, [], 0), []), some ((.ireturn, 1, [], 0), []), some ((.aload_n 1, 1, [], 0), []), some ((.aload_n 0, 1, [], 0), []), some ((.iload_n 3, 1, [], 0), []), some ((.iconst 1, 1, [], 0), []), some ((.iadd, 1, [], 0), []), some ((.iaload, 1, [], 0), []), some ((.aload_n 0, 1, [], 0), []), some ((.iload_n 3, 1, [], 0), []), some ((.iconst 2, 1, [], 0), []), some ((.iadd, 1, [], 0), []), some ((.iaload, 1, [], 0), []), some ((.invokevirtual 107, 3, [0, 95, 3, 0, 0, 9, 10079, 10080, 10081, 7001, 10082], 0), []), none],
  [none, some ((.aload_n 2, 1, [], 0), []), some ((.aload_n 0, 1, [], 0), []), some ((.iload_n 3, 1, [], 0), []), some ((.iconst 1, 1, [], 0), []), some ((.iadd, 1, [], 0), []), some ((.iaload, 1, [], 0), []), some ((.aload_n 0, 1, [], 0), []), some ((.iload_n 3, 1, [], 0), []), some ((.iconst 2, 1, [], 0), []), some ((.iadd, 1, [], 0), []), some ((.iaload, 1, [], 0), []), some ((.invokevirtual 110, 3, [0, 204, 3, 0, 0, 10, 12195, 12196, 12197, 7017, 12198], 0), []), none, none, some ((.if_icmp .eq 511, 3, [], 0), [])],
  [none, none, some ((.iconst 0, 1, [], 0), []), some ((.ireturn, 1, [], 0), []), some ((.aload_n 1, 1, [], 0), []), some ((.aload_n 0, 1, [], 0), []), some ((.iload_n 3, 1, [], 0), []), some ((.iconst 1, 1, [], 0), []), some ((.iadd, 1, [], 0), []), some ((.iaload, 1, [], 0), []), some ((.aload_n 0, 1, [], 0), []), some ((.iload_n 3, 1, [], 0), []), some ((.iconst 2, 1, [], 0), []), some ((.iadd, 1, [], 0), []), some ((.iaload, 1, [], 0), []), some ((.invokevirtual 111, 3, [0, 96, 3, 0, 0, 9, 10083, 10084, 10085, 7001, 10086], 0), [])],
  [none, none, some ((.aload_n 2, 1, [], 0), []), some ((.aload_n 0, 1, [], 0), []), some ((.iload_n 3, 1, [], 0), []), some ((.iconst 1, 1, [], 0), []), some ((.iadd, 1, [], 0), []), some ((.iaload, 1, [], 0), []), some ((.aload_n 0, 1, [], 0), []), some ((.iload_n 3, 1, [], 0), []), some ((.iconst 2, 1, [], 0), []), some ((.iadd, 1, [], 0), []), some ((.iaload, 1, [], 0), []), some ((.invokevirtual 114, 3, [0, 205, 3, 0, 0, 10, 12199, 12200, 12201, 7017, 12202], 0), []), none, none],
  [some ((.if_icmp .eq 478, 3, [], 0), []), none, none, some ((.iconst 0, 1, [], 0), []), some ((.ireturn, 1, [], 0), []), some ((.aload_n 1, 1, [], 0), []), some ((.aload_n 0, 1, [], 0), []), some ((.iload_n 3, 1, [], 0), []), some ((.iconst 1, 1, [], 0), []), some ((.iadd, 1, [], 0), []), some ((.iaload, 1, [], 0), []), some ((.aload_n 0, 1, [], 0), []), some ((.iload_n 3, 1, [], 0), []), some ((.iconst 2, 1, [], 0), []), some ((.iadd, 1, [], 0), []), some ((.iaload, 1, [], 0), [])],
  [some ((.invokevirtual 115, 3, [0, 97, 3, 0, 0, 9, 10087, 10088, 10089, 7001, 10090], 0), []), none, none, some ((.aload_n 2, 1, [], 0), []), some ((.aload_n 0, 1, [], 0), []), some ((.iload_n 3, 1, [], 0), []), some ((.iconst 1, 1, [], 0), []), some ((.iadd, 1, [], 0), []), some ((.iaload, 1, [], 0), []), some ((.aload_n 0, 1, [], 0), []), some ((.iload_n 3, 1, [], 0), []), some ((.iconst 2, 1, [], 0), []), some ((.iadd, 1, [], 0), []), some ((.iaload, 1, [], 0), []), some ((.invokevirtual 118, 3, [0, 206, 3, 0, 0, 10, 12203, 12204, 12205, 7017, 12206], 0), []), none],
  [none, some ((.if_icmp .eq 445, 3, [], 0), []), none, none, some ((.iconst 0, 1, [], 0), []), some ((.ireturn, 1, [], 0), []), some ((.aload_n 1, 1, [], 0), []), some ((.aload_n 0, 1, [], 0), []), some ((.iload_n 3, 1, [], 0), []), some ((.iconst 1, 1, [], 0), []), some ((.iadd, 1, [], 0), []), some ((.iaload, 1, [], 0), []), some ((.invokevirtual 119, 3, [0, 98, 2, 0, 0, 9, 10095, 10096, 10097, 7001, 10098], 0), []), none, none, some ((.aload_n 2, 1, [], 0), [])],
  [some ((.aload_n 0, 1, [], 0), []), some ((.iload_n 3, 1, [], 0), []), some ((.iconst 1, 1, [], 0), []), some ((.iadd, 1, [], 0), []), some ((.iaload, 1, [], 0), []), some ((.invokevirtual 122, 3, [0, 207, 2, 0, 0, 10, 12216, 12217, 12218, 7017, 12219], 0), []), none, none, some ((.if_icmp .eq 422, 3, [], 0), []), none, none, some ((.iconst 0, 1, [], 0), []), some ((.ireturn, 1, [], 0), []), some ((.aload_n 1, 1, [], 0), []), some ((.aload_n 0, 1, [], 0), []), some ((.iload_n 3, 1, [], 0), [])],
  [some ((.iconst 1, 1, [], 0), []), some ((.iadd, 1, [], 0), []), some ((.iaload, 1, [], 0), []), some ((.aload_n 0, 1, [], 0), []), some ((.iload_n 3, 1, [], 0), []), some ((.iconst 2, 1, [], 0), []), some ((.iadd, 1, [], 0), []), some ((.iaload, 1, [], 0), []), some ((.invokevirtual 123, 3, [0, 99, 3, 0, 0, 9, 10099, 10100, 10101, 7001, 10102], 0), []), none, none, some ((.aload_n 2, 1, [], 0), []), some ((.aload_n 0, 1, [], 0), []), some ((.iload_n 3, 1, [], 0), []), some ((.iconst 1, 1, [], 0), []), some ((.iadd, 1, [], 0), [])],
  [some ((.iaload, 1, [], 0), []), some ((.aload_n 0, 1, [], 0), []), some ((.iload_n 3, 1, [], 0), []), some ((.iconst 2, 1, [], 0), []), some ((.iadd, 1, [], 0), []), some ((.iaload, 1, [], 0), []), some ((.invokevirtual 126, 3, [0, 208, 3, 0, 0, 10, 12220, 12221, 12222, 7017, 12223], 0), []), none, none, some ((.if_icmp .eq 389, 3, [], 0), []), none, none, some ((.iconst 0, 1, [], 0), []), some ((.ireturn, 1, [], 0), []), some ((.aload_n 1, 1, [], 0), []), some ((.aload_n 0, 1, [], 0), [])],
  [some ((.iload_n 3, 1, [], 0), []), some ((.iconst 1, 1, [], 0), []), some ((.iadd, 1, [], 0), []), some ((.iaload, 1, [], 0), []), some ((.aload_n 0, 1, [], 0), []), some ((.iload_n 3, 1, [], 0), []), some ((.iconst 2, 1, [], 0), []), some ((.iadd, 1, [], 0), []), some ((.iaload, 1, [], 0), []), some ((.invokevirtual 127, 3, [0, 100, 3, 0, 0, 9, 10103, 10104, 10105, 7001, 10106], 0), []), none, none, some ((.aload_n 2, 1, [], 0), []), some ((.aload_n 0, 1, [], 0), []), some ((.iload_n 3, 1, [], 0), []), some ((.iconst 1, 1, [], 0), [])],
  [some ((.iadd, 1, [], 0), []), some ((.iaload, 1, [], 0), []), some ((.aload_n 0, 1, [], 0), []), some ((.iload_n 3, 1, [], 0), []), some ((.iconst 2, 1, [], 0), []), some ((.iadd, 1, [], 0), []), some ((.iaload, 1, [], 0), []), some ((.invokevirtual 130, 3, [0, 209, 3, 0, 0, 10, 12224, 12225, 12226, 7017, 12227], 0), []), none, none, some ((.if_icmp .eq 356, 3, [], 0), []), none, none, some ((.iconst 0, 1, [], 0), []), some ((.ireturn, 1, [], 0), []), some ((.aload_n 1, 1, [], 0), [])],
  [some ((.aload_n 0, 1, [], 0), []), some ((.iload_n 3, 1, [], 0), []), some ((.iconst 1, 1, [], 0), []), some ((.iadd, 1, [], 0), []), some ((.iaload, 1, [], 0), []), some ((.invokevirtual 131, 3, [0, 101, 2, 0, 0, 9, 10111, 10112, 10113, 7001, 10114], 0), []), none, none, some ((.aload_n 2, 1, [], 0), []), some ((.aload_n 0, 1, [], 0), []), some ((.iload_n 3, 1, [], 0), []), some ((.iconst 1, 1, [], 0), []), some ((.iadd, 1, [], 0), []), some ((.iaload, 1, [], 0), []), some ((.invokevirtual 134, 3, [0, 210, 2, 0, 0, 10, 12234, 12235, 12236, 7017, 12237], 0), []), none],
  [none, some ((.if_icmp .eq 333, 3, [], 0), []), none, none, some ((.iconst 0, 1, [], 0), []), some ((.ireturn, 1, [], 0), []), some ((.aload_n 1, 1, [], 0), []), some ((.invokevirtual 135, 3, [0, 102, 1, 0, 0, 9, 10115, 10116, 10117, 7001, 10118], 0), []), none, none, some ((.aload_n 2, 1, [], 0), []), some ((.invokevirtual 138, 3, [0, 212, 1, 0, 0, 10, 12238, 12239, 13000, 7017, 13001], 0), []), none, none, some ((.if_icmp .eq 320, 3, [], 0), []), none],
  [none, some ((.iconst 0, 1, [], 0), []), some ((.ireturn, 1, [], 0), []), some ((.aload_n 1, 1, [], 0), []), some ((.aload_n 0, 1, [], 0), []), some ((.iload_n 3, 1, [], 0), []), some ((.iconst 1, 1, [], 0), []), some ((.iadd, 1, [], 0), []), some ((.iaload, 1, [], 0), []), some ((.invokevirtual 139, 3, [0, 103, 2, 0, 0, 9, 10123, 10124, 10125, 7001, 10126], 0), []), none, none, some ((.aload_n 2, 1, [], 0), []), some ((.aload_n 0, 1, [], 0), []), some ((.iload_n 3, 1, [], 0), []), some ((.iconst 1, 1, [], 0), [])],
  [some ((.iadd, 1, [], 0), []), some ((.iaload, 1, [], 0), []), some ((.invokevirtual 142, 3, [0, 213, 2, 0, 0, 10, 13006, 13007, 13008, 7017, 13009], 0), []), none, none, some ((.if_icmp .eq 297, 3, [], 0), []), none, none, some ((.iconst 0, 1, [], 0), []), some ((.ireturn, 1, [], 0), []), some ((.aload_n 1, 1, [], 0), []), some ((.invokevirtual 143, 3, [0, 104, 1, 0, 0, 9, 10127, 10128, 10129, 7001, 10130], 0), []), none, none, some ((.aload_n 2, 1, [], 0), []), some ((.invokevirtual 146, 3, [0, 214, 1, 0, 0, 10, 13010, 13011, 13012, 7017, 13013], 0), [])],
  [none, none, some ((.if_icmp .eq 284, 3, [], 0), []), none, none, some ((.iconst 0, 1, [], 0), []), some ((.ireturn, 1, [], 0), []), some ((.aload_n 1, 1, [], 0), []), some ((.aload_n 0, 1, [], 0), []), some ((.iload_n 3, 1, [], 0), []), some ((.iconst 1, 1, [], 0), []), some ((.iadd, 1, [], 0), []), some ((.iaload, 1, [], 0), []), some ((.aload_n 0, 1, [], 0), []), some ((.iload_n 3, 1, [], 0), []), some ((.iconst 2, 1, [], 0), [])],
  [some ((.iadd, 1, [], 0), []), some ((.iaload, 1, [], 0), []), some ((.invokevirtual 147, 3, [0, 105, 3, 0, 0, 9, 10131, 10132, 10133, 7001, 10134], 0), []), none, none, some ((.aload_n 2, 1, [], 0), []), some ((.aload_n 0, 1, [], 0), []), some ((.iload_n 3, 1, [], 0), []), some ((.iconst 1, 1, [], 0), []), some ((.iadd, 1, [], 0), []), some ((.iaload, 1, [], 0), []), some ((.aload_n 0, 1, [], 0), []), some ((.iload_n 3, 1, [], 0), []), some ((.iconst 2, 1, [], 0), []), some ((.iadd, 1, [], 0), []), some ((.iaload, 1, [], 0), [])],
  [some ((.invokevirtual 150, 3, [0, 215, 3, 0, 0, 10, 13014, 13015, 13016, 7017, 13017], 0), []), none, none, some ((.if_icmp .eq 251, 3, [], 0), []), none, none, some ((.iconst 0, 1, [], 0), []), some ((.ireturn, 1, [], 0), []), some ((.aload_n 1, 1, [], 0), []), some ((.aload_n 0, 1, [], 0), []), some ((.iload_n 3, 1, [], 0), []), some ((.iconst 1, 1, [], 0), []), some ((.iadd, 1, [], 0), []), some ((.iaload, 1, [], 0), []), some ((.aload_n 0, 1, [], 0), []), some ((.iload_n 3, 1, [], 0), [])],
  [some ((.iconst 2, 1, [], 0), []), some ((.iadd, 1, [], 0), []), some ((.iaload, 1, [], 0), []), some ((.invokevirtual 151, 3, [0, 106, 3, 0, 0, 9, 10135, 10136, 10137, 7001, 10138], 0), []), none, none, some ((.aload_n 2, 1, [], 0), []), some ((.aload_n 0, 1, [], 0), []), some ((.iload_n 3, 1, [], 0), []), some ((.iconst 1, 1, [], 0), []), some ((.iadd, 1, [], 0), []), some ((.iaload, 1, [], 0), []), some ((.aload_n 0, 1, [], 0), []), some ((.iload_n 3, 1, [], 0), []), some ((.iconst 2, 1, [], 0), []), some ((.iadd, 1, [], 0), [])],
  [some ((.iaload, 1, [], 0), []), some ((.invokevirtual 154, 3, [0, 216, 3, 0, 0, 10, 13018, 13019, 13020, 7017, 13021], 0), []), none, none, some ((.if_icmp .eq 218, 3, [], 0), []), none, none, some ((.iconst 0, 1, [], 0), []), some ((.ireturn, 1, [], 0), []), some ((.aload_n 1, 1, [], 0), []), some ((.aload_n 0, 1, [], 0), []), some ((.iload_n 3, 1, [], 0), []), some ((.iconst 1, 1, [], 0), []), some ((.iadd, 1, [], 0), []), some ((.iaload, 1, [], 0), []), some ((.invokevirtual 155, 3, [0, 107, 2, 0, 0, 9, 10139, 10140, 10141, 7001, 10142], 0), [])],
  [none, none, some ((.aload_n 2, 1, [], 0), []), some ((.aload_n 0, 1, [], 0), []), some ((.iload_n 3, 1, [], 0), []), some ((.iconst 1, 1, [], 0), []), some ((.iadd, 1, [], 0), []), some ((.iaload, 1, [], 0), []), some ((.invokevirtual 158, 3, [0, 220, 2, 0, 0, 10, 13022, 13023, 13024, 7017, 13025], 0), []), none, none, some ((.if_icmp .eq 195, 3, [], 0), []), none, none, some ((.iconst 0, 1, [], 0), []), some ((.ireturn, 1, [], 0), [])],
  [some ((.aload_n 1, 1, [], 0), []), some ((.aload_n 0, 1, [], 0), []), some ((.iload_n 3, 1, [], 0), []), some ((.iconst 1, 1, [], 0), []), some ((.iadd, 1, [], 0), []), some ((.iaload, 1, [], 0), []), some ((.invokevirtual 159, 3, [0, 108, 2, 0, 0, 9, 10151, 10152, 10153, 7001, 10154], 0), []), none, none, some ((.aload_n 2, 1, [], 0), []), some ((.aload_n 0, 1, [], 0), []), some ((.iload_n 3, 1, [], 0), []), some ((.iconst 1, 1, [], 0), []), some ((.iadd, 1, [], 0), []), some ((.iaload, 1, [], 0), []), some ((.invokevirtual 162, 3, [0, 221, 2, 0, 0, 10, 13034, 13035, 13036, 7017, 13037], 0), [])],
  [none, none, some ((.if_icmp .eq 172, 3, [], 0), []), none, none, some ((.iconst 0, 1, [], 0), []), some ((.ireturn, 1, [], 0), []), some ((.aload_n 1, 1, [], 0), []), some ((.aload_n 0, 1, [], 0), []), some ((.iload_n 3, 1, [], 0), []), some ((.iconst 1, 1, [], 0), []), some ((.iadd, 1, [], 0), []), some ((.iaload, 1, [], 0), []), some ((.invokevirtual 163, 3, [0, 109, 2, 0, 0, 9, 10159, 10160, 10161, 7001, 10162], 0), []), none, none],
  [some ((.aload_n 2, 1, [], 0), []), some ((.aload_n 0, 1, [], 0), []), some ((.iload_n 3, 1, [], 0), []), some ((.iconst 1, 1, [], 0), []), some ((.iadd, 1, [], 0), []), some ((.iaload, 1, [], 0), []), some ((.invokevirtual 166, 3, [0, 222, 2, 0, 0, 10, 13042, 13043, 13044, 7017, 13045], 0), []), none, none, some ((.if_icmp .eq 149, 3, [], 0), []), none, none, some ((.iconst 0, 1, [], 0), []), some ((.ireturn, 1, [], 0), []), some ((.aload_n 1, 1, [], 0), []), some ((.invokevirtual 167, 3, [0, 110, 1, 0, 0, 9, 10164, 10165, 10166, 7001, 10167], 0), [])],
  [none, none, some ((.aload_n 2, 1, [], 0), []), some ((.invokevirtual 170, 3, [0, 223, 1, 0, 0, 10, 13046, 13047, 13048, 7017, 13049], 0), []), none, none, some ((.if_icmp .eq 136, 3, [], 0), []), none, none, some ((.iconst 0, 1, [], 0), []), some ((.ireturn, 1, [], 0), []), some ((.aload_n 1, 1, [], 0), []), some ((.aload_n 0, 1, [], 0), []), some ((.iload_n 3, 1, [], 0), []), some ((.iconst 1, 1, [], 0), []), some ((.iadd, 1, [], 0), [])],
  [some ((.iaload, 1, [], 0), []), some ((.invokevirtual 171, 3, [0, 111, 2, 0, 0, 9, 10168, 10169, 10170, 7001, 10171], 0), []), none, none, some ((.aload_n 2, 1, [], 0), []), some ((.aload_n 0, 1, [], 0), []), some ((.iload_n 3, 1, [], 0), []), some ((.iconst 1, 1, [], 0), []), some ((.iadd, 1, [], 0), []), some ((.iaload, 1, [], 0), []), some ((.invokevirtual 174, 3, [0, 225, 2, 0, 0, 10, 13050, 13051, 13052, 7017, 13053], 0), []), none, none, some ((.if_icmp .eq 113, 3, [], 0), []), none, none],
  [some ((.iconst 0, 1, [], 0), []), some ((.ireturn, 1, [], 0), []), some ((.aload_n 1, 1, [], 0), []), some ((.invokevirtual 175, 3, [0, 112, 1, 0, 0, 9, 10176, 10177, 10178, 7001, 10179], 0), []), none, none, some ((.aload_n 2, 1, [], 0), []), some ((.invokevirtual 178, 3, [0, 226, 1, 0, 0, 10, 13058, 13059, 13060, 7017, 13061], 0), []), none, none, some ((.if_icmp .eq 100, 3, [], 0), []), none, none, some ((.iconst 0, 1, [], 0), []), some ((.ireturn, 1, [], 0), []), some ((.aload_n 1, 1, [], 0), [])],
  [some ((.aload_n 0, 1, [], 0), []), some ((.iload_n 3, 1, [], 0), []), some ((.iconst 1, 1, [], 0), []), some ((.iadd, 1, [], 0), []), some ((.iaload, 1, [], 0), []), some ((.aload_n 0, 1, [], 0), []), some ((.iload_n 3, 1, [], 0), []), some ((.iconst 2, 1, [], 0), []), some ((.iadd, 1, [], 0), []), some ((.iaload, 1, [], 0), []), some ((.invokevirtual 179, 3, [0, 113, 3, 0, 0, 9, 10180, 10181, 10182, 7001, 10183], 0), []), none, none, some ((.aload_n 2, 1, [], 0), []), some ((.aload_n 0, 1, [], 0), []), some ((.iload_n 3, 1, [], 0), [])],
  [some ((.iconst 1, 1, [], 0), []), some ((.iadd, 1, [], 0), []), some ((.iaload, 1, [], 0), []), some ((.aload_n 0, 1, [], 0), []), some ((.iload_n 3, 1, [], 0), []), some ((.iconst 2, 1, [], 0), []), some ((.iadd, 1, [], 0), []), some ((.iaload, 1, [], 0), []), some ((.invokevirtual 182, 3, [0, 229, 3, 0, 0, 10, 13062, 13063, 13064, 7017, 13065], 0), []), none, none, some ((.if_icmp .eq 67, 3, [], 0), []), none, none, some ((.iconst 0, 1, [], 0), []), some ((.ireturn, 1, [], 0), [])],
  [some ((.aload_n 1, 1, [], 0), []), some ((.aload_n 0, 1, [], 0), []), some ((.iload_n 3, 1, [], 0), []), some ((.iconst 1, 1, [], 0), []), some ((.iadd, 1, [], 0), []), some ((.iaload, 1, [], 0), []), some ((.invokevirtual 183, 3, [0, 114, 2, 0, 0, 9, 10191, 10192, 10193, 7001, 10194], 0), []), none, none, some ((.aload_n 2, 1, [], 0), []), some ((.aload_n 0, 1, [], 0), []), some ((.iload_n 3, 1, [], 0), []), some ((.iconst 1, 1, [], 0), []), some ((.iadd, 1, [], 0), []), some ((.iaload, 1, [], 0), []), some ((.invokevirtual 186, 3, [0, 230, 2, 0, 0, 10, 13070, 13071, 13072, 7017, 13073], 0), [])],
  [none, none, some ((.if_icmp .eq 44, 3, [], 0), []), none, none, some ((.iconst 0, 1, [], 0), []), some ((.ireturn, 1, [], 0), []), some ((.aload_n 1, 1, [], 0), []), some ((.invokevirtual 187, 3, [0, 115, 1, 0, 0, 9, 10195, 10196, 10197, 7001, 10198], 0), []), none, none, some ((.aload_n 2, 1, [], 0), []), some ((.invokevirtual 190, 3, [0, 231, 1, 0, 0, 10, 13074, 13075, 13076, 7017, 13077], 0), []), none, none, some ((.if_icmp .eq 31, 3, [], 0), [])],
  [none, none, some ((.iconst 0, 1, [], 0), []), some ((.ireturn, 1, [], 0), []), some ((.aload_n 1, 1, [], 0), []), some ((.invokevirtual 191, 3, [0, 116, 1, 0, 0, 9, 10199, 10200, 10201, 7001, 10202], 0), []), none, none, some ((.aload_n 2, 1, [], 0), []), some ((.invokevirtual 194, 3, [0, 232, 1, 0, 0, 10, 13078, 13079, 13080, 7017, 13081], 0), []), none, none, some ((.if_icmp .eq 18, 3, [], 0), []), none, none, some ((.iconst 0, 1, [], 0), [])],
  [some ((.ireturn, 1, [], 0), []), some ((.aload_n 1, 1, [], 0), []), some ((.invokevirtual 195, 3, [0, 117, 1, 0, 0, 9, 10207, 10208, 10209, 7001, 10210], 0), []), none, none, some ((.aload_n 2, 1, [], 0), []), some ((.invokevirtual 198, 3, [0, 233, 1, 0, 0, 10, 13086, 13087, 13088, 7017, 13089], 0), []), none, none, some ((.if_icmp .eq 5, 3, [], 0), []), none, none, some ((.iconst 0, 1, [], 0), []), some ((.ireturn, 1, [], 0), []), some ((.iinc 3 6, 3, [], 0), []), none],
  [none, some ((.goto (-1359), 3, [], 0), []), none, none, some ((.iconst 1, 1, [], 0), []), some ((.ireturn, 1, [], 0), [])]])
def zMs : List zMeth := [kX0_init, kX0_note, kX0_backTo, kX1_init, kX1_clear, kX1_openPeriod, kX1_weekdayOf, kX1_allDays, kX1_feastNamed, kX1_areMates, kX1_leader, kX1_jointDays, kX1_trainsOn, kX2_init, kX2_tokensOf, kX2_work, kX2_fewest, kX2_find, kX2_absentWeekdays, kX2_search, kX2_feastsInside, kX2_prepare, kX2_feastsAsDays, kX2_compare, kX2_fill, kX2_tokensOfDay, kX2_stateBehindDay, kX2_tokensOfBounds, kX2_offerSpans, kX2_offerPatterns, kX2_offer, kX2_trace, kX2_traceSpan, kX3_init, kX3_kindOf, kX4_init, kX4_readDesk, kX4_readAlone, kX4_scan, kX4_kindOfSign, kX4_openToken, kX4_widenToken, kX4_fail, kX4_step, kX4_take, kX4_seeNumber, kX4_isWeekday, kX4_readLine, kX4_readHead, kX4_readFeast, kX4_readFeastDays, kX4_readTrain, kX4_readWording, kX4_readSpans, kX4_readPattern, kX4_readBounds, kX4_readExceptions, kX4_readEntries, kX5_init, kX6_init, kX6_add, kX7_init, kX7_clear, kX7_addSpan, kX8_init, kX8_write, kX8_writePattern, kX8_writeEntries, kX8_putWord, kX8_putNumber, kX8_putBlank, kX8_putSign, kX9_init, kX9_feed, kX9_end, kX9_desk, kX9_fault, kX9_count, kX9_weekday, kX9_feast, kX9_train, kX9_days, kX9_runs, kX9_many, kX9_votes, kX9_vote, kX9_strays, kX9_next, kX9_rest, kX9_words, kX9_length, kX9_sign, kX9_ways, kX9_spans, kX9_span, kX9_nots, kX9_alsos, kX9_within, kX9_plain, kX9_other, kX9_shift, kX9_least, kX9_tells, kX9_told, kX9_worse, kX9_shares, kX9_same, kX9_join, kX9_joint, kX9_twice, kX9_saved, kX9_crowd, kX9_full, kX9_flips, kX9_sets, kX9_merges, kX9_undo, kX9_anew, kX9_isTrain, kX9_isDay, kX9_votedWeekdays, kX9_rowStarts, kX9_rowSize, kX10_in, kX10_has, kX10_bitsOf, kX10_flag, kX10_init, kX10_feed, kX10_end, kX10_isAt, kX10_next, kX10_wordHere, kX10_feastHere, kX10_faults, kX10_needs, kX10_isSign, kX10_reads, kX10_isWeekday, kX10_readsWeekday, kX10_readsDesk, kX10_readsDay, kX10_readsFeast, kX10_readsTrain, kX10_readsWording, kX10_readsSpans, kX10_readsPattern, kX10_readsBehind, kX10_readsEntries, kX10_begins, kX10_desk, kX10_fault, kX10_count, kX10_weekdayOf, kX10_isDay, kX10_isTrain, kX10_runsOf, kX10_whole, kX10_weekday, kX10_feast, kX10_train, kX10_days, kX10_runs, kX10_many, kX10_daysOf, kX10_votes, kX10_voteOf, kX10_vote, kX10_strays, kX10_next_, kX10_rest, kX10_feastDays, kX10_patternCost, kX10_modeCost, kX10_bareCost, kX10_spanCost, kX10_endsCost, kX10_goesOn, kX10_place, kX10_weighs, kX10_begins_, kX10_canStand, kX10_solves, kX10_withinOf, kX10_weighsWithin, kX10_chooses, kX10_goesBare, kX10_costOf, kX10_begun, kX10_takes, kX10_rests, kX10_words, kX10_ways, kX10_sign, kX10_blank, kX10_says, kX10_saysNumber, kX10_saysPattern, kX10_saysEntries, kX10_writes, kX10_length, kX10_sign_, kX10_spans, kX10_span, kX10_nots, kX10_alsos, kX10_within, kX10_plain, kX10_other, kX10_shift, kX10_least, kX10_readsAlone, kX10_tells, kX10_told, kX10_worse, kX10_shares, kX10_same, kX10_isJoined, kX10_joinOf, kX10_jointOf, kX10_join, kX10_joint, kX10_twice, kX10_saved, kX10_crowdOf, kX10_crowd, kX10_full, kX10_keeps, kX10_goesBack, kX10_flips, kX10_sets, kX10_merges, kX10_undo, kX10_anew, kJ6_numberOfTrailingZeros_0f7a4, kJ6_bitCount_0f7a4, kJ9_max_7cf53, kJ9_min_7cf53, kJ9_min_f86c9, kL_law]
def zZ (y : Nat) : zMeth := match znth zMs y with
  | some M => M
  | none => kX0_init
end
section
/-- the cells of the two objects, DayWords first; what refers to what -/
def zSH : List zK := [.inl 9, .inl 3, .inr (1, 19), .inl 6, .inr (2, 600), .inl 4, .inr (0, 601), .inr (0, 601), .inr (1, 601), .inl 0, .inr (0, 120), .inl 1, .inr (0, 128), .inr (1, 2), .inr (0, 2), .inr (0, 6), .inr (0, 6), .inr (0, 6), .inl 1, .inr (0, 128), .inr (1, 2), .inr (0, 2), .inr (0, 6), .inr (0, 6), .inr (0, 6), .inl 2, .inl 7, .inr (0, 28), .inr (0, 28), .inr (0, 28), .inr (2, 300), .inr (0, 128), .inr (0, 128), .inr (0, 7), .inr (4, 5), .inr (0, 7), .inl 8, .inl 5, .inr (0, 116), .inr (1, 116), .inl 5, .inr (0, 116), .inr (1, 116), .inl 5, .inr (0, 116), .inr (1, 116), .inl 5, .inr (0, 116), .inr (1, 116), .inl 5, .inr (0, 116), .inr (1, 116), .inl 10, .inr (0, 44), .inr (0, 44), .inr (0, 120), .inr (0, 600), .inr (0, 116), .inr (1, 116), .inr (0, 145), .inr (0, 128), .inr (0, 7), .inr (0, 128), .inr (0, 28), .inr (0, 28), .inr (0, 28), .inr (0, 4), .inr (3, 4)]
def zRl : List (List (Option Nat)) := [[some 3, some 5, some 25, some 9, some 11, some 18, none, none, none, none, none, none, none],
  [some 2],
  [],
  [some 4, none],
  [],
  [none, none, none, none, some 1, some 6, some 7, some 8, none, none, none, none, none, none, none],
  [],
  [],
  [],
  [some 10, none],
  [],
  [some 12, some 13, some 14, some 15, some 16, some 17, none, none, none, none, none],
  [],
  [],
  [],
  [],
  [],
  [],
  [some 19, some 20, some 21, some 22, some 23, some 24, none, none, none, none, none],
  [],
  [],
  [],
  [],
  [],
  [],
  [some 36, some 26, some 31, some 32, some 33, some 34, some 35, some 11, none, none, none, none, none, none, none, none],
  [some 27, some 28, some 29, some 30, none, none, none, none, none, none, none, none, none, none],
  [],
  [],
  [],
  [],
  [],
  [],
  [],
  [some 37, some 40, some 43, some 46, some 49],
  [],
  [some 1],
  [some 38, some 39],
  [],
  [],
  [some 41, some 42],
  [],
  [],
  [some 44, some 45],
  [],
  [],
  [some 47, some 48],
  [],
  [],
  [some 50, some 51],
  [],
  [],
  [some 53, some 54, some 55, none, some 56, none, none, none, none, none, none, none, none, none, none, none, none, none, none, none, some 57, some 58, some 59, some 60, some 61, some 62, none, none, none, none, some 63, some 64, some 65, none, none, none, none, none, some 66, some 67, none, none, none, none, none, none, none, none],
  [],
  [],
  [],
  [],
  [],
  [],
  [],
  [],
  [],
  [],
  [],
  [],
  [],
  [],
  []]
def zRR : zR := fun a b => match znth zRl a with
  | some r => match znth r b with
    | some q => q
    | none => none
  | none => none
def hp (I : zI) (L : zL) : zH := (zSH, I, L, zRR)
end
section
theorem zcall_ent {y : Nat} {M : zMeth} {as : List Value} {h : zH} {S : zS} (hy : zZ y = M) (he : zent M as h = S) : zcall zZ y as h = (zrun zZ M (zclear M S)).map (fun r => (r.1, r.2.1)) := by
  subst hy; subst he
  exact zcall_run zZ _ as h
def zushr (x y : Int32) : Int32 := (x.toUInt32 >>> (y.toUInt32 &&& Int32.toUInt32 31)).toInt32
end
section
theorem c_J6_numberOfTrailingZeros_0f7a4 (h : zH) (x0 : Int32) : zcall zZ nJ6_numberOfTrailingZeros_0f7a4 [.int x0] h = (zrun zZ kJ6_numberOfTrailingZeros_0f7a4 (0, [some (.int x0), none], [], h, 0, 0)).map (fun r => (r.1, r.2.1)) := (zcall_ent (M := kJ6_numberOfTrailingZeros_0f7a4) (S := (0, [some (.int x0), none], [], h, 0, 0)) rfl rfl).trans rfl
theorem e_J6_numberOfTrailingZeros_0f7a4_0 (h : zH) (x0 : Int32) : zrun zZ kJ6_numberOfTrailingZeros_0f7a4 (0, [some (.int x0), none], [], h, 0, 0) = (cond (decide ((0 : Int32) < ((x0 ^^^ (-1 : Int32)) &&& (x0 - (1 : Int32))))) (cond (!decide ((65536 : Int32) < ((x0 ^^^ (-1 : Int32)) &&& (x0 - (1 : Int32))))) (zrun zZ kJ6_numberOfTrailingZeros_0f7a4 (34, [some (.int ((x0 ^^^ (-1 : Int32)) &&& (x0 - (1 : Int32)))), some (.int (1 : Int32))], [], h, 0, 0)) (zrun zZ kJ6_numberOfTrailingZeros_0f7a4 (34, [some (.int (zushr ((x0 ^^^ (-1 : Int32)) &&& (x0 - (1 : Int32))) (16 : Int32))), some (.int (17 : Int32))], [], h, 0, 0))) (some (some (.int (((x0 ^^^ (-1 : Int32)) &&& (x0 - (1 : Int32))) &&& (32 : Int32))), h, 0, 0))) := (zrun_go zZ [0, 34, 49, 62, 74] 400 _ _).trans rfl
theorem e_J6_numberOfTrailingZeros_0f7a4_34 (h : zH) (x0 : Int32) (x1 : Int32) : zrun zZ kJ6_numberOfTrailingZeros_0f7a4 (34, [some (.int x0), some (.int x1)], [], h, 0, 0) = (cond (!decide ((256 : Int32) < x0)) (zrun zZ kJ6_numberOfTrailingZeros_0f7a4 (49, [some (.int x0), some (.int x1)], [], h, 0, 0)) (zrun zZ kJ6_numberOfTrailingZeros_0f7a4 (49, [some (.int (zushr x0 (8 : Int32))), some (.int (x1 + (8 : Int32)))], [], h, 0, 0))) := (zrun_go zZ [0, 34, 49, 62, 74] 400 _ _).trans rfl
theorem e_J6_numberOfTrailingZeros_0f7a4_49 (h : zH) (x0 : Int32) (x1 : Int32) : zrun zZ kJ6_numberOfTrailingZeros_0f7a4 (49, [some (.int x0), some (.int x1)], [], h, 0, 0) = (cond (!decide ((16 : Int32) < x0)) (zrun zZ kJ6_numberOfTrailingZeros_0f7a4 (62, [some (.int x0), some (.int x1)], [], h, 0, 0)) (zrun zZ kJ6_numberOfTrailingZeros_0f7a4 (62, [some (.int (zushr x0 (4 : Int32))), some (.int (x1 + (4 : Int32)))], [], h, 0, 0))) := (zrun_go zZ [0, 34, 49, 62, 74] 400 _ _).trans rfl
theorem e_J6_numberOfTrailingZeros_0f7a4_62 (h : zH) (x0 : Int32) (x1 : Int32) : zrun zZ kJ6_numberOfTrailingZeros_0f7a4 (62, [some (.int x0), some (.int x1)], [], h, 0, 0) = (cond (!decide ((4 : Int32) < x0)) (zrun zZ kJ6_numberOfTrailingZeros_0f7a4 (74, [some (.int x0), some (.int x1)], [], h, 0, 0)) (zrun zZ kJ6_numberOfTrailingZeros_0f7a4 (74, [some (.int (zushr x0 (2 : Int32))), some (.int (x1 + (2 : Int32)))], [], h, 0, 0))) := (zrun_go zZ [0, 34, 49, 62, 74] 400 _ _).trans rfl
theorem e_J6_numberOfTrailingZeros_0f7a4_74 (h : zH) (x0 : Int32) (x1 : Int32) : zrun zZ kJ6_numberOfTrailingZeros_0f7a4 (74, [some (.int x0), some (.int x1)], [], h, 0, 0) = (some (some (.int (x1 + (zushr x0 (1 : Int32)))), h, 0, 0)) := (zrun_go zZ [0, 34, 49, 62, 74] 400 _ _).trans rfl
theorem c_J6_bitCount_0f7a4 (h : zH) (x0 : Int32) : zcall zZ nJ6_bitCount_0f7a4 [.int x0] h = (zrun zZ kJ6_bitCount_0f7a4 (0, [some (.int x0)], [], h, 0, 0)).map (fun r => (r.1, r.2.1)) := (zcall_ent (M := kJ6_bitCount_0f7a4) (S := (0, [some (.int x0)], [], h, 0, 0)) rfl rfl).trans rfl
theorem e_J6_bitCount_0f7a4_0 (h : zH) (x0 : Int32) : zrun zZ kJ6_bitCount_0f7a4 (0, [some (.int x0)], [], h, 0, 0) = (zrun zZ kJ6_bitCount_0f7a4 (34, [some (.int (((((x0 - ((zushr x0 (1 : Int32)) &&& (1431655765 : Int32))) &&& (858993459 : Int32)) + ((zushr (x0 - ((zushr x0 (1 : Int32)) &&& (1431655765 : Int32))) (2 : Int32)) &&& (858993459 : Int32))) + (zushr (((x0 - ((zushr x0 (1 : Int32)) &&& (1431655765 : Int32))) &&& (858993459 : Int32)) + ((zushr (x0 - ((zushr x0 (1 : Int32)) &&& (1431655765 : Int32))) (2 : Int32)) &&& (858993459 : Int32))) (4 : Int32))) &&& (252645135 : Int32)))], [], h, 0, 0)) := (zrun_go zZ [0, 34] 400 _ _).trans rfl
theorem e_J6_bitCount_0f7a4_34 (h : zH) (x0 : Int32) : zrun zZ kJ6_bitCount_0f7a4 (34, [some (.int x0)], [], h, 0, 0) = (some (some (.int (((x0 + (zushr x0 (8 : Int32))) + (zushr (x0 + (zushr x0 (8 : Int32))) (16 : Int32))) &&& (63 : Int32))), h, 0, 0)) := (zrun_go zZ [0, 34] 400 _ _).trans rfl
theorem c_J9_max_7cf53 (h : zH) (x0 : Int32) (x1 : Int32) : zcall zZ nJ9_max_7cf53 [.int x0, .int x1] h = (zrun zZ kJ9_max_7cf53 (0, [some (.int x0), some (.int x1)], [], h, 0, 0)).map (fun r => (r.1, r.2.1)) := (zcall_ent (M := kJ9_max_7cf53) (S := (0, [some (.int x0), some (.int x1)], [], h, 0, 0)) rfl rfl).trans rfl
theorem e_J9_max_7cf53_0 (h : zH) (x0 : Int32) (x1 : Int32) : zrun zZ kJ9_max_7cf53 (0, [some (.int x0), some (.int x1)], [], h, 0, 0) = (cond (decide (x0 < x1)) (zrun zZ kJ9_max_7cf53 (10, [none, none], [.int x1], h, 0, 0)) (zrun zZ kJ9_max_7cf53 (10, [none, none], [.int x0], h, 0, 0))) := (zrun_go zZ [0, 10] 400 _ _).trans rfl
theorem e_J9_max_7cf53_10 (h : zH) (xs0 : Int32) : zrun zZ kJ9_max_7cf53 (10, [none, none], [.int xs0], h, 0, 0) = (some (some (.int xs0), h, 0, 0)) := (zrun_go zZ [0, 10] 400 _ _).trans rfl
theorem c_J9_min_7cf53 (h : zH) (x0 : Int32) (x1 : Int32) : zcall zZ nJ9_min_7cf53 [.int x0, .int x1] h = (zrun zZ kJ9_min_7cf53 (0, [some (.int x0), some (.int x1)], [], h, 0, 0)).map (fun r => (r.1, r.2.1)) := (zcall_ent (M := kJ9_min_7cf53) (S := (0, [some (.int x0), some (.int x1)], [], h, 0, 0)) rfl rfl).trans rfl
theorem e_J9_min_7cf53_0 (h : zH) (x0 : Int32) (x1 : Int32) : zrun zZ kJ9_min_7cf53 (0, [some (.int x0), some (.int x1)], [], h, 0, 0) = (cond (decide (x1 < x0)) (zrun zZ kJ9_min_7cf53 (10, [none, none], [.int x1], h, 0, 0)) (zrun zZ kJ9_min_7cf53 (10, [none, none], [.int x0], h, 0, 0))) := (zrun_go zZ [0, 10] 400 _ _).trans rfl
theorem e_J9_min_7cf53_10 (h : zH) (xs0 : Int32) : zrun zZ kJ9_min_7cf53 (10, [none, none], [.int xs0], h, 0, 0) = (some (some (.int xs0), h, 0, 0)) := (zrun_go zZ [0, 10] 400 _ _).trans rfl
theorem c_J9_min_f86c9 (h : zH) (y0 : Int64) (y2 : Int64) : zcall zZ nJ9_min_f86c9 [.long y0, .long y2] h = (zrun zZ kJ9_min_f86c9 (0, [some (.long y0), none, some (.long y2), none], [], h, 0, 0)).map (fun r => (r.1, r.2.1)) := (zcall_ent (M := kJ9_min_f86c9) (S := (0, [some (.long y0), none, some (.long y2), none], [], h, 0, 0)) rfl rfl).trans rfl
theorem e_J9_min_f86c9_0 (h : zH) (y0 : Int64) (y2 : Int64) : zrun zZ kJ9_min_f86c9 (0, [some (.long y0), none, some (.long y2), none], [], h, 0, 0) = (cond (decide ((0 : Int32) < (lg_cmp y0 y2))) (zrun zZ kJ9_min_f86c9 (11, [none, none, none, none], [.long y2], h, 0, 0)) (zrun zZ kJ9_min_f86c9 (11, [none, none, none, none], [.long y0], h, 0, 0))) := (zrun_go zZ [0, 11] 400 _ _).trans rfl
theorem e_J9_min_f86c9_11 (h : zH) (ys0 : Int64) : zrun zZ kJ9_min_f86c9 (11, [none, none, none, none], [.long ys0], h, 0, 0) = (some (some (.long ys0), h, 0, 0)) := (zrun_go zZ [0, 11] 400 _ _).trans rfl
end
