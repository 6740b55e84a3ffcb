section
-- ===== PART A: goes FIRST, ahead of the names: the tables' words, and 'selects' of the private methods out of them =====
/-- a private method of a class that the tables say can be made, by its rows of tables_1 -/
def lw_okq (q : MethodName × Nat) : Prop := (q.1.cls ≠ "java/lang/invoke/MethodHandle" ∧ q.1.cls ≠ "java/lang/invoke/VarHandle") ∧ Cond.instantiable q.1.cls q.2 ∈ tables_1 ∧ Cond.privateMethod q.1 ∈ tables_1 ∧ Cond.instanceMethod q.1 ∈ tables_1
theorem lw_p0 : lw_okq (⟨"DayWords$Reader", "scan", "(LDayWords$Tape;)V"⟩, 15) := ⟨⟨by decide +kernel, by decide +kernel⟩, List.mem_of_getElem? (i := 106) (by decide +kernel), List.mem_of_getElem? (i := 484) (by decide +kernel), List.mem_of_getElem? (i := 485) (by decide +kernel)⟩
theorem lw_p1 : lw_okq (⟨"DayWords$Reader", "openToken", "(II)V"⟩, 15) := ⟨⟨by decide +kernel, by decide +kernel⟩, List.mem_of_getElem? (i := 106) (by decide +kernel), List.mem_of_getElem? (i := 491) (by decide +kernel), List.mem_of_getElem? (i := 492) (by decide +kernel)⟩
theorem lw_p2 : lw_okq (⟨"DayWords$Reader", "widenToken", "(II)V"⟩, 15) := ⟨⟨by decide +kernel, by decide +kernel⟩, List.mem_of_getElem? (i := 106) (by decide +kernel), List.mem_of_getElem? (i := 495) (by decide +kernel), List.mem_of_getElem? (i := 496) (by decide +kernel)⟩
theorem lw_p3 : lw_okq (⟨"DayWords$Reader", "readLine", "(LDayWords$Desk;)Z"⟩, 15) := ⟨⟨by decide +kernel, by decide +kernel⟩, List.mem_of_getElem? (i := 106) (by decide +kernel), List.mem_of_getElem? (i := 513) (by decide +kernel), List.mem_of_getElem? (i := 514) (by decide +kernel)⟩
theorem lw_p4 : lw_okq (⟨"DayWords$Reader", "readHead", "(LDayWords$Desk;)Z"⟩, 15) := ⟨⟨by decide +kernel, by decide +kernel⟩, List.mem_of_getElem? (i := 106) (by decide +kernel), List.mem_of_getElem? (i := 517) (by decide +kernel), List.mem_of_getElem? (i := 518) (by decide +kernel)⟩
theorem lw_p5 : lw_okq (⟨"DayWords$Reader", "take", "(I)Z"⟩, 15) := ⟨⟨by decide +kernel, by decide +kernel⟩, List.mem_of_getElem? (i := 106) (by decide +kernel), List.mem_of_getElem? (i := 521) (by decide +kernel), List.mem_of_getElem? (i := 522) (by decide +kernel)⟩
theorem lw_p6 : lw_okq (⟨"DayWords$Reader", "fail", "(I)Z"⟩, 15) := ⟨⟨by decide +kernel, by decide +kernel⟩, List.mem_of_getElem? (i := 106) (by decide +kernel), List.mem_of_getElem? (i := 525) (by decide +kernel), List.mem_of_getElem? (i := 526) (by decide +kernel)⟩
theorem lw_p7 : lw_okq (⟨"DayWords$Reader", "step", "()V"⟩, 15) := ⟨⟨by decide +kernel, by decide +kernel⟩, List.mem_of_getElem? (i := 106) (by decide +kernel), List.mem_of_getElem? (i := 529) (by decide +kernel), List.mem_of_getElem? (i := 530) (by decide +kernel)⟩
theorem lw_p8 : lw_okq (⟨"DayWords$Reader", "seeNumber", "(II)Z"⟩, 15) := ⟨⟨by decide +kernel, by decide +kernel⟩, List.mem_of_getElem? (i := 106) (by decide +kernel), List.mem_of_getElem? (i := 533) (by decide +kernel), List.mem_of_getElem? (i := 534) (by decide +kernel)⟩
theorem lw_p9 : lw_okq (⟨"DayWords$Reader", "isWeekday", "()Z"⟩, 15) := ⟨⟨by decide +kernel, by decide +kernel⟩, List.mem_of_getElem? (i := 106) (by decide +kernel), List.mem_of_getElem? (i := 537) (by decide +kernel), List.mem_of_getElem? (i := 538) (by decide +kernel)⟩
theorem lw_p10 : lw_okq (⟨"DayWords$Reader", "readFeast", "(LDayWords$Desk;)Z"⟩, 15) := ⟨⟨by decide +kernel, by decide +kernel⟩, List.mem_of_getElem? (i := 106) (by decide +kernel), List.mem_of_getElem? (i := 546) (by decide +kernel), List.mem_of_getElem? (i := 547) (by decide +kernel)⟩
theorem lw_p11 : lw_okq (⟨"DayWords$Reader", "readFeastDays", "(LDayWords$Desk;)Z"⟩, 15) := ⟨⟨by decide +kernel, by decide +kernel⟩, List.mem_of_getElem? (i := 106) (by decide +kernel), List.mem_of_getElem? (i := 554) (by decide +kernel), List.mem_of_getElem? (i := 555) (by decide +kernel)⟩
theorem lw_p12 : lw_okq (⟨"DayWords$Reader", "readTrain", "(LDayWords$Desk;)Z"⟩, 15) := ⟨⟨by decide +kernel, by decide +kernel⟩, List.mem_of_getElem? (i := 106) (by decide +kernel), List.mem_of_getElem? (i := 558) (by decide +kernel), List.mem_of_getElem? (i := 559) (by decide +kernel)⟩
theorem lw_p13 : lw_okq (⟨"DayWords$Reader", "readWording", "(LDayWords$Desk;)Z"⟩, 15) := ⟨⟨by decide +kernel, by decide +kernel⟩, List.mem_of_getElem? (i := 106) (by decide +kernel), List.mem_of_getElem? (i := 562) (by decide +kernel), List.mem_of_getElem? (i := 563) (by decide +kernel)⟩
theorem lw_p14 : lw_okq (⟨"DayWords$Reader", "readSpans", "(LDayWords$Desk;)Z"⟩, 15) := ⟨⟨by decide +kernel, by decide +kernel⟩, List.mem_of_getElem? (i := 106) (by decide +kernel), List.mem_of_getElem? (i := 566) (by decide +kernel), List.mem_of_getElem? (i := 567) (by decide +kernel)⟩
theorem lw_p15 : lw_okq (⟨"DayWords$Reader", "readPattern", "()Z"⟩, 15) := ⟨⟨by decide +kernel, by decide +kernel⟩, List.mem_of_getElem? (i := 106) (by decide +kernel), List.mem_of_getElem? (i := 570) (by decide +kernel), List.mem_of_getElem? (i := 571) (by decide +kernel)⟩
def lw_privs_1 : List (MethodName × Nat) := [(⟨"DayWords$Reader", "scan", "(LDayWords$Tape;)V"⟩, 15), (⟨"DayWords$Reader", "openToken", "(II)V"⟩, 15), (⟨"DayWords$Reader", "widenToken", "(II)V"⟩, 15), (⟨"DayWords$Reader", "readLine", "(LDayWords$Desk;)Z"⟩, 15), (⟨"DayWords$Reader", "readHead", "(LDayWords$Desk;)Z"⟩, 15), (⟨"DayWords$Reader", "take", "(I)Z"⟩, 15), (⟨"DayWords$Reader", "fail", "(I)Z"⟩, 15), (⟨"DayWords$Reader", "step", "()V"⟩, 15), (⟨"DayWords$Reader", "seeNumber", "(II)Z"⟩, 15), (⟨"DayWords$Reader", "isWeekday", "()Z"⟩, 15), (⟨"DayWords$Reader", "readFeast", "(LDayWords$Desk;)Z"⟩, 15), (⟨"DayWords$Reader", "readFeastDays", "(LDayWords$Desk;)Z"⟩, 15), (⟨"DayWords$Reader", "readTrain", "(LDayWords$Desk;)Z"⟩, 15), (⟨"DayWords$Reader", "readWording", "(LDayWords$Desk;)Z"⟩, 15), (⟨"DayWords$Reader", "readSpans", "(LDayWords$Desk;)Z"⟩, 15), (⟨"DayWords$Reader", "readPattern", "()Z"⟩, 15)]
theorem lw_r1 : ∀ q ∈ lw_privs_1, lw_okq q := List.forall_mem_cons.mpr ⟨lw_p0, List.forall_mem_cons.mpr ⟨lw_p1, List.forall_mem_cons.mpr ⟨lw_p2, List.forall_mem_cons.mpr ⟨lw_p3, List.forall_mem_cons.mpr ⟨lw_p4, List.forall_mem_cons.mpr ⟨lw_p5, List.forall_mem_cons.mpr ⟨lw_p6, List.forall_mem_cons.mpr ⟨lw_p7, List.forall_mem_cons.mpr ⟨lw_p8, List.forall_mem_cons.mpr ⟨lw_p9, List.forall_mem_cons.mpr ⟨lw_p10, List.forall_mem_cons.mpr ⟨lw_p11, List.forall_mem_cons.mpr ⟨lw_p12, List.forall_mem_cons.mpr ⟨lw_p13, List.forall_mem_cons.mpr ⟨lw_p14, List.forall_mem_cons.mpr ⟨lw_p15, fun _ h => absurd h List.not_mem_nil⟩⟩⟩⟩⟩⟩⟩⟩⟩⟩⟩⟩⟩⟩⟩⟩
theorem lw_p16 : lw_okq (⟨"DayWords$Reader", "readBounds", "(LDayWords$Desk;)Z"⟩, 15) := ⟨⟨by decide +kernel, by decide +kernel⟩, List.mem_of_getElem? (i := 106) (by decide +kernel), List.mem_of_getElem? (i := 574) (by decide +kernel), List.mem_of_getElem? (i := 575) (by decide +kernel)⟩
theorem lw_p17 : lw_okq (⟨"DayWords$Reader", "readExceptions", "(LDayWords$Desk;)Z"⟩, 15) := ⟨⟨by decide +kernel, by decide +kernel⟩, List.mem_of_getElem? (i := 106) (by decide +kernel), List.mem_of_getElem? (i := 578) (by decide +kernel), List.mem_of_getElem? (i := 579) (by decide +kernel)⟩
theorem lw_p18 : lw_okq (⟨"DayWords$Reader", "readEntries", "(LDayWords$Desk;)Z"⟩, 15) := ⟨⟨by decide +kernel, by decide +kernel⟩, List.mem_of_getElem? (i := 106) (by decide +kernel), List.mem_of_getElem? (i := 582) (by decide +kernel), List.mem_of_getElem? (i := 583) (by decide +kernel)⟩
theorem lw_p19 : lw_okq (⟨"DayWords", "isDay", "(I)Z"⟩, 13) := ⟨⟨by decide +kernel, by decide +kernel⟩, List.mem_of_getElem? (i := 20) (by decide +kernel), List.mem_of_getElem? (i := 602) (by decide +kernel), List.mem_of_getElem? (i := 603) (by decide +kernel)⟩
theorem lw_p20 : lw_okq (⟨"DayWords", "isTrain", "(I)Z"⟩, 13) := ⟨⟨by decide +kernel, by decide +kernel⟩, List.mem_of_getElem? (i := 20) (by decide +kernel), List.mem_of_getElem? (i := 618) (by decide +kernel), List.mem_of_getElem? (i := 619) (by decide +kernel)⟩
theorem lw_p21 : lw_okq (⟨"DayWords", "votedWeekdays", "(I)I"⟩, 13) := ⟨⟨by decide +kernel, by decide +kernel⟩, List.mem_of_getElem? (i := 20) (by decide +kernel), List.mem_of_getElem? (i := 648) (by decide +kernel), List.mem_of_getElem? (i := 649) (by decide +kernel)⟩
theorem lw_p22 : lw_okq (⟨"DayWords$Finder", "absentWeekdays", "()I"⟩, 16) := ⟨⟨by decide +kernel, by decide +kernel⟩, List.mem_of_getElem? (i := 245) (by decide +kernel), List.mem_of_getElem? (i := 679) (by decide +kernel), List.mem_of_getElem? (i := 680) (by decide +kernel)⟩
theorem lw_p23 : lw_okq (⟨"DayWords$Finder", "search", "(IIZ)V"⟩, 16) := ⟨⟨by decide +kernel, by decide +kernel⟩, List.mem_of_getElem? (i := 245) (by decide +kernel), List.mem_of_getElem? (i := 683) (by decide +kernel), List.mem_of_getElem? (i := 684) (by decide +kernel)⟩
theorem lw_p24 : lw_okq (⟨"DayWords$Finder", "feastsInside", "(I)I"⟩, 16) := ⟨⟨by decide +kernel, by decide +kernel⟩, List.mem_of_getElem? (i := 245) (by decide +kernel), List.mem_of_getElem? (i := 688) (by decide +kernel), List.mem_of_getElem? (i := 689) (by decide +kernel)⟩
theorem lw_p25 : lw_okq (⟨"DayWords$Finder", "prepare", "(II)V"⟩, 16) := ⟨⟨by decide +kernel, by decide +kernel⟩, List.mem_of_getElem? (i := 245) (by decide +kernel), List.mem_of_getElem? (i := 693) (by decide +kernel), List.mem_of_getElem? (i := 694) (by decide +kernel)⟩
theorem lw_p26 : lw_okq (⟨"DayWords$Finder", "feastsAsDays", "(I)I"⟩, 16) := ⟨⟨by decide +kernel, by decide +kernel⟩, List.mem_of_getElem? (i := 245) (by decide +kernel), List.mem_of_getElem? (i := 697) (by decide +kernel), List.mem_of_getElem? (i := 698) (by decide +kernel)⟩
theorem lw_p27 : lw_okq (⟨"DayWords$Finder", "fill", "(LDayWords$Row;LDayWords$Row;)V"⟩, 16) := ⟨⟨by decide +kernel, by decide +kernel⟩, List.mem_of_getElem? (i := 245) (by decide +kernel), List.mem_of_getElem? (i := 701) (by decide +kernel), List.mem_of_getElem? (i := 702) (by decide +kernel)⟩
theorem lw_p28 : lw_okq (⟨"DayWords$Finder", "stateBehindDay", "(II)I"⟩, 16) := ⟨⟨by decide +kernel, by decide +kernel⟩, List.mem_of_getElem? (i := 245) (by decide +kernel), List.mem_of_getElem? (i := 705) (by decide +kernel), List.mem_of_getElem? (i := 706) (by decide +kernel)⟩
theorem lw_p29 : lw_okq (⟨"DayWords$Finder", "tokensOfDay", "(II)I"⟩, 16) := ⟨⟨by decide +kernel, by decide +kernel⟩, List.mem_of_getElem? (i := 245) (by decide +kernel), List.mem_of_getElem? (i := 709) (by decide +kernel), List.mem_of_getElem? (i := 710) (by decide +kernel)⟩
theorem lw_p30 : lw_okq (⟨"DayWords$Finder", "offerSpans", "(LDayWords$Row;LDayWords$Row;I)V"⟩, 16) := ⟨⟨by decide +kernel, by decide +kernel⟩, List.mem_of_getElem? (i := 245) (by decide +kernel), List.mem_of_getElem? (i := 713) (by decide +kernel), List.mem_of_getElem? (i := 714) (by decide +kernel)⟩
theorem lw_p31 : lw_okq (⟨"DayWords$Finder", "tokensOfBounds", "(II)I"⟩, 16) := ⟨⟨by decide +kernel, by decide +kernel⟩, List.mem_of_getElem? (i := 245) (by decide +kernel), List.mem_of_getElem? (i := 718) (by decide +kernel), List.mem_of_getElem? (i := 719) (by decide +kernel)⟩
def lw_privs_2 : List (MethodName × Nat) := [(⟨"DayWords$Reader", "readBounds", "(LDayWords$Desk;)Z"⟩, 15), (⟨"DayWords$Reader", "readExceptions", "(LDayWords$Desk;)Z"⟩, 15), (⟨"DayWords$Reader", "readEntries", "(LDayWords$Desk;)Z"⟩, 15), (⟨"DayWords", "isDay", "(I)Z"⟩, 13), (⟨"DayWords", "isTrain", "(I)Z"⟩, 13), (⟨"DayWords", "votedWeekdays", "(I)I"⟩, 13), (⟨"DayWords$Finder", "absentWeekdays", "()I"⟩, 16), (⟨"DayWords$Finder", "search", "(IIZ)V"⟩, 16), (⟨"DayWords$Finder", "feastsInside", "(I)I"⟩, 16), (⟨"DayWords$Finder", "prepare", "(II)V"⟩, 16), (⟨"DayWords$Finder", "feastsAsDays", "(I)I"⟩, 16), (⟨"DayWords$Finder", "fill", "(LDayWords$Row;LDayWords$Row;)V"⟩, 16), (⟨"DayWords$Finder", "stateBehindDay", "(II)I"⟩, 16), (⟨"DayWords$Finder", "tokensOfDay", "(II)I"⟩, 16), (⟨"DayWords$Finder", "offerSpans", "(LDayWords$Row;LDayWords$Row;I)V"⟩, 16), (⟨"DayWords$Finder", "tokensOfBounds", "(II)I"⟩, 16)]
theorem lw_r2 : ∀ q ∈ lw_privs_2, lw_okq q := List.forall_mem_cons.mpr ⟨lw_p16, List.forall_mem_cons.mpr ⟨lw_p17, List.forall_mem_cons.mpr ⟨lw_p18, List.forall_mem_cons.mpr ⟨lw_p19, List.forall_mem_cons.mpr ⟨lw_p20, List.forall_mem_cons.mpr ⟨lw_p21, List.forall_mem_cons.mpr ⟨lw_p22, List.forall_mem_cons.mpr ⟨lw_p23, List.forall_mem_cons.mpr ⟨lw_p24, List.forall_mem_cons.mpr ⟨lw_p25, List.forall_mem_cons.mpr ⟨lw_p26, List.forall_mem_cons.mpr ⟨lw_p27, List.forall_mem_cons.mpr ⟨lw_p28, List.forall_mem_cons.mpr ⟨lw_p29, List.forall_mem_cons.mpr ⟨lw_p30, List.forall_mem_cons.mpr ⟨lw_p31, fun _ h => absurd h List.not_mem_nil⟩⟩⟩⟩⟩⟩⟩⟩⟩⟩⟩⟩⟩⟩⟩⟩
theorem lw_p32 : lw_okq (⟨"DayWords$Finder", "offerPatterns", "(LDayWords$Row;LDayWords$Row;IIII)V"⟩, 16) := ⟨⟨by decide +kernel, by decide +kernel⟩, List.mem_of_getElem? (i := 245) (by decide +kernel), List.mem_of_getElem? (i := 722) (by decide +kernel), List.mem_of_getElem? (i := 723) (by decide +kernel)⟩
theorem lw_p33 : lw_okq (⟨"DayWords$Finder", "offer", "(LDayWords$Row;LDayWords$Row;IIII)V"⟩, 16) := ⟨⟨by decide +kernel, by decide +kernel⟩, List.mem_of_getElem? (i := 245) (by decide +kernel), List.mem_of_getElem? (i := 727) (by decide +kernel), List.mem_of_getElem? (i := 728) (by decide +kernel)⟩
theorem lw_p34 : lw_okq (⟨"DayWords$Finder", "compare", "(IILDayWords$Row;)V"⟩, 16) := ⟨⟨by decide +kernel, by decide +kernel⟩, List.mem_of_getElem? (i := 245) (by decide +kernel), List.mem_of_getElem? (i := 731) (by decide +kernel), List.mem_of_getElem? (i := 732) (by decide +kernel)⟩
theorem lw_p35 : lw_okq (⟨"DayWords$Finder", "trace", "()V"⟩, 16) := ⟨⟨by decide +kernel, by decide +kernel⟩, List.mem_of_getElem? (i := 245) (by decide +kernel), List.mem_of_getElem? (i := 735) (by decide +kernel), List.mem_of_getElem? (i := 736) (by decide +kernel)⟩
theorem lw_p36 : lw_okq (⟨"DayWords$Finder", "traceSpan", "(II)I"⟩, 16) := ⟨⟨by decide +kernel, by decide +kernel⟩, List.mem_of_getElem? (i := 245) (by decide +kernel), List.mem_of_getElem? (i := 739) (by decide +kernel), List.mem_of_getElem? (i := 740) (by decide +kernel)⟩
theorem lw_p37 : lw_okq (⟨"DayWords$Writer", "putWord", "(LDayWords$Words;J)V"⟩, 1) := ⟨⟨by decide +kernel, by decide +kernel⟩, List.mem_of_getElem? (i := 335) (by decide +kernel), List.mem_of_getElem? (i := 751) (by decide +kernel), List.mem_of_getElem? (i := 752) (by decide +kernel)⟩
theorem lw_p38 : lw_okq (⟨"DayWords$Writer", "putBlank", "(LDayWords$Words;)V"⟩, 1) := ⟨⟨by decide +kernel, by decide +kernel⟩, List.mem_of_getElem? (i := 335) (by decide +kernel), List.mem_of_getElem? (i := 755) (by decide +kernel), List.mem_of_getElem? (i := 756) (by decide +kernel)⟩
theorem lw_p39 : lw_okq (⟨"DayWords$Writer", "putSign", "(LDayWords$Words;I)V"⟩, 1) := ⟨⟨by decide +kernel, by decide +kernel⟩, List.mem_of_getElem? (i := 335) (by decide +kernel), List.mem_of_getElem? (i := 759) (by decide +kernel), List.mem_of_getElem? (i := 760) (by decide +kernel)⟩
theorem lw_p40 : lw_okq (⟨"DayWords$Writer", "writePattern", "(LDayWords$Words;I)V"⟩, 1) := ⟨⟨by decide +kernel, by decide +kernel⟩, List.mem_of_getElem? (i := 335) (by decide +kernel), List.mem_of_getElem? (i := 764) (by decide +kernel), List.mem_of_getElem? (i := 765) (by decide +kernel)⟩
theorem lw_p41 : lw_okq (⟨"DayWords$Writer", "putNumber", "(LDayWords$Words;I)V"⟩, 1) := ⟨⟨by decide +kernel, by decide +kernel⟩, List.mem_of_getElem? (i := 335) (by decide +kernel), List.mem_of_getElem? (i := 771) (by decide +kernel), List.mem_of_getElem? (i := 772) (by decide +kernel)⟩
theorem lw_p42 : lw_okq (⟨"DayWords$Writer", "writeEntries", "(LDayWords$Words;LDayWords$Desk;I)V"⟩, 1) := ⟨⟨by decide +kernel, by decide +kernel⟩, List.mem_of_getElem? (i := 335) (by decide +kernel), List.mem_of_getElem? (i := 775) (by decide +kernel), List.mem_of_getElem? (i := 776) (by decide +kernel)⟩
theorem lw_p43 : lw_okq (⟨"DayWordsModel", "begins", "()V"⟩, 48) := ⟨⟨by decide +kernel, by decide +kernel⟩, List.mem_of_getElem? (i := 932) (by decide +kernel), List.mem_of_getElem? (i := 1099) (by decide +kernel), List.mem_of_getElem? (i := 1100) (by decide +kernel)⟩
theorem lw_p44 : lw_okq (⟨"DayWordsModel", "next", "()V"⟩, 48) := ⟨⟨by decide +kernel, by decide +kernel⟩, List.mem_of_getElem? (i := 932) (by decide +kernel), List.mem_of_getElem? (i := 1103) (by decide +kernel), List.mem_of_getElem? (i := 1104) (by decide +kernel)⟩
theorem lw_p45 : lw_okq (⟨"DayWordsModel", "isAt", "(II)Z"⟩, 48) := ⟨⟨by decide +kernel, by decide +kernel⟩, List.mem_of_getElem? (i := 932) (by decide +kernel), List.mem_of_getElem? (i := 1107) (by decide +kernel), List.mem_of_getElem? (i := 1108) (by decide +kernel)⟩
theorem lw_p46 : lw_okq (⟨"DayWordsModel", "wordHere", "()I"⟩, 48) := ⟨⟨by decide +kernel, by decide +kernel⟩, List.mem_of_getElem? (i := 932) (by decide +kernel), List.mem_of_getElem? (i := 1111) (by decide +kernel), List.mem_of_getElem? (i := 1112) (by decide +kernel)⟩
theorem lw_p47 : lw_okq (⟨"DayWordsModel", "readsDesk", "()V"⟩, 48) := ⟨⟨by decide +kernel, by decide +kernel⟩, List.mem_of_getElem? (i := 932) (by decide +kernel), List.mem_of_getElem? (i := 1120) (by decide +kernel), List.mem_of_getElem? (i := 1121) (by decide +kernel)⟩
def lw_privs_3 : List (MethodName × Nat) := [(⟨"DayWords$Finder", "offerPatterns", "(LDayWords$Row;LDayWords$Row;IIII)V"⟩, 16), (⟨"DayWords$Finder", "offer", "(LDayWords$Row;LDayWords$Row;IIII)V"⟩, 16), (⟨"DayWords$Finder", "compare", "(IILDayWords$Row;)V"⟩, 16), (⟨"DayWords$Finder", "trace", "()V"⟩, 16), (⟨"DayWords$Finder", "traceSpan", "(II)I"⟩, 16), (⟨"DayWords$Writer", "putWord", "(LDayWords$Words;J)V"⟩, 1), (⟨"DayWords$Writer", "putBlank", "(LDayWords$Words;)V"⟩, 1), (⟨"DayWords$Writer", "putSign", "(LDayWords$Words;I)V"⟩, 1), (⟨"DayWords$Writer", "writePattern", "(LDayWords$Words;I)V"⟩, 1), (⟨"DayWords$Writer", "putNumber", "(LDayWords$Words;I)V"⟩, 1), (⟨"DayWords$Writer", "writeEntries", "(LDayWords$Words;LDayWords$Desk;I)V"⟩, 1), (⟨"DayWordsModel", "begins", "()V"⟩, 48), (⟨"DayWordsModel", "next", "()V"⟩, 48), (⟨"DayWordsModel", "isAt", "(II)Z"⟩, 48), (⟨"DayWordsModel", "wordHere", "()I"⟩, 48), (⟨"DayWordsModel", "readsDesk", "()V"⟩, 48)]
theorem lw_r3 : ∀ q ∈ lw_privs_3, lw_okq q := List.forall_mem_cons.mpr ⟨lw_p32, List.forall_mem_cons.mpr ⟨lw_p33, List.forall_mem_cons.mpr ⟨lw_p34, List.forall_mem_cons.mpr ⟨lw_p35, List.forall_mem_cons.mpr ⟨lw_p36, List.forall_mem_cons.mpr ⟨lw_p37, List.forall_mem_cons.mpr ⟨lw_p38, List.forall_mem_cons.mpr ⟨lw_p39, List.forall_mem_cons.mpr ⟨lw_p40, List.forall_mem_cons.mpr ⟨lw_p41, List.forall_mem_cons.mpr ⟨lw_p42, List.forall_mem_cons.mpr ⟨lw_p43, List.forall_mem_cons.mpr ⟨lw_p44, List.forall_mem_cons.mpr ⟨lw_p45, List.forall_mem_cons.mpr ⟨lw_p46, List.forall_mem_cons.mpr ⟨lw_p47, fun _ h => absurd h List.not_mem_nil⟩⟩⟩⟩⟩⟩⟩⟩⟩⟩⟩⟩⟩⟩⟩⟩
theorem lw_p48 : lw_okq (⟨"DayWordsModel", "needs", "(Z)V"⟩, 48) := ⟨⟨by decide +kernel, by decide +kernel⟩, List.mem_of_getElem? (i := 932) (by decide +kernel), List.mem_of_getElem? (i := 1124) (by decide +kernel), List.mem_of_getElem? (i := 1125) (by decide +kernel)⟩
theorem lw_p49 : lw_okq (⟨"DayWordsModel", "faults", "(I)V"⟩, 48) := ⟨⟨by decide +kernel, by decide +kernel⟩, List.mem_of_getElem? (i := 932) (by decide +kernel), List.mem_of_getElem? (i := 1128) (by decide +kernel), List.mem_of_getElem? (i := 1129) (by decide +kernel)⟩
theorem lw_p50 : lw_okq (⟨"DayWordsModel", "reads", "(II)I"⟩, 48) := ⟨⟨by decide +kernel, by decide +kernel⟩, List.mem_of_getElem? (i := 932) (by decide +kernel), List.mem_of_getElem? (i := 1132) (by decide +kernel), List.mem_of_getElem? (i := 1133) (by decide +kernel)⟩
theorem lw_p51 : lw_okq (⟨"DayWordsModel", "readsWeekday", "()I"⟩, 48) := ⟨⟨by decide +kernel, by decide +kernel⟩, List.mem_of_getElem? (i := 932) (by decide +kernel), List.mem_of_getElem? (i := 1136) (by decide +kernel), List.mem_of_getElem? (i := 1137) (by decide +kernel)⟩
theorem lw_p52 : lw_okq (⟨"DayWordsModel", "isWeekday", "()Z"⟩, 48) := ⟨⟨by decide +kernel, by decide +kernel⟩, List.mem_of_getElem? (i := 932) (by decide +kernel), List.mem_of_getElem? (i := 1140) (by decide +kernel), List.mem_of_getElem? (i := 1141) (by decide +kernel)⟩
theorem lw_p53 : lw_okq (⟨"DayWordsModel", "readsFeast", "()V"⟩, 48) := ⟨⟨by decide +kernel, by decide +kernel⟩, List.mem_of_getElem? (i := 932) (by decide +kernel), List.mem_of_getElem? (i := 1144) (by decide +kernel), List.mem_of_getElem? (i := 1145) (by decide +kernel)⟩
theorem lw_p54 : lw_okq (⟨"DayWordsModel", "feastHere", "()I"⟩, 48) := ⟨⟨by decide +kernel, by decide +kernel⟩, List.mem_of_getElem? (i := 932) (by decide +kernel), List.mem_of_getElem? (i := 1148) (by decide +kernel), List.mem_of_getElem? (i := 1149) (by decide +kernel)⟩
theorem lw_p55 : lw_okq (⟨"DayWordsModel", "readsDay", "(I)I"⟩, 48) := ⟨⟨by decide +kernel, by decide +kernel⟩, List.mem_of_getElem? (i := 932) (by decide +kernel), List.mem_of_getElem? (i := 1152) (by decide +kernel), List.mem_of_getElem? (i := 1153) (by decide +kernel)⟩
theorem lw_p56 : lw_okq (⟨"DayWordsModel", "readsTrain", "()V"⟩, 48) := ⟨⟨by decide +kernel, by decide +kernel⟩, List.mem_of_getElem? (i := 932) (by decide +kernel), List.mem_of_getElem? (i := 1159) (by decide +kernel), List.mem_of_getElem? (i := 1160) (by decide +kernel)⟩
theorem lw_p57 : lw_okq (⟨"DayWordsModel", "isSign", "(C)Z"⟩, 48) := ⟨⟨by decide +kernel, by decide +kernel⟩, List.mem_of_getElem? (i := 932) (by decide +kernel), List.mem_of_getElem? (i := 1163) (by decide +kernel), List.mem_of_getElem? (i := 1164) (by decide +kernel)⟩
theorem lw_p58 : lw_okq (⟨"DayWordsModel", "readsWording", "()I"⟩, 48) := ⟨⟨by decide +kernel, by decide +kernel⟩, List.mem_of_getElem? (i := 932) (by decide +kernel), List.mem_of_getElem? (i := 1167) (by decide +kernel), List.mem_of_getElem? (i := 1168) (by decide +kernel)⟩
theorem lw_p59 : lw_okq (⟨"DayWordsModel", "readsSpans", "()I"⟩, 48) := ⟨⟨by decide +kernel, by decide +kernel⟩, List.mem_of_getElem? (i := 932) (by decide +kernel), List.mem_of_getElem? (i := 1171) (by decide +kernel), List.mem_of_getElem? (i := 1172) (by decide +kernel)⟩
theorem lw_p60 : lw_okq (⟨"DayWordsModel", "readsPattern", "()I"⟩, 48) := ⟨⟨by decide +kernel, by decide +kernel⟩, List.mem_of_getElem? (i := 932) (by decide +kernel), List.mem_of_getElem? (i := 1175) (by decide +kernel), List.mem_of_getElem? (i := 1176) (by decide +kernel)⟩
theorem lw_p61 : lw_okq (⟨"DayWordsModel", "readsBehind", "(I)I"⟩, 48) := ⟨⟨by decide +kernel, by decide +kernel⟩, List.mem_of_getElem? (i := 932) (by decide +kernel), List.mem_of_getElem? (i := 1179) (by decide +kernel), List.mem_of_getElem? (i := 1180) (by decide +kernel)⟩
theorem lw_p62 : lw_okq (⟨"DayWordsModel", "weekdayOf", "(I)I"⟩, 48) := ⟨⟨by decide +kernel, by decide +kernel⟩, List.mem_of_getElem? (i := 932) (by decide +kernel), List.mem_of_getElem? (i := 1183) (by decide +kernel), List.mem_of_getElem? (i := 1184) (by decide +kernel)⟩
theorem lw_p63 : lw_okq (⟨"DayWordsModel", "readsEntries", "()I"⟩, 48) := ⟨⟨by decide +kernel, by decide +kernel⟩, List.mem_of_getElem? (i := 932) (by decide +kernel), List.mem_of_getElem? (i := 1187) (by decide +kernel), List.mem_of_getElem? (i := 1188) (by decide +kernel)⟩
def lw_privs_4 : List (MethodName × Nat) := [(⟨"DayWordsModel", "needs", "(Z)V"⟩, 48), (⟨"DayWordsModel", "faults", "(I)V"⟩, 48), (⟨"DayWordsModel", "reads", "(II)I"⟩, 48), (⟨"DayWordsModel", "readsWeekday", "()I"⟩, 48), (⟨"DayWordsModel", "isWeekday", "()Z"⟩, 48), (⟨"DayWordsModel", "readsFeast", "()V"⟩, 48), (⟨"DayWordsModel", "feastHere", "()I"⟩, 48), (⟨"DayWordsModel", "readsDay", "(I)I"⟩, 48), (⟨"DayWordsModel", "readsTrain", "()V"⟩, 48), (⟨"DayWordsModel", "isSign", "(C)Z"⟩, 48), (⟨"DayWordsModel", "readsWording", "()I"⟩, 48), (⟨"DayWordsModel", "readsSpans", "()I"⟩, 48), (⟨"DayWordsModel", "readsPattern", "()I"⟩, 48), (⟨"DayWordsModel", "readsBehind", "(I)I"⟩, 48), (⟨"DayWordsModel", "weekdayOf", "(I)I"⟩, 48), (⟨"DayWordsModel", "readsEntries", "()I"⟩, 48)]
theorem lw_r4 : ∀ q ∈ lw_privs_4, lw_okq q := List.forall_mem_cons.mpr ⟨lw_p48, List.forall_mem_cons.mpr ⟨lw_p49, List.forall_mem_cons.mpr ⟨lw_p50, List.forall_mem_cons.mpr ⟨lw_p51, List.forall_mem_cons.mpr ⟨lw_p52, List.forall_mem_cons.mpr ⟨lw_p53, List.forall_mem_cons.mpr ⟨lw_p54, List.forall_mem_cons.mpr ⟨lw_p55, List.forall_mem_cons.mpr ⟨lw_p56, List.forall_mem_cons.mpr ⟨lw_p57, List.forall_mem_cons.mpr ⟨lw_p58, List.forall_mem_cons.mpr ⟨lw_p59, List.forall_mem_cons.mpr ⟨lw_p60, List.forall_mem_cons.mpr ⟨lw_p61, List.forall_mem_cons.mpr ⟨lw_p62, List.forall_mem_cons.mpr ⟨lw_p63, fun _ h => absurd h List.not_mem_nil⟩⟩⟩⟩⟩⟩⟩⟩⟩⟩⟩⟩⟩⟩⟩⟩
theorem lw_p64 : lw_okq (⟨"DayWordsModel", "isDay", "(I)Z"⟩, 48) := ⟨⟨by decide +kernel, by decide +kernel⟩, List.mem_of_getElem? (i := 932) (by decide +kernel), List.mem_of_getElem? (i := 1203) (by decide +kernel), List.mem_of_getElem? (i := 1204) (by decide +kernel)⟩
theorem lw_p65 : lw_okq (⟨"DayWordsModel", "isTrain", "(I)Z"⟩, 48) := ⟨⟨by decide +kernel, by decide +kernel⟩, List.mem_of_getElem? (i := 932) (by decide +kernel), List.mem_of_getElem? (i := 1215) (by decide +kernel), List.mem_of_getElem? (i := 1216) (by decide +kernel)⟩
theorem lw_p66 : lw_okq (⟨"DayWordsModel", "runsOf", "(I)I"⟩, 48) := ⟨⟨by decide +kernel, by decide +kernel⟩, List.mem_of_getElem? (i := 932) (by decide +kernel), List.mem_of_getElem? (i := 1223) (by decide +kernel), List.mem_of_getElem? (i := 1224) (by decide +kernel)⟩
theorem lw_p67 : lw_okq (⟨"DayWordsModel", "daysOf", "(I)I"⟩, 48) := ⟨⟨by decide +kernel, by decide +kernel⟩, List.mem_of_getElem? (i := 932) (by decide +kernel), List.mem_of_getElem? (i := 1246) (by decide +kernel), List.mem_of_getElem? (i := 1247) (by decide +kernel)⟩
theorem lw_p68 : lw_okq (⟨"DayWordsModel", "voteOf", "(I)I"⟩, 48) := ⟨⟨by decide +kernel, by decide +kernel⟩, List.mem_of_getElem? (i := 932) (by decide +kernel), List.mem_of_getElem? (i := 1254) (by decide +kernel), List.mem_of_getElem? (i := 1255) (by decide +kernel)⟩
theorem lw_p69 : lw_okq (⟨"DayWordsModel", "solves", "(IZ)I"⟩, 48) := ⟨⟨by decide +kernel, by decide +kernel⟩, List.mem_of_getElem? (i := 932) (by decide +kernel), List.mem_of_getElem? (i := 1275) (by decide +kernel), List.mem_of_getElem? (i := 1276) (by decide +kernel)⟩
theorem lw_p70 : lw_okq (⟨"DayWordsModel", "begins", "(I)V"⟩, 48) := ⟨⟨by decide +kernel, by decide +kernel⟩, List.mem_of_getElem? (i := 932) (by decide +kernel), List.mem_of_getElem? (i := 1279) (by decide +kernel), List.mem_of_getElem? (i := 1280) (by decide +kernel)⟩
theorem lw_p71 : lw_okq (⟨"DayWordsModel", "canStand", "()Z"⟩, 48) := ⟨⟨by decide +kernel, by decide +kernel⟩, List.mem_of_getElem? (i := 932) (by decide +kernel), List.mem_of_getElem? (i := 1286) (by decide +kernel), List.mem_of_getElem? (i := 1287) (by decide +kernel)⟩
theorem lw_p72 : lw_okq (⟨"DayWordsModel", "feastDays", "(I)I"⟩, 48) := ⟨⟨by decide +kernel, by decide +kernel⟩, List.mem_of_getElem? (i := 932) (by decide +kernel), List.mem_of_getElem? (i := 1290) (by decide +kernel), List.mem_of_getElem? (i := 1291) (by decide +kernel)⟩
theorem lw_p73 : lw_okq (⟨"DayWordsModel", "modeCost", "(I)I"⟩, 48) := ⟨⟨by decide +kernel, by decide +kernel⟩, List.mem_of_getElem? (i := 932) (by decide +kernel), List.mem_of_getElem? (i := 1294) (by decide +kernel), List.mem_of_getElem? (i := 1295) (by decide +kernel)⟩
theorem lw_p74 : lw_okq (⟨"DayWordsModel", "weighs", "(I)V"⟩, 48) := ⟨⟨by decide +kernel, by decide +kernel⟩, List.mem_of_getElem? (i := 932) (by decide +kernel), List.mem_of_getElem? (i := 1298) (by decide +kernel), List.mem_of_getElem? (i := 1299) (by decide +kernel)⟩
theorem lw_p75 : lw_okq (⟨"DayWordsModel", "bareCost", "(II)I"⟩, 48) := ⟨⟨by decide +kernel, by decide +kernel⟩, List.mem_of_getElem? (i := 932) (by decide +kernel), List.mem_of_getElem? (i := 1305) (by decide +kernel), List.mem_of_getElem? (i := 1306) (by decide +kernel)⟩
theorem lw_p76 : lw_okq (⟨"DayWordsModel", "goesOn", "(IIII)I"⟩, 48) := ⟨⟨by decide +kernel, by decide +kernel⟩, List.mem_of_getElem? (i := 932) (by decide +kernel), List.mem_of_getElem? (i := 1309) (by decide +kernel), List.mem_of_getElem? (i := 1310) (by decide +kernel)⟩
theorem lw_p77 : lw_okq (⟨"DayWordsModel", "spanCost", "(II)I"⟩, 48) := ⟨⟨by decide +kernel, by decide +kernel⟩, List.mem_of_getElem? (i := 932) (by decide +kernel), List.mem_of_getElem? (i := 1313) (by decide +kernel), List.mem_of_getElem? (i := 1314) (by decide +kernel)⟩
theorem lw_p78 : lw_okq (⟨"DayWordsModel", "endsCost", "(II)I"⟩, 48) := ⟨⟨by decide +kernel, by decide +kernel⟩, List.mem_of_getElem? (i := 932) (by decide +kernel), List.mem_of_getElem? (i := 1318) (by decide +kernel), List.mem_of_getElem? (i := 1319) (by decide +kernel)⟩
theorem lw_p79 : lw_okq (⟨"DayWordsModel", "writes", "(II)V"⟩, 48) := ⟨⟨by decide +kernel, by decide +kernel⟩, List.mem_of_getElem? (i := 932) (by decide +kernel), List.mem_of_getElem? (i := 1331) (by decide +kernel), List.mem_of_getElem? (i := 1332) (by decide +kernel)⟩
def lw_privs_5 : List (MethodName × Nat) := [(⟨"DayWordsModel", "isDay", "(I)Z"⟩, 48), (⟨"DayWordsModel", "isTrain", "(I)Z"⟩, 48), (⟨"DayWordsModel", "runsOf", "(I)I"⟩, 48), (⟨"DayWordsModel", "daysOf", "(I)I"⟩, 48), (⟨"DayWordsModel", "voteOf", "(I)I"⟩, 48), (⟨"DayWordsModel", "solves", "(IZ)I"⟩, 48), (⟨"DayWordsModel", "begins", "(I)V"⟩, 48), (⟨"DayWordsModel", "canStand", "()Z"⟩, 48), (⟨"DayWordsModel", "feastDays", "(I)I"⟩, 48), (⟨"DayWordsModel", "modeCost", "(I)I"⟩, 48), (⟨"DayWordsModel", "weighs", "(I)V"⟩, 48), (⟨"DayWordsModel", "bareCost", "(II)I"⟩, 48), (⟨"DayWordsModel", "goesOn", "(IIII)I"⟩, 48), (⟨"DayWordsModel", "spanCost", "(II)I"⟩, 48), (⟨"DayWordsModel", "endsCost", "(II)I"⟩, 48), (⟨"DayWordsModel", "writes", "(II)V"⟩, 48)]
theorem lw_r5 : ∀ q ∈ lw_privs_5, lw_okq q := List.forall_mem_cons.mpr ⟨lw_p64, List.forall_mem_cons.mpr ⟨lw_p65, List.forall_mem_cons.mpr ⟨lw_p66, List.forall_mem_cons.mpr ⟨lw_p67, List.forall_mem_cons.mpr ⟨lw_p68, List.forall_mem_cons.mpr ⟨lw_p69, List.forall_mem_cons.mpr ⟨lw_p70, List.forall_mem_cons.mpr ⟨lw_p71, List.forall_mem_cons.mpr ⟨lw_p72, List.forall_mem_cons.mpr ⟨lw_p73, List.forall_mem_cons.mpr ⟨lw_p74, List.forall_mem_cons.mpr ⟨lw_p75, List.forall_mem_cons.mpr ⟨lw_p76, List.forall_mem_cons.mpr ⟨lw_p77, List.forall_mem_cons.mpr ⟨lw_p78, List.forall_mem_cons.mpr ⟨lw_p79, fun _ h => absurd h List.not_mem_nil⟩⟩⟩⟩⟩⟩⟩⟩⟩⟩⟩⟩⟩⟩⟩⟩
theorem lw_p80 : lw_okq (⟨"DayWordsModel", "chooses", "(I)I"⟩, 48) := ⟨⟨by decide +kernel, by decide +kernel⟩, List.mem_of_getElem? (i := 932) (by decide +kernel), List.mem_of_getElem? (i := 1335) (by decide +kernel), List.mem_of_getElem? (i := 1336) (by decide +kernel)⟩
theorem lw_p81 : lw_okq (⟨"DayWordsModel", "goesBare", "(I)Z"⟩, 48) := ⟨⟨by decide +kernel, by decide +kernel⟩, List.mem_of_getElem? (i := 932) (by decide +kernel), List.mem_of_getElem? (i := 1339) (by decide +kernel), List.mem_of_getElem? (i := 1340) (by decide +kernel)⟩
theorem lw_p82 : lw_okq (⟨"DayWordsModel", "begun", "(I)I"⟩, 48) := ⟨⟨by decide +kernel, by decide +kernel⟩, List.mem_of_getElem? (i := 932) (by decide +kernel), List.mem_of_getElem? (i := 1343) (by decide +kernel), List.mem_of_getElem? (i := 1344) (by decide +kernel)⟩
theorem lw_p83 : lw_okq (⟨"DayWordsModel", "takes", "(III)Z"⟩, 48) := ⟨⟨by decide +kernel, by decide +kernel⟩, List.mem_of_getElem? (i := 932) (by decide +kernel), List.mem_of_getElem? (i := 1347) (by decide +kernel), List.mem_of_getElem? (i := 1348) (by decide +kernel)⟩
theorem lw_p84 : lw_okq (⟨"DayWordsModel", "costOf", "(IIII)I"⟩, 48) := ⟨⟨by decide +kernel, by decide +kernel⟩, List.mem_of_getElem? (i := 932) (by decide +kernel), List.mem_of_getElem? (i := 1351) (by decide +kernel), List.mem_of_getElem? (i := 1352) (by decide +kernel)⟩
theorem lw_p85 : lw_okq (⟨"DayWordsModel", "rests", "()V"⟩, 48) := ⟨⟨by decide +kernel, by decide +kernel⟩, List.mem_of_getElem? (i := 932) (by decide +kernel), List.mem_of_getElem? (i := 1355) (by decide +kernel), List.mem_of_getElem? (i := 1356) (by decide +kernel)⟩
theorem lw_p86 : lw_okq (⟨"DayWordsModel", "says", "(I)V"⟩, 48) := ⟨⟨by decide +kernel, by decide +kernel⟩, List.mem_of_getElem? (i := 932) (by decide +kernel), List.mem_of_getElem? (i := 1359) (by decide +kernel), List.mem_of_getElem? (i := 1360) (by decide +kernel)⟩
theorem lw_p87 : lw_okq (⟨"DayWordsModel", "blank", "()V"⟩, 48) := ⟨⟨by decide +kernel, by decide +kernel⟩, List.mem_of_getElem? (i := 932) (by decide +kernel), List.mem_of_getElem? (i := 1363) (by decide +kernel), List.mem_of_getElem? (i := 1364) (by decide +kernel)⟩
theorem lw_p88 : lw_okq (⟨"DayWordsModel", "sign", "(I)V"⟩, 48) := ⟨⟨by decide +kernel, by decide +kernel⟩, List.mem_of_getElem? (i := 932) (by decide +kernel), List.mem_of_getElem? (i := 1367) (by decide +kernel), List.mem_of_getElem? (i := 1368) (by decide +kernel)⟩
theorem lw_p89 : lw_okq (⟨"DayWordsModel", "saysPattern", "(I)V"⟩, 48) := ⟨⟨by decide +kernel, by decide +kernel⟩, List.mem_of_getElem? (i := 932) (by decide +kernel), List.mem_of_getElem? (i := 1371) (by decide +kernel), List.mem_of_getElem? (i := 1372) (by decide +kernel)⟩
theorem lw_p90 : lw_okq (⟨"DayWordsModel", "saysNumber", "(I)V"⟩, 48) := ⟨⟨by decide +kernel, by decide +kernel⟩, List.mem_of_getElem? (i := 932) (by decide +kernel), List.mem_of_getElem? (i := 1375) (by decide +kernel), List.mem_of_getElem? (i := 1376) (by decide +kernel)⟩
theorem lw_p91 : lw_okq (⟨"DayWordsModel", "saysEntries", "(III)V"⟩, 48) := ⟨⟨by decide +kernel, by decide +kernel⟩, List.mem_of_getElem? (i := 932) (by decide +kernel), List.mem_of_getElem? (i := 1379) (by decide +kernel), List.mem_of_getElem? (i := 1380) (by decide +kernel)⟩
theorem lw_p92 : lw_okq (⟨"DayWordsModel", "withinOf", "(II)I"⟩, 48) := ⟨⟨by decide +kernel, by decide +kernel⟩, List.mem_of_getElem? (i := 932) (by decide +kernel), List.mem_of_getElem? (i := 1409) (by decide +kernel), List.mem_of_getElem? (i := 1410) (by decide +kernel)⟩
theorem lw_p93 : lw_okq (⟨"DayWordsModel", "weighsWithin", "(II)I"⟩, 48) := ⟨⟨by decide +kernel, by decide +kernel⟩, List.mem_of_getElem? (i := 932) (by decide +kernel), List.mem_of_getElem? (i := 1413) (by decide +kernel), List.mem_of_getElem? (i := 1414) (by decide +kernel)⟩
theorem lw_p94 : lw_okq (⟨"DayWordsModel", "whole", "()I"⟩, 48) := ⟨⟨by decide +kernel, by decide +kernel⟩, List.mem_of_getElem? (i := 932) (by decide +kernel), List.mem_of_getElem? (i := 1431) (by decide +kernel), List.mem_of_getElem? (i := 1432) (by decide +kernel)⟩
theorem lw_p95 : lw_okq (⟨"DayWordsModel", "readsAlone", "()I"⟩, 48) := ⟨⟨by decide +kernel, by decide +kernel⟩, List.mem_of_getElem? (i := 932) (by decide +kernel), List.mem_of_getElem? (i := 1443) (by decide +kernel), List.mem_of_getElem? (i := 1444) (by decide +kernel)⟩
def lw_privs_6 : List (MethodName × Nat) := [(⟨"DayWordsModel", "chooses", "(I)I"⟩, 48), (⟨"DayWordsModel", "goesBare", "(I)Z"⟩, 48), (⟨"DayWordsModel", "begun", "(I)I"⟩, 48), (⟨"DayWordsModel", "takes", "(III)Z"⟩, 48), (⟨"DayWordsModel", "costOf", "(IIII)I"⟩, 48), (⟨"DayWordsModel", "rests", "()V"⟩, 48), (⟨"DayWordsModel", "says", "(I)V"⟩, 48), (⟨"DayWordsModel", "blank", "()V"⟩, 48), (⟨"DayWordsModel", "sign", "(I)V"⟩, 48), (⟨"DayWordsModel", "saysPattern", "(I)V"⟩, 48), (⟨"DayWordsModel", "saysNumber", "(I)V"⟩, 48), (⟨"DayWordsModel", "saysEntries", "(III)V"⟩, 48), (⟨"DayWordsModel", "withinOf", "(II)I"⟩, 48), (⟨"DayWordsModel", "weighsWithin", "(II)I"⟩, 48), (⟨"DayWordsModel", "whole", "()I"⟩, 48), (⟨"DayWordsModel", "readsAlone", "()I"⟩, 48)]
theorem lw_r6 : ∀ q ∈ lw_privs_6, lw_okq q := List.forall_mem_cons.mpr ⟨lw_p80, List.forall_mem_cons.mpr ⟨lw_p81, List.forall_mem_cons.mpr ⟨lw_p82, List.forall_mem_cons.mpr ⟨lw_p83, List.forall_mem_cons.mpr ⟨lw_p84, List.forall_mem_cons.mpr ⟨lw_p85, List.forall_mem_cons.mpr ⟨lw_p86, List.forall_mem_cons.mpr ⟨lw_p87, List.forall_mem_cons.mpr ⟨lw_p88, List.forall_mem_cons.mpr ⟨lw_p89, List.forall_mem_cons.mpr ⟨lw_p90, List.forall_mem_cons.mpr ⟨lw_p91, List.forall_mem_cons.mpr ⟨lw_p92, List.forall_mem_cons.mpr ⟨lw_p93, List.forall_mem_cons.mpr ⟨lw_p94, List.forall_mem_cons.mpr ⟨lw_p95, fun _ h => absurd h List.not_mem_nil⟩⟩⟩⟩⟩⟩⟩⟩⟩⟩⟩⟩⟩⟩⟩⟩
theorem lw_p96 : lw_okq (⟨"DayWordsModel", "joinOf", "(I)I"⟩, 48) := ⟨⟨by decide +kernel, by decide +kernel⟩, List.mem_of_getElem? (i := 932) (by decide +kernel), List.mem_of_getElem? (i := 1467) (by decide +kernel), List.mem_of_getElem? (i := 1468) (by decide +kernel)⟩
theorem lw_p97 : lw_okq (⟨"DayWordsModel", "isJoined", "(II)Z"⟩, 48) := ⟨⟨by decide +kernel, by decide +kernel⟩, List.mem_of_getElem? (i := 932) (by decide +kernel), List.mem_of_getElem? (i := 1471) (by decide +kernel), List.mem_of_getElem? (i := 1472) (by decide +kernel)⟩
theorem lw_p98 : lw_okq (⟨"DayWordsModel", "jointOf", "(IZ)I"⟩, 48) := ⟨⟨by decide +kernel, by decide +kernel⟩, List.mem_of_getElem? (i := 932) (by decide +kernel), List.mem_of_getElem? (i := 1479) (by decide +kernel), List.mem_of_getElem? (i := 1480) (by decide +kernel)⟩
theorem lw_p99 : lw_okq (⟨"DayWordsModel", "crowdOf", "(I)I"⟩, 48) := ⟨⟨by decide +kernel, by decide +kernel⟩, List.mem_of_getElem? (i := 932) (by decide +kernel), List.mem_of_getElem? (i := 1495) (by decide +kernel), List.mem_of_getElem? (i := 1496) (by decide +kernel)⟩
theorem lw_p100 : lw_okq (⟨"DayWordsModel", "keeps", "()V"⟩, 48) := ⟨⟨by decide +kernel, by decide +kernel⟩, List.mem_of_getElem? (i := 932) (by decide +kernel), List.mem_of_getElem? (i := 1507) (by decide +kernel), List.mem_of_getElem? (i := 1508) (by decide +kernel)⟩
theorem lw_p101 : lw_okq (⟨"DayWordsModel", "goesBack", "(I)V"⟩, 48) := ⟨⟨by decide +kernel, by decide +kernel⟩, List.mem_of_getElem? (i := 932) (by decide +kernel), List.mem_of_getElem? (i := 1523) (by decide +kernel), List.mem_of_getElem? (i := 1524) (by decide +kernel)⟩
def lw_privs_7 : List (MethodName × Nat) := [(⟨"DayWordsModel", "joinOf", "(I)I"⟩, 48), (⟨"DayWordsModel", "isJoined", "(II)Z"⟩, 48), (⟨"DayWordsModel", "jointOf", "(IZ)I"⟩, 48), (⟨"DayWordsModel", "crowdOf", "(I)I"⟩, 48), (⟨"DayWordsModel", "keeps", "()V"⟩, 48), (⟨"DayWordsModel", "goesBack", "(I)V"⟩, 48)]
theorem lw_r7 : ∀ q ∈ lw_privs_7, lw_okq q := List.forall_mem_cons.mpr ⟨lw_p96, List.forall_mem_cons.mpr ⟨lw_p97, List.forall_mem_cons.mpr ⟨lw_p98, List.forall_mem_cons.mpr ⟨lw_p99, List.forall_mem_cons.mpr ⟨lw_p100, List.forall_mem_cons.mpr ⟨lw_p101, fun _ h => absurd h List.not_mem_nil⟩⟩⟩⟩⟩⟩
def lw_privs : List (MethodName × Nat) := lw_privs_1 ++ (lw_privs_2 ++ (lw_privs_3 ++ (lw_privs_4 ++ (lw_privs_5 ++ (lw_privs_6 ++ (lw_privs_7))))))
def lw_tbl : List Cond := k2_sels lw_privs ++ tables_1
theorem lw_privs_ok : ∀ q ∈ lw_privs, lw_okq q := by
  show ∀ q ∈ lw_privs_1 ++ (lw_privs_2 ++ (lw_privs_3 ++ (lw_privs_4 ++ (lw_privs_5 ++ (lw_privs_6 ++ (lw_privs_7)))))), lw_okq q
  exact List.forall_mem_append.mpr ⟨lw_r1, List.forall_mem_append.mpr ⟨lw_r2, List.forall_mem_append.mpr ⟨lw_r3, List.forall_mem_append.mpr ⟨lw_r4, List.forall_mem_append.mpr ⟨lw_r5, List.forall_mem_append.mpr ⟨lw_r6, lw_r7⟩⟩⟩⟩⟩⟩
end
section
def RX0 : String := "DayWords$Acts"
def TX0 : u_T := fun k => match k with
  | 0 => ("DayWords$Acts", "before", "[I", true)
  | _ => ("DayWords$Acts", "many", "I", false)
def tyX0 : Nat → FieldType := fun k => match k with
  | 0 => .array .int
  | _ => .int
theorem nmX0 : ∀ a, a < 2 → ∀ b, b < 2 → a ≠ b → (TX0 a).2.1 ≠ (TX0 b).2.1 := by decide +kernel
theorem tyX0_ok : ∀ k, k < 2 → parseFieldDescriptor (TX0 k).2.2.1 = some (tyX0 k) := by decide +kernel
abbrev cX0_init : ByteArray := prog_2_method_1_code
def yX0_init : MethodName := ⟨RX0, "<init>", "()V"⟩
abbrev cX0_note : ByteArray := prog_2_method_2_code
def yX0_note : MethodName := ⟨RX0, "note", "(LDayWords$Desk;)V"⟩
abbrev cX0_backTo : ByteArray := prog_2_method_3_code
def yX0_backTo : MethodName := ⟨RX0, "backTo", "(ILDayWords$Desk;)V"⟩
def RX1 : String := "DayWords$Desk"
def TX1 : u_T := fun k => match k with
  | 0 => ("DayWords$Desk", "patternDays", "[I", true)
  | 1 => ("DayWords$Desk", "names", "[J", true)
  | 2 => ("DayWords$Desk", "feastDays", "[I", true)
  | 3 => ("DayWords$Desk", "routes", "[I", true)
  | 4 => ("DayWords$Desk", "minutes", "[I", true)
  | 5 => ("DayWords$Desk", "running", "[I", true)
  | 6 => ("DayWords$Desk", "period", "I", false)
  | 7 => ("DayWords$Desk", "first", "I", false)
  | 8 => ("DayWords$Desk", "feasts", "I", false)
  | 9 => ("DayWords$Desk", "trains", "I", false)
  | _ => ("DayWords$Desk", "lines", "I", false)
def tyX1 : Nat → FieldType := fun k => match k with
  | 0 => .array .int
  | 1 => .array .long
  | 2 => .array .int
  | 3 => .array .int
  | 4 => .array .int
  | 5 => .array .int
  | 6 => .int
  | 7 => .int
  | 8 => .int
  | 9 => .int
  | _ => .int
theorem nmX1 : ∀ a, a < 11 → ∀ b, b < 11 → a ≠ b → (TX1 a).2.1 ≠ (TX1 b).2.1 := by decide +kernel
theorem tyX1_ok : ∀ k, k < 11 → parseFieldDescriptor (TX1 k).2.2.1 = some (tyX1 k) := by decide +kernel
abbrev cX1_init : ByteArray := prog_3_method_1_code
def yX1_init : MethodName := ⟨RX1, "<init>", "()V"⟩
abbrev cX1_clear : ByteArray := prog_3_method_2_code
def yX1_clear : MethodName := ⟨RX1, "clear", "()V"⟩
abbrev cX1_openPeriod : ByteArray := prog_3_method_3_code
def yX1_openPeriod : MethodName := ⟨RX1, "openPeriod", "(II)V"⟩
abbrev cX1_weekdayOf : ByteArray := prog_3_method_4_code
def yX1_weekdayOf : MethodName := ⟨RX1, "weekdayOf", "(I)I"⟩
abbrev cX1_allDays : ByteArray := prog_3_method_5_code
def yX1_allDays : MethodName := ⟨RX1, "allDays", "()I"⟩
abbrev cX1_feastNamed : ByteArray := prog_3_method_6_code
def yX1_feastNamed : MethodName := ⟨RX1, "feastNamed", "(J)I"⟩
abbrev cX1_areMates : ByteArray := prog_3_method_7_code
def yX1_areMates : MethodName := ⟨RX1, "areMates", "(II)Z"⟩
abbrev cX1_leader : ByteArray := prog_3_method_8_code
def yX1_leader : MethodName := ⟨RX1, "leader", "(I)I"⟩
abbrev cX1_jointDays : ByteArray := prog_3_method_9_code
def yX1_jointDays : MethodName := ⟨RX1, "jointDays", "(I)I"⟩
abbrev cX1_trainsOn : ByteArray := prog_3_method_10_code
def yX1_trainsOn : MethodName := ⟨RX1, "trainsOn", "(I)I"⟩
def RX2 : String := "DayWords$Finder"
def TX2 : u_T := fun k => match k with
  | 0 => ("DayWords$Finder", "writer", "LDayWords$Writer;", true)
  | 1 => ("DayWords$Finder", "words", "LDayWords$Words;", true)
  | 2 => ("DayWords$Finder", "patternTokens", "[I", true)
  | 3 => ("DayWords$Finder", "order", "[I", true)
  | 4 => ("DayWords$Finder", "cheaper", "[I", true)
  | 5 => ("DayWords$Finder", "rows", "[LDayWords$Row;", true)
  | 6 => ("DayWords$Finder", "leaning", "[I", true)
  | 7 => ("DayWords$Finder", "desk", "LDayWords$Desk;", false)
  | 8 => ("DayWords$Finder", "target", "I", false)
  | 9 => ("DayWords$Finder", "hidden", "I", false)
  | 10 => ("DayWords$Finder", "wanted", "I", false)
  | 11 => ("DayWords$Finder", "startState", "I", false)
  | 12 => ("DayWords$Finder", "bestTokens", "I", false)
  | 13 => ("DayWords$Finder", "bestAlike", "J", false)
  | 14 => ("DayWords$Finder", "bestNot", "I", false)
  | _ => ("DayWords$Finder", "bestAlso", "I", false)
def tyX2 : Nat → FieldType := fun k => match k with
  | 0 => .object "DayWords$Writer"
  | 1 => .object "DayWords$Words"
  | 2 => .array .int
  | 3 => .array .int
  | 4 => .array .int
  | 5 => .array (.object "DayWords$Row")
  | 6 => .array .int
  | 7 => .object "DayWords$Desk"
  | 8 => .int
  | 9 => .int
  | 10 => .int
  | 11 => .int
  | 12 => .int
  | 13 => .long
  | 14 => .int
  | _ => .int
theorem nmX2 : ∀ a, a < 16 → ∀ b, b < 16 → a ≠ b → (TX2 a).2.1 ≠ (TX2 b).2.1 := by decide +kernel
theorem tyX2_ok : ∀ k, k < 16 → parseFieldDescriptor (TX2 k).2.2.1 = some (tyX2 k) := by decide +kernel
abbrev cX2_init : ByteArray := prog_4_method_1_code
def yX2_init : MethodName := ⟨RX2, "<init>", "(LDayWords$Lexicon;LDayWords$Desk;)V"⟩
abbrev cX2_tokensOf : ByteArray := prog_4_method_2_code
def yX2_tokensOf : MethodName := ⟨RX2, "tokensOf", "(I)I"⟩
abbrev cX2_work : ByteArray := prog_4_method_3_code
def yX2_work : MethodName := ⟨RX2, "work", "(LDayWords$Desk;)V"⟩
abbrev cX2_fewest : ByteArray := prog_4_method_4_code
def yX2_fewest : MethodName := ⟨RX2, "fewest", "(IIZ)I"⟩
abbrev cX2_find : ByteArray := prog_4_method_5_code
def yX2_find : MethodName := ⟨RX2, "find", "(I)LDayWords$Words;"⟩
abbrev cX2_absentWeekdays : ByteArray := prog_4_method_6_code
def yX2_absentWeekdays : MethodName := ⟨RX2, "absentWeekdays", "()I"⟩
abbrev cX2_search : ByteArray := prog_4_method_7_code
def yX2_search : MethodName := ⟨RX2, "search", "(IIZ)V"⟩
abbrev cX2_feastsInside : ByteArray := prog_4_method_8_code
def yX2_feastsInside : MethodName := ⟨RX2, "feastsInside", "(I)I"⟩
abbrev cX2_prepare : ByteArray := prog_4_method_9_code
def yX2_prepare : MethodName := ⟨RX2, "prepare", "(II)V"⟩
abbrev cX2_feastsAsDays : ByteArray := prog_4_method_10_code
def yX2_feastsAsDays : MethodName := ⟨RX2, "feastsAsDays", "(I)I"⟩
abbrev cX2_compare : ByteArray := prog_4_method_11_code
def yX2_compare : MethodName := ⟨RX2, "compare", "(IILDayWords$Row;)V"⟩
abbrev cX2_fill : ByteArray := prog_4_method_12_code
def yX2_fill : MethodName := ⟨RX2, "fill", "(LDayWords$Row;LDayWords$Row;)V"⟩
abbrev cX2_tokensOfDay : ByteArray := prog_4_method_13_code
def yX2_tokensOfDay : MethodName := ⟨RX2, "tokensOfDay", "(II)I"⟩
abbrev cX2_stateBehindDay : ByteArray := prog_4_method_14_code
def yX2_stateBehindDay : MethodName := ⟨RX2, "stateBehindDay", "(II)I"⟩
abbrev cX2_tokensOfBounds : ByteArray := prog_4_method_15_code
def yX2_tokensOfBounds : MethodName := ⟨RX2, "tokensOfBounds", "(II)I"⟩
abbrev cX2_offerSpans : ByteArray := prog_4_method_16_code
def yX2_offerSpans : MethodName := ⟨RX2, "offerSpans", "(LDayWords$Row;LDayWords$Row;I)V"⟩
abbrev cX2_offerPatterns : ByteArray := prog_4_method_17_code
def yX2_offerPatterns : MethodName := ⟨RX2, "offerPatterns", "(LDayWords$Row;LDayWords$Row;IIII)V"⟩
abbrev cX2_offer : ByteArray := prog_4_method_18_code
def yX2_offer : MethodName := ⟨RX2, "offer", "(LDayWords$Row;LDayWords$Row;IIII)V"⟩
abbrev cX2_trace : ByteArray := prog_4_method_19_code
def yX2_trace : MethodName := ⟨RX2, "trace", "()V"⟩
abbrev cX2_traceSpan : ByteArray := prog_4_method_20_code
def yX2_traceSpan : MethodName := ⟨RX2, "traceSpan", "(II)I"⟩
def RX3 : String := "DayWords$Lexicon"
def TX3 : u_T := fun k => match k with
  | _ => ("DayWords$Lexicon", "codes", "[J", true)
def tyX3 : Nat → FieldType := fun k => match k with
  | _ => .array .long
theorem nmX3 : ∀ a, a < 1 → ∀ b, b < 1 → a ≠ b → (TX3 a).2.1 ≠ (TX3 b).2.1 := by decide +kernel
theorem tyX3_ok : ∀ k, k < 1 → parseFieldDescriptor (TX3 k).2.2.1 = some (tyX3 k) := by decide +kernel
abbrev cX3_init : ByteArray := prog_5_method_1_code
def yX3_init : MethodName := ⟨RX3, "<init>", "()V"⟩
abbrev cX3_kindOf : ByteArray := prog_5_method_2_code
def yX3_kindOf : MethodName := ⟨RX3, "kindOf", "(J)I"⟩
def RX4 : String := "DayWords$Reader"
def TX4 : u_T := fun k => match k with
  | 0 => ("DayWords$Reader", "fault", "I", false)
  | 1 => ("DayWords$Reader", "place", "I", false)
  | 2 => ("DayWords$Reader", "wordingDays", "I", false)
  | 3 => ("DayWords$Reader", "wordingTokens", "I", false)
  | 4 => ("DayWords$Reader", "lexicon", "LDayWords$Lexicon;", true)
  | 5 => ("DayWords$Reader", "kinds", "[I", true)
  | 6 => ("DayWords$Reader", "places", "[I", true)
  | 7 => ("DayWords$Reader", "values", "[J", true)
  | 8 => ("DayWords$Reader", "last", "I", false)
  | 9 => ("DayWords$Reader", "at", "I", false)
  | 10 => ("DayWords$Reader", "pattern", "I", false)
  | 11 => ("DayWords$Reader", "spanFirst", "I", false)
  | 12 => ("DayWords$Reader", "spanLast", "I", false)
  | 13 => ("DayWords$Reader", "spanOpen", "Z", false)
  | _ => ("DayWords$Reader", "row", "I", false)
def tyX4 : Nat → FieldType := fun k => match k with
  | 0 => .int
  | 1 => .int
  | 2 => .int
  | 3 => .int
  | 4 => .object "DayWords$Lexicon"
  | 5 => .array .int
  | 6 => .array .int
  | 7 => .array .long
  | 8 => .int
  | 9 => .int
  | 10 => .int
  | 11 => .int
  | 12 => .int
  | 13 => .boolean
  | _ => .int
theorem nmX4 : ∀ a, a < 15 → ∀ b, b < 15 → a ≠ b → (TX4 a).2.1 ≠ (TX4 b).2.1 := by decide +kernel
theorem tyX4_ok : ∀ k, k < 15 → parseFieldDescriptor (TX4 k).2.2.1 = some (tyX4 k) := by decide +kernel
abbrev cX4_init : ByteArray := prog_6_method_1_code
def yX4_init : MethodName := ⟨RX4, "<init>", "(LDayWords$Lexicon;)V"⟩
abbrev cX4_readDesk : ByteArray := prog_6_method_2_code
def yX4_readDesk : MethodName := ⟨RX4, "readDesk", "(LDayWords$Tape;LDayWords$Desk;)Z"⟩
abbrev cX4_readAlone : ByteArray := prog_6_method_3_code
def yX4_readAlone : MethodName := ⟨RX4, "readAlone", "(LDayWords$Tape;LDayWords$Desk;)Z"⟩
abbrev cX4_scan : ByteArray := prog_6_method_4_code
def yX4_scan : MethodName := ⟨RX4, "scan", "(LDayWords$Tape;)V"⟩
abbrev cX4_kindOfSign : ByteArray := prog_6_method_5_code
def yX4_kindOfSign : MethodName := ⟨RX4, "kindOfSign", "(I)I"⟩
abbrev cX4_openToken : ByteArray := prog_6_method_6_code
def yX4_openToken : MethodName := ⟨RX4, "openToken", "(II)V"⟩
abbrev cX4_widenToken : ByteArray := prog_6_method_7_code
def yX4_widenToken : MethodName := ⟨RX4, "widenToken", "(II)V"⟩
abbrev cX4_fail : ByteArray := prog_6_method_8_code
def yX4_fail : MethodName := ⟨RX4, "fail", "(I)Z"⟩
abbrev cX4_step : ByteArray := prog_6_method_9_code
def yX4_step : MethodName := ⟨RX4, "step", "()V"⟩
abbrev cX4_take : ByteArray := prog_6_method_10_code
def yX4_take : MethodName := ⟨RX4, "take", "(I)Z"⟩
abbrev cX4_seeNumber : ByteArray := prog_6_method_11_code
def yX4_seeNumber : MethodName := ⟨RX4, "seeNumber", "(II)Z"⟩
abbrev cX4_isWeekday : ByteArray := prog_6_method_12_code
def yX4_isWeekday : MethodName := ⟨RX4, "isWeekday", "()Z"⟩
abbrev cX4_readLine : ByteArray := prog_6_method_13_code
def yX4_readLine : MethodName := ⟨RX4, "readLine", "(LDayWords$Desk;)Z"⟩
abbrev cX4_readHead : ByteArray := prog_6_method_14_code
def yX4_readHead : MethodName := ⟨RX4, "readHead", "(LDayWords$Desk;)Z"⟩
abbrev cX4_readFeast : ByteArray := prog_6_method_15_code
def yX4_readFeast : MethodName := ⟨RX4, "readFeast", "(LDayWords$Desk;)Z"⟩
abbrev cX4_readFeastDays : ByteArray := prog_6_method_16_code
def yX4_readFeastDays : MethodName := ⟨RX4, "readFeastDays", "(LDayWords$Desk;)Z"⟩
abbrev cX4_readTrain : ByteArray := prog_6_method_17_code
def yX4_readTrain : MethodName := ⟨RX4, "readTrain", "(LDayWords$Desk;)Z"⟩
abbrev cX4_readWording : ByteArray := prog_6_method_18_code
def yX4_readWording : MethodName := ⟨RX4, "readWording", "(LDayWords$Desk;)Z"⟩
abbrev cX4_readSpans : ByteArray := prog_6_method_19_code
def yX4_readSpans : MethodName := ⟨RX4, "readSpans", "(LDayWords$Desk;)Z"⟩
abbrev cX4_readPattern : ByteArray := prog_6_method_20_code
def yX4_readPattern : MethodName := ⟨RX4, "readPattern", "()Z"⟩
abbrev cX4_readBounds : ByteArray := prog_6_method_21_code
def yX4_readBounds : MethodName := ⟨RX4, "readBounds", "(LDayWords$Desk;)Z"⟩
abbrev cX4_readExceptions : ByteArray := prog_6_method_22_code
def yX4_readExceptions : MethodName := ⟨RX4, "readExceptions", "(LDayWords$Desk;)Z"⟩
abbrev cX4_readEntries : ByteArray := prog_6_method_23_code
def yX4_readEntries : MethodName := ⟨RX4, "readEntries", "(LDayWords$Desk;)Z"⟩
def RX5 : String := "DayWords$Row"
def TX5 : u_T := fun k => match k with
  | 0 => ("DayWords$Row", "tokens", "[I", true)
  | _ => ("DayWords$Row", "alike", "[J", true)
def tyX5 : Nat → FieldType := fun k => match k with
  | 0 => .array .int
  | _ => .array .long
theorem nmX5 : ∀ a, a < 2 → ∀ b, b < 2 → a ≠ b → (TX5 a).2.1 ≠ (TX5 b).2.1 := by decide +kernel
theorem tyX5_ok : ∀ k, k < 2 → parseFieldDescriptor (TX5 k).2.2.1 = some (tyX5 k) := by decide +kernel
abbrev cX5_init : ByteArray := prog_7_method_1_code
def yX5_init : MethodName := ⟨RX5, "<init>", "()V"⟩
def RX6 : String := "DayWords$Tape"
def TX6 : u_T := fun k => match k with
  | 0 => ("DayWords$Tape", "bytes", "[B", true)
  | _ => ("DayWords$Tape", "size", "I", false)
def tyX6 : Nat → FieldType := fun k => match k with
  | 0 => .array .byte
  | _ => .int
theorem nmX6 : ∀ a, a < 2 → ∀ b, b < 2 → a ≠ b → (TX6 a).2.1 ≠ (TX6 b).2.1 := by decide +kernel
theorem tyX6_ok : ∀ k, k < 2 → parseFieldDescriptor (TX6 k).2.2.1 = some (tyX6 k) := by decide +kernel
abbrev cX6_init : ByteArray := prog_8_method_1_code
def yX6_init : MethodName := ⟨RX6, "<init>", "()V"⟩
abbrev cX6_add : ByteArray := prog_8_method_2_code
def yX6_add : MethodName := ⟨RX6, "add", "(I)V"⟩
def RX7 : String := "DayWords$Words"
def TX7 : u_T := fun k => match k with
  | 0 => ("DayWords$Words", "firsts", "[I", true)
  | 1 => ("DayWords$Words", "lasts", "[I", true)
  | 2 => ("DayWords$Words", "patterns", "[I", true)
  | 3 => ("DayWords$Words", "text", "[B", true)
  | 4 => ("DayWords$Words", "known", "Z", false)
  | 5 => ("DayWords$Words", "target", "I", false)
  | 6 => ("DayWords$Words", "tokens", "I", false)
  | 7 => ("DayWords$Words", "alike", "J", false)
  | 8 => ("DayWords$Words", "parts", "I", false)
  | 9 => ("DayWords$Words", "notFeasts", "I", false)
  | 10 => ("DayWords$Words", "notDays", "I", false)
  | 11 => ("DayWords$Words", "alsoFeasts", "I", false)
  | 12 => ("DayWords$Words", "alsoDays", "I", false)
  | _ => ("DayWords$Words", "size", "I", false)
def tyX7 : Nat → FieldType := fun k => match k with
  | 0 => .array .int
  | 1 => .array .int
  | 2 => .array .int
  | 3 => .array .byte
  | 4 => .boolean
  | 5 => .int
  | 6 => .int
  | 7 => .long
  | 8 => .int
  | 9 => .int
  | 10 => .int
  | 11 => .int
  | 12 => .int
  | _ => .int
theorem nmX7 : ∀ a, a < 14 → ∀ b, b < 14 → a ≠ b → (TX7 a).2.1 ≠ (TX7 b).2.1 := by decide +kernel
theorem tyX7_ok : ∀ k, k < 14 → parseFieldDescriptor (TX7 k).2.2.1 = some (tyX7 k) := by decide +kernel
abbrev cX7_init : ByteArray := prog_9_method_1_code
def yX7_init : MethodName := ⟨RX7, "<init>", "()V"⟩
abbrev cX7_clear : ByteArray := prog_9_method_2_code
def yX7_clear : MethodName := ⟨RX7, "clear", "(I)V"⟩
abbrev cX7_addSpan : ByteArray := prog_9_method_3_code
def yX7_addSpan : MethodName := ⟨RX7, "addSpan", "(III)V"⟩
def RX8 : String := "DayWords$Writer"
def TX8 : u_T := fun k => match k with
  | _ => ("DayWords$Writer", "lexicon", "LDayWords$Lexicon;", true)
def tyX8 : Nat → FieldType := fun k => match k with
  | _ => .object "DayWords$Lexicon"
theorem nmX8 : ∀ a, a < 1 → ∀ b, b < 1 → a ≠ b → (TX8 a).2.1 ≠ (TX8 b).2.1 := by decide +kernel
theorem tyX8_ok : ∀ k, k < 1 → parseFieldDescriptor (TX8 k).2.2.1 = some (tyX8 k) := by decide +kernel
abbrev cX8_init : ByteArray := prog_10_method_1_code
def yX8_init : MethodName := ⟨RX8, "<init>", "(LDayWords$Lexicon;)V"⟩
abbrev cX8_write : ByteArray := prog_10_method_2_code
def yX8_write : MethodName := ⟨RX8, "write", "(LDayWords$Words;LDayWords$Desk;)V"⟩
abbrev cX8_writePattern : ByteArray := prog_10_method_3_code
def yX8_writePattern : MethodName := ⟨RX8, "writePattern", "(LDayWords$Words;I)V"⟩
abbrev cX8_writeEntries : ByteArray := prog_10_method_4_code
def yX8_writeEntries : MethodName := ⟨RX8, "writeEntries", "(LDayWords$Words;LDayWords$Desk;I)V"⟩
abbrev cX8_putWord : ByteArray := prog_10_method_5_code
def yX8_putWord : MethodName := ⟨RX8, "putWord", "(LDayWords$Words;J)V"⟩
abbrev cX8_putNumber : ByteArray := prog_10_method_6_code
def yX8_putNumber : MethodName := ⟨RX8, "putNumber", "(LDayWords$Words;I)V"⟩
abbrev cX8_putBlank : ByteArray := prog_10_method_7_code
def yX8_putBlank : MethodName := ⟨RX8, "putBlank", "(LDayWords$Words;)V"⟩
abbrev cX8_putSign : ByteArray := prog_10_method_8_code
def yX8_putSign : MethodName := ⟨RX8, "putSign", "(LDayWords$Words;I)V"⟩
def RX9 : String := "DayWords"
def TX9 : u_T := fun k => match k with
  | 0 => ("DayWords", "tape", "LDayWords$Tape;", true)
  | 1 => ("DayWords", "reader", "LDayWords$Reader;", true)
  | 2 => ("DayWords", "finder", "LDayWords$Finder;", true)
  | 3 => ("DayWords", "acts", "LDayWords$Acts;", true)
  | 4 => ("DayWords", "desk", "LDayWords$Desk;", false)
  | 5 => ("DayWords", "spare", "LDayWords$Desk;", false)
  | 6 => ("DayWords", "deskFault", "I", false)
  | 7 => ("DayWords", "deskPlace", "I", false)
  | 8 => ("DayWords", "wordingTold", "Z", false)
  | 9 => ("DayWords", "toldDays", "I", false)
  | 10 => ("DayWords", "toldTokens", "I", false)
  | 11 => ("DayWords", "toldFault", "I", false)
  | _ => ("DayWords", "toldPlace", "I", false)
def tyX9 : Nat → FieldType := fun k => match k with
  | 0 => .object "DayWords$Tape"
  | 1 => .object "DayWords$Reader"
  | 2 => .object "DayWords$Finder"
  | 3 => .object "DayWords$Acts"
  | 4 => .object "DayWords$Desk"
  | 5 => .object "DayWords$Desk"
  | 6 => .int
  | 7 => .int
  | 8 => .boolean
  | 9 => .int
  | 10 => .int
  | 11 => .int
  | _ => .int
theorem nmX9 : ∀ a, a < 13 → ∀ b, b < 13 → a ≠ b → (TX9 a).2.1 ≠ (TX9 b).2.1 := by decide +kernel
theorem tyX9_ok : ∀ k, k < 13 → parseFieldDescriptor (TX9 k).2.2.1 = some (tyX9 k) := by decide +kernel
abbrev cX9_init : ByteArray := prog_1_method_1_code
def yX9_init : MethodName := ⟨RX9, "<init>", "()V"⟩
abbrev cX9_feed : ByteArray := prog_1_method_2_code
def yX9_feed : MethodName := ⟨RX9, "feed", "(IIIII)I"⟩
abbrev cX9_end : ByteArray := prog_1_method_3_code
def yX9_end : MethodName := ⟨RX9, "end", "(I)I"⟩
abbrev cX9_desk : ByteArray := prog_1_method_4_code
def yX9_desk : MethodName := ⟨RX9, "desk", "()I"⟩
abbrev cX9_fault : ByteArray := prog_1_method_5_code
def yX9_fault : MethodName := ⟨RX9, "fault", "(I)I"⟩
abbrev cX9_count : ByteArray := prog_1_method_6_code
def yX9_count : MethodName := ⟨RX9, "count", "(I)I"⟩
abbrev cX9_weekday : ByteArray := prog_1_method_7_code
def yX9_weekday : MethodName := ⟨RX9, "weekday", "(I)I"⟩
abbrev cX9_feast : ByteArray := prog_1_method_8_code
def yX9_feast : MethodName := ⟨RX9, "feast", "(I)I"⟩
abbrev cX9_train : ByteArray := prog_1_method_9_code
def yX9_train : MethodName := ⟨RX9, "train", "(II)I"⟩
abbrev cX9_days : ByteArray := prog_1_method_10_code
def yX9_days : MethodName := ⟨RX9, "days", "(I)I"⟩
abbrev cX9_runs : ByteArray := prog_1_method_11_code
def yX9_runs : MethodName := ⟨RX9, "runs", "(II)I"⟩
abbrev cX9_many : ByteArray := prog_1_method_12_code
def yX9_many : MethodName := ⟨RX9, "many", "(I)I"⟩
abbrev cX9_votes : ByteArray := prog_1_method_13_code
def yX9_votes : MethodName := ⟨RX9, "votes", "(II)I"⟩
abbrev cX9_vote : ByteArray := prog_1_method_14_code
def yX9_vote : MethodName := ⟨RX9, "vote", "(I)I"⟩
abbrev cX9_strays : ByteArray := prog_1_method_15_code
def yX9_strays : MethodName := ⟨RX9, "strays", "(I)I"⟩
abbrev cX9_next : ByteArray := prog_1_method_16_code
def yX9_next : MethodName := ⟨RX9, "next", "(II)I"⟩
abbrev cX9_rest : ByteArray := prog_1_method_17_code
def yX9_rest : MethodName := ⟨RX9, "rest", "(I)I"⟩
abbrev cX9_words : ByteArray := prog_1_method_18_code
def yX9_words : MethodName := ⟨RX9, "words", "(I)I"⟩
abbrev cX9_length : ByteArray := prog_1_method_19_code
def yX9_length : MethodName := ⟨RX9, "length", "(I)I"⟩
abbrev cX9_sign : ByteArray := prog_1_method_20_code
def yX9_sign : MethodName := ⟨RX9, "sign", "(II)I"⟩
abbrev cX9_ways : ByteArray := prog_1_method_21_code
def yX9_ways : MethodName := ⟨RX9, "ways", "(I)J"⟩
abbrev cX9_spans : ByteArray := prog_1_method_22_code
def yX9_spans : MethodName := ⟨RX9, "spans", "(I)I"⟩
abbrev cX9_span : ByteArray := prog_1_method_23_code
def yX9_span : MethodName := ⟨RX9, "span", "(III)I"⟩
abbrev cX9_nots : ByteArray := prog_1_method_24_code
def yX9_nots : MethodName := ⟨RX9, "nots", "(II)I"⟩
abbrev cX9_alsos : ByteArray := prog_1_method_25_code
def yX9_alsos : MethodName := ⟨RX9, "alsos", "(II)I"⟩
abbrev cX9_within : ByteArray := prog_1_method_26_code
def yX9_within : MethodName := ⟨RX9, "within", "(II)I"⟩
abbrev cX9_plain : ByteArray := prog_1_method_27_code
def yX9_plain : MethodName := ⟨RX9, "plain", "(I)I"⟩
abbrev cX9_other : ByteArray := prog_1_method_28_code
def yX9_other : MethodName := ⟨RX9, "other", "(II)I"⟩
abbrev cX9_shift : ByteArray := prog_1_method_29_code
def yX9_shift : MethodName := ⟨RX9, "shift", "(II)I"⟩
abbrev cX9_least : ByteArray := prog_1_method_30_code
def yX9_least : MethodName := ⟨RX9, "least", "(I)I"⟩
abbrev cX9_tells : ByteArray := prog_1_method_31_code
def yX9_tells : MethodName := ⟨RX9, "tells", "()I"⟩
abbrev cX9_told : ByteArray := prog_1_method_32_code
def yX9_told : MethodName := ⟨RX9, "told", "(I)I"⟩
abbrev cX9_worse : ByteArray := prog_1_method_33_code
def yX9_worse : MethodName := ⟨RX9, "worse", "()I"⟩
abbrev cX9_shares : ByteArray := prog_1_method_34_code
def yX9_shares : MethodName := ⟨RX9, "shares", "(II)I"⟩
abbrev cX9_same : ByteArray := prog_1_method_35_code
def yX9_same : MethodName := ⟨RX9, "same", "(II)I"⟩
abbrev cX9_join : ByteArray := prog_1_method_36_code
def yX9_join : MethodName := ⟨RX9, "join", "(I)I"⟩
abbrev cX9_joint : ByteArray := prog_1_method_37_code
def yX9_joint : MethodName := ⟨RX9, "joint", "(I)I"⟩
abbrev cX9_twice : ByteArray := prog_1_method_38_code
def yX9_twice : MethodName := ⟨RX9, "twice", "(I)I"⟩
abbrev cX9_saved : ByteArray := prog_1_method_39_code
def yX9_saved : MethodName := ⟨RX9, "saved", "()I"⟩
abbrev cX9_crowd : ByteArray := prog_1_method_40_code
def yX9_crowd : MethodName := ⟨RX9, "crowd", "(I)I"⟩
abbrev cX9_full : ByteArray := prog_1_method_41_code
def yX9_full : MethodName := ⟨RX9, "full", "()I"⟩
abbrev cX9_flips : ByteArray := prog_1_method_42_code
def yX9_flips : MethodName := ⟨RX9, "flips", "(II)I"⟩
abbrev cX9_sets : ByteArray := prog_1_method_43_code
def yX9_sets : MethodName := ⟨RX9, "sets", "(I)I"⟩
abbrev cX9_merges : ByteArray := prog_1_method_44_code
def yX9_merges : MethodName := ⟨RX9, "merges", "()I"⟩
abbrev cX9_undo : ByteArray := prog_1_method_45_code
def yX9_undo : MethodName := ⟨RX9, "undo", "()I"⟩
abbrev cX9_anew : ByteArray := prog_1_method_46_code
def yX9_anew : MethodName := ⟨RX9, "anew", "()I"⟩
abbrev cX9_isTrain : ByteArray := prog_1_method_47_code
def yX9_isTrain : MethodName := ⟨RX9, "isTrain", "(I)Z"⟩
abbrev cX9_isDay : ByteArray := prog_1_method_48_code
def yX9_isDay : MethodName := ⟨RX9, "isDay", "(I)Z"⟩
abbrev cX9_votedWeekdays : ByteArray := prog_1_method_49_code
def yX9_votedWeekdays : MethodName := ⟨RX9, "votedWeekdays", "(I)I"⟩
abbrev cX9_rowStarts : ByteArray := prog_1_method_50_code
def yX9_rowStarts : MethodName := ⟨RX9, "rowStarts", "(I)I"⟩
abbrev cX9_rowSize : ByteArray := prog_1_method_51_code
def yX9_rowSize : MethodName := ⟨RX9, "rowSize", "(II)I"⟩
def RX10 : String := "DayWordsModel"
def TX10 : u_T := fun k => match k with
  | 0 => ("DayWordsModel", "mem", "[I", true)
  | 1 => ("DayWordsModel", "was", "[I", true)
  | 2 => ("DayWordsModel", "past", "[I", true)
  | 3 => ("DayWordsModel", "acts", "I", false)
  | 4 => ("DayWordsModel", "tape", "[I", true)
  | 5 => ("DayWordsModel", "taped", "I", false)
  | 6 => ("DayWordsModel", "faultKind", "I", false)
  | 7 => ("DayWordsModel", "faultPlace", "I", false)
  | 8 => ("DayWordsModel", "at", "I", false)
  | 9 => ("DayWordsModel", "begin", "I", false)
  | 10 => ("DayWordsModel", "token", "I", false)
  | 11 => ("DayWordsModel", "value", "I", false)
  | 12 => ("DayWordsModel", "word", "I", false)
  | 13 => ("DayWordsModel", "seen", "I", false)
  | 14 => ("DayWordsModel", "bad", "Z", false)
  | 15 => ("DayWordsModel", "badKind", "I", false)
  | 16 => ("DayWordsModel", "badPlace", "I", false)
  | 17 => ("DayWordsModel", "goal", "I", false)
  | 18 => ("DayWordsModel", "notFeasts", "I", false)
  | 19 => ("DayWordsModel", "alsoFeasts", "I", false)
  | 20 => ("DayWordsModel", "least", "[I", true)
  | 21 => ("DayWordsModel", "ways", "[J", true)
  | 22 => ("DayWordsModel", "few", "[I", true)
  | 23 => ("DayWordsModel", "change", "[I", true)
  | 24 => ("DayWordsModel", "byWeekday", "[I", true)
  | 25 => ("DayWordsModel", "patterns", "[I", true)
  | 26 => ("DayWordsModel", "bestTokens", "I", false)
  | 27 => ("DayWordsModel", "bestWays", "J", false)
  | 28 => ("DayWordsModel", "bestNot", "I", false)
  | 29 => ("DayWordsModel", "bestAlso", "I", false)
  | 30 => ("DayWordsModel", "spanFrom", "[I", true)
  | 31 => ("DayWordsModel", "spanTo", "[I", true)
  | 32 => ("DayWordsModel", "spanSet", "[I", true)
  | 33 => ("DayWordsModel", "spanMany", "I", false)
  | 34 => ("DayWordsModel", "wordsNot", "I", false)
  | 35 => ("DayWordsModel", "wordsAlso", "I", false)
  | 36 => ("DayWordsModel", "notDays", "I", false)
  | 37 => ("DayWordsModel", "alsoDays", "I", false)
  | 38 => ("DayWordsModel", "left", "[I", true)
  | 39 => ("DayWordsModel", "stands", "[Z", true)
  | 40 => ("DayWordsModel", "signs", "I", false)
  | 41 => ("DayWordsModel", "wanted", "I", false)
  | 42 => ("DayWordsModel", "found", "I", false)
  | 43 => ("DayWordsModel", "isTold", "Z", false)
  | 44 => ("DayWordsModel", "toldDays", "I", false)
  | 45 => ("DayWordsModel", "toldTokens", "I", false)
  | 46 => ("DayWordsModel", "toldFault", "I", false)
  | _ => ("DayWordsModel", "toldPlace", "I", false)
def tyX10 : Nat → FieldType := fun k => match k with
  | 0 => .array .int
  | 1 => .array .int
  | 2 => .array .int
  | 3 => .int
  | 4 => .array .int
  | 5 => .int
  | 6 => .int
  | 7 => .int
  | 8 => .int
  | 9 => .int
  | 10 => .int
  | 11 => .int
  | 12 => .int
  | 13 => .int
  | 14 => .boolean
  | 15 => .int
  | 16 => .int
  | 17 => .int
  | 18 => .int
  | 19 => .int
  | 20 => .array .int
  | 21 => .array .long
  | 22 => .array .int
  | 23 => .array .int
  | 24 => .array .int
  | 25 => .array .int
  | 26 => .int
  | 27 => .long
  | 28 => .int
  | 29 => .int
  | 30 => .array .int
  | 31 => .array .int
  | 32 => .array .int
  | 33 => .int
  | 34 => .int
  | 35 => .int
  | 36 => .int
  | 37 => .int
  | 38 => .array .int
  | 39 => .array .boolean
  | 40 => .int
  | 41 => .int
  | 42 => .int
  | 43 => .boolean
  | 44 => .int
  | 45 => .int
  | 46 => .int
  | _ => .int
theorem nmX10 : ∀ a, a < 48 → ∀ b, b < 48 → a ≠ b → (TX10 a).2.1 ≠ (TX10 b).2.1 := by decide +kernel
theorem tyX10_ok : ∀ k, k < 48 → parseFieldDescriptor (TX10 k).2.2.1 = some (tyX10 k) := by decide +kernel
abbrev cX10_in : ByteArray := prog_12_method_1_code
def yX10_in : MethodName := ⟨RX10, "in", "(JJJ)Z"⟩
abbrev cX10_has : ByteArray := prog_12_method_2_code
def yX10_has : MethodName := ⟨RX10, "has", "(II)Z"⟩
abbrev cX10_bitsOf : ByteArray := prog_12_method_3_code
def yX10_bitsOf : MethodName := ⟨RX10, "bitsOf", "(I)I"⟩
abbrev cX10_flag : ByteArray := prog_12_method_4_code
def yX10_flag : MethodName := ⟨RX10, "flag", "(Z)I"⟩
abbrev cX10_init : ByteArray := prog_12_method_5_code
def yX10_init : MethodName := ⟨RX10, "<init>", "()V"⟩
abbrev cX10_feed : ByteArray := prog_12_method_6_code
def yX10_feed : MethodName := ⟨RX10, "feed", "(IIIII)I"⟩
abbrev cX10_end : ByteArray := prog_12_method_7_code
def yX10_end : MethodName := ⟨RX10, "end", "(I)I"⟩
abbrev cX10_isAt : ByteArray := prog_12_method_8_code
def yX10_isAt : MethodName := ⟨RX10, "isAt", "(II)Z"⟩
abbrev cX10_next : ByteArray := prog_12_method_9_code
def yX10_next : MethodName := ⟨RX10, "next", "()V"⟩
abbrev cX10_wordHere : ByteArray := prog_12_method_10_code
def yX10_wordHere : MethodName := ⟨RX10, "wordHere", "()I"⟩
abbrev cX10_feastHere : ByteArray := prog_12_method_11_code
def yX10_feastHere : MethodName := ⟨RX10, "feastHere", "()I"⟩
abbrev cX10_faults : ByteArray := prog_12_method_12_code
def yX10_faults : MethodName := ⟨RX10, "faults", "(I)V"⟩
abbrev cX10_needs : ByteArray := prog_12_method_13_code
def yX10_needs : MethodName := ⟨RX10, "needs", "(Z)V"⟩
abbrev cX10_isSign : ByteArray := prog_12_method_14_code
def yX10_isSign : MethodName := ⟨RX10, "isSign", "(C)Z"⟩
abbrev cX10_reads : ByteArray := prog_12_method_15_code
def yX10_reads : MethodName := ⟨RX10, "reads", "(II)I"⟩
abbrev cX10_isWeekday : ByteArray := prog_12_method_16_code
def yX10_isWeekday : MethodName := ⟨RX10, "isWeekday", "()Z"⟩
abbrev cX10_readsWeekday : ByteArray := prog_12_method_17_code
def yX10_readsWeekday : MethodName := ⟨RX10, "readsWeekday", "()I"⟩
abbrev cX10_readsDesk : ByteArray := prog_12_method_18_code
def yX10_readsDesk : MethodName := ⟨RX10, "readsDesk", "()V"⟩
abbrev cX10_readsDay : ByteArray := prog_12_method_19_code
def yX10_readsDay : MethodName := ⟨RX10, "readsDay", "(I)I"⟩
abbrev cX10_readsFeast : ByteArray := prog_12_method_20_code
def yX10_readsFeast : MethodName := ⟨RX10, "readsFeast", "()V"⟩
abbrev cX10_readsTrain : ByteArray := prog_12_method_21_code
def yX10_readsTrain : MethodName := ⟨RX10, "readsTrain", "()V"⟩
abbrev cX10_readsWording : ByteArray := prog_12_method_22_code
def yX10_readsWording : MethodName := ⟨RX10, "readsWording", "()I"⟩
abbrev cX10_readsSpans : ByteArray := prog_12_method_23_code
def yX10_readsSpans : MethodName := ⟨RX10, "readsSpans", "()I"⟩
abbrev cX10_readsPattern : ByteArray := prog_12_method_24_code
def yX10_readsPattern : MethodName := ⟨RX10, "readsPattern", "()I"⟩
abbrev cX10_readsBehind : ByteArray := prog_12_method_25_code
def yX10_readsBehind : MethodName := ⟨RX10, "readsBehind", "(I)I"⟩
abbrev cX10_readsEntries : ByteArray := prog_12_method_26_code
def yX10_readsEntries : MethodName := ⟨RX10, "readsEntries", "()I"⟩
abbrev cX10_begins : ByteArray := prog_12_method_27_code
def yX10_begins : MethodName := ⟨RX10, "begins", "()V"⟩
abbrev cX10_desk : ByteArray := prog_12_method_28_code
def yX10_desk : MethodName := ⟨RX10, "desk", "()I"⟩
abbrev cX10_fault : ByteArray := prog_12_method_29_code
def yX10_fault : MethodName := ⟨RX10, "fault", "(I)I"⟩
abbrev cX10_count : ByteArray := prog_12_method_30_code
def yX10_count : MethodName := ⟨RX10, "count", "(I)I"⟩
abbrev cX10_weekdayOf : ByteArray := prog_12_method_31_code
def yX10_weekdayOf : MethodName := ⟨RX10, "weekdayOf", "(I)I"⟩
abbrev cX10_isDay : ByteArray := prog_12_method_32_code
def yX10_isDay : MethodName := ⟨RX10, "isDay", "(I)Z"⟩
abbrev cX10_isTrain : ByteArray := prog_12_method_33_code
def yX10_isTrain : MethodName := ⟨RX10, "isTrain", "(I)Z"⟩
abbrev cX10_runsOf : ByteArray := prog_12_method_34_code
def yX10_runsOf : MethodName := ⟨RX10, "runsOf", "(I)I"⟩
abbrev cX10_whole : ByteArray := prog_12_method_35_code
def yX10_whole : MethodName := ⟨RX10, "whole", "()I"⟩
abbrev cX10_weekday : ByteArray := prog_12_method_36_code
def yX10_weekday : MethodName := ⟨RX10, "weekday", "(I)I"⟩
abbrev cX10_feast : ByteArray := prog_12_method_37_code
def yX10_feast : MethodName := ⟨RX10, "feast", "(I)I"⟩
abbrev cX10_train : ByteArray := prog_12_method_38_code
def yX10_train : MethodName := ⟨RX10, "train", "(II)I"⟩
abbrev cX10_days : ByteArray := prog_12_method_39_code
def yX10_days : MethodName := ⟨RX10, "days", "(I)I"⟩
abbrev cX10_runs : ByteArray := prog_12_method_40_code
def yX10_runs : MethodName := ⟨RX10, "runs", "(II)I"⟩
abbrev cX10_many : ByteArray := prog_12_method_41_code
def yX10_many : MethodName := ⟨RX10, "many", "(I)I"⟩
abbrev cX10_daysOf : ByteArray := prog_12_method_42_code
def yX10_daysOf : MethodName := ⟨RX10, "daysOf", "(I)I"⟩
abbrev cX10_votes : ByteArray := prog_12_method_43_code
def yX10_votes : MethodName := ⟨RX10, "votes", "(II)I"⟩
abbrev cX10_voteOf : ByteArray := prog_12_method_44_code
def yX10_voteOf : MethodName := ⟨RX10, "voteOf", "(I)I"⟩
abbrev cX10_vote : ByteArray := prog_12_method_45_code
def yX10_vote : MethodName := ⟨RX10, "vote", "(I)I"⟩
abbrev cX10_strays : ByteArray := prog_12_method_46_code
def yX10_strays : MethodName := ⟨RX10, "strays", "(I)I"⟩
abbrev cX10_next_ : ByteArray := prog_12_method_47_code
def yX10_next_ : MethodName := ⟨RX10, "next", "(II)I"⟩
abbrev cX10_rest : ByteArray := prog_12_method_48_code
def yX10_rest : MethodName := ⟨RX10, "rest", "(I)I"⟩
abbrev cX10_feastDays : ByteArray := prog_12_method_49_code
def yX10_feastDays : MethodName := ⟨RX10, "feastDays", "(I)I"⟩
abbrev cX10_patternCost : ByteArray := prog_12_method_50_code
def yX10_patternCost : MethodName := ⟨RX10, "patternCost", "(I)I"⟩
abbrev cX10_modeCost : ByteArray := prog_12_method_51_code
def yX10_modeCost : MethodName := ⟨RX10, "modeCost", "(I)I"⟩
abbrev cX10_bareCost : ByteArray := prog_12_method_52_code
def yX10_bareCost : MethodName := ⟨RX10, "bareCost", "(II)I"⟩
abbrev cX10_spanCost : ByteArray := prog_12_method_53_code
def yX10_spanCost : MethodName := ⟨RX10, "spanCost", "(II)I"⟩
abbrev cX10_endsCost : ByteArray := prog_12_method_54_code
def yX10_endsCost : MethodName := ⟨RX10, "endsCost", "(II)I"⟩
abbrev cX10_goesOn : ByteArray := prog_12_method_55_code
def yX10_goesOn : MethodName := ⟨RX10, "goesOn", "(IIII)I"⟩
abbrev cX10_place : ByteArray := prog_12_method_56_code
def yX10_place : MethodName := ⟨RX10, "place", "(II)I"⟩
abbrev cX10_weighs : ByteArray := prog_12_method_57_code
def yX10_weighs : MethodName := ⟨RX10, "weighs", "(I)V"⟩
abbrev cX10_begins_ : ByteArray := prog_12_method_58_code
def yX10_begins_ : MethodName := ⟨RX10, "begins", "(I)V"⟩
abbrev cX10_canStand : ByteArray := prog_12_method_59_code
def yX10_canStand : MethodName := ⟨RX10, "canStand", "()Z"⟩
abbrev cX10_solves : ByteArray := prog_12_method_60_code
def yX10_solves : MethodName := ⟨RX10, "solves", "(IZ)I"⟩
abbrev cX10_withinOf : ByteArray := prog_12_method_61_code
def yX10_withinOf : MethodName := ⟨RX10, "withinOf", "(II)I"⟩
abbrev cX10_weighsWithin : ByteArray := prog_12_method_62_code
def yX10_weighsWithin : MethodName := ⟨RX10, "weighsWithin", "(II)I"⟩
abbrev cX10_chooses : ByteArray := prog_12_method_63_code
def yX10_chooses : MethodName := ⟨RX10, "chooses", "(I)I"⟩
abbrev cX10_goesBare : ByteArray := prog_12_method_64_code
def yX10_goesBare : MethodName := ⟨RX10, "goesBare", "(I)Z"⟩
abbrev cX10_costOf : ByteArray := prog_12_method_65_code
def yX10_costOf : MethodName := ⟨RX10, "costOf", "(IIII)I"⟩
abbrev cX10_begun : ByteArray := prog_12_method_66_code
def yX10_begun : MethodName := ⟨RX10, "begun", "(I)I"⟩
abbrev cX10_takes : ByteArray := prog_12_method_67_code
def yX10_takes : MethodName := ⟨RX10, "takes", "(III)Z"⟩
abbrev cX10_rests : ByteArray := prog_12_method_68_code
def yX10_rests : MethodName := ⟨RX10, "rests", "()V"⟩
abbrev cX10_words : ByteArray := prog_12_method_69_code
def yX10_words : MethodName := ⟨RX10, "words", "(I)I"⟩
abbrev cX10_ways : ByteArray := prog_12_method_70_code
def yX10_ways : MethodName := ⟨RX10, "ways", "(I)J"⟩
abbrev cX10_sign : ByteArray := prog_12_method_71_code
def yX10_sign : MethodName := ⟨RX10, "sign", "(I)V"⟩
abbrev cX10_blank : ByteArray := prog_12_method_72_code
def yX10_blank : MethodName := ⟨RX10, "blank", "()V"⟩
abbrev cX10_says : ByteArray := prog_12_method_73_code
def yX10_says : MethodName := ⟨RX10, "says", "(I)V"⟩
abbrev cX10_saysNumber : ByteArray := prog_12_method_74_code
def yX10_saysNumber : MethodName := ⟨RX10, "saysNumber", "(I)V"⟩
abbrev cX10_saysPattern : ByteArray := prog_12_method_75_code
def yX10_saysPattern : MethodName := ⟨RX10, "saysPattern", "(I)V"⟩
abbrev cX10_saysEntries : ByteArray := prog_12_method_76_code
def yX10_saysEntries : MethodName := ⟨RX10, "saysEntries", "(III)V"⟩
abbrev cX10_writes : ByteArray := prog_12_method_77_code
def yX10_writes : MethodName := ⟨RX10, "writes", "(II)V"⟩
abbrev cX10_length : ByteArray := prog_12_method_78_code
def yX10_length : MethodName := ⟨RX10, "length", "(I)I"⟩
abbrev cX10_sign_ : ByteArray := prog_12_method_79_code
def yX10_sign_ : MethodName := ⟨RX10, "sign", "(II)I"⟩
abbrev cX10_spans : ByteArray := prog_12_method_80_code
def yX10_spans : MethodName := ⟨RX10, "spans", "(I)I"⟩
abbrev cX10_span : ByteArray := prog_12_method_81_code
def yX10_span : MethodName := ⟨RX10, "span", "(III)I"⟩
abbrev cX10_nots : ByteArray := prog_12_method_82_code
def yX10_nots : MethodName := ⟨RX10, "nots", "(II)I"⟩
abbrev cX10_alsos : ByteArray := prog_12_method_83_code
def yX10_alsos : MethodName := ⟨RX10, "alsos", "(II)I"⟩
abbrev cX10_within : ByteArray := prog_12_method_84_code
def yX10_within : MethodName := ⟨RX10, "within", "(II)I"⟩
abbrev cX10_plain : ByteArray := prog_12_method_85_code
def yX10_plain : MethodName := ⟨RX10, "plain", "(I)I"⟩
abbrev cX10_other : ByteArray := prog_12_method_86_code
def yX10_other : MethodName := ⟨RX10, "other", "(II)I"⟩
abbrev cX10_shift : ByteArray := prog_12_method_87_code
def yX10_shift : MethodName := ⟨RX10, "shift", "(II)I"⟩
abbrev cX10_least : ByteArray := prog_12_method_88_code
def yX10_least : MethodName := ⟨RX10, "least", "(I)I"⟩
abbrev cX10_readsAlone : ByteArray := prog_12_method_89_code
def yX10_readsAlone : MethodName := ⟨RX10, "readsAlone", "()I"⟩
abbrev cX10_tells : ByteArray := prog_12_method_90_code
def yX10_tells : MethodName := ⟨RX10, "tells", "()I"⟩
abbrev cX10_told : ByteArray := prog_12_method_91_code
def yX10_told : MethodName := ⟨RX10, "told", "(I)I"⟩
abbrev cX10_worse : ByteArray := prog_12_method_92_code
def yX10_worse : MethodName := ⟨RX10, "worse", "()I"⟩
abbrev cX10_shares : ByteArray := prog_12_method_93_code
def yX10_shares : MethodName := ⟨RX10, "shares", "(II)I"⟩
abbrev cX10_same : ByteArray := prog_12_method_94_code
def yX10_same : MethodName := ⟨RX10, "same", "(II)I"⟩
abbrev cX10_isJoined : ByteArray := prog_12_method_95_code
def yX10_isJoined : MethodName := ⟨RX10, "isJoined", "(II)Z"⟩
abbrev cX10_joinOf : ByteArray := prog_12_method_96_code
def yX10_joinOf : MethodName := ⟨RX10, "joinOf", "(I)I"⟩
abbrev cX10_jointOf : ByteArray := prog_12_method_97_code
def yX10_jointOf : MethodName := ⟨RX10, "jointOf", "(IZ)I"⟩
abbrev cX10_join : ByteArray := prog_12_method_98_code
def yX10_join : MethodName := ⟨RX10, "join", "(I)I"⟩
abbrev cX10_joint : ByteArray := prog_12_method_99_code
def yX10_joint : MethodName := ⟨RX10, "joint", "(I)I"⟩
abbrev cX10_twice : ByteArray := prog_12_method_100_code
def yX10_twice : MethodName := ⟨RX10, "twice", "(I)I"⟩
abbrev cX10_saved : ByteArray := prog_12_method_101_code
def yX10_saved : MethodName := ⟨RX10, "saved", "()I"⟩
abbrev cX10_crowdOf : ByteArray := prog_12_method_102_code
def yX10_crowdOf : MethodName := ⟨RX10, "crowdOf", "(I)I"⟩
abbrev cX10_crowd : ByteArray := prog_12_method_103_code
def yX10_crowd : MethodName := ⟨RX10, "crowd", "(I)I"⟩
abbrev cX10_full : ByteArray := prog_12_method_104_code
def yX10_full : MethodName := ⟨RX10, "full", "()I"⟩
abbrev cX10_keeps : ByteArray := prog_12_method_105_code
def yX10_keeps : MethodName := ⟨RX10, "keeps", "()V"⟩
abbrev cX10_goesBack : ByteArray := prog_12_method_106_code
def yX10_goesBack : MethodName := ⟨RX10, "goesBack", "(I)V"⟩
abbrev cX10_flips : ByteArray := prog_12_method_107_code
def yX10_flips : MethodName := ⟨RX10, "flips", "(II)I"⟩
abbrev cX10_sets : ByteArray := prog_12_method_108_code
def yX10_sets : MethodName := ⟨RX10, "sets", "(I)I"⟩
abbrev cX10_merges : ByteArray := prog_12_method_109_code
def yX10_merges : MethodName := ⟨RX10, "merges", "()I"⟩
abbrev cX10_undo : ByteArray := prog_12_method_110_code
def yX10_undo : MethodName := ⟨RX10, "undo", "()I"⟩
abbrev cX10_anew : ByteArray := prog_12_method_111_code
def yX10_anew : MethodName := ⟨RX10, "anew", "()I"⟩
def RJ6 : String := "java/lang/Integer"
abbrev cJ6_numberOfTrailingZeros_0f7a4 : ByteArray := prog_13_method_48_code
def yJ6_numberOfTrailingZeros_0f7a4 : MethodName := ⟨RJ6, "numberOfTrailingZeros", "(I)I"⟩
abbrev cJ6_bitCount_0f7a4 : ByteArray := prog_13_method_49_code
def yJ6_bitCount_0f7a4 : MethodName := ⟨RJ6, "bitCount", "(I)I"⟩
def RJ9 : String := "java/lang/Math"
abbrev cJ9_max_7cf53 : ByteArray := prog_14_method_65_code
def yJ9_max_7cf53 : MethodName := ⟨RJ9, "max", "(II)I"⟩
abbrev cJ9_min_7cf53 : ByteArray := prog_14_method_69_code
def yJ9_min_7cf53 : MethodName := ⟨RJ9, "min", "(II)I"⟩
abbrev cJ9_min_f86c9 : ByteArray := prog_14_method_70_code
def yJ9_min_f86c9 : MethodName := ⟨RJ9, "min", "(JJ)J"⟩
def RJ0 : String := "java/lang/String"
abbrev cJ0_length_8abf5 : ByteArray := prog_15_method_54_code
def yJ0_length_8abf5 : MethodName := ⟨RJ0, "length", "()I"⟩
abbrev cJ0_charAt_5068e : ByteArray := prog_15_method_56_code
def yJ0_charAt_5068e : MethodName := ⟨RJ0, "charAt", "(I)C"⟩
abbrev cJ0_coder_7d493 : ByteArray := prog_15_method_152_code
def yJ0_coder_7d493 : MethodName := ⟨RJ0, "coder", "()B"⟩
abbrev cJ0_isLatin1_aae02 : ByteArray := prog_15_method_154_code
def yJ0_isLatin1_aae02 : MethodName := ⟨RJ0, "isLatin1", "()Z"⟩
abbrev cJ0_checkIndex_df160 : ByteArray := prog_15_method_155_code
def yJ0_checkIndex_df160 : MethodName := ⟨RJ0, "checkIndex", "(II)V"⟩
def RJ1 : String := "java/lang/StringLatin1"
abbrev cJ1_charAt_3b067 : ByteArray := prog_16_method_2_code
def yJ1_charAt_3b067 : MethodName := ⟨RJ1, "charAt", "([BI)C"⟩
def RJ2 : String := "java/lang/StringUTF16"
abbrev cJ2_getChar_3b067 : ByteArray := prog_17_method_5_code
def yJ2_getChar_3b067 : MethodName := ⟨RJ2, "getChar", "([BI)C"⟩
abbrev cJ2_length_9d52b : ByteArray := prog_17_method_6_code
def yJ2_length_9d52b : MethodName := ⟨RJ2, "length", "([B)I"⟩
abbrev cJ2_charAt_3b067 : ByteArray := prog_17_method_83_code
def yJ2_charAt_3b067 : MethodName := ⟨RJ2, "charAt", "([BI)C"⟩
abbrev cJ2_checkIndex_2214a : ByteArray := prog_17_method_91_code
def yJ2_checkIndex_2214a : MethodName := ⟨RJ2, "checkIndex", "(I[B)V"⟩
def RJ10 : String := "java/lang/System"
def RJ3 : String := "jdk/internal/util/Preconditions"
abbrev cJ3_checkIndex_8e157 : ByteArray := prog_19_method_11_code
def yJ3_checkIndex_8e157 : MethodName := ⟨RJ3, "checkIndex", "(IILjava/util/function/BiFunction;)I"⟩
def RL : String := "DayWordsLaw"
abbrev cL_law : ByteArray := code
def yL_law : MethodName := ⟨RL, "law", "([I)Z"⟩
abbrev vwCl : List vw_C := [(RX0, TX0, 2), (RX1, TX1, 11), (RX2, TX2, 16), (RX3, TX3, 1), (RX4, TX4, 15), (RX5, TX5, 2), (RX6, TX6, 2), (RX7, TX7, 14), (RX8, TX8, 1), (RX9, TX9, 13), (RX10, TX10, 48)]
end
section
/-! A SMALL MACHINE beside the big one: heap of typed words, frames as lists; its runs are a partial function (zrun). Part 04 shows that the big machine does what this one does. -/
abbrev zI : Type := Nat → Nat → Int32
abbrev zL : Type := Nat → Nat → Int64
abbrev zR : Type := Nat → Nat → Option Nat
/-- a cell: an object of a class (by its number), or an array (kind, length); kinds: 0 int, 1 long, 2 byte, 3 boolean, 4 rows -/
abbrev zK : Type := Nat ⊕ (Nat × Nat)
abbrev zH : Type := List zK × zI × zL × zR
abbrev zS : Type := Nat × List (Option Value) × List Value × zH × Nat × Nat
abbrev zEn : Type := Instr × Nat × List Nat × Int
abbrev zRes : Type := Option Value × zH × Nat × Nat
abbrev zO : Type := (List (Bool × zS) × zS) ⊕ (zRes ⊕ (Nat × List Value × zS))
abbrev zMeth : Type := MethodName × ByteArray × Nat × Option FieldType × Room × List (List (Option zEn))
def zy (M : zMeth) : MethodName := M.1
def zb (M : zMeth) : ByteArray := M.2.1
def zml (M : zMeth) : Nat := M.2.2.1
def zret (M : zMeth) : Option FieldType := M.2.2.2.1
def zrm (M : zMeth) : Room := M.2.2.2.2.1
def zcode (M : zMeth) : List (List (Option zEn)) := M.2.2.2.2.2
def zT : List Cond := lw_tbl.filter goodWord
def znth {α : Type} : List α → Nat → Option α
  | [], _ => none
  | a :: _, 0 => some a
  | _ :: l, n + 1 => znth l n
def zfetch (M : zMeth) (pc : Nat) : Option zEn :=
  match znth (zcode M) (pc / 16) with
  | none => none
  | some r => match znth r (pc % 16) with
    | none => none
    | some q => q
def zup {α : Type} (f : Nat → Nat → α) (k i : Nat) (v : α) : Nat → Nat → α := fun a b => cond (Nat.beq a k && Nat.beq b i) v (f a b)
def zfil {α : Type} (f : Nat → Nat → α) (k : Nat) (v : α) : Nat → Nat → α := fun a b => cond (Nat.beq a k) v (f a b)
/-- n places of cell k from p on come out of cell j from q on -/
def zcpy {α : Type} (f : Nat → Nat → α) (j q k p n : Nat) : Nat → Nat → α := fun a b => cond (Nat.beq a k && Nat.ble p b && Nat.blt b (p + n)) (f j (q + (b - p))) (f a b)
def zin (i : Int32) (n : Nat) : Bool := !(decide (i < 0) || Nat.ble n i.toNatClampNeg)
def zlong : Option (Option Value) → Bool
  | some (some (.long _)) => true
  | _ => false
/-- a value of one place is stored -/
def zst1 (lo : List (Option Value)) : Nat → Value → List (Option Value)
  | 0, v => lo.set 0 (some v)
  | i + 1, v => cond (zlong (znth lo i)) ((lo.set i none).set (i + 1) (some v)) (lo.set (i + 1) (some v))
def zst2 (lo : List (Option Value)) (i : Nat) (v : Value) : List (Option Value) := (zst1 lo i v).set (i + 1) none
def zargs : List Value → List (Option Value)
  | [] => []
  | .long x :: r => some (.long x) :: none :: zargs r
  | v :: r => some v :: zargs r
def zpad (l : List (Option Value)) (n : Nat) : List (Option Value) := l ++ List.replicate (n - l.length) none
def znar (ty : FieldType) (v : Int32) : Bool := match ty with
  | .int => true
  | .boolean => v == 0 || v == 1
  | _ => false
/-- class by its number: its fields' types, their number -/
def zty (ci : Nat) : Nat → FieldType := match ci with
  | 0 => tyX0 | 1 => tyX1 | 2 => tyX2 | 3 => tyX3 | 4 => tyX4 | 5 => tyX5 | 6 => tyX6 | 7 => tyX7 | 8 => tyX8 | 9 => tyX9 | _ => tyX10
def zN (ci : Nat) : Nat := match ci with
  | 0 => 2 | 1 => 11 | 2 => 16 | 3 => 1 | 4 => 15 | 5 => 2 | 6 => 2 | 7 => 14 | 8 => 1 | 9 => 13 | 10 => 48 | _ => 0
def zfv (h : zH) (ty : FieldType) (k f : Nat) : Value := match ty with
  | .int => .int (h.2.1 k f)
  | .boolean => .int (h.2.1 k f)
  | .long => .long (h.2.2.1 k f)
  | _ => va_rf (h.2.2.2 k f)
def zisC (h : zH) (k ci : Nat) : Bool := match znth h.1 k with
  | some (.inl c) => Nat.beq c ci
  | _ => false
/-- the length of an array cell of a kind; the script (cell 1000) is no such cell -/
def zisA (h : zH) (k t : Nat) : Option Nat := match znth h.1 k with
  | some (.inr (t', n)) => cond (Nat.beq t' t) (some n) none
  | _ => none
def zlen (h : zH) (k : Nat) : Option Nat := match znth h.1 k with
  | some (.inr (_, n)) => some n
  | _ => none
def zput (h : zH) (ty : FieldType) (k f : Nat) (v : Value) : Option (Bool × zH) := match ty, v with
  | .int, .int x => some (true, (h.1, zup h.2.1 k f x, h.2.2.1, h.2.2.2))
  | .boolean, .int x => some (znar .boolean x, (h.1, zup h.2.1 k f x, h.2.2.1, h.2.2.2))
  | .long, .long x => some (true, (h.1, h.2.1, zup h.2.2.1 k f x, h.2.2.2))
  | .object _, .ref r => some (true, (h.1, h.2.1, h.2.2.1, zup h.2.2.2 k f (some r)))
  | .array _, .ref r => some (true, (h.1, h.2.1, h.2.2.1, zup h.2.2.2 k f (some r)))
  | _, _ => none
def znewo (h : zH) (ci : Nat) : zH := (h.1 ++ [.inl ci], zfil h.2.1 h.1.length 0, zfil h.2.2.1 h.1.length 0, zfil h.2.2.2 h.1.length none)
def znewa (h : zH) (t n : Nat) : zH := (h.1 ++ [.inr (t, n)], zfil h.2.1 h.1.length 0, zfil h.2.2.1 h.1.length 0, zfil h.2.2.2 h.1.length none)
def zatk (a : ArrayType) : Option Nat := match a with
  | .int => some 0 | .long => some 1 | .byte => some 2 | .boolean => some 3 | _ => none
/-- the two texts -/
def zbyt : List (List Int32) := [[100, 101, 115, 107, 32, 100, 97, 121, 115, 32, 102, 105, 114, 115, 116, 32, 102, 101, 97, 115, 116, 32, 116, 114, 97, 105, 110, 32, 97, 116, 32, 110, 101, 118, 101, 114, 32, 100, 97, 105, 108, 121, 32, 102, 114, 111, 109, 32, 116, 111, 32, 110, 111, 116, 32, 97, 108, 115, 111, 32, 109, 111, 32, 116, 117, 32, 119, 101, 32, 116, 104, 32, 102, 114, 32, 115, 97, 32, 115, 117], [32, 100, 101, 115, 107, 32, 100, 97, 121, 115, 32, 102, 105, 114, 115, 116, 32, 102, 101, 97, 115, 116, 32, 116, 114, 97, 105, 110, 32, 97, 116, 32, 110, 101, 118, 101, 114, 32, 100, 97, 105, 108, 121, 32, 102, 114, 111, 109, 32, 116, 111, 32, 110, 111, 116, 32, 97, 108, 115, 111, 32, 109, 111, 32, 116, 117, 32, 119, 101, 32, 116, 104, 32, 102, 114, 32, 115, 97, 32, 115, 117, 32]]
def zlens : List Nat := [80, 82]
def zch (k : Nat) (i : Int32) : Int32 := (zbyt.getD k []).getD i.toNatClampNeg 0
def zcs (l : List Value) : Nat := (l.map fun v => v.category).sum
def zk (pc : Nat) (lo : List (Option Value)) (st : List Value) (h : zH) (ce sl : Nat) : Option (Bool × zO) := some (true, .inl ([], (pc, lo, st, h, ce, sl)))
def zg (g : Bool) (pc : Nat) (lo : List (Option Value)) (st : List Value) (h : zH) (ce sl : Nat) : Option (Bool × zO) := some (g, .inl ([], (pc, lo, st, h, ce, sl)))
def zbr (b : Bool) (t pc : Nat) (lo : List (Option Value)) (st : List Value) (h : zH) (ce sl : Nat) : Option (Bool × zO) := some (true, .inl ([(b, (t, lo, st, h, ce, sl))], (pc, lo, st, h, ce, sl)))
def zoff (pc : Nat) (off : Int) : Nat := ((pc : Int) + off).toNat
def zcmp (c : ClassFile.Cond) (x y : Int32) : Bool := match c with
  | .eq => decide (x = y)
  | .ne => !decide (x = y)
  | .lt => decide (x < y)
  | .ge => !decide (x < y)
  | .gt => decide (y < x)
  | .le => !decide (y < x)
def zld (lo : List (Option Value)) (i pc : Nat) (st : List Value) (h : zH) (ce sl : Nat) : Option (Bool × zO) := match znth lo i with
  | some (some v) => zk pc lo (v :: st) h ce sl
  | _ => none
def zis (lo : List (Option Value)) (n i pc : Nat) (st : List Value) (h : zH) (ce sl : Nat) : Option (Bool × zO) := match st with
  | .int x :: r => zg (Nat.blt i n) pc (zst1 lo i (.int x)) r h ce sl
  | _ => none
def zls (lo : List (Option Value)) (n i pc : Nat) (st : List Value) (h : zH) (ce sl : Nat) : Option (Bool × zO) := match st with
  | .long x :: r => zg (Nat.blt (i + 1) n) pc (zst2 lo i (.long x)) r h ce sl
  | _ => none
def zas (lo : List (Option Value)) (n i pc : Nat) (st : List Value) (h : zH) (ce sl : Nat) : Option (Bool × zO) := match st with
  | .ref x :: r => zg (Nat.blt i n) pc (zst1 lo i (.ref x)) r h ce sl
  | _ => none
def zi2 (f : Int32 → Int32 → Int32) (lo : List (Option Value)) (pc : Nat) (st : List Value) (h : zH) (ce sl : Nat) : Option (Bool × zO) := match st with
  | .int y :: .int x :: r => zk pc lo (.int (f x y) :: r) h ce sl
  | _ => none
def zi1 (f : Int32 → Value) (lo : List (Option Value)) (pc : Nat) (st : List Value) (h : zH) (ce sl : Nat) : Option (Bool × zO) := match st with
  | .int x :: r => zk pc lo (f x :: r) h ce sl
  | _ => none
def zl2 (f : Int64 → Int64 → Int64) (lo : List (Option Value)) (pc : Nat) (st : List Value) (h : zH) (ce sl : Nat) : Option (Bool × zO) := match st with
  | .long y :: .long x :: r => zk pc lo (.long (f x y) :: r) h ce sl
  | _ => none
/-- a call: callee, arguments, the state behind it but for the answer -/
def zcl (g : Bool) (y : Nat) (as : List Value) (pc : Nat) (lo : List (Option Value)) (st : List Value) (h : zH) (ce sl : Nat) : Option (Bool × zO) := some (g, .inr (.inr (y, as, (pc, lo, st, h, ce, sl))))
def zinv (R : Room) (ns : List Nat) (lo : List (Option Value)) (pc : Nat) (st : List Value) (h : zH) (ce sl : Nat) : Option (Bool × zO) := match ns with
  | 0 :: y :: n :: mc :: ms :: ci :: _ =>
    match (st.take n).reverse with
    | .ref k :: as => zcl (zisC h k ci && Nat.beq (as.length + 1) n && Nat.ble (zcs (st.drop n)) 8 && Nat.ble (ce + mc) R.cells && Nat.ble (sl + ms) R.slots) y (.ref k :: as) pc lo (st.drop n) h (ce + mc) (sl + ms)
    | _ => none
  | 1 :: y :: n :: mc :: ms :: _ => zcl (Nat.beq (st.take n).length n && Nat.ble (zcs (st.drop n)) 8 && Nat.ble (ce + mc) R.cells && Nat.ble (sl + ms) R.slots) y (st.take n).reverse pc lo (st.drop n) h (ce + mc) (sl + ms)
  | 2 :: y :: n :: mc :: ms :: _ =>
    match (st.take n).reverse with
    | .ref k :: as => zcl (Nat.beq (as.length + 1) n && Nat.ble (zcs (st.drop n)) 8 && Nat.ble (ce + mc) R.cells && Nat.ble (sl + ms) R.slots) y (.ref k :: as) pc lo (st.drop n) h (ce + mc) (sl + ms)
    | _ => none
  | 3 :: _ => match st with
    | .ref _ :: r => zg (Nat.ble (zcs r + 12) R.locals) pc lo r h ce sl
    | _ => none
  | 4 :: _ => match st with
    | .int n :: .int dp :: .ref k :: .int sp :: .ref j :: r => match zisA h j 0, zisA h k 0 with
      | some n0, some n1 => zg (!decide (sp < 0) && !decide (dp < 0) && !decide (n < 0) && Nat.ble (sp.toNatClampNeg + n.toNatClampNeg) n0 && Nat.ble (dp.toNatClampNeg + n.toNatClampNeg) n1 && Nat.ble (zcs r) 8) pc lo r (h.1, zcpy h.2.1 j sp.toNatClampNeg k dp.toNatClampNeg n.toNatClampNeg, h.2.2.1, h.2.2.2) ce sl
      | _, _ => none
    | _ => none
  | 5 :: _ => match st with
    | .ref k :: r => zg (Nat.ble 1001 k && Nat.ble k 1002 && Nat.ble (zcs r) 8) pc lo (.int (nI (zlens.getD (k - 1001) 0)) :: r) h ce sl
    | _ => none
  | 6 :: _ => match st with
    | .int i :: .ref k :: r => zg (Nat.ble 1001 k && Nat.ble k 1002 && Nat.ble (zcs r) 8 && zin i (zlens.getD (k - 1001) 0)) pc lo (.int (zch (k - 1001) i) :: r) h ce sl
    | _ => none
  | _ => none
def zstep (M : zMeth) (S : zS) : Option (Bool × zO) :=
  match S with
  | (pc, lo, st, h, ce, sl) =>
  match zfetch M pc with
  | none => none
  | some (ins, len, ns, z) =>
    match ins with
    | .iconst n => zk (pc + len) lo (.int (Int32.ofInt n) :: st) h ce sl
    | .bipush n => zk (pc + len) lo (.int (Int8.ofInt n).toInt32 :: st) h ce sl
    | .sipush n => zk (pc + len) lo (.int (Int16.ofInt n).toInt32 :: st) h ce sl
    | .lconst n => zk (pc + len) lo (.long (Int64.ofNat (n : Nat)) :: st) h ce sl
    | .aconst_null => zk (pc + len) lo (.null :: st) h ce sl
    | .ldc _ => match ns with
      | 0 :: _ => zk (pc + len) lo (.int (Int32.ofInt z) :: st) h ce sl
      | 1 :: k :: _ => zk (pc + len) lo (.ref (1001 + k) :: st) h ce sl
      | _ => none
    | .ldc_w _ => zk (pc + len) lo (.int (Int32.ofInt z) :: st) h ce sl
    | .ldc2_w _ => zk (pc + len) lo (.long (Int64.ofInt z) :: st) h ce sl
    | .iload_n k => zld lo (k : Nat) (pc + len) st h ce sl
    | .iload k => zld lo k (pc + len) st h ce sl
    | .lload_n k => zld lo (k : Nat) (pc + len) st h ce sl
    | .lload k => zld lo k (pc + len) st h ce sl
    | .aload_n k => zld lo (k : Nat) (pc + len) st h ce sl
    | .aload k => zld lo k (pc + len) st h ce sl
    | .istore_n k => zis lo (zml M) (k : Nat) (pc + len) st h ce sl
    | .istore k => zis lo (zml M) k (pc + len) st h ce sl
    | .lstore_n k => zls lo (zml M) (k : Nat) (pc + len) st h ce sl
    | .lstore k => zls lo (zml M) k (pc + len) st h ce sl
    | .astore_n k => zas lo (zml M) (k : Nat) (pc + len) st h ce sl
    | .astore k => zas lo (zml M) k (pc + len) st h ce sl
    | .iinc i n => match znth lo i with
      | some (some (.int x)) => zg (Nat.blt i (zml M)) (pc + len) (zst1 lo i (.int (x + Int32.ofInt n))) st h ce sl
      | _ => none
    | .iadd => zi2 (fun x y => x + y) lo (pc + len) st h ce sl
    | .isub => zi2 (fun x y => x - y) lo (pc + len) st h ce sl
    | .imul => zi2 (fun x y => x * y) lo (pc + len) st h ce sl
    | .iand => zi2 (fun x y => x &&& y) lo (pc + len) st h ce sl
    | .ior => zi2 (fun x y => x ||| y) lo (pc + len) st h ce sl
    | .ixor => zi2 (fun x y => x ^^^ y) lo (pc + len) st h ce sl
    | .ishl => zi2 (fun x y => x <<< (y &&& 31)) lo (pc + len) st h ce sl
    | .ishr => zi2 (fun x y => x >>> (y &&& 31)) lo (pc + len) st h ce sl
    | .iushr => zi2 (fun x y => (x.toUInt32 >>> (y.toUInt32 &&& Int32.toUInt32 31)).toInt32) lo (pc + len) st h ce sl
    | .idiv => match st with
      | .int y :: .int x :: r => zg (!decide (y = 0)) (pc + len) lo (.int (x / y) :: r) h ce sl
      | _ => none
    | .irem => match st with
      | .int y :: .int x :: r => zg (!decide (y = 0)) (pc + len) lo (.int (x - x / y * y) :: r) h ce sl
      | _ => none
    | .ineg => zi1 (fun x => .int (0 - x)) lo (pc + len) st h ce sl
    | .i2l => zi1 (fun x => .long x.toInt64) lo (pc + len) st h ce sl
    | .i2b => zi1 (fun x => .int x.toInt8.toInt32) lo (pc + len) st h ce sl
    | .i2c => zi1 (fun x => .int (x.toUInt32 % 65536).toInt32) lo (pc + len) st h ce sl
    | .l2i => match st with
      | .long x :: r => zk (pc + len) lo (.int x.toInt32 :: r) h ce sl
      | _ => none
    | .ladd => zl2 (fun x y => x + y) lo (pc + len) st h ce sl
    | .lmul => zl2 (fun x y => x * y) lo (pc + len) st h ce sl
    | .land => zl2 (fun x y => x &&& y) lo (pc + len) st h ce sl
    | .lor => zl2 (fun x y => x ||| y) lo (pc + len) st h ce sl
    | .lshl => match st with
      | .int y :: .long x :: r => zk (pc + len) lo (.long (x <<< (y.toInt64 &&& 63)) :: r) h ce sl
      | _ => none
    | .lshr => match st with
      | .int y :: .long x :: r => zk (pc + len) lo (.long (x >>> (y.toInt64 &&& 63)) :: r) h ce sl
      | _ => none
    | .lcmp => match st with
      | .long y :: .long x :: r => zk (pc + len) lo (.int (lg_cmp x y) :: r) h ce sl
      | _ => none
    | .dup => match st with
      | v :: r => zg (Nat.beq v.category 1) (pc + len) lo (v :: v :: r) h ce sl
      | _ => none
    | .dup2 => match st with
      | v :: w :: r => zg (Nat.beq v.category 1 && Nat.beq w.category 1) (pc + len) lo (v :: w :: v :: w :: r) h ce sl
      | _ => none
    | .pop => match st with
      | v :: r => zg (Nat.beq v.category 1) (pc + len) lo r h ce sl
      | _ => none
    | .goto o => zk (zoff pc o) lo st h ce sl
    | .ifCond c o => match st with
      | .int x :: r => zbr (zcmp c x 0) (zoff pc o) (pc + len) lo r h ce sl
      | _ => none
    | .if_icmp c o => match st with
      | .int y :: .int x :: r => zbr (zcmp c x y) (zoff pc o) (pc + len) lo r h ce sl
      | _ => none
    | .ifnull o => match st with
      | .null :: r => zk (zoff pc o) lo r h ce sl
      | .ref _ :: r => zk (pc + len) lo r h ce sl
      | _ => none
    | .tableswitch d a _ offs => match st with
      | .int x :: r => some (true, .inl (offs.toList.mapIdx (fun i o => (decide (x = Int32.ofInt (a + (i : Int))), (zoff pc o, lo, r, h, ce, sl))), (zoff pc d, lo, r, h, ce, sl)))
      | _ => none
    | .lookupswitch d ps => match st with
      | .int x :: r => some (true, .inl (ps.toList.map (fun q => (decide (x = Int32.ofInt q.1), (zoff pc q.2, lo, r, h, ce, sl))), (zoff pc d, lo, r, h, ce, sl)))
      | _ => none
    | .getfield _ => match ns, st with
      | ci :: f :: _, .ref k :: r => zg (zisC h k ci) (pc + len) lo (zfv h (zty ci f) k f :: r) h ce sl
      | _, _ => none
    | .putfield _ => match ns, st with
      | ci :: f :: _, v :: .ref k :: r => match zput h (zty ci f) k f v with
        | some (g, h') => zg (zisC h k ci && g) (pc + len) lo r h' ce sl
        | none => none
      | _, _ => none
    | .iaload => match st with
      | .int i :: .ref k :: r => match zisA h k 0 with
        | some n => zg (zin i n) (pc + len) lo (.int (h.2.1 k i.toNatClampNeg) :: r) h ce sl
        | none => none
      | _ => none
    | .baload => match st with
      | .int i :: .ref k :: r => match zlen h k with
        | some n => zg (zin i n && ((zisA h k 2).isSome || (zisA h k 3).isSome)) (pc + len) lo (.int (h.2.1 k i.toNatClampNeg) :: r) h ce sl
        | none => none
      | _ => none
    | .laload => match st with
      | .int i :: .ref k :: r => match zisA h k 1 with
        | some n => zg (zin i n) (pc + len) lo (.long (h.2.2.1 k i.toNatClampNeg) :: r) h ce sl
        | none => none
      | _ => none
    | .aaload => match st with
      | .int i :: .ref k :: r => match zisA h k 4 with
        | some n => zg (zin i n) (pc + len) lo (va_rf (h.2.2.2 k i.toNatClampNeg) :: r) h ce sl
        | none => none
      | _ => none
    | .iastore => match st with
      | .int x :: .int i :: .ref k :: r => match zisA h k 0 with
        | some n => zg (zin i n) (pc + len) lo r (h.1, zup h.2.1 k i.toNatClampNeg x, h.2.2.1, h.2.2.2) ce sl
        | none => none
      | _ => none
    | .bastore => match st with
      | .int x :: .int i :: .ref k :: r => match znth h.1 k with
        | some (.inr (2, n)) => zg (zin i n) (pc + len) lo r (h.1, zup h.2.1 k i.toNatClampNeg (vp_nar .byte x), h.2.2.1, h.2.2.2) ce sl
        | some (.inr (3, n)) => zg (zin i n) (pc + len) lo r (h.1, zup h.2.1 k i.toNatClampNeg (vp_nar .boolean x), h.2.2.1, h.2.2.2) ce sl
        | _ => none
      | _ => none
    | .lastore => match st with
      | .long x :: .int i :: .ref k :: r => match zisA h k 1 with
        | some n => zg (zin i n) (pc + len) lo r (h.1, h.2.1, zup h.2.2.1 k i.toNatClampNeg x, h.2.2.2) ce sl
        | none => none
      | _ => none
    | .aastore => match st with
      | .ref x :: .int i :: .ref k :: r => match zisA h k 4 with
        | some n => zg (zin i n && zisC h x 5) (pc + len) lo r (h.1, h.2.1, h.2.2.1, zup h.2.2.2 k i.toNatClampNeg (some x)) ce sl
        | none => none
      | _ => none
    | .arraylength => match st with
      | .ref k :: r => match zlen h k with
        | some n => zk (pc + len) lo (.int (nI n) :: r) h ce sl
        | none => none
      | _ => none
    | .newarray a => match st with
      | .int n :: r => match zatk a with
        | some t => zg (!decide (n < 0) && Nat.ble n.toNatClampNeg 65536 && Nat.ble (ce + 1) (zrm M).cells && Nat.ble (sl + n.toNatClampNeg) (zrm M).slots) (pc + len) lo (.ref h.1.length :: r) (znewa h t n.toNatClampNeg) (ce + 1) (sl + n.toNatClampNeg)
        | none => none
      | _ => none
    | .anewarray _ => match st with
      | .int n :: r => zg (!decide (n < 0) && Nat.ble n.toNatClampNeg 65536 && Nat.ble (ce + 1) (zrm M).cells && Nat.ble (sl + n.toNatClampNeg) (zrm M).slots) (pc + len) lo (.ref h.1.length :: r) (znewa h 4 n.toNatClampNeg) (ce + 1) (sl + n.toNatClampNeg)
      | _ => none
    | .new _ => match ns with
      | ci :: _ => zg (Nat.ble (ce + 1) (zrm M).cells && Nat.ble (sl + zN ci) (zrm M).slots) (pc + len) lo (.ref h.1.length :: st) (znewo h ci) (ce + 1) (sl + zN ci)
      | _ => none
    | .invokevirtual _ => zinv (zrm M) ns lo (pc + len) st h ce sl
    | .invokespecial _ => zinv (zrm M) ns lo (pc + len) st h ce sl
    | .invokestatic _ => zinv (zrm M) ns lo (pc + len) st h ce sl
    | .ireturn => match st, zret M with
      | [.int x], some ty => some (znar ty x && Nat.ble ce (zrm M).cells && Nat.ble sl (zrm M).slots, .inr (.inl (some (.int x), h, ce, sl)))
      | _, _ => none
    | .lreturn => match st, zret M with
      | [.long x], some .long => some (Nat.ble ce (zrm M).cells && Nat.ble sl (zrm M).slots, .inr (.inl (some (.long x), h, ce, sl)))
      | _, _ => none
    | .areturn => match st, zret M with
      | [.ref x], some (.object _) => some (Nat.ble ce (zrm M).cells && Nat.ble sl (zrm M).slots, .inr (.inl (some (.ref x), h, ce, sl)))
      | _, _ => none
    | .return_ => match st, zret M with
      | [], none => some (Nat.ble ce (zrm M).cells && Nat.ble sl (zrm M).slots, .inr (.inl (none, h, ce, sl)))
      | _, _ => none
    | _ => none
def zsw {ρ : Type} : List (Bool × zS) → (zS → ρ) → zS → ρ
  | [], f, d => f d
  | (b, s) :: r, f, d => cond b (f s) (zsw r f d)
/-- what comes of a step, by what comes of the states behind it and of calls -/
def zthen (F : zS → Option zRes) (G : Nat → List Value → zH → Option (Option Value × zH)) (x : Option (Bool × zO)) : Option zRes := match x with
  | none => none
  | some (g, o) => cond g (match o with
    | .inl (bs, S') => zsw bs F S'
    | .inr (.inl r) => some r
    | .inr (.inr (y, as, (pc, lo, st, h, ce, sl))) => (G y as h).bind (fun q => F (pc, lo, q.1.toList ++ st, q.2, ce, sl))) none
def zent (M : zMeth) (as : List Value) (h : zH) : zS := (0, zpad (zargs as) (zml M), [], h, 0, 0)
section ZEX
variable (Z : Nat → zMeth)
def zex : Nat → zMeth → zS → Option zRes
  | 0, _, _ => none
  | n + 1, M, S => zthen (zex n M) (fun y as h => (zex n (Z y) (zent (Z y) as h)).map (fun r => (r.1, r.2.1))) (zstep M S)
theorem zsw_map {ρ : Type} (F F' : zS → Option ρ) (hF : ∀ S r, F S = some r → F' S = some r) : ∀ (bs : List (Bool × zS)) (d : zS) (r : ρ), zsw bs F d = some r → zsw bs F' d = some r
  | [], d, r, h => hF d r h
  | (true, s) :: _, _, r, h => hF s r h
  | (false, _) :: bs, d, r, h => zsw_map F F' hF bs d r h
theorem zthen_mono {F F' : zS → Option zRes} {G G' : Nat → List Value → zH → Option (Option Value × zH)} (hF : ∀ S r, F S = some r → F' S = some r) (hG : ∀ y as h r, G y as h = some r → G' y as h = some r) (x : Option (Bool × zO)) (r : zRes) (h : zthen F G x = some r) : zthen F' G' x = some r := by
  match x with
  | none => exact h
  | some (false, _) => exact h
  | some (true, .inl (bs, S')) => exact zsw_map F F' hF bs S' r h
  | some (true, .inr (.inl r')) => exact h
  | some (true, .inr (.inr (y, as, (pc, lo, st, hh, ce, sl)))) =>
    have h1 : (G y as hh).bind (fun q => F (pc, lo, q.1.toList ++ st, q.2, ce, sl)) = some r := h
    show (G' y as hh).bind (fun q => F' (pc, lo, q.1.toList ++ st, q.2, ce, sl)) = some r
    obtain ⟨q, h2, h3⟩ := Option.bind_eq_some_iff.mp h1
    exact Option.bind_eq_some_iff.mpr ⟨q, hG _ _ _ _ h2, hF _ _ h3⟩
theorem zex_succ (n : Nat) : ∀ (M : zMeth) (S : zS) (r : zRes), zex Z n M S = some r → zex Z (n + 1) M S = some r := by
  induction n with
  | zero => intro M S r h; cases h
  | succ n ih =>
    intro M S r h
    refine zthen_mono (F := zex Z n M) (fun S r h => ih M S r h) (fun y as hh q h => ?_) (zstep M S) r h
    obtain ⟨r', h1, h2⟩ := Option.map_eq_some_iff.mp h
    exact Option.map_eq_some_iff.mpr ⟨r', ih _ _ _ h1, h2⟩
theorem zex_le {n k : Nat} (hk : n ≤ k) {M : zMeth} {S : zS} {r : zRes} (h : zex Z n M S = some r) : zex Z k M S = some r := by
  induction hk with
  | refl => exact h
  | step _ ih => exact zex_succ Z _ _ _ _ ih
noncomputable def zrun (M : zMeth) (S : zS) : Option zRes := Classical.epsilon (fun o : Option zRes => (∃ n, zex Z n M S = o ∧ o ≠ none) ∨ ((∀ n, zex Z n M S = none) ∧ o = none))
theorem zrun_spec (M : zMeth) (S : zS) : (∃ n, zex Z n M S = zrun Z M S ∧ zrun Z M S ≠ none) ∨ ((∀ n, zex Z n M S = none) ∧ zrun Z M S = none) := by
  refine Classical.epsilon_spec (p := fun o : Option zRes => (∃ n, zex Z n M S = o ∧ o ≠ none) ∨ ((∀ n, zex Z n M S = none) ∧ o = none)) ?_
  by_cases h : ∃ n, zex Z n M S ≠ none
  · obtain ⟨n, hn⟩ := h
    exact ⟨_, Or.inl ⟨n, rfl, hn⟩⟩
  · exact ⟨none, Or.inr ⟨fun n => Classical.byContradiction fun q => h ⟨n, q⟩, rfl⟩⟩
theorem zrun_some {M : zMeth} {S : zS} {r : zRes} : zrun Z M S = some r ↔ ∃ n, zex Z n M S = some r := by
  constructor
  · intro h
    rcases zrun_spec Z M S with ⟨n, h1, -⟩ | ⟨-, h2⟩
    · exact ⟨n, h1.trans h⟩
    · rw [h] at h2; cases h2
  · rintro ⟨n, hn⟩
    rcases zrun_spec Z M S with ⟨k, h1, h2⟩ | ⟨h1, -⟩
    · cases hz : zrun Z M S with
      | none => exact absurd hz h2
      | some r' =>
        rw [hz] at h1
        have a := zex_le Z (Nat.le_max_left n k) hn
        have b := zex_le Z (Nat.le_max_right n k) h1
        exact (b.symm.trans a)
    · rw [h1 n] at hn; cases hn
noncomputable def zcall (y : Nat) (as : List Value) (h : zH) : Option (Option Value × zH) := (zrun Z (Z y) (zent (Z y) as h)).map (fun r => (r.1, r.2.1))
theorem zcall_some {y : Nat} {as : List Value} {h : zH} {q : Option Value × zH} : zcall Z y as h = some q ↔ ∃ n ce sl, zex Z n (Z y) (zent (Z y) as h) = some (q.1, q.2, ce, sl) := by
  constructor
  · intro hc
    obtain ⟨r, h1, h2⟩ := Option.map_eq_some_iff.mp hc
    obtain ⟨n, hn⟩ := (zrun_some Z).mp h1
    subst h2
    exact ⟨n, r.2.2.1, r.2.2.2, hn⟩
  · rintro ⟨n, ce, sl, hn⟩
    exact Option.map_eq_some_iff.mpr ⟨_, (zrun_some Z).mpr ⟨n, hn⟩, rfl⟩
theorem zopt_ext {α : Type} {a b : Option α} (h : ∀ r, a = some r ↔ b = some r) : a = b := by
  cases a with
  | none => cases b with
    | none => rfl
    | some y => exact ((h y).mpr rfl)
  | some x => exact ((h x).mp rfl).symm
theorem zsw_fin {ρ : Type} (f : Nat → zS → Option ρ) (F : zS → Option ρ) (hF : ∀ S r, F S = some r → ∃ n, f n S = some r) : ∀ (bs : List (Bool × zS)) (d : zS) (r : ρ), zsw bs F d = some r → ∃ n, zsw bs (f n) d = some r
  | [], d, r, h => hF d r h
  | (true, s) :: _, _, r, h => hF s r h
  | (false, _) :: bs, d, r, h => zsw_fin f F hF bs d r h
theorem zrun_step (M : zMeth) (S : zS) : zrun Z M S = zthen (zrun Z M) (zcall Z) (zstep M S) := by
  refine zopt_ext fun r => ⟨fun h => ?_, fun h => ?_⟩
  · obtain ⟨n, hn⟩ := (zrun_some Z).mp h
    cases n with
    | zero => cases hn
    | succ n =>
      refine zthen_mono (F := zex Z n M) (fun S r h => (zrun_some Z).mpr ⟨n, h⟩) (fun y as hh q h => ?_) (zstep M S) r hn
      obtain ⟨r', h1, h2⟩ := Option.map_eq_some_iff.mp h
      exact Option.map_eq_some_iff.mpr ⟨r', (zrun_some Z).mpr ⟨n, h1⟩, h2⟩
  · refine (zrun_some Z).mpr ?_
    match hs : zstep M S with
    | none => rw [hs] at h; cases h
    | some (false, _) => rw [hs] at h; cases h
    | some (true, .inl (bs, S')) =>
      rw [hs] at h
      obtain ⟨n, hn⟩ := zsw_fin (fun n => zex Z n M) (zrun Z M) (fun S r h => (zrun_some Z).mp h) bs S' r h
      refine ⟨n + 1, ?_⟩
      show zthen _ _ (zstep M S) = some r
      rw [hs]
      exact hn
    | some (true, .inr (.inl r')) =>
      rw [hs] at h
      refine ⟨1, ?_⟩
      show zthen _ _ (zstep M S) = some r
      rw [hs]
      exact h
    | some (true, .inr (.inr (y, as, (pc, lo, st, hh, ce, sl)))) =>
      rw [hs] at h
      have h1 : (zcall Z y as hh).bind (fun q => zrun Z M (pc, lo, q.1.toList ++ st, q.2, ce, sl)) = some r := h
      obtain ⟨q, h2, h3⟩ := Option.bind_eq_some_iff.mp h1
      obtain ⟨n, c1, s1, hn⟩ := (zcall_some Z).mp h2
      obtain ⟨k, hk⟩ := (zrun_some Z).mp h3
      refine ⟨max n k + 1, ?_⟩
      show zthen _ _ (zstep M S) = some r
      rw [hs]
      show Option.bind _ _ = some r
      refine Option.bind_eq_some_iff.mpr ⟨q, Option.map_eq_some_iff.mpr ⟨_, zex_le Z (Nat.le_max_left n k) hn, rfl⟩, zex_le Z (Nat.le_max_right n k) hk⟩
/-- k steps of a run, as far as calls -/
noncomputable def zgo (M : zMeth) : Nat → zS → Option zRes
  | 0, S => zrun Z M S
  | k + 1, S => match zstep M S with
    | none => none
    | some (g, o) => cond g (match o with
      | .inl (bs, S') => zsw bs (zgo M k) S'
      | .inr (.inl r) => some r
      | .inr (.inr (y, as, (pc, lo, st, h, ce, sl))) => (zcall Z y as h).bind (fun q => zrun Z M (pc, lo, q.1.toList ++ st, q.2, ce, sl))) none
theorem zrun_go (k : Nat) : ∀ (M : zMeth) (S : zS), zrun Z M S = zgo Z M k S := by
  induction k with
  | zero => intro M S; rfl
  | succ k ih =>
    intro M S
    rw [zrun_step]
    have hF : zgo Z M k = zrun Z M := funext fun S => (ih M S).symm
    show _ = (match zstep M S with
    | none => none
    | some (g, o) => cond g (match o with
      | .inl (bs, S') => zsw bs (zgo Z M k) S'
      | .inr (.inl r) => some r
      | .inr (.inr (y, as, (pc, lo, st, h, ce, sl))) => (zcall Z y as h).bind (fun q => zrun Z M (pc, lo, q.1.toList ++ st, q.2, ce, sl))) none)
    rw [hF]
    match zstep M S with
    | none => rfl
    | some (g, .inl (bs, S')) => rfl
    | some (g, .inr (.inl r)) => rfl
    | some (g, .inr (.inr (y, as, (pc, lo, st, h, ce, sl)))) => rfl
end ZEX
end
