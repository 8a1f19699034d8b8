section
-- ===== PART A: goes FIRST, ahead of the names: the tables' words, and 'selects' of the private methods out of them =====
/-- a private method of a class that the tables say can be made, by its rows of tables_1 -/
def lw_okq (q : MethodName × Nat) : Prop := (q.1.cls ≠ "java/lang/invoke/MethodHandle" ∧ q.1.cls ≠ "java/lang/invoke/VarHandle") ∧ Cond.instantiable q.1.cls q.2 ∈ tables_1 ∧ Cond.privateMethod q.1 ∈ tables_1 ∧ Cond.instanceMethod q.1 ∈ tables_1
theorem lw_p0 : lw_okq (⟨"IndicatorDiagram", "recordState", "()V"⟩, 7) := ⟨⟨by decide +kernel, by decide +kernel⟩, List.mem_of_getElem? (i := 10) (by decide +kernel), List.mem_of_getElem? (i := 183) (by decide +kernel), List.mem_of_getElem? (i := 184) (by decide +kernel)⟩
theorem lw_p1 : lw_okq (⟨"IndicatorDiagram", "dropOldestState", "()V"⟩, 7) := ⟨⟨by decide +kernel, by decide +kernel⟩, List.mem_of_getElem? (i := 10) (by decide +kernel), List.mem_of_getElem? (i := 187) (by decide +kernel), List.mem_of_getElem? (i := 188) (by decide +kernel)⟩
theorem lw_p2 : lw_okq (⟨"IndicatorDiagram", "addCard", "(LIndicatorDiagram$Card;)I"⟩, 7) := ⟨⟨by decide +kernel, by decide +kernel⟩, List.mem_of_getElem? (i := 10) (by decide +kernel), List.mem_of_getElem? (i := 304) (by decide +kernel), List.mem_of_getElem? (i := 305) (by decide +kernel)⟩
theorem lw_p3 : lw_okq (⟨"IndicatorDiagram", "drawIdealCard", "(LIndicatorDiagram$Card;LIndicatorDiagram$Events;I)V"⟩, 7) := ⟨⟨by decide +kernel, by decide +kernel⟩, List.mem_of_getElem? (i := 10) (by decide +kernel), List.mem_of_getElem? (i := 318) (by decide +kernel), List.mem_of_getElem? (i := 319) (by decide +kernel)⟩
theorem lw_p4 : lw_okq (⟨"IndicatorDiagram", "drawIdealOutward", "([ILIndicatorDiagram$Events;I)V"⟩, 7) := ⟨⟨by decide +kernel, by decide +kernel⟩, List.mem_of_getElem? (i := 10) (by decide +kernel), List.mem_of_getElem? (i := 322) (by decide +kernel), List.mem_of_getElem? (i := 323) (by decide +kernel)⟩
theorem lw_p5 : lw_okq (⟨"IndicatorDiagram", "drawIdealReturn", "([ILIndicatorDiagram$Events;)V"⟩, 7) := ⟨⟨by decide +kernel, by decide +kernel⟩, List.mem_of_getElem? (i := 10) (by decide +kernel), List.mem_of_getElem? (i := 330) (by decide +kernel), List.mem_of_getElem? (i := 331) (by decide +kernel)⟩
theorem lw_p6 : lw_okq (⟨"IndicatorDiagram", "isCard", "(I)Z"⟩, 7) := ⟨⟨by decide +kernel, by decide +kernel⟩, List.mem_of_getElem? (i := 10) (by decide +kernel), List.mem_of_getElem? (i := 338) (by decide +kernel), List.mem_of_getElem? (i := 339) (by decide +kernel)⟩
theorem lw_p7 : lw_okq (⟨"IndicatorDiagram", "powerOfCard", "(LIndicatorDiagram$Card;)J"⟩, 7) := ⟨⟨by decide +kernel, by decide +kernel⟩, List.mem_of_getElem? (i := 10) (by decide +kernel), List.mem_of_getElem? (i := 420) (by decide +kernel), List.mem_of_getElem? (i := 421) (by decide +kernel)⟩
theorem lw_p8 : lw_okq (⟨"IndicatorDiagram", "powerFrom", "(III)J"⟩, 7) := ⟨⟨by decide +kernel, by decide +kernel⟩, List.mem_of_getElem? (i := 10) (by decide +kernel), List.mem_of_getElem? (i := 424) (by decide +kernel), List.mem_of_getElem? (i := 425) (by decide +kernel)⟩
theorem lw_p9 : lw_okq (⟨"IndicatorDiagram", "findEvents", "(LIndicatorDiagram$Card;)V"⟩, 7) := ⟨⟨by decide +kernel, by decide +kernel⟩, List.mem_of_getElem? (i := 10) (by decide +kernel), List.mem_of_getElem? (i := 440) (by decide +kernel), List.mem_of_getElem? (i := 441) (by decide +kernel)⟩
theorem lw_p10 : lw_okq (⟨"IndicatorDiagram", "findAdmission", "([I)I"⟩, 7) := ⟨⟨by decide +kernel, by decide +kernel⟩, List.mem_of_getElem? (i := 10) (by decide +kernel), List.mem_of_getElem? (i := 444) (by decide +kernel), List.mem_of_getElem? (i := 445) (by decide +kernel)⟩
theorem lw_p11 : lw_okq (⟨"IndicatorDiagram", "findCutOff", "([II)I"⟩, 7) := ⟨⟨by decide +kernel, by decide +kernel⟩, List.mem_of_getElem? (i := 10) (by decide +kernel), List.mem_of_getElem? (i := 452) (by decide +kernel), List.mem_of_getElem? (i := 453) (by decide +kernel)⟩
theorem lw_p12 : lw_okq (⟨"IndicatorDiagram", "findRelease", "(LIndicatorDiagram$Card;I)I"⟩, 7) := ⟨⟨by decide +kernel, by decide +kernel⟩, List.mem_of_getElem? (i := 10) (by decide +kernel), List.mem_of_getElem? (i := 456) (by decide +kernel), List.mem_of_getElem? (i := 457) (by decide +kernel)⟩
theorem lw_p13 : lw_okq (⟨"IndicatorDiagram", "constantAt", "(LIndicatorDiagram$Card;I)I"⟩, 7) := ⟨⟨by decide +kernel, by decide +kernel⟩, List.mem_of_getElem? (i := 10) (by decide +kernel), List.mem_of_getElem? (i := 460) (by decide +kernel), List.mem_of_getElem? (i := 461) (by decide +kernel)⟩
theorem lw_p14 : lw_okq (⟨"IndicatorDiagram", "findCompression", "([I)I"⟩, 7) := ⟨⟨by decide +kernel, by decide +kernel⟩, List.mem_of_getElem? (i := 10) (by decide +kernel), List.mem_of_getElem? (i := 464) (by decide +kernel), List.mem_of_getElem? (i := 465) (by decide +kernel)⟩
theorem lw_p15 : lw_okq (⟨"IndicatorDiagram", "foundLateness", "(LIndicatorDiagram$Events;I)I"⟩, 7) := ⟨⟨by decide +kernel, by decide +kernel⟩, List.mem_of_getElem? (i := 10) (by decide +kernel), List.mem_of_getElem? (i := 476) (by decide +kernel), List.mem_of_getElem? (i := 477) (by decide +kernel)⟩
def lw_privs_1 : List (MethodName × Nat) := [(⟨"IndicatorDiagram", "recordState", "()V"⟩, 7), (⟨"IndicatorDiagram", "dropOldestState", "()V"⟩, 7), (⟨"IndicatorDiagram", "addCard", "(LIndicatorDiagram$Card;)I"⟩, 7), (⟨"IndicatorDiagram", "drawIdealCard", "(LIndicatorDiagram$Card;LIndicatorDiagram$Events;I)V"⟩, 7), (⟨"IndicatorDiagram", "drawIdealOutward", "([ILIndicatorDiagram$Events;I)V"⟩, 7), (⟨"IndicatorDiagram", "drawIdealReturn", "([ILIndicatorDiagram$Events;)V"⟩, 7), (⟨"IndicatorDiagram", "isCard", "(I)Z"⟩, 7), (⟨"IndicatorDiagram", "powerOfCard", "(LIndicatorDiagram$Card;)J"⟩, 7), (⟨"IndicatorDiagram", "powerFrom", "(III)J"⟩, 7), (⟨"IndicatorDiagram", "findEvents", "(LIndicatorDiagram$Card;)V"⟩, 7), (⟨"IndicatorDiagram", "findAdmission", "([I)I"⟩, 7), (⟨"IndicatorDiagram", "findCutOff", "([II)I"⟩, 7), (⟨"IndicatorDiagram", "findRelease", "(LIndicatorDiagram$Card;I)I"⟩, 7), (⟨"IndicatorDiagram", "constantAt", "(LIndicatorDiagram$Card;I)I"⟩, 7), (⟨"IndicatorDiagram", "findCompression", "([I)I"⟩, 7), (⟨"IndicatorDiagram", "foundLateness", "(LIndicatorDiagram$Events;I)I"⟩, 7)]
theorem lw_r1 : ∀ q ∈ lw_privs_1, lw_okq q := List.forall_mem_cons.mpr ⟨lw_p0, List.forall_mem_cons.mpr ⟨lw_p1, List.forall_mem_cons.mpr ⟨lw_p2, List.forall_mem_cons.mpr ⟨lw_p3, List.forall_mem_cons.mpr ⟨lw_p4, List.forall_mem_cons.mpr ⟨lw_p5, List.forall_mem_cons.mpr ⟨lw_p6, List.forall_mem_cons.mpr ⟨lw_p7, List.forall_mem_cons.mpr ⟨lw_p8, List.forall_mem_cons.mpr ⟨lw_p9, List.forall_mem_cons.mpr ⟨lw_p10, List.forall_mem_cons.mpr ⟨lw_p11, List.forall_mem_cons.mpr ⟨lw_p12, List.forall_mem_cons.mpr ⟨lw_p13, List.forall_mem_cons.mpr ⟨lw_p14, List.forall_mem_cons.mpr ⟨lw_p15, fun _ h => absurd h List.not_mem_nil⟩⟩⟩⟩⟩⟩⟩⟩⟩⟩⟩⟩⟩⟩⟩⟩
theorem lw_p16 : lw_okq (⟨"IndicatorDiagram", "deviationFrom", "(LIndicatorDiagram$Events;I)I"⟩, 7) := ⟨⟨by decide +kernel, by decide +kernel⟩, List.mem_of_getElem? (i := 10) (by decide +kernel), List.mem_of_getElem? (i := 484) (by decide +kernel), List.mem_of_getElem? (i := 485) (by decide +kernel)⟩
theorem lw_p17 : lw_okq (⟨"IndicatorDiagram", "countCards", "(I)I"⟩, 7) := ⟨⟨by decide +kernel, by decide +kernel⟩, List.mem_of_getElem? (i := 10) (by decide +kernel), List.mem_of_getElem? (i := 504) (by decide +kernel), List.mem_of_getElem? (i := 505) (by decide +kernel)⟩
theorem lw_p18 : lw_okq (⟨"IndicatorDiagram", "drawMeanPressures", "(II)V"⟩, 7) := ⟨⟨by decide +kernel, by decide +kernel⟩, List.mem_of_getElem? (i := 10) (by decide +kernel), List.mem_of_getElem? (i := 512) (by decide +kernel), List.mem_of_getElem? (i := 513) (by decide +kernel)⟩
theorem lw_p19 : lw_okq (⟨"IndicatorDiagram", "meanOfPowers", "(I)J"⟩, 7) := ⟨⟨by decide +kernel, by decide +kernel⟩, List.mem_of_getElem? (i := 10) (by decide +kernel), List.mem_of_getElem? (i := 521) (by decide +kernel), List.mem_of_getElem? (i := 522) (by decide +kernel)⟩
theorem lw_p20 : lw_okq (⟨"IndicatorDiagram", "medianArea", "(I)I"⟩, 7) := ⟨⟨by decide +kernel, by decide +kernel⟩, List.mem_of_getElem? (i := 10) (by decide +kernel), List.mem_of_getElem? (i := 537) (by decide +kernel), List.mem_of_getElem? (i := 538) (by decide +kernel)⟩
theorem lw_p21 : lw_okq (⟨"IndicatorDiagram", "insertSorted", "(II)V"⟩, 7) := ⟨⟨by decide +kernel, by decide +kernel⟩, List.mem_of_getElem? (i := 10) (by decide +kernel), List.mem_of_getElem? (i := 541) (by decide +kernel), List.mem_of_getElem? (i := 542) (by decide +kernel)⟩
theorem lw_p22 : lw_okq (⟨"IndicatorDiagram", "areaWithCutOff", "(II)I"⟩, 7) := ⟨⟨by decide +kernel, by decide +kernel⟩, List.mem_of_getElem? (i := 10) (by decide +kernel), List.mem_of_getElem? (i := 552) (by decide +kernel), List.mem_of_getElem? (i := 553) (by decide +kernel)⟩
theorem lw_p23 : lw_okq (⟨"IndicatorDiagram", "nearestCutOff", "(IJZ)I"⟩, 7) := ⟨⟨by decide +kernel, by decide +kernel⟩, List.mem_of_getElem? (i := 10) (by decide +kernel), List.mem_of_getElem? (i := 562) (by decide +kernel), List.mem_of_getElem? (i := 563) (by decide +kernel)⟩
theorem lw_p24 : lw_okq (⟨"IndicatorDiagram", "powerWithCutOff", "(II)J"⟩, 7) := ⟨⟨by decide +kernel, by decide +kernel⟩, List.mem_of_getElem? (i := 10) (by decide +kernel), List.mem_of_getElem? (i := 567) (by decide +kernel), List.mem_of_getElem? (i := 568) (by decide +kernel)⟩
theorem lw_p25 : lw_okq (⟨"IndicatorDiagramModel", "copy", "(II)V"⟩, 2) := ⟨⟨by decide +kernel, by decide +kernel⟩, List.mem_of_getElem? (i := 583) (by decide +kernel), List.mem_of_getElem? (i := 605) (by decide +kernel), List.mem_of_getElem? (i := 606) (by decide +kernel)⟩
theorem lw_p26 : lw_okq (⟨"IndicatorDiagramModel", "put", "(IZI)I"⟩, 2) := ⟨⟨by decide +kernel, by decide +kernel⟩, List.mem_of_getElem? (i := 583) (by decide +kernel), List.mem_of_getElem? (i := 616) (by decide +kernel), List.mem_of_getElem? (i := 617) (by decide +kernel)⟩
theorem lw_p27 : lw_okq (⟨"IndicatorDiagramModel", "record", "()V"⟩, 2) := ⟨⟨by decide +kernel, by decide +kernel⟩, List.mem_of_getElem? (i := 583) (by decide +kernel), List.mem_of_getElem? (i := 621) (by decide +kernel), List.mem_of_getElem? (i := 622) (by decide +kernel)⟩
theorem lw_p28 : lw_okq (⟨"IndicatorDiagramModel", "points", "(I)I"⟩, 2) := ⟨⟨by decide +kernel, by decide +kernel⟩, List.mem_of_getElem? (i := 583) (by decide +kernel), List.mem_of_getElem? (i := 664) (by decide +kernel), List.mem_of_getElem? (i := 665) (by decide +kernel)⟩
theorem lw_p29 : lw_okq (⟨"IndicatorDiagramModel", "drafted", "(II)I"⟩, 2) := ⟨⟨by decide +kernel, by decide +kernel⟩, List.mem_of_getElem? (i := 583) (by decide +kernel), List.mem_of_getElem? (i := 673) (by decide +kernel), List.mem_of_getElem? (i := 674) (by decide +kernel)⟩
theorem lw_p30 : lw_okq (⟨"IndicatorDiagramModel", "addCard", "(II)I"⟩, 2) := ⟨⟨by decide +kernel, by decide +kernel⟩, List.mem_of_getElem? (i := 583) (by decide +kernel), List.mem_of_getElem? (i := 680) (by decide +kernel), List.mem_of_getElem? (i := 681) (by decide +kernel)⟩
theorem lw_p31 : lw_okq (⟨"IndicatorDiagramModel", "valveOf", "(II)I"⟩, 2) := ⟨⟨by decide +kernel, by decide +kernel⟩, List.mem_of_getElem? (i := 583) (by decide +kernel), List.mem_of_getElem? (i := 694) (by decide +kernel), List.mem_of_getElem? (i := 695) (by decide +kernel)⟩
def lw_privs_2 : List (MethodName × Nat) := [(⟨"IndicatorDiagram", "deviationFrom", "(LIndicatorDiagram$Events;I)I"⟩, 7), (⟨"IndicatorDiagram", "countCards", "(I)I"⟩, 7), (⟨"IndicatorDiagram", "drawMeanPressures", "(II)V"⟩, 7), (⟨"IndicatorDiagram", "meanOfPowers", "(I)J"⟩, 7), (⟨"IndicatorDiagram", "medianArea", "(I)I"⟩, 7), (⟨"IndicatorDiagram", "insertSorted", "(II)V"⟩, 7), (⟨"IndicatorDiagram", "areaWithCutOff", "(II)I"⟩, 7), (⟨"IndicatorDiagram", "nearestCutOff", "(IJZ)I"⟩, 7), (⟨"IndicatorDiagram", "powerWithCutOff", "(II)J"⟩, 7), (⟨"IndicatorDiagramModel", "copy", "(II)V"⟩, 2), (⟨"IndicatorDiagramModel", "put", "(IZI)I"⟩, 2), (⟨"IndicatorDiagramModel", "record", "()V"⟩, 2), (⟨"IndicatorDiagramModel", "points", "(I)I"⟩, 2), (⟨"IndicatorDiagramModel", "drafted", "(II)I"⟩, 2), (⟨"IndicatorDiagramModel", "addCard", "(II)I"⟩, 2), (⟨"IndicatorDiagramModel", "valveOf", "(II)I"⟩, 2)]
theorem lw_r2 : ∀ q ∈ lw_privs_2, lw_okq q := List.forall_mem_cons.mpr ⟨lw_p16, List.forall_mem_cons.mpr ⟨lw_p17, List.forall_mem_cons.mpr ⟨lw_p18, List.forall_mem_cons.mpr ⟨lw_p19, List.forall_mem_cons.mpr ⟨lw_p20, List.forall_mem_cons.mpr ⟨lw_p21, List.forall_mem_cons.mpr ⟨lw_p22, List.forall_mem_cons.mpr ⟨lw_p23, List.forall_mem_cons.mpr ⟨lw_p24, List.forall_mem_cons.mpr ⟨lw_p25, List.forall_mem_cons.mpr ⟨lw_p26, List.forall_mem_cons.mpr ⟨lw_p27, List.forall_mem_cons.mpr ⟨lw_p28, List.forall_mem_cons.mpr ⟨lw_p29, List.forall_mem_cons.mpr ⟨lw_p30, List.forall_mem_cons.mpr ⟨lw_p31, fun _ h => absurd h List.not_mem_nil⟩⟩⟩⟩⟩⟩⟩⟩⟩⟩⟩⟩⟩⟩⟩⟩
theorem lw_p32 : lw_okq (⟨"IndicatorDiagramModel", "draw", "(IIIII)V"⟩, 2) := ⟨⟨by decide +kernel, by decide +kernel⟩, List.mem_of_getElem? (i := 583) (by decide +kernel), List.mem_of_getElem? (i := 698) (by decide +kernel), List.mem_of_getElem? (i := 699) (by decide +kernel)⟩
theorem lw_p33 : lw_okq (⟨"IndicatorDiagramModel", "volume", "(I)I"⟩, 2) := ⟨⟨by decide +kernel, by decide +kernel⟩, List.mem_of_getElem? (i := 583) (by decide +kernel), List.mem_of_getElem? (i := 702) (by decide +kernel), List.mem_of_getElem? (i := 703) (by decide +kernel)⟩
theorem lw_p34 : lw_okq (⟨"IndicatorDiagramModel", "isCard", "(I)Z"⟩, 2) := ⟨⟨by decide +kernel, by decide +kernel⟩, List.mem_of_getElem? (i := 583) (by decide +kernel), List.mem_of_getElem? (i := 711) (by decide +kernel), List.mem_of_getElem? (i := 712) (by decide +kernel)⟩
theorem lw_p35 : lw_okq (⟨"IndicatorDiagramModel", "remove", "(I)V"⟩, 2) := ⟨⟨by decide +kernel, by decide +kernel⟩, List.mem_of_getElem? (i := 583) (by decide +kernel), List.mem_of_getElem? (i := 715) (by decide +kernel), List.mem_of_getElem? (i := 716) (by decide +kernel)⟩
theorem lw_p36 : lw_okq (⟨"IndicatorDiagramModel", "areaAt", "(I)I"⟩, 2) := ⟨⟨by decide +kernel, by decide +kernel⟩, List.mem_of_getElem? (i := 583) (by decide +kernel), List.mem_of_getElem? (i := 739) (by decide +kernel), List.mem_of_getElem? (i := 740) (by decide +kernel)⟩
theorem lw_p37 : lw_okq (⟨"IndicatorDiagramModel", "difference", "(II)I"⟩, 2) := ⟨⟨by decide +kernel, by decide +kernel⟩, List.mem_of_getElem? (i := 583) (by decide +kernel), List.mem_of_getElem? (i := 743) (by decide +kernel), List.mem_of_getElem? (i := 744) (by decide +kernel)⟩
theorem lw_p38 : lw_okq (⟨"IndicatorDiagramModel", "parts", "(IZ)I"⟩, 2) := ⟨⟨by decide +kernel, by decide +kernel⟩, List.mem_of_getElem? (i := 583) (by decide +kernel), List.mem_of_getElem? (i := 751) (by decide +kernel), List.mem_of_getElem? (i := 752) (by decide +kernel)⟩
theorem lw_p39 : lw_okq (⟨"IndicatorDiagramModel", "powerAt", "(I)J"⟩, 2) := ⟨⟨by decide +kernel, by decide +kernel⟩, List.mem_of_getElem? (i := 583) (by decide +kernel), List.mem_of_getElem? (i := 775) (by decide +kernel), List.mem_of_getElem? (i := 776) (by decide +kernel)⟩
theorem lw_p40 : lw_okq (⟨"IndicatorDiagramModel", "powerOf", "(III)J"⟩, 2) := ⟨⟨by decide +kernel, by decide +kernel⟩, List.mem_of_getElem? (i := 583) (by decide +kernel), List.mem_of_getElem? (i := 779) (by decide +kernel), List.mem_of_getElem? (i := 780) (by decide +kernel)⟩
theorem lw_p41 : lw_okq (⟨"IndicatorDiagramModel", "eventOf", "(II)I"⟩, 2) := ⟨⟨by decide +kernel, by decide +kernel⟩, List.mem_of_getElem? (i := 583) (by decide +kernel), List.mem_of_getElem? (i := 789) (by decide +kernel), List.mem_of_getElem? (i := 790) (by decide +kernel)⟩
theorem lw_p42 : lw_okq (⟨"IndicatorDiagramModel", "admission", "(I)I"⟩, 2) := ⟨⟨by decide +kernel, by decide +kernel⟩, List.mem_of_getElem? (i := 583) (by decide +kernel), List.mem_of_getElem? (i := 793) (by decide +kernel), List.mem_of_getElem? (i := 794) (by decide +kernel)⟩
theorem lw_p43 : lw_okq (⟨"IndicatorDiagramModel", "extreme", "(IZ)I"⟩, 2) := ⟨⟨by decide +kernel, by decide +kernel⟩, List.mem_of_getElem? (i := 583) (by decide +kernel), List.mem_of_getElem? (i := 797) (by decide +kernel), List.mem_of_getElem? (i := 798) (by decide +kernel)⟩
theorem lw_p44 : lw_okq (⟨"IndicatorDiagramModel", "cutOff", "(I)I"⟩, 2) := ⟨⟨by decide +kernel, by decide +kernel⟩, List.mem_of_getElem? (i := 583) (by decide +kernel), List.mem_of_getElem? (i := 801) (by decide +kernel), List.mem_of_getElem? (i := 802) (by decide +kernel)⟩
theorem lw_p45 : lw_okq (⟨"IndicatorDiagramModel", "release", "(I)I"⟩, 2) := ⟨⟨by decide +kernel, by decide +kernel⟩, List.mem_of_getElem? (i := 583) (by decide +kernel), List.mem_of_getElem? (i := 805) (by decide +kernel), List.mem_of_getElem? (i := 806) (by decide +kernel)⟩
theorem lw_p46 : lw_okq (⟨"IndicatorDiagramModel", "constantAt", "(II)I"⟩, 2) := ⟨⟨by decide +kernel, by decide +kernel⟩, List.mem_of_getElem? (i := 583) (by decide +kernel), List.mem_of_getElem? (i := 809) (by decide +kernel), List.mem_of_getElem? (i := 810) (by decide +kernel)⟩
theorem lw_p47 : lw_okq (⟨"IndicatorDiagramModel", "compression", "(I)I"⟩, 2) := ⟨⟨by decide +kernel, by decide +kernel⟩, List.mem_of_getElem? (i := 583) (by decide +kernel), List.mem_of_getElem? (i := 813) (by decide +kernel), List.mem_of_getElem? (i := 814) (by decide +kernel)⟩
def lw_privs_3 : List (MethodName × Nat) := [(⟨"IndicatorDiagramModel", "draw", "(IIIII)V"⟩, 2), (⟨"IndicatorDiagramModel", "volume", "(I)I"⟩, 2), (⟨"IndicatorDiagramModel", "isCard", "(I)Z"⟩, 2), (⟨"IndicatorDiagramModel", "remove", "(I)V"⟩, 2), (⟨"IndicatorDiagramModel", "areaAt", "(I)I"⟩, 2), (⟨"IndicatorDiagramModel", "difference", "(II)I"⟩, 2), (⟨"IndicatorDiagramModel", "parts", "(IZ)I"⟩, 2), (⟨"IndicatorDiagramModel", "powerAt", "(I)J"⟩, 2), (⟨"IndicatorDiagramModel", "powerOf", "(III)J"⟩, 2), (⟨"IndicatorDiagramModel", "eventOf", "(II)I"⟩, 2), (⟨"IndicatorDiagramModel", "admission", "(I)I"⟩, 2), (⟨"IndicatorDiagramModel", "extreme", "(IZ)I"⟩, 2), (⟨"IndicatorDiagramModel", "cutOff", "(I)I"⟩, 2), (⟨"IndicatorDiagramModel", "release", "(I)I"⟩, 2), (⟨"IndicatorDiagramModel", "constantAt", "(II)I"⟩, 2), (⟨"IndicatorDiagramModel", "compression", "(I)I"⟩, 2)]
theorem lw_r3 : ∀ q ∈ lw_privs_3, lw_okq q := List.forall_mem_cons.mpr ⟨lw_p32, List.forall_mem_cons.mpr ⟨lw_p33, List.forall_mem_cons.mpr ⟨lw_p34, List.forall_mem_cons.mpr ⟨lw_p35, List.forall_mem_cons.mpr ⟨lw_p36, List.forall_mem_cons.mpr ⟨lw_p37, List.forall_mem_cons.mpr ⟨lw_p38, List.forall_mem_cons.mpr ⟨lw_p39, List.forall_mem_cons.mpr ⟨lw_p40, List.forall_mem_cons.mpr ⟨lw_p41, List.forall_mem_cons.mpr ⟨lw_p42, List.forall_mem_cons.mpr ⟨lw_p43, List.forall_mem_cons.mpr ⟨lw_p44, List.forall_mem_cons.mpr ⟨lw_p45, List.forall_mem_cons.mpr ⟨lw_p46, List.forall_mem_cons.mpr ⟨lw_p47, fun _ h => absurd h List.not_mem_nil⟩⟩⟩⟩⟩⟩⟩⟩⟩⟩⟩⟩⟩⟩⟩⟩
theorem lw_p48 : lw_okq (⟨"IndicatorDiagramModel", "latenessOf", "(II)I"⟩, 2) := ⟨⟨by decide +kernel, by decide +kernel⟩, List.mem_of_getElem? (i := 583) (by decide +kernel), List.mem_of_getElem? (i := 821) (by decide +kernel), List.mem_of_getElem? (i := 822) (by decide +kernel)⟩
theorem lw_p49 : lw_okq (⟨"IndicatorDiagramModel", "offBy", "(II)I"⟩, 2) := ⟨⟨by decide +kernel, by decide +kernel⟩, List.mem_of_getElem? (i := 583) (by decide +kernel), List.mem_of_getElem? (i := 829) (by decide +kernel), List.mem_of_getElem? (i := 830) (by decide +kernel)⟩
theorem lw_p50 : lw_okq (⟨"IndicatorDiagramModel", "many", "(I)I"⟩, 2) := ⟨⟨by decide +kernel, by decide +kernel⟩, List.mem_of_getElem? (i := 583) (by decide +kernel), List.mem_of_getElem? (i := 849) (by decide +kernel), List.mem_of_getElem? (i := 850) (by decide +kernel)⟩
theorem lw_p51 : lw_okq (⟨"IndicatorDiagramModel", "meanPowerOf", "(I)J"⟩, 2) := ⟨⟨by decide +kernel, by decide +kernel⟩, List.mem_of_getElem? (i := 583) (by decide +kernel), List.mem_of_getElem? (i := 862) (by decide +kernel), List.mem_of_getElem? (i := 863) (by decide +kernel)⟩
theorem lw_p52 : lw_okq (⟨"IndicatorDiagramModel", "median", "(I)I"⟩, 2) := ⟨⟨by decide +kernel, by decide +kernel⟩, List.mem_of_getElem? (i := 583) (by decide +kernel), List.mem_of_getElem? (i := 874) (by decide +kernel), List.mem_of_getElem? (i := 875) (by decide +kernel)⟩
theorem lw_p53 : lw_okq (⟨"IndicatorDiagramModel", "idealBy", "(II)I"⟩, 2) := ⟨⟨by decide +kernel, by decide +kernel⟩, List.mem_of_getElem? (i := 583) (by decide +kernel), List.mem_of_getElem? (i := 882) (by decide +kernel), List.mem_of_getElem? (i := 883) (by decide +kernel)⟩
theorem lw_p54 : lw_okq (⟨"IndicatorDiagramModel", "canCut", "(II)Z"⟩, 2) := ⟨⟨by decide +kernel, by decide +kernel⟩, List.mem_of_getElem? (i := 583) (by decide +kernel), List.mem_of_getElem? (i := 892) (by decide +kernel), List.mem_of_getElem? (i := 893) (by decide +kernel)⟩
def lw_privs_4 : List (MethodName × Nat) := [(⟨"IndicatorDiagramModel", "latenessOf", "(II)I"⟩, 2), (⟨"IndicatorDiagramModel", "offBy", "(II)I"⟩, 2), (⟨"IndicatorDiagramModel", "many", "(I)I"⟩, 2), (⟨"IndicatorDiagramModel", "meanPowerOf", "(I)J"⟩, 2), (⟨"IndicatorDiagramModel", "median", "(I)I"⟩, 2), (⟨"IndicatorDiagramModel", "idealBy", "(II)I"⟩, 2), (⟨"IndicatorDiagramModel", "canCut", "(II)Z"⟩, 2)]
theorem lw_r4 : ∀ q ∈ lw_privs_4, lw_okq q := List.forall_mem_cons.mpr ⟨lw_p48, List.forall_mem_cons.mpr ⟨lw_p49, List.forall_mem_cons.mpr ⟨lw_p50, List.forall_mem_cons.mpr ⟨lw_p51, List.forall_mem_cons.mpr ⟨lw_p52, List.forall_mem_cons.mpr ⟨lw_p53, List.forall_mem_cons.mpr ⟨lw_p54, fun _ h => absurd h List.not_mem_nil⟩⟩⟩⟩⟩⟩⟩
def lw_privs : List (MethodName × Nat) := lw_privs_1 ++ (lw_privs_2 ++ (lw_privs_3 ++ (lw_privs_4)))
def lw_tbl : List Cond := k2_sels lw_privs ++ tables_1
theorem lw_privs_ok : ∀ q ∈ lw_privs, lw_okq q := by
  show ∀ q ∈ lw_privs_1 ++ (lw_privs_2 ++ (lw_privs_3 ++ (lw_privs_4))), lw_okq q
  exact List.forall_mem_append.mpr ⟨lw_r1, List.forall_mem_append.mpr ⟨lw_r2, List.forall_mem_append.mpr ⟨lw_r3, lw_r4⟩⟩⟩
-- ===== end of PART A; then your names; then what follows =====
end
section
def RX0 : String := "IndicatorDiagram$Card"
def TX0 : u_T := fun k => match k with
  | 0 => ("IndicatorDiagram$Card", "end", "I", false)
  | 1 => ("IndicatorDiagram$Card", "speed", "I", false)
  | 2 => ("IndicatorDiagram$Card", "outward", "[I", true)
  | _ => ("IndicatorDiagram$Card", "inward", "[I", true)
def tyX0 : Nat → FieldType := fun k => match k with
  | 0 => .int
  | 1 => .int
  | 2 => .array .int
  | _ => .array .int
theorem nmX0 : ∀ a, a < 4 → ∀ b, b < 4 → a ≠ b → (TX0 a).2.1 ≠ (TX0 b).2.1 := by decide +kernel
theorem tyX0_ok : ∀ k, k < 4 → parseFieldDescriptor (TX0 k).2.2.1 = some (tyX0 k) := by decide +kernel
abbrev cX0_init : ByteArray := prog_2_method_1_code
def yX0_init : MethodName := ⟨RX0, "<init>", "()V"⟩
abbrev cX0_pressuresOf : ByteArray := prog_2_method_2_code
def yX0_pressuresOf : MethodName := ⟨RX0, "pressuresOf", "(I)[I"⟩
abbrev cX0_differenceAt : ByteArray := prog_2_method_3_code
def yX0_differenceAt : MethodName := ⟨RX0, "differenceAt", "(I)I"⟩
abbrev cX0_wholeArea : ByteArray := prog_2_method_4_code
def yX0_wholeArea : MethodName := ⟨RX0, "wholeArea", "()I"⟩
abbrev cX0_sumOfForwardAreas : ByteArray := prog_2_method_5_code
def yX0_sumOfForwardAreas : MethodName := ⟨RX0, "sumOfForwardAreas", "()I"⟩
abbrev cX0_sumOfLoopAreas : ByteArray := prog_2_method_6_code
def yX0_sumOfLoopAreas : MethodName := ⟨RX0, "sumOfLoopAreas", "()I"⟩
abbrev cX0_partAboveZero : ByteArray := prog_2_method_7_code
def yX0_partAboveZero : MethodName := ⟨RX0, "partAboveZero", "(II)I"⟩
abbrev cX0_stationsBelowZero : ByteArray := prog_2_method_8_code
def yX0_stationsBelowZero : MethodName := ⟨RX0, "stationsBelowZero", "()I"⟩
def RX1 : String := "IndicatorDiagram$Draft"
def TX1 : u_T := fun k => match k with
  | 0 => ("IndicatorDiagram$Draft", "present", "Z", false)
  | 1 => ("IndicatorDiagram$Draft", "end", "I", false)
  | 2 => ("IndicatorDiagram$Draft", "speed", "I", false)
  | 3 => ("IndicatorDiagram$Draft", "outward", "[I", true)
  | _ => ("IndicatorDiagram$Draft", "inward", "[I", true)
def tyX1 : Nat → FieldType := fun k => match k with
  | 0 => .boolean
  | 1 => .int
  | 2 => .int
  | 3 => .array .int
  | _ => .array .int
theorem nmX1 : ∀ a, a < 5 → ∀ b, b < 5 → a ≠ b → (TX1 a).2.1 ≠ (TX1 b).2.1 := by decide +kernel
theorem tyX1_ok : ∀ k, k < 5 → parseFieldDescriptor (TX1 k).2.2.1 = some (tyX1 k) := by decide +kernel
abbrev cX1_init : ByteArray := prog_3_method_1_code
def yX1_init : MethodName := ⟨RX1, "<init>", "()V"⟩
abbrev cX1_begin : ByteArray := prog_3_method_2_code
def yX1_begin : MethodName := ⟨RX1, "begin", "(II)V"⟩
abbrev cX1_pointsOf : ByteArray := prog_3_method_3_code
def yX1_pointsOf : MethodName := ⟨RX1, "pointsOf", "(I)[I"⟩
abbrev cX1_copyFrom : ByteArray := prog_3_method_4_code
def yX1_copyFrom : MethodName := ⟨RX1, "copyFrom", "(LIndicatorDiagram$Draft;)V"⟩
def RX2 : String := "IndicatorDiagram$Events"
def TX2 : u_T := fun k => match k with
  | 0 => ("IndicatorDiagram$Events", "admission", "I", false)
  | 1 => ("IndicatorDiagram$Events", "cutOff", "I", false)
  | 2 => ("IndicatorDiagram$Events", "release", "I", false)
  | _ => ("IndicatorDiagram$Events", "compression", "I", false)
def tyX2 : Nat → FieldType := fun k => match k with
  | 0 => .int
  | 1 => .int
  | 2 => .int
  | _ => .int
theorem nmX2 : ∀ a, a < 4 → ∀ b, b < 4 → a ≠ b → (TX2 a).2.1 ≠ (TX2 b).2.1 := by decide +kernel
theorem tyX2_ok : ∀ k, k < 4 → parseFieldDescriptor (TX2 k).2.2.1 = some (tyX2 k) := by decide +kernel
abbrev cX2_init : ByteArray := prog_4_method_1_code
def yX2_init : MethodName := ⟨RX2, "<init>", "()V"⟩
abbrev cX2_copyShifted : ByteArray := prog_4_method_2_code
def yX2_copyShifted : MethodName := ⟨RX2, "copyShifted", "(LIndicatorDiagram$Events;I)V"⟩
abbrev cX2_stationOf : ByteArray := prog_4_method_3_code
def yX2_stationOf : MethodName := ⟨RX2, "stationOf", "(I)I"⟩
abbrev cX2_existAsIdealCard : ByteArray := prog_4_method_4_code
def yX2_existAsIdealCard : MethodName := ⟨RX2, "existAsIdealCard", "()Z"⟩
def RX3 : String := "IndicatorDiagram$State"
def TX3 : u_T := fun k => match k with
  | 0 => ("IndicatorDiagram$State", "clearance", "I", false)
  | 1 => ("IndicatorDiagram$State", "headPistonArea", "I", false)
  | 2 => ("IndicatorDiagram$State", "crankPistonArea", "I", false)
  | 3 => ("IndicatorDiagram$State", "strokeLength", "I", false)
  | 4 => ("IndicatorDiagram$State", "boilerPressure", "I", false)
  | 5 => ("IndicatorDiagram$State", "backPressure", "I", false)
  | 6 => ("IndicatorDiagram$State", "band", "I", false)
  | 7 => ("IndicatorDiagram$State", "tolerance", "I", false)
  | 8 => ("IndicatorDiagram$State", "headValves", "LIndicatorDiagram$Events;", true)
  | 9 => ("IndicatorDiagram$State", "crankValves", "LIndicatorDiagram$Events;", true)
  | 10 => ("IndicatorDiagram$State", "draft", "LIndicatorDiagram$Draft;", true)
  | 11 => ("IndicatorDiagram$State", "cards", "[LIndicatorDiagram$Card;", true)
  | _ => ("IndicatorDiagram$State", "count", "I", false)
def tyX3 : Nat → FieldType := fun k => match k with
  | 0 => .int
  | 1 => .int
  | 2 => .int
  | 3 => .int
  | 4 => .int
  | 5 => .int
  | 6 => .int
  | 7 => .int
  | 8 => .object "IndicatorDiagram$Events"
  | 9 => .object "IndicatorDiagram$Events"
  | 10 => .object "IndicatorDiagram$Draft"
  | 11 => .array (.object "IndicatorDiagram$Card")
  | _ => .int
theorem nmX3 : ∀ a, a < 13 → ∀ b, b < 13 → a ≠ b → (TX3 a).2.1 ≠ (TX3 b).2.1 := by decide +kernel
theorem tyX3_ok : ∀ k, k < 13 → parseFieldDescriptor (TX3 k).2.2.1 = some (tyX3 k) := by decide +kernel
abbrev cX3_init : ByteArray := prog_5_method_1_code
def yX3_init : MethodName := ⟨RX3, "<init>", "(LIndicatorDiagram$Card;)V"⟩
abbrev cX3_pistonAreaOf : ByteArray := prog_5_method_2_code
def yX3_pistonAreaOf : MethodName := ⟨RX3, "pistonAreaOf", "(I)I"⟩
abbrev cX3_valvesOf : ByteArray := prog_5_method_3_code
def yX3_valvesOf : MethodName := ⟨RX3, "valvesOf", "(I)LIndicatorDiagram$Events;"⟩
abbrev cX3_volumeAt : ByteArray := prog_5_method_4_code
def yX3_volumeAt : MethodName := ⟨RX3, "volumeAt", "(I)I"⟩
abbrev cX3_dropCard : ByteArray := prog_5_method_5_code
def yX3_dropCard : MethodName := ⟨RX3, "dropCard", "(I)V"⟩
abbrev cX3_copyFrom : ByteArray := prog_5_method_6_code
def yX3_copyFrom : MethodName := ⟨RX3, "copyFrom", "(LIndicatorDiagram$State;)V"⟩
def RX4 : String := "IndicatorDiagram"
def TX4 : u_T := fun k => match k with
  | 0 => ("IndicatorDiagram", "now", "LIndicatorDiagram$State;", true)
  | 1 => ("IndicatorDiagram", "history", "[LIndicatorDiagram$State;", true)
  | 2 => ("IndicatorDiagram", "states", "I", false)
  | 3 => ("IndicatorDiagram", "trial", "LIndicatorDiagram$Card;", true)
  | 4 => ("IndicatorDiagram", "trialEvents", "LIndicatorDiagram$Events;", true)
  | 5 => ("IndicatorDiagram", "found", "LIndicatorDiagram$Events;", true)
  | _ => ("IndicatorDiagram", "sortedAreas", "[I", true)
def tyX4 : Nat → FieldType := fun k => match k with
  | 0 => .object "IndicatorDiagram$State"
  | 1 => .array (.object "IndicatorDiagram$State")
  | 2 => .int
  | 3 => .object "IndicatorDiagram$Card"
  | 4 => .object "IndicatorDiagram$Events"
  | 5 => .object "IndicatorDiagram$Events"
  | _ => .array .int
theorem nmX4 : ∀ a, a < 7 → ∀ b, b < 7 → a ≠ b → (TX4 a).2.1 ≠ (TX4 b).2.1 := by decide +kernel
theorem tyX4_ok : ∀ k, k < 7 → parseFieldDescriptor (TX4 k).2.2.1 = some (tyX4 k) := by decide +kernel
abbrev cX4_init : ByteArray := prog_1_method_1_code
def yX4_init : MethodName := ⟨RX4, "<init>", "()V"⟩
abbrev cX4_setClearance : ByteArray := prog_1_method_2_code
def yX4_setClearance : MethodName := ⟨RX4, "setClearance", "(I)I"⟩
abbrev cX4_setPistonArea : ByteArray := prog_1_method_3_code
def yX4_setPistonArea : MethodName := ⟨RX4, "setPistonArea", "(II)I"⟩
abbrev cX4_setStroke : ByteArray := prog_1_method_4_code
def yX4_setStroke : MethodName := ⟨RX4, "setStroke", "(I)I"⟩
abbrev cX4_setBoilerPressure : ByteArray := prog_1_method_5_code
def yX4_setBoilerPressure : MethodName := ⟨RX4, "setBoilerPressure", "(I)I"⟩
abbrev cX4_setBackPressure : ByteArray := prog_1_method_6_code
def yX4_setBackPressure : MethodName := ⟨RX4, "setBackPressure", "(I)I"⟩
abbrev cX4_setFinding : ByteArray := prog_1_method_7_code
def yX4_setFinding : MethodName := ⟨RX4, "setFinding", "(II)I"⟩
abbrev cX4_setValves : ByteArray := prog_1_method_8_code
def yX4_setValves : MethodName := ⟨RX4, "setValves", "(IIIII)I"⟩
abbrev cX4_valve : ByteArray := prog_1_method_9_code
def yX4_valve : MethodName := ⟨RX4, "valve", "(II)I"⟩
abbrev cX4_beginCard : ByteArray := prog_1_method_10_code
def yX4_beginCard : MethodName := ⟨RX4, "beginCard", "(II)I"⟩
abbrev cX4_setPoint : ByteArray := prog_1_method_11_code
def yX4_setPoint : MethodName := ⟨RX4, "setPoint", "(III)I"⟩
abbrev cX4_finishCard : ByteArray := prog_1_method_12_code
def yX4_finishCard : MethodName := ⟨RX4, "finishCard", "()I"⟩
abbrev cX4_addIdealCard : ByteArray := prog_1_method_13_code
def yX4_addIdealCard : MethodName := ⟨RX4, "addIdealCard", "(IIII)I"⟩
abbrev cX4_removeCard : ByteArray := prog_1_method_14_code
def yX4_removeCard : MethodName := ⟨RX4, "removeCard", "(I)I"⟩
abbrev cX4_cardCount : ByteArray := prog_1_method_15_code
def yX4_cardCount : MethodName := ⟨RX4, "cardCount", "()I"⟩
abbrev cX4_end : ByteArray := prog_1_method_16_code
def yX4_end : MethodName := ⟨RX4, "end", "(I)I"⟩
abbrev cX4_speed : ByteArray := prog_1_method_17_code
def yX4_speed : MethodName := ⟨RX4, "speed", "(I)I"⟩
abbrev cX4_pressure : ByteArray := prog_1_method_18_code
def yX4_pressure : MethodName := ⟨RX4, "pressure", "(III)I"⟩
abbrev cX4_area : ByteArray := prog_1_method_19_code
def yX4_area : MethodName := ⟨RX4, "area", "(I)I"⟩
abbrev cX4_forwardArea : ByteArray := prog_1_method_20_code
def yX4_forwardArea : MethodName := ⟨RX4, "forwardArea", "(I)I"⟩
abbrev cX4_loopArea : ByteArray := prog_1_method_21_code
def yX4_loopArea : MethodName := ⟨RX4, "loopArea", "(I)I"⟩
abbrev cX4_loopStations : ByteArray := prog_1_method_22_code
def yX4_loopStations : MethodName := ⟨RX4, "loopStations", "(I)I"⟩
abbrev cX4_meanPressure : ByteArray := prog_1_method_23_code
def yX4_meanPressure : MethodName := ⟨RX4, "meanPressure", "(I)I"⟩
abbrev cX4_power : ByteArray := prog_1_method_24_code
def yX4_power : MethodName := ⟨RX4, "power", "(I)J"⟩
abbrev cX4_event : ByteArray := prog_1_method_25_code
def yX4_event : MethodName := ⟨RX4, "event", "(II)I"⟩
abbrev cX4_lateness : ByteArray := prog_1_method_26_code
def yX4_lateness : MethodName := ⟨RX4, "lateness", "(II)I"⟩
abbrev cX4_slip : ByteArray := prog_1_method_27_code
def yX4_slip : MethodName := ⟨RX4, "slip", "(I)I"⟩
abbrev cX4_constant : ByteArray := prog_1_method_28_code
def yX4_constant : MethodName := ⟨RX4, "constant", "(II)I"⟩
abbrev cX4_leakage : ByteArray := prog_1_method_29_code
def yX4_leakage : MethodName := ⟨RX4, "leakage", "(I)I"⟩
abbrev cX4_cardsOf : ByteArray := prog_1_method_30_code
def yX4_cardsOf : MethodName := ⟨RX4, "cardsOf", "(I)I"⟩
abbrev cX4_meanArea : ByteArray := prog_1_method_31_code
def yX4_meanArea : MethodName := ⟨RX4, "meanArea", "(I)I"⟩
abbrev cX4_meanPower : ByteArray := prog_1_method_32_code
def yX4_meanPower : MethodName := ⟨RX4, "meanPower", "(I)J"⟩
abbrev cX4_imbalance : ByteArray := prog_1_method_33_code
def yX4_imbalance : MethodName := ⟨RX4, "imbalance", "()I"⟩
abbrev cX4_removeOutliers : ByteArray := prog_1_method_34_code
def yX4_removeOutliers : MethodName := ⟨RX4, "removeOutliers", "(II)I"⟩
abbrev cX4_idealArea : ByteArray := prog_1_method_35_code
def yX4_idealArea : MethodName := ⟨RX4, "idealArea", "(I)I"⟩
abbrev cX4_bestCutOff : ByteArray := prog_1_method_36_code
def yX4_bestCutOff : MethodName := ⟨RX4, "bestCutOff", "(II)I"⟩
abbrev cX4_balancingCutOff : ByteArray := prog_1_method_37_code
def yX4_balancingCutOff : MethodName := ⟨RX4, "balancingCutOff", "()I"⟩
abbrev cX4_historySize : ByteArray := prog_1_method_38_code
def yX4_historySize : MethodName := ⟨RX4, "historySize", "()I"⟩
abbrev cX4_undo : ByteArray := prog_1_method_39_code
def yX4_undo : MethodName := ⟨RX4, "undo", "()I"⟩
abbrev cX4_recordState : ByteArray := prog_1_method_40_code
def yX4_recordState : MethodName := ⟨RX4, "recordState", "()V"⟩
abbrev cX4_dropOldestState : ByteArray := prog_1_method_41_code
def yX4_dropOldestState : MethodName := ⟨RX4, "dropOldestState", "()V"⟩
abbrev cX4_addCard : ByteArray := prog_1_method_42_code
def yX4_addCard : MethodName := ⟨RX4, "addCard", "(LIndicatorDiagram$Card;)I"⟩
abbrev cX4_isCard : ByteArray := prog_1_method_43_code
def yX4_isCard : MethodName := ⟨RX4, "isCard", "(I)Z"⟩
abbrev cX4_isEnd : ByteArray := prog_1_method_44_code
def yX4_isEnd : MethodName := ⟨RX4, "isEnd", "(I)Z"⟩
abbrev cX4_isStroke : ByteArray := prog_1_method_45_code
def yX4_isStroke : MethodName := ⟨RX4, "isStroke", "(I)Z"⟩
abbrev cX4_isEvent : ByteArray := prog_1_method_46_code
def yX4_isEvent : MethodName := ⟨RX4, "isEvent", "(I)Z"⟩
abbrev cX4_isStation : ByteArray := prog_1_method_47_code
def yX4_isStation : MethodName := ⟨RX4, "isStation", "(I)Z"⟩
abbrev cX4_isSpeed : ByteArray := prog_1_method_48_code
def yX4_isSpeed : MethodName := ⟨RX4, "isSpeed", "(I)Z"⟩
abbrev cX4_areValves : ByteArray := prog_1_method_49_code
def yX4_areValves : MethodName := ⟨RX4, "areValves", "(IIII)Z"⟩
abbrev cX4_isWithin : ByteArray := prog_1_method_50_code
def yX4_isWithin : MethodName := ⟨RX4, "isWithin", "(III)Z"⟩
abbrev cX4_quotient : ByteArray := prog_1_method_51_code
def yX4_quotient : MethodName := ⟨RX4, "quotient", "(II)I"⟩
abbrev cX4_longQuotient : ByteArray := prog_1_method_52_code
def yX4_longQuotient : MethodName := ⟨RX4, "longQuotient", "(JJ)J"⟩
abbrev cX4_countPoints : ByteArray := prog_1_method_53_code
def yX4_countPoints : MethodName := ⟨RX4, "countPoints", "([I)I"⟩
abbrev cX4_drawThroughPoints : ByteArray := prog_1_method_54_code
def yX4_drawThroughPoints : MethodName := ⟨RX4, "drawThroughPoints", "([I[I)V"⟩
abbrev cX4_pointUpTo : ByteArray := prog_1_method_55_code
def yX4_pointUpTo : MethodName := ⟨RX4, "pointUpTo", "([II)I"⟩
abbrev cX4_pointFrom : ByteArray := prog_1_method_56_code
def yX4_pointFrom : MethodName := ⟨RX4, "pointFrom", "([II)I"⟩
abbrev cX4_drawIdealCard : ByteArray := prog_1_method_57_code
def yX4_drawIdealCard : MethodName := ⟨RX4, "drawIdealCard", "(LIndicatorDiagram$Card;LIndicatorDiagram$Events;I)V"⟩
abbrev cX4_drawIdealOutward : ByteArray := prog_1_method_58_code
def yX4_drawIdealOutward : MethodName := ⟨RX4, "drawIdealOutward", "([ILIndicatorDiagram$Events;I)V"⟩
abbrev cX4_drawIdealReturn : ByteArray := prog_1_method_59_code
def yX4_drawIdealReturn : MethodName := ⟨RX4, "drawIdealReturn", "([ILIndicatorDiagram$Events;)V"⟩
abbrev cX4_areaWithCutOff : ByteArray := prog_1_method_60_code
def yX4_areaWithCutOff : MethodName := ⟨RX4, "areaWithCutOff", "(II)I"⟩
abbrev cX4_nearestCutOff : ByteArray := prog_1_method_61_code
def yX4_nearestCutOff : MethodName := ⟨RX4, "nearestCutOff", "(IJZ)I"⟩
abbrev cX4_powerWithCutOff : ByteArray := prog_1_method_62_code
def yX4_powerWithCutOff : MethodName := ⟨RX4, "powerWithCutOff", "(II)J"⟩
abbrev cX4_powerFrom : ByteArray := prog_1_method_63_code
def yX4_powerFrom : MethodName := ⟨RX4, "powerFrom", "(III)J"⟩
abbrev cX4_powerOfCard : ByteArray := prog_1_method_64_code
def yX4_powerOfCard : MethodName := ⟨RX4, "powerOfCard", "(LIndicatorDiagram$Card;)J"⟩
abbrev cX4_findEvents : ByteArray := prog_1_method_65_code
def yX4_findEvents : MethodName := ⟨RX4, "findEvents", "(LIndicatorDiagram$Card;)V"⟩
abbrev cX4_findAdmission : ByteArray := prog_1_method_66_code
def yX4_findAdmission : MethodName := ⟨RX4, "findAdmission", "([I)I"⟩
abbrev cX4_findCutOff : ByteArray := prog_1_method_67_code
def yX4_findCutOff : MethodName := ⟨RX4, "findCutOff", "([II)I"⟩
abbrev cX4_findRelease : ByteArray := prog_1_method_68_code
def yX4_findRelease : MethodName := ⟨RX4, "findRelease", "(LIndicatorDiagram$Card;I)I"⟩
abbrev cX4_findCompression : ByteArray := prog_1_method_69_code
def yX4_findCompression : MethodName := ⟨RX4, "findCompression", "([I)I"⟩
abbrev cX4_constantAt : ByteArray := prog_1_method_70_code
def yX4_constantAt : MethodName := ⟨RX4, "constantAt", "(LIndicatorDiagram$Card;I)I"⟩
abbrev cX4_greatestOf : ByteArray := prog_1_method_71_code
def yX4_greatestOf : MethodName := ⟨RX4, "greatestOf", "([I)I"⟩
abbrev cX4_leastOf : ByteArray := prog_1_method_72_code
def yX4_leastOf : MethodName := ⟨RX4, "leastOf", "([I)I"⟩
abbrev cX4_foundLateness : ByteArray := prog_1_method_73_code
def yX4_foundLateness : MethodName := ⟨RX4, "foundLateness", "(LIndicatorDiagram$Events;I)I"⟩
abbrev cX4_deviationFrom : ByteArray := prog_1_method_74_code
def yX4_deviationFrom : MethodName := ⟨RX4, "deviationFrom", "(LIndicatorDiagram$Events;I)I"⟩
abbrev cX4_countCards : ByteArray := prog_1_method_75_code
def yX4_countCards : MethodName := ⟨RX4, "countCards", "(I)I"⟩
abbrev cX4_drawMeanPressures : ByteArray := prog_1_method_76_code
def yX4_drawMeanPressures : MethodName := ⟨RX4, "drawMeanPressures", "(II)V"⟩
abbrev cX4_meanOfPowers : ByteArray := prog_1_method_77_code
def yX4_meanOfPowers : MethodName := ⟨RX4, "meanOfPowers", "(I)J"⟩
abbrev cX4_medianArea : ByteArray := prog_1_method_78_code
def yX4_medianArea : MethodName := ⟨RX4, "medianArea", "(I)I"⟩
abbrev cX4_insertSorted : ByteArray := prog_1_method_79_code
def yX4_insertSorted : MethodName := ⟨RX4, "insertSorted", "(II)V"⟩
abbrev cX4_isOutlier : ByteArray := prog_1_method_80_code
def yX4_isOutlier : MethodName := ⟨RX4, "isOutlier", "(LIndicatorDiagram$Card;II)Z"⟩
def RX5 : String := "IndicatorDiagramModel"
def TX5 : u_T := fun k => match k with
  | 0 => ("IndicatorDiagramModel", "row", "[I", true)
  | _ => ("IndicatorDiagramModel", "states", "I", false)
def tyX5 : Nat → FieldType := fun k => match k with
  | 0 => .array .int
  | _ => .int
theorem nmX5 : ∀ a, a < 2 → ∀ b, b < 2 → a ≠ b → (TX5 a).2.1 ≠ (TX5 b).2.1 := by decide +kernel
theorem tyX5_ok : ∀ k, k < 2 → parseFieldDescriptor (TX5 k).2.2.1 = some (tyX5 k) := by decide +kernel
abbrev cX5_init : ByteArray := prog_7_method_1_code
def yX5_init : MethodName := ⟨RX5, "<init>", "()V"⟩
abbrev cX5_in : ByteArray := prog_7_method_2_code
def yX5_in : MethodName := ⟨RX5, "in", "(III)Z"⟩
abbrev cX5_isEnd : ByteArray := prog_7_method_3_code
def yX5_isEnd : MethodName := ⟨RX5, "isEnd", "(I)Z"⟩
abbrev cX5_quotient : ByteArray := prog_7_method_4_code
def yX5_quotient : MethodName := ⟨RX5, "quotient", "(JJ)J"⟩
abbrev cX5_size : ByteArray := prog_7_method_5_code
def yX5_size : MethodName := ⟨RX5, "size", "(I)I"⟩
abbrev cX5_copy : ByteArray := prog_7_method_6_code
def yX5_copy : MethodName := ⟨RX5, "copy", "(II)V"⟩
abbrev cX5_record : ByteArray := prog_7_method_7_code
def yX5_record : MethodName := ⟨RX5, "record", "()V"⟩
abbrev cX5_historySize : ByteArray := prog_7_method_8_code
def yX5_historySize : MethodName := ⟨RX5, "historySize", "()I"⟩
abbrev cX5_undo : ByteArray := prog_7_method_9_code
def yX5_undo : MethodName := ⟨RX5, "undo", "()I"⟩
abbrev cX5_put : ByteArray := prog_7_method_10_code
def yX5_put : MethodName := ⟨RX5, "put", "(IZI)I"⟩
abbrev cX5_setClearance : ByteArray := prog_7_method_11_code
def yX5_setClearance : MethodName := ⟨RX5, "setClearance", "(I)I"⟩
abbrev cX5_setPistonArea : ByteArray := prog_7_method_12_code
def yX5_setPistonArea : MethodName := ⟨RX5, "setPistonArea", "(II)I"⟩
abbrev cX5_setStroke : ByteArray := prog_7_method_13_code
def yX5_setStroke : MethodName := ⟨RX5, "setStroke", "(I)I"⟩
abbrev cX5_setBoilerPressure : ByteArray := prog_7_method_14_code
def yX5_setBoilerPressure : MethodName := ⟨RX5, "setBoilerPressure", "(I)I"⟩
abbrev cX5_setBackPressure : ByteArray := prog_7_method_15_code
def yX5_setBackPressure : MethodName := ⟨RX5, "setBackPressure", "(I)I"⟩
abbrev cX5_setFinding : ByteArray := prog_7_method_16_code
def yX5_setFinding : MethodName := ⟨RX5, "setFinding", "(II)I"⟩
abbrev cX5_setValves : ByteArray := prog_7_method_17_code
def yX5_setValves : MethodName := ⟨RX5, "setValves", "(IIIII)I"⟩
abbrev cX5_valve : ByteArray := prog_7_method_18_code
def yX5_valve : MethodName := ⟨RX5, "valve", "(II)I"⟩
abbrev cX5_volume : ByteArray := prog_7_method_19_code
def yX5_volume : MethodName := ⟨RX5, "volume", "(I)I"⟩
abbrev cX5_beginCard : ByteArray := prog_7_method_20_code
def yX5_beginCard : MethodName := ⟨RX5, "beginCard", "(II)I"⟩
abbrev cX5_points : ByteArray := prog_7_method_21_code
def yX5_points : MethodName := ⟨RX5, "points", "(I)I"⟩
abbrev cX5_setPoint : ByteArray := prog_7_method_22_code
def yX5_setPoint : MethodName := ⟨RX5, "setPoint", "(III)I"⟩
abbrev cX5_drafted : ByteArray := prog_7_method_23_code
def yX5_drafted : MethodName := ⟨RX5, "drafted", "(II)I"⟩
abbrev cX5_isCard : ByteArray := prog_7_method_24_code
def yX5_isCard : MethodName := ⟨RX5, "isCard", "(I)Z"⟩
abbrev cX5_endAt : ByteArray := prog_7_method_25_code
def yX5_endAt : MethodName := ⟨RX5, "endAt", "(I)I"⟩
abbrev cX5_at : ByteArray := prog_7_method_26_code
def yX5_at : MethodName := ⟨RX5, "at", "(I)I"⟩
abbrev cX5_addCard : ByteArray := prog_7_method_27_code
def yX5_addCard : MethodName := ⟨RX5, "addCard", "(II)I"⟩
abbrev cX5_finishCard : ByteArray := prog_7_method_28_code
def yX5_finishCard : MethodName := ⟨RX5, "finishCard", "()I"⟩
abbrev cX5_draw : ByteArray := prog_7_method_29_code
def yX5_draw : MethodName := ⟨RX5, "draw", "(IIIII)V"⟩
abbrev cX5_valveOf : ByteArray := prog_7_method_30_code
def yX5_valveOf : MethodName := ⟨RX5, "valveOf", "(II)I"⟩
abbrev cX5_addIdealCard : ByteArray := prog_7_method_31_code
def yX5_addIdealCard : MethodName := ⟨RX5, "addIdealCard", "(IIII)I"⟩
abbrev cX5_remove : ByteArray := prog_7_method_32_code
def yX5_remove : MethodName := ⟨RX5, "remove", "(I)V"⟩
abbrev cX5_removeCard : ByteArray := prog_7_method_33_code
def yX5_removeCard : MethodName := ⟨RX5, "removeCard", "(I)I"⟩
abbrev cX5_cardCount : ByteArray := prog_7_method_34_code
def yX5_cardCount : MethodName := ⟨RX5, "cardCount", "()I"⟩
abbrev cX5_end : ByteArray := prog_7_method_35_code
def yX5_end : MethodName := ⟨RX5, "end", "(I)I"⟩
abbrev cX5_speed : ByteArray := prog_7_method_36_code
def yX5_speed : MethodName := ⟨RX5, "speed", "(I)I"⟩
abbrev cX5_pressure : ByteArray := prog_7_method_37_code
def yX5_pressure : MethodName := ⟨RX5, "pressure", "(III)I"⟩
abbrev cX5_difference : ByteArray := prog_7_method_38_code
def yX5_difference : MethodName := ⟨RX5, "difference", "(II)I"⟩
abbrev cX5_areaAt : ByteArray := prog_7_method_39_code
def yX5_areaAt : MethodName := ⟨RX5, "areaAt", "(I)I"⟩
abbrev cX5_part : ByteArray := prog_7_method_40_code
def yX5_part : MethodName := ⟨RX5, "part", "(IIZ)I"⟩
abbrev cX5_parts : ByteArray := prog_7_method_41_code
def yX5_parts : MethodName := ⟨RX5, "parts", "(IZ)I"⟩
abbrev cX5_powerOf : ByteArray := prog_7_method_42_code
def yX5_powerOf : MethodName := ⟨RX5, "powerOf", "(III)J"⟩
abbrev cX5_area : ByteArray := prog_7_method_43_code
def yX5_area : MethodName := ⟨RX5, "area", "(I)I"⟩
abbrev cX5_forwardArea : ByteArray := prog_7_method_44_code
def yX5_forwardArea : MethodName := ⟨RX5, "forwardArea", "(I)I"⟩
abbrev cX5_loopArea : ByteArray := prog_7_method_45_code
def yX5_loopArea : MethodName := ⟨RX5, "loopArea", "(I)I"⟩
abbrev cX5_loopStations : ByteArray := prog_7_method_46_code
def yX5_loopStations : MethodName := ⟨RX5, "loopStations", "(I)I"⟩
abbrev cX5_meanPressure : ByteArray := prog_7_method_47_code
def yX5_meanPressure : MethodName := ⟨RX5, "meanPressure", "(I)I"⟩
abbrev cX5_powerAt : ByteArray := prog_7_method_48_code
def yX5_powerAt : MethodName := ⟨RX5, "powerAt", "(I)J"⟩
abbrev cX5_power : ByteArray := prog_7_method_49_code
def yX5_power : MethodName := ⟨RX5, "power", "(I)J"⟩
abbrev cX5_extreme : ByteArray := prog_7_method_50_code
def yX5_extreme : MethodName := ⟨RX5, "extreme", "(IZ)I"⟩
abbrev cX5_admission : ByteArray := prog_7_method_51_code
def yX5_admission : MethodName := ⟨RX5, "admission", "(I)I"⟩
abbrev cX5_cutOff : ByteArray := prog_7_method_52_code
def yX5_cutOff : MethodName := ⟨RX5, "cutOff", "(I)I"⟩
abbrev cX5_constantAt : ByteArray := prog_7_method_53_code
def yX5_constantAt : MethodName := ⟨RX5, "constantAt", "(II)I"⟩
abbrev cX5_release : ByteArray := prog_7_method_54_code
def yX5_release : MethodName := ⟨RX5, "release", "(I)I"⟩
abbrev cX5_compression : ByteArray := prog_7_method_55_code
def yX5_compression : MethodName := ⟨RX5, "compression", "(I)I"⟩
abbrev cX5_eventOf : ByteArray := prog_7_method_56_code
def yX5_eventOf : MethodName := ⟨RX5, "eventOf", "(II)I"⟩
abbrev cX5_latenessOf : ByteArray := prog_7_method_57_code
def yX5_latenessOf : MethodName := ⟨RX5, "latenessOf", "(II)I"⟩
abbrev cX5_event : ByteArray := prog_7_method_58_code
def yX5_event : MethodName := ⟨RX5, "event", "(II)I"⟩
abbrev cX5_lateness : ByteArray := prog_7_method_59_code
def yX5_lateness : MethodName := ⟨RX5, "lateness", "(II)I"⟩
abbrev cX5_offBy : ByteArray := prog_7_method_60_code
def yX5_offBy : MethodName := ⟨RX5, "offBy", "(II)I"⟩
abbrev cX5_slip : ByteArray := prog_7_method_61_code
def yX5_slip : MethodName := ⟨RX5, "slip", "(I)I"⟩
abbrev cX5_constant : ByteArray := prog_7_method_62_code
def yX5_constant : MethodName := ⟨RX5, "constant", "(II)I"⟩
abbrev cX5_leakage : ByteArray := prog_7_method_63_code
def yX5_leakage : MethodName := ⟨RX5, "leakage", "(I)I"⟩
abbrev cX5_many : ByteArray := prog_7_method_64_code
def yX5_many : MethodName := ⟨RX5, "many", "(I)I"⟩
abbrev cX5_cardsOf : ByteArray := prog_7_method_65_code
def yX5_cardsOf : MethodName := ⟨RX5, "cardsOf", "(I)I"⟩
abbrev cX5_meanArea : ByteArray := prog_7_method_66_code
def yX5_meanArea : MethodName := ⟨RX5, "meanArea", "(I)I"⟩
abbrev cX5_meanPowerOf : ByteArray := prog_7_method_67_code
def yX5_meanPowerOf : MethodName := ⟨RX5, "meanPowerOf", "(I)J"⟩
abbrev cX5_meanPower : ByteArray := prog_7_method_68_code
def yX5_meanPower : MethodName := ⟨RX5, "meanPower", "(I)J"⟩
abbrev cX5_imbalance : ByteArray := prog_7_method_69_code
def yX5_imbalance : MethodName := ⟨RX5, "imbalance", "()I"⟩
abbrev cX5_median : ByteArray := prog_7_method_70_code
def yX5_median : MethodName := ⟨RX5, "median", "(I)I"⟩
abbrev cX5_removeOutliers : ByteArray := prog_7_method_71_code
def yX5_removeOutliers : MethodName := ⟨RX5, "removeOutliers", "(II)I"⟩
abbrev cX5_idealBy : ByteArray := prog_7_method_72_code
def yX5_idealBy : MethodName := ⟨RX5, "idealBy", "(II)I"⟩
abbrev cX5_idealArea : ByteArray := prog_7_method_73_code
def yX5_idealArea : MethodName := ⟨RX5, "idealArea", "(I)I"⟩
abbrev cX5_canCut : ByteArray := prog_7_method_74_code
def yX5_canCut : MethodName := ⟨RX5, "canCut", "(II)Z"⟩
abbrev cX5_bestCutOff : ByteArray := prog_7_method_75_code
def yX5_bestCutOff : MethodName := ⟨RX5, "bestCutOff", "(II)I"⟩
abbrev cX5_balancingCutOff : ByteArray := prog_7_method_76_code
def yX5_balancingCutOff : MethodName := ⟨RX5, "balancingCutOff", "()I"⟩
def RJ9 : String := "java/lang/Math"
def TJ9 : u_T := fun k => match k with
  | _ => ("", "", "", false)
def tyJ9 : Nat → FieldType := fun k => match k with
  | _ => .int
theorem nmJ9 : ∀ a, a < 0 → ∀ b, b < 0 → a ≠ b → (TJ9 a).2.1 ≠ (TJ9 b).2.1 := by decide +kernel
theorem tyJ9_ok : ∀ k, k < 0 → parseFieldDescriptor (TJ9 k).2.2.1 = some (tyJ9 k) := by decide +kernel
abbrev cJ9_floorDiv_7cf53 : ByteArray := prog_8_method_47_code
def yJ9_floorDiv_7cf53 : MethodName := ⟨RJ9, "floorDiv", "(II)I"⟩
abbrev cJ9_floorDiv_f86c9 : ByteArray := prog_8_method_49_code
def yJ9_floorDiv_f86c9 : MethodName := ⟨RJ9, "floorDiv", "(JJ)J"⟩
abbrev cJ9_abs_0f7a4 : ByteArray := prog_8_method_59_code
def yJ9_abs_0f7a4 : MethodName := ⟨RJ9, "abs", "(I)I"⟩
abbrev cJ9_abs_067f4 : ByteArray := prog_8_method_61_code
def yJ9_abs_067f4 : MethodName := ⟨RJ9, "abs", "(J)J"⟩
abbrev cJ9_max_7cf53 : ByteArray := prog_8_method_65_code
def yJ9_max_7cf53 : MethodName := ⟨RJ9, "max", "(II)I"⟩
abbrev cJ9_min_7cf53 : ByteArray := prog_8_method_69_code
def yJ9_min_7cf53 : MethodName := ⟨RJ9, "min", "(II)I"⟩
def RJ10 : String := "java/lang/System"
def TJ10 : u_T := fun k => match k with
  | _ => ("", "", "", false)
def tyJ10 : Nat → FieldType := fun k => match k with
  | _ => .int
theorem nmJ10 : ∀ a, a < 0 → ∀ b, b < 0 → a ≠ b → (TJ10 a).2.1 ≠ (TJ10 b).2.1 := by decide +kernel
theorem tyJ10_ok : ∀ k, k < 0 → parseFieldDescriptor (TJ10 k).2.2.1 = some (tyJ10 k) := by decide +kernel
def RL : String := "IndicatorDiagramLaw"
abbrev cL_law : ByteArray := code
def yL_law : MethodName := ⟨RL, "law", "([I)Z"⟩
end
section
theorem dX0_init_0 : decode cX0_init 0 = .ok (.aload_n 0, 1) := by decide +kernel
theorem dX0_init_1 : decode cX0_init 1 = .ok (.invokespecial 3, 3) := by decide +kernel
theorem dX0_init_4 : decode cX0_init 4 = .ok (.aload_n 0, 1) := by decide +kernel
theorem dX0_init_5 : decode cX0_init 5 = .ok (.bipush 21, 2) := by decide +kernel
theorem dX0_init_7 : decode cX0_init 7 = .ok (.newarray .int, 2) := by decide +kernel
theorem dX0_init_9 : decode cX0_init 9 = .ok (.putfield 9, 3) := by decide +kernel
theorem dX0_init_12 : decode cX0_init 12 = .ok (.aload_n 0, 1) := by decide +kernel
theorem dX0_init_13 : decode cX0_init 13 = .ok (.bipush 21, 2) := by decide +kernel
theorem dX0_init_15 : decode cX0_init 15 = .ok (.newarray .int, 2) := by decide +kernel
theorem dX0_init_17 : decode cX0_init 17 = .ok (.putfield 15, 3) := by decide +kernel
theorem dX0_init_20 : decode cX0_init 20 = .ok (.return_, 1) := by decide +kernel
theorem dX0_pressuresOf_0 : decode cX0_pressuresOf 0 = .ok (.iload_n 1, 1) := by decide +kernel
theorem dX0_pressuresOf_1 : decode cX0_pressuresOf 1 = .ok (.ifCond .ne 10, 3) := by decide +kernel
theorem dX0_pressuresOf_4 : decode cX0_pressuresOf 4 = .ok (.aload_n 0, 1) := by decide +kernel
theorem dX0_pressuresOf_5 : decode cX0_pressuresOf 5 = .ok (.getfield 9, 3) := by decide +kernel
theorem dX0_pressuresOf_8 : decode cX0_pressuresOf 8 = .ok (.goto 7, 3) := by decide +kernel
theorem dX0_pressuresOf_11 : decode cX0_pressuresOf 11 = .ok (.aload_n 0, 1) := by decide +kernel
theorem dX0_pressuresOf_12 : decode cX0_pressuresOf 12 = .ok (.getfield 15, 3) := by decide +kernel
theorem dX0_pressuresOf_15 : decode cX0_pressuresOf 15 = .ok (.areturn, 1) := by decide +kernel
theorem dX0_differenceAt_0 : decode cX0_differenceAt 0 = .ok (.aload_n 0, 1) := by decide +kernel
theorem dX0_differenceAt_1 : decode cX0_differenceAt 1 = .ok (.getfield 9, 3) := by decide +kernel
theorem dX0_differenceAt_4 : decode cX0_differenceAt 4 = .ok (.iload_n 1, 1) := by decide +kernel
theorem dX0_differenceAt_5 : decode cX0_differenceAt 5 = .ok (.iaload, 1) := by decide +kernel
theorem dX0_differenceAt_6 : decode cX0_differenceAt 6 = .ok (.aload_n 0, 1) := by decide +kernel
theorem dX0_differenceAt_7 : decode cX0_differenceAt 7 = .ok (.getfield 15, 3) := by decide +kernel
theorem dX0_differenceAt_10 : decode cX0_differenceAt 10 = .ok (.iload_n 1, 1) := by decide +kernel
theorem dX0_differenceAt_11 : decode cX0_differenceAt 11 = .ok (.iaload, 1) := by decide +kernel
theorem dX0_differenceAt_12 : decode cX0_differenceAt 12 = .ok (.isub, 1) := by decide +kernel
theorem dX0_differenceAt_13 : decode cX0_differenceAt 13 = .ok (.ireturn, 1) := by decide +kernel
theorem dX0_wholeArea_0 : decode cX0_wholeArea 0 = .ok (.iconst 0, 1) := by decide +kernel
theorem dX0_wholeArea_1 : decode cX0_wholeArea 1 = .ok (.istore_n 1, 1) := by decide +kernel
theorem dX0_wholeArea_2 : decode cX0_wholeArea 2 = .ok (.iconst 0, 1) := by decide +kernel
theorem dX0_wholeArea_3 : decode cX0_wholeArea 3 = .ok (.istore_n 2, 1) := by decide +kernel
theorem dX0_wholeArea_4 : decode cX0_wholeArea 4 = .ok (.iload_n 2, 1) := by decide +kernel
theorem dX0_wholeArea_5 : decode cX0_wholeArea 5 = .ok (.bipush 20, 2) := by decide +kernel
theorem dX0_wholeArea_7 : decode cX0_wholeArea 7 = .ok (.if_icmp .ge 25, 3) := by decide +kernel
theorem dX0_wholeArea_10 : decode cX0_wholeArea 10 = .ok (.iload_n 1, 1) := by decide +kernel
theorem dX0_wholeArea_11 : decode cX0_wholeArea 11 = .ok (.aload_n 0, 1) := by decide +kernel
theorem dX0_wholeArea_12 : decode cX0_wholeArea 12 = .ok (.iload_n 2, 1) := by decide +kernel
theorem dX0_wholeArea_13 : decode cX0_wholeArea 13 = .ok (.invokevirtual 18, 3) := by decide +kernel
theorem dX0_wholeArea_16 : decode cX0_wholeArea 16 = .ok (.aload_n 0, 1) := by decide +kernel
theorem dX0_wholeArea_17 : decode cX0_wholeArea 17 = .ok (.iload_n 2, 1) := by decide +kernel
theorem dX0_wholeArea_18 : decode cX0_wholeArea 18 = .ok (.iconst 1, 1) := by decide +kernel
theorem dX0_wholeArea_19 : decode cX0_wholeArea 19 = .ok (.iadd, 1) := by decide +kernel
theorem dX0_wholeArea_20 : decode cX0_wholeArea 20 = .ok (.invokevirtual 18, 3) := by decide +kernel
theorem dX0_wholeArea_23 : decode cX0_wholeArea 23 = .ok (.iadd, 1) := by decide +kernel
theorem dX0_wholeArea_24 : decode cX0_wholeArea 24 = .ok (.iadd, 1) := by decide +kernel
theorem dX0_wholeArea_25 : decode cX0_wholeArea 25 = .ok (.istore_n 1, 1) := by decide +kernel
theorem dX0_wholeArea_26 : decode cX0_wholeArea 26 = .ok (.iinc 2 1, 3) := by decide +kernel
theorem dX0_wholeArea_29 : decode cX0_wholeArea 29 = .ok (.goto (-25), 3) := by decide +kernel
theorem dX0_wholeArea_32 : decode cX0_wholeArea 32 = .ok (.iload_n 1, 1) := by decide +kernel
theorem dX0_wholeArea_33 : decode cX0_wholeArea 33 = .ok (.ireturn, 1) := by decide +kernel
theorem dX0_sumOfForwardAreas_0 : decode cX0_sumOfForwardAreas 0 = .ok (.iconst 0, 1) := by decide +kernel
theorem dX0_sumOfForwardAreas_1 : decode cX0_sumOfForwardAreas 1 = .ok (.istore_n 1, 1) := by decide +kernel
theorem dX0_sumOfForwardAreas_2 : decode cX0_sumOfForwardAreas 2 = .ok (.iconst 0, 1) := by decide +kernel
theorem dX0_sumOfForwardAreas_3 : decode cX0_sumOfForwardAreas 3 = .ok (.istore_n 2, 1) := by decide +kernel
theorem dX0_sumOfForwardAreas_4 : decode cX0_sumOfForwardAreas 4 = .ok (.iload_n 2, 1) := by decide +kernel
theorem dX0_sumOfForwardAreas_5 : decode cX0_sumOfForwardAreas 5 = .ok (.bipush 20, 2) := by decide +kernel
theorem dX0_sumOfForwardAreas_7 : decode cX0_sumOfForwardAreas 7 = .ok (.if_icmp .ge 27, 3) := by decide +kernel
theorem dX0_sumOfForwardAreas_10 : decode cX0_sumOfForwardAreas 10 = .ok (.iload_n 1, 1) := by decide +kernel
theorem dX0_sumOfForwardAreas_11 : decode cX0_sumOfForwardAreas 11 = .ok (.aload_n 0, 1) := by decide +kernel
theorem dX0_sumOfForwardAreas_12 : decode cX0_sumOfForwardAreas 12 = .ok (.iload_n 2, 1) := by decide +kernel
theorem dX0_sumOfForwardAreas_13 : decode cX0_sumOfForwardAreas 13 = .ok (.invokevirtual 18, 3) := by decide +kernel
theorem dX0_sumOfForwardAreas_16 : decode cX0_sumOfForwardAreas 16 = .ok (.aload_n 0, 1) := by decide +kernel
theorem dX0_sumOfForwardAreas_17 : decode cX0_sumOfForwardAreas 17 = .ok (.iload_n 2, 1) := by decide +kernel
theorem dX0_sumOfForwardAreas_18 : decode cX0_sumOfForwardAreas 18 = .ok (.iconst 1, 1) := by decide +kernel
theorem dX0_sumOfForwardAreas_19 : decode cX0_sumOfForwardAreas 19 = .ok (.iadd, 1) := by decide +kernel
theorem dX0_sumOfForwardAreas_20 : decode cX0_sumOfForwardAreas 20 = .ok (.invokevirtual 18, 3) := by decide +kernel
theorem dX0_sumOfForwardAreas_23 : decode cX0_sumOfForwardAreas 23 = .ok (.invokestatic 22, 3) := by decide +kernel
theorem dX0_sumOfForwardAreas_26 : decode cX0_sumOfForwardAreas 26 = .ok (.iadd, 1) := by decide +kernel
theorem dX0_sumOfForwardAreas_27 : decode cX0_sumOfForwardAreas 27 = .ok (.istore_n 1, 1) := by decide +kernel
theorem dX0_sumOfForwardAreas_28 : decode cX0_sumOfForwardAreas 28 = .ok (.iinc 2 1, 3) := by decide +kernel
theorem dX0_sumOfForwardAreas_31 : decode cX0_sumOfForwardAreas 31 = .ok (.goto (-27), 3) := by decide +kernel
theorem dX0_sumOfForwardAreas_34 : decode cX0_sumOfForwardAreas 34 = .ok (.iload_n 1, 1) := by decide +kernel
theorem dX0_sumOfForwardAreas_35 : decode cX0_sumOfForwardAreas 35 = .ok (.ireturn, 1) := by decide +kernel
theorem dX0_sumOfLoopAreas_0 : decode cX0_sumOfLoopAreas 0 = .ok (.iconst 0, 1) := by decide +kernel
theorem dX0_sumOfLoopAreas_1 : decode cX0_sumOfLoopAreas 1 = .ok (.istore_n 1, 1) := by decide +kernel
theorem dX0_sumOfLoopAreas_2 : decode cX0_sumOfLoopAreas 2 = .ok (.iconst 0, 1) := by decide +kernel
theorem dX0_sumOfLoopAreas_3 : decode cX0_sumOfLoopAreas 3 = .ok (.istore_n 2, 1) := by decide +kernel
theorem dX0_sumOfLoopAreas_4 : decode cX0_sumOfLoopAreas 4 = .ok (.iload_n 2, 1) := by decide +kernel
theorem dX0_sumOfLoopAreas_5 : decode cX0_sumOfLoopAreas 5 = .ok (.bipush 20, 2) := by decide +kernel
theorem dX0_sumOfLoopAreas_7 : decode cX0_sumOfLoopAreas 7 = .ok (.if_icmp .ge 29, 3) := by decide +kernel
theorem dX0_sumOfLoopAreas_10 : decode cX0_sumOfLoopAreas 10 = .ok (.iload_n 1, 1) := by decide +kernel
theorem dX0_sumOfLoopAreas_11 : decode cX0_sumOfLoopAreas 11 = .ok (.aload_n 0, 1) := by decide +kernel
theorem dX0_sumOfLoopAreas_12 : decode cX0_sumOfLoopAreas 12 = .ok (.iload_n 2, 1) := by decide +kernel
theorem dX0_sumOfLoopAreas_13 : decode cX0_sumOfLoopAreas 13 = .ok (.invokevirtual 18, 3) := by decide +kernel
theorem dX0_sumOfLoopAreas_16 : decode cX0_sumOfLoopAreas 16 = .ok (.ineg, 1) := by decide +kernel
theorem dX0_sumOfLoopAreas_17 : decode cX0_sumOfLoopAreas 17 = .ok (.aload_n 0, 1) := by decide +kernel
theorem dX0_sumOfLoopAreas_18 : decode cX0_sumOfLoopAreas 18 = .ok (.iload_n 2, 1) := by decide +kernel
theorem dX0_sumOfLoopAreas_19 : decode cX0_sumOfLoopAreas 19 = .ok (.iconst 1, 1) := by decide +kernel
theorem dX0_sumOfLoopAreas_20 : decode cX0_sumOfLoopAreas 20 = .ok (.iadd, 1) := by decide +kernel
theorem dX0_sumOfLoopAreas_21 : decode cX0_sumOfLoopAreas 21 = .ok (.invokevirtual 18, 3) := by decide +kernel
theorem dX0_sumOfLoopAreas_24 : decode cX0_sumOfLoopAreas 24 = .ok (.ineg, 1) := by decide +kernel
theorem dX0_sumOfLoopAreas_25 : decode cX0_sumOfLoopAreas 25 = .ok (.invokestatic 22, 3) := by decide +kernel
theorem dX0_sumOfLoopAreas_28 : decode cX0_sumOfLoopAreas 28 = .ok (.iadd, 1) := by decide +kernel
theorem dX0_sumOfLoopAreas_29 : decode cX0_sumOfLoopAreas 29 = .ok (.istore_n 1, 1) := by decide +kernel
theorem dX0_sumOfLoopAreas_30 : decode cX0_sumOfLoopAreas 30 = .ok (.iinc 2 1, 3) := by decide +kernel
theorem dX0_sumOfLoopAreas_33 : decode cX0_sumOfLoopAreas 33 = .ok (.goto (-29), 3) := by decide +kernel
theorem dX0_sumOfLoopAreas_36 : decode cX0_sumOfLoopAreas 36 = .ok (.iload_n 1, 1) := by decide +kernel
theorem dX0_sumOfLoopAreas_37 : decode cX0_sumOfLoopAreas 37 = .ok (.ireturn, 1) := by decide +kernel
theorem dX0_partAboveZero_0 : decode cX0_partAboveZero 0 = .ok (.iload_n 0, 1) := by decide +kernel
theorem dX0_partAboveZero_1 : decode cX0_partAboveZero 1 = .ok (.ifCond .lt 11, 3) := by decide +kernel
theorem dX0_partAboveZero_4 : decode cX0_partAboveZero 4 = .ok (.iload_n 1, 1) := by decide +kernel
theorem dX0_partAboveZero_5 : decode cX0_partAboveZero 5 = .ok (.ifCond .lt 7, 3) := by decide +kernel
theorem dX0_partAboveZero_8 : decode cX0_partAboveZero 8 = .ok (.iload_n 0, 1) := by decide +kernel
theorem dX0_partAboveZero_9 : decode cX0_partAboveZero 9 = .ok (.iload_n 1, 1) := by decide +kernel
theorem dX0_partAboveZero_10 : decode cX0_partAboveZero 10 = .ok (.iadd, 1) := by decide +kernel
theorem dX0_partAboveZero_11 : decode cX0_partAboveZero 11 = .ok (.ireturn, 1) := by decide +kernel
theorem dX0_partAboveZero_12 : decode cX0_partAboveZero 12 = .ok (.iload_n 0, 1) := by decide +kernel
theorem dX0_partAboveZero_13 : decode cX0_partAboveZero 13 = .ok (.ifCond .gt 9, 3) := by decide +kernel
theorem dX0_partAboveZero_16 : decode cX0_partAboveZero 16 = .ok (.iload_n 1, 1) := by decide +kernel
theorem dX0_partAboveZero_17 : decode cX0_partAboveZero 17 = .ok (.ifCond .gt 5, 3) := by decide +kernel
theorem dX0_partAboveZero_20 : decode cX0_partAboveZero 20 = .ok (.iconst 0, 1) := by decide +kernel
theorem dX0_partAboveZero_21 : decode cX0_partAboveZero 21 = .ok (.ireturn, 1) := by decide +kernel
theorem dX0_partAboveZero_22 : decode cX0_partAboveZero 22 = .ok (.iload_n 0, 1) := by decide +kernel
theorem dX0_partAboveZero_23 : decode cX0_partAboveZero 23 = .ok (.iload_n 1, 1) := by decide +kernel
theorem dX0_partAboveZero_24 : decode cX0_partAboveZero 24 = .ok (.invokestatic 26, 3) := by decide +kernel
theorem dX0_partAboveZero_27 : decode cX0_partAboveZero 27 = .ok (.istore_n 2, 1) := by decide +kernel
theorem dX0_partAboveZero_28 : decode cX0_partAboveZero 28 = .ok (.iload_n 0, 1) := by decide +kernel
theorem dX0_partAboveZero_29 : decode cX0_partAboveZero 29 = .ok (.iload_n 1, 1) := by decide +kernel
theorem dX0_partAboveZero_30 : decode cX0_partAboveZero 30 = .ok (.invokestatic 31, 3) := by decide +kernel
theorem dX0_partAboveZero_33 : decode cX0_partAboveZero 33 = .ok (.ineg, 1) := by decide +kernel
theorem dX0_partAboveZero_34 : decode cX0_partAboveZero 34 = .ok (.istore_n 3, 1) := by decide +kernel
theorem dX0_partAboveZero_35 : decode cX0_partAboveZero 35 = .ok (.iload_n 2, 1) := by decide +kernel
theorem dX0_partAboveZero_36 : decode cX0_partAboveZero 36 = .ok (.iload_n 2, 1) := by decide +kernel
theorem dX0_partAboveZero_37 : decode cX0_partAboveZero 37 = .ok (.imul, 1) := by decide +kernel
theorem dX0_partAboveZero_38 : decode cX0_partAboveZero 38 = .ok (.iload_n 2, 1) := by decide +kernel
theorem dX0_partAboveZero_39 : decode cX0_partAboveZero 39 = .ok (.iload_n 3, 1) := by decide +kernel
theorem dX0_partAboveZero_40 : decode cX0_partAboveZero 40 = .ok (.iadd, 1) := by decide +kernel
theorem dX0_partAboveZero_41 : decode cX0_partAboveZero 41 = .ok (.invokestatic 34, 3) := by decide +kernel
theorem dX0_partAboveZero_44 : decode cX0_partAboveZero 44 = .ok (.ireturn, 1) := by decide +kernel
theorem dX0_stationsBelowZero_0 : decode cX0_stationsBelowZero 0 = .ok (.iconst 0, 1) := by decide +kernel
theorem dX0_stationsBelowZero_1 : decode cX0_stationsBelowZero 1 = .ok (.istore_n 1, 1) := by decide +kernel
theorem dX0_stationsBelowZero_2 : decode cX0_stationsBelowZero 2 = .ok (.iconst 0, 1) := by decide +kernel
theorem dX0_stationsBelowZero_3 : decode cX0_stationsBelowZero 3 = .ok (.istore_n 2, 1) := by decide +kernel
theorem dX0_stationsBelowZero_4 : decode cX0_stationsBelowZero 4 = .ok (.iload_n 2, 1) := by decide +kernel
theorem dX0_stationsBelowZero_5 : decode cX0_stationsBelowZero 5 = .ok (.bipush 21, 2) := by decide +kernel
theorem dX0_stationsBelowZero_7 : decode cX0_stationsBelowZero 7 = .ok (.if_icmp .ge 23, 3) := by decide +kernel
theorem dX0_stationsBelowZero_10 : decode cX0_stationsBelowZero 10 = .ok (.aload_n 0, 1) := by decide +kernel
theorem dX0_stationsBelowZero_11 : decode cX0_stationsBelowZero 11 = .ok (.iload_n 2, 1) := by decide +kernel
theorem dX0_stationsBelowZero_12 : decode cX0_stationsBelowZero 12 = .ok (.invokevirtual 18, 3) := by decide +kernel
theorem dX0_stationsBelowZero_15 : decode cX0_stationsBelowZero 15 = .ok (.ifCond .ge 9, 3) := by decide +kernel
theorem dX0_stationsBelowZero_18 : decode cX0_stationsBelowZero 18 = .ok (.iload_n 1, 1) := by decide +kernel
theorem dX0_stationsBelowZero_19 : decode cX0_stationsBelowZero 19 = .ok (.iconst 1, 1) := by decide +kernel
theorem dX0_stationsBelowZero_20 : decode cX0_stationsBelowZero 20 = .ok (.iload_n 2, 1) := by decide +kernel
theorem dX0_stationsBelowZero_21 : decode cX0_stationsBelowZero 21 = .ok (.ishl, 1) := by decide +kernel
theorem dX0_stationsBelowZero_22 : decode cX0_stationsBelowZero 22 = .ok (.ior, 1) := by decide +kernel
theorem dX0_stationsBelowZero_23 : decode cX0_stationsBelowZero 23 = .ok (.istore_n 1, 1) := by decide +kernel
theorem dX0_stationsBelowZero_24 : decode cX0_stationsBelowZero 24 = .ok (.iinc 2 1, 3) := by decide +kernel
theorem dX0_stationsBelowZero_27 : decode cX0_stationsBelowZero 27 = .ok (.goto (-23), 3) := by decide +kernel
theorem dX0_stationsBelowZero_30 : decode cX0_stationsBelowZero 30 = .ok (.iload_n 1, 1) := by decide +kernel
theorem dX0_stationsBelowZero_31 : decode cX0_stationsBelowZero 31 = .ok (.ireturn, 1) := by decide +kernel
theorem dX1_init_0 : decode cX1_init 0 = .ok (.aload_n 0, 1) := by decide +kernel
theorem dX1_init_1 : decode cX1_init 1 = .ok (.invokespecial 3, 3) := by decide +kernel
theorem dX1_init_4 : decode cX1_init 4 = .ok (.aload_n 0, 1) := by decide +kernel
theorem dX1_init_5 : decode cX1_init 5 = .ok (.bipush 21, 2) := by decide +kernel
theorem dX1_init_7 : decode cX1_init 7 = .ok (.newarray .int, 2) := by decide +kernel
theorem dX1_init_9 : decode cX1_init 9 = .ok (.putfield 9, 3) := by decide +kernel
theorem dX1_init_12 : decode cX1_init 12 = .ok (.aload_n 0, 1) := by decide +kernel
theorem dX1_init_13 : decode cX1_init 13 = .ok (.bipush 21, 2) := by decide +kernel
theorem dX1_init_15 : decode cX1_init 15 = .ok (.newarray .int, 2) := by decide +kernel
theorem dX1_init_17 : decode cX1_init 17 = .ok (.putfield 15, 3) := by decide +kernel
theorem dX1_init_20 : decode cX1_init 20 = .ok (.return_, 1) := by decide +kernel
theorem dX1_begin_0 : decode cX1_begin 0 = .ok (.aload_n 0, 1) := by decide +kernel
theorem dX1_begin_1 : decode cX1_begin 1 = .ok (.iconst 1, 1) := by decide +kernel
theorem dX1_begin_2 : decode cX1_begin 2 = .ok (.putfield 18, 3) := by decide +kernel
theorem dX1_begin_5 : decode cX1_begin 5 = .ok (.aload_n 0, 1) := by decide +kernel
theorem dX1_begin_6 : decode cX1_begin 6 = .ok (.iload_n 1, 1) := by decide +kernel
theorem dX1_begin_7 : decode cX1_begin 7 = .ok (.putfield 22, 3) := by decide +kernel
theorem dX1_begin_10 : decode cX1_begin 10 = .ok (.aload_n 0, 1) := by decide +kernel
theorem dX1_begin_11 : decode cX1_begin 11 = .ok (.iload_n 2, 1) := by decide +kernel
theorem dX1_begin_12 : decode cX1_begin 12 = .ok (.putfield 26, 3) := by decide +kernel
theorem dX1_begin_15 : decode cX1_begin 15 = .ok (.iconst 0, 1) := by decide +kernel
theorem dX1_begin_16 : decode cX1_begin 16 = .ok (.istore_n 3, 1) := by decide +kernel
theorem dX1_begin_17 : decode cX1_begin 17 = .ok (.iload_n 3, 1) := by decide +kernel
theorem dX1_begin_18 : decode cX1_begin 18 = .ok (.bipush 21, 2) := by decide +kernel
theorem dX1_begin_20 : decode cX1_begin 20 = .ok (.if_icmp .ge 23, 3) := by decide +kernel
theorem dX1_begin_23 : decode cX1_begin 23 = .ok (.aload_n 0, 1) := by decide +kernel
theorem dX1_begin_24 : decode cX1_begin 24 = .ok (.getfield 9, 3) := by decide +kernel
theorem dX1_begin_27 : decode cX1_begin 27 = .ok (.iload_n 3, 1) := by decide +kernel
theorem dX1_begin_28 : decode cX1_begin 28 = .ok (.iconst (-1), 1) := by decide +kernel
theorem dX1_begin_29 : decode cX1_begin 29 = .ok (.iastore, 1) := by decide +kernel
theorem dX1_begin_30 : decode cX1_begin 30 = .ok (.aload_n 0, 1) := by decide +kernel
theorem dX1_begin_31 : decode cX1_begin 31 = .ok (.getfield 15, 3) := by decide +kernel
theorem dX1_begin_34 : decode cX1_begin 34 = .ok (.iload_n 3, 1) := by decide +kernel
theorem dX1_begin_35 : decode cX1_begin 35 = .ok (.iconst (-1), 1) := by decide +kernel
theorem dX1_begin_36 : decode cX1_begin 36 = .ok (.iastore, 1) := by decide +kernel
theorem dX1_begin_37 : decode cX1_begin 37 = .ok (.iinc 3 1, 3) := by decide +kernel
theorem dX1_begin_40 : decode cX1_begin 40 = .ok (.goto (-23), 3) := by decide +kernel
theorem dX1_begin_43 : decode cX1_begin 43 = .ok (.return_, 1) := by decide +kernel
theorem dX1_pointsOf_0 : decode cX1_pointsOf 0 = .ok (.iload_n 1, 1) := by decide +kernel
theorem dX1_pointsOf_1 : decode cX1_pointsOf 1 = .ok (.ifCond .ne 10, 3) := by decide +kernel
theorem dX1_pointsOf_4 : decode cX1_pointsOf 4 = .ok (.aload_n 0, 1) := by decide +kernel
theorem dX1_pointsOf_5 : decode cX1_pointsOf 5 = .ok (.getfield 9, 3) := by decide +kernel
theorem dX1_pointsOf_8 : decode cX1_pointsOf 8 = .ok (.goto 7, 3) := by decide +kernel
theorem dX1_pointsOf_11 : decode cX1_pointsOf 11 = .ok (.aload_n 0, 1) := by decide +kernel
theorem dX1_pointsOf_12 : decode cX1_pointsOf 12 = .ok (.getfield 15, 3) := by decide +kernel
theorem dX1_pointsOf_15 : decode cX1_pointsOf 15 = .ok (.areturn, 1) := by decide +kernel
theorem dX1_copyFrom_0 : decode cX1_copyFrom 0 = .ok (.aload_n 0, 1) := by decide +kernel
theorem dX1_copyFrom_1 : decode cX1_copyFrom 1 = .ok (.aload_n 1, 1) := by decide +kernel
theorem dX1_copyFrom_2 : decode cX1_copyFrom 2 = .ok (.getfield 18, 3) := by decide +kernel
theorem dX1_copyFrom_5 : decode cX1_copyFrom 5 = .ok (.putfield 18, 3) := by decide +kernel
theorem dX1_copyFrom_8 : decode cX1_copyFrom 8 = .ok (.aload_n 0, 1) := by decide +kernel
theorem dX1_copyFrom_9 : decode cX1_copyFrom 9 = .ok (.aload_n 1, 1) := by decide +kernel
theorem dX1_copyFrom_10 : decode cX1_copyFrom 10 = .ok (.getfield 22, 3) := by decide +kernel
theorem dX1_copyFrom_13 : decode cX1_copyFrom 13 = .ok (.putfield 22, 3) := by decide +kernel
theorem dX1_copyFrom_16 : decode cX1_copyFrom 16 = .ok (.aload_n 0, 1) := by decide +kernel
theorem dX1_copyFrom_17 : decode cX1_copyFrom 17 = .ok (.aload_n 1, 1) := by decide +kernel
theorem dX1_copyFrom_18 : decode cX1_copyFrom 18 = .ok (.getfield 26, 3) := by decide +kernel
theorem dX1_copyFrom_21 : decode cX1_copyFrom 21 = .ok (.putfield 26, 3) := by decide +kernel
theorem dX1_copyFrom_24 : decode cX1_copyFrom 24 = .ok (.aload_n 1, 1) := by decide +kernel
theorem dX1_copyFrom_25 : decode cX1_copyFrom 25 = .ok (.getfield 9, 3) := by decide +kernel
theorem dX1_copyFrom_28 : decode cX1_copyFrom 28 = .ok (.iconst 0, 1) := by decide +kernel
theorem dX1_copyFrom_29 : decode cX1_copyFrom 29 = .ok (.aload_n 0, 1) := by decide +kernel
theorem dX1_copyFrom_30 : decode cX1_copyFrom 30 = .ok (.getfield 9, 3) := by decide +kernel
theorem dX1_copyFrom_33 : decode cX1_copyFrom 33 = .ok (.iconst 0, 1) := by decide +kernel
theorem dX1_copyFrom_34 : decode cX1_copyFrom 34 = .ok (.bipush 21, 2) := by decide +kernel
theorem dX1_copyFrom_36 : decode cX1_copyFrom 36 = .ok (.invokestatic 29, 3) := by decide +kernel
theorem dX1_copyFrom_39 : decode cX1_copyFrom 39 = .ok (.aload_n 1, 1) := by decide +kernel
theorem dX1_copyFrom_40 : decode cX1_copyFrom 40 = .ok (.getfield 15, 3) := by decide +kernel
theorem dX1_copyFrom_43 : decode cX1_copyFrom 43 = .ok (.iconst 0, 1) := by decide +kernel
theorem dX1_copyFrom_44 : decode cX1_copyFrom 44 = .ok (.aload_n 0, 1) := by decide +kernel
theorem dX1_copyFrom_45 : decode cX1_copyFrom 45 = .ok (.getfield 15, 3) := by decide +kernel
theorem dX1_copyFrom_48 : decode cX1_copyFrom 48 = .ok (.iconst 0, 1) := by decide +kernel
theorem dX1_copyFrom_49 : decode cX1_copyFrom 49 = .ok (.bipush 21, 2) := by decide +kernel
theorem dX1_copyFrom_51 : decode cX1_copyFrom 51 = .ok (.invokestatic 29, 3) := by decide +kernel
theorem dX1_copyFrom_54 : decode cX1_copyFrom 54 = .ok (.return_, 1) := by decide +kernel
theorem dX2_init_0 : decode cX2_init 0 = .ok (.aload_n 0, 1) := by decide +kernel
theorem dX2_init_1 : decode cX2_init 1 = .ok (.invokespecial 3, 3) := by decide +kernel
theorem dX2_init_4 : decode cX2_init 4 = .ok (.aload_n 0, 1) := by decide +kernel
theorem dX2_init_5 : decode cX2_init 5 = .ok (.iconst 0, 1) := by decide +kernel
theorem dX2_init_6 : decode cX2_init 6 = .ok (.putfield 9, 3) := by decide +kernel
theorem dX2_init_9 : decode cX2_init 9 = .ok (.aload_n 0, 1) := by decide +kernel
theorem dX2_init_10 : decode cX2_init 10 = .ok (.bipush 8, 2) := by decide +kernel
theorem dX2_init_12 : decode cX2_init 12 = .ok (.putfield 15, 3) := by decide +kernel
theorem dX2_init_15 : decode cX2_init 15 = .ok (.aload_n 0, 1) := by decide +kernel
theorem dX2_init_16 : decode cX2_init 16 = .ok (.bipush 18, 2) := by decide +kernel
theorem dX2_init_18 : decode cX2_init 18 = .ok (.putfield 18, 3) := by decide +kernel
theorem dX2_init_21 : decode cX2_init 21 = .ok (.aload_n 0, 1) := by decide +kernel
theorem dX2_init_22 : decode cX2_init 22 = .ok (.iconst 4, 1) := by decide +kernel
theorem dX2_init_23 : decode cX2_init 23 = .ok (.putfield 21, 3) := by decide +kernel
theorem dX2_init_26 : decode cX2_init 26 = .ok (.return_, 1) := by decide +kernel
theorem dX2_copyShifted_0 : decode cX2_copyShifted 0 = .ok (.aload_n 0, 1) := by decide +kernel
theorem dX2_copyShifted_1 : decode cX2_copyShifted 1 = .ok (.aload_n 1, 1) := by decide +kernel
theorem dX2_copyShifted_2 : decode cX2_copyShifted 2 = .ok (.getfield 9, 3) := by decide +kernel
theorem dX2_copyShifted_5 : decode cX2_copyShifted 5 = .ok (.iload_n 2, 1) := by decide +kernel
theorem dX2_copyShifted_6 : decode cX2_copyShifted 6 = .ok (.iadd, 1) := by decide +kernel
theorem dX2_copyShifted_7 : decode cX2_copyShifted 7 = .ok (.putfield 9, 3) := by decide +kernel
theorem dX2_copyShifted_10 : decode cX2_copyShifted 10 = .ok (.aload_n 0, 1) := by decide +kernel
theorem dX2_copyShifted_11 : decode cX2_copyShifted 11 = .ok (.aload_n 1, 1) := by decide +kernel
theorem dX2_copyShifted_12 : decode cX2_copyShifted 12 = .ok (.getfield 15, 3) := by decide +kernel
theorem dX2_copyShifted_15 : decode cX2_copyShifted 15 = .ok (.iload_n 2, 1) := by decide +kernel
theorem dX2_copyShifted_16 : decode cX2_copyShifted 16 = .ok (.iadd, 1) := by decide +kernel
theorem dX2_copyShifted_17 : decode cX2_copyShifted 17 = .ok (.putfield 15, 3) := by decide +kernel
theorem dX2_copyShifted_20 : decode cX2_copyShifted 20 = .ok (.aload_n 0, 1) := by decide +kernel
theorem dX2_copyShifted_21 : decode cX2_copyShifted 21 = .ok (.aload_n 1, 1) := by decide +kernel
theorem dX2_copyShifted_22 : decode cX2_copyShifted 22 = .ok (.getfield 18, 3) := by decide +kernel
theorem dX2_copyShifted_25 : decode cX2_copyShifted 25 = .ok (.iload_n 2, 1) := by decide +kernel
theorem dX2_copyShifted_26 : decode cX2_copyShifted 26 = .ok (.iadd, 1) := by decide +kernel
theorem dX2_copyShifted_27 : decode cX2_copyShifted 27 = .ok (.putfield 18, 3) := by decide +kernel
theorem dX2_copyShifted_30 : decode cX2_copyShifted 30 = .ok (.aload_n 0, 1) := by decide +kernel
theorem dX2_copyShifted_31 : decode cX2_copyShifted 31 = .ok (.aload_n 1, 1) := by decide +kernel
theorem dX2_copyShifted_32 : decode cX2_copyShifted 32 = .ok (.getfield 21, 3) := by decide +kernel
theorem dX2_copyShifted_35 : decode cX2_copyShifted 35 = .ok (.iload_n 2, 1) := by decide +kernel
theorem dX2_copyShifted_36 : decode cX2_copyShifted 36 = .ok (.isub, 1) := by decide +kernel
theorem dX2_copyShifted_37 : decode cX2_copyShifted 37 = .ok (.putfield 21, 3) := by decide +kernel
theorem dX2_copyShifted_40 : decode cX2_copyShifted 40 = .ok (.return_, 1) := by decide +kernel
theorem dX2_stationOf_0 : decode cX2_stationOf 0 = .ok (.iload_n 1, 1) := by decide +kernel
theorem dX2_stationOf_1 : decode cX2_stationOf 1 = .ok (.tableswitch 42 0 2 #[27, 32, 37], 27) := by decide +kernel
theorem dX2_stationOf_28 : decode cX2_stationOf 28 = .ok (.aload_n 0, 1) := by decide +kernel
theorem dX2_stationOf_29 : decode cX2_stationOf 29 = .ok (.getfield 9, 3) := by decide +kernel
theorem dX2_stationOf_32 : decode cX2_stationOf 32 = .ok (.ireturn, 1) := by decide +kernel
theorem dX2_stationOf_33 : decode cX2_stationOf 33 = .ok (.aload_n 0, 1) := by decide +kernel
theorem dX2_stationOf_34 : decode cX2_stationOf 34 = .ok (.getfield 15, 3) := by decide +kernel
theorem dX2_stationOf_37 : decode cX2_stationOf 37 = .ok (.ireturn, 1) := by decide +kernel
theorem dX2_stationOf_38 : decode cX2_stationOf 38 = .ok (.aload_n 0, 1) := by decide +kernel
theorem dX2_stationOf_39 : decode cX2_stationOf 39 = .ok (.getfield 18, 3) := by decide +kernel
theorem dX2_stationOf_42 : decode cX2_stationOf 42 = .ok (.ireturn, 1) := by decide +kernel
theorem dX2_stationOf_43 : decode cX2_stationOf 43 = .ok (.aload_n 0, 1) := by decide +kernel
theorem dX2_stationOf_44 : decode cX2_stationOf 44 = .ok (.getfield 21, 3) := by decide +kernel
theorem dX2_stationOf_47 : decode cX2_stationOf 47 = .ok (.ireturn, 1) := by decide +kernel
theorem dX2_existAsIdealCard_0 : decode cX2_existAsIdealCard 0 = .ok (.aload_n 0, 1) := by decide +kernel
theorem dX2_existAsIdealCard_1 : decode cX2_existAsIdealCard 1 = .ok (.getfield 9, 3) := by decide +kernel
theorem dX2_existAsIdealCard_4 : decode cX2_existAsIdealCard 4 = .ok (.iconst 0, 1) := by decide +kernel
theorem dX2_existAsIdealCard_5 : decode cX2_existAsIdealCard 5 = .ok (.bipush 8, 2) := by decide +kernel
theorem dX2_existAsIdealCard_7 : decode cX2_existAsIdealCard 7 = .ok (.invokestatic 24, 3) := by decide +kernel
theorem dX2_existAsIdealCard_10 : decode cX2_existAsIdealCard 10 = .ok (.ifCond .eq 46, 3) := by decide +kernel
theorem dX2_existAsIdealCard_13 : decode cX2_existAsIdealCard 13 = .ok (.aload_n 0, 1) := by decide +kernel
theorem dX2_existAsIdealCard_14 : decode cX2_existAsIdealCard 14 = .ok (.getfield 15, 3) := by decide +kernel
theorem dX2_existAsIdealCard_17 : decode cX2_existAsIdealCard 17 = .ok (.iconst 1, 1) := by decide +kernel
theorem dX2_existAsIdealCard_18 : decode cX2_existAsIdealCard 18 = .ok (.bipush 19, 2) := by decide +kernel
theorem dX2_existAsIdealCard_20 : decode cX2_existAsIdealCard 20 = .ok (.invokestatic 24, 3) := by decide +kernel
theorem dX2_existAsIdealCard_23 : decode cX2_existAsIdealCard 23 = .ok (.ifCond .eq 33, 3) := by decide +kernel
theorem dX2_existAsIdealCard_26 : decode cX2_existAsIdealCard 26 = .ok (.aload_n 0, 1) := by decide +kernel
theorem dX2_existAsIdealCard_27 : decode cX2_existAsIdealCard 27 = .ok (.getfield 18, 3) := by decide +kernel
theorem dX2_existAsIdealCard_30 : decode cX2_existAsIdealCard 30 = .ok (.iconst 2, 1) := by decide +kernel
theorem dX2_existAsIdealCard_31 : decode cX2_existAsIdealCard 31 = .ok (.bipush 20, 2) := by decide +kernel
theorem dX2_existAsIdealCard_33 : decode cX2_existAsIdealCard 33 = .ok (.invokestatic 24, 3) := by decide +kernel
theorem dX2_existAsIdealCard_36 : decode cX2_existAsIdealCard 36 = .ok (.ifCond .eq 20, 3) := by decide +kernel
theorem dX2_existAsIdealCard_39 : decode cX2_existAsIdealCard 39 = .ok (.aload_n 0, 1) := by decide +kernel
theorem dX2_existAsIdealCard_40 : decode cX2_existAsIdealCard 40 = .ok (.getfield 21, 3) := by decide +kernel
theorem dX2_existAsIdealCard_43 : decode cX2_existAsIdealCard 43 = .ok (.iconst 0, 1) := by decide +kernel
theorem dX2_existAsIdealCard_44 : decode cX2_existAsIdealCard 44 = .ok (.bipush 19, 2) := by decide +kernel
theorem dX2_existAsIdealCard_46 : decode cX2_existAsIdealCard 46 = .ok (.invokestatic 24, 3) := by decide +kernel
theorem dX2_existAsIdealCard_49 : decode cX2_existAsIdealCard 49 = .ok (.ifCond .eq 7, 3) := by decide +kernel
theorem dX2_existAsIdealCard_52 : decode cX2_existAsIdealCard 52 = .ok (.iconst 1, 1) := by decide +kernel
theorem dX2_existAsIdealCard_53 : decode cX2_existAsIdealCard 53 = .ok (.goto 4, 3) := by decide +kernel
theorem dX2_existAsIdealCard_56 : decode cX2_existAsIdealCard 56 = .ok (.iconst 0, 1) := by decide +kernel
theorem dX2_existAsIdealCard_57 : decode cX2_existAsIdealCard 57 = .ok (.ireturn, 1) := by decide +kernel
theorem dX3_init_0 : decode cX3_init 0 = .ok (.aload_n 0, 1) := by decide +kernel
theorem dX3_init_1 : decode cX3_init 1 = .ok (.invokespecial 3, 3) := by decide +kernel
theorem dX3_init_4 : decode cX3_init 4 = .ok (.aload_n 0, 1) := by decide +kernel
theorem dX3_init_5 : decode cX3_init 5 = .ok (.iconst 2, 1) := by decide +kernel
theorem dX3_init_6 : decode cX3_init 6 = .ok (.putfield 9, 3) := by decide +kernel
theorem dX3_init_9 : decode cX3_init 9 = .ok (.aload_n 0, 1) := by decide +kernel
theorem dX3_init_10 : decode cX3_init 10 = .ok (.sipush 1000, 3) := by decide +kernel
theorem dX3_init_13 : decode cX3_init 13 = .ok (.putfield 15, 3) := by decide +kernel
theorem dX3_init_16 : decode cX3_init 16 = .ok (.aload_n 0, 1) := by decide +kernel
theorem dX3_init_17 : decode cX3_init 17 = .ok (.sipush 900, 3) := by decide +kernel
theorem dX3_init_20 : decode cX3_init 20 = .ok (.putfield 18, 3) := by decide +kernel
theorem dX3_init_23 : decode cX3_init 23 = .ok (.aload_n 0, 1) := by decide +kernel
theorem dX3_init_24 : decode cX3_init 24 = .ok (.bipush 60, 2) := by decide +kernel
theorem dX3_init_26 : decode cX3_init 26 = .ok (.putfield 21, 3) := by decide +kernel
theorem dX3_init_29 : decode cX3_init 29 = .ok (.aload_n 0, 1) := by decide +kernel
theorem dX3_init_30 : decode cX3_init 30 = .ok (.sipush 800, 3) := by decide +kernel
theorem dX3_init_33 : decode cX3_init 33 = .ok (.putfield 24, 3) := by decide +kernel
theorem dX3_init_36 : decode cX3_init 36 = .ok (.aload_n 0, 1) := by decide +kernel
theorem dX3_init_37 : decode cX3_init 37 = .ok (.bipush 50, 2) := by decide +kernel
theorem dX3_init_39 : decode cX3_init 39 = .ok (.putfield 27, 3) := by decide +kernel
theorem dX3_init_42 : decode cX3_init 42 = .ok (.aload_n 0, 1) := by decide +kernel
theorem dX3_init_43 : decode cX3_init 43 = .ok (.bipush 10, 2) := by decide +kernel
theorem dX3_init_45 : decode cX3_init 45 = .ok (.putfield 30, 3) := by decide +kernel
theorem dX3_init_48 : decode cX3_init 48 = .ok (.aload_n 0, 1) := by decide +kernel
theorem dX3_init_49 : decode cX3_init 49 = .ok (.iconst 5, 1) := by decide +kernel
theorem dX3_init_50 : decode cX3_init 50 = .ok (.putfield 33, 3) := by decide +kernel
theorem dX3_init_53 : decode cX3_init 53 = .ok (.aload_n 0, 1) := by decide +kernel
theorem dX3_init_54 : decode cX3_init 54 = .ok (.new 36, 3) := by decide +kernel
theorem dX3_init_57 : decode cX3_init 57 = .ok (.dup, 1) := by decide +kernel
theorem dX3_init_58 : decode cX3_init 58 = .ok (.invokespecial 38, 3) := by decide +kernel
theorem dX3_init_61 : decode cX3_init 61 = .ok (.putfield 39, 3) := by decide +kernel
theorem dX3_init_64 : decode cX3_init 64 = .ok (.aload_n 0, 1) := by decide +kernel
theorem dX3_init_65 : decode cX3_init 65 = .ok (.new 36, 3) := by decide +kernel
theorem dX3_init_68 : decode cX3_init 68 = .ok (.dup, 1) := by decide +kernel
theorem dX3_init_69 : decode cX3_init 69 = .ok (.invokespecial 38, 3) := by decide +kernel
theorem dX3_init_72 : decode cX3_init 72 = .ok (.putfield 43, 3) := by decide +kernel
theorem dX3_init_75 : decode cX3_init 75 = .ok (.aload_n 0, 1) := by decide +kernel
theorem dX3_init_76 : decode cX3_init 76 = .ok (.new 46, 3) := by decide +kernel
theorem dX3_init_79 : decode cX3_init 79 = .ok (.dup, 1) := by decide +kernel
theorem dX3_init_80 : decode cX3_init 80 = .ok (.invokespecial 48, 3) := by decide +kernel
theorem dX3_init_83 : decode cX3_init 83 = .ok (.putfield 49, 3) := by decide +kernel
theorem dX3_init_86 : decode cX3_init 86 = .ok (.aload_n 0, 1) := by decide +kernel
theorem dX3_init_87 : decode cX3_init 87 = .ok (.bipush 10, 2) := by decide +kernel
theorem dX3_init_89 : decode cX3_init 89 = .ok (.anewarray 53, 3) := by decide +kernel
theorem dX3_init_92 : decode cX3_init 92 = .ok (.putfield 55, 3) := by decide +kernel
theorem dX3_init_95 : decode cX3_init 95 = .ok (.iconst 0, 1) := by decide +kernel
theorem dX3_init_96 : decode cX3_init 96 = .ok (.istore_n 2, 1) := by decide +kernel
theorem dX3_init_97 : decode cX3_init 97 = .ok (.iload_n 2, 1) := by decide +kernel
theorem dX3_init_98 : decode cX3_init 98 = .ok (.bipush 10, 2) := by decide +kernel
theorem dX3_init_100 : decode cX3_init 100 = .ok (.if_icmp .ge 16, 3) := by decide +kernel
theorem dX3_init_103 : decode cX3_init 103 = .ok (.aload_n 0, 1) := by decide +kernel
theorem dX3_init_104 : decode cX3_init 104 = .ok (.getfield 55, 3) := by decide +kernel
theorem dX3_init_107 : decode cX3_init 107 = .ok (.iload_n 2, 1) := by decide +kernel
theorem dX3_init_108 : decode cX3_init 108 = .ok (.aload_n 1, 1) := by decide +kernel
theorem dX3_init_109 : decode cX3_init 109 = .ok (.aastore, 1) := by decide +kernel
theorem dX3_init_110 : decode cX3_init 110 = .ok (.iinc 2 1, 3) := by decide +kernel
theorem dX3_init_113 : decode cX3_init 113 = .ok (.goto (-16), 3) := by decide +kernel
theorem dX3_init_116 : decode cX3_init 116 = .ok (.aload_n 0, 1) := by decide +kernel
theorem dX3_init_117 : decode cX3_init 117 = .ok (.iconst 0, 1) := by decide +kernel
theorem dX3_init_118 : decode cX3_init 118 = .ok (.putfield 59, 3) := by decide +kernel
theorem dX3_init_121 : decode cX3_init 121 = .ok (.return_, 1) := by decide +kernel
theorem dX3_pistonAreaOf_0 : decode cX3_pistonAreaOf 0 = .ok (.iload_n 1, 1) := by decide +kernel
theorem dX3_pistonAreaOf_1 : decode cX3_pistonAreaOf 1 = .ok (.ifCond .ne 10, 3) := by decide +kernel
theorem dX3_pistonAreaOf_4 : decode cX3_pistonAreaOf 4 = .ok (.aload_n 0, 1) := by decide +kernel
theorem dX3_pistonAreaOf_5 : decode cX3_pistonAreaOf 5 = .ok (.getfield 15, 3) := by decide +kernel
theorem dX3_pistonAreaOf_8 : decode cX3_pistonAreaOf 8 = .ok (.goto 7, 3) := by decide +kernel
theorem dX3_pistonAreaOf_11 : decode cX3_pistonAreaOf 11 = .ok (.aload_n 0, 1) := by decide +kernel
theorem dX3_pistonAreaOf_12 : decode cX3_pistonAreaOf 12 = .ok (.getfield 18, 3) := by decide +kernel
theorem dX3_pistonAreaOf_15 : decode cX3_pistonAreaOf 15 = .ok (.ireturn, 1) := by decide +kernel
theorem dX3_valvesOf_0 : decode cX3_valvesOf 0 = .ok (.iload_n 1, 1) := by decide +kernel
theorem dX3_valvesOf_1 : decode cX3_valvesOf 1 = .ok (.ifCond .ne 10, 3) := by decide +kernel
theorem dX3_valvesOf_4 : decode cX3_valvesOf 4 = .ok (.aload_n 0, 1) := by decide +kernel
theorem dX3_valvesOf_5 : decode cX3_valvesOf 5 = .ok (.getfield 39, 3) := by decide +kernel
theorem dX3_valvesOf_8 : decode cX3_valvesOf 8 = .ok (.goto 7, 3) := by decide +kernel
theorem dX3_valvesOf_11 : decode cX3_valvesOf 11 = .ok (.aload_n 0, 1) := by decide +kernel
theorem dX3_valvesOf_12 : decode cX3_valvesOf 12 = .ok (.getfield 43, 3) := by decide +kernel
theorem dX3_valvesOf_15 : decode cX3_valvesOf 15 = .ok (.areturn, 1) := by decide +kernel
theorem dX3_volumeAt_0 : decode cX3_volumeAt 0 = .ok (.aload_n 0, 1) := by decide +kernel
theorem dX3_volumeAt_1 : decode cX3_volumeAt 1 = .ok (.getfield 9, 3) := by decide +kernel
theorem dX3_volumeAt_4 : decode cX3_volumeAt 4 = .ok (.iload_n 1, 1) := by decide +kernel
theorem dX3_volumeAt_5 : decode cX3_volumeAt 5 = .ok (.iadd, 1) := by decide +kernel
theorem dX3_volumeAt_6 : decode cX3_volumeAt 6 = .ok (.ireturn, 1) := by decide +kernel
theorem dX3_dropCard_0 : decode cX3_dropCard 0 = .ok (.iload_n 1, 1) := by decide +kernel
theorem dX3_dropCard_1 : decode cX3_dropCard 1 = .ok (.iconst 1, 1) := by decide +kernel
theorem dX3_dropCard_2 : decode cX3_dropCard 2 = .ok (.iadd, 1) := by decide +kernel
theorem dX3_dropCard_3 : decode cX3_dropCard 3 = .ok (.istore_n 2, 1) := by decide +kernel
theorem dX3_dropCard_4 : decode cX3_dropCard 4 = .ok (.iload_n 2, 1) := by decide +kernel
theorem dX3_dropCard_5 : decode cX3_dropCard 5 = .ok (.aload_n 0, 1) := by decide +kernel
theorem dX3_dropCard_6 : decode cX3_dropCard 6 = .ok (.getfield 59, 3) := by decide +kernel
theorem dX3_dropCard_9 : decode cX3_dropCard 9 = .ok (.if_icmp .ge 23, 3) := by decide +kernel
theorem dX3_dropCard_12 : decode cX3_dropCard 12 = .ok (.aload_n 0, 1) := by decide +kernel
theorem dX3_dropCard_13 : decode cX3_dropCard 13 = .ok (.getfield 55, 3) := by decide +kernel
theorem dX3_dropCard_16 : decode cX3_dropCard 16 = .ok (.iload_n 2, 1) := by decide +kernel
theorem dX3_dropCard_17 : decode cX3_dropCard 17 = .ok (.iconst 1, 1) := by decide +kernel
theorem dX3_dropCard_18 : decode cX3_dropCard 18 = .ok (.isub, 1) := by decide +kernel
theorem dX3_dropCard_19 : decode cX3_dropCard 19 = .ok (.aload_n 0, 1) := by decide +kernel
theorem dX3_dropCard_20 : decode cX3_dropCard 20 = .ok (.getfield 55, 3) := by decide +kernel
theorem dX3_dropCard_23 : decode cX3_dropCard 23 = .ok (.iload_n 2, 1) := by decide +kernel
theorem dX3_dropCard_24 : decode cX3_dropCard 24 = .ok (.aaload, 1) := by decide +kernel
theorem dX3_dropCard_25 : decode cX3_dropCard 25 = .ok (.aastore, 1) := by decide +kernel
theorem dX3_dropCard_26 : decode cX3_dropCard 26 = .ok (.iinc 2 1, 3) := by decide +kernel
theorem dX3_dropCard_29 : decode cX3_dropCard 29 = .ok (.goto (-25), 3) := by decide +kernel
theorem dX3_dropCard_32 : decode cX3_dropCard 32 = .ok (.aload_n 0, 1) := by decide +kernel
theorem dX3_dropCard_33 : decode cX3_dropCard 33 = .ok (.dup, 1) := by decide +kernel
theorem dX3_dropCard_34 : decode cX3_dropCard 34 = .ok (.getfield 59, 3) := by decide +kernel
theorem dX3_dropCard_37 : decode cX3_dropCard 37 = .ok (.iconst 1, 1) := by decide +kernel
theorem dX3_dropCard_38 : decode cX3_dropCard 38 = .ok (.isub, 1) := by decide +kernel
theorem dX3_dropCard_39 : decode cX3_dropCard 39 = .ok (.putfield 59, 3) := by decide +kernel
theorem dX3_dropCard_42 : decode cX3_dropCard 42 = .ok (.return_, 1) := by decide +kernel
theorem dX3_copyFrom_0 : decode cX3_copyFrom 0 = .ok (.aload_n 0, 1) := by decide +kernel
theorem dX3_copyFrom_1 : decode cX3_copyFrom 1 = .ok (.aload_n 1, 1) := by decide +kernel
theorem dX3_copyFrom_2 : decode cX3_copyFrom 2 = .ok (.getfield 9, 3) := by decide +kernel
theorem dX3_copyFrom_5 : decode cX3_copyFrom 5 = .ok (.putfield 9, 3) := by decide +kernel
theorem dX3_copyFrom_8 : decode cX3_copyFrom 8 = .ok (.aload_n 0, 1) := by decide +kernel
theorem dX3_copyFrom_9 : decode cX3_copyFrom 9 = .ok (.aload_n 1, 1) := by decide +kernel
theorem dX3_copyFrom_10 : decode cX3_copyFrom 10 = .ok (.getfield 15, 3) := by decide +kernel
theorem dX3_copyFrom_13 : decode cX3_copyFrom 13 = .ok (.putfield 15, 3) := by decide +kernel
theorem dX3_copyFrom_16 : decode cX3_copyFrom 16 = .ok (.aload_n 0, 1) := by decide +kernel
theorem dX3_copyFrom_17 : decode cX3_copyFrom 17 = .ok (.aload_n 1, 1) := by decide +kernel
theorem dX3_copyFrom_18 : decode cX3_copyFrom 18 = .ok (.getfield 18, 3) := by decide +kernel
theorem dX3_copyFrom_21 : decode cX3_copyFrom 21 = .ok (.putfield 18, 3) := by decide +kernel
theorem dX3_copyFrom_24 : decode cX3_copyFrom 24 = .ok (.aload_n 0, 1) := by decide +kernel
theorem dX3_copyFrom_25 : decode cX3_copyFrom 25 = .ok (.aload_n 1, 1) := by decide +kernel
theorem dX3_copyFrom_26 : decode cX3_copyFrom 26 = .ok (.getfield 21, 3) := by decide +kernel
theorem dX3_copyFrom_29 : decode cX3_copyFrom 29 = .ok (.putfield 21, 3) := by decide +kernel
theorem dX3_copyFrom_32 : decode cX3_copyFrom 32 = .ok (.aload_n 0, 1) := by decide +kernel
theorem dX3_copyFrom_33 : decode cX3_copyFrom 33 = .ok (.aload_n 1, 1) := by decide +kernel
theorem dX3_copyFrom_34 : decode cX3_copyFrom 34 = .ok (.getfield 24, 3) := by decide +kernel
theorem dX3_copyFrom_37 : decode cX3_copyFrom 37 = .ok (.putfield 24, 3) := by decide +kernel
theorem dX3_copyFrom_40 : decode cX3_copyFrom 40 = .ok (.aload_n 0, 1) := by decide +kernel
theorem dX3_copyFrom_41 : decode cX3_copyFrom 41 = .ok (.aload_n 1, 1) := by decide +kernel
theorem dX3_copyFrom_42 : decode cX3_copyFrom 42 = .ok (.getfield 27, 3) := by decide +kernel
theorem dX3_copyFrom_45 : decode cX3_copyFrom 45 = .ok (.putfield 27, 3) := by decide +kernel
theorem dX3_copyFrom_48 : decode cX3_copyFrom 48 = .ok (.aload_n 0, 1) := by decide +kernel
theorem dX3_copyFrom_49 : decode cX3_copyFrom 49 = .ok (.aload_n 1, 1) := by decide +kernel
theorem dX3_copyFrom_50 : decode cX3_copyFrom 50 = .ok (.getfield 30, 3) := by decide +kernel
theorem dX3_copyFrom_53 : decode cX3_copyFrom 53 = .ok (.putfield 30, 3) := by decide +kernel
theorem dX3_copyFrom_56 : decode cX3_copyFrom 56 = .ok (.aload_n 0, 1) := by decide +kernel
theorem dX3_copyFrom_57 : decode cX3_copyFrom 57 = .ok (.aload_n 1, 1) := by decide +kernel
theorem dX3_copyFrom_58 : decode cX3_copyFrom 58 = .ok (.getfield 33, 3) := by decide +kernel
theorem dX3_copyFrom_61 : decode cX3_copyFrom 61 = .ok (.putfield 33, 3) := by decide +kernel
theorem dX3_copyFrom_64 : decode cX3_copyFrom 64 = .ok (.aload_n 0, 1) := by decide +kernel
theorem dX3_copyFrom_65 : decode cX3_copyFrom 65 = .ok (.getfield 39, 3) := by decide +kernel
theorem dX3_copyFrom_68 : decode cX3_copyFrom 68 = .ok (.aload_n 1, 1) := by decide +kernel
theorem dX3_copyFrom_69 : decode cX3_copyFrom 69 = .ok (.getfield 39, 3) := by decide +kernel
theorem dX3_copyFrom_72 : decode cX3_copyFrom 72 = .ok (.iconst 0, 1) := by decide +kernel
theorem dX3_copyFrom_73 : decode cX3_copyFrom 73 = .ok (.invokevirtual 62, 3) := by decide +kernel
theorem dX3_copyFrom_76 : decode cX3_copyFrom 76 = .ok (.aload_n 0, 1) := by decide +kernel
theorem dX3_copyFrom_77 : decode cX3_copyFrom 77 = .ok (.getfield 43, 3) := by decide +kernel
theorem dX3_copyFrom_80 : decode cX3_copyFrom 80 = .ok (.aload_n 1, 1) := by decide +kernel
theorem dX3_copyFrom_81 : decode cX3_copyFrom 81 = .ok (.getfield 43, 3) := by decide +kernel
theorem dX3_copyFrom_84 : decode cX3_copyFrom 84 = .ok (.iconst 0, 1) := by decide +kernel
theorem dX3_copyFrom_85 : decode cX3_copyFrom 85 = .ok (.invokevirtual 62, 3) := by decide +kernel
theorem dX3_copyFrom_88 : decode cX3_copyFrom 88 = .ok (.aload_n 0, 1) := by decide +kernel
theorem dX3_copyFrom_89 : decode cX3_copyFrom 89 = .ok (.getfield 49, 3) := by decide +kernel
theorem dX3_copyFrom_92 : decode cX3_copyFrom 92 = .ok (.aload_n 1, 1) := by decide +kernel
theorem dX3_copyFrom_93 : decode cX3_copyFrom 93 = .ok (.getfield 49, 3) := by decide +kernel
theorem dX3_copyFrom_96 : decode cX3_copyFrom 96 = .ok (.invokevirtual 66, 3) := by decide +kernel
theorem dX3_copyFrom_99 : decode cX3_copyFrom 99 = .ok (.iconst 0, 1) := by decide +kernel
theorem dX3_copyFrom_100 : decode cX3_copyFrom 100 = .ok (.istore_n 2, 1) := by decide +kernel
theorem dX3_copyFrom_101 : decode cX3_copyFrom 101 = .ok (.iload_n 2, 1) := by decide +kernel
theorem dX3_copyFrom_102 : decode cX3_copyFrom 102 = .ok (.bipush 10, 2) := by decide +kernel
theorem dX3_copyFrom_104 : decode cX3_copyFrom 104 = .ok (.if_icmp .ge 21, 3) := by decide +kernel
theorem dX3_copyFrom_107 : decode cX3_copyFrom 107 = .ok (.aload_n 0, 1) := by decide +kernel
theorem dX3_copyFrom_108 : decode cX3_copyFrom 108 = .ok (.getfield 55, 3) := by decide +kernel
theorem dX3_copyFrom_111 : decode cX3_copyFrom 111 = .ok (.iload_n 2, 1) := by decide +kernel
theorem dX3_copyFrom_112 : decode cX3_copyFrom 112 = .ok (.aload_n 1, 1) := by decide +kernel
theorem dX3_copyFrom_113 : decode cX3_copyFrom 113 = .ok (.getfield 55, 3) := by decide +kernel
theorem dX3_copyFrom_116 : decode cX3_copyFrom 116 = .ok (.iload_n 2, 1) := by decide +kernel
theorem dX3_copyFrom_117 : decode cX3_copyFrom 117 = .ok (.aaload, 1) := by decide +kernel
theorem dX3_copyFrom_118 : decode cX3_copyFrom 118 = .ok (.aastore, 1) := by decide +kernel
theorem dX3_copyFrom_119 : decode cX3_copyFrom 119 = .ok (.iinc 2 1, 3) := by decide +kernel
theorem dX3_copyFrom_122 : decode cX3_copyFrom 122 = .ok (.goto (-21), 3) := by decide +kernel
theorem dX3_copyFrom_125 : decode cX3_copyFrom 125 = .ok (.aload_n 0, 1) := by decide +kernel
theorem dX3_copyFrom_126 : decode cX3_copyFrom 126 = .ok (.aload_n 1, 1) := by decide +kernel
theorem dX3_copyFrom_127 : decode cX3_copyFrom 127 = .ok (.getfield 59, 3) := by decide +kernel
theorem dX3_copyFrom_130 : decode cX3_copyFrom 130 = .ok (.putfield 59, 3) := by decide +kernel
theorem dX3_copyFrom_133 : decode cX3_copyFrom 133 = .ok (.return_, 1) := by decide +kernel
theorem dJ9_floorDiv_7cf53_0 : decode cJ9_floorDiv_7cf53 0 = .ok (.iload_n 0, 1) := by decide +kernel
theorem dJ9_floorDiv_7cf53_1 : decode cJ9_floorDiv_7cf53 1 = .ok (.iload_n 1, 1) := by decide +kernel
theorem dJ9_floorDiv_7cf53_2 : decode cJ9_floorDiv_7cf53 2 = .ok (.idiv, 1) := by decide +kernel
theorem dJ9_floorDiv_7cf53_3 : decode cJ9_floorDiv_7cf53 3 = .ok (.istore_n 2, 1) := by decide +kernel
theorem dJ9_floorDiv_7cf53_4 : decode cJ9_floorDiv_7cf53 4 = .ok (.iload_n 0, 1) := by decide +kernel
theorem dJ9_floorDiv_7cf53_5 : decode cJ9_floorDiv_7cf53 5 = .ok (.iload_n 1, 1) := by decide +kernel
theorem dJ9_floorDiv_7cf53_6 : decode cJ9_floorDiv_7cf53 6 = .ok (.ixor, 1) := by decide +kernel
theorem dJ9_floorDiv_7cf53_7 : decode cJ9_floorDiv_7cf53 7 = .ok (.ifCond .ge 14, 3) := by decide +kernel
theorem dJ9_floorDiv_7cf53_10 : decode cJ9_floorDiv_7cf53 10 = .ok (.iload_n 2, 1) := by decide +kernel
theorem dJ9_floorDiv_7cf53_11 : decode cJ9_floorDiv_7cf53 11 = .ok (.iload_n 1, 1) := by decide +kernel
theorem dJ9_floorDiv_7cf53_12 : decode cJ9_floorDiv_7cf53 12 = .ok (.imul, 1) := by decide +kernel
theorem dJ9_floorDiv_7cf53_13 : decode cJ9_floorDiv_7cf53 13 = .ok (.iload_n 0, 1) := by decide +kernel
theorem dJ9_floorDiv_7cf53_14 : decode cJ9_floorDiv_7cf53 14 = .ok (.if_icmp .eq 7, 3) := by decide +kernel
theorem dJ9_floorDiv_7cf53_17 : decode cJ9_floorDiv_7cf53 17 = .ok (.iload_n 2, 1) := by decide +kernel
theorem dJ9_floorDiv_7cf53_18 : decode cJ9_floorDiv_7cf53 18 = .ok (.iconst 1, 1) := by decide +kernel
theorem dJ9_floorDiv_7cf53_19 : decode cJ9_floorDiv_7cf53 19 = .ok (.isub, 1) := by decide +kernel
theorem dJ9_floorDiv_7cf53_20 : decode cJ9_floorDiv_7cf53 20 = .ok (.ireturn, 1) := by decide +kernel
theorem dJ9_floorDiv_7cf53_21 : decode cJ9_floorDiv_7cf53 21 = .ok (.iload_n 2, 1) := by decide +kernel
theorem dJ9_floorDiv_7cf53_22 : decode cJ9_floorDiv_7cf53 22 = .ok (.ireturn, 1) := by decide +kernel
theorem dJ9_floorDiv_f86c9_0 : decode cJ9_floorDiv_f86c9 0 = .ok (.lload_n 0, 1) := by decide +kernel
theorem dJ9_floorDiv_f86c9_1 : decode cJ9_floorDiv_f86c9 1 = .ok (.lload_n 2, 1) := by decide +kernel
theorem dJ9_floorDiv_f86c9_2 : decode cJ9_floorDiv_f86c9 2 = .ok (.ldiv, 1) := by decide +kernel
theorem dJ9_floorDiv_f86c9_3 : decode cJ9_floorDiv_f86c9 3 = .ok (.lstore 4, 2) := by decide +kernel
theorem dJ9_floorDiv_f86c9_5 : decode cJ9_floorDiv_f86c9 5 = .ok (.lload_n 0, 1) := by decide +kernel
theorem dJ9_floorDiv_f86c9_6 : decode cJ9_floorDiv_f86c9 6 = .ok (.lload_n 2, 1) := by decide +kernel
theorem dJ9_floorDiv_f86c9_7 : decode cJ9_floorDiv_f86c9 7 = .ok (.lxor, 1) := by decide +kernel
theorem dJ9_floorDiv_f86c9_8 : decode cJ9_floorDiv_f86c9 8 = .ok (.lconst 0, 1) := by decide +kernel
theorem dJ9_floorDiv_f86c9_9 : decode cJ9_floorDiv_f86c9 9 = .ok (.lcmp, 1) := by decide +kernel
theorem dJ9_floorDiv_f86c9_10 : decode cJ9_floorDiv_f86c9 10 = .ok (.ifCond .ge 17, 3) := by decide +kernel
theorem dJ9_floorDiv_f86c9_13 : decode cJ9_floorDiv_f86c9 13 = .ok (.lload 4, 2) := by decide +kernel
theorem dJ9_floorDiv_f86c9_15 : decode cJ9_floorDiv_f86c9 15 = .ok (.lload_n 2, 1) := by decide +kernel
theorem dJ9_floorDiv_f86c9_16 : decode cJ9_floorDiv_f86c9 16 = .ok (.lmul, 1) := by decide +kernel
theorem dJ9_floorDiv_f86c9_17 : decode cJ9_floorDiv_f86c9 17 = .ok (.lload_n 0, 1) := by decide +kernel
theorem dJ9_floorDiv_f86c9_18 : decode cJ9_floorDiv_f86c9 18 = .ok (.lcmp, 1) := by decide +kernel
theorem dJ9_floorDiv_f86c9_19 : decode cJ9_floorDiv_f86c9 19 = .ok (.ifCond .eq 8, 3) := by decide +kernel
theorem dJ9_floorDiv_f86c9_22 : decode cJ9_floorDiv_f86c9 22 = .ok (.lload 4, 2) := by decide +kernel
theorem dJ9_floorDiv_f86c9_24 : decode cJ9_floorDiv_f86c9 24 = .ok (.lconst 1, 1) := by decide +kernel
theorem dJ9_floorDiv_f86c9_25 : decode cJ9_floorDiv_f86c9 25 = .ok (.lsub, 1) := by decide +kernel
theorem dJ9_floorDiv_f86c9_26 : decode cJ9_floorDiv_f86c9 26 = .ok (.lreturn, 1) := by decide +kernel
theorem dJ9_floorDiv_f86c9_27 : decode cJ9_floorDiv_f86c9 27 = .ok (.lload 4, 2) := by decide +kernel
theorem dJ9_floorDiv_f86c9_29 : decode cJ9_floorDiv_f86c9 29 = .ok (.lreturn, 1) := by decide +kernel
theorem dJ9_abs_0f7a4_0 : decode cJ9_abs_0f7a4 0 = .ok (.iload_n 0, 1) := by decide +kernel
theorem dJ9_abs_0f7a4_1 : decode cJ9_abs_0f7a4 1 = .ok (.ifCond .ge 8, 3) := by decide +kernel
theorem dJ9_abs_0f7a4_4 : decode cJ9_abs_0f7a4 4 = .ok (.iload_n 0, 1) := by decide +kernel
theorem dJ9_abs_0f7a4_5 : decode cJ9_abs_0f7a4 5 = .ok (.ineg, 1) := by decide +kernel
theorem dJ9_abs_0f7a4_6 : decode cJ9_abs_0f7a4 6 = .ok (.goto 4, 3) := by decide +kernel
theorem dJ9_abs_0f7a4_9 : decode cJ9_abs_0f7a4 9 = .ok (.iload_n 0, 1) := by decide +kernel
theorem dJ9_abs_0f7a4_10 : decode cJ9_abs_0f7a4 10 = .ok (.ireturn, 1) := by decide +kernel
theorem dJ9_abs_067f4_0 : decode cJ9_abs_067f4 0 = .ok (.lload_n 0, 1) := by decide +kernel
theorem dJ9_abs_067f4_1 : decode cJ9_abs_067f4 1 = .ok (.lconst 0, 1) := by decide +kernel
theorem dJ9_abs_067f4_2 : decode cJ9_abs_067f4 2 = .ok (.lcmp, 1) := by decide +kernel
theorem dJ9_abs_067f4_3 : decode cJ9_abs_067f4 3 = .ok (.ifCond .ge 8, 3) := by decide +kernel
theorem dJ9_abs_067f4_6 : decode cJ9_abs_067f4 6 = .ok (.lload_n 0, 1) := by decide +kernel
theorem dJ9_abs_067f4_7 : decode cJ9_abs_067f4 7 = .ok (.lneg, 1) := by decide +kernel
theorem dJ9_abs_067f4_8 : decode cJ9_abs_067f4 8 = .ok (.goto 4, 3) := by decide +kernel
theorem dJ9_abs_067f4_11 : decode cJ9_abs_067f4 11 = .ok (.lload_n 0, 1) := by decide +kernel
theorem dJ9_abs_067f4_12 : decode cJ9_abs_067f4 12 = .ok (.lreturn, 1) := by decide +kernel
theorem dJ9_max_7cf53_0 : decode cJ9_max_7cf53 0 = .ok (.iload_n 0, 1) := by decide +kernel
theorem dJ9_max_7cf53_1 : decode cJ9_max_7cf53 1 = .ok (.iload_n 1, 1) := by decide +kernel
theorem dJ9_max_7cf53_2 : decode cJ9_max_7cf53 2 = .ok (.if_icmp .lt 7, 3) := by decide +kernel
theorem dJ9_max_7cf53_5 : decode cJ9_max_7cf53 5 = .ok (.iload_n 0, 1) := by decide +kernel
theorem dJ9_max_7cf53_6 : decode cJ9_max_7cf53 6 = .ok (.goto 4, 3) := by decide +kernel
theorem dJ9_max_7cf53_9 : decode cJ9_max_7cf53 9 = .ok (.iload_n 1, 1) := by decide +kernel
theorem dJ9_max_7cf53_10 : decode cJ9_max_7cf53 10 = .ok (.ireturn, 1) := by decide +kernel
theorem dJ9_min_7cf53_0 : decode cJ9_min_7cf53 0 = .ok (.iload_n 0, 1) := by decide +kernel
theorem dJ9_min_7cf53_1 : decode cJ9_min_7cf53 1 = .ok (.iload_n 1, 1) := by decide +kernel
theorem dJ9_min_7cf53_2 : decode cJ9_min_7cf53 2 = .ok (.if_icmp .gt 7, 3) := by decide +kernel
theorem dJ9_min_7cf53_5 : decode cJ9_min_7cf53 5 = .ok (.iload_n 0, 1) := by decide +kernel
theorem dJ9_min_7cf53_6 : decode cJ9_min_7cf53 6 = .ok (.goto 4, 3) := by decide +kernel
theorem dJ9_min_7cf53_9 : decode cJ9_min_7cf53 9 = .ok (.iload_n 1, 1) := by decide +kernel
theorem dJ9_min_7cf53_10 : decode cJ9_min_7cf53 10 = .ok (.ireturn, 1) := by decide +kernel
end
section
theorem dX4_init_0 : decode cX4_init 0 = .ok (.aload_n 0, 1) := by decide +kernel
theorem dX4_init_1 : decode cX4_init 1 = .ok (.invokespecial 1, 3) := by decide +kernel
theorem dX4_init_4 : decode cX4_init 4 = .ok (.aload_n 0, 1) := by decide +kernel
theorem dX4_init_5 : decode cX4_init 5 = .ok (.new 7, 3) := by decide +kernel
theorem dX4_init_8 : decode cX4_init 8 = .ok (.dup, 1) := by decide +kernel
theorem dX4_init_9 : decode cX4_init 9 = .ok (.invokespecial 9, 3) := by decide +kernel
theorem dX4_init_12 : decode cX4_init 12 = .ok (.putfield 10, 3) := by decide +kernel
theorem dX4_init_15 : decode cX4_init 15 = .ok (.aload_n 0, 1) := by decide +kernel
theorem dX4_init_16 : decode cX4_init 16 = .ok (.new 16, 3) := by decide +kernel
theorem dX4_init_19 : decode cX4_init 19 = .ok (.dup, 1) := by decide +kernel
theorem dX4_init_20 : decode cX4_init 20 = .ok (.invokespecial 18, 3) := by decide +kernel
theorem dX4_init_23 : decode cX4_init 23 = .ok (.putfield 19, 3) := by decide +kernel
theorem dX4_init_26 : decode cX4_init 26 = .ok (.aload_n 0, 1) := by decide +kernel
theorem dX4_init_27 : decode cX4_init 27 = .ok (.new 16, 3) := by decide +kernel
theorem dX4_init_30 : decode cX4_init 30 = .ok (.dup, 1) := by decide +kernel
theorem dX4_init_31 : decode cX4_init 31 = .ok (.invokespecial 18, 3) := by decide +kernel
theorem dX4_init_34 : decode cX4_init 34 = .ok (.putfield 23, 3) := by decide +kernel
theorem dX4_init_37 : decode cX4_init 37 = .ok (.aload_n 0, 1) := by decide +kernel
theorem dX4_init_38 : decode cX4_init 38 = .ok (.bipush 10, 2) := by decide +kernel
theorem dX4_init_40 : decode cX4_init 40 = .ok (.newarray .int, 2) := by decide +kernel
theorem dX4_init_42 : decode cX4_init 42 = .ok (.putfield 26, 3) := by decide +kernel
theorem dX4_init_45 : decode cX4_init 45 = .ok (.aload_n 0, 1) := by decide +kernel
theorem dX4_init_46 : decode cX4_init 46 = .ok (.new 30, 3) := by decide +kernel
theorem dX4_init_49 : decode cX4_init 49 = .ok (.dup, 1) := by decide +kernel
theorem dX4_init_50 : decode cX4_init 50 = .ok (.aload_n 0, 1) := by decide +kernel
theorem dX4_init_51 : decode cX4_init 51 = .ok (.getfield 10, 3) := by decide +kernel
theorem dX4_init_54 : decode cX4_init 54 = .ok (.invokespecial 32, 3) := by decide +kernel
theorem dX4_init_57 : decode cX4_init 57 = .ok (.putfield 35, 3) := by decide +kernel
theorem dX4_init_60 : decode cX4_init 60 = .ok (.aload_n 0, 1) := by decide +kernel
theorem dX4_init_61 : decode cX4_init 61 = .ok (.iconst 4, 1) := by decide +kernel
theorem dX4_init_62 : decode cX4_init 62 = .ok (.anewarray 30, 3) := by decide +kernel
theorem dX4_init_65 : decode cX4_init 65 = .ok (.putfield 39, 3) := by decide +kernel
theorem dX4_init_68 : decode cX4_init 68 = .ok (.iconst 0, 1) := by decide +kernel
theorem dX4_init_69 : decode cX4_init 69 = .ok (.istore_n 1, 1) := by decide +kernel
theorem dX4_init_70 : decode cX4_init 70 = .ok (.iload_n 1, 1) := by decide +kernel
theorem dX4_init_71 : decode cX4_init 71 = .ok (.iconst 4, 1) := by decide +kernel
theorem dX4_init_72 : decode cX4_init 72 = .ok (.if_icmp .ge 26, 3) := by decide +kernel
theorem dX4_init_75 : decode cX4_init 75 = .ok (.aload_n 0, 1) := by decide +kernel
theorem dX4_init_76 : decode cX4_init 76 = .ok (.getfield 39, 3) := by decide +kernel
theorem dX4_init_79 : decode cX4_init 79 = .ok (.iload_n 1, 1) := by decide +kernel
theorem dX4_init_80 : decode cX4_init 80 = .ok (.new 30, 3) := by decide +kernel
theorem dX4_init_83 : decode cX4_init 83 = .ok (.dup, 1) := by decide +kernel
theorem dX4_init_84 : decode cX4_init 84 = .ok (.aload_n 0, 1) := by decide +kernel
theorem dX4_init_85 : decode cX4_init 85 = .ok (.getfield 10, 3) := by decide +kernel
theorem dX4_init_88 : decode cX4_init 88 = .ok (.invokespecial 32, 3) := by decide +kernel
theorem dX4_init_91 : decode cX4_init 91 = .ok (.aastore, 1) := by decide +kernel
theorem dX4_init_92 : decode cX4_init 92 = .ok (.iinc 1 1, 3) := by decide +kernel
theorem dX4_init_95 : decode cX4_init 95 = .ok (.goto (-25), 3) := by decide +kernel
theorem dX4_init_98 : decode cX4_init 98 = .ok (.aload_n 0, 1) := by decide +kernel
theorem dX4_init_99 : decode cX4_init 99 = .ok (.iconst 0, 1) := by decide +kernel
theorem dX4_init_100 : decode cX4_init 100 = .ok (.putfield 43, 3) := by decide +kernel
theorem dX4_init_103 : decode cX4_init 103 = .ok (.return_, 1) := by decide +kernel
theorem dX4_setClearance_0 : decode cX4_setClearance 0 = .ok (.iload_n 1, 1) := by decide +kernel
theorem dX4_setClearance_1 : decode cX4_setClearance 1 = .ok (.iconst 1, 1) := by decide +kernel
theorem dX4_setClearance_2 : decode cX4_setClearance 2 = .ok (.bipush 20, 2) := by decide +kernel
theorem dX4_setClearance_4 : decode cX4_setClearance 4 = .ok (.invokestatic 47, 3) := by decide +kernel
theorem dX4_setClearance_7 : decode cX4_setClearance 7 = .ok (.ifCond .ne 6, 3) := by decide +kernel
theorem dX4_setClearance_10 : decode cX4_setClearance 10 = .ok (.ldc 51, 2) := by decide +kernel
theorem dX4_setClearance_12 : decode cX4_setClearance 12 = .ok (.ireturn, 1) := by decide +kernel
theorem dX4_setClearance_13 : decode cX4_setClearance 13 = .ok (.aload_n 0, 1) := by decide +kernel
theorem dX4_setClearance_14 : decode cX4_setClearance 14 = .ok (.invokevirtual 52, 3) := by decide +kernel
theorem dX4_setClearance_17 : decode cX4_setClearance 17 = .ok (.aload_n 0, 1) := by decide +kernel
theorem dX4_setClearance_18 : decode cX4_setClearance 18 = .ok (.getfield 35, 3) := by decide +kernel
theorem dX4_setClearance_21 : decode cX4_setClearance 21 = .ok (.getfield 55, 3) := by decide +kernel
theorem dX4_setClearance_24 : decode cX4_setClearance 24 = .ok (.istore_n 2, 1) := by decide +kernel
theorem dX4_setClearance_25 : decode cX4_setClearance 25 = .ok (.aload_n 0, 1) := by decide +kernel
theorem dX4_setClearance_26 : decode cX4_setClearance 26 = .ok (.getfield 35, 3) := by decide +kernel
theorem dX4_setClearance_29 : decode cX4_setClearance 29 = .ok (.iload_n 1, 1) := by decide +kernel
theorem dX4_setClearance_30 : decode cX4_setClearance 30 = .ok (.putfield 55, 3) := by decide +kernel
theorem dX4_setClearance_33 : decode cX4_setClearance 33 = .ok (.iload_n 2, 1) := by decide +kernel
theorem dX4_setClearance_34 : decode cX4_setClearance 34 = .ok (.ireturn, 1) := by decide +kernel
theorem dX4_setPistonArea_0 : decode cX4_setPistonArea 0 = .ok (.iload_n 1, 1) := by decide +kernel
theorem dX4_setPistonArea_1 : decode cX4_setPistonArea 1 = .ok (.invokestatic 58, 3) := by decide +kernel
theorem dX4_setPistonArea_4 : decode cX4_setPistonArea 4 = .ok (.ifCond .eq 14, 3) := by decide +kernel
theorem dX4_setPistonArea_7 : decode cX4_setPistonArea 7 = .ok (.iload_n 2, 1) := by decide +kernel
theorem dX4_setPistonArea_8 : decode cX4_setPistonArea 8 = .ok (.iconst 1, 1) := by decide +kernel
theorem dX4_setPistonArea_9 : decode cX4_setPistonArea 9 = .ok (.sipush 5000, 3) := by decide +kernel
theorem dX4_setPistonArea_12 : decode cX4_setPistonArea 12 = .ok (.invokestatic 47, 3) := by decide +kernel
theorem dX4_setPistonArea_15 : decode cX4_setPistonArea 15 = .ok (.ifCond .ne 6, 3) := by decide +kernel
theorem dX4_setPistonArea_18 : decode cX4_setPistonArea 18 = .ok (.ldc 51, 2) := by decide +kernel
theorem dX4_setPistonArea_20 : decode cX4_setPistonArea 20 = .ok (.ireturn, 1) := by decide +kernel
theorem dX4_setPistonArea_21 : decode cX4_setPistonArea 21 = .ok (.aload_n 0, 1) := by decide +kernel
theorem dX4_setPistonArea_22 : decode cX4_setPistonArea 22 = .ok (.invokevirtual 52, 3) := by decide +kernel
theorem dX4_setPistonArea_25 : decode cX4_setPistonArea 25 = .ok (.aload_n 0, 1) := by decide +kernel
theorem dX4_setPistonArea_26 : decode cX4_setPistonArea 26 = .ok (.getfield 35, 3) := by decide +kernel
theorem dX4_setPistonArea_29 : decode cX4_setPistonArea 29 = .ok (.iload_n 1, 1) := by decide +kernel
theorem dX4_setPistonArea_30 : decode cX4_setPistonArea 30 = .ok (.invokevirtual 62, 3) := by decide +kernel
theorem dX4_setPistonArea_33 : decode cX4_setPistonArea 33 = .ok (.istore_n 3, 1) := by decide +kernel
theorem dX4_setPistonArea_34 : decode cX4_setPistonArea 34 = .ok (.iload_n 1, 1) := by decide +kernel
theorem dX4_setPistonArea_35 : decode cX4_setPistonArea 35 = .ok (.ifCond .ne 14, 3) := by decide +kernel
theorem dX4_setPistonArea_38 : decode cX4_setPistonArea 38 = .ok (.aload_n 0, 1) := by decide +kernel
theorem dX4_setPistonArea_39 : decode cX4_setPistonArea 39 = .ok (.getfield 35, 3) := by decide +kernel
theorem dX4_setPistonArea_42 : decode cX4_setPistonArea 42 = .ok (.iload_n 2, 1) := by decide +kernel
theorem dX4_setPistonArea_43 : decode cX4_setPistonArea 43 = .ok (.putfield 66, 3) := by decide +kernel
theorem dX4_setPistonArea_46 : decode cX4_setPistonArea 46 = .ok (.goto 11, 3) := by decide +kernel
theorem dX4_setPistonArea_49 : decode cX4_setPistonArea 49 = .ok (.aload_n 0, 1) := by decide +kernel
theorem dX4_setPistonArea_50 : decode cX4_setPistonArea 50 = .ok (.getfield 35, 3) := by decide +kernel
theorem dX4_setPistonArea_53 : decode cX4_setPistonArea 53 = .ok (.iload_n 2, 1) := by decide +kernel
theorem dX4_setPistonArea_54 : decode cX4_setPistonArea 54 = .ok (.putfield 69, 3) := by decide +kernel
theorem dX4_setPistonArea_57 : decode cX4_setPistonArea 57 = .ok (.iload_n 3, 1) := by decide +kernel
theorem dX4_setPistonArea_58 : decode cX4_setPistonArea 58 = .ok (.ireturn, 1) := by decide +kernel
theorem dX4_setStroke_0 : decode cX4_setStroke 0 = .ok (.iload_n 1, 1) := by decide +kernel
theorem dX4_setStroke_1 : decode cX4_setStroke 1 = .ok (.iconst 1, 1) := by decide +kernel
theorem dX4_setStroke_2 : decode cX4_setStroke 2 = .ok (.sipush 300, 3) := by decide +kernel
theorem dX4_setStroke_5 : decode cX4_setStroke 5 = .ok (.invokestatic 47, 3) := by decide +kernel
theorem dX4_setStroke_8 : decode cX4_setStroke 8 = .ok (.ifCond .ne 6, 3) := by decide +kernel
theorem dX4_setStroke_11 : decode cX4_setStroke 11 = .ok (.ldc 51, 2) := by decide +kernel
theorem dX4_setStroke_13 : decode cX4_setStroke 13 = .ok (.ireturn, 1) := by decide +kernel
theorem dX4_setStroke_14 : decode cX4_setStroke 14 = .ok (.aload_n 0, 1) := by decide +kernel
theorem dX4_setStroke_15 : decode cX4_setStroke 15 = .ok (.invokevirtual 52, 3) := by decide +kernel
theorem dX4_setStroke_18 : decode cX4_setStroke 18 = .ok (.aload_n 0, 1) := by decide +kernel
theorem dX4_setStroke_19 : decode cX4_setStroke 19 = .ok (.getfield 35, 3) := by decide +kernel
theorem dX4_setStroke_22 : decode cX4_setStroke 22 = .ok (.getfield 72, 3) := by decide +kernel
theorem dX4_setStroke_25 : decode cX4_setStroke 25 = .ok (.istore_n 2, 1) := by decide +kernel
theorem dX4_setStroke_26 : decode cX4_setStroke 26 = .ok (.aload_n 0, 1) := by decide +kernel
theorem dX4_setStroke_27 : decode cX4_setStroke 27 = .ok (.getfield 35, 3) := by decide +kernel
theorem dX4_setStroke_30 : decode cX4_setStroke 30 = .ok (.iload_n 1, 1) := by decide +kernel
theorem dX4_setStroke_31 : decode cX4_setStroke 31 = .ok (.putfield 72, 3) := by decide +kernel
theorem dX4_setStroke_34 : decode cX4_setStroke 34 = .ok (.iload_n 2, 1) := by decide +kernel
theorem dX4_setStroke_35 : decode cX4_setStroke 35 = .ok (.ireturn, 1) := by decide +kernel
theorem dX4_setBoilerPressure_0 : decode cX4_setBoilerPressure 0 = .ok (.iload_n 1, 1) := by decide +kernel
theorem dX4_setBoilerPressure_1 : decode cX4_setBoilerPressure 1 = .ok (.bipush 100, 2) := by decide +kernel
theorem dX4_setBoilerPressure_3 : decode cX4_setBoilerPressure 3 = .ok (.sipush 2000, 3) := by decide +kernel
theorem dX4_setBoilerPressure_6 : decode cX4_setBoilerPressure 6 = .ok (.invokestatic 47, 3) := by decide +kernel
theorem dX4_setBoilerPressure_9 : decode cX4_setBoilerPressure 9 = .ok (.ifCond .ne 6, 3) := by decide +kernel
theorem dX4_setBoilerPressure_12 : decode cX4_setBoilerPressure 12 = .ok (.ldc 51, 2) := by decide +kernel
theorem dX4_setBoilerPressure_14 : decode cX4_setBoilerPressure 14 = .ok (.ireturn, 1) := by decide +kernel
theorem dX4_setBoilerPressure_15 : decode cX4_setBoilerPressure 15 = .ok (.aload_n 0, 1) := by decide +kernel
theorem dX4_setBoilerPressure_16 : decode cX4_setBoilerPressure 16 = .ok (.invokevirtual 52, 3) := by decide +kernel
theorem dX4_setBoilerPressure_19 : decode cX4_setBoilerPressure 19 = .ok (.aload_n 0, 1) := by decide +kernel
theorem dX4_setBoilerPressure_20 : decode cX4_setBoilerPressure 20 = .ok (.getfield 35, 3) := by decide +kernel
theorem dX4_setBoilerPressure_23 : decode cX4_setBoilerPressure 23 = .ok (.getfield 75, 3) := by decide +kernel
theorem dX4_setBoilerPressure_26 : decode cX4_setBoilerPressure 26 = .ok (.istore_n 2, 1) := by decide +kernel
theorem dX4_setBoilerPressure_27 : decode cX4_setBoilerPressure 27 = .ok (.aload_n 0, 1) := by decide +kernel
theorem dX4_setBoilerPressure_28 : decode cX4_setBoilerPressure 28 = .ok (.getfield 35, 3) := by decide +kernel
theorem dX4_setBoilerPressure_31 : decode cX4_setBoilerPressure 31 = .ok (.iload_n 1, 1) := by decide +kernel
theorem dX4_setBoilerPressure_32 : decode cX4_setBoilerPressure 32 = .ok (.putfield 75, 3) := by decide +kernel
theorem dX4_setBoilerPressure_35 : decode cX4_setBoilerPressure 35 = .ok (.iload_n 2, 1) := by decide +kernel
theorem dX4_setBoilerPressure_36 : decode cX4_setBoilerPressure 36 = .ok (.ireturn, 1) := by decide +kernel
theorem dX4_setBackPressure_0 : decode cX4_setBackPressure 0 = .ok (.iload_n 1, 1) := by decide +kernel
theorem dX4_setBackPressure_1 : decode cX4_setBackPressure 1 = .ok (.bipush 10, 2) := by decide +kernel
theorem dX4_setBackPressure_3 : decode cX4_setBackPressure 3 = .ok (.bipush 99, 2) := by decide +kernel
theorem dX4_setBackPressure_5 : decode cX4_setBackPressure 5 = .ok (.invokestatic 47, 3) := by decide +kernel
theorem dX4_setBackPressure_8 : decode cX4_setBackPressure 8 = .ok (.ifCond .ne 6, 3) := by decide +kernel
theorem dX4_setBackPressure_11 : decode cX4_setBackPressure 11 = .ok (.ldc 51, 2) := by decide +kernel
theorem dX4_setBackPressure_13 : decode cX4_setBackPressure 13 = .ok (.ireturn, 1) := by decide +kernel
theorem dX4_setBackPressure_14 : decode cX4_setBackPressure 14 = .ok (.aload_n 0, 1) := by decide +kernel
theorem dX4_setBackPressure_15 : decode cX4_setBackPressure 15 = .ok (.invokevirtual 52, 3) := by decide +kernel
theorem dX4_setBackPressure_18 : decode cX4_setBackPressure 18 = .ok (.aload_n 0, 1) := by decide +kernel
theorem dX4_setBackPressure_19 : decode cX4_setBackPressure 19 = .ok (.getfield 35, 3) := by decide +kernel
theorem dX4_setBackPressure_22 : decode cX4_setBackPressure 22 = .ok (.getfield 78, 3) := by decide +kernel
theorem dX4_setBackPressure_25 : decode cX4_setBackPressure 25 = .ok (.istore_n 2, 1) := by decide +kernel
theorem dX4_setBackPressure_26 : decode cX4_setBackPressure 26 = .ok (.aload_n 0, 1) := by decide +kernel
theorem dX4_setBackPressure_27 : decode cX4_setBackPressure 27 = .ok (.getfield 35, 3) := by decide +kernel
theorem dX4_setBackPressure_30 : decode cX4_setBackPressure 30 = .ok (.iload_n 1, 1) := by decide +kernel
theorem dX4_setBackPressure_31 : decode cX4_setBackPressure 31 = .ok (.putfield 78, 3) := by decide +kernel
theorem dX4_setBackPressure_34 : decode cX4_setBackPressure 34 = .ok (.iload_n 2, 1) := by decide +kernel
theorem dX4_setBackPressure_35 : decode cX4_setBackPressure 35 = .ok (.ireturn, 1) := by decide +kernel
theorem dX4_setFinding_0 : decode cX4_setFinding 0 = .ok (.iload_n 1, 1) := by decide +kernel
theorem dX4_setFinding_1 : decode cX4_setFinding 1 = .ok (.iconst 1, 1) := by decide +kernel
theorem dX4_setFinding_2 : decode cX4_setFinding 2 = .ok (.bipush 100, 2) := by decide +kernel
theorem dX4_setFinding_4 : decode cX4_setFinding 4 = .ok (.invokestatic 47, 3) := by decide +kernel
theorem dX4_setFinding_7 : decode cX4_setFinding 7 = .ok (.ifCond .eq 13, 3) := by decide +kernel
theorem dX4_setFinding_10 : decode cX4_setFinding 10 = .ok (.iload_n 2, 1) := by decide +kernel
theorem dX4_setFinding_11 : decode cX4_setFinding 11 = .ok (.iconst 1, 1) := by decide +kernel
theorem dX4_setFinding_12 : decode cX4_setFinding 12 = .ok (.bipush 50, 2) := by decide +kernel
theorem dX4_setFinding_14 : decode cX4_setFinding 14 = .ok (.invokestatic 47, 3) := by decide +kernel
theorem dX4_setFinding_17 : decode cX4_setFinding 17 = .ok (.ifCond .ne 6, 3) := by decide +kernel
theorem dX4_setFinding_20 : decode cX4_setFinding 20 = .ok (.ldc 51, 2) := by decide +kernel
theorem dX4_setFinding_22 : decode cX4_setFinding 22 = .ok (.ireturn, 1) := by decide +kernel
theorem dX4_setFinding_23 : decode cX4_setFinding 23 = .ok (.aload_n 0, 1) := by decide +kernel
theorem dX4_setFinding_24 : decode cX4_setFinding 24 = .ok (.invokevirtual 52, 3) := by decide +kernel
theorem dX4_setFinding_27 : decode cX4_setFinding 27 = .ok (.bipush 100, 2) := by decide +kernel
theorem dX4_setFinding_29 : decode cX4_setFinding 29 = .ok (.aload_n 0, 1) := by decide +kernel
theorem dX4_setFinding_30 : decode cX4_setFinding 30 = .ok (.getfield 35, 3) := by decide +kernel
theorem dX4_setFinding_33 : decode cX4_setFinding 33 = .ok (.getfield 81, 3) := by decide +kernel
theorem dX4_setFinding_36 : decode cX4_setFinding 36 = .ok (.imul, 1) := by decide +kernel
theorem dX4_setFinding_37 : decode cX4_setFinding 37 = .ok (.aload_n 0, 1) := by decide +kernel
theorem dX4_setFinding_38 : decode cX4_setFinding 38 = .ok (.getfield 35, 3) := by decide +kernel
theorem dX4_setFinding_41 : decode cX4_setFinding 41 = .ok (.getfield 84, 3) := by decide +kernel
theorem dX4_setFinding_44 : decode cX4_setFinding 44 = .ok (.iadd, 1) := by decide +kernel
theorem dX4_setFinding_45 : decode cX4_setFinding 45 = .ok (.istore_n 3, 1) := by decide +kernel
theorem dX4_setFinding_46 : decode cX4_setFinding 46 = .ok (.aload_n 0, 1) := by decide +kernel
theorem dX4_setFinding_47 : decode cX4_setFinding 47 = .ok (.getfield 35, 3) := by decide +kernel
theorem dX4_setFinding_50 : decode cX4_setFinding 50 = .ok (.iload_n 1, 1) := by decide +kernel
theorem dX4_setFinding_51 : decode cX4_setFinding 51 = .ok (.putfield 81, 3) := by decide +kernel
theorem dX4_setFinding_54 : decode cX4_setFinding 54 = .ok (.aload_n 0, 1) := by decide +kernel
theorem dX4_setFinding_55 : decode cX4_setFinding 55 = .ok (.getfield 35, 3) := by decide +kernel
theorem dX4_setFinding_58 : decode cX4_setFinding 58 = .ok (.iload_n 2, 1) := by decide +kernel
theorem dX4_setFinding_59 : decode cX4_setFinding 59 = .ok (.putfield 84, 3) := by decide +kernel
theorem dX4_setFinding_62 : decode cX4_setFinding 62 = .ok (.iload_n 3, 1) := by decide +kernel
theorem dX4_setFinding_63 : decode cX4_setFinding 63 = .ok (.ireturn, 1) := by decide +kernel
theorem dX4_setValves_0 : decode cX4_setValves 0 = .ok (.iload_n 1, 1) := by decide +kernel
theorem dX4_setValves_1 : decode cX4_setValves 1 = .ok (.invokestatic 58, 3) := by decide +kernel
theorem dX4_setValves_4 : decode cX4_setValves 4 = .ok (.ifCond .eq 15, 3) := by decide +kernel
theorem dX4_setValves_7 : decode cX4_setValves 7 = .ok (.iload_n 2, 1) := by decide +kernel
theorem dX4_setValves_8 : decode cX4_setValves 8 = .ok (.iload_n 3, 1) := by decide +kernel
theorem dX4_setValves_9 : decode cX4_setValves 9 = .ok (.iload 4, 2) := by decide +kernel
theorem dX4_setValves_11 : decode cX4_setValves 11 = .ok (.iload 5, 2) := by decide +kernel
theorem dX4_setValves_13 : decode cX4_setValves 13 = .ok (.invokestatic 87, 3) := by decide +kernel
theorem dX4_setValves_16 : decode cX4_setValves 16 = .ok (.ifCond .ne 6, 3) := by decide +kernel
theorem dX4_setValves_19 : decode cX4_setValves 19 = .ok (.ldc 51, 2) := by decide +kernel
theorem dX4_setValves_21 : decode cX4_setValves 21 = .ok (.ireturn, 1) := by decide +kernel
theorem dX4_setValves_22 : decode cX4_setValves 22 = .ok (.aload_n 0, 1) := by decide +kernel
theorem dX4_setValves_23 : decode cX4_setValves 23 = .ok (.invokevirtual 52, 3) := by decide +kernel
theorem dX4_setValves_26 : decode cX4_setValves 26 = .ok (.aload_n 0, 1) := by decide +kernel
theorem dX4_setValves_27 : decode cX4_setValves 27 = .ok (.getfield 35, 3) := by decide +kernel
theorem dX4_setValves_30 : decode cX4_setValves 30 = .ok (.iload_n 1, 1) := by decide +kernel
theorem dX4_setValves_31 : decode cX4_setValves 31 = .ok (.invokevirtual 91, 3) := by decide +kernel
theorem dX4_setValves_34 : decode cX4_setValves 34 = .ok (.astore 6, 2) := by decide +kernel
theorem dX4_setValves_36 : decode cX4_setValves 36 = .ok (.aload 6, 2) := by decide +kernel
theorem dX4_setValves_38 : decode cX4_setValves 38 = .ok (.iload_n 2, 1) := by decide +kernel
theorem dX4_setValves_39 : decode cX4_setValves 39 = .ok (.putfield 95, 3) := by decide +kernel
theorem dX4_setValves_42 : decode cX4_setValves 42 = .ok (.aload 6, 2) := by decide +kernel
theorem dX4_setValves_44 : decode cX4_setValves 44 = .ok (.iload_n 3, 1) := by decide +kernel
theorem dX4_setValves_45 : decode cX4_setValves 45 = .ok (.putfield 98, 3) := by decide +kernel
theorem dX4_setValves_48 : decode cX4_setValves 48 = .ok (.aload 6, 2) := by decide +kernel
theorem dX4_setValves_50 : decode cX4_setValves 50 = .ok (.iload 4, 2) := by decide +kernel
theorem dX4_setValves_52 : decode cX4_setValves 52 = .ok (.putfield 101, 3) := by decide +kernel
theorem dX4_setValves_55 : decode cX4_setValves 55 = .ok (.aload 6, 2) := by decide +kernel
theorem dX4_setValves_57 : decode cX4_setValves 57 = .ok (.iload 5, 2) := by decide +kernel
theorem dX4_setValves_59 : decode cX4_setValves 59 = .ok (.putfield 104, 3) := by decide +kernel
theorem dX4_setValves_62 : decode cX4_setValves 62 = .ok (.iconst 0, 1) := by decide +kernel
theorem dX4_setValves_63 : decode cX4_setValves 63 = .ok (.ireturn, 1) := by decide +kernel
theorem dX4_valve_0 : decode cX4_valve 0 = .ok (.iload_n 1, 1) := by decide +kernel
theorem dX4_valve_1 : decode cX4_valve 1 = .ok (.invokestatic 58, 3) := by decide +kernel
theorem dX4_valve_4 : decode cX4_valve 4 = .ok (.ifCond .eq 10, 3) := by decide +kernel
theorem dX4_valve_7 : decode cX4_valve 7 = .ok (.iload_n 2, 1) := by decide +kernel
theorem dX4_valve_8 : decode cX4_valve 8 = .ok (.invokestatic 107, 3) := by decide +kernel
theorem dX4_valve_11 : decode cX4_valve 11 = .ok (.ifCond .ne 6, 3) := by decide +kernel
theorem dX4_valve_14 : decode cX4_valve 14 = .ok (.ldc 51, 2) := by decide +kernel
theorem dX4_valve_16 : decode cX4_valve 16 = .ok (.ireturn, 1) := by decide +kernel
theorem dX4_valve_17 : decode cX4_valve 17 = .ok (.aload_n 0, 1) := by decide +kernel
theorem dX4_valve_18 : decode cX4_valve 18 = .ok (.getfield 35, 3) := by decide +kernel
theorem dX4_valve_21 : decode cX4_valve 21 = .ok (.iload_n 1, 1) := by decide +kernel
theorem dX4_valve_22 : decode cX4_valve 22 = .ok (.invokevirtual 91, 3) := by decide +kernel
theorem dX4_valve_25 : decode cX4_valve 25 = .ok (.iload_n 2, 1) := by decide +kernel
theorem dX4_valve_26 : decode cX4_valve 26 = .ok (.invokevirtual 110, 3) := by decide +kernel
theorem dX4_valve_29 : decode cX4_valve 29 = .ok (.ireturn, 1) := by decide +kernel
theorem dX4_beginCard_0 : decode cX4_beginCard 0 = .ok (.iload_n 1, 1) := by decide +kernel
theorem dX4_beginCard_1 : decode cX4_beginCard 1 = .ok (.invokestatic 58, 3) := by decide +kernel
theorem dX4_beginCard_4 : decode cX4_beginCard 4 = .ok (.ifCond .eq 10, 3) := by decide +kernel
theorem dX4_beginCard_7 : decode cX4_beginCard 7 = .ok (.iload_n 2, 1) := by decide +kernel
theorem dX4_beginCard_8 : decode cX4_beginCard 8 = .ok (.invokestatic 113, 3) := by decide +kernel
theorem dX4_beginCard_11 : decode cX4_beginCard 11 = .ok (.ifCond .ne 6, 3) := by decide +kernel
theorem dX4_beginCard_14 : decode cX4_beginCard 14 = .ok (.ldc 51, 2) := by decide +kernel
theorem dX4_beginCard_16 : decode cX4_beginCard 16 = .ok (.ireturn, 1) := by decide +kernel
theorem dX4_beginCard_17 : decode cX4_beginCard 17 = .ok (.aload_n 0, 1) := by decide +kernel
theorem dX4_beginCard_18 : decode cX4_beginCard 18 = .ok (.invokevirtual 52, 3) := by decide +kernel
theorem dX4_beginCard_21 : decode cX4_beginCard 21 = .ok (.aload_n 0, 1) := by decide +kernel
theorem dX4_beginCard_22 : decode cX4_beginCard 22 = .ok (.getfield 35, 3) := by decide +kernel
theorem dX4_beginCard_25 : decode cX4_beginCard 25 = .ok (.getfield 116, 3) := by decide +kernel
theorem dX4_beginCard_28 : decode cX4_beginCard 28 = .ok (.getfield 120, 3) := by decide +kernel
theorem dX4_beginCard_31 : decode cX4_beginCard 31 = .ok (.ifCond .eq 7, 3) := by decide +kernel
theorem dX4_beginCard_34 : decode cX4_beginCard 34 = .ok (.iconst 1, 1) := by decide +kernel
theorem dX4_beginCard_35 : decode cX4_beginCard 35 = .ok (.goto 4, 3) := by decide +kernel
theorem dX4_beginCard_38 : decode cX4_beginCard 38 = .ok (.iconst 0, 1) := by decide +kernel
theorem dX4_beginCard_39 : decode cX4_beginCard 39 = .ok (.istore_n 3, 1) := by decide +kernel
theorem dX4_beginCard_40 : decode cX4_beginCard 40 = .ok (.aload_n 0, 1) := by decide +kernel
theorem dX4_beginCard_41 : decode cX4_beginCard 41 = .ok (.getfield 35, 3) := by decide +kernel
theorem dX4_beginCard_44 : decode cX4_beginCard 44 = .ok (.getfield 116, 3) := by decide +kernel
theorem dX4_beginCard_47 : decode cX4_beginCard 47 = .ok (.iload_n 1, 1) := by decide +kernel
theorem dX4_beginCard_48 : decode cX4_beginCard 48 = .ok (.iload_n 2, 1) := by decide +kernel
theorem dX4_beginCard_49 : decode cX4_beginCard 49 = .ok (.invokevirtual 126, 3) := by decide +kernel
theorem dX4_beginCard_52 : decode cX4_beginCard 52 = .ok (.iload_n 3, 1) := by decide +kernel
theorem dX4_beginCard_53 : decode cX4_beginCard 53 = .ok (.ireturn, 1) := by decide +kernel
theorem dX4_setPoint_0 : decode cX4_setPoint 0 = .ok (.iload_n 1, 1) := by decide +kernel
theorem dX4_setPoint_1 : decode cX4_setPoint 1 = .ok (.invokestatic 130, 3) := by decide +kernel
theorem dX4_setPoint_4 : decode cX4_setPoint 4 = .ok (.ifCond .eq 21, 3) := by decide +kernel
theorem dX4_setPoint_7 : decode cX4_setPoint 7 = .ok (.iload_n 2, 1) := by decide +kernel
theorem dX4_setPoint_8 : decode cX4_setPoint 8 = .ok (.invokestatic 133, 3) := by decide +kernel
theorem dX4_setPoint_11 : decode cX4_setPoint 11 = .ok (.ifCond .eq 14, 3) := by decide +kernel
theorem dX4_setPoint_14 : decode cX4_setPoint 14 = .ok (.iload_n 3, 1) := by decide +kernel
theorem dX4_setPoint_15 : decode cX4_setPoint 15 = .ok (.iconst 0, 1) := by decide +kernel
theorem dX4_setPoint_16 : decode cX4_setPoint 16 = .ok (.sipush 5000, 3) := by decide +kernel
theorem dX4_setPoint_19 : decode cX4_setPoint 19 = .ok (.invokestatic 47, 3) := by decide +kernel
theorem dX4_setPoint_22 : decode cX4_setPoint 22 = .ok (.ifCond .ne 6, 3) := by decide +kernel
theorem dX4_setPoint_25 : decode cX4_setPoint 25 = .ok (.ldc 51, 2) := by decide +kernel
theorem dX4_setPoint_27 : decode cX4_setPoint 27 = .ok (.ireturn, 1) := by decide +kernel
theorem dX4_setPoint_28 : decode cX4_setPoint 28 = .ok (.aload_n 0, 1) := by decide +kernel
theorem dX4_setPoint_29 : decode cX4_setPoint 29 = .ok (.getfield 35, 3) := by decide +kernel
theorem dX4_setPoint_32 : decode cX4_setPoint 32 = .ok (.getfield 116, 3) := by decide +kernel
theorem dX4_setPoint_35 : decode cX4_setPoint 35 = .ok (.getfield 120, 3) := by decide +kernel
theorem dX4_setPoint_38 : decode cX4_setPoint 38 = .ok (.ifCond .ne 6, 3) := by decide +kernel
theorem dX4_setPoint_41 : decode cX4_setPoint 41 = .ok (.ldc 136, 2) := by decide +kernel
theorem dX4_setPoint_43 : decode cX4_setPoint 43 = .ok (.ireturn, 1) := by decide +kernel
theorem dX4_setPoint_44 : decode cX4_setPoint 44 = .ok (.aload_n 0, 1) := by decide +kernel
theorem dX4_setPoint_45 : decode cX4_setPoint 45 = .ok (.invokevirtual 52, 3) := by decide +kernel
theorem dX4_setPoint_48 : decode cX4_setPoint 48 = .ok (.aload_n 0, 1) := by decide +kernel
theorem dX4_setPoint_49 : decode cX4_setPoint 49 = .ok (.getfield 35, 3) := by decide +kernel
theorem dX4_setPoint_52 : decode cX4_setPoint 52 = .ok (.getfield 116, 3) := by decide +kernel
theorem dX4_setPoint_55 : decode cX4_setPoint 55 = .ok (.iload_n 1, 1) := by decide +kernel
theorem dX4_setPoint_56 : decode cX4_setPoint 56 = .ok (.invokevirtual 137, 3) := by decide +kernel
theorem dX4_setPoint_59 : decode cX4_setPoint 59 = .ok (.astore 4, 2) := by decide +kernel
theorem dX4_setPoint_61 : decode cX4_setPoint 61 = .ok (.aload 4, 2) := by decide +kernel
theorem dX4_setPoint_63 : decode cX4_setPoint 63 = .ok (.iload_n 2, 1) := by decide +kernel
theorem dX4_setPoint_64 : decode cX4_setPoint 64 = .ok (.iload_n 3, 1) := by decide +kernel
theorem dX4_setPoint_65 : decode cX4_setPoint 65 = .ok (.iastore, 1) := by decide +kernel
theorem dX4_setPoint_66 : decode cX4_setPoint 66 = .ok (.aload 4, 2) := by decide +kernel
theorem dX4_setPoint_68 : decode cX4_setPoint 68 = .ok (.invokestatic 141, 3) := by decide +kernel
theorem dX4_setPoint_71 : decode cX4_setPoint 71 = .ok (.ireturn, 1) := by decide +kernel
theorem dX4_finishCard_0 : decode cX4_finishCard 0 = .ok (.aload_n 0, 1) := by decide +kernel
theorem dX4_finishCard_1 : decode cX4_finishCard 1 = .ok (.getfield 35, 3) := by decide +kernel
theorem dX4_finishCard_4 : decode cX4_finishCard 4 = .ok (.getfield 116, 3) := by decide +kernel
theorem dX4_finishCard_7 : decode cX4_finishCard 7 = .ok (.astore_n 1, 1) := by decide +kernel
theorem dX4_finishCard_8 : decode cX4_finishCard 8 = .ok (.aload_n 1, 1) := by decide +kernel
theorem dX4_finishCard_9 : decode cX4_finishCard 9 = .ok (.getfield 120, 3) := by decide +kernel
theorem dX4_finishCard_12 : decode cX4_finishCard 12 = .ok (.ifCond .eq 23, 3) := by decide +kernel
theorem dX4_finishCard_15 : decode cX4_finishCard 15 = .ok (.aload_n 1, 1) := by decide +kernel
theorem dX4_finishCard_16 : decode cX4_finishCard 16 = .ok (.getfield 145, 3) := by decide +kernel
theorem dX4_finishCard_19 : decode cX4_finishCard 19 = .ok (.invokestatic 141, 3) := by decide +kernel
theorem dX4_finishCard_22 : decode cX4_finishCard 22 = .ok (.ifCond .eq 13, 3) := by decide +kernel
theorem dX4_finishCard_25 : decode cX4_finishCard 25 = .ok (.aload_n 1, 1) := by decide +kernel
theorem dX4_finishCard_26 : decode cX4_finishCard 26 = .ok (.getfield 148, 3) := by decide +kernel
theorem dX4_finishCard_29 : decode cX4_finishCard 29 = .ok (.invokestatic 141, 3) := by decide +kernel
theorem dX4_finishCard_32 : decode cX4_finishCard 32 = .ok (.ifCond .ne 6, 3) := by decide +kernel
theorem dX4_finishCard_35 : decode cX4_finishCard 35 = .ok (.ldc 136, 2) := by decide +kernel
theorem dX4_finishCard_37 : decode cX4_finishCard 37 = .ok (.ireturn, 1) := by decide +kernel
theorem dX4_finishCard_38 : decode cX4_finishCard 38 = .ok (.aload_n 0, 1) := by decide +kernel
theorem dX4_finishCard_39 : decode cX4_finishCard 39 = .ok (.getfield 35, 3) := by decide +kernel
theorem dX4_finishCard_42 : decode cX4_finishCard 42 = .ok (.getfield 151, 3) := by decide +kernel
theorem dX4_finishCard_45 : decode cX4_finishCard 45 = .ok (.bipush 10, 2) := by decide +kernel
theorem dX4_finishCard_47 : decode cX4_finishCard 47 = .ok (.if_icmp .lt 6, 3) := by decide +kernel
theorem dX4_finishCard_50 : decode cX4_finishCard 50 = .ok (.ldc 154, 2) := by decide +kernel
theorem dX4_finishCard_52 : decode cX4_finishCard 52 = .ok (.ireturn, 1) := by decide +kernel
theorem dX4_finishCard_53 : decode cX4_finishCard 53 = .ok (.aload_n 0, 1) := by decide +kernel
theorem dX4_finishCard_54 : decode cX4_finishCard 54 = .ok (.invokevirtual 52, 3) := by decide +kernel
theorem dX4_finishCard_57 : decode cX4_finishCard 57 = .ok (.new 7, 3) := by decide +kernel
theorem dX4_finishCard_60 : decode cX4_finishCard 60 = .ok (.dup, 1) := by decide +kernel
theorem dX4_finishCard_61 : decode cX4_finishCard 61 = .ok (.invokespecial 9, 3) := by decide +kernel
theorem dX4_finishCard_64 : decode cX4_finishCard 64 = .ok (.astore_n 2, 1) := by decide +kernel
theorem dX4_finishCard_65 : decode cX4_finishCard 65 = .ok (.aload_n 2, 1) := by decide +kernel
theorem dX4_finishCard_66 : decode cX4_finishCard 66 = .ok (.aload_n 1, 1) := by decide +kernel
theorem dX4_finishCard_67 : decode cX4_finishCard 67 = .ok (.getfield 155, 3) := by decide +kernel
theorem dX4_finishCard_70 : decode cX4_finishCard 70 = .ok (.putfield 158, 3) := by decide +kernel
theorem dX4_finishCard_73 : decode cX4_finishCard 73 = .ok (.aload_n 2, 1) := by decide +kernel
theorem dX4_finishCard_74 : decode cX4_finishCard 74 = .ok (.aload_n 1, 1) := by decide +kernel
theorem dX4_finishCard_75 : decode cX4_finishCard 75 = .ok (.getfield 159, 3) := by decide +kernel
theorem dX4_finishCard_78 : decode cX4_finishCard 78 = .ok (.putfield 162, 3) := by decide +kernel
theorem dX4_finishCard_81 : decode cX4_finishCard 81 = .ok (.aload_n 1, 1) := by decide +kernel
theorem dX4_finishCard_82 : decode cX4_finishCard 82 = .ok (.getfield 145, 3) := by decide +kernel
theorem dX4_finishCard_85 : decode cX4_finishCard 85 = .ok (.aload_n 2, 1) := by decide +kernel
theorem dX4_finishCard_86 : decode cX4_finishCard 86 = .ok (.getfield 163, 3) := by decide +kernel
theorem dX4_finishCard_89 : decode cX4_finishCard 89 = .ok (.invokestatic 164, 3) := by decide +kernel
theorem dX4_finishCard_92 : decode cX4_finishCard 92 = .ok (.aload_n 1, 1) := by decide +kernel
theorem dX4_finishCard_93 : decode cX4_finishCard 93 = .ok (.getfield 148, 3) := by decide +kernel
theorem dX4_finishCard_96 : decode cX4_finishCard 96 = .ok (.aload_n 2, 1) := by decide +kernel
theorem dX4_finishCard_97 : decode cX4_finishCard 97 = .ok (.getfield 168, 3) := by decide +kernel
theorem dX4_finishCard_100 : decode cX4_finishCard 100 = .ok (.invokestatic 164, 3) := by decide +kernel
theorem dX4_finishCard_103 : decode cX4_finishCard 103 = .ok (.aload_n 1, 1) := by decide +kernel
theorem dX4_finishCard_104 : decode cX4_finishCard 104 = .ok (.iconst 0, 1) := by decide +kernel
theorem dX4_finishCard_105 : decode cX4_finishCard 105 = .ok (.putfield 120, 3) := by decide +kernel
theorem dX4_finishCard_108 : decode cX4_finishCard 108 = .ok (.aload_n 0, 1) := by decide +kernel
theorem dX4_finishCard_109 : decode cX4_finishCard 109 = .ok (.aload_n 2, 1) := by decide +kernel
theorem dX4_finishCard_110 : decode cX4_finishCard 110 = .ok (.invokevirtual 169, 3) := by decide +kernel
theorem dX4_finishCard_113 : decode cX4_finishCard 113 = .ok (.ireturn, 1) := by decide +kernel
theorem dX4_addIdealCard_0 : decode cX4_addIdealCard 0 = .ok (.iload_n 1, 1) := by decide +kernel
theorem dX4_addIdealCard_1 : decode cX4_addIdealCard 1 = .ok (.invokestatic 58, 3) := by decide +kernel
theorem dX4_addIdealCard_4 : decode cX4_addIdealCard 4 = .ok (.ifCond .eq 32, 3) := by decide +kernel
theorem dX4_addIdealCard_7 : decode cX4_addIdealCard 7 = .ok (.iload_n 2, 1) := by decide +kernel
theorem dX4_addIdealCard_8 : decode cX4_addIdealCard 8 = .ok (.invokestatic 113, 3) := by decide +kernel
theorem dX4_addIdealCard_11 : decode cX4_addIdealCard 11 = .ok (.ifCond .eq 25, 3) := by decide +kernel
theorem dX4_addIdealCard_14 : decode cX4_addIdealCard 14 = .ok (.iload_n 3, 1) := by decide +kernel
theorem dX4_addIdealCard_15 : decode cX4_addIdealCard 15 = .ok (.bipush (-3), 2) := by decide +kernel
theorem dX4_addIdealCard_17 : decode cX4_addIdealCard 17 = .ok (.iconst 3, 1) := by decide +kernel
theorem dX4_addIdealCard_18 : decode cX4_addIdealCard 18 = .ok (.invokestatic 47, 3) := by decide +kernel
theorem dX4_addIdealCard_21 : decode cX4_addIdealCard 21 = .ok (.ifCond .eq 15, 3) := by decide +kernel
theorem dX4_addIdealCard_24 : decode cX4_addIdealCard 24 = .ok (.iload 4, 2) := by decide +kernel
theorem dX4_addIdealCard_26 : decode cX4_addIdealCard 26 = .ok (.bipush (-20), 2) := by decide +kernel
theorem dX4_addIdealCard_28 : decode cX4_addIdealCard 28 = .ok (.bipush 20, 2) := by decide +kernel
theorem dX4_addIdealCard_30 : decode cX4_addIdealCard 30 = .ok (.invokestatic 47, 3) := by decide +kernel
theorem dX4_addIdealCard_33 : decode cX4_addIdealCard 33 = .ok (.ifCond .ne 6, 3) := by decide +kernel
theorem dX4_addIdealCard_36 : decode cX4_addIdealCard 36 = .ok (.ldc 51, 2) := by decide +kernel
theorem dX4_addIdealCard_38 : decode cX4_addIdealCard 38 = .ok (.ireturn, 1) := by decide +kernel
theorem dX4_addIdealCard_39 : decode cX4_addIdealCard 39 = .ok (.aload_n 0, 1) := by decide +kernel
theorem dX4_addIdealCard_40 : decode cX4_addIdealCard 40 = .ok (.getfield 19, 3) := by decide +kernel
theorem dX4_addIdealCard_43 : decode cX4_addIdealCard 43 = .ok (.aload_n 0, 1) := by decide +kernel
theorem dX4_addIdealCard_44 : decode cX4_addIdealCard 44 = .ok (.getfield 35, 3) := by decide +kernel
theorem dX4_addIdealCard_47 : decode cX4_addIdealCard 47 = .ok (.iload_n 1, 1) := by decide +kernel
theorem dX4_addIdealCard_48 : decode cX4_addIdealCard 48 = .ok (.invokevirtual 91, 3) := by decide +kernel
theorem dX4_addIdealCard_51 : decode cX4_addIdealCard 51 = .ok (.iload_n 3, 1) := by decide +kernel
theorem dX4_addIdealCard_52 : decode cX4_addIdealCard 52 = .ok (.invokevirtual 173, 3) := by decide +kernel
theorem dX4_addIdealCard_55 : decode cX4_addIdealCard 55 = .ok (.aload_n 0, 1) := by decide +kernel
theorem dX4_addIdealCard_56 : decode cX4_addIdealCard 56 = .ok (.getfield 19, 3) := by decide +kernel
theorem dX4_addIdealCard_59 : decode cX4_addIdealCard 59 = .ok (.invokevirtual 177, 3) := by decide +kernel
theorem dX4_addIdealCard_62 : decode cX4_addIdealCard 62 = .ok (.ifCond .ne 6, 3) := by decide +kernel
theorem dX4_addIdealCard_65 : decode cX4_addIdealCard 65 = .ok (.ldc 136, 2) := by decide +kernel
theorem dX4_addIdealCard_67 : decode cX4_addIdealCard 67 = .ok (.ireturn, 1) := by decide +kernel
theorem dX4_addIdealCard_68 : decode cX4_addIdealCard 68 = .ok (.aload_n 0, 1) := by decide +kernel
theorem dX4_addIdealCard_69 : decode cX4_addIdealCard 69 = .ok (.getfield 35, 3) := by decide +kernel
theorem dX4_addIdealCard_72 : decode cX4_addIdealCard 72 = .ok (.getfield 151, 3) := by decide +kernel
theorem dX4_addIdealCard_75 : decode cX4_addIdealCard 75 = .ok (.bipush 10, 2) := by decide +kernel
theorem dX4_addIdealCard_77 : decode cX4_addIdealCard 77 = .ok (.if_icmp .lt 6, 3) := by decide +kernel
theorem dX4_addIdealCard_80 : decode cX4_addIdealCard 80 = .ok (.ldc 154, 2) := by decide +kernel
theorem dX4_addIdealCard_82 : decode cX4_addIdealCard 82 = .ok (.ireturn, 1) := by decide +kernel
theorem dX4_addIdealCard_83 : decode cX4_addIdealCard 83 = .ok (.aload_n 0, 1) := by decide +kernel
theorem dX4_addIdealCard_84 : decode cX4_addIdealCard 84 = .ok (.invokevirtual 52, 3) := by decide +kernel
theorem dX4_addIdealCard_87 : decode cX4_addIdealCard 87 = .ok (.new 7, 3) := by decide +kernel
theorem dX4_addIdealCard_90 : decode cX4_addIdealCard 90 = .ok (.dup, 1) := by decide +kernel
theorem dX4_addIdealCard_91 : decode cX4_addIdealCard 91 = .ok (.invokespecial 9, 3) := by decide +kernel
theorem dX4_addIdealCard_94 : decode cX4_addIdealCard 94 = .ok (.astore 5, 2) := by decide +kernel
theorem dX4_addIdealCard_96 : decode cX4_addIdealCard 96 = .ok (.aload 5, 2) := by decide +kernel
theorem dX4_addIdealCard_98 : decode cX4_addIdealCard 98 = .ok (.iload_n 1, 1) := by decide +kernel
theorem dX4_addIdealCard_99 : decode cX4_addIdealCard 99 = .ok (.putfield 158, 3) := by decide +kernel
theorem dX4_addIdealCard_102 : decode cX4_addIdealCard 102 = .ok (.aload 5, 2) := by decide +kernel
theorem dX4_addIdealCard_104 : decode cX4_addIdealCard 104 = .ok (.iload_n 2, 1) := by decide +kernel
theorem dX4_addIdealCard_105 : decode cX4_addIdealCard 105 = .ok (.putfield 162, 3) := by decide +kernel
theorem dX4_addIdealCard_108 : decode cX4_addIdealCard 108 = .ok (.aload_n 0, 1) := by decide +kernel
theorem dX4_addIdealCard_109 : decode cX4_addIdealCard 109 = .ok (.aload 5, 2) := by decide +kernel
theorem dX4_addIdealCard_111 : decode cX4_addIdealCard 111 = .ok (.aload_n 0, 1) := by decide +kernel
theorem dX4_addIdealCard_112 : decode cX4_addIdealCard 112 = .ok (.getfield 19, 3) := by decide +kernel
theorem dX4_addIdealCard_115 : decode cX4_addIdealCard 115 = .ok (.iload 4, 2) := by decide +kernel
theorem dX4_addIdealCard_117 : decode cX4_addIdealCard 117 = .ok (.invokevirtual 181, 3) := by decide +kernel
theorem dX4_addIdealCard_120 : decode cX4_addIdealCard 120 = .ok (.aload_n 0, 1) := by decide +kernel
theorem dX4_addIdealCard_121 : decode cX4_addIdealCard 121 = .ok (.aload 5, 2) := by decide +kernel
theorem dX4_addIdealCard_123 : decode cX4_addIdealCard 123 = .ok (.invokevirtual 169, 3) := by decide +kernel
theorem dX4_addIdealCard_126 : decode cX4_addIdealCard 126 = .ok (.ireturn, 1) := by decide +kernel
theorem dX4_removeCard_0 : decode cX4_removeCard 0 = .ok (.aload_n 0, 1) := by decide +kernel
theorem dX4_removeCard_1 : decode cX4_removeCard 1 = .ok (.iload_n 1, 1) := by decide +kernel
theorem dX4_removeCard_2 : decode cX4_removeCard 2 = .ok (.invokevirtual 185, 3) := by decide +kernel
theorem dX4_removeCard_5 : decode cX4_removeCard 5 = .ok (.ifCond .ne 6, 3) := by decide +kernel
theorem dX4_removeCard_8 : decode cX4_removeCard 8 = .ok (.ldc 51, 2) := by decide +kernel
theorem dX4_removeCard_10 : decode cX4_removeCard 10 = .ok (.ireturn, 1) := by decide +kernel
theorem dX4_removeCard_11 : decode cX4_removeCard 11 = .ok (.aload_n 0, 1) := by decide +kernel
theorem dX4_removeCard_12 : decode cX4_removeCard 12 = .ok (.invokevirtual 52, 3) := by decide +kernel
theorem dX4_removeCard_15 : decode cX4_removeCard 15 = .ok (.aload_n 0, 1) := by decide +kernel
theorem dX4_removeCard_16 : decode cX4_removeCard 16 = .ok (.getfield 35, 3) := by decide +kernel
theorem dX4_removeCard_19 : decode cX4_removeCard 19 = .ok (.iload_n 1, 1) := by decide +kernel
theorem dX4_removeCard_20 : decode cX4_removeCard 20 = .ok (.invokevirtual 188, 3) := by decide +kernel
theorem dX4_removeCard_23 : decode cX4_removeCard 23 = .ok (.aload_n 0, 1) := by decide +kernel
theorem dX4_removeCard_24 : decode cX4_removeCard 24 = .ok (.getfield 35, 3) := by decide +kernel
theorem dX4_removeCard_27 : decode cX4_removeCard 27 = .ok (.getfield 151, 3) := by decide +kernel
theorem dX4_removeCard_30 : decode cX4_removeCard 30 = .ok (.ireturn, 1) := by decide +kernel
theorem dX4_cardCount_0 : decode cX4_cardCount 0 = .ok (.aload_n 0, 1) := by decide +kernel
theorem dX4_cardCount_1 : decode cX4_cardCount 1 = .ok (.getfield 35, 3) := by decide +kernel
theorem dX4_cardCount_4 : decode cX4_cardCount 4 = .ok (.getfield 151, 3) := by decide +kernel
theorem dX4_cardCount_7 : decode cX4_cardCount 7 = .ok (.ireturn, 1) := by decide +kernel
theorem dX4_end_0 : decode cX4_end 0 = .ok (.aload_n 0, 1) := by decide +kernel
theorem dX4_end_1 : decode cX4_end 1 = .ok (.iload_n 1, 1) := by decide +kernel
theorem dX4_end_2 : decode cX4_end 2 = .ok (.invokevirtual 185, 3) := by decide +kernel
theorem dX4_end_5 : decode cX4_end 5 = .ok (.ifCond .eq 18, 3) := by decide +kernel
theorem dX4_end_8 : decode cX4_end 8 = .ok (.aload_n 0, 1) := by decide +kernel
theorem dX4_end_9 : decode cX4_end 9 = .ok (.getfield 35, 3) := by decide +kernel
theorem dX4_end_12 : decode cX4_end 12 = .ok (.getfield 192, 3) := by decide +kernel
theorem dX4_end_15 : decode cX4_end 15 = .ok (.iload_n 1, 1) := by decide +kernel
theorem dX4_end_16 : decode cX4_end 16 = .ok (.aaload, 1) := by decide +kernel
theorem dX4_end_17 : decode cX4_end 17 = .ok (.getfield 158, 3) := by decide +kernel
theorem dX4_end_20 : decode cX4_end 20 = .ok (.goto 5, 3) := by decide +kernel
theorem dX4_end_23 : decode cX4_end 23 = .ok (.ldc 51, 2) := by decide +kernel
theorem dX4_end_25 : decode cX4_end 25 = .ok (.ireturn, 1) := by decide +kernel
theorem dX4_speed_0 : decode cX4_speed 0 = .ok (.aload_n 0, 1) := by decide +kernel
theorem dX4_speed_1 : decode cX4_speed 1 = .ok (.iload_n 1, 1) := by decide +kernel
theorem dX4_speed_2 : decode cX4_speed 2 = .ok (.invokevirtual 185, 3) := by decide +kernel
theorem dX4_speed_5 : decode cX4_speed 5 = .ok (.ifCond .eq 18, 3) := by decide +kernel
theorem dX4_speed_8 : decode cX4_speed 8 = .ok (.aload_n 0, 1) := by decide +kernel
theorem dX4_speed_9 : decode cX4_speed 9 = .ok (.getfield 35, 3) := by decide +kernel
theorem dX4_speed_12 : decode cX4_speed 12 = .ok (.getfield 192, 3) := by decide +kernel
theorem dX4_speed_15 : decode cX4_speed 15 = .ok (.iload_n 1, 1) := by decide +kernel
theorem dX4_speed_16 : decode cX4_speed 16 = .ok (.aaload, 1) := by decide +kernel
theorem dX4_speed_17 : decode cX4_speed 17 = .ok (.getfield 162, 3) := by decide +kernel
theorem dX4_speed_20 : decode cX4_speed 20 = .ok (.goto 5, 3) := by decide +kernel
theorem dX4_speed_23 : decode cX4_speed 23 = .ok (.ldc 51, 2) := by decide +kernel
theorem dX4_speed_25 : decode cX4_speed 25 = .ok (.ireturn, 1) := by decide +kernel
theorem dX4_pressure_0 : decode cX4_pressure 0 = .ok (.aload_n 0, 1) := by decide +kernel
theorem dX4_pressure_1 : decode cX4_pressure 1 = .ok (.iload_n 1, 1) := by decide +kernel
theorem dX4_pressure_2 : decode cX4_pressure 2 = .ok (.invokevirtual 185, 3) := by decide +kernel
theorem dX4_pressure_5 : decode cX4_pressure 5 = .ok (.ifCond .eq 17, 3) := by decide +kernel
theorem dX4_pressure_8 : decode cX4_pressure 8 = .ok (.iload_n 2, 1) := by decide +kernel
theorem dX4_pressure_9 : decode cX4_pressure 9 = .ok (.invokestatic 130, 3) := by decide +kernel
theorem dX4_pressure_12 : decode cX4_pressure 12 = .ok (.ifCond .eq 10, 3) := by decide +kernel
theorem dX4_pressure_15 : decode cX4_pressure 15 = .ok (.iload_n 3, 1) := by decide +kernel
theorem dX4_pressure_16 : decode cX4_pressure 16 = .ok (.invokestatic 133, 3) := by decide +kernel
theorem dX4_pressure_19 : decode cX4_pressure 19 = .ok (.ifCond .ne 6, 3) := by decide +kernel
theorem dX4_pressure_22 : decode cX4_pressure 22 = .ok (.ldc 51, 2) := by decide +kernel
theorem dX4_pressure_24 : decode cX4_pressure 24 = .ok (.ireturn, 1) := by decide +kernel
theorem dX4_pressure_25 : decode cX4_pressure 25 = .ok (.aload_n 0, 1) := by decide +kernel
theorem dX4_pressure_26 : decode cX4_pressure 26 = .ok (.getfield 35, 3) := by decide +kernel
theorem dX4_pressure_29 : decode cX4_pressure 29 = .ok (.getfield 192, 3) := by decide +kernel
theorem dX4_pressure_32 : decode cX4_pressure 32 = .ok (.iload_n 1, 1) := by decide +kernel
theorem dX4_pressure_33 : decode cX4_pressure 33 = .ok (.aaload, 1) := by decide +kernel
theorem dX4_pressure_34 : decode cX4_pressure 34 = .ok (.iload_n 2, 1) := by decide +kernel
theorem dX4_pressure_35 : decode cX4_pressure 35 = .ok (.invokevirtual 196, 3) := by decide +kernel
theorem dX4_pressure_38 : decode cX4_pressure 38 = .ok (.iload_n 3, 1) := by decide +kernel
theorem dX4_pressure_39 : decode cX4_pressure 39 = .ok (.iaload, 1) := by decide +kernel
theorem dX4_pressure_40 : decode cX4_pressure 40 = .ok (.ireturn, 1) := by decide +kernel
theorem dX4_area_0 : decode cX4_area 0 = .ok (.aload_n 0, 1) := by decide +kernel
theorem dX4_area_1 : decode cX4_area 1 = .ok (.iload_n 1, 1) := by decide +kernel
theorem dX4_area_2 : decode cX4_area 2 = .ok (.invokevirtual 185, 3) := by decide +kernel
theorem dX4_area_5 : decode cX4_area 5 = .ok (.ifCond .eq 18, 3) := by decide +kernel
theorem dX4_area_8 : decode cX4_area 8 = .ok (.aload_n 0, 1) := by decide +kernel
theorem dX4_area_9 : decode cX4_area 9 = .ok (.getfield 35, 3) := by decide +kernel
theorem dX4_area_12 : decode cX4_area 12 = .ok (.getfield 192, 3) := by decide +kernel
theorem dX4_area_15 : decode cX4_area 15 = .ok (.iload_n 1, 1) := by decide +kernel
theorem dX4_area_16 : decode cX4_area 16 = .ok (.aaload, 1) := by decide +kernel
theorem dX4_area_17 : decode cX4_area 17 = .ok (.invokevirtual 199, 3) := by decide +kernel
theorem dX4_area_20 : decode cX4_area 20 = .ok (.goto 5, 3) := by decide +kernel
theorem dX4_area_23 : decode cX4_area 23 = .ok (.ldc 51, 2) := by decide +kernel
theorem dX4_area_25 : decode cX4_area 25 = .ok (.ireturn, 1) := by decide +kernel
theorem dX4_forwardArea_0 : decode cX4_forwardArea 0 = .ok (.aload_n 0, 1) := by decide +kernel
theorem dX4_forwardArea_1 : decode cX4_forwardArea 1 = .ok (.iload_n 1, 1) := by decide +kernel
theorem dX4_forwardArea_2 : decode cX4_forwardArea 2 = .ok (.invokevirtual 185, 3) := by decide +kernel
theorem dX4_forwardArea_5 : decode cX4_forwardArea 5 = .ok (.ifCond .eq 18, 3) := by decide +kernel
theorem dX4_forwardArea_8 : decode cX4_forwardArea 8 = .ok (.aload_n 0, 1) := by decide +kernel
theorem dX4_forwardArea_9 : decode cX4_forwardArea 9 = .ok (.getfield 35, 3) := by decide +kernel
theorem dX4_forwardArea_12 : decode cX4_forwardArea 12 = .ok (.getfield 192, 3) := by decide +kernel
theorem dX4_forwardArea_15 : decode cX4_forwardArea 15 = .ok (.iload_n 1, 1) := by decide +kernel
theorem dX4_forwardArea_16 : decode cX4_forwardArea 16 = .ok (.aaload, 1) := by decide +kernel
theorem dX4_forwardArea_17 : decode cX4_forwardArea 17 = .ok (.invokevirtual 203, 3) := by decide +kernel
theorem dX4_forwardArea_20 : decode cX4_forwardArea 20 = .ok (.goto 5, 3) := by decide +kernel
theorem dX4_forwardArea_23 : decode cX4_forwardArea 23 = .ok (.ldc 51, 2) := by decide +kernel
theorem dX4_forwardArea_25 : decode cX4_forwardArea 25 = .ok (.ireturn, 1) := by decide +kernel
theorem dX4_loopArea_0 : decode cX4_loopArea 0 = .ok (.aload_n 0, 1) := by decide +kernel
theorem dX4_loopArea_1 : decode cX4_loopArea 1 = .ok (.iload_n 1, 1) := by decide +kernel
theorem dX4_loopArea_2 : decode cX4_loopArea 2 = .ok (.invokevirtual 185, 3) := by decide +kernel
theorem dX4_loopArea_5 : decode cX4_loopArea 5 = .ok (.ifCond .eq 18, 3) := by decide +kernel
theorem dX4_loopArea_8 : decode cX4_loopArea 8 = .ok (.aload_n 0, 1) := by decide +kernel
theorem dX4_loopArea_9 : decode cX4_loopArea 9 = .ok (.getfield 35, 3) := by decide +kernel
theorem dX4_loopArea_12 : decode cX4_loopArea 12 = .ok (.getfield 192, 3) := by decide +kernel
theorem dX4_loopArea_15 : decode cX4_loopArea 15 = .ok (.iload_n 1, 1) := by decide +kernel
theorem dX4_loopArea_16 : decode cX4_loopArea 16 = .ok (.aaload, 1) := by decide +kernel
theorem dX4_loopArea_17 : decode cX4_loopArea 17 = .ok (.invokevirtual 206, 3) := by decide +kernel
theorem dX4_loopArea_20 : decode cX4_loopArea 20 = .ok (.goto 5, 3) := by decide +kernel
theorem dX4_loopArea_23 : decode cX4_loopArea 23 = .ok (.ldc 51, 2) := by decide +kernel
theorem dX4_loopArea_25 : decode cX4_loopArea 25 = .ok (.ireturn, 1) := by decide +kernel
theorem dX4_loopStations_0 : decode cX4_loopStations 0 = .ok (.aload_n 0, 1) := by decide +kernel
theorem dX4_loopStations_1 : decode cX4_loopStations 1 = .ok (.iload_n 1, 1) := by decide +kernel
theorem dX4_loopStations_2 : decode cX4_loopStations 2 = .ok (.invokevirtual 185, 3) := by decide +kernel
theorem dX4_loopStations_5 : decode cX4_loopStations 5 = .ok (.ifCond .eq 18, 3) := by decide +kernel
theorem dX4_loopStations_8 : decode cX4_loopStations 8 = .ok (.aload_n 0, 1) := by decide +kernel
theorem dX4_loopStations_9 : decode cX4_loopStations 9 = .ok (.getfield 35, 3) := by decide +kernel
theorem dX4_loopStations_12 : decode cX4_loopStations 12 = .ok (.getfield 192, 3) := by decide +kernel
theorem dX4_loopStations_15 : decode cX4_loopStations 15 = .ok (.iload_n 1, 1) := by decide +kernel
theorem dX4_loopStations_16 : decode cX4_loopStations 16 = .ok (.aaload, 1) := by decide +kernel
theorem dX4_loopStations_17 : decode cX4_loopStations 17 = .ok (.invokevirtual 209, 3) := by decide +kernel
theorem dX4_loopStations_20 : decode cX4_loopStations 20 = .ok (.goto 5, 3) := by decide +kernel
theorem dX4_loopStations_23 : decode cX4_loopStations 23 = .ok (.ldc 51, 2) := by decide +kernel
theorem dX4_loopStations_25 : decode cX4_loopStations 25 = .ok (.ireturn, 1) := by decide +kernel
theorem dX4_meanPressure_0 : decode cX4_meanPressure 0 = .ok (.aload_n 0, 1) := by decide +kernel
theorem dX4_meanPressure_1 : decode cX4_meanPressure 1 = .ok (.iload_n 1, 1) := by decide +kernel
theorem dX4_meanPressure_2 : decode cX4_meanPressure 2 = .ok (.invokevirtual 185, 3) := by decide +kernel
theorem dX4_meanPressure_5 : decode cX4_meanPressure 5 = .ok (.ifCond .ne 6, 3) := by decide +kernel
theorem dX4_meanPressure_8 : decode cX4_meanPressure 8 = .ok (.ldc 51, 2) := by decide +kernel
theorem dX4_meanPressure_10 : decode cX4_meanPressure 10 = .ok (.ireturn, 1) := by decide +kernel
theorem dX4_meanPressure_11 : decode cX4_meanPressure 11 = .ok (.aload_n 0, 1) := by decide +kernel
theorem dX4_meanPressure_12 : decode cX4_meanPressure 12 = .ok (.getfield 35, 3) := by decide +kernel
theorem dX4_meanPressure_15 : decode cX4_meanPressure 15 = .ok (.getfield 192, 3) := by decide +kernel
theorem dX4_meanPressure_18 : decode cX4_meanPressure 18 = .ok (.iload_n 1, 1) := by decide +kernel
theorem dX4_meanPressure_19 : decode cX4_meanPressure 19 = .ok (.aaload, 1) := by decide +kernel
theorem dX4_meanPressure_20 : decode cX4_meanPressure 20 = .ok (.invokevirtual 199, 3) := by decide +kernel
theorem dX4_meanPressure_23 : decode cX4_meanPressure 23 = .ok (.sipush 1000, 3) := by decide +kernel
theorem dX4_meanPressure_26 : decode cX4_meanPressure 26 = .ok (.imul, 1) := by decide +kernel
theorem dX4_meanPressure_27 : decode cX4_meanPressure 27 = .ok (.bipush 40, 2) := by decide +kernel
theorem dX4_meanPressure_29 : decode cX4_meanPressure 29 = .ok (.invokestatic 212, 3) := by decide +kernel
theorem dX4_meanPressure_32 : decode cX4_meanPressure 32 = .ok (.ireturn, 1) := by decide +kernel
theorem dX4_power_0 : decode cX4_power 0 = .ok (.aload_n 0, 1) := by decide +kernel
theorem dX4_power_1 : decode cX4_power 1 = .ok (.iload_n 1, 1) := by decide +kernel
theorem dX4_power_2 : decode cX4_power 2 = .ok (.invokevirtual 185, 3) := by decide +kernel
theorem dX4_power_5 : decode cX4_power 5 = .ok (.ifCond .eq 19, 3) := by decide +kernel
theorem dX4_power_8 : decode cX4_power 8 = .ok (.aload_n 0, 1) := by decide +kernel
theorem dX4_power_9 : decode cX4_power 9 = .ok (.aload_n 0, 1) := by decide +kernel
theorem dX4_power_10 : decode cX4_power 10 = .ok (.getfield 35, 3) := by decide +kernel
theorem dX4_power_13 : decode cX4_power 13 = .ok (.getfield 192, 3) := by decide +kernel
theorem dX4_power_16 : decode cX4_power 16 = .ok (.iload_n 1, 1) := by decide +kernel
theorem dX4_power_17 : decode cX4_power 17 = .ok (.aaload, 1) := by decide +kernel
theorem dX4_power_18 : decode cX4_power 18 = .ok (.invokevirtual 216, 3) := by decide +kernel
theorem dX4_power_21 : decode cX4_power 21 = .ok (.goto 6, 3) := by decide +kernel
theorem dX4_power_24 : decode cX4_power 24 = .ok (.ldc2_w 220, 3) := by decide +kernel
theorem dX4_power_27 : decode cX4_power 27 = .ok (.lreturn, 1) := by decide +kernel
theorem dX4_event_0 : decode cX4_event 0 = .ok (.aload_n 0, 1) := by decide +kernel
theorem dX4_event_1 : decode cX4_event 1 = .ok (.iload_n 1, 1) := by decide +kernel
theorem dX4_event_2 : decode cX4_event 2 = .ok (.invokevirtual 185, 3) := by decide +kernel
theorem dX4_event_5 : decode cX4_event 5 = .ok (.ifCond .eq 10, 3) := by decide +kernel
theorem dX4_event_8 : decode cX4_event 8 = .ok (.iload_n 2, 1) := by decide +kernel
theorem dX4_event_9 : decode cX4_event 9 = .ok (.invokestatic 107, 3) := by decide +kernel
theorem dX4_event_12 : decode cX4_event 12 = .ok (.ifCond .ne 6, 3) := by decide +kernel
theorem dX4_event_15 : decode cX4_event 15 = .ok (.ldc 51, 2) := by decide +kernel
theorem dX4_event_17 : decode cX4_event 17 = .ok (.ireturn, 1) := by decide +kernel
theorem dX4_event_18 : decode cX4_event 18 = .ok (.aload_n 0, 1) := by decide +kernel
theorem dX4_event_19 : decode cX4_event 19 = .ok (.aload_n 0, 1) := by decide +kernel
theorem dX4_event_20 : decode cX4_event 20 = .ok (.getfield 35, 3) := by decide +kernel
theorem dX4_event_23 : decode cX4_event 23 = .ok (.getfield 192, 3) := by decide +kernel
theorem dX4_event_26 : decode cX4_event 26 = .ok (.iload_n 1, 1) := by decide +kernel
theorem dX4_event_27 : decode cX4_event 27 = .ok (.aaload, 1) := by decide +kernel
theorem dX4_event_28 : decode cX4_event 28 = .ok (.invokevirtual 222, 3) := by decide +kernel
theorem dX4_event_31 : decode cX4_event 31 = .ok (.aload_n 0, 1) := by decide +kernel
theorem dX4_event_32 : decode cX4_event 32 = .ok (.getfield 23, 3) := by decide +kernel
theorem dX4_event_35 : decode cX4_event 35 = .ok (.iload_n 2, 1) := by decide +kernel
theorem dX4_event_36 : decode cX4_event 36 = .ok (.invokevirtual 110, 3) := by decide +kernel
theorem dX4_event_39 : decode cX4_event 39 = .ok (.ireturn, 1) := by decide +kernel
theorem dX4_lateness_0 : decode cX4_lateness 0 = .ok (.aload_n 0, 1) := by decide +kernel
theorem dX4_lateness_1 : decode cX4_lateness 1 = .ok (.iload_n 1, 1) := by decide +kernel
theorem dX4_lateness_2 : decode cX4_lateness 2 = .ok (.invokevirtual 185, 3) := by decide +kernel
theorem dX4_lateness_5 : decode cX4_lateness 5 = .ok (.ifCond .eq 10, 3) := by decide +kernel
theorem dX4_lateness_8 : decode cX4_lateness 8 = .ok (.iload_n 2, 1) := by decide +kernel
theorem dX4_lateness_9 : decode cX4_lateness 9 = .ok (.invokestatic 107, 3) := by decide +kernel
theorem dX4_lateness_12 : decode cX4_lateness 12 = .ok (.ifCond .ne 6, 3) := by decide +kernel
theorem dX4_lateness_15 : decode cX4_lateness 15 = .ok (.ldc 51, 2) := by decide +kernel
theorem dX4_lateness_17 : decode cX4_lateness 17 = .ok (.ireturn, 1) := by decide +kernel
theorem dX4_lateness_18 : decode cX4_lateness 18 = .ok (.aload_n 0, 1) := by decide +kernel
theorem dX4_lateness_19 : decode cX4_lateness 19 = .ok (.aload_n 0, 1) := by decide +kernel
theorem dX4_lateness_20 : decode cX4_lateness 20 = .ok (.getfield 35, 3) := by decide +kernel
theorem dX4_lateness_23 : decode cX4_lateness 23 = .ok (.getfield 192, 3) := by decide +kernel
theorem dX4_lateness_26 : decode cX4_lateness 26 = .ok (.iload_n 1, 1) := by decide +kernel
theorem dX4_lateness_27 : decode cX4_lateness 27 = .ok (.aaload, 1) := by decide +kernel
theorem dX4_lateness_28 : decode cX4_lateness 28 = .ok (.invokevirtual 222, 3) := by decide +kernel
theorem dX4_lateness_31 : decode cX4_lateness 31 = .ok (.aload_n 0, 1) := by decide +kernel
theorem dX4_lateness_32 : decode cX4_lateness 32 = .ok (.aload_n 0, 1) := by decide +kernel
theorem dX4_lateness_33 : decode cX4_lateness 33 = .ok (.getfield 35, 3) := by decide +kernel
theorem dX4_lateness_36 : decode cX4_lateness 36 = .ok (.aload_n 0, 1) := by decide +kernel
theorem dX4_lateness_37 : decode cX4_lateness 37 = .ok (.getfield 35, 3) := by decide +kernel
theorem dX4_lateness_40 : decode cX4_lateness 40 = .ok (.getfield 192, 3) := by decide +kernel
theorem dX4_lateness_43 : decode cX4_lateness 43 = .ok (.iload_n 1, 1) := by decide +kernel
theorem dX4_lateness_44 : decode cX4_lateness 44 = .ok (.aaload, 1) := by decide +kernel
theorem dX4_lateness_45 : decode cX4_lateness 45 = .ok (.getfield 158, 3) := by decide +kernel
theorem dX4_lateness_48 : decode cX4_lateness 48 = .ok (.invokevirtual 91, 3) := by decide +kernel
theorem dX4_lateness_51 : decode cX4_lateness 51 = .ok (.iload_n 2, 1) := by decide +kernel
theorem dX4_lateness_52 : decode cX4_lateness 52 = .ok (.invokevirtual 225, 3) := by decide +kernel
theorem dX4_lateness_55 : decode cX4_lateness 55 = .ok (.ireturn, 1) := by decide +kernel
theorem dX4_slip_0 : decode cX4_slip 0 = .ok (.aload_n 0, 1) := by decide +kernel
theorem dX4_slip_1 : decode cX4_slip 1 = .ok (.iload_n 1, 1) := by decide +kernel
theorem dX4_slip_2 : decode cX4_slip 2 = .ok (.invokevirtual 185, 3) := by decide +kernel
theorem dX4_slip_5 : decode cX4_slip 5 = .ok (.ifCond .ne 6, 3) := by decide +kernel
theorem dX4_slip_8 : decode cX4_slip 8 = .ok (.ldc 51, 2) := by decide +kernel
theorem dX4_slip_10 : decode cX4_slip 10 = .ok (.ireturn, 1) := by decide +kernel
theorem dX4_slip_11 : decode cX4_slip 11 = .ok (.aload_n 0, 1) := by decide +kernel
theorem dX4_slip_12 : decode cX4_slip 12 = .ok (.aload_n 0, 1) := by decide +kernel
theorem dX4_slip_13 : decode cX4_slip 13 = .ok (.getfield 35, 3) := by decide +kernel
theorem dX4_slip_16 : decode cX4_slip 16 = .ok (.getfield 192, 3) := by decide +kernel
theorem dX4_slip_19 : decode cX4_slip 19 = .ok (.iload_n 1, 1) := by decide +kernel
theorem dX4_slip_20 : decode cX4_slip 20 = .ok (.aaload, 1) := by decide +kernel
theorem dX4_slip_21 : decode cX4_slip 21 = .ok (.invokevirtual 222, 3) := by decide +kernel
theorem dX4_slip_24 : decode cX4_slip 24 = .ok (.aload_n 0, 1) := by decide +kernel
theorem dX4_slip_25 : decode cX4_slip 25 = .ok (.getfield 35, 3) := by decide +kernel
theorem dX4_slip_28 : decode cX4_slip 28 = .ok (.aload_n 0, 1) := by decide +kernel
theorem dX4_slip_29 : decode cX4_slip 29 = .ok (.getfield 35, 3) := by decide +kernel
theorem dX4_slip_32 : decode cX4_slip 32 = .ok (.getfield 192, 3) := by decide +kernel
theorem dX4_slip_35 : decode cX4_slip 35 = .ok (.iload_n 1, 1) := by decide +kernel
theorem dX4_slip_36 : decode cX4_slip 36 = .ok (.aaload, 1) := by decide +kernel
theorem dX4_slip_37 : decode cX4_slip 37 = .ok (.getfield 158, 3) := by decide +kernel
theorem dX4_slip_40 : decode cX4_slip 40 = .ok (.invokevirtual 91, 3) := by decide +kernel
theorem dX4_slip_43 : decode cX4_slip 43 = .ok (.astore_n 2, 1) := by decide +kernel
theorem dX4_slip_44 : decode cX4_slip 44 = .ok (.iconst 0, 1) := by decide +kernel
theorem dX4_slip_45 : decode cX4_slip 45 = .ok (.istore_n 3, 1) := by decide +kernel
theorem dX4_slip_46 : decode cX4_slip 46 = .ok (.aload_n 0, 1) := by decide +kernel
theorem dX4_slip_47 : decode cX4_slip 47 = .ok (.aload_n 2, 1) := by decide +kernel
theorem dX4_slip_48 : decode cX4_slip 48 = .ok (.iconst 0, 1) := by decide +kernel
theorem dX4_slip_49 : decode cX4_slip 49 = .ok (.invokevirtual 229, 3) := by decide +kernel
theorem dX4_slip_52 : decode cX4_slip 52 = .ok (.istore 4, 2) := by decide +kernel
theorem dX4_slip_54 : decode cX4_slip 54 = .ok (.iconst 1, 1) := by decide +kernel
theorem dX4_slip_55 : decode cX4_slip 55 = .ok (.istore 5, 2) := by decide +kernel
theorem dX4_slip_57 : decode cX4_slip 57 = .ok (.iload 5, 2) := by decide +kernel
theorem dX4_slip_59 : decode cX4_slip 59 = .ok (.iconst 5, 1) := by decide +kernel
theorem dX4_slip_60 : decode cX4_slip 60 = .ok (.if_icmp .gt 57, 3) := by decide +kernel
theorem dX4_slip_63 : decode cX4_slip 63 = .ok (.aload_n 0, 1) := by decide +kernel
theorem dX4_slip_64 : decode cX4_slip 64 = .ok (.aload_n 2, 1) := by decide +kernel
theorem dX4_slip_65 : decode cX4_slip 65 = .ok (.iload 5, 2) := by decide +kernel
theorem dX4_slip_67 : decode cX4_slip 67 = .ok (.ineg, 1) := by decide +kernel
theorem dX4_slip_68 : decode cX4_slip 68 = .ok (.invokevirtual 229, 3) := by decide +kernel
theorem dX4_slip_71 : decode cX4_slip 71 = .ok (.istore 6, 2) := by decide +kernel
theorem dX4_slip_73 : decode cX4_slip 73 = .ok (.iload 6, 2) := by decide +kernel
theorem dX4_slip_75 : decode cX4_slip 75 = .ok (.iload 4, 2) := by decide +kernel
theorem dX4_slip_77 : decode cX4_slip 77 = .ok (.if_icmp .ge 11, 3) := by decide +kernel
theorem dX4_slip_80 : decode cX4_slip 80 = .ok (.iload 6, 2) := by decide +kernel
theorem dX4_slip_82 : decode cX4_slip 82 = .ok (.istore 4, 2) := by decide +kernel
theorem dX4_slip_84 : decode cX4_slip 84 = .ok (.iload 5, 2) := by decide +kernel
theorem dX4_slip_86 : decode cX4_slip 86 = .ok (.ineg, 1) := by decide +kernel
theorem dX4_slip_87 : decode cX4_slip 87 = .ok (.istore_n 3, 1) := by decide +kernel
theorem dX4_slip_88 : decode cX4_slip 88 = .ok (.aload_n 0, 1) := by decide +kernel
theorem dX4_slip_89 : decode cX4_slip 89 = .ok (.aload_n 2, 1) := by decide +kernel
theorem dX4_slip_90 : decode cX4_slip 90 = .ok (.iload 5, 2) := by decide +kernel
theorem dX4_slip_92 : decode cX4_slip 92 = .ok (.invokevirtual 229, 3) := by decide +kernel
theorem dX4_slip_95 : decode cX4_slip 95 = .ok (.istore 7, 2) := by decide +kernel
theorem dX4_slip_97 : decode cX4_slip 97 = .ok (.iload 7, 2) := by decide +kernel
theorem dX4_slip_99 : decode cX4_slip 99 = .ok (.iload 4, 2) := by decide +kernel
theorem dX4_slip_101 : decode cX4_slip 101 = .ok (.if_icmp .ge 10, 3) := by decide +kernel
theorem dX4_slip_104 : decode cX4_slip 104 = .ok (.iload 7, 2) := by decide +kernel
theorem dX4_slip_106 : decode cX4_slip 106 = .ok (.istore 4, 2) := by decide +kernel
theorem dX4_slip_108 : decode cX4_slip 108 = .ok (.iload 5, 2) := by decide +kernel
theorem dX4_slip_110 : decode cX4_slip 110 = .ok (.istore_n 3, 1) := by decide +kernel
theorem dX4_slip_111 : decode cX4_slip 111 = .ok (.iinc 5 1, 3) := by decide +kernel
theorem dX4_slip_114 : decode cX4_slip 114 = .ok (.goto (-57), 3) := by decide +kernel
theorem dX4_slip_117 : decode cX4_slip 117 = .ok (.iload_n 3, 1) := by decide +kernel
theorem dX4_slip_118 : decode cX4_slip 118 = .ok (.ireturn, 1) := by decide +kernel
theorem dX4_constant_0 : decode cX4_constant 0 = .ok (.aload_n 0, 1) := by decide +kernel
theorem dX4_constant_1 : decode cX4_constant 1 = .ok (.iload_n 1, 1) := by decide +kernel
theorem dX4_constant_2 : decode cX4_constant 2 = .ok (.invokevirtual 185, 3) := by decide +kernel
theorem dX4_constant_5 : decode cX4_constant 5 = .ok (.ifCond .eq 10, 3) := by decide +kernel
theorem dX4_constant_8 : decode cX4_constant 8 = .ok (.iload_n 2, 1) := by decide +kernel
theorem dX4_constant_9 : decode cX4_constant 9 = .ok (.invokestatic 133, 3) := by decide +kernel
theorem dX4_constant_12 : decode cX4_constant 12 = .ok (.ifCond .ne 6, 3) := by decide +kernel
theorem dX4_constant_15 : decode cX4_constant 15 = .ok (.ldc 51, 2) := by decide +kernel
theorem dX4_constant_17 : decode cX4_constant 17 = .ok (.ireturn, 1) := by decide +kernel
theorem dX4_constant_18 : decode cX4_constant 18 = .ok (.aload_n 0, 1) := by decide +kernel
theorem dX4_constant_19 : decode cX4_constant 19 = .ok (.aload_n 0, 1) := by decide +kernel
theorem dX4_constant_20 : decode cX4_constant 20 = .ok (.getfield 35, 3) := by decide +kernel
theorem dX4_constant_23 : decode cX4_constant 23 = .ok (.getfield 192, 3) := by decide +kernel
theorem dX4_constant_26 : decode cX4_constant 26 = .ok (.iload_n 1, 1) := by decide +kernel
theorem dX4_constant_27 : decode cX4_constant 27 = .ok (.aaload, 1) := by decide +kernel
theorem dX4_constant_28 : decode cX4_constant 28 = .ok (.iload_n 2, 1) := by decide +kernel
theorem dX4_constant_29 : decode cX4_constant 29 = .ok (.invokevirtual 232, 3) := by decide +kernel
theorem dX4_constant_32 : decode cX4_constant 32 = .ok (.ireturn, 1) := by decide +kernel
theorem dX4_leakage_0 : decode cX4_leakage 0 = .ok (.aload_n 0, 1) := by decide +kernel
theorem dX4_leakage_1 : decode cX4_leakage 1 = .ok (.iload_n 1, 1) := by decide +kernel
theorem dX4_leakage_2 : decode cX4_leakage 2 = .ok (.invokevirtual 185, 3) := by decide +kernel
theorem dX4_leakage_5 : decode cX4_leakage 5 = .ok (.ifCond .ne 6, 3) := by decide +kernel
theorem dX4_leakage_8 : decode cX4_leakage 8 = .ok (.ldc 51, 2) := by decide +kernel
theorem dX4_leakage_10 : decode cX4_leakage 10 = .ok (.ireturn, 1) := by decide +kernel
theorem dX4_leakage_11 : decode cX4_leakage 11 = .ok (.aload_n 0, 1) := by decide +kernel
theorem dX4_leakage_12 : decode cX4_leakage 12 = .ok (.aload_n 0, 1) := by decide +kernel
theorem dX4_leakage_13 : decode cX4_leakage 13 = .ok (.getfield 35, 3) := by decide +kernel
theorem dX4_leakage_16 : decode cX4_leakage 16 = .ok (.getfield 192, 3) := by decide +kernel
theorem dX4_leakage_19 : decode cX4_leakage 19 = .ok (.iload_n 1, 1) := by decide +kernel
theorem dX4_leakage_20 : decode cX4_leakage 20 = .ok (.aaload, 1) := by decide +kernel
theorem dX4_leakage_21 : decode cX4_leakage 21 = .ok (.invokevirtual 222, 3) := by decide +kernel
theorem dX4_leakage_24 : decode cX4_leakage 24 = .ok (.aload_n 0, 1) := by decide +kernel
theorem dX4_leakage_25 : decode cX4_leakage 25 = .ok (.getfield 23, 3) := by decide +kernel
theorem dX4_leakage_28 : decode cX4_leakage 28 = .ok (.getfield 101, 3) := by decide +kernel
theorem dX4_leakage_31 : decode cX4_leakage 31 = .ok (.iconst 1, 1) := by decide +kernel
theorem dX4_leakage_32 : decode cX4_leakage 32 = .ok (.isub, 1) := by decide +kernel
theorem dX4_leakage_33 : decode cX4_leakage 33 = .ok (.istore_n 2, 1) := by decide +kernel
theorem dX4_leakage_34 : decode cX4_leakage 34 = .ok (.aload_n 0, 1) := by decide +kernel
theorem dX4_leakage_35 : decode cX4_leakage 35 = .ok (.aload_n 0, 1) := by decide +kernel
theorem dX4_leakage_36 : decode cX4_leakage 36 = .ok (.getfield 35, 3) := by decide +kernel
theorem dX4_leakage_39 : decode cX4_leakage 39 = .ok (.getfield 192, 3) := by decide +kernel
theorem dX4_leakage_42 : decode cX4_leakage 42 = .ok (.iload_n 1, 1) := by decide +kernel
theorem dX4_leakage_43 : decode cX4_leakage 43 = .ok (.aaload, 1) := by decide +kernel
theorem dX4_leakage_44 : decode cX4_leakage 44 = .ok (.aload_n 0, 1) := by decide +kernel
theorem dX4_leakage_45 : decode cX4_leakage 45 = .ok (.getfield 23, 3) := by decide +kernel
theorem dX4_leakage_48 : decode cX4_leakage 48 = .ok (.getfield 98, 3) := by decide +kernel
theorem dX4_leakage_51 : decode cX4_leakage 51 = .ok (.invokevirtual 232, 3) := by decide +kernel
theorem dX4_leakage_54 : decode cX4_leakage 54 = .ok (.istore_n 3, 1) := by decide +kernel
theorem dX4_leakage_55 : decode cX4_leakage 55 = .ok (.iload_n 2, 1) := by decide +kernel
theorem dX4_leakage_56 : decode cX4_leakage 56 = .ok (.aload_n 0, 1) := by decide +kernel
theorem dX4_leakage_57 : decode cX4_leakage 57 = .ok (.getfield 23, 3) := by decide +kernel
theorem dX4_leakage_60 : decode cX4_leakage 60 = .ok (.getfield 98, 3) := by decide +kernel
theorem dX4_leakage_63 : decode cX4_leakage 63 = .ok (.if_icmp .le 7, 3) := by decide +kernel
theorem dX4_leakage_66 : decode cX4_leakage 66 = .ok (.iload_n 3, 1) := by decide +kernel
theorem dX4_leakage_67 : decode cX4_leakage 67 = .ok (.ifCond .ne 6, 3) := by decide +kernel
theorem dX4_leakage_70 : decode cX4_leakage 70 = .ok (.ldc 236, 2) := by decide +kernel
theorem dX4_leakage_72 : decode cX4_leakage 72 = .ok (.ireturn, 1) := by decide +kernel
theorem dX4_leakage_73 : decode cX4_leakage 73 = .ok (.aload_n 0, 1) := by decide +kernel
theorem dX4_leakage_74 : decode cX4_leakage 74 = .ok (.aload_n 0, 1) := by decide +kernel
theorem dX4_leakage_75 : decode cX4_leakage 75 = .ok (.getfield 35, 3) := by decide +kernel
theorem dX4_leakage_78 : decode cX4_leakage 78 = .ok (.getfield 192, 3) := by decide +kernel
theorem dX4_leakage_81 : decode cX4_leakage 81 = .ok (.iload_n 1, 1) := by decide +kernel
theorem dX4_leakage_82 : decode cX4_leakage 82 = .ok (.aaload, 1) := by decide +kernel
theorem dX4_leakage_83 : decode cX4_leakage 83 = .ok (.iload_n 2, 1) := by decide +kernel
theorem dX4_leakage_84 : decode cX4_leakage 84 = .ok (.invokevirtual 232, 3) := by decide +kernel
theorem dX4_leakage_87 : decode cX4_leakage 87 = .ok (.iload_n 3, 1) := by decide +kernel
theorem dX4_leakage_88 : decode cX4_leakage 88 = .ok (.isub, 1) := by decide +kernel
theorem dX4_leakage_89 : decode cX4_leakage 89 = .ok (.sipush 1000, 3) := by decide +kernel
theorem dX4_leakage_92 : decode cX4_leakage 92 = .ok (.imul, 1) := by decide +kernel
theorem dX4_leakage_93 : decode cX4_leakage 93 = .ok (.iload_n 3, 1) := by decide +kernel
theorem dX4_leakage_94 : decode cX4_leakage 94 = .ok (.invokestatic 212, 3) := by decide +kernel
theorem dX4_leakage_97 : decode cX4_leakage 97 = .ok (.ireturn, 1) := by decide +kernel
theorem dX4_cardsOf_0 : decode cX4_cardsOf 0 = .ok (.iload_n 1, 1) := by decide +kernel
theorem dX4_cardsOf_1 : decode cX4_cardsOf 1 = .ok (.invokestatic 58, 3) := by decide +kernel
theorem dX4_cardsOf_4 : decode cX4_cardsOf 4 = .ok (.ifCond .eq 11, 3) := by decide +kernel
theorem dX4_cardsOf_7 : decode cX4_cardsOf 7 = .ok (.aload_n 0, 1) := by decide +kernel
theorem dX4_cardsOf_8 : decode cX4_cardsOf 8 = .ok (.iload_n 1, 1) := by decide +kernel
theorem dX4_cardsOf_9 : decode cX4_cardsOf 9 = .ok (.invokevirtual 237, 3) := by decide +kernel
theorem dX4_cardsOf_12 : decode cX4_cardsOf 12 = .ok (.goto 5, 3) := by decide +kernel
theorem dX4_cardsOf_15 : decode cX4_cardsOf 15 = .ok (.ldc 51, 2) := by decide +kernel
theorem dX4_cardsOf_17 : decode cX4_cardsOf 17 = .ok (.ireturn, 1) := by decide +kernel
theorem dX4_meanArea_0 : decode cX4_meanArea 0 = .ok (.iload_n 1, 1) := by decide +kernel
theorem dX4_meanArea_1 : decode cX4_meanArea 1 = .ok (.invokestatic 58, 3) := by decide +kernel
theorem dX4_meanArea_4 : decode cX4_meanArea 4 = .ok (.ifCond .ne 6, 3) := by decide +kernel
theorem dX4_meanArea_7 : decode cX4_meanArea 7 = .ok (.ldc 51, 2) := by decide +kernel
theorem dX4_meanArea_9 : decode cX4_meanArea 9 = .ok (.ireturn, 1) := by decide +kernel
theorem dX4_meanArea_10 : decode cX4_meanArea 10 = .ok (.aload_n 0, 1) := by decide +kernel
theorem dX4_meanArea_11 : decode cX4_meanArea 11 = .ok (.iload_n 1, 1) := by decide +kernel
theorem dX4_meanArea_12 : decode cX4_meanArea 12 = .ok (.invokevirtual 237, 3) := by decide +kernel
theorem dX4_meanArea_15 : decode cX4_meanArea 15 = .ok (.ifCond .ne 6, 3) := by decide +kernel
theorem dX4_meanArea_18 : decode cX4_meanArea 18 = .ok (.ldc 236, 2) := by decide +kernel
theorem dX4_meanArea_20 : decode cX4_meanArea 20 = .ok (.ireturn, 1) := by decide +kernel
theorem dX4_meanArea_21 : decode cX4_meanArea 21 = .ok (.aload_n 0, 1) := by decide +kernel
theorem dX4_meanArea_22 : decode cX4_meanArea 22 = .ok (.iload_n 1, 1) := by decide +kernel
theorem dX4_meanArea_23 : decode cX4_meanArea 23 = .ok (.iconst 0, 1) := by decide +kernel
theorem dX4_meanArea_24 : decode cX4_meanArea 24 = .ok (.invokevirtual 240, 3) := by decide +kernel
theorem dX4_meanArea_27 : decode cX4_meanArea 27 = .ok (.aload_n 0, 1) := by decide +kernel
theorem dX4_meanArea_28 : decode cX4_meanArea 28 = .ok (.iload_n 1, 1) := by decide +kernel
theorem dX4_meanArea_29 : decode cX4_meanArea 29 = .ok (.iconst 1, 1) := by decide +kernel
theorem dX4_meanArea_30 : decode cX4_meanArea 30 = .ok (.invokevirtual 240, 3) := by decide +kernel
theorem dX4_meanArea_33 : decode cX4_meanArea 33 = .ok (.aload_n 0, 1) := by decide +kernel
theorem dX4_meanArea_34 : decode cX4_meanArea 34 = .ok (.getfield 10, 3) := by decide +kernel
theorem dX4_meanArea_37 : decode cX4_meanArea 37 = .ok (.invokevirtual 199, 3) := by decide +kernel
theorem dX4_meanArea_40 : decode cX4_meanArea 40 = .ok (.ireturn, 1) := by decide +kernel
theorem dX4_meanPower_0 : decode cX4_meanPower 0 = .ok (.iload_n 1, 1) := by decide +kernel
theorem dX4_meanPower_1 : decode cX4_meanPower 1 = .ok (.invokestatic 58, 3) := by decide +kernel
theorem dX4_meanPower_4 : decode cX4_meanPower 4 = .ok (.ifCond .ne 7, 3) := by decide +kernel
theorem dX4_meanPower_7 : decode cX4_meanPower 7 = .ok (.ldc2_w 220, 3) := by decide +kernel
theorem dX4_meanPower_10 : decode cX4_meanPower 10 = .ok (.lreturn, 1) := by decide +kernel
theorem dX4_meanPower_11 : decode cX4_meanPower 11 = .ok (.aload_n 0, 1) := by decide +kernel
theorem dX4_meanPower_12 : decode cX4_meanPower 12 = .ok (.iload_n 1, 1) := by decide +kernel
theorem dX4_meanPower_13 : decode cX4_meanPower 13 = .ok (.invokevirtual 237, 3) := by decide +kernel
theorem dX4_meanPower_16 : decode cX4_meanPower 16 = .ok (.ifCond .ne 7, 3) := by decide +kernel
theorem dX4_meanPower_19 : decode cX4_meanPower 19 = .ok (.ldc2_w 243, 3) := by decide +kernel
theorem dX4_meanPower_22 : decode cX4_meanPower 22 = .ok (.lreturn, 1) := by decide +kernel
theorem dX4_meanPower_23 : decode cX4_meanPower 23 = .ok (.aload_n 0, 1) := by decide +kernel
theorem dX4_meanPower_24 : decode cX4_meanPower 24 = .ok (.iload_n 1, 1) := by decide +kernel
theorem dX4_meanPower_25 : decode cX4_meanPower 25 = .ok (.invokevirtual 245, 3) := by decide +kernel
theorem dX4_meanPower_28 : decode cX4_meanPower 28 = .ok (.lreturn, 1) := by decide +kernel
theorem dX4_imbalance_0 : decode cX4_imbalance 0 = .ok (.aload_n 0, 1) := by decide +kernel
theorem dX4_imbalance_1 : decode cX4_imbalance 1 = .ok (.iconst 0, 1) := by decide +kernel
theorem dX4_imbalance_2 : decode cX4_imbalance 2 = .ok (.invokevirtual 237, 3) := by decide +kernel
theorem dX4_imbalance_5 : decode cX4_imbalance 5 = .ok (.ifCond .eq 11, 3) := by decide +kernel
theorem dX4_imbalance_8 : decode cX4_imbalance 8 = .ok (.aload_n 0, 1) := by decide +kernel
theorem dX4_imbalance_9 : decode cX4_imbalance 9 = .ok (.iconst 1, 1) := by decide +kernel
theorem dX4_imbalance_10 : decode cX4_imbalance 10 = .ok (.invokevirtual 237, 3) := by decide +kernel
theorem dX4_imbalance_13 : decode cX4_imbalance 13 = .ok (.ifCond .ne 6, 3) := by decide +kernel
theorem dX4_imbalance_16 : decode cX4_imbalance 16 = .ok (.ldc 236, 2) := by decide +kernel
theorem dX4_imbalance_18 : decode cX4_imbalance 18 = .ok (.ireturn, 1) := by decide +kernel
theorem dX4_imbalance_19 : decode cX4_imbalance 19 = .ok (.aload_n 0, 1) := by decide +kernel
theorem dX4_imbalance_20 : decode cX4_imbalance 20 = .ok (.iconst 0, 1) := by decide +kernel
theorem dX4_imbalance_21 : decode cX4_imbalance 21 = .ok (.invokevirtual 245, 3) := by decide +kernel
theorem dX4_imbalance_24 : decode cX4_imbalance 24 = .ok (.lstore_n 1, 1) := by decide +kernel
theorem dX4_imbalance_25 : decode cX4_imbalance 25 = .ok (.aload_n 0, 1) := by decide +kernel
theorem dX4_imbalance_26 : decode cX4_imbalance 26 = .ok (.iconst 1, 1) := by decide +kernel
theorem dX4_imbalance_27 : decode cX4_imbalance 27 = .ok (.invokevirtual 245, 3) := by decide +kernel
theorem dX4_imbalance_30 : decode cX4_imbalance 30 = .ok (.lstore_n 3, 1) := by decide +kernel
theorem dX4_imbalance_31 : decode cX4_imbalance 31 = .ok (.lload_n 1, 1) := by decide +kernel
theorem dX4_imbalance_32 : decode cX4_imbalance 32 = .ok (.lconst 0, 1) := by decide +kernel
theorem dX4_imbalance_33 : decode cX4_imbalance 33 = .ok (.lcmp, 1) := by decide +kernel
theorem dX4_imbalance_34 : decode cX4_imbalance 34 = .ok (.ifCond .lt 17, 3) := by decide +kernel
theorem dX4_imbalance_37 : decode cX4_imbalance 37 = .ok (.lload_n 3, 1) := by decide +kernel
theorem dX4_imbalance_38 : decode cX4_imbalance 38 = .ok (.lconst 0, 1) := by decide +kernel
theorem dX4_imbalance_39 : decode cX4_imbalance 39 = .ok (.lcmp, 1) := by decide +kernel
theorem dX4_imbalance_40 : decode cX4_imbalance 40 = .ok (.ifCond .lt 11, 3) := by decide +kernel
theorem dX4_imbalance_43 : decode cX4_imbalance 43 = .ok (.lload_n 1, 1) := by decide +kernel
theorem dX4_imbalance_44 : decode cX4_imbalance 44 = .ok (.lload_n 3, 1) := by decide +kernel
theorem dX4_imbalance_45 : decode cX4_imbalance 45 = .ok (.ladd, 1) := by decide +kernel
theorem dX4_imbalance_46 : decode cX4_imbalance 46 = .ok (.lconst 0, 1) := by decide +kernel
theorem dX4_imbalance_47 : decode cX4_imbalance 47 = .ok (.lcmp, 1) := by decide +kernel
theorem dX4_imbalance_48 : decode cX4_imbalance 48 = .ok (.ifCond .ne 6, 3) := by decide +kernel
theorem dX4_imbalance_51 : decode cX4_imbalance 51 = .ok (.ldc 236, 2) := by decide +kernel
theorem dX4_imbalance_53 : decode cX4_imbalance 53 = .ok (.ireturn, 1) := by decide +kernel
theorem dX4_imbalance_54 : decode cX4_imbalance 54 = .ok (.lload_n 1, 1) := by decide +kernel
theorem dX4_imbalance_55 : decode cX4_imbalance 55 = .ok (.lload_n 3, 1) := by decide +kernel
theorem dX4_imbalance_56 : decode cX4_imbalance 56 = .ok (.lsub, 1) := by decide +kernel
theorem dX4_imbalance_57 : decode cX4_imbalance 57 = .ok (.invokestatic 249, 3) := by decide +kernel
theorem dX4_imbalance_60 : decode cX4_imbalance 60 = .ok (.ldc2_w 255, 3) := by decide +kernel
theorem dX4_imbalance_63 : decode cX4_imbalance 63 = .ok (.lmul, 1) := by decide +kernel
theorem dX4_imbalance_64 : decode cX4_imbalance 64 = .ok (.lload_n 1, 1) := by decide +kernel
theorem dX4_imbalance_65 : decode cX4_imbalance 65 = .ok (.lload_n 3, 1) := by decide +kernel
theorem dX4_imbalance_66 : decode cX4_imbalance 66 = .ok (.ladd, 1) := by decide +kernel
theorem dX4_imbalance_67 : decode cX4_imbalance 67 = .ok (.invokestatic 257, 3) := by decide +kernel
theorem dX4_imbalance_70 : decode cX4_imbalance 70 = .ok (.l2i, 1) := by decide +kernel
theorem dX4_imbalance_71 : decode cX4_imbalance 71 = .ok (.ireturn, 1) := by decide +kernel
theorem dX4_removeOutliers_0 : decode cX4_removeOutliers 0 = .ok (.iload_n 1, 1) := by decide +kernel
theorem dX4_removeOutliers_1 : decode cX4_removeOutliers 1 = .ok (.invokestatic 58, 3) := by decide +kernel
theorem dX4_removeOutliers_4 : decode cX4_removeOutliers 4 = .ok (.ifCond .eq 13, 3) := by decide +kernel
theorem dX4_removeOutliers_7 : decode cX4_removeOutliers 7 = .ok (.iload_n 2, 1) := by decide +kernel
theorem dX4_removeOutliers_8 : decode cX4_removeOutliers 8 = .ok (.iconst 0, 1) := by decide +kernel
theorem dX4_removeOutliers_9 : decode cX4_removeOutliers 9 = .ok (.bipush 100, 2) := by decide +kernel
theorem dX4_removeOutliers_11 : decode cX4_removeOutliers 11 = .ok (.invokestatic 47, 3) := by decide +kernel
theorem dX4_removeOutliers_14 : decode cX4_removeOutliers 14 = .ok (.ifCond .ne 6, 3) := by decide +kernel
theorem dX4_removeOutliers_17 : decode cX4_removeOutliers 17 = .ok (.ldc 51, 2) := by decide +kernel
theorem dX4_removeOutliers_19 : decode cX4_removeOutliers 19 = .ok (.ireturn, 1) := by decide +kernel
theorem dX4_removeOutliers_20 : decode cX4_removeOutliers 20 = .ok (.aload_n 0, 1) := by decide +kernel
theorem dX4_removeOutliers_21 : decode cX4_removeOutliers 21 = .ok (.iload_n 1, 1) := by decide +kernel
theorem dX4_removeOutliers_22 : decode cX4_removeOutliers 22 = .ok (.invokevirtual 237, 3) := by decide +kernel
theorem dX4_removeOutliers_25 : decode cX4_removeOutliers 25 = .ok (.ifCond .ne 6, 3) := by decide +kernel
theorem dX4_removeOutliers_28 : decode cX4_removeOutliers 28 = .ok (.ldc 136, 2) := by decide +kernel
theorem dX4_removeOutliers_30 : decode cX4_removeOutliers 30 = .ok (.ireturn, 1) := by decide +kernel
theorem dX4_removeOutliers_31 : decode cX4_removeOutliers 31 = .ok (.aload_n 0, 1) := by decide +kernel
theorem dX4_removeOutliers_32 : decode cX4_removeOutliers 32 = .ok (.invokevirtual 52, 3) := by decide +kernel
theorem dX4_removeOutliers_35 : decode cX4_removeOutliers 35 = .ok (.aload_n 0, 1) := by decide +kernel
theorem dX4_removeOutliers_36 : decode cX4_removeOutliers 36 = .ok (.iload_n 1, 1) := by decide +kernel
theorem dX4_removeOutliers_37 : decode cX4_removeOutliers 37 = .ok (.invokevirtual 261, 3) := by decide +kernel
theorem dX4_removeOutliers_40 : decode cX4_removeOutliers 40 = .ok (.istore_n 3, 1) := by decide +kernel
theorem dX4_removeOutliers_41 : decode cX4_removeOutliers 41 = .ok (.iconst 0, 1) := by decide +kernel
theorem dX4_removeOutliers_42 : decode cX4_removeOutliers 42 = .ok (.istore 4, 2) := by decide +kernel
theorem dX4_removeOutliers_44 : decode cX4_removeOutliers 44 = .ok (.aload_n 0, 1) := by decide +kernel
theorem dX4_removeOutliers_45 : decode cX4_removeOutliers 45 = .ok (.getfield 35, 3) := by decide +kernel
theorem dX4_removeOutliers_48 : decode cX4_removeOutliers 48 = .ok (.getfield 151, 3) := by decide +kernel
theorem dX4_removeOutliers_51 : decode cX4_removeOutliers 51 = .ok (.iconst 1, 1) := by decide +kernel
theorem dX4_removeOutliers_52 : decode cX4_removeOutliers 52 = .ok (.isub, 1) := by decide +kernel
theorem dX4_removeOutliers_53 : decode cX4_removeOutliers 53 = .ok (.istore 5, 2) := by decide +kernel
theorem dX4_removeOutliers_55 : decode cX4_removeOutliers 55 = .ok (.iload 5, 2) := by decide +kernel
theorem dX4_removeOutliers_57 : decode cX4_removeOutliers 57 = .ok (.ifCond .lt 56, 3) := by decide +kernel
theorem dX4_removeOutliers_60 : decode cX4_removeOutliers 60 = .ok (.aload_n 0, 1) := by decide +kernel
theorem dX4_removeOutliers_61 : decode cX4_removeOutliers 61 = .ok (.getfield 35, 3) := by decide +kernel
theorem dX4_removeOutliers_64 : decode cX4_removeOutliers 64 = .ok (.getfield 192, 3) := by decide +kernel
theorem dX4_removeOutliers_67 : decode cX4_removeOutliers 67 = .ok (.iload 5, 2) := by decide +kernel
theorem dX4_removeOutliers_69 : decode cX4_removeOutliers 69 = .ok (.aaload, 1) := by decide +kernel
theorem dX4_removeOutliers_70 : decode cX4_removeOutliers 70 = .ok (.getfield 158, 3) := by decide +kernel
theorem dX4_removeOutliers_73 : decode cX4_removeOutliers 73 = .ok (.iload_n 1, 1) := by decide +kernel
theorem dX4_removeOutliers_74 : decode cX4_removeOutliers 74 = .ok (.if_icmp .ne 33, 3) := by decide +kernel
theorem dX4_removeOutliers_77 : decode cX4_removeOutliers 77 = .ok (.aload_n 0, 1) := by decide +kernel
theorem dX4_removeOutliers_78 : decode cX4_removeOutliers 78 = .ok (.getfield 35, 3) := by decide +kernel
theorem dX4_removeOutliers_81 : decode cX4_removeOutliers 81 = .ok (.getfield 192, 3) := by decide +kernel
theorem dX4_removeOutliers_84 : decode cX4_removeOutliers 84 = .ok (.iload 5, 2) := by decide +kernel
theorem dX4_removeOutliers_86 : decode cX4_removeOutliers 86 = .ok (.aaload, 1) := by decide +kernel
theorem dX4_removeOutliers_87 : decode cX4_removeOutliers 87 = .ok (.iload_n 3, 1) := by decide +kernel
theorem dX4_removeOutliers_88 : decode cX4_removeOutliers 88 = .ok (.iload_n 2, 1) := by decide +kernel
theorem dX4_removeOutliers_89 : decode cX4_removeOutliers 89 = .ok (.invokestatic 264, 3) := by decide +kernel
theorem dX4_removeOutliers_92 : decode cX4_removeOutliers 92 = .ok (.ifCond .eq 15, 3) := by decide +kernel
theorem dX4_removeOutliers_95 : decode cX4_removeOutliers 95 = .ok (.aload_n 0, 1) := by decide +kernel
theorem dX4_removeOutliers_96 : decode cX4_removeOutliers 96 = .ok (.getfield 35, 3) := by decide +kernel
theorem dX4_removeOutliers_99 : decode cX4_removeOutliers 99 = .ok (.iload 5, 2) := by decide +kernel
theorem dX4_removeOutliers_101 : decode cX4_removeOutliers 101 = .ok (.invokevirtual 188, 3) := by decide +kernel
theorem dX4_removeOutliers_104 : decode cX4_removeOutliers 104 = .ok (.iinc 4 1, 3) := by decide +kernel
theorem dX4_removeOutliers_107 : decode cX4_removeOutliers 107 = .ok (.iinc 5 (-1), 3) := by decide +kernel
theorem dX4_removeOutliers_110 : decode cX4_removeOutliers 110 = .ok (.goto (-55), 3) := by decide +kernel
theorem dX4_removeOutliers_113 : decode cX4_removeOutliers 113 = .ok (.iload 4, 2) := by decide +kernel
theorem dX4_removeOutliers_115 : decode cX4_removeOutliers 115 = .ok (.ireturn, 1) := by decide +kernel
theorem dX4_idealArea_0 : decode cX4_idealArea 0 = .ok (.iload_n 1, 1) := by decide +kernel
theorem dX4_idealArea_1 : decode cX4_idealArea 1 = .ok (.invokestatic 58, 3) := by decide +kernel
theorem dX4_idealArea_4 : decode cX4_idealArea 4 = .ok (.ifCond .ne 6, 3) := by decide +kernel
theorem dX4_idealArea_7 : decode cX4_idealArea 7 = .ok (.ldc 51, 2) := by decide +kernel
theorem dX4_idealArea_9 : decode cX4_idealArea 9 = .ok (.ireturn, 1) := by decide +kernel
theorem dX4_idealArea_10 : decode cX4_idealArea 10 = .ok (.aload_n 0, 1) := by decide +kernel
theorem dX4_idealArea_11 : decode cX4_idealArea 11 = .ok (.iload_n 1, 1) := by decide +kernel
theorem dX4_idealArea_12 : decode cX4_idealArea 12 = .ok (.aload_n 0, 1) := by decide +kernel
theorem dX4_idealArea_13 : decode cX4_idealArea 13 = .ok (.getfield 35, 3) := by decide +kernel
theorem dX4_idealArea_16 : decode cX4_idealArea 16 = .ok (.iload_n 1, 1) := by decide +kernel
theorem dX4_idealArea_17 : decode cX4_idealArea 17 = .ok (.invokevirtual 91, 3) := by decide +kernel
theorem dX4_idealArea_20 : decode cX4_idealArea 20 = .ok (.getfield 98, 3) := by decide +kernel
theorem dX4_idealArea_23 : decode cX4_idealArea 23 = .ok (.invokevirtual 268, 3) := by decide +kernel
theorem dX4_idealArea_26 : decode cX4_idealArea 26 = .ok (.ireturn, 1) := by decide +kernel
theorem dX4_bestCutOff_0 : decode cX4_bestCutOff 0 = .ok (.iload_n 1, 1) := by decide +kernel
theorem dX4_bestCutOff_1 : decode cX4_bestCutOff 1 = .ok (.invokestatic 58, 3) := by decide +kernel
theorem dX4_bestCutOff_4 : decode cX4_bestCutOff 4 = .ok (.ifCond .eq 16, 3) := by decide +kernel
theorem dX4_bestCutOff_7 : decode cX4_bestCutOff 7 = .ok (.iload_n 2, 1) := by decide +kernel
theorem dX4_bestCutOff_8 : decode cX4_bestCutOff 8 = .ok (.ldc_w 271, 3) := by decide +kernel
theorem dX4_bestCutOff_11 : decode cX4_bestCutOff 11 = .ok (.ldc_w 272, 3) := by decide +kernel
theorem dX4_bestCutOff_14 : decode cX4_bestCutOff 14 = .ok (.invokestatic 47, 3) := by decide +kernel
theorem dX4_bestCutOff_17 : decode cX4_bestCutOff 17 = .ok (.ifCond .ne 6, 3) := by decide +kernel
theorem dX4_bestCutOff_20 : decode cX4_bestCutOff 20 = .ok (.ldc 51, 2) := by decide +kernel
theorem dX4_bestCutOff_22 : decode cX4_bestCutOff 22 = .ok (.ireturn, 1) := by decide +kernel
theorem dX4_bestCutOff_23 : decode cX4_bestCutOff 23 = .ok (.aload_n 0, 1) := by decide +kernel
theorem dX4_bestCutOff_24 : decode cX4_bestCutOff 24 = .ok (.iload_n 1, 1) := by decide +kernel
theorem dX4_bestCutOff_25 : decode cX4_bestCutOff 25 = .ok (.iload_n 2, 1) := by decide +kernel
theorem dX4_bestCutOff_26 : decode cX4_bestCutOff 26 = .ok (.i2l, 1) := by decide +kernel
theorem dX4_bestCutOff_27 : decode cX4_bestCutOff 27 = .ok (.iconst 0, 1) := by decide +kernel
theorem dX4_bestCutOff_28 : decode cX4_bestCutOff 28 = .ok (.invokevirtual 273, 3) := by decide +kernel
theorem dX4_bestCutOff_31 : decode cX4_bestCutOff 31 = .ok (.ireturn, 1) := by decide +kernel
theorem dX4_balancingCutOff_0 : decode cX4_balancingCutOff 0 = .ok (.aload_n 0, 1) := by decide +kernel
theorem dX4_balancingCutOff_1 : decode cX4_balancingCutOff 1 = .ok (.iconst 0, 1) := by decide +kernel
theorem dX4_balancingCutOff_2 : decode cX4_balancingCutOff 2 = .ok (.aload_n 0, 1) := by decide +kernel
theorem dX4_balancingCutOff_3 : decode cX4_balancingCutOff 3 = .ok (.getfield 35, 3) := by decide +kernel
theorem dX4_balancingCutOff_6 : decode cX4_balancingCutOff 6 = .ok (.getfield 277, 3) := by decide +kernel
theorem dX4_balancingCutOff_9 : decode cX4_balancingCutOff 9 = .ok (.getfield 98, 3) := by decide +kernel
theorem dX4_balancingCutOff_12 : decode cX4_balancingCutOff 12 = .ok (.invokevirtual 280, 3) := by decide +kernel
theorem dX4_balancingCutOff_15 : decode cX4_balancingCutOff 15 = .ok (.lstore_n 1, 1) := by decide +kernel
theorem dX4_balancingCutOff_16 : decode cX4_balancingCutOff 16 = .ok (.aload_n 0, 1) := by decide +kernel
theorem dX4_balancingCutOff_17 : decode cX4_balancingCutOff 17 = .ok (.iconst 1, 1) := by decide +kernel
theorem dX4_balancingCutOff_18 : decode cX4_balancingCutOff 18 = .ok (.lload_n 1, 1) := by decide +kernel
theorem dX4_balancingCutOff_19 : decode cX4_balancingCutOff 19 = .ok (.iconst 1, 1) := by decide +kernel
theorem dX4_balancingCutOff_20 : decode cX4_balancingCutOff 20 = .ok (.invokevirtual 273, 3) := by decide +kernel
theorem dX4_balancingCutOff_23 : decode cX4_balancingCutOff 23 = .ok (.ireturn, 1) := by decide +kernel
theorem dX4_historySize_0 : decode cX4_historySize 0 = .ok (.aload_n 0, 1) := by decide +kernel
theorem dX4_historySize_1 : decode cX4_historySize 1 = .ok (.getfield 43, 3) := by decide +kernel
theorem dX4_historySize_4 : decode cX4_historySize 4 = .ok (.ireturn, 1) := by decide +kernel
theorem dX4_undo_0 : decode cX4_undo 0 = .ok (.aload_n 0, 1) := by decide +kernel
theorem dX4_undo_1 : decode cX4_undo 1 = .ok (.getfield 43, 3) := by decide +kernel
theorem dX4_undo_4 : decode cX4_undo 4 = .ok (.ifCond .gt 6, 3) := by decide +kernel
theorem dX4_undo_7 : decode cX4_undo 7 = .ok (.ldc 136, 2) := by decide +kernel
theorem dX4_undo_9 : decode cX4_undo 9 = .ok (.ireturn, 1) := by decide +kernel
theorem dX4_undo_10 : decode cX4_undo 10 = .ok (.aload_n 0, 1) := by decide +kernel
theorem dX4_undo_11 : decode cX4_undo 11 = .ok (.dup, 1) := by decide +kernel
theorem dX4_undo_12 : decode cX4_undo 12 = .ok (.getfield 43, 3) := by decide +kernel
theorem dX4_undo_15 : decode cX4_undo 15 = .ok (.iconst 1, 1) := by decide +kernel
theorem dX4_undo_16 : decode cX4_undo 16 = .ok (.isub, 1) := by decide +kernel
theorem dX4_undo_17 : decode cX4_undo 17 = .ok (.putfield 43, 3) := by decide +kernel
theorem dX4_undo_20 : decode cX4_undo 20 = .ok (.aload_n 0, 1) := by decide +kernel
theorem dX4_undo_21 : decode cX4_undo 21 = .ok (.getfield 35, 3) := by decide +kernel
theorem dX4_undo_24 : decode cX4_undo 24 = .ok (.aload_n 0, 1) := by decide +kernel
theorem dX4_undo_25 : decode cX4_undo 25 = .ok (.getfield 39, 3) := by decide +kernel
theorem dX4_undo_28 : decode cX4_undo 28 = .ok (.aload_n 0, 1) := by decide +kernel
theorem dX4_undo_29 : decode cX4_undo 29 = .ok (.getfield 43, 3) := by decide +kernel
theorem dX4_undo_32 : decode cX4_undo 32 = .ok (.aaload, 1) := by decide +kernel
theorem dX4_undo_33 : decode cX4_undo 33 = .ok (.invokevirtual 284, 3) := by decide +kernel
theorem dX4_undo_36 : decode cX4_undo 36 = .ok (.aload_n 0, 1) := by decide +kernel
theorem dX4_undo_37 : decode cX4_undo 37 = .ok (.getfield 43, 3) := by decide +kernel
theorem dX4_undo_40 : decode cX4_undo 40 = .ok (.ireturn, 1) := by decide +kernel
theorem dX4_recordState_0 : decode cX4_recordState 0 = .ok (.aload_n 0, 1) := by decide +kernel
theorem dX4_recordState_1 : decode cX4_recordState 1 = .ok (.getfield 43, 3) := by decide +kernel
theorem dX4_recordState_4 : decode cX4_recordState 4 = .ok (.iconst 4, 1) := by decide +kernel
theorem dX4_recordState_5 : decode cX4_recordState 5 = .ok (.if_icmp .lt 7, 3) := by decide +kernel
theorem dX4_recordState_8 : decode cX4_recordState 8 = .ok (.aload_n 0, 1) := by decide +kernel
theorem dX4_recordState_9 : decode cX4_recordState 9 = .ok (.invokevirtual 288, 3) := by decide +kernel
theorem dX4_recordState_12 : decode cX4_recordState 12 = .ok (.aload_n 0, 1) := by decide +kernel
theorem dX4_recordState_13 : decode cX4_recordState 13 = .ok (.getfield 39, 3) := by decide +kernel
theorem dX4_recordState_16 : decode cX4_recordState 16 = .ok (.aload_n 0, 1) := by decide +kernel
theorem dX4_recordState_17 : decode cX4_recordState 17 = .ok (.getfield 43, 3) := by decide +kernel
theorem dX4_recordState_20 : decode cX4_recordState 20 = .ok (.aaload, 1) := by decide +kernel
theorem dX4_recordState_21 : decode cX4_recordState 21 = .ok (.aload_n 0, 1) := by decide +kernel
theorem dX4_recordState_22 : decode cX4_recordState 22 = .ok (.getfield 35, 3) := by decide +kernel
theorem dX4_recordState_25 : decode cX4_recordState 25 = .ok (.invokevirtual 284, 3) := by decide +kernel
theorem dX4_recordState_28 : decode cX4_recordState 28 = .ok (.aload_n 0, 1) := by decide +kernel
theorem dX4_recordState_29 : decode cX4_recordState 29 = .ok (.dup, 1) := by decide +kernel
theorem dX4_recordState_30 : decode cX4_recordState 30 = .ok (.getfield 43, 3) := by decide +kernel
theorem dX4_recordState_33 : decode cX4_recordState 33 = .ok (.iconst 1, 1) := by decide +kernel
theorem dX4_recordState_34 : decode cX4_recordState 34 = .ok (.iadd, 1) := by decide +kernel
theorem dX4_recordState_35 : decode cX4_recordState 35 = .ok (.putfield 43, 3) := by decide +kernel
theorem dX4_recordState_38 : decode cX4_recordState 38 = .ok (.return_, 1) := by decide +kernel
theorem dX4_dropOldestState_0 : decode cX4_dropOldestState 0 = .ok (.aload_n 0, 1) := by decide +kernel
theorem dX4_dropOldestState_1 : decode cX4_dropOldestState 1 = .ok (.getfield 39, 3) := by decide +kernel
theorem dX4_dropOldestState_4 : decode cX4_dropOldestState 4 = .ok (.iconst 0, 1) := by decide +kernel
theorem dX4_dropOldestState_5 : decode cX4_dropOldestState 5 = .ok (.aaload, 1) := by decide +kernel
theorem dX4_dropOldestState_6 : decode cX4_dropOldestState 6 = .ok (.astore_n 1, 1) := by decide +kernel
theorem dX4_dropOldestState_7 : decode cX4_dropOldestState 7 = .ok (.iconst 1, 1) := by decide +kernel
theorem dX4_dropOldestState_8 : decode cX4_dropOldestState 8 = .ok (.istore_n 2, 1) := by decide +kernel
theorem dX4_dropOldestState_9 : decode cX4_dropOldestState 9 = .ok (.iload_n 2, 1) := by decide +kernel
theorem dX4_dropOldestState_10 : decode cX4_dropOldestState 10 = .ok (.iconst 4, 1) := by decide +kernel
theorem dX4_dropOldestState_11 : decode cX4_dropOldestState 11 = .ok (.if_icmp .ge 23, 3) := by decide +kernel
theorem dX4_dropOldestState_14 : decode cX4_dropOldestState 14 = .ok (.aload_n 0, 1) := by decide +kernel
theorem dX4_dropOldestState_15 : decode cX4_dropOldestState 15 = .ok (.getfield 39, 3) := by decide +kernel
theorem dX4_dropOldestState_18 : decode cX4_dropOldestState 18 = .ok (.iload_n 2, 1) := by decide +kernel
theorem dX4_dropOldestState_19 : decode cX4_dropOldestState 19 = .ok (.iconst 1, 1) := by decide +kernel
theorem dX4_dropOldestState_20 : decode cX4_dropOldestState 20 = .ok (.isub, 1) := by decide +kernel
theorem dX4_dropOldestState_21 : decode cX4_dropOldestState 21 = .ok (.aload_n 0, 1) := by decide +kernel
theorem dX4_dropOldestState_22 : decode cX4_dropOldestState 22 = .ok (.getfield 39, 3) := by decide +kernel
theorem dX4_dropOldestState_25 : decode cX4_dropOldestState 25 = .ok (.iload_n 2, 1) := by decide +kernel
theorem dX4_dropOldestState_26 : decode cX4_dropOldestState 26 = .ok (.aaload, 1) := by decide +kernel
theorem dX4_dropOldestState_27 : decode cX4_dropOldestState 27 = .ok (.aastore, 1) := by decide +kernel
theorem dX4_dropOldestState_28 : decode cX4_dropOldestState 28 = .ok (.iinc 2 1, 3) := by decide +kernel
theorem dX4_dropOldestState_31 : decode cX4_dropOldestState 31 = .ok (.goto (-22), 3) := by decide +kernel
theorem dX4_dropOldestState_34 : decode cX4_dropOldestState 34 = .ok (.aload_n 0, 1) := by decide +kernel
theorem dX4_dropOldestState_35 : decode cX4_dropOldestState 35 = .ok (.getfield 39, 3) := by decide +kernel
theorem dX4_dropOldestState_38 : decode cX4_dropOldestState 38 = .ok (.iconst 3, 1) := by decide +kernel
theorem dX4_dropOldestState_39 : decode cX4_dropOldestState 39 = .ok (.aload_n 1, 1) := by decide +kernel
theorem dX4_dropOldestState_40 : decode cX4_dropOldestState 40 = .ok (.aastore, 1) := by decide +kernel
theorem dX4_dropOldestState_41 : decode cX4_dropOldestState 41 = .ok (.aload_n 0, 1) := by decide +kernel
theorem dX4_dropOldestState_42 : decode cX4_dropOldestState 42 = .ok (.iconst 3, 1) := by decide +kernel
theorem dX4_dropOldestState_43 : decode cX4_dropOldestState 43 = .ok (.putfield 43, 3) := by decide +kernel
theorem dX4_dropOldestState_46 : decode cX4_dropOldestState 46 = .ok (.return_, 1) := by decide +kernel
theorem dX4_addCard_0 : decode cX4_addCard 0 = .ok (.aload_n 0, 1) := by decide +kernel
theorem dX4_addCard_1 : decode cX4_addCard 1 = .ok (.getfield 35, 3) := by decide +kernel
theorem dX4_addCard_4 : decode cX4_addCard 4 = .ok (.getfield 151, 3) := by decide +kernel
theorem dX4_addCard_7 : decode cX4_addCard 7 = .ok (.istore_n 2, 1) := by decide +kernel
theorem dX4_addCard_8 : decode cX4_addCard 8 = .ok (.aload_n 0, 1) := by decide +kernel
theorem dX4_addCard_9 : decode cX4_addCard 9 = .ok (.getfield 35, 3) := by decide +kernel
theorem dX4_addCard_12 : decode cX4_addCard 12 = .ok (.getfield 192, 3) := by decide +kernel
theorem dX4_addCard_15 : decode cX4_addCard 15 = .ok (.iload_n 2, 1) := by decide +kernel
theorem dX4_addCard_16 : decode cX4_addCard 16 = .ok (.aload_n 1, 1) := by decide +kernel
theorem dX4_addCard_17 : decode cX4_addCard 17 = .ok (.aastore, 1) := by decide +kernel
theorem dX4_addCard_18 : decode cX4_addCard 18 = .ok (.aload_n 0, 1) := by decide +kernel
theorem dX4_addCard_19 : decode cX4_addCard 19 = .ok (.getfield 35, 3) := by decide +kernel
theorem dX4_addCard_22 : decode cX4_addCard 22 = .ok (.iload_n 2, 1) := by decide +kernel
theorem dX4_addCard_23 : decode cX4_addCard 23 = .ok (.iconst 1, 1) := by decide +kernel
theorem dX4_addCard_24 : decode cX4_addCard 24 = .ok (.iadd, 1) := by decide +kernel
theorem dX4_addCard_25 : decode cX4_addCard 25 = .ok (.putfield 151, 3) := by decide +kernel
theorem dX4_addCard_28 : decode cX4_addCard 28 = .ok (.iload_n 2, 1) := by decide +kernel
theorem dX4_addCard_29 : decode cX4_addCard 29 = .ok (.ireturn, 1) := by decide +kernel
theorem dX4_isCard_0 : decode cX4_isCard 0 = .ok (.iload_n 1, 1) := by decide +kernel
theorem dX4_isCard_1 : decode cX4_isCard 1 = .ok (.ifCond .lt 18, 3) := by decide +kernel
theorem dX4_isCard_4 : decode cX4_isCard 4 = .ok (.iload_n 1, 1) := by decide +kernel
theorem dX4_isCard_5 : decode cX4_isCard 5 = .ok (.aload_n 0, 1) := by decide +kernel
theorem dX4_isCard_6 : decode cX4_isCard 6 = .ok (.getfield 35, 3) := by decide +kernel
theorem dX4_isCard_9 : decode cX4_isCard 9 = .ok (.getfield 151, 3) := by decide +kernel
theorem dX4_isCard_12 : decode cX4_isCard 12 = .ok (.if_icmp .ge 7, 3) := by decide +kernel
theorem dX4_isCard_15 : decode cX4_isCard 15 = .ok (.iconst 1, 1) := by decide +kernel
theorem dX4_isCard_16 : decode cX4_isCard 16 = .ok (.goto 4, 3) := by decide +kernel
theorem dX4_isCard_19 : decode cX4_isCard 19 = .ok (.iconst 0, 1) := by decide +kernel
theorem dX4_isCard_20 : decode cX4_isCard 20 = .ok (.ireturn, 1) := by decide +kernel
theorem dX4_isEnd_0 : decode cX4_isEnd 0 = .ok (.iload_n 0, 1) := by decide +kernel
theorem dX4_isEnd_1 : decode cX4_isEnd 1 = .ok (.ifCond .eq 8, 3) := by decide +kernel
theorem dX4_isEnd_4 : decode cX4_isEnd 4 = .ok (.iload_n 0, 1) := by decide +kernel
theorem dX4_isEnd_5 : decode cX4_isEnd 5 = .ok (.iconst 1, 1) := by decide +kernel
theorem dX4_isEnd_6 : decode cX4_isEnd 6 = .ok (.if_icmp .ne 7, 3) := by decide +kernel
theorem dX4_isEnd_9 : decode cX4_isEnd 9 = .ok (.iconst 1, 1) := by decide +kernel
theorem dX4_isEnd_10 : decode cX4_isEnd 10 = .ok (.goto 4, 3) := by decide +kernel
theorem dX4_isEnd_13 : decode cX4_isEnd 13 = .ok (.iconst 0, 1) := by decide +kernel
theorem dX4_isEnd_14 : decode cX4_isEnd 14 = .ok (.ireturn, 1) := by decide +kernel
theorem dX4_isStroke_0 : decode cX4_isStroke 0 = .ok (.iload_n 0, 1) := by decide +kernel
theorem dX4_isStroke_1 : decode cX4_isStroke 1 = .ok (.ifCond .eq 8, 3) := by decide +kernel
theorem dX4_isStroke_4 : decode cX4_isStroke 4 = .ok (.iload_n 0, 1) := by decide +kernel
theorem dX4_isStroke_5 : decode cX4_isStroke 5 = .ok (.iconst 1, 1) := by decide +kernel
theorem dX4_isStroke_6 : decode cX4_isStroke 6 = .ok (.if_icmp .ne 7, 3) := by decide +kernel
theorem dX4_isStroke_9 : decode cX4_isStroke 9 = .ok (.iconst 1, 1) := by decide +kernel
theorem dX4_isStroke_10 : decode cX4_isStroke 10 = .ok (.goto 4, 3) := by decide +kernel
theorem dX4_isStroke_13 : decode cX4_isStroke 13 = .ok (.iconst 0, 1) := by decide +kernel
theorem dX4_isStroke_14 : decode cX4_isStroke 14 = .ok (.ireturn, 1) := by decide +kernel
theorem dX4_isEvent_0 : decode cX4_isEvent 0 = .ok (.iload_n 0, 1) := by decide +kernel
theorem dX4_isEvent_1 : decode cX4_isEvent 1 = .ok (.iconst 0, 1) := by decide +kernel
theorem dX4_isEvent_2 : decode cX4_isEvent 2 = .ok (.iconst 3, 1) := by decide +kernel
theorem dX4_isEvent_3 : decode cX4_isEvent 3 = .ok (.invokestatic 47, 3) := by decide +kernel
theorem dX4_isEvent_6 : decode cX4_isEvent 6 = .ok (.ireturn, 1) := by decide +kernel
theorem dX4_isStation_0 : decode cX4_isStation 0 = .ok (.iload_n 0, 1) := by decide +kernel
theorem dX4_isStation_1 : decode cX4_isStation 1 = .ok (.iconst 0, 1) := by decide +kernel
theorem dX4_isStation_2 : decode cX4_isStation 2 = .ok (.bipush 20, 2) := by decide +kernel
theorem dX4_isStation_4 : decode cX4_isStation 4 = .ok (.invokestatic 47, 3) := by decide +kernel
theorem dX4_isStation_7 : decode cX4_isStation 7 = .ok (.ireturn, 1) := by decide +kernel
theorem dX4_isSpeed_0 : decode cX4_isSpeed 0 = .ok (.iload_n 0, 1) := by decide +kernel
theorem dX4_isSpeed_1 : decode cX4_isSpeed 1 = .ok (.iconst 1, 1) := by decide +kernel
theorem dX4_isSpeed_2 : decode cX4_isSpeed 2 = .ok (.sipush 600, 3) := by decide +kernel
theorem dX4_isSpeed_5 : decode cX4_isSpeed 5 = .ok (.invokestatic 47, 3) := by decide +kernel
theorem dX4_isSpeed_8 : decode cX4_isSpeed 8 = .ok (.ireturn, 1) := by decide +kernel
theorem dX4_areValves_0 : decode cX4_areValves 0 = .ok (.iload_n 0, 1) := by decide +kernel
theorem dX4_areValves_1 : decode cX4_areValves 1 = .ok (.iconst 0, 1) := by decide +kernel
theorem dX4_areValves_2 : decode cX4_areValves 2 = .ok (.iconst 5, 1) := by decide +kernel
theorem dX4_areValves_3 : decode cX4_areValves 3 = .ok (.invokestatic 47, 3) := by decide +kernel
theorem dX4_areValves_6 : decode cX4_areValves 6 = .ok (.ifCond .eq 47, 3) := by decide +kernel
theorem dX4_areValves_9 : decode cX4_areValves 9 = .ok (.iload_n 1, 1) := by decide +kernel
theorem dX4_areValves_10 : decode cX4_areValves 10 = .ok (.iconst 1, 1) := by decide +kernel
theorem dX4_areValves_11 : decode cX4_areValves 11 = .ok (.bipush 18, 2) := by decide +kernel
theorem dX4_areValves_13 : decode cX4_areValves 13 = .ok (.invokestatic 47, 3) := by decide +kernel
theorem dX4_areValves_16 : decode cX4_areValves 16 = .ok (.ifCond .eq 37, 3) := by decide +kernel
theorem dX4_areValves_19 : decode cX4_areValves 19 = .ok (.iload_n 2, 1) := by decide +kernel
theorem dX4_areValves_20 : decode cX4_areValves 20 = .ok (.iconst 2, 1) := by decide +kernel
theorem dX4_areValves_21 : decode cX4_areValves 21 = .ok (.bipush 20, 2) := by decide +kernel
theorem dX4_areValves_23 : decode cX4_areValves 23 = .ok (.invokestatic 47, 3) := by decide +kernel
theorem dX4_areValves_26 : decode cX4_areValves 26 = .ok (.ifCond .eq 27, 3) := by decide +kernel
theorem dX4_areValves_29 : decode cX4_areValves 29 = .ok (.iload_n 3, 1) := by decide +kernel
theorem dX4_areValves_30 : decode cX4_areValves 30 = .ok (.iconst 0, 1) := by decide +kernel
theorem dX4_areValves_31 : decode cX4_areValves 31 = .ok (.bipush 19, 2) := by decide +kernel
theorem dX4_areValves_33 : decode cX4_areValves 33 = .ok (.invokestatic 47, 3) := by decide +kernel
theorem dX4_areValves_36 : decode cX4_areValves 36 = .ok (.ifCond .eq 17, 3) := by decide +kernel
theorem dX4_areValves_39 : decode cX4_areValves 39 = .ok (.iload_n 1, 1) := by decide +kernel
theorem dX4_areValves_40 : decode cX4_areValves 40 = .ok (.iload_n 0, 1) := by decide +kernel
theorem dX4_areValves_41 : decode cX4_areValves 41 = .ok (.if_icmp .le 12, 3) := by decide +kernel
theorem dX4_areValves_44 : decode cX4_areValves 44 = .ok (.iload_n 2, 1) := by decide +kernel
theorem dX4_areValves_45 : decode cX4_areValves 45 = .ok (.iload_n 1, 1) := by decide +kernel
theorem dX4_areValves_46 : decode cX4_areValves 46 = .ok (.if_icmp .le 7, 3) := by decide +kernel
theorem dX4_areValves_49 : decode cX4_areValves 49 = .ok (.iconst 1, 1) := by decide +kernel
theorem dX4_areValves_50 : decode cX4_areValves 50 = .ok (.goto 4, 3) := by decide +kernel
theorem dX4_areValves_53 : decode cX4_areValves 53 = .ok (.iconst 0, 1) := by decide +kernel
theorem dX4_areValves_54 : decode cX4_areValves 54 = .ok (.ireturn, 1) := by decide +kernel
theorem dX4_isWithin_0 : decode cX4_isWithin 0 = .ok (.iload_n 0, 1) := by decide +kernel
theorem dX4_isWithin_1 : decode cX4_isWithin 1 = .ok (.iload_n 1, 1) := by decide +kernel
theorem dX4_isWithin_2 : decode cX4_isWithin 2 = .ok (.if_icmp .lt 12, 3) := by decide +kernel
theorem dX4_isWithin_5 : decode cX4_isWithin 5 = .ok (.iload_n 0, 1) := by decide +kernel
theorem dX4_isWithin_6 : decode cX4_isWithin 6 = .ok (.iload_n 2, 1) := by decide +kernel
theorem dX4_isWithin_7 : decode cX4_isWithin 7 = .ok (.if_icmp .gt 7, 3) := by decide +kernel
theorem dX4_isWithin_10 : decode cX4_isWithin 10 = .ok (.iconst 1, 1) := by decide +kernel
theorem dX4_isWithin_11 : decode cX4_isWithin 11 = .ok (.goto 4, 3) := by decide +kernel
theorem dX4_isWithin_14 : decode cX4_isWithin 14 = .ok (.iconst 0, 1) := by decide +kernel
theorem dX4_isWithin_15 : decode cX4_isWithin 15 = .ok (.ireturn, 1) := by decide +kernel
theorem dX4_quotient_0 : decode cX4_quotient 0 = .ok (.iload_n 1, 1) := by decide +kernel
theorem dX4_quotient_1 : decode cX4_quotient 1 = .ok (.ifCond .ne 7, 3) := by decide +kernel
theorem dX4_quotient_4 : decode cX4_quotient 4 = .ok (.iconst 0, 1) := by decide +kernel
theorem dX4_quotient_5 : decode cX4_quotient 5 = .ok (.goto 8, 3) := by decide +kernel
theorem dX4_quotient_8 : decode cX4_quotient 8 = .ok (.iload_n 0, 1) := by decide +kernel
theorem dX4_quotient_9 : decode cX4_quotient 9 = .ok (.iload_n 1, 1) := by decide +kernel
theorem dX4_quotient_10 : decode cX4_quotient 10 = .ok (.invokestatic 291, 3) := by decide +kernel
theorem dX4_quotient_13 : decode cX4_quotient 13 = .ok (.ireturn, 1) := by decide +kernel
theorem dX4_longQuotient_0 : decode cX4_longQuotient 0 = .ok (.lload_n 2, 1) := by decide +kernel
theorem dX4_longQuotient_1 : decode cX4_longQuotient 1 = .ok (.lconst 0, 1) := by decide +kernel
theorem dX4_longQuotient_2 : decode cX4_longQuotient 2 = .ok (.lcmp, 1) := by decide +kernel
theorem dX4_longQuotient_3 : decode cX4_longQuotient 3 = .ok (.ifCond .ne 7, 3) := by decide +kernel
theorem dX4_longQuotient_6 : decode cX4_longQuotient 6 = .ok (.lconst 0, 1) := by decide +kernel
theorem dX4_longQuotient_7 : decode cX4_longQuotient 7 = .ok (.goto 8, 3) := by decide +kernel
theorem dX4_longQuotient_10 : decode cX4_longQuotient 10 = .ok (.lload_n 0, 1) := by decide +kernel
theorem dX4_longQuotient_11 : decode cX4_longQuotient 11 = .ok (.lload_n 2, 1) := by decide +kernel
theorem dX4_longQuotient_12 : decode cX4_longQuotient 12 = .ok (.invokestatic 294, 3) := by decide +kernel
theorem dX4_longQuotient_15 : decode cX4_longQuotient 15 = .ok (.lreturn, 1) := by decide +kernel
theorem dX4_countPoints_0 : decode cX4_countPoints 0 = .ok (.iconst 0, 1) := by decide +kernel
theorem dX4_countPoints_1 : decode cX4_countPoints 1 = .ok (.istore_n 1, 1) := by decide +kernel
theorem dX4_countPoints_2 : decode cX4_countPoints 2 = .ok (.iconst 0, 1) := by decide +kernel
theorem dX4_countPoints_3 : decode cX4_countPoints 3 = .ok (.istore_n 2, 1) := by decide +kernel
theorem dX4_countPoints_4 : decode cX4_countPoints 4 = .ok (.iload_n 2, 1) := by decide +kernel
theorem dX4_countPoints_5 : decode cX4_countPoints 5 = .ok (.bipush 21, 2) := by decide +kernel
theorem dX4_countPoints_7 : decode cX4_countPoints 7 = .ok (.if_icmp .ge 19, 3) := by decide +kernel
theorem dX4_countPoints_10 : decode cX4_countPoints 10 = .ok (.aload_n 0, 1) := by decide +kernel
theorem dX4_countPoints_11 : decode cX4_countPoints 11 = .ok (.iload_n 2, 1) := by decide +kernel
theorem dX4_countPoints_12 : decode cX4_countPoints 12 = .ok (.iaload, 1) := by decide +kernel
theorem dX4_countPoints_13 : decode cX4_countPoints 13 = .ok (.iconst (-1), 1) := by decide +kernel
theorem dX4_countPoints_14 : decode cX4_countPoints 14 = .ok (.if_icmp .eq 6, 3) := by decide +kernel
theorem dX4_countPoints_17 : decode cX4_countPoints 17 = .ok (.iinc 1 1, 3) := by decide +kernel
theorem dX4_countPoints_20 : decode cX4_countPoints 20 = .ok (.iinc 2 1, 3) := by decide +kernel
theorem dX4_countPoints_23 : decode cX4_countPoints 23 = .ok (.goto (-19), 3) := by decide +kernel
theorem dX4_countPoints_26 : decode cX4_countPoints 26 = .ok (.iload_n 1, 1) := by decide +kernel
theorem dX4_countPoints_27 : decode cX4_countPoints 27 = .ok (.ireturn, 1) := by decide +kernel
theorem dX4_drawThroughPoints_0 : decode cX4_drawThroughPoints 0 = .ok (.iconst 0, 1) := by decide +kernel
theorem dX4_drawThroughPoints_1 : decode cX4_drawThroughPoints 1 = .ok (.istore_n 2, 1) := by decide +kernel
theorem dX4_drawThroughPoints_2 : decode cX4_drawThroughPoints 2 = .ok (.iload_n 2, 1) := by decide +kernel
theorem dX4_drawThroughPoints_3 : decode cX4_drawThroughPoints 3 = .ok (.bipush 21, 2) := by decide +kernel
theorem dX4_drawThroughPoints_5 : decode cX4_drawThroughPoints 5 = .ok (.if_icmp .ge 106, 3) := by decide +kernel
theorem dX4_drawThroughPoints_8 : decode cX4_drawThroughPoints 8 = .ok (.aload_n 0, 1) := by decide +kernel
theorem dX4_drawThroughPoints_9 : decode cX4_drawThroughPoints 9 = .ok (.iload_n 2, 1) := by decide +kernel
theorem dX4_drawThroughPoints_10 : decode cX4_drawThroughPoints 10 = .ok (.invokestatic 296, 3) := by decide +kernel
theorem dX4_drawThroughPoints_13 : decode cX4_drawThroughPoints 13 = .ok (.istore_n 3, 1) := by decide +kernel
theorem dX4_drawThroughPoints_14 : decode cX4_drawThroughPoints 14 = .ok (.aload_n 0, 1) := by decide +kernel
theorem dX4_drawThroughPoints_15 : decode cX4_drawThroughPoints 15 = .ok (.iload_n 2, 1) := by decide +kernel
theorem dX4_drawThroughPoints_16 : decode cX4_drawThroughPoints 16 = .ok (.invokestatic 300, 3) := by decide +kernel
theorem dX4_drawThroughPoints_19 : decode cX4_drawThroughPoints 19 = .ok (.istore 4, 2) := by decide +kernel
theorem dX4_drawThroughPoints_21 : decode cX4_drawThroughPoints 21 = .ok (.iload_n 3, 1) := by decide +kernel
theorem dX4_drawThroughPoints_22 : decode cX4_drawThroughPoints 22 = .ok (.iconst (-1), 1) := by decide +kernel
theorem dX4_drawThroughPoints_23 : decode cX4_drawThroughPoints 23 = .ok (.if_icmp .ne 16, 3) := by decide +kernel
theorem dX4_drawThroughPoints_26 : decode cX4_drawThroughPoints 26 = .ok (.iload 4, 2) := by decide +kernel
theorem dX4_drawThroughPoints_28 : decode cX4_drawThroughPoints 28 = .ok (.iconst (-1), 1) := by decide +kernel
theorem dX4_drawThroughPoints_29 : decode cX4_drawThroughPoints 29 = .ok (.if_icmp .ne 10, 3) := by decide +kernel
theorem dX4_drawThroughPoints_32 : decode cX4_drawThroughPoints 32 = .ok (.aload_n 1, 1) := by decide +kernel
theorem dX4_drawThroughPoints_33 : decode cX4_drawThroughPoints 33 = .ok (.iload_n 2, 1) := by decide +kernel
theorem dX4_drawThroughPoints_34 : decode cX4_drawThroughPoints 34 = .ok (.iconst 0, 1) := by decide +kernel
theorem dX4_drawThroughPoints_35 : decode cX4_drawThroughPoints 35 = .ok (.iastore, 1) := by decide +kernel
theorem dX4_drawThroughPoints_36 : decode cX4_drawThroughPoints 36 = .ok (.goto 69, 3) := by decide +kernel
theorem dX4_drawThroughPoints_39 : decode cX4_drawThroughPoints 39 = .ok (.iload_n 3, 1) := by decide +kernel
theorem dX4_drawThroughPoints_40 : decode cX4_drawThroughPoints 40 = .ok (.iconst (-1), 1) := by decide +kernel
theorem dX4_drawThroughPoints_41 : decode cX4_drawThroughPoints 41 = .ok (.if_icmp .ne 13, 3) := by decide +kernel
theorem dX4_drawThroughPoints_44 : decode cX4_drawThroughPoints 44 = .ok (.aload_n 1, 1) := by decide +kernel
theorem dX4_drawThroughPoints_45 : decode cX4_drawThroughPoints 45 = .ok (.iload_n 2, 1) := by decide +kernel
theorem dX4_drawThroughPoints_46 : decode cX4_drawThroughPoints 46 = .ok (.aload_n 0, 1) := by decide +kernel
theorem dX4_drawThroughPoints_47 : decode cX4_drawThroughPoints 47 = .ok (.iload 4, 2) := by decide +kernel
theorem dX4_drawThroughPoints_49 : decode cX4_drawThroughPoints 49 = .ok (.iaload, 1) := by decide +kernel
theorem dX4_drawThroughPoints_50 : decode cX4_drawThroughPoints 50 = .ok (.iastore, 1) := by decide +kernel
theorem dX4_drawThroughPoints_51 : decode cX4_drawThroughPoints 51 = .ok (.goto 54, 3) := by decide +kernel
theorem dX4_drawThroughPoints_54 : decode cX4_drawThroughPoints 54 = .ok (.iload 4, 2) := by decide +kernel
theorem dX4_drawThroughPoints_56 : decode cX4_drawThroughPoints 56 = .ok (.iconst (-1), 1) := by decide +kernel
theorem dX4_drawThroughPoints_57 : decode cX4_drawThroughPoints 57 = .ok (.if_icmp .eq 9, 3) := by decide +kernel
theorem dX4_drawThroughPoints_60 : decode cX4_drawThroughPoints 60 = .ok (.iload 4, 2) := by decide +kernel
theorem dX4_drawThroughPoints_62 : decode cX4_drawThroughPoints 62 = .ok (.iload_n 3, 1) := by decide +kernel
theorem dX4_drawThroughPoints_63 : decode cX4_drawThroughPoints 63 = .ok (.if_icmp .ne 12, 3) := by decide +kernel
theorem dX4_drawThroughPoints_66 : decode cX4_drawThroughPoints 66 = .ok (.aload_n 1, 1) := by decide +kernel
theorem dX4_drawThroughPoints_67 : decode cX4_drawThroughPoints 67 = .ok (.iload_n 2, 1) := by decide +kernel
theorem dX4_drawThroughPoints_68 : decode cX4_drawThroughPoints 68 = .ok (.aload_n 0, 1) := by decide +kernel
theorem dX4_drawThroughPoints_69 : decode cX4_drawThroughPoints 69 = .ok (.iload_n 3, 1) := by decide +kernel
theorem dX4_drawThroughPoints_70 : decode cX4_drawThroughPoints 70 = .ok (.iaload, 1) := by decide +kernel
theorem dX4_drawThroughPoints_71 : decode cX4_drawThroughPoints 71 = .ok (.iastore, 1) := by decide +kernel
theorem dX4_drawThroughPoints_72 : decode cX4_drawThroughPoints 72 = .ok (.goto 33, 3) := by decide +kernel
theorem dX4_drawThroughPoints_75 : decode cX4_drawThroughPoints 75 = .ok (.aload_n 0, 1) := by decide +kernel
theorem dX4_drawThroughPoints_76 : decode cX4_drawThroughPoints 76 = .ok (.iload 4, 2) := by decide +kernel
theorem dX4_drawThroughPoints_78 : decode cX4_drawThroughPoints 78 = .ok (.iaload, 1) := by decide +kernel
theorem dX4_drawThroughPoints_79 : decode cX4_drawThroughPoints 79 = .ok (.aload_n 0, 1) := by decide +kernel
theorem dX4_drawThroughPoints_80 : decode cX4_drawThroughPoints 80 = .ok (.iload_n 3, 1) := by decide +kernel
theorem dX4_drawThroughPoints_81 : decode cX4_drawThroughPoints 81 = .ok (.iaload, 1) := by decide +kernel
theorem dX4_drawThroughPoints_82 : decode cX4_drawThroughPoints 82 = .ok (.isub, 1) := by decide +kernel
theorem dX4_drawThroughPoints_83 : decode cX4_drawThroughPoints 83 = .ok (.iload_n 2, 1) := by decide +kernel
theorem dX4_drawThroughPoints_84 : decode cX4_drawThroughPoints 84 = .ok (.iload_n 3, 1) := by decide +kernel
theorem dX4_drawThroughPoints_85 : decode cX4_drawThroughPoints 85 = .ok (.isub, 1) := by decide +kernel
theorem dX4_drawThroughPoints_86 : decode cX4_drawThroughPoints 86 = .ok (.imul, 1) := by decide +kernel
theorem dX4_drawThroughPoints_87 : decode cX4_drawThroughPoints 87 = .ok (.istore 5, 2) := by decide +kernel
theorem dX4_drawThroughPoints_89 : decode cX4_drawThroughPoints 89 = .ok (.aload_n 1, 1) := by decide +kernel
theorem dX4_drawThroughPoints_90 : decode cX4_drawThroughPoints 90 = .ok (.iload_n 2, 1) := by decide +kernel
theorem dX4_drawThroughPoints_91 : decode cX4_drawThroughPoints 91 = .ok (.aload_n 0, 1) := by decide +kernel
theorem dX4_drawThroughPoints_92 : decode cX4_drawThroughPoints 92 = .ok (.iload_n 3, 1) := by decide +kernel
theorem dX4_drawThroughPoints_93 : decode cX4_drawThroughPoints 93 = .ok (.iaload, 1) := by decide +kernel
theorem dX4_drawThroughPoints_94 : decode cX4_drawThroughPoints 94 = .ok (.iload 5, 2) := by decide +kernel
theorem dX4_drawThroughPoints_96 : decode cX4_drawThroughPoints 96 = .ok (.iload 4, 2) := by decide +kernel
theorem dX4_drawThroughPoints_98 : decode cX4_drawThroughPoints 98 = .ok (.iload_n 3, 1) := by decide +kernel
theorem dX4_drawThroughPoints_99 : decode cX4_drawThroughPoints 99 = .ok (.isub, 1) := by decide +kernel
theorem dX4_drawThroughPoints_100 : decode cX4_drawThroughPoints 100 = .ok (.invokestatic 212, 3) := by decide +kernel
theorem dX4_drawThroughPoints_103 : decode cX4_drawThroughPoints 103 = .ok (.iadd, 1) := by decide +kernel
theorem dX4_drawThroughPoints_104 : decode cX4_drawThroughPoints 104 = .ok (.iastore, 1) := by decide +kernel
theorem dX4_drawThroughPoints_105 : decode cX4_drawThroughPoints 105 = .ok (.iinc 2 1, 3) := by decide +kernel
theorem dX4_drawThroughPoints_108 : decode cX4_drawThroughPoints 108 = .ok (.goto (-106), 3) := by decide +kernel
theorem dX4_drawThroughPoints_111 : decode cX4_drawThroughPoints 111 = .ok (.return_, 1) := by decide +kernel
theorem dX4_pointUpTo_0 : decode cX4_pointUpTo 0 = .ok (.iload_n 1, 1) := by decide +kernel
theorem dX4_pointUpTo_1 : decode cX4_pointUpTo 1 = .ok (.istore_n 2, 1) := by decide +kernel
theorem dX4_pointUpTo_2 : decode cX4_pointUpTo 2 = .ok (.iload_n 2, 1) := by decide +kernel
theorem dX4_pointUpTo_3 : decode cX4_pointUpTo 3 = .ok (.ifCond .lt 18, 3) := by decide +kernel
theorem dX4_pointUpTo_6 : decode cX4_pointUpTo 6 = .ok (.aload_n 0, 1) := by decide +kernel
theorem dX4_pointUpTo_7 : decode cX4_pointUpTo 7 = .ok (.iload_n 2, 1) := by decide +kernel
theorem dX4_pointUpTo_8 : decode cX4_pointUpTo 8 = .ok (.iaload, 1) := by decide +kernel
theorem dX4_pointUpTo_9 : decode cX4_pointUpTo 9 = .ok (.iconst (-1), 1) := by decide +kernel
theorem dX4_pointUpTo_10 : decode cX4_pointUpTo 10 = .ok (.if_icmp .eq 5, 3) := by decide +kernel
theorem dX4_pointUpTo_13 : decode cX4_pointUpTo 13 = .ok (.iload_n 2, 1) := by decide +kernel
theorem dX4_pointUpTo_14 : decode cX4_pointUpTo 14 = .ok (.ireturn, 1) := by decide +kernel
theorem dX4_pointUpTo_15 : decode cX4_pointUpTo 15 = .ok (.iinc 2 (-1), 3) := by decide +kernel
theorem dX4_pointUpTo_18 : decode cX4_pointUpTo 18 = .ok (.goto (-16), 3) := by decide +kernel
theorem dX4_pointUpTo_21 : decode cX4_pointUpTo 21 = .ok (.iconst (-1), 1) := by decide +kernel
theorem dX4_pointUpTo_22 : decode cX4_pointUpTo 22 = .ok (.ireturn, 1) := by decide +kernel
theorem dX4_pointFrom_0 : decode cX4_pointFrom 0 = .ok (.iload_n 1, 1) := by decide +kernel
theorem dX4_pointFrom_1 : decode cX4_pointFrom 1 = .ok (.istore_n 2, 1) := by decide +kernel
theorem dX4_pointFrom_2 : decode cX4_pointFrom 2 = .ok (.iload_n 2, 1) := by decide +kernel
theorem dX4_pointFrom_3 : decode cX4_pointFrom 3 = .ok (.bipush 21, 2) := by decide +kernel
theorem dX4_pointFrom_5 : decode cX4_pointFrom 5 = .ok (.if_icmp .ge 18, 3) := by decide +kernel
theorem dX4_pointFrom_8 : decode cX4_pointFrom 8 = .ok (.aload_n 0, 1) := by decide +kernel
theorem dX4_pointFrom_9 : decode cX4_pointFrom 9 = .ok (.iload_n 2, 1) := by decide +kernel
theorem dX4_pointFrom_10 : decode cX4_pointFrom 10 = .ok (.iaload, 1) := by decide +kernel
theorem dX4_pointFrom_11 : decode cX4_pointFrom 11 = .ok (.iconst (-1), 1) := by decide +kernel
theorem dX4_pointFrom_12 : decode cX4_pointFrom 12 = .ok (.if_icmp .eq 5, 3) := by decide +kernel
theorem dX4_pointFrom_15 : decode cX4_pointFrom 15 = .ok (.iload_n 2, 1) := by decide +kernel
theorem dX4_pointFrom_16 : decode cX4_pointFrom 16 = .ok (.ireturn, 1) := by decide +kernel
theorem dX4_pointFrom_17 : decode cX4_pointFrom 17 = .ok (.iinc 2 1, 3) := by decide +kernel
theorem dX4_pointFrom_20 : decode cX4_pointFrom 20 = .ok (.goto (-18), 3) := by decide +kernel
theorem dX4_pointFrom_23 : decode cX4_pointFrom 23 = .ok (.iconst (-1), 1) := by decide +kernel
theorem dX4_pointFrom_24 : decode cX4_pointFrom 24 = .ok (.ireturn, 1) := by decide +kernel
theorem dX4_drawIdealCard_0 : decode cX4_drawIdealCard 0 = .ok (.aload_n 0, 1) := by decide +kernel
theorem dX4_drawIdealCard_1 : decode cX4_drawIdealCard 1 = .ok (.aload_n 1, 1) := by decide +kernel
theorem dX4_drawIdealCard_2 : decode cX4_drawIdealCard 2 = .ok (.getfield 163, 3) := by decide +kernel
theorem dX4_drawIdealCard_5 : decode cX4_drawIdealCard 5 = .ok (.aload_n 2, 1) := by decide +kernel
theorem dX4_drawIdealCard_6 : decode cX4_drawIdealCard 6 = .ok (.iload_n 3, 1) := by decide +kernel
theorem dX4_drawIdealCard_7 : decode cX4_drawIdealCard 7 = .ok (.invokevirtual 303, 3) := by decide +kernel
theorem dX4_drawIdealCard_10 : decode cX4_drawIdealCard 10 = .ok (.aload_n 0, 1) := by decide +kernel
theorem dX4_drawIdealCard_11 : decode cX4_drawIdealCard 11 = .ok (.aload_n 1, 1) := by decide +kernel
theorem dX4_drawIdealCard_12 : decode cX4_drawIdealCard 12 = .ok (.getfield 168, 3) := by decide +kernel
theorem dX4_drawIdealCard_15 : decode cX4_drawIdealCard 15 = .ok (.aload_n 2, 1) := by decide +kernel
theorem dX4_drawIdealCard_16 : decode cX4_drawIdealCard 16 = .ok (.invokevirtual 307, 3) := by decide +kernel
theorem dX4_drawIdealCard_19 : decode cX4_drawIdealCard 19 = .ok (.return_, 1) := by decide +kernel
theorem dX4_drawIdealOutward_0 : decode cX4_drawIdealOutward 0 = .ok (.aload_n 0, 1) := by decide +kernel
theorem dX4_drawIdealOutward_1 : decode cX4_drawIdealOutward 1 = .ok (.getfield 35, 3) := by decide +kernel
theorem dX4_drawIdealOutward_4 : decode cX4_drawIdealOutward 4 = .ok (.getfield 78, 3) := by decide +kernel
theorem dX4_drawIdealOutward_7 : decode cX4_drawIdealOutward 7 = .ok (.istore 4, 2) := by decide +kernel
theorem dX4_drawIdealOutward_9 : decode cX4_drawIdealOutward 9 = .ok (.aload_n 0, 1) := by decide +kernel
theorem dX4_drawIdealOutward_10 : decode cX4_drawIdealOutward 10 = .ok (.getfield 35, 3) := by decide +kernel
theorem dX4_drawIdealOutward_13 : decode cX4_drawIdealOutward 13 = .ok (.getfield 75, 3) := by decide +kernel
theorem dX4_drawIdealOutward_16 : decode cX4_drawIdealOutward 16 = .ok (.aload_n 0, 1) := by decide +kernel
theorem dX4_drawIdealOutward_17 : decode cX4_drawIdealOutward 17 = .ok (.getfield 35, 3) := by decide +kernel
theorem dX4_drawIdealOutward_20 : decode cX4_drawIdealOutward 20 = .ok (.aload_n 2, 1) := by decide +kernel
theorem dX4_drawIdealOutward_21 : decode cX4_drawIdealOutward 21 = .ok (.getfield 98, 3) := by decide +kernel
theorem dX4_drawIdealOutward_24 : decode cX4_drawIdealOutward 24 = .ok (.invokevirtual 311, 3) := by decide +kernel
theorem dX4_drawIdealOutward_27 : decode cX4_drawIdealOutward 27 = .ok (.imul, 1) := by decide +kernel
theorem dX4_drawIdealOutward_28 : decode cX4_drawIdealOutward 28 = .ok (.istore 5, 2) := by decide +kernel
theorem dX4_drawIdealOutward_30 : decode cX4_drawIdealOutward 30 = .ok (.aload_n 0, 1) := by decide +kernel
theorem dX4_drawIdealOutward_31 : decode cX4_drawIdealOutward 31 = .ok (.getfield 35, 3) := by decide +kernel
theorem dX4_drawIdealOutward_34 : decode cX4_drawIdealOutward 34 = .ok (.getfield 75, 3) := by decide +kernel
theorem dX4_drawIdealOutward_37 : decode cX4_drawIdealOutward 37 = .ok (.istore 6, 2) := by decide +kernel
theorem dX4_drawIdealOutward_39 : decode cX4_drawIdealOutward 39 = .ok (.iconst 0, 1) := by decide +kernel
theorem dX4_drawIdealOutward_40 : decode cX4_drawIdealOutward 40 = .ok (.istore 7, 2) := by decide +kernel
theorem dX4_drawIdealOutward_42 : decode cX4_drawIdealOutward 42 = .ok (.iload 7, 2) := by decide +kernel
theorem dX4_drawIdealOutward_44 : decode cX4_drawIdealOutward 44 = .ok (.bipush 21, 2) := by decide +kernel
theorem dX4_drawIdealOutward_46 : decode cX4_drawIdealOutward 46 = .ok (.if_icmp .ge 130, 3) := by decide +kernel
theorem dX4_drawIdealOutward_49 : decode cX4_drawIdealOutward 49 = .ok (.iload 4, 2) := by decide +kernel
theorem dX4_drawIdealOutward_51 : decode cX4_drawIdealOutward 51 = .ok (.istore 8, 2) := by decide +kernel
theorem dX4_drawIdealOutward_53 : decode cX4_drawIdealOutward 53 = .ok (.iload 7, 2) := by decide +kernel
theorem dX4_drawIdealOutward_55 : decode cX4_drawIdealOutward 55 = .ok (.aload_n 2, 1) := by decide +kernel
theorem dX4_drawIdealOutward_56 : decode cX4_drawIdealOutward 56 = .ok (.getfield 101, 3) := by decide +kernel
theorem dX4_drawIdealOutward_59 : decode cX4_drawIdealOutward 59 = .ok (.if_icmp .lt 40, 3) := by decide +kernel
theorem dX4_drawIdealOutward_62 : decode cX4_drawIdealOutward 62 = .ok (.iload 4, 2) := by decide +kernel
theorem dX4_drawIdealOutward_64 : decode cX4_drawIdealOutward 64 = .ok (.iload 6, 2) := by decide +kernel
theorem dX4_drawIdealOutward_66 : decode cX4_drawIdealOutward 66 = .ok (.isub, 1) := by decide +kernel
theorem dX4_drawIdealOutward_67 : decode cX4_drawIdealOutward 67 = .ok (.iload 7, 2) := by decide +kernel
theorem dX4_drawIdealOutward_69 : decode cX4_drawIdealOutward 69 = .ok (.aload_n 2, 1) := by decide +kernel
theorem dX4_drawIdealOutward_70 : decode cX4_drawIdealOutward 70 = .ok (.getfield 101, 3) := by decide +kernel
theorem dX4_drawIdealOutward_73 : decode cX4_drawIdealOutward 73 = .ok (.isub, 1) := by decide +kernel
theorem dX4_drawIdealOutward_74 : decode cX4_drawIdealOutward 74 = .ok (.iconst 1, 1) := by decide +kernel
theorem dX4_drawIdealOutward_75 : decode cX4_drawIdealOutward 75 = .ok (.iadd, 1) := by decide +kernel
theorem dX4_drawIdealOutward_76 : decode cX4_drawIdealOutward 76 = .ok (.imul, 1) := by decide +kernel
theorem dX4_drawIdealOutward_77 : decode cX4_drawIdealOutward 77 = .ok (.istore 9, 2) := by decide +kernel
theorem dX4_drawIdealOutward_79 : decode cX4_drawIdealOutward 79 = .ok (.iload 6, 2) := by decide +kernel
theorem dX4_drawIdealOutward_81 : decode cX4_drawIdealOutward 81 = .ok (.iload 9, 2) := by decide +kernel
theorem dX4_drawIdealOutward_83 : decode cX4_drawIdealOutward 83 = .ok (.bipush 21, 2) := by decide +kernel
theorem dX4_drawIdealOutward_85 : decode cX4_drawIdealOutward 85 = .ok (.aload_n 2, 1) := by decide +kernel
theorem dX4_drawIdealOutward_86 : decode cX4_drawIdealOutward 86 = .ok (.getfield 101, 3) := by decide +kernel
theorem dX4_drawIdealOutward_89 : decode cX4_drawIdealOutward 89 = .ok (.isub, 1) := by decide +kernel
theorem dX4_drawIdealOutward_90 : decode cX4_drawIdealOutward 90 = .ok (.invokestatic 212, 3) := by decide +kernel
theorem dX4_drawIdealOutward_93 : decode cX4_drawIdealOutward 93 = .ok (.iadd, 1) := by decide +kernel
theorem dX4_drawIdealOutward_94 : decode cX4_drawIdealOutward 94 = .ok (.istore 8, 2) := by decide +kernel
theorem dX4_drawIdealOutward_96 : decode cX4_drawIdealOutward 96 = .ok (.goto 68, 3) := by decide +kernel
theorem dX4_drawIdealOutward_99 : decode cX4_drawIdealOutward 99 = .ok (.iload 7, 2) := by decide +kernel
theorem dX4_drawIdealOutward_101 : decode cX4_drawIdealOutward 101 = .ok (.aload_n 2, 1) := by decide +kernel
theorem dX4_drawIdealOutward_102 : decode cX4_drawIdealOutward 102 = .ok (.getfield 98, 3) := by decide +kernel
theorem dX4_drawIdealOutward_105 : decode cX4_drawIdealOutward 105 = .ok (.if_icmp .le 41, 3) := by decide +kernel
theorem dX4_drawIdealOutward_108 : decode cX4_drawIdealOutward 108 = .ok (.iload 5, 2) := by decide +kernel
theorem dX4_drawIdealOutward_110 : decode cX4_drawIdealOutward 110 = .ok (.iload 5, 2) := by decide +kernel
theorem dX4_drawIdealOutward_112 : decode cX4_drawIdealOutward 112 = .ok (.iload_n 3, 1) := by decide +kernel
theorem dX4_drawIdealOutward_113 : decode cX4_drawIdealOutward 113 = .ok (.imul, 1) := by decide +kernel
theorem dX4_drawIdealOutward_114 : decode cX4_drawIdealOutward 114 = .ok (.sipush 1000, 3) := by decide +kernel
theorem dX4_drawIdealOutward_117 : decode cX4_drawIdealOutward 117 = .ok (.invokestatic 212, 3) := by decide +kernel
theorem dX4_drawIdealOutward_120 : decode cX4_drawIdealOutward 120 = .ok (.iadd, 1) := by decide +kernel
theorem dX4_drawIdealOutward_121 : decode cX4_drawIdealOutward 121 = .ok (.istore 5, 2) := by decide +kernel
theorem dX4_drawIdealOutward_123 : decode cX4_drawIdealOutward 123 = .ok (.iload 5, 2) := by decide +kernel
theorem dX4_drawIdealOutward_125 : decode cX4_drawIdealOutward 125 = .ok (.aload_n 0, 1) := by decide +kernel
theorem dX4_drawIdealOutward_126 : decode cX4_drawIdealOutward 126 = .ok (.getfield 35, 3) := by decide +kernel
theorem dX4_drawIdealOutward_129 : decode cX4_drawIdealOutward 129 = .ok (.iload 7, 2) := by decide +kernel
theorem dX4_drawIdealOutward_131 : decode cX4_drawIdealOutward 131 = .ok (.invokevirtual 311, 3) := by decide +kernel
theorem dX4_drawIdealOutward_134 : decode cX4_drawIdealOutward 134 = .ok (.invokestatic 212, 3) := by decide +kernel
theorem dX4_drawIdealOutward_137 : decode cX4_drawIdealOutward 137 = .ok (.istore 8, 2) := by decide +kernel
theorem dX4_drawIdealOutward_139 : decode cX4_drawIdealOutward 139 = .ok (.iload 8, 2) := by decide +kernel
theorem dX4_drawIdealOutward_141 : decode cX4_drawIdealOutward 141 = .ok (.istore 6, 2) := by decide +kernel
theorem dX4_drawIdealOutward_143 : decode cX4_drawIdealOutward 143 = .ok (.goto 21, 3) := by decide +kernel
theorem dX4_drawIdealOutward_146 : decode cX4_drawIdealOutward 146 = .ok (.iload 7, 2) := by decide +kernel
theorem dX4_drawIdealOutward_148 : decode cX4_drawIdealOutward 148 = .ok (.aload_n 2, 1) := by decide +kernel
theorem dX4_drawIdealOutward_149 : decode cX4_drawIdealOutward 149 = .ok (.getfield 95, 3) := by decide +kernel
theorem dX4_drawIdealOutward_152 : decode cX4_drawIdealOutward 152 = .ok (.if_icmp .lt 12, 3) := by decide +kernel
theorem dX4_drawIdealOutward_155 : decode cX4_drawIdealOutward 155 = .ok (.aload_n 0, 1) := by decide +kernel
theorem dX4_drawIdealOutward_156 : decode cX4_drawIdealOutward 156 = .ok (.getfield 35, 3) := by decide +kernel
theorem dX4_drawIdealOutward_159 : decode cX4_drawIdealOutward 159 = .ok (.getfield 75, 3) := by decide +kernel
theorem dX4_drawIdealOutward_162 : decode cX4_drawIdealOutward 162 = .ok (.istore 8, 2) := by decide +kernel
theorem dX4_drawIdealOutward_164 : decode cX4_drawIdealOutward 164 = .ok (.aload_n 1, 1) := by decide +kernel
theorem dX4_drawIdealOutward_165 : decode cX4_drawIdealOutward 165 = .ok (.iload 7, 2) := by decide +kernel
theorem dX4_drawIdealOutward_167 : decode cX4_drawIdealOutward 167 = .ok (.iload 8, 2) := by decide +kernel
theorem dX4_drawIdealOutward_169 : decode cX4_drawIdealOutward 169 = .ok (.iastore, 1) := by decide +kernel
theorem dX4_drawIdealOutward_170 : decode cX4_drawIdealOutward 170 = .ok (.iinc 7 1, 3) := by decide +kernel
theorem dX4_drawIdealOutward_173 : decode cX4_drawIdealOutward 173 = .ok (.goto (-131), 3) := by decide +kernel
theorem dX4_drawIdealOutward_176 : decode cX4_drawIdealOutward 176 = .ok (.return_, 1) := by decide +kernel
theorem dX4_drawIdealReturn_0 : decode cX4_drawIdealReturn 0 = .ok (.aload_n 0, 1) := by decide +kernel
theorem dX4_drawIdealReturn_1 : decode cX4_drawIdealReturn 1 = .ok (.getfield 35, 3) := by decide +kernel
theorem dX4_drawIdealReturn_4 : decode cX4_drawIdealReturn 4 = .ok (.getfield 78, 3) := by decide +kernel
theorem dX4_drawIdealReturn_7 : decode cX4_drawIdealReturn 7 = .ok (.istore_n 3, 1) := by decide +kernel
theorem dX4_drawIdealReturn_8 : decode cX4_drawIdealReturn 8 = .ok (.iload_n 3, 1) := by decide +kernel
theorem dX4_drawIdealReturn_9 : decode cX4_drawIdealReturn 9 = .ok (.aload_n 0, 1) := by decide +kernel
theorem dX4_drawIdealReturn_10 : decode cX4_drawIdealReturn 10 = .ok (.getfield 35, 3) := by decide +kernel
theorem dX4_drawIdealReturn_13 : decode cX4_drawIdealReturn 13 = .ok (.aload_n 2, 1) := by decide +kernel
theorem dX4_drawIdealReturn_14 : decode cX4_drawIdealReturn 14 = .ok (.getfield 104, 3) := by decide +kernel
theorem dX4_drawIdealReturn_17 : decode cX4_drawIdealReturn 17 = .ok (.invokevirtual 311, 3) := by decide +kernel
theorem dX4_drawIdealReturn_20 : decode cX4_drawIdealReturn 20 = .ok (.imul, 1) := by decide +kernel
theorem dX4_drawIdealReturn_21 : decode cX4_drawIdealReturn 21 = .ok (.istore 4, 2) := by decide +kernel
theorem dX4_drawIdealReturn_23 : decode cX4_drawIdealReturn 23 = .ok (.iconst 0, 1) := by decide +kernel
theorem dX4_drawIdealReturn_24 : decode cX4_drawIdealReturn 24 = .ok (.istore 5, 2) := by decide +kernel
theorem dX4_drawIdealReturn_26 : decode cX4_drawIdealReturn 26 = .ok (.iload 5, 2) := by decide +kernel
theorem dX4_drawIdealReturn_28 : decode cX4_drawIdealReturn 28 = .ok (.bipush 21, 2) := by decide +kernel
theorem dX4_drawIdealReturn_30 : decode cX4_drawIdealReturn 30 = .ok (.if_icmp .ge 52, 3) := by decide +kernel
theorem dX4_drawIdealReturn_33 : decode cX4_drawIdealReturn 33 = .ok (.iload 5, 2) := by decide +kernel
theorem dX4_drawIdealReturn_35 : decode cX4_drawIdealReturn 35 = .ok (.aload_n 2, 1) := by decide +kernel
theorem dX4_drawIdealReturn_36 : decode cX4_drawIdealReturn 36 = .ok (.getfield 104, 3) := by decide +kernel
theorem dX4_drawIdealReturn_39 : decode cX4_drawIdealReturn 39 = .ok (.if_icmp .ge 7, 3) := by decide +kernel
theorem dX4_drawIdealReturn_42 : decode cX4_drawIdealReturn 42 = .ok (.iconst 1, 1) := by decide +kernel
theorem dX4_drawIdealReturn_43 : decode cX4_drawIdealReturn 43 = .ok (.goto 4, 3) := by decide +kernel
theorem dX4_drawIdealReturn_46 : decode cX4_drawIdealReturn 46 = .ok (.iconst 0, 1) := by decide +kernel
theorem dX4_drawIdealReturn_47 : decode cX4_drawIdealReturn 47 = .ok (.istore 6, 2) := by decide +kernel
theorem dX4_drawIdealReturn_49 : decode cX4_drawIdealReturn 49 = .ok (.aload_n 1, 1) := by decide +kernel
theorem dX4_drawIdealReturn_50 : decode cX4_drawIdealReturn 50 = .ok (.iload 5, 2) := by decide +kernel
theorem dX4_drawIdealReturn_52 : decode cX4_drawIdealReturn 52 = .ok (.iload 6, 2) := by decide +kernel
theorem dX4_drawIdealReturn_54 : decode cX4_drawIdealReturn 54 = .ok (.ifCond .eq 20, 3) := by decide +kernel
theorem dX4_drawIdealReturn_57 : decode cX4_drawIdealReturn 57 = .ok (.iload 4, 2) := by decide +kernel
theorem dX4_drawIdealReturn_59 : decode cX4_drawIdealReturn 59 = .ok (.aload_n 0, 1) := by decide +kernel
theorem dX4_drawIdealReturn_60 : decode cX4_drawIdealReturn 60 = .ok (.getfield 35, 3) := by decide +kernel
theorem dX4_drawIdealReturn_63 : decode cX4_drawIdealReturn 63 = .ok (.iload 5, 2) := by decide +kernel
theorem dX4_drawIdealReturn_65 : decode cX4_drawIdealReturn 65 = .ok (.invokevirtual 311, 3) := by decide +kernel
theorem dX4_drawIdealReturn_68 : decode cX4_drawIdealReturn 68 = .ok (.invokestatic 212, 3) := by decide +kernel
theorem dX4_drawIdealReturn_71 : decode cX4_drawIdealReturn 71 = .ok (.goto 4, 3) := by decide +kernel
theorem dX4_drawIdealReturn_74 : decode cX4_drawIdealReturn 74 = .ok (.iload_n 3, 1) := by decide +kernel
theorem dX4_drawIdealReturn_75 : decode cX4_drawIdealReturn 75 = .ok (.iastore, 1) := by decide +kernel
theorem dX4_drawIdealReturn_76 : decode cX4_drawIdealReturn 76 = .ok (.iinc 5 1, 3) := by decide +kernel
theorem dX4_drawIdealReturn_79 : decode cX4_drawIdealReturn 79 = .ok (.goto (-53), 3) := by decide +kernel
theorem dX4_drawIdealReturn_82 : decode cX4_drawIdealReturn 82 = .ok (.return_, 1) := by decide +kernel
theorem dX4_areaWithCutOff_0 : decode cX4_areaWithCutOff 0 = .ok (.aload_n 0, 1) := by decide +kernel
theorem dX4_areaWithCutOff_1 : decode cX4_areaWithCutOff 1 = .ok (.getfield 19, 3) := by decide +kernel
theorem dX4_areaWithCutOff_4 : decode cX4_areaWithCutOff 4 = .ok (.aload_n 0, 1) := by decide +kernel
theorem dX4_areaWithCutOff_5 : decode cX4_areaWithCutOff 5 = .ok (.getfield 35, 3) := by decide +kernel
theorem dX4_areaWithCutOff_8 : decode cX4_areaWithCutOff 8 = .ok (.iload_n 1, 1) := by decide +kernel
theorem dX4_areaWithCutOff_9 : decode cX4_areaWithCutOff 9 = .ok (.invokevirtual 91, 3) := by decide +kernel
theorem dX4_areaWithCutOff_12 : decode cX4_areaWithCutOff 12 = .ok (.iconst 0, 1) := by decide +kernel
theorem dX4_areaWithCutOff_13 : decode cX4_areaWithCutOff 13 = .ok (.invokevirtual 173, 3) := by decide +kernel
theorem dX4_areaWithCutOff_16 : decode cX4_areaWithCutOff 16 = .ok (.aload_n 0, 1) := by decide +kernel
theorem dX4_areaWithCutOff_17 : decode cX4_areaWithCutOff 17 = .ok (.getfield 19, 3) := by decide +kernel
theorem dX4_areaWithCutOff_20 : decode cX4_areaWithCutOff 20 = .ok (.iload_n 2, 1) := by decide +kernel
theorem dX4_areaWithCutOff_21 : decode cX4_areaWithCutOff 21 = .ok (.putfield 98, 3) := by decide +kernel
theorem dX4_areaWithCutOff_24 : decode cX4_areaWithCutOff 24 = .ok (.aload_n 0, 1) := by decide +kernel
theorem dX4_areaWithCutOff_25 : decode cX4_areaWithCutOff 25 = .ok (.aload_n 0, 1) := by decide +kernel
theorem dX4_areaWithCutOff_26 : decode cX4_areaWithCutOff 26 = .ok (.getfield 10, 3) := by decide +kernel
theorem dX4_areaWithCutOff_29 : decode cX4_areaWithCutOff 29 = .ok (.aload_n 0, 1) := by decide +kernel
theorem dX4_areaWithCutOff_30 : decode cX4_areaWithCutOff 30 = .ok (.getfield 19, 3) := by decide +kernel
theorem dX4_areaWithCutOff_33 : decode cX4_areaWithCutOff 33 = .ok (.iconst 0, 1) := by decide +kernel
theorem dX4_areaWithCutOff_34 : decode cX4_areaWithCutOff 34 = .ok (.invokevirtual 181, 3) := by decide +kernel
theorem dX4_areaWithCutOff_37 : decode cX4_areaWithCutOff 37 = .ok (.aload_n 0, 1) := by decide +kernel
theorem dX4_areaWithCutOff_38 : decode cX4_areaWithCutOff 38 = .ok (.getfield 10, 3) := by decide +kernel
theorem dX4_areaWithCutOff_41 : decode cX4_areaWithCutOff 41 = .ok (.invokevirtual 199, 3) := by decide +kernel
theorem dX4_areaWithCutOff_44 : decode cX4_areaWithCutOff 44 = .ok (.ireturn, 1) := by decide +kernel
theorem dX4_nearestCutOff_0 : decode cX4_nearestCutOff 0 = .ok (.aload_n 0, 1) := by decide +kernel
theorem dX4_nearestCutOff_1 : decode cX4_nearestCutOff 1 = .ok (.getfield 35, 3) := by decide +kernel
theorem dX4_nearestCutOff_4 : decode cX4_nearestCutOff 4 = .ok (.iload_n 1, 1) := by decide +kernel
theorem dX4_nearestCutOff_5 : decode cX4_nearestCutOff 5 = .ok (.invokevirtual 91, 3) := by decide +kernel
theorem dX4_nearestCutOff_8 : decode cX4_nearestCutOff 8 = .ok (.astore 5, 2) := by decide +kernel
theorem dX4_nearestCutOff_10 : decode cX4_nearestCutOff 10 = .ok (.aload 5, 2) := by decide +kernel
theorem dX4_nearestCutOff_12 : decode cX4_nearestCutOff 12 = .ok (.getfield 98, 3) := by decide +kernel
theorem dX4_nearestCutOff_15 : decode cX4_nearestCutOff 15 = .ok (.istore 6, 2) := by decide +kernel
theorem dX4_nearestCutOff_17 : decode cX4_nearestCutOff 17 = .ok (.ldc2_w 316, 3) := by decide +kernel
theorem dX4_nearestCutOff_20 : decode cX4_nearestCutOff 20 = .ok (.lstore 7, 2) := by decide +kernel
theorem dX4_nearestCutOff_22 : decode cX4_nearestCutOff 22 = .ok (.iconst 1, 1) := by decide +kernel
theorem dX4_nearestCutOff_23 : decode cX4_nearestCutOff 23 = .ok (.istore 9, 2) := by decide +kernel
theorem dX4_nearestCutOff_25 : decode cX4_nearestCutOff 25 = .ok (.iload 9, 2) := by decide +kernel
theorem dX4_nearestCutOff_27 : decode cX4_nearestCutOff 27 = .ok (.bipush 18, 2) := by decide +kernel
theorem dX4_nearestCutOff_29 : decode cX4_nearestCutOff 29 = .ok (.if_icmp .gt 79, 3) := by decide +kernel
theorem dX4_nearestCutOff_32 : decode cX4_nearestCutOff 32 = .ok (.iload 9, 2) := by decide +kernel
theorem dX4_nearestCutOff_34 : decode cX4_nearestCutOff 34 = .ok (.aload 5, 2) := by decide +kernel
theorem dX4_nearestCutOff_36 : decode cX4_nearestCutOff 36 = .ok (.getfield 95, 3) := by decide +kernel
theorem dX4_nearestCutOff_39 : decode cX4_nearestCutOff 39 = .ok (.if_icmp .le 63, 3) := by decide +kernel
theorem dX4_nearestCutOff_42 : decode cX4_nearestCutOff 42 = .ok (.iload 9, 2) := by decide +kernel
theorem dX4_nearestCutOff_44 : decode cX4_nearestCutOff 44 = .ok (.aload 5, 2) := by decide +kernel
theorem dX4_nearestCutOff_46 : decode cX4_nearestCutOff 46 = .ok (.getfield 101, 3) := by decide +kernel
theorem dX4_nearestCutOff_49 : decode cX4_nearestCutOff 49 = .ok (.if_icmp .ge 53, 3) := by decide +kernel
theorem dX4_nearestCutOff_52 : decode cX4_nearestCutOff 52 = .ok (.iload 4, 2) := by decide +kernel
theorem dX4_nearestCutOff_54 : decode cX4_nearestCutOff 54 = .ok (.ifCond .eq 13, 3) := by decide +kernel
theorem dX4_nearestCutOff_57 : decode cX4_nearestCutOff 57 = .ok (.aload_n 0, 1) := by decide +kernel
theorem dX4_nearestCutOff_58 : decode cX4_nearestCutOff 58 = .ok (.iload_n 1, 1) := by decide +kernel
theorem dX4_nearestCutOff_59 : decode cX4_nearestCutOff 59 = .ok (.iload 9, 2) := by decide +kernel
theorem dX4_nearestCutOff_61 : decode cX4_nearestCutOff 61 = .ok (.invokevirtual 280, 3) := by decide +kernel
theorem dX4_nearestCutOff_64 : decode cX4_nearestCutOff 64 = .ok (.goto 11, 3) := by decide +kernel
theorem dX4_nearestCutOff_67 : decode cX4_nearestCutOff 67 = .ok (.aload_n 0, 1) := by decide +kernel
theorem dX4_nearestCutOff_68 : decode cX4_nearestCutOff 68 = .ok (.iload_n 1, 1) := by decide +kernel
theorem dX4_nearestCutOff_69 : decode cX4_nearestCutOff 69 = .ok (.iload 9, 2) := by decide +kernel
theorem dX4_nearestCutOff_71 : decode cX4_nearestCutOff 71 = .ok (.invokevirtual 268, 3) := by decide +kernel
theorem dX4_nearestCutOff_74 : decode cX4_nearestCutOff 74 = .ok (.i2l, 1) := by decide +kernel
theorem dX4_nearestCutOff_75 : decode cX4_nearestCutOff 75 = .ok (.lstore 10, 2) := by decide +kernel
theorem dX4_nearestCutOff_77 : decode cX4_nearestCutOff 77 = .ok (.lload 10, 2) := by decide +kernel
theorem dX4_nearestCutOff_79 : decode cX4_nearestCutOff 79 = .ok (.lload_n 2, 1) := by decide +kernel
theorem dX4_nearestCutOff_80 : decode cX4_nearestCutOff 80 = .ok (.lsub, 1) := by decide +kernel
theorem dX4_nearestCutOff_81 : decode cX4_nearestCutOff 81 = .ok (.invokestatic 249, 3) := by decide +kernel
theorem dX4_nearestCutOff_84 : decode cX4_nearestCutOff 84 = .ok (.lstore 12, 2) := by decide +kernel
theorem dX4_nearestCutOff_86 : decode cX4_nearestCutOff 86 = .ok (.lload 12, 2) := by decide +kernel
theorem dX4_nearestCutOff_88 : decode cX4_nearestCutOff 88 = .ok (.lload 7, 2) := by decide +kernel
theorem dX4_nearestCutOff_90 : decode cX4_nearestCutOff 90 = .ok (.lcmp, 1) := by decide +kernel
theorem dX4_nearestCutOff_91 : decode cX4_nearestCutOff 91 = .ok (.ifCond .ge 11, 3) := by decide +kernel
theorem dX4_nearestCutOff_94 : decode cX4_nearestCutOff 94 = .ok (.lload 12, 2) := by decide +kernel
theorem dX4_nearestCutOff_96 : decode cX4_nearestCutOff 96 = .ok (.lstore 7, 2) := by decide +kernel
theorem dX4_nearestCutOff_98 : decode cX4_nearestCutOff 98 = .ok (.iload 9, 2) := by decide +kernel
theorem dX4_nearestCutOff_100 : decode cX4_nearestCutOff 100 = .ok (.istore 6, 2) := by decide +kernel
theorem dX4_nearestCutOff_102 : decode cX4_nearestCutOff 102 = .ok (.iinc 9 1, 3) := by decide +kernel
theorem dX4_nearestCutOff_105 : decode cX4_nearestCutOff 105 = .ok (.goto (-80), 3) := by decide +kernel
theorem dX4_nearestCutOff_108 : decode cX4_nearestCutOff 108 = .ok (.iload 6, 2) := by decide +kernel
theorem dX4_nearestCutOff_110 : decode cX4_nearestCutOff 110 = .ok (.ireturn, 1) := by decide +kernel
theorem dX4_powerWithCutOff_0 : decode cX4_powerWithCutOff 0 = .ok (.aload_n 0, 1) := by decide +kernel
theorem dX4_powerWithCutOff_1 : decode cX4_powerWithCutOff 1 = .ok (.aload_n 0, 1) := by decide +kernel
theorem dX4_powerWithCutOff_2 : decode cX4_powerWithCutOff 2 = .ok (.iload_n 1, 1) := by decide +kernel
theorem dX4_powerWithCutOff_3 : decode cX4_powerWithCutOff 3 = .ok (.iload_n 2, 1) := by decide +kernel
theorem dX4_powerWithCutOff_4 : decode cX4_powerWithCutOff 4 = .ok (.invokevirtual 268, 3) := by decide +kernel
theorem dX4_powerWithCutOff_7 : decode cX4_powerWithCutOff 7 = .ok (.iload_n 1, 1) := by decide +kernel
theorem dX4_powerWithCutOff_8 : decode cX4_powerWithCutOff 8 = .ok (.bipush 60, 2) := by decide +kernel
theorem dX4_powerWithCutOff_10 : decode cX4_powerWithCutOff 10 = .ok (.invokevirtual 318, 3) := by decide +kernel
theorem dX4_powerWithCutOff_13 : decode cX4_powerWithCutOff 13 = .ok (.lreturn, 1) := by decide +kernel
theorem dX4_powerFrom_0 : decode cX4_powerFrom 0 = .ok (.iload_n 1, 1) := by decide +kernel
theorem dX4_powerFrom_1 : decode cX4_powerFrom 1 = .ok (.i2l, 1) := by decide +kernel
theorem dX4_powerFrom_2 : decode cX4_powerFrom 2 = .ok (.aload_n 0, 1) := by decide +kernel
theorem dX4_powerFrom_3 : decode cX4_powerFrom 3 = .ok (.getfield 35, 3) := by decide +kernel
theorem dX4_powerFrom_6 : decode cX4_powerFrom 6 = .ok (.iload_n 2, 1) := by decide +kernel
theorem dX4_powerFrom_7 : decode cX4_powerFrom 7 = .ok (.invokevirtual 62, 3) := by decide +kernel
theorem dX4_powerFrom_10 : decode cX4_powerFrom 10 = .ok (.i2l, 1) := by decide +kernel
theorem dX4_powerFrom_11 : decode cX4_powerFrom 11 = .ok (.lmul, 1) := by decide +kernel
theorem dX4_powerFrom_12 : decode cX4_powerFrom 12 = .ok (.aload_n 0, 1) := by decide +kernel
theorem dX4_powerFrom_13 : decode cX4_powerFrom 13 = .ok (.getfield 35, 3) := by decide +kernel
theorem dX4_powerFrom_16 : decode cX4_powerFrom 16 = .ok (.getfield 72, 3) := by decide +kernel
theorem dX4_powerFrom_19 : decode cX4_powerFrom 19 = .ok (.i2l, 1) := by decide +kernel
theorem dX4_powerFrom_20 : decode cX4_powerFrom 20 = .ok (.lmul, 1) := by decide +kernel
theorem dX4_powerFrom_21 : decode cX4_powerFrom 21 = .ok (.lstore 4, 2) := by decide +kernel
theorem dX4_powerFrom_23 : decode cX4_powerFrom 23 = .ok (.lload 4, 2) := by decide +kernel
theorem dX4_powerFrom_25 : decode cX4_powerFrom 25 = .ok (.iload_n 3, 1) := by decide +kernel
theorem dX4_powerFrom_26 : decode cX4_powerFrom 26 = .ok (.i2l, 1) := by decide +kernel
theorem dX4_powerFrom_27 : decode cX4_powerFrom 27 = .ok (.lmul, 1) := by decide +kernel
theorem dX4_powerFrom_28 : decode cX4_powerFrom 28 = .ok (.ldc2_w 322, 3) := by decide +kernel
theorem dX4_powerFrom_31 : decode cX4_powerFrom 31 = .ok (.invokestatic 257, 3) := by decide +kernel
theorem dX4_powerFrom_34 : decode cX4_powerFrom 34 = .ok (.lreturn, 1) := by decide +kernel
theorem dX4_powerOfCard_0 : decode cX4_powerOfCard 0 = .ok (.aload_n 0, 1) := by decide +kernel
theorem dX4_powerOfCard_1 : decode cX4_powerOfCard 1 = .ok (.aload_n 1, 1) := by decide +kernel
theorem dX4_powerOfCard_2 : decode cX4_powerOfCard 2 = .ok (.invokevirtual 199, 3) := by decide +kernel
theorem dX4_powerOfCard_5 : decode cX4_powerOfCard 5 = .ok (.aload_n 1, 1) := by decide +kernel
theorem dX4_powerOfCard_6 : decode cX4_powerOfCard 6 = .ok (.getfield 158, 3) := by decide +kernel
theorem dX4_powerOfCard_9 : decode cX4_powerOfCard 9 = .ok (.aload_n 1, 1) := by decide +kernel
theorem dX4_powerOfCard_10 : decode cX4_powerOfCard 10 = .ok (.getfield 162, 3) := by decide +kernel
theorem dX4_powerOfCard_13 : decode cX4_powerOfCard 13 = .ok (.invokevirtual 318, 3) := by decide +kernel
theorem dX4_powerOfCard_16 : decode cX4_powerOfCard 16 = .ok (.lreturn, 1) := by decide +kernel
theorem dX4_findEvents_0 : decode cX4_findEvents 0 = .ok (.aload_n 0, 1) := by decide +kernel
theorem dX4_findEvents_1 : decode cX4_findEvents 1 = .ok (.getfield 23, 3) := by decide +kernel
theorem dX4_findEvents_4 : decode cX4_findEvents 4 = .ok (.aload_n 0, 1) := by decide +kernel
theorem dX4_findEvents_5 : decode cX4_findEvents 5 = .ok (.aload_n 1, 1) := by decide +kernel
theorem dX4_findEvents_6 : decode cX4_findEvents 6 = .ok (.getfield 163, 3) := by decide +kernel
theorem dX4_findEvents_9 : decode cX4_findEvents 9 = .ok (.invokevirtual 324, 3) := by decide +kernel
theorem dX4_findEvents_12 : decode cX4_findEvents 12 = .ok (.putfield 95, 3) := by decide +kernel
theorem dX4_findEvents_15 : decode cX4_findEvents 15 = .ok (.aload_n 0, 1) := by decide +kernel
theorem dX4_findEvents_16 : decode cX4_findEvents 16 = .ok (.getfield 23, 3) := by decide +kernel
theorem dX4_findEvents_19 : decode cX4_findEvents 19 = .ok (.aload_n 0, 1) := by decide +kernel
theorem dX4_findEvents_20 : decode cX4_findEvents 20 = .ok (.aload_n 1, 1) := by decide +kernel
theorem dX4_findEvents_21 : decode cX4_findEvents 21 = .ok (.getfield 163, 3) := by decide +kernel
theorem dX4_findEvents_24 : decode cX4_findEvents 24 = .ok (.aload_n 0, 1) := by decide +kernel
theorem dX4_findEvents_25 : decode cX4_findEvents 25 = .ok (.getfield 23, 3) := by decide +kernel
theorem dX4_findEvents_28 : decode cX4_findEvents 28 = .ok (.getfield 95, 3) := by decide +kernel
theorem dX4_findEvents_31 : decode cX4_findEvents 31 = .ok (.invokevirtual 327, 3) := by decide +kernel
theorem dX4_findEvents_34 : decode cX4_findEvents 34 = .ok (.putfield 98, 3) := by decide +kernel
theorem dX4_findEvents_37 : decode cX4_findEvents 37 = .ok (.aload_n 0, 1) := by decide +kernel
theorem dX4_findEvents_38 : decode cX4_findEvents 38 = .ok (.getfield 23, 3) := by decide +kernel
theorem dX4_findEvents_41 : decode cX4_findEvents 41 = .ok (.aload_n 0, 1) := by decide +kernel
theorem dX4_findEvents_42 : decode cX4_findEvents 42 = .ok (.aload_n 1, 1) := by decide +kernel
theorem dX4_findEvents_43 : decode cX4_findEvents 43 = .ok (.aload_n 0, 1) := by decide +kernel
theorem dX4_findEvents_44 : decode cX4_findEvents 44 = .ok (.getfield 23, 3) := by decide +kernel
theorem dX4_findEvents_47 : decode cX4_findEvents 47 = .ok (.getfield 98, 3) := by decide +kernel
theorem dX4_findEvents_50 : decode cX4_findEvents 50 = .ok (.invokevirtual 330, 3) := by decide +kernel
theorem dX4_findEvents_53 : decode cX4_findEvents 53 = .ok (.putfield 101, 3) := by decide +kernel
theorem dX4_findEvents_56 : decode cX4_findEvents 56 = .ok (.aload_n 0, 1) := by decide +kernel
theorem dX4_findEvents_57 : decode cX4_findEvents 57 = .ok (.getfield 23, 3) := by decide +kernel
theorem dX4_findEvents_60 : decode cX4_findEvents 60 = .ok (.aload_n 0, 1) := by decide +kernel
theorem dX4_findEvents_61 : decode cX4_findEvents 61 = .ok (.aload_n 1, 1) := by decide +kernel
theorem dX4_findEvents_62 : decode cX4_findEvents 62 = .ok (.getfield 168, 3) := by decide +kernel
theorem dX4_findEvents_65 : decode cX4_findEvents 65 = .ok (.invokevirtual 333, 3) := by decide +kernel
theorem dX4_findEvents_68 : decode cX4_findEvents 68 = .ok (.putfield 104, 3) := by decide +kernel
theorem dX4_findEvents_71 : decode cX4_findEvents 71 = .ok (.return_, 1) := by decide +kernel
theorem dX4_findAdmission_0 : decode cX4_findAdmission 0 = .ok (.aload_n 1, 1) := by decide +kernel
theorem dX4_findAdmission_1 : decode cX4_findAdmission 1 = .ok (.invokestatic 336, 3) := by decide +kernel
theorem dX4_findAdmission_4 : decode cX4_findAdmission 4 = .ok (.aload_n 0, 1) := by decide +kernel
theorem dX4_findAdmission_5 : decode cX4_findAdmission 5 = .ok (.getfield 35, 3) := by decide +kernel
theorem dX4_findAdmission_8 : decode cX4_findAdmission 8 = .ok (.getfield 81, 3) := by decide +kernel
theorem dX4_findAdmission_11 : decode cX4_findAdmission 11 = .ok (.isub, 1) := by decide +kernel
theorem dX4_findAdmission_12 : decode cX4_findAdmission 12 = .ok (.istore_n 2, 1) := by decide +kernel
theorem dX4_findAdmission_13 : decode cX4_findAdmission 13 = .ok (.iconst 0, 1) := by decide +kernel
theorem dX4_findAdmission_14 : decode cX4_findAdmission 14 = .ok (.istore_n 3, 1) := by decide +kernel
theorem dX4_findAdmission_15 : decode cX4_findAdmission 15 = .ok (.iload_n 3, 1) := by decide +kernel
theorem dX4_findAdmission_16 : decode cX4_findAdmission 16 = .ok (.bipush 20, 2) := by decide +kernel
theorem dX4_findAdmission_18 : decode cX4_findAdmission 18 = .ok (.if_icmp .ge 16, 3) := by decide +kernel
theorem dX4_findAdmission_21 : decode cX4_findAdmission 21 = .ok (.aload_n 1, 1) := by decide +kernel
theorem dX4_findAdmission_22 : decode cX4_findAdmission 22 = .ok (.iload_n 3, 1) := by decide +kernel
theorem dX4_findAdmission_23 : decode cX4_findAdmission 23 = .ok (.iaload, 1) := by decide +kernel
theorem dX4_findAdmission_24 : decode cX4_findAdmission 24 = .ok (.iload_n 2, 1) := by decide +kernel
theorem dX4_findAdmission_25 : decode cX4_findAdmission 25 = .ok (.if_icmp .ge 9, 3) := by decide +kernel
theorem dX4_findAdmission_28 : decode cX4_findAdmission 28 = .ok (.iinc 3 1, 3) := by decide +kernel
theorem dX4_findAdmission_31 : decode cX4_findAdmission 31 = .ok (.goto (-16), 3) := by decide +kernel
theorem dX4_findAdmission_34 : decode cX4_findAdmission 34 = .ok (.iload_n 3, 1) := by decide +kernel
theorem dX4_findAdmission_35 : decode cX4_findAdmission 35 = .ok (.ireturn, 1) := by decide +kernel
theorem dX4_findCutOff_0 : decode cX4_findCutOff 0 = .ok (.aload_n 1, 1) := by decide +kernel
theorem dX4_findCutOff_1 : decode cX4_findCutOff 1 = .ok (.invokestatic 336, 3) := by decide +kernel
theorem dX4_findCutOff_4 : decode cX4_findCutOff 4 = .ok (.aload_n 0, 1) := by decide +kernel
theorem dX4_findCutOff_5 : decode cX4_findCutOff 5 = .ok (.getfield 35, 3) := by decide +kernel
theorem dX4_findCutOff_8 : decode cX4_findCutOff 8 = .ok (.getfield 81, 3) := by decide +kernel
theorem dX4_findCutOff_11 : decode cX4_findCutOff 11 = .ok (.isub, 1) := by decide +kernel
theorem dX4_findCutOff_12 : decode cX4_findCutOff 12 = .ok (.istore_n 3, 1) := by decide +kernel
theorem dX4_findCutOff_13 : decode cX4_findCutOff 13 = .ok (.iload_n 2, 1) := by decide +kernel
theorem dX4_findCutOff_14 : decode cX4_findCutOff 14 = .ok (.istore 4, 2) := by decide +kernel
theorem dX4_findCutOff_16 : decode cX4_findCutOff 16 = .ok (.iload 4, 2) := by decide +kernel
theorem dX4_findCutOff_18 : decode cX4_findCutOff 18 = .ok (.bipush 20, 2) := by decide +kernel
theorem dX4_findCutOff_20 : decode cX4_findCutOff 20 = .ok (.if_icmp .ge 19, 3) := by decide +kernel
theorem dX4_findCutOff_23 : decode cX4_findCutOff 23 = .ok (.aload_n 1, 1) := by decide +kernel
theorem dX4_findCutOff_24 : decode cX4_findCutOff 24 = .ok (.iload 4, 2) := by decide +kernel
theorem dX4_findCutOff_26 : decode cX4_findCutOff 26 = .ok (.iconst 1, 1) := by decide +kernel
theorem dX4_findCutOff_27 : decode cX4_findCutOff 27 = .ok (.iadd, 1) := by decide +kernel
theorem dX4_findCutOff_28 : decode cX4_findCutOff 28 = .ok (.iaload, 1) := by decide +kernel
theorem dX4_findCutOff_29 : decode cX4_findCutOff 29 = .ok (.iload_n 3, 1) := by decide +kernel
theorem dX4_findCutOff_30 : decode cX4_findCutOff 30 = .ok (.if_icmp .lt 9, 3) := by decide +kernel
theorem dX4_findCutOff_33 : decode cX4_findCutOff 33 = .ok (.iinc 4 1, 3) := by decide +kernel
theorem dX4_findCutOff_36 : decode cX4_findCutOff 36 = .ok (.goto (-20), 3) := by decide +kernel
theorem dX4_findCutOff_39 : decode cX4_findCutOff 39 = .ok (.iload 4, 2) := by decide +kernel
theorem dX4_findCutOff_41 : decode cX4_findCutOff 41 = .ok (.ireturn, 1) := by decide +kernel
theorem dX4_findRelease_0 : decode cX4_findRelease 0 = .ok (.aload_n 0, 1) := by decide +kernel
theorem dX4_findRelease_1 : decode cX4_findRelease 1 = .ok (.aload_n 1, 1) := by decide +kernel
theorem dX4_findRelease_2 : decode cX4_findRelease 2 = .ok (.iload_n 2, 1) := by decide +kernel
theorem dX4_findRelease_3 : decode cX4_findRelease 3 = .ok (.invokevirtual 232, 3) := by decide +kernel
theorem dX4_findRelease_6 : decode cX4_findRelease 6 = .ok (.bipush 100, 2) := by decide +kernel
theorem dX4_findRelease_8 : decode cX4_findRelease 8 = .ok (.aload_n 0, 1) := by decide +kernel
theorem dX4_findRelease_9 : decode cX4_findRelease 9 = .ok (.getfield 35, 3) := by decide +kernel
theorem dX4_findRelease_12 : decode cX4_findRelease 12 = .ok (.getfield 84, 3) := by decide +kernel
theorem dX4_findRelease_15 : decode cX4_findRelease 15 = .ok (.isub, 1) := by decide +kernel
theorem dX4_findRelease_16 : decode cX4_findRelease 16 = .ok (.imul, 1) := by decide +kernel
theorem dX4_findRelease_17 : decode cX4_findRelease 17 = .ok (.istore_n 3, 1) := by decide +kernel
theorem dX4_findRelease_18 : decode cX4_findRelease 18 = .ok (.iload_n 2, 1) := by decide +kernel
theorem dX4_findRelease_19 : decode cX4_findRelease 19 = .ok (.iconst 1, 1) := by decide +kernel
theorem dX4_findRelease_20 : decode cX4_findRelease 20 = .ok (.iadd, 1) := by decide +kernel
theorem dX4_findRelease_21 : decode cX4_findRelease 21 = .ok (.istore 4, 2) := by decide +kernel
theorem dX4_findRelease_23 : decode cX4_findRelease 23 = .ok (.iload 4, 2) := by decide +kernel
theorem dX4_findRelease_25 : decode cX4_findRelease 25 = .ok (.bipush 21, 2) := by decide +kernel
theorem dX4_findRelease_27 : decode cX4_findRelease 27 = .ok (.if_icmp .ge 26, 3) := by decide +kernel
theorem dX4_findRelease_30 : decode cX4_findRelease 30 = .ok (.aload_n 0, 1) := by decide +kernel
theorem dX4_findRelease_31 : decode cX4_findRelease 31 = .ok (.aload_n 1, 1) := by decide +kernel
theorem dX4_findRelease_32 : decode cX4_findRelease 32 = .ok (.iload 4, 2) := by decide +kernel
theorem dX4_findRelease_34 : decode cX4_findRelease 34 = .ok (.invokevirtual 232, 3) := by decide +kernel
theorem dX4_findRelease_37 : decode cX4_findRelease 37 = .ok (.bipush 100, 2) := by decide +kernel
theorem dX4_findRelease_39 : decode cX4_findRelease 39 = .ok (.imul, 1) := by decide +kernel
theorem dX4_findRelease_40 : decode cX4_findRelease 40 = .ok (.iload_n 3, 1) := by decide +kernel
theorem dX4_findRelease_41 : decode cX4_findRelease 41 = .ok (.if_icmp .ge 6, 3) := by decide +kernel
theorem dX4_findRelease_44 : decode cX4_findRelease 44 = .ok (.iload 4, 2) := by decide +kernel
theorem dX4_findRelease_46 : decode cX4_findRelease 46 = .ok (.ireturn, 1) := by decide +kernel
theorem dX4_findRelease_47 : decode cX4_findRelease 47 = .ok (.iinc 4 1, 3) := by decide +kernel
theorem dX4_findRelease_50 : decode cX4_findRelease 50 = .ok (.goto (-27), 3) := by decide +kernel
theorem dX4_findRelease_53 : decode cX4_findRelease 53 = .ok (.bipush 20, 2) := by decide +kernel
theorem dX4_findRelease_55 : decode cX4_findRelease 55 = .ok (.ireturn, 1) := by decide +kernel
theorem dX4_findCompression_0 : decode cX4_findCompression 0 = .ok (.aload_n 1, 1) := by decide +kernel
theorem dX4_findCompression_1 : decode cX4_findCompression 1 = .ok (.invokestatic 339, 3) := by decide +kernel
theorem dX4_findCompression_4 : decode cX4_findCompression 4 = .ok (.aload_n 0, 1) := by decide +kernel
theorem dX4_findCompression_5 : decode cX4_findCompression 5 = .ok (.getfield 35, 3) := by decide +kernel
theorem dX4_findCompression_8 : decode cX4_findCompression 8 = .ok (.getfield 81, 3) := by decide +kernel
theorem dX4_findCompression_11 : decode cX4_findCompression 11 = .ok (.iadd, 1) := by decide +kernel
theorem dX4_findCompression_12 : decode cX4_findCompression 12 = .ok (.istore_n 2, 1) := by decide +kernel
theorem dX4_findCompression_13 : decode cX4_findCompression 13 = .ok (.aload_n 1, 1) := by decide +kernel
theorem dX4_findCompression_14 : decode cX4_findCompression 14 = .ok (.bipush 20, 2) := by decide +kernel
theorem dX4_findCompression_16 : decode cX4_findCompression 16 = .ok (.iaload, 1) := by decide +kernel
theorem dX4_findCompression_17 : decode cX4_findCompression 17 = .ok (.iload_n 2, 1) := by decide +kernel
theorem dX4_findCompression_18 : decode cX4_findCompression 18 = .ok (.if_icmp .le 6, 3) := by decide +kernel
theorem dX4_findCompression_21 : decode cX4_findCompression 21 = .ok (.bipush 20, 2) := by decide +kernel
theorem dX4_findCompression_23 : decode cX4_findCompression 23 = .ok (.ireturn, 1) := by decide +kernel
theorem dX4_findCompression_24 : decode cX4_findCompression 24 = .ok (.bipush 20, 2) := by decide +kernel
theorem dX4_findCompression_26 : decode cX4_findCompression 26 = .ok (.istore_n 3, 1) := by decide +kernel
theorem dX4_findCompression_27 : decode cX4_findCompression 27 = .ok (.iload_n 3, 1) := by decide +kernel
theorem dX4_findCompression_28 : decode cX4_findCompression 28 = .ok (.ifCond .le 18, 3) := by decide +kernel
theorem dX4_findCompression_31 : decode cX4_findCompression 31 = .ok (.aload_n 1, 1) := by decide +kernel
theorem dX4_findCompression_32 : decode cX4_findCompression 32 = .ok (.iload_n 3, 1) := by decide +kernel
theorem dX4_findCompression_33 : decode cX4_findCompression 33 = .ok (.iconst 1, 1) := by decide +kernel
theorem dX4_findCompression_34 : decode cX4_findCompression 34 = .ok (.isub, 1) := by decide +kernel
theorem dX4_findCompression_35 : decode cX4_findCompression 35 = .ok (.iaload, 1) := by decide +kernel
theorem dX4_findCompression_36 : decode cX4_findCompression 36 = .ok (.iload_n 2, 1) := by decide +kernel
theorem dX4_findCompression_37 : decode cX4_findCompression 37 = .ok (.if_icmp .gt 9, 3) := by decide +kernel
theorem dX4_findCompression_40 : decode cX4_findCompression 40 = .ok (.iinc 3 (-1), 3) := by decide +kernel
theorem dX4_findCompression_43 : decode cX4_findCompression 43 = .ok (.goto (-16), 3) := by decide +kernel
theorem dX4_findCompression_46 : decode cX4_findCompression 46 = .ok (.iload_n 3, 1) := by decide +kernel
theorem dX4_findCompression_47 : decode cX4_findCompression 47 = .ok (.ireturn, 1) := by decide +kernel
theorem dX4_constantAt_0 : decode cX4_constantAt 0 = .ok (.aload_n 1, 1) := by decide +kernel
theorem dX4_constantAt_1 : decode cX4_constantAt 1 = .ok (.getfield 163, 3) := by decide +kernel
theorem dX4_constantAt_4 : decode cX4_constantAt 4 = .ok (.iload_n 2, 1) := by decide +kernel
theorem dX4_constantAt_5 : decode cX4_constantAt 5 = .ok (.iaload, 1) := by decide +kernel
theorem dX4_constantAt_6 : decode cX4_constantAt 6 = .ok (.aload_n 0, 1) := by decide +kernel
theorem dX4_constantAt_7 : decode cX4_constantAt 7 = .ok (.getfield 35, 3) := by decide +kernel
theorem dX4_constantAt_10 : decode cX4_constantAt 10 = .ok (.iload_n 2, 1) := by decide +kernel
theorem dX4_constantAt_11 : decode cX4_constantAt 11 = .ok (.invokevirtual 311, 3) := by decide +kernel
theorem dX4_constantAt_14 : decode cX4_constantAt 14 = .ok (.imul, 1) := by decide +kernel
theorem dX4_constantAt_15 : decode cX4_constantAt 15 = .ok (.ireturn, 1) := by decide +kernel
theorem dX4_greatestOf_0 : decode cX4_greatestOf 0 = .ok (.aload_n 0, 1) := by decide +kernel
theorem dX4_greatestOf_1 : decode cX4_greatestOf 1 = .ok (.iconst 0, 1) := by decide +kernel
theorem dX4_greatestOf_2 : decode cX4_greatestOf 2 = .ok (.iaload, 1) := by decide +kernel
theorem dX4_greatestOf_3 : decode cX4_greatestOf 3 = .ok (.istore_n 1, 1) := by decide +kernel
theorem dX4_greatestOf_4 : decode cX4_greatestOf 4 = .ok (.iconst 1, 1) := by decide +kernel
theorem dX4_greatestOf_5 : decode cX4_greatestOf 5 = .ok (.istore_n 2, 1) := by decide +kernel
theorem dX4_greatestOf_6 : decode cX4_greatestOf 6 = .ok (.iload_n 2, 1) := by decide +kernel
theorem dX4_greatestOf_7 : decode cX4_greatestOf 7 = .ok (.bipush 21, 2) := by decide +kernel
theorem dX4_greatestOf_9 : decode cX4_greatestOf 9 = .ok (.if_icmp .ge 17, 3) := by decide +kernel
theorem dX4_greatestOf_12 : decode cX4_greatestOf 12 = .ok (.iload_n 1, 1) := by decide +kernel
theorem dX4_greatestOf_13 : decode cX4_greatestOf 13 = .ok (.aload_n 0, 1) := by decide +kernel
theorem dX4_greatestOf_14 : decode cX4_greatestOf 14 = .ok (.iload_n 2, 1) := by decide +kernel
theorem dX4_greatestOf_15 : decode cX4_greatestOf 15 = .ok (.iaload, 1) := by decide +kernel
theorem dX4_greatestOf_16 : decode cX4_greatestOf 16 = .ok (.invokestatic 342, 3) := by decide +kernel
theorem dX4_greatestOf_19 : decode cX4_greatestOf 19 = .ok (.istore_n 1, 1) := by decide +kernel
theorem dX4_greatestOf_20 : decode cX4_greatestOf 20 = .ok (.iinc 2 1, 3) := by decide +kernel
theorem dX4_greatestOf_23 : decode cX4_greatestOf 23 = .ok (.goto (-17), 3) := by decide +kernel
theorem dX4_greatestOf_26 : decode cX4_greatestOf 26 = .ok (.iload_n 1, 1) := by decide +kernel
theorem dX4_greatestOf_27 : decode cX4_greatestOf 27 = .ok (.ireturn, 1) := by decide +kernel
theorem dX4_leastOf_0 : decode cX4_leastOf 0 = .ok (.aload_n 0, 1) := by decide +kernel
theorem dX4_leastOf_1 : decode cX4_leastOf 1 = .ok (.iconst 0, 1) := by decide +kernel
theorem dX4_leastOf_2 : decode cX4_leastOf 2 = .ok (.iaload, 1) := by decide +kernel
theorem dX4_leastOf_3 : decode cX4_leastOf 3 = .ok (.istore_n 1, 1) := by decide +kernel
theorem dX4_leastOf_4 : decode cX4_leastOf 4 = .ok (.iconst 1, 1) := by decide +kernel
theorem dX4_leastOf_5 : decode cX4_leastOf 5 = .ok (.istore_n 2, 1) := by decide +kernel
theorem dX4_leastOf_6 : decode cX4_leastOf 6 = .ok (.iload_n 2, 1) := by decide +kernel
theorem dX4_leastOf_7 : decode cX4_leastOf 7 = .ok (.bipush 21, 2) := by decide +kernel
theorem dX4_leastOf_9 : decode cX4_leastOf 9 = .ok (.if_icmp .ge 17, 3) := by decide +kernel
theorem dX4_leastOf_12 : decode cX4_leastOf 12 = .ok (.iload_n 1, 1) := by decide +kernel
theorem dX4_leastOf_13 : decode cX4_leastOf 13 = .ok (.aload_n 0, 1) := by decide +kernel
theorem dX4_leastOf_14 : decode cX4_leastOf 14 = .ok (.iload_n 2, 1) := by decide +kernel
theorem dX4_leastOf_15 : decode cX4_leastOf 15 = .ok (.iaload, 1) := by decide +kernel
theorem dX4_leastOf_16 : decode cX4_leastOf 16 = .ok (.invokestatic 345, 3) := by decide +kernel
theorem dX4_leastOf_19 : decode cX4_leastOf 19 = .ok (.istore_n 1, 1) := by decide +kernel
theorem dX4_leastOf_20 : decode cX4_leastOf 20 = .ok (.iinc 2 1, 3) := by decide +kernel
theorem dX4_leastOf_23 : decode cX4_leastOf 23 = .ok (.goto (-17), 3) := by decide +kernel
theorem dX4_leastOf_26 : decode cX4_leastOf 26 = .ok (.iload_n 1, 1) := by decide +kernel
theorem dX4_leastOf_27 : decode cX4_leastOf 27 = .ok (.ireturn, 1) := by decide +kernel
theorem dX4_foundLateness_0 : decode cX4_foundLateness 0 = .ok (.aload_n 0, 1) := by decide +kernel
theorem dX4_foundLateness_1 : decode cX4_foundLateness 1 = .ok (.getfield 23, 3) := by decide +kernel
theorem dX4_foundLateness_4 : decode cX4_foundLateness 4 = .ok (.iload_n 2, 1) := by decide +kernel
theorem dX4_foundLateness_5 : decode cX4_foundLateness 5 = .ok (.invokevirtual 110, 3) := by decide +kernel
theorem dX4_foundLateness_8 : decode cX4_foundLateness 8 = .ok (.aload_n 1, 1) := by decide +kernel
theorem dX4_foundLateness_9 : decode cX4_foundLateness 9 = .ok (.iload_n 2, 1) := by decide +kernel
theorem dX4_foundLateness_10 : decode cX4_foundLateness 10 = .ok (.invokevirtual 110, 3) := by decide +kernel
theorem dX4_foundLateness_13 : decode cX4_foundLateness 13 = .ok (.isub, 1) := by decide +kernel
theorem dX4_foundLateness_14 : decode cX4_foundLateness 14 = .ok (.istore_n 3, 1) := by decide +kernel
theorem dX4_foundLateness_15 : decode cX4_foundLateness 15 = .ok (.iload_n 2, 1) := by decide +kernel
theorem dX4_foundLateness_16 : decode cX4_foundLateness 16 = .ok (.iconst 3, 1) := by decide +kernel
theorem dX4_foundLateness_17 : decode cX4_foundLateness 17 = .ok (.if_icmp .ne 8, 3) := by decide +kernel
theorem dX4_foundLateness_20 : decode cX4_foundLateness 20 = .ok (.iload_n 3, 1) := by decide +kernel
theorem dX4_foundLateness_21 : decode cX4_foundLateness 21 = .ok (.ineg, 1) := by decide +kernel
theorem dX4_foundLateness_22 : decode cX4_foundLateness 22 = .ok (.goto 4, 3) := by decide +kernel
theorem dX4_foundLateness_25 : decode cX4_foundLateness 25 = .ok (.iload_n 3, 1) := by decide +kernel
theorem dX4_foundLateness_26 : decode cX4_foundLateness 26 = .ok (.ireturn, 1) := by decide +kernel
theorem dX4_deviationFrom_0 : decode cX4_deviationFrom 0 = .ok (.iconst 0, 1) := by decide +kernel
theorem dX4_deviationFrom_1 : decode cX4_deviationFrom 1 = .ok (.istore_n 3, 1) := by decide +kernel
theorem dX4_deviationFrom_2 : decode cX4_deviationFrom 2 = .ok (.iconst 0, 1) := by decide +kernel
theorem dX4_deviationFrom_3 : decode cX4_deviationFrom 3 = .ok (.istore 4, 2) := by decide +kernel
theorem dX4_deviationFrom_5 : decode cX4_deviationFrom 5 = .ok (.iload 4, 2) := by decide +kernel
theorem dX4_deviationFrom_7 : decode cX4_deviationFrom 7 = .ok (.iconst 3, 1) := by decide +kernel
theorem dX4_deviationFrom_8 : decode cX4_deviationFrom 8 = .ok (.if_icmp .gt 24, 3) := by decide +kernel
theorem dX4_deviationFrom_11 : decode cX4_deviationFrom 11 = .ok (.iload_n 3, 1) := by decide +kernel
theorem dX4_deviationFrom_12 : decode cX4_deviationFrom 12 = .ok (.aload_n 0, 1) := by decide +kernel
theorem dX4_deviationFrom_13 : decode cX4_deviationFrom 13 = .ok (.aload_n 1, 1) := by decide +kernel
theorem dX4_deviationFrom_14 : decode cX4_deviationFrom 14 = .ok (.iload 4, 2) := by decide +kernel
theorem dX4_deviationFrom_16 : decode cX4_deviationFrom 16 = .ok (.invokevirtual 225, 3) := by decide +kernel
theorem dX4_deviationFrom_19 : decode cX4_deviationFrom 19 = .ok (.iload_n 2, 1) := by decide +kernel
theorem dX4_deviationFrom_20 : decode cX4_deviationFrom 20 = .ok (.isub, 1) := by decide +kernel
theorem dX4_deviationFrom_21 : decode cX4_deviationFrom 21 = .ok (.invokestatic 348, 3) := by decide +kernel
theorem dX4_deviationFrom_24 : decode cX4_deviationFrom 24 = .ok (.iadd, 1) := by decide +kernel
theorem dX4_deviationFrom_25 : decode cX4_deviationFrom 25 = .ok (.istore_n 3, 1) := by decide +kernel
theorem dX4_deviationFrom_26 : decode cX4_deviationFrom 26 = .ok (.iinc 4 1, 3) := by decide +kernel
theorem dX4_deviationFrom_29 : decode cX4_deviationFrom 29 = .ok (.goto (-24), 3) := by decide +kernel
theorem dX4_deviationFrom_32 : decode cX4_deviationFrom 32 = .ok (.iload_n 3, 1) := by decide +kernel
theorem dX4_deviationFrom_33 : decode cX4_deviationFrom 33 = .ok (.ireturn, 1) := by decide +kernel
theorem dX4_countCards_0 : decode cX4_countCards 0 = .ok (.iconst 0, 1) := by decide +kernel
theorem dX4_countCards_1 : decode cX4_countCards 1 = .ok (.istore_n 2, 1) := by decide +kernel
theorem dX4_countCards_2 : decode cX4_countCards 2 = .ok (.iconst 0, 1) := by decide +kernel
theorem dX4_countCards_3 : decode cX4_countCards 3 = .ok (.istore_n 3, 1) := by decide +kernel
theorem dX4_countCards_4 : decode cX4_countCards 4 = .ok (.iload_n 3, 1) := by decide +kernel
theorem dX4_countCards_5 : decode cX4_countCards 5 = .ok (.aload_n 0, 1) := by decide +kernel
theorem dX4_countCards_6 : decode cX4_countCards 6 = .ok (.getfield 35, 3) := by decide +kernel
theorem dX4_countCards_9 : decode cX4_countCards 9 = .ok (.getfield 151, 3) := by decide +kernel
theorem dX4_countCards_12 : decode cX4_countCards 12 = .ok (.if_icmp .ge 28, 3) := by decide +kernel
theorem dX4_countCards_15 : decode cX4_countCards 15 = .ok (.aload_n 0, 1) := by decide +kernel
theorem dX4_countCards_16 : decode cX4_countCards 16 = .ok (.getfield 35, 3) := by decide +kernel
theorem dX4_countCards_19 : decode cX4_countCards 19 = .ok (.getfield 192, 3) := by decide +kernel
theorem dX4_countCards_22 : decode cX4_countCards 22 = .ok (.iload_n 3, 1) := by decide +kernel
theorem dX4_countCards_23 : decode cX4_countCards 23 = .ok (.aaload, 1) := by decide +kernel
theorem dX4_countCards_24 : decode cX4_countCards 24 = .ok (.getfield 158, 3) := by decide +kernel
theorem dX4_countCards_27 : decode cX4_countCards 27 = .ok (.iload_n 1, 1) := by decide +kernel
theorem dX4_countCards_28 : decode cX4_countCards 28 = .ok (.if_icmp .ne 6, 3) := by decide +kernel
theorem dX4_countCards_31 : decode cX4_countCards 31 = .ok (.iinc 2 1, 3) := by decide +kernel
theorem dX4_countCards_34 : decode cX4_countCards 34 = .ok (.iinc 3 1, 3) := by decide +kernel
theorem dX4_countCards_37 : decode cX4_countCards 37 = .ok (.goto (-33), 3) := by decide +kernel
theorem dX4_countCards_40 : decode cX4_countCards 40 = .ok (.iload_n 2, 1) := by decide +kernel
theorem dX4_countCards_41 : decode cX4_countCards 41 = .ok (.ireturn, 1) := by decide +kernel
theorem dX4_drawMeanPressures_0 : decode cX4_drawMeanPressures 0 = .ok (.aload_n 0, 1) := by decide +kernel
theorem dX4_drawMeanPressures_1 : decode cX4_drawMeanPressures 1 = .ok (.iload_n 1, 1) := by decide +kernel
theorem dX4_drawMeanPressures_2 : decode cX4_drawMeanPressures 2 = .ok (.invokevirtual 237, 3) := by decide +kernel
theorem dX4_drawMeanPressures_5 : decode cX4_drawMeanPressures 5 = .ok (.istore_n 3, 1) := by decide +kernel
theorem dX4_drawMeanPressures_6 : decode cX4_drawMeanPressures 6 = .ok (.aload_n 0, 1) := by decide +kernel
theorem dX4_drawMeanPressures_7 : decode cX4_drawMeanPressures 7 = .ok (.getfield 10, 3) := by decide +kernel
theorem dX4_drawMeanPressures_10 : decode cX4_drawMeanPressures 10 = .ok (.iload_n 2, 1) := by decide +kernel
theorem dX4_drawMeanPressures_11 : decode cX4_drawMeanPressures 11 = .ok (.invokevirtual 196, 3) := by decide +kernel
theorem dX4_drawMeanPressures_14 : decode cX4_drawMeanPressures 14 = .ok (.astore 4, 2) := by decide +kernel
theorem dX4_drawMeanPressures_16 : decode cX4_drawMeanPressures 16 = .ok (.iconst 0, 1) := by decide +kernel
theorem dX4_drawMeanPressures_17 : decode cX4_drawMeanPressures 17 = .ok (.istore 5, 2) := by decide +kernel
theorem dX4_drawMeanPressures_19 : decode cX4_drawMeanPressures 19 = .ok (.iload 5, 2) := by decide +kernel
theorem dX4_drawMeanPressures_21 : decode cX4_drawMeanPressures 21 = .ok (.bipush 21, 2) := by decide +kernel
theorem dX4_drawMeanPressures_23 : decode cX4_drawMeanPressures 23 = .ok (.if_icmp .ge 83, 3) := by decide +kernel
theorem dX4_drawMeanPressures_26 : decode cX4_drawMeanPressures 26 = .ok (.iconst 0, 1) := by decide +kernel
theorem dX4_drawMeanPressures_27 : decode cX4_drawMeanPressures 27 = .ok (.istore 6, 2) := by decide +kernel
theorem dX4_drawMeanPressures_29 : decode cX4_drawMeanPressures 29 = .ok (.iconst 0, 1) := by decide +kernel
theorem dX4_drawMeanPressures_30 : decode cX4_drawMeanPressures 30 = .ok (.istore 7, 2) := by decide +kernel
theorem dX4_drawMeanPressures_32 : decode cX4_drawMeanPressures 32 = .ok (.iload 7, 2) := by decide +kernel
theorem dX4_drawMeanPressures_34 : decode cX4_drawMeanPressures 34 = .ok (.aload_n 0, 1) := by decide +kernel
theorem dX4_drawMeanPressures_35 : decode cX4_drawMeanPressures 35 = .ok (.getfield 35, 3) := by decide +kernel
theorem dX4_drawMeanPressures_38 : decode cX4_drawMeanPressures 38 = .ok (.getfield 151, 3) := by decide +kernel
theorem dX4_drawMeanPressures_41 : decode cX4_drawMeanPressures 41 = .ok (.if_icmp .ge 48, 3) := by decide +kernel
theorem dX4_drawMeanPressures_44 : decode cX4_drawMeanPressures 44 = .ok (.aload_n 0, 1) := by decide +kernel
theorem dX4_drawMeanPressures_45 : decode cX4_drawMeanPressures 45 = .ok (.getfield 35, 3) := by decide +kernel
theorem dX4_drawMeanPressures_48 : decode cX4_drawMeanPressures 48 = .ok (.getfield 192, 3) := by decide +kernel
theorem dX4_drawMeanPressures_51 : decode cX4_drawMeanPressures 51 = .ok (.iload 7, 2) := by decide +kernel
theorem dX4_drawMeanPressures_53 : decode cX4_drawMeanPressures 53 = .ok (.aaload, 1) := by decide +kernel
theorem dX4_drawMeanPressures_54 : decode cX4_drawMeanPressures 54 = .ok (.getfield 158, 3) := by decide +kernel
theorem dX4_drawMeanPressures_57 : decode cX4_drawMeanPressures 57 = .ok (.iload_n 1, 1) := by decide +kernel
theorem dX4_drawMeanPressures_58 : decode cX4_drawMeanPressures 58 = .ok (.if_icmp .ne 25, 3) := by decide +kernel
theorem dX4_drawMeanPressures_61 : decode cX4_drawMeanPressures 61 = .ok (.iload 6, 2) := by decide +kernel
theorem dX4_drawMeanPressures_63 : decode cX4_drawMeanPressures 63 = .ok (.aload_n 0, 1) := by decide +kernel
theorem dX4_drawMeanPressures_64 : decode cX4_drawMeanPressures 64 = .ok (.getfield 35, 3) := by decide +kernel
theorem dX4_drawMeanPressures_67 : decode cX4_drawMeanPressures 67 = .ok (.getfield 192, 3) := by decide +kernel
theorem dX4_drawMeanPressures_70 : decode cX4_drawMeanPressures 70 = .ok (.iload 7, 2) := by decide +kernel
theorem dX4_drawMeanPressures_72 : decode cX4_drawMeanPressures 72 = .ok (.aaload, 1) := by decide +kernel
theorem dX4_drawMeanPressures_73 : decode cX4_drawMeanPressures 73 = .ok (.iload_n 2, 1) := by decide +kernel
theorem dX4_drawMeanPressures_74 : decode cX4_drawMeanPressures 74 = .ok (.invokevirtual 196, 3) := by decide +kernel
theorem dX4_drawMeanPressures_77 : decode cX4_drawMeanPressures 77 = .ok (.iload 5, 2) := by decide +kernel
theorem dX4_drawMeanPressures_79 : decode cX4_drawMeanPressures 79 = .ok (.iaload, 1) := by decide +kernel
theorem dX4_drawMeanPressures_80 : decode cX4_drawMeanPressures 80 = .ok (.iadd, 1) := by decide +kernel
theorem dX4_drawMeanPressures_81 : decode cX4_drawMeanPressures 81 = .ok (.istore 6, 2) := by decide +kernel
theorem dX4_drawMeanPressures_83 : decode cX4_drawMeanPressures 83 = .ok (.iinc 7 1, 3) := by decide +kernel
theorem dX4_drawMeanPressures_86 : decode cX4_drawMeanPressures 86 = .ok (.goto (-54), 3) := by decide +kernel
theorem dX4_drawMeanPressures_89 : decode cX4_drawMeanPressures 89 = .ok (.aload 4, 2) := by decide +kernel
theorem dX4_drawMeanPressures_91 : decode cX4_drawMeanPressures 91 = .ok (.iload 5, 2) := by decide +kernel
theorem dX4_drawMeanPressures_93 : decode cX4_drawMeanPressures 93 = .ok (.iload 6, 2) := by decide +kernel
theorem dX4_drawMeanPressures_95 : decode cX4_drawMeanPressures 95 = .ok (.iload_n 3, 1) := by decide +kernel
theorem dX4_drawMeanPressures_96 : decode cX4_drawMeanPressures 96 = .ok (.invokestatic 212, 3) := by decide +kernel
theorem dX4_drawMeanPressures_99 : decode cX4_drawMeanPressures 99 = .ok (.iastore, 1) := by decide +kernel
theorem dX4_drawMeanPressures_100 : decode cX4_drawMeanPressures 100 = .ok (.iinc 5 1, 3) := by decide +kernel
theorem dX4_drawMeanPressures_103 : decode cX4_drawMeanPressures 103 = .ok (.goto (-84), 3) := by decide +kernel
theorem dX4_drawMeanPressures_106 : decode cX4_drawMeanPressures 106 = .ok (.return_, 1) := by decide +kernel
theorem dX4_meanOfPowers_0 : decode cX4_meanOfPowers 0 = .ok (.lconst 0, 1) := by decide +kernel
theorem dX4_meanOfPowers_1 : decode cX4_meanOfPowers 1 = .ok (.lstore_n 2, 1) := by decide +kernel
theorem dX4_meanOfPowers_2 : decode cX4_meanOfPowers 2 = .ok (.iconst 0, 1) := by decide +kernel
theorem dX4_meanOfPowers_3 : decode cX4_meanOfPowers 3 = .ok (.istore 4, 2) := by decide +kernel
theorem dX4_meanOfPowers_5 : decode cX4_meanOfPowers 5 = .ok (.iload 4, 2) := by decide +kernel
theorem dX4_meanOfPowers_7 : decode cX4_meanOfPowers 7 = .ok (.aload_n 0, 1) := by decide +kernel
theorem dX4_meanOfPowers_8 : decode cX4_meanOfPowers 8 = .ok (.getfield 35, 3) := by decide +kernel
theorem dX4_meanOfPowers_11 : decode cX4_meanOfPowers 11 = .ok (.getfield 151, 3) := by decide +kernel
theorem dX4_meanOfPowers_14 : decode cX4_meanOfPowers 14 = .ok (.if_icmp .ge 43, 3) := by decide +kernel
theorem dX4_meanOfPowers_17 : decode cX4_meanOfPowers 17 = .ok (.aload_n 0, 1) := by decide +kernel
theorem dX4_meanOfPowers_18 : decode cX4_meanOfPowers 18 = .ok (.getfield 35, 3) := by decide +kernel
theorem dX4_meanOfPowers_21 : decode cX4_meanOfPowers 21 = .ok (.getfield 192, 3) := by decide +kernel
theorem dX4_meanOfPowers_24 : decode cX4_meanOfPowers 24 = .ok (.iload 4, 2) := by decide +kernel
theorem dX4_meanOfPowers_26 : decode cX4_meanOfPowers 26 = .ok (.aaload, 1) := by decide +kernel
theorem dX4_meanOfPowers_27 : decode cX4_meanOfPowers 27 = .ok (.getfield 158, 3) := by decide +kernel
theorem dX4_meanOfPowers_30 : decode cX4_meanOfPowers 30 = .ok (.iload_n 1, 1) := by decide +kernel
theorem dX4_meanOfPowers_31 : decode cX4_meanOfPowers 31 = .ok (.if_icmp .ne 20, 3) := by decide +kernel
theorem dX4_meanOfPowers_34 : decode cX4_meanOfPowers 34 = .ok (.lload_n 2, 1) := by decide +kernel
theorem dX4_meanOfPowers_35 : decode cX4_meanOfPowers 35 = .ok (.aload_n 0, 1) := by decide +kernel
theorem dX4_meanOfPowers_36 : decode cX4_meanOfPowers 36 = .ok (.aload_n 0, 1) := by decide +kernel
theorem dX4_meanOfPowers_37 : decode cX4_meanOfPowers 37 = .ok (.getfield 35, 3) := by decide +kernel
theorem dX4_meanOfPowers_40 : decode cX4_meanOfPowers 40 = .ok (.getfield 192, 3) := by decide +kernel
theorem dX4_meanOfPowers_43 : decode cX4_meanOfPowers 43 = .ok (.iload 4, 2) := by decide +kernel
theorem dX4_meanOfPowers_45 : decode cX4_meanOfPowers 45 = .ok (.aaload, 1) := by decide +kernel
theorem dX4_meanOfPowers_46 : decode cX4_meanOfPowers 46 = .ok (.invokevirtual 216, 3) := by decide +kernel
theorem dX4_meanOfPowers_49 : decode cX4_meanOfPowers 49 = .ok (.ladd, 1) := by decide +kernel
theorem dX4_meanOfPowers_50 : decode cX4_meanOfPowers 50 = .ok (.lstore_n 2, 1) := by decide +kernel
theorem dX4_meanOfPowers_51 : decode cX4_meanOfPowers 51 = .ok (.iinc 4 1, 3) := by decide +kernel
theorem dX4_meanOfPowers_54 : decode cX4_meanOfPowers 54 = .ok (.goto (-49), 3) := by decide +kernel
theorem dX4_meanOfPowers_57 : decode cX4_meanOfPowers 57 = .ok (.lload_n 2, 1) := by decide +kernel
theorem dX4_meanOfPowers_58 : decode cX4_meanOfPowers 58 = .ok (.aload_n 0, 1) := by decide +kernel
theorem dX4_meanOfPowers_59 : decode cX4_meanOfPowers 59 = .ok (.iload_n 1, 1) := by decide +kernel
theorem dX4_meanOfPowers_60 : decode cX4_meanOfPowers 60 = .ok (.invokevirtual 237, 3) := by decide +kernel
theorem dX4_meanOfPowers_63 : decode cX4_meanOfPowers 63 = .ok (.i2l, 1) := by decide +kernel
theorem dX4_meanOfPowers_64 : decode cX4_meanOfPowers 64 = .ok (.invokestatic 257, 3) := by decide +kernel
theorem dX4_meanOfPowers_67 : decode cX4_meanOfPowers 67 = .ok (.lreturn, 1) := by decide +kernel
theorem dX4_medianArea_0 : decode cX4_medianArea 0 = .ok (.iconst 0, 1) := by decide +kernel
theorem dX4_medianArea_1 : decode cX4_medianArea 1 = .ok (.istore_n 2, 1) := by decide +kernel
theorem dX4_medianArea_2 : decode cX4_medianArea 2 = .ok (.iconst 0, 1) := by decide +kernel
theorem dX4_medianArea_3 : decode cX4_medianArea 3 = .ok (.istore_n 3, 1) := by decide +kernel
theorem dX4_medianArea_4 : decode cX4_medianArea 4 = .ok (.iload_n 3, 1) := by decide +kernel
theorem dX4_medianArea_5 : decode cX4_medianArea 5 = .ok (.aload_n 0, 1) := by decide +kernel
theorem dX4_medianArea_6 : decode cX4_medianArea 6 = .ok (.getfield 35, 3) := by decide +kernel
theorem dX4_medianArea_9 : decode cX4_medianArea 9 = .ok (.getfield 151, 3) := by decide +kernel
theorem dX4_medianArea_12 : decode cX4_medianArea 12 = .ok (.if_icmp .ge 45, 3) := by decide +kernel
theorem dX4_medianArea_15 : decode cX4_medianArea 15 = .ok (.aload_n 0, 1) := by decide +kernel
theorem dX4_medianArea_16 : decode cX4_medianArea 16 = .ok (.getfield 35, 3) := by decide +kernel
theorem dX4_medianArea_19 : decode cX4_medianArea 19 = .ok (.getfield 192, 3) := by decide +kernel
theorem dX4_medianArea_22 : decode cX4_medianArea 22 = .ok (.iload_n 3, 1) := by decide +kernel
theorem dX4_medianArea_23 : decode cX4_medianArea 23 = .ok (.aaload, 1) := by decide +kernel
theorem dX4_medianArea_24 : decode cX4_medianArea 24 = .ok (.getfield 158, 3) := by decide +kernel
theorem dX4_medianArea_27 : decode cX4_medianArea 27 = .ok (.iload_n 1, 1) := by decide +kernel
theorem dX4_medianArea_28 : decode cX4_medianArea 28 = .ok (.if_icmp .ne 23, 3) := by decide +kernel
theorem dX4_medianArea_31 : decode cX4_medianArea 31 = .ok (.aload_n 0, 1) := by decide +kernel
theorem dX4_medianArea_32 : decode cX4_medianArea 32 = .ok (.aload_n 0, 1) := by decide +kernel
theorem dX4_medianArea_33 : decode cX4_medianArea 33 = .ok (.getfield 35, 3) := by decide +kernel
theorem dX4_medianArea_36 : decode cX4_medianArea 36 = .ok (.getfield 192, 3) := by decide +kernel
theorem dX4_medianArea_39 : decode cX4_medianArea 39 = .ok (.iload_n 3, 1) := by decide +kernel
theorem dX4_medianArea_40 : decode cX4_medianArea 40 = .ok (.aaload, 1) := by decide +kernel
theorem dX4_medianArea_41 : decode cX4_medianArea 41 = .ok (.invokevirtual 199, 3) := by decide +kernel
theorem dX4_medianArea_44 : decode cX4_medianArea 44 = .ok (.iload_n 2, 1) := by decide +kernel
theorem dX4_medianArea_45 : decode cX4_medianArea 45 = .ok (.invokevirtual 350, 3) := by decide +kernel
theorem dX4_medianArea_48 : decode cX4_medianArea 48 = .ok (.iinc 2 1, 3) := by decide +kernel
theorem dX4_medianArea_51 : decode cX4_medianArea 51 = .ok (.iinc 3 1, 3) := by decide +kernel
theorem dX4_medianArea_54 : decode cX4_medianArea 54 = .ok (.goto (-50), 3) := by decide +kernel
theorem dX4_medianArea_57 : decode cX4_medianArea 57 = .ok (.iload_n 2, 1) := by decide +kernel
theorem dX4_medianArea_58 : decode cX4_medianArea 58 = .ok (.ifCond .ne 7, 3) := by decide +kernel
theorem dX4_medianArea_61 : decode cX4_medianArea 61 = .ok (.iconst 0, 1) := by decide +kernel
theorem dX4_medianArea_62 : decode cX4_medianArea 62 = .ok (.goto 13, 3) := by decide +kernel
theorem dX4_medianArea_65 : decode cX4_medianArea 65 = .ok (.aload_n 0, 1) := by decide +kernel
theorem dX4_medianArea_66 : decode cX4_medianArea 66 = .ok (.getfield 26, 3) := by decide +kernel
theorem dX4_medianArea_69 : decode cX4_medianArea 69 = .ok (.iload_n 2, 1) := by decide +kernel
theorem dX4_medianArea_70 : decode cX4_medianArea 70 = .ok (.iconst 1, 1) := by decide +kernel
theorem dX4_medianArea_71 : decode cX4_medianArea 71 = .ok (.isub, 1) := by decide +kernel
theorem dX4_medianArea_72 : decode cX4_medianArea 72 = .ok (.iconst 2, 1) := by decide +kernel
theorem dX4_medianArea_73 : decode cX4_medianArea 73 = .ok (.idiv, 1) := by decide +kernel
theorem dX4_medianArea_74 : decode cX4_medianArea 74 = .ok (.iaload, 1) := by decide +kernel
theorem dX4_medianArea_75 : decode cX4_medianArea 75 = .ok (.ireturn, 1) := by decide +kernel
theorem dX4_insertSorted_0 : decode cX4_insertSorted 0 = .ok (.iload_n 2, 1) := by decide +kernel
theorem dX4_insertSorted_1 : decode cX4_insertSorted 1 = .ok (.istore_n 3, 1) := by decide +kernel
theorem dX4_insertSorted_2 : decode cX4_insertSorted 2 = .ok (.iload_n 3, 1) := by decide +kernel
theorem dX4_insertSorted_3 : decode cX4_insertSorted 3 = .ok (.ifCond .le 35, 3) := by decide +kernel
theorem dX4_insertSorted_6 : decode cX4_insertSorted 6 = .ok (.aload_n 0, 1) := by decide +kernel
theorem dX4_insertSorted_7 : decode cX4_insertSorted 7 = .ok (.getfield 26, 3) := by decide +kernel
theorem dX4_insertSorted_10 : decode cX4_insertSorted 10 = .ok (.iload_n 3, 1) := by decide +kernel
theorem dX4_insertSorted_11 : decode cX4_insertSorted 11 = .ok (.iconst 1, 1) := by decide +kernel
theorem dX4_insertSorted_12 : decode cX4_insertSorted 12 = .ok (.isub, 1) := by decide +kernel
theorem dX4_insertSorted_13 : decode cX4_insertSorted 13 = .ok (.iaload, 1) := by decide +kernel
theorem dX4_insertSorted_14 : decode cX4_insertSorted 14 = .ok (.iload_n 1, 1) := by decide +kernel
theorem dX4_insertSorted_15 : decode cX4_insertSorted 15 = .ok (.if_icmp .le 23, 3) := by decide +kernel
theorem dX4_insertSorted_18 : decode cX4_insertSorted 18 = .ok (.aload_n 0, 1) := by decide +kernel
theorem dX4_insertSorted_19 : decode cX4_insertSorted 19 = .ok (.getfield 26, 3) := by decide +kernel
theorem dX4_insertSorted_22 : decode cX4_insertSorted 22 = .ok (.iload_n 3, 1) := by decide +kernel
theorem dX4_insertSorted_23 : decode cX4_insertSorted 23 = .ok (.aload_n 0, 1) := by decide +kernel
theorem dX4_insertSorted_24 : decode cX4_insertSorted 24 = .ok (.getfield 26, 3) := by decide +kernel
theorem dX4_insertSorted_27 : decode cX4_insertSorted 27 = .ok (.iload_n 3, 1) := by decide +kernel
theorem dX4_insertSorted_28 : decode cX4_insertSorted 28 = .ok (.iconst 1, 1) := by decide +kernel
theorem dX4_insertSorted_29 : decode cX4_insertSorted 29 = .ok (.isub, 1) := by decide +kernel
theorem dX4_insertSorted_30 : decode cX4_insertSorted 30 = .ok (.iaload, 1) := by decide +kernel
theorem dX4_insertSorted_31 : decode cX4_insertSorted 31 = .ok (.iastore, 1) := by decide +kernel
theorem dX4_insertSorted_32 : decode cX4_insertSorted 32 = .ok (.iinc 3 (-1), 3) := by decide +kernel
theorem dX4_insertSorted_35 : decode cX4_insertSorted 35 = .ok (.goto (-33), 3) := by decide +kernel
theorem dX4_insertSorted_38 : decode cX4_insertSorted 38 = .ok (.aload_n 0, 1) := by decide +kernel
theorem dX4_insertSorted_39 : decode cX4_insertSorted 39 = .ok (.getfield 26, 3) := by decide +kernel
theorem dX4_insertSorted_42 : decode cX4_insertSorted 42 = .ok (.iload_n 3, 1) := by decide +kernel
theorem dX4_insertSorted_43 : decode cX4_insertSorted 43 = .ok (.iload_n 1, 1) := by decide +kernel
theorem dX4_insertSorted_44 : decode cX4_insertSorted 44 = .ok (.iastore, 1) := by decide +kernel
theorem dX4_insertSorted_45 : decode cX4_insertSorted 45 = .ok (.return_, 1) := by decide +kernel
theorem dX4_isOutlier_0 : decode cX4_isOutlier 0 = .ok (.aload_n 0, 1) := by decide +kernel
theorem dX4_isOutlier_1 : decode cX4_isOutlier 1 = .ok (.invokevirtual 199, 3) := by decide +kernel
theorem dX4_isOutlier_4 : decode cX4_isOutlier 4 = .ok (.iload_n 1, 1) := by decide +kernel
theorem dX4_isOutlier_5 : decode cX4_isOutlier 5 = .ok (.isub, 1) := by decide +kernel
theorem dX4_isOutlier_6 : decode cX4_isOutlier 6 = .ok (.invokestatic 348, 3) := by decide +kernel
theorem dX4_isOutlier_9 : decode cX4_isOutlier 9 = .ok (.bipush 100, 2) := by decide +kernel
theorem dX4_isOutlier_11 : decode cX4_isOutlier 11 = .ok (.imul, 1) := by decide +kernel
theorem dX4_isOutlier_12 : decode cX4_isOutlier 12 = .ok (.iload_n 2, 1) := by decide +kernel
theorem dX4_isOutlier_13 : decode cX4_isOutlier 13 = .ok (.iload_n 1, 1) := by decide +kernel
theorem dX4_isOutlier_14 : decode cX4_isOutlier 14 = .ok (.invokestatic 348, 3) := by decide +kernel
theorem dX4_isOutlier_17 : decode cX4_isOutlier 17 = .ok (.imul, 1) := by decide +kernel
theorem dX4_isOutlier_18 : decode cX4_isOutlier 18 = .ok (.if_icmp .le 7, 3) := by decide +kernel
theorem dX4_isOutlier_21 : decode cX4_isOutlier 21 = .ok (.iconst 1, 1) := by decide +kernel
theorem dX4_isOutlier_22 : decode cX4_isOutlier 22 = .ok (.goto 4, 3) := by decide +kernel
theorem dX4_isOutlier_25 : decode cX4_isOutlier 25 = .ok (.iconst 0, 1) := by decide +kernel
theorem dX4_isOutlier_26 : decode cX4_isOutlier 26 = .ok (.ireturn, 1) := by decide +kernel
end
section
theorem dX5_init_0 : decode cX5_init 0 = .ok (.aload_n 0, 1) := by decide +kernel
theorem dX5_init_1 : decode cX5_init 1 = .ok (.invokespecial 1, 3) := by decide +kernel
theorem dX5_init_4 : decode cX5_init 4 = .ok (.aload_n 0, 1) := by decide +kernel
theorem dX5_init_5 : decode cX5_init 5 = .ok (.sipush 2552, 3) := by decide +kernel
theorem dX5_init_8 : decode cX5_init 8 = .ok (.newarray .int, 2) := by decide +kernel
theorem dX5_init_10 : decode cX5_init 10 = .ok (.putfield 7, 3) := by decide +kernel
theorem dX5_init_13 : decode cX5_init 13 = .ok (.aload_n 0, 1) := by decide +kernel
theorem dX5_init_14 : decode cX5_init 14 = .ok (.getfield 7, 3) := by decide +kernel
theorem dX5_init_17 : decode cX5_init 17 = .ok (.iconst 0, 1) := by decide +kernel
theorem dX5_init_18 : decode cX5_init 18 = .ok (.iconst 2, 1) := by decide +kernel
theorem dX5_init_19 : decode cX5_init 19 = .ok (.iastore, 1) := by decide +kernel
theorem dX5_init_20 : decode cX5_init 20 = .ok (.aload_n 0, 1) := by decide +kernel
theorem dX5_init_21 : decode cX5_init 21 = .ok (.getfield 7, 3) := by decide +kernel
theorem dX5_init_24 : decode cX5_init 24 = .ok (.iconst 1, 1) := by decide +kernel
theorem dX5_init_25 : decode cX5_init 25 = .ok (.sipush 1000, 3) := by decide +kernel
theorem dX5_init_28 : decode cX5_init 28 = .ok (.iastore, 1) := by decide +kernel
theorem dX5_init_29 : decode cX5_init 29 = .ok (.aload_n 0, 1) := by decide +kernel
theorem dX5_init_30 : decode cX5_init 30 = .ok (.getfield 7, 3) := by decide +kernel
theorem dX5_init_33 : decode cX5_init 33 = .ok (.iconst 2, 1) := by decide +kernel
theorem dX5_init_34 : decode cX5_init 34 = .ok (.sipush 900, 3) := by decide +kernel
theorem dX5_init_37 : decode cX5_init 37 = .ok (.iastore, 1) := by decide +kernel
theorem dX5_init_38 : decode cX5_init 38 = .ok (.aload_n 0, 1) := by decide +kernel
theorem dX5_init_39 : decode cX5_init 39 = .ok (.getfield 7, 3) := by decide +kernel
theorem dX5_init_42 : decode cX5_init 42 = .ok (.iconst 3, 1) := by decide +kernel
theorem dX5_init_43 : decode cX5_init 43 = .ok (.bipush 60, 2) := by decide +kernel
theorem dX5_init_45 : decode cX5_init 45 = .ok (.iastore, 1) := by decide +kernel
theorem dX5_init_46 : decode cX5_init 46 = .ok (.aload_n 0, 1) := by decide +kernel
theorem dX5_init_47 : decode cX5_init 47 = .ok (.getfield 7, 3) := by decide +kernel
theorem dX5_init_50 : decode cX5_init 50 = .ok (.iconst 4, 1) := by decide +kernel
theorem dX5_init_51 : decode cX5_init 51 = .ok (.sipush 800, 3) := by decide +kernel
theorem dX5_init_54 : decode cX5_init 54 = .ok (.iastore, 1) := by decide +kernel
theorem dX5_init_55 : decode cX5_init 55 = .ok (.aload_n 0, 1) := by decide +kernel
theorem dX5_init_56 : decode cX5_init 56 = .ok (.getfield 7, 3) := by decide +kernel
theorem dX5_init_59 : decode cX5_init 59 = .ok (.iconst 5, 1) := by decide +kernel
theorem dX5_init_60 : decode cX5_init 60 = .ok (.bipush 50, 2) := by decide +kernel
theorem dX5_init_62 : decode cX5_init 62 = .ok (.iastore, 1) := by decide +kernel
theorem dX5_init_63 : decode cX5_init 63 = .ok (.aload_n 0, 1) := by decide +kernel
theorem dX5_init_64 : decode cX5_init 64 = .ok (.getfield 7, 3) := by decide +kernel
theorem dX5_init_67 : decode cX5_init 67 = .ok (.bipush 6, 2) := by decide +kernel
theorem dX5_init_69 : decode cX5_init 69 = .ok (.bipush 10, 2) := by decide +kernel
theorem dX5_init_71 : decode cX5_init 71 = .ok (.iastore, 1) := by decide +kernel
theorem dX5_init_72 : decode cX5_init 72 = .ok (.aload_n 0, 1) := by decide +kernel
theorem dX5_init_73 : decode cX5_init 73 = .ok (.getfield 7, 3) := by decide +kernel
theorem dX5_init_76 : decode cX5_init 76 = .ok (.bipush 7, 2) := by decide +kernel
theorem dX5_init_78 : decode cX5_init 78 = .ok (.iconst 5, 1) := by decide +kernel
theorem dX5_init_79 : decode cX5_init 79 = .ok (.iastore, 1) := by decide +kernel
theorem dX5_init_80 : decode cX5_init 80 = .ok (.iconst 0, 1) := by decide +kernel
theorem dX5_init_81 : decode cX5_init 81 = .ok (.istore_n 1, 1) := by decide +kernel
theorem dX5_init_82 : decode cX5_init 82 = .ok (.iload_n 1, 1) := by decide +kernel
theorem dX5_init_83 : decode cX5_init 83 = .ok (.iconst 2, 1) := by decide +kernel
theorem dX5_init_84 : decode cX5_init 84 = .ok (.if_icmp .ge 53, 3) := by decide +kernel
theorem dX5_init_87 : decode cX5_init 87 = .ok (.aload_n 0, 1) := by decide +kernel
theorem dX5_init_88 : decode cX5_init 88 = .ok (.getfield 7, 3) := by decide +kernel
theorem dX5_init_91 : decode cX5_init 91 = .ok (.bipush 8, 2) := by decide +kernel
theorem dX5_init_93 : decode cX5_init 93 = .ok (.iconst 4, 1) := by decide +kernel
theorem dX5_init_94 : decode cX5_init 94 = .ok (.iload_n 1, 1) := by decide +kernel
theorem dX5_init_95 : decode cX5_init 95 = .ok (.imul, 1) := by decide +kernel
theorem dX5_init_96 : decode cX5_init 96 = .ok (.iadd, 1) := by decide +kernel
theorem dX5_init_97 : decode cX5_init 97 = .ok (.iconst 1, 1) := by decide +kernel
theorem dX5_init_98 : decode cX5_init 98 = .ok (.iadd, 1) := by decide +kernel
theorem dX5_init_99 : decode cX5_init 99 = .ok (.bipush 8, 2) := by decide +kernel
theorem dX5_init_101 : decode cX5_init 101 = .ok (.iastore, 1) := by decide +kernel
theorem dX5_init_102 : decode cX5_init 102 = .ok (.aload_n 0, 1) := by decide +kernel
theorem dX5_init_103 : decode cX5_init 103 = .ok (.getfield 7, 3) := by decide +kernel
theorem dX5_init_106 : decode cX5_init 106 = .ok (.bipush 8, 2) := by decide +kernel
theorem dX5_init_108 : decode cX5_init 108 = .ok (.iconst 4, 1) := by decide +kernel
theorem dX5_init_109 : decode cX5_init 109 = .ok (.iload_n 1, 1) := by decide +kernel
theorem dX5_init_110 : decode cX5_init 110 = .ok (.imul, 1) := by decide +kernel
theorem dX5_init_111 : decode cX5_init 111 = .ok (.iadd, 1) := by decide +kernel
theorem dX5_init_112 : decode cX5_init 112 = .ok (.iconst 2, 1) := by decide +kernel
theorem dX5_init_113 : decode cX5_init 113 = .ok (.iadd, 1) := by decide +kernel
theorem dX5_init_114 : decode cX5_init 114 = .ok (.bipush 18, 2) := by decide +kernel
theorem dX5_init_116 : decode cX5_init 116 = .ok (.iastore, 1) := by decide +kernel
theorem dX5_init_117 : decode cX5_init 117 = .ok (.aload_n 0, 1) := by decide +kernel
theorem dX5_init_118 : decode cX5_init 118 = .ok (.getfield 7, 3) := by decide +kernel
theorem dX5_init_121 : decode cX5_init 121 = .ok (.bipush 8, 2) := by decide +kernel
theorem dX5_init_123 : decode cX5_init 123 = .ok (.iconst 4, 1) := by decide +kernel
theorem dX5_init_124 : decode cX5_init 124 = .ok (.iload_n 1, 1) := by decide +kernel
theorem dX5_init_125 : decode cX5_init 125 = .ok (.imul, 1) := by decide +kernel
theorem dX5_init_126 : decode cX5_init 126 = .ok (.iadd, 1) := by decide +kernel
theorem dX5_init_127 : decode cX5_init 127 = .ok (.iconst 3, 1) := by decide +kernel
theorem dX5_init_128 : decode cX5_init 128 = .ok (.iadd, 1) := by decide +kernel
theorem dX5_init_129 : decode cX5_init 129 = .ok (.iconst 4, 1) := by decide +kernel
theorem dX5_init_130 : decode cX5_init 130 = .ok (.iastore, 1) := by decide +kernel
theorem dX5_init_131 : decode cX5_init 131 = .ok (.iinc 1 1, 3) := by decide +kernel
theorem dX5_init_134 : decode cX5_init 134 = .ok (.goto (-52), 3) := by decide +kernel
theorem dX5_init_137 : decode cX5_init 137 = .ok (.return_, 1) := by decide +kernel
theorem dX5_in_0 : decode cX5_in 0 = .ok (.iload_n 0, 1) := by decide +kernel
theorem dX5_in_1 : decode cX5_in 1 = .ok (.iload_n 1, 1) := by decide +kernel
theorem dX5_in_2 : decode cX5_in 2 = .ok (.if_icmp .lt 12, 3) := by decide +kernel
theorem dX5_in_5 : decode cX5_in 5 = .ok (.iload_n 0, 1) := by decide +kernel
theorem dX5_in_6 : decode cX5_in 6 = .ok (.iload_n 2, 1) := by decide +kernel
theorem dX5_in_7 : decode cX5_in 7 = .ok (.if_icmp .gt 7, 3) := by decide +kernel
theorem dX5_in_10 : decode cX5_in 10 = .ok (.iconst 1, 1) := by decide +kernel
theorem dX5_in_11 : decode cX5_in 11 = .ok (.goto 4, 3) := by decide +kernel
theorem dX5_in_14 : decode cX5_in 14 = .ok (.iconst 0, 1) := by decide +kernel
theorem dX5_in_15 : decode cX5_in 15 = .ok (.ireturn, 1) := by decide +kernel
theorem dX5_isEnd_0 : decode cX5_isEnd 0 = .ok (.iload_n 0, 1) := by decide +kernel
theorem dX5_isEnd_1 : decode cX5_isEnd 1 = .ok (.iconst 0, 1) := by decide +kernel
theorem dX5_isEnd_2 : decode cX5_isEnd 2 = .ok (.iconst 1, 1) := by decide +kernel
theorem dX5_isEnd_3 : decode cX5_isEnd 3 = .ok (.invokestatic 13, 3) := by decide +kernel
theorem dX5_isEnd_6 : decode cX5_isEnd 6 = .ok (.ireturn, 1) := by decide +kernel
theorem dX5_quotient_0 : decode cX5_quotient 0 = .ok (.lload_n 0, 1) := by decide +kernel
theorem dX5_quotient_1 : decode cX5_quotient 1 = .ok (.lload_n 2, 1) := by decide +kernel
theorem dX5_quotient_2 : decode cX5_quotient 2 = .ok (.ldiv, 1) := by decide +kernel
theorem dX5_quotient_3 : decode cX5_quotient 3 = .ok (.lload_n 0, 1) := by decide +kernel
theorem dX5_quotient_4 : decode cX5_quotient 4 = .ok (.lload_n 2, 1) := by decide +kernel
theorem dX5_quotient_5 : decode cX5_quotient 5 = .ok (.lrem, 1) := by decide +kernel
theorem dX5_quotient_6 : decode cX5_quotient 6 = .ok (.lconst 0, 1) := by decide +kernel
theorem dX5_quotient_7 : decode cX5_quotient 7 = .ok (.lcmp, 1) := by decide +kernel
theorem dX5_quotient_8 : decode cX5_quotient 8 = .ok (.ifCond .ge 7, 3) := by decide +kernel
theorem dX5_quotient_11 : decode cX5_quotient 11 = .ok (.lconst 1, 1) := by decide +kernel
theorem dX5_quotient_12 : decode cX5_quotient 12 = .ok (.goto 4, 3) := by decide +kernel
theorem dX5_quotient_15 : decode cX5_quotient 15 = .ok (.lconst 0, 1) := by decide +kernel
theorem dX5_quotient_16 : decode cX5_quotient 16 = .ok (.lsub, 1) := by decide +kernel
theorem dX5_quotient_17 : decode cX5_quotient 17 = .ok (.lreturn, 1) := by decide +kernel
theorem dX5_size_0 : decode cX5_size 0 = .ok (.iload_n 0, 1) := by decide +kernel
theorem dX5_size_1 : decode cX5_size 1 = .ok (.ifCond .ge 8, 3) := by decide +kernel
theorem dX5_size_4 : decode cX5_size 4 = .ok (.iload_n 0, 1) := by decide +kernel
theorem dX5_size_5 : decode cX5_size 5 = .ok (.ineg, 1) := by decide +kernel
theorem dX5_size_6 : decode cX5_size 6 = .ok (.goto 4, 3) := by decide +kernel
theorem dX5_size_9 : decode cX5_size 9 = .ok (.iload_n 0, 1) := by decide +kernel
theorem dX5_size_10 : decode cX5_size 10 = .ok (.ireturn, 1) := by decide +kernel
theorem dX5_copy_0 : decode cX5_copy 0 = .ok (.iconst 0, 1) := by decide +kernel
theorem dX5_copy_1 : decode cX5_copy 1 = .ok (.istore_n 3, 1) := by decide +kernel
theorem dX5_copy_2 : decode cX5_copy 2 = .ok (.iload_n 3, 1) := by decide +kernel
theorem dX5_copy_3 : decode cX5_copy 3 = .ok (.sipush 502, 3) := by decide +kernel
theorem dX5_copy_6 : decode cX5_copy 6 = .ok (.if_icmp .ge 25, 3) := by decide +kernel
theorem dX5_copy_9 : decode cX5_copy 9 = .ok (.aload_n 0, 1) := by decide +kernel
theorem dX5_copy_10 : decode cX5_copy 10 = .ok (.getfield 7, 3) := by decide +kernel
theorem dX5_copy_13 : decode cX5_copy 13 = .ok (.iload_n 2, 1) := by decide +kernel
theorem dX5_copy_14 : decode cX5_copy 14 = .ok (.iload_n 3, 1) := by decide +kernel
theorem dX5_copy_15 : decode cX5_copy 15 = .ok (.iadd, 1) := by decide +kernel
theorem dX5_copy_16 : decode cX5_copy 16 = .ok (.aload_n 0, 1) := by decide +kernel
theorem dX5_copy_17 : decode cX5_copy 17 = .ok (.getfield 7, 3) := by decide +kernel
theorem dX5_copy_20 : decode cX5_copy 20 = .ok (.iload_n 1, 1) := by decide +kernel
theorem dX5_copy_21 : decode cX5_copy 21 = .ok (.iload_n 3, 1) := by decide +kernel
theorem dX5_copy_22 : decode cX5_copy 22 = .ok (.iadd, 1) := by decide +kernel
theorem dX5_copy_23 : decode cX5_copy 23 = .ok (.iaload, 1) := by decide +kernel
theorem dX5_copy_24 : decode cX5_copy 24 = .ok (.iastore, 1) := by decide +kernel
theorem dX5_copy_25 : decode cX5_copy 25 = .ok (.iinc 3 1, 3) := by decide +kernel
theorem dX5_copy_28 : decode cX5_copy 28 = .ok (.goto (-26), 3) := by decide +kernel
theorem dX5_copy_31 : decode cX5_copy 31 = .ok (.return_, 1) := by decide +kernel
theorem dX5_record_0 : decode cX5_record 0 = .ok (.aload_n 0, 1) := by decide +kernel
theorem dX5_record_1 : decode cX5_record 1 = .ok (.getfield 17, 3) := by decide +kernel
theorem dX5_record_4 : decode cX5_record 4 = .ok (.iconst 4, 1) := by decide +kernel
theorem dX5_record_5 : decode cX5_record 5 = .ok (.if_icmp .ne 44, 3) := by decide +kernel
theorem dX5_record_8 : decode cX5_record 8 = .ok (.iconst 1, 1) := by decide +kernel
theorem dX5_record_9 : decode cX5_record 9 = .ok (.istore_n 1, 1) := by decide +kernel
theorem dX5_record_10 : decode cX5_record 10 = .ok (.iload_n 1, 1) := by decide +kernel
theorem dX5_record_11 : decode cX5_record 11 = .ok (.iconst 4, 1) := by decide +kernel
theorem dX5_record_12 : decode cX5_record 12 = .ok (.if_icmp .ge 27, 3) := by decide +kernel
theorem dX5_record_15 : decode cX5_record 15 = .ok (.aload_n 0, 1) := by decide +kernel
theorem dX5_record_16 : decode cX5_record 16 = .ok (.sipush 502, 3) := by decide +kernel
theorem dX5_record_19 : decode cX5_record 19 = .ok (.sipush 502, 3) := by decide +kernel
theorem dX5_record_22 : decode cX5_record 22 = .ok (.iload_n 1, 1) := by decide +kernel
theorem dX5_record_23 : decode cX5_record 23 = .ok (.imul, 1) := by decide +kernel
theorem dX5_record_24 : decode cX5_record 24 = .ok (.iadd, 1) := by decide +kernel
theorem dX5_record_25 : decode cX5_record 25 = .ok (.sipush 502, 3) := by decide +kernel
theorem dX5_record_28 : decode cX5_record 28 = .ok (.iload_n 1, 1) := by decide +kernel
theorem dX5_record_29 : decode cX5_record 29 = .ok (.imul, 1) := by decide +kernel
theorem dX5_record_30 : decode cX5_record 30 = .ok (.invokevirtual 21, 3) := by decide +kernel
theorem dX5_record_33 : decode cX5_record 33 = .ok (.iinc 1 1, 3) := by decide +kernel
theorem dX5_record_36 : decode cX5_record 36 = .ok (.goto (-26), 3) := by decide +kernel
theorem dX5_record_39 : decode cX5_record 39 = .ok (.aload_n 0, 1) := by decide +kernel
theorem dX5_record_40 : decode cX5_record 40 = .ok (.dup, 1) := by decide +kernel
theorem dX5_record_41 : decode cX5_record 41 = .ok (.getfield 17, 3) := by decide +kernel
theorem dX5_record_44 : decode cX5_record 44 = .ok (.iconst 1, 1) := by decide +kernel
theorem dX5_record_45 : decode cX5_record 45 = .ok (.isub, 1) := by decide +kernel
theorem dX5_record_46 : decode cX5_record 46 = .ok (.putfield 17, 3) := by decide +kernel
theorem dX5_record_49 : decode cX5_record 49 = .ok (.aload_n 0, 1) := by decide +kernel
theorem dX5_record_50 : decode cX5_record 50 = .ok (.iconst 0, 1) := by decide +kernel
theorem dX5_record_51 : decode cX5_record 51 = .ok (.sipush 502, 3) := by decide +kernel
theorem dX5_record_54 : decode cX5_record 54 = .ok (.sipush 502, 3) := by decide +kernel
theorem dX5_record_57 : decode cX5_record 57 = .ok (.aload_n 0, 1) := by decide +kernel
theorem dX5_record_58 : decode cX5_record 58 = .ok (.getfield 17, 3) := by decide +kernel
theorem dX5_record_61 : decode cX5_record 61 = .ok (.imul, 1) := by decide +kernel
theorem dX5_record_62 : decode cX5_record 62 = .ok (.iadd, 1) := by decide +kernel
theorem dX5_record_63 : decode cX5_record 63 = .ok (.invokevirtual 21, 3) := by decide +kernel
theorem dX5_record_66 : decode cX5_record 66 = .ok (.aload_n 0, 1) := by decide +kernel
theorem dX5_record_67 : decode cX5_record 67 = .ok (.dup, 1) := by decide +kernel
theorem dX5_record_68 : decode cX5_record 68 = .ok (.getfield 17, 3) := by decide +kernel
theorem dX5_record_71 : decode cX5_record 71 = .ok (.iconst 1, 1) := by decide +kernel
theorem dX5_record_72 : decode cX5_record 72 = .ok (.iadd, 1) := by decide +kernel
theorem dX5_record_73 : decode cX5_record 73 = .ok (.putfield 17, 3) := by decide +kernel
theorem dX5_record_76 : decode cX5_record 76 = .ok (.return_, 1) := by decide +kernel
theorem dX5_historySize_0 : decode cX5_historySize 0 = .ok (.aload_n 0, 1) := by decide +kernel
theorem dX5_historySize_1 : decode cX5_historySize 1 = .ok (.getfield 17, 3) := by decide +kernel
theorem dX5_historySize_4 : decode cX5_historySize 4 = .ok (.ireturn, 1) := by decide +kernel
theorem dX5_undo_0 : decode cX5_undo 0 = .ok (.aload_n 0, 1) := by decide +kernel
theorem dX5_undo_1 : decode cX5_undo 1 = .ok (.getfield 17, 3) := by decide +kernel
theorem dX5_undo_4 : decode cX5_undo 4 = .ok (.ifCond .ne 6, 3) := by decide +kernel
theorem dX5_undo_7 : decode cX5_undo 7 = .ok (.ldc 25, 2) := by decide +kernel
theorem dX5_undo_9 : decode cX5_undo 9 = .ok (.ireturn, 1) := by decide +kernel
theorem dX5_undo_10 : decode cX5_undo 10 = .ok (.aload_n 0, 1) := by decide +kernel
theorem dX5_undo_11 : decode cX5_undo 11 = .ok (.dup, 1) := by decide +kernel
theorem dX5_undo_12 : decode cX5_undo 12 = .ok (.getfield 17, 3) := by decide +kernel
theorem dX5_undo_15 : decode cX5_undo 15 = .ok (.iconst 1, 1) := by decide +kernel
theorem dX5_undo_16 : decode cX5_undo 16 = .ok (.isub, 1) := by decide +kernel
theorem dX5_undo_17 : decode cX5_undo 17 = .ok (.putfield 17, 3) := by decide +kernel
theorem dX5_undo_20 : decode cX5_undo 20 = .ok (.aload_n 0, 1) := by decide +kernel
theorem dX5_undo_21 : decode cX5_undo 21 = .ok (.sipush 502, 3) := by decide +kernel
theorem dX5_undo_24 : decode cX5_undo 24 = .ok (.sipush 502, 3) := by decide +kernel
theorem dX5_undo_27 : decode cX5_undo 27 = .ok (.aload_n 0, 1) := by decide +kernel
theorem dX5_undo_28 : decode cX5_undo 28 = .ok (.getfield 17, 3) := by decide +kernel
theorem dX5_undo_31 : decode cX5_undo 31 = .ok (.imul, 1) := by decide +kernel
theorem dX5_undo_32 : decode cX5_undo 32 = .ok (.iadd, 1) := by decide +kernel
theorem dX5_undo_33 : decode cX5_undo 33 = .ok (.iconst 0, 1) := by decide +kernel
theorem dX5_undo_34 : decode cX5_undo 34 = .ok (.invokevirtual 21, 3) := by decide +kernel
theorem dX5_undo_37 : decode cX5_undo 37 = .ok (.aload_n 0, 1) := by decide +kernel
theorem dX5_undo_38 : decode cX5_undo 38 = .ok (.getfield 17, 3) := by decide +kernel
theorem dX5_undo_41 : decode cX5_undo 41 = .ok (.ireturn, 1) := by decide +kernel
theorem dX5_put_0 : decode cX5_put 0 = .ok (.iload_n 2, 1) := by decide +kernel
theorem dX5_put_1 : decode cX5_put 1 = .ok (.ifCond .ne 6, 3) := by decide +kernel
theorem dX5_put_4 : decode cX5_put 4 = .ok (.ldc 26, 2) := by decide +kernel
theorem dX5_put_6 : decode cX5_put 6 = .ok (.ireturn, 1) := by decide +kernel
theorem dX5_put_7 : decode cX5_put 7 = .ok (.aload_n 0, 1) := by decide +kernel
theorem dX5_put_8 : decode cX5_put 8 = .ok (.invokevirtual 27, 3) := by decide +kernel
theorem dX5_put_11 : decode cX5_put 11 = .ok (.aload_n 0, 1) := by decide +kernel
theorem dX5_put_12 : decode cX5_put 12 = .ok (.getfield 7, 3) := by decide +kernel
theorem dX5_put_15 : decode cX5_put 15 = .ok (.iload_n 1, 1) := by decide +kernel
theorem dX5_put_16 : decode cX5_put 16 = .ok (.iaload, 1) := by decide +kernel
theorem dX5_put_17 : decode cX5_put 17 = .ok (.istore 4, 2) := by decide +kernel
theorem dX5_put_19 : decode cX5_put 19 = .ok (.aload_n 0, 1) := by decide +kernel
theorem dX5_put_20 : decode cX5_put 20 = .ok (.getfield 7, 3) := by decide +kernel
theorem dX5_put_23 : decode cX5_put 23 = .ok (.iload_n 1, 1) := by decide +kernel
theorem dX5_put_24 : decode cX5_put 24 = .ok (.iload_n 3, 1) := by decide +kernel
theorem dX5_put_25 : decode cX5_put 25 = .ok (.iastore, 1) := by decide +kernel
theorem dX5_put_26 : decode cX5_put 26 = .ok (.iload 4, 2) := by decide +kernel
theorem dX5_put_28 : decode cX5_put 28 = .ok (.ireturn, 1) := by decide +kernel
theorem dX5_setClearance_0 : decode cX5_setClearance 0 = .ok (.aload_n 0, 1) := by decide +kernel
theorem dX5_setClearance_1 : decode cX5_setClearance 1 = .ok (.iconst 0, 1) := by decide +kernel
theorem dX5_setClearance_2 : decode cX5_setClearance 2 = .ok (.iload_n 1, 1) := by decide +kernel
theorem dX5_setClearance_3 : decode cX5_setClearance 3 = .ok (.iconst 1, 1) := by decide +kernel
theorem dX5_setClearance_4 : decode cX5_setClearance 4 = .ok (.bipush 20, 2) := by decide +kernel
theorem dX5_setClearance_6 : decode cX5_setClearance 6 = .ok (.invokestatic 13, 3) := by decide +kernel
theorem dX5_setClearance_9 : decode cX5_setClearance 9 = .ok (.iload_n 1, 1) := by decide +kernel
theorem dX5_setClearance_10 : decode cX5_setClearance 10 = .ok (.invokevirtual 30, 3) := by decide +kernel
theorem dX5_setClearance_13 : decode cX5_setClearance 13 = .ok (.ireturn, 1) := by decide +kernel
theorem dX5_setPistonArea_0 : decode cX5_setPistonArea 0 = .ok (.aload_n 0, 1) := by decide +kernel
theorem dX5_setPistonArea_1 : decode cX5_setPistonArea 1 = .ok (.iload_n 1, 1) := by decide +kernel
theorem dX5_setPistonArea_2 : decode cX5_setPistonArea 2 = .ok (.iconst 1, 1) := by decide +kernel
theorem dX5_setPistonArea_3 : decode cX5_setPistonArea 3 = .ok (.if_icmp .ne 7, 3) := by decide +kernel
theorem dX5_setPistonArea_6 : decode cX5_setPistonArea 6 = .ok (.iconst 2, 1) := by decide +kernel
theorem dX5_setPistonArea_7 : decode cX5_setPistonArea 7 = .ok (.goto 4, 3) := by decide +kernel
theorem dX5_setPistonArea_10 : decode cX5_setPistonArea 10 = .ok (.iconst 1, 1) := by decide +kernel
theorem dX5_setPistonArea_11 : decode cX5_setPistonArea 11 = .ok (.iload_n 1, 1) := by decide +kernel
theorem dX5_setPistonArea_12 : decode cX5_setPistonArea 12 = .ok (.invokestatic 34, 3) := by decide +kernel
theorem dX5_setPistonArea_15 : decode cX5_setPistonArea 15 = .ok (.ifCond .eq 18, 3) := by decide +kernel
theorem dX5_setPistonArea_18 : decode cX5_setPistonArea 18 = .ok (.iload_n 2, 1) := by decide +kernel
theorem dX5_setPistonArea_19 : decode cX5_setPistonArea 19 = .ok (.iconst 1, 1) := by decide +kernel
theorem dX5_setPistonArea_20 : decode cX5_setPistonArea 20 = .ok (.sipush 5000, 3) := by decide +kernel
theorem dX5_setPistonArea_23 : decode cX5_setPistonArea 23 = .ok (.invokestatic 13, 3) := by decide +kernel
theorem dX5_setPistonArea_26 : decode cX5_setPistonArea 26 = .ok (.ifCond .eq 7, 3) := by decide +kernel
theorem dX5_setPistonArea_29 : decode cX5_setPistonArea 29 = .ok (.iconst 1, 1) := by decide +kernel
theorem dX5_setPistonArea_30 : decode cX5_setPistonArea 30 = .ok (.goto 4, 3) := by decide +kernel
theorem dX5_setPistonArea_33 : decode cX5_setPistonArea 33 = .ok (.iconst 0, 1) := by decide +kernel
theorem dX5_setPistonArea_34 : decode cX5_setPistonArea 34 = .ok (.iload_n 2, 1) := by decide +kernel
theorem dX5_setPistonArea_35 : decode cX5_setPistonArea 35 = .ok (.invokevirtual 30, 3) := by decide +kernel
theorem dX5_setPistonArea_38 : decode cX5_setPistonArea 38 = .ok (.ireturn, 1) := by decide +kernel
theorem dX5_setStroke_0 : decode cX5_setStroke 0 = .ok (.aload_n 0, 1) := by decide +kernel
theorem dX5_setStroke_1 : decode cX5_setStroke 1 = .ok (.iconst 3, 1) := by decide +kernel
theorem dX5_setStroke_2 : decode cX5_setStroke 2 = .ok (.iload_n 1, 1) := by decide +kernel
theorem dX5_setStroke_3 : decode cX5_setStroke 3 = .ok (.iconst 1, 1) := by decide +kernel
theorem dX5_setStroke_4 : decode cX5_setStroke 4 = .ok (.sipush 300, 3) := by decide +kernel
theorem dX5_setStroke_7 : decode cX5_setStroke 7 = .ok (.invokestatic 13, 3) := by decide +kernel
theorem dX5_setStroke_10 : decode cX5_setStroke 10 = .ok (.iload_n 1, 1) := by decide +kernel
theorem dX5_setStroke_11 : decode cX5_setStroke 11 = .ok (.invokevirtual 30, 3) := by decide +kernel
theorem dX5_setStroke_14 : decode cX5_setStroke 14 = .ok (.ireturn, 1) := by decide +kernel
theorem dX5_setBoilerPressure_0 : decode cX5_setBoilerPressure 0 = .ok (.aload_n 0, 1) := by decide +kernel
theorem dX5_setBoilerPressure_1 : decode cX5_setBoilerPressure 1 = .ok (.iconst 4, 1) := by decide +kernel
theorem dX5_setBoilerPressure_2 : decode cX5_setBoilerPressure 2 = .ok (.iload_n 1, 1) := by decide +kernel
theorem dX5_setBoilerPressure_3 : decode cX5_setBoilerPressure 3 = .ok (.bipush 100, 2) := by decide +kernel
theorem dX5_setBoilerPressure_5 : decode cX5_setBoilerPressure 5 = .ok (.sipush 2000, 3) := by decide +kernel
theorem dX5_setBoilerPressure_8 : decode cX5_setBoilerPressure 8 = .ok (.invokestatic 13, 3) := by decide +kernel
theorem dX5_setBoilerPressure_11 : decode cX5_setBoilerPressure 11 = .ok (.iload_n 1, 1) := by decide +kernel
theorem dX5_setBoilerPressure_12 : decode cX5_setBoilerPressure 12 = .ok (.invokevirtual 30, 3) := by decide +kernel
theorem dX5_setBoilerPressure_15 : decode cX5_setBoilerPressure 15 = .ok (.ireturn, 1) := by decide +kernel
theorem dX5_setBackPressure_0 : decode cX5_setBackPressure 0 = .ok (.aload_n 0, 1) := by decide +kernel
theorem dX5_setBackPressure_1 : decode cX5_setBackPressure 1 = .ok (.iconst 5, 1) := by decide +kernel
theorem dX5_setBackPressure_2 : decode cX5_setBackPressure 2 = .ok (.iload_n 1, 1) := by decide +kernel
theorem dX5_setBackPressure_3 : decode cX5_setBackPressure 3 = .ok (.bipush 10, 2) := by decide +kernel
theorem dX5_setBackPressure_5 : decode cX5_setBackPressure 5 = .ok (.bipush 99, 2) := by decide +kernel
theorem dX5_setBackPressure_7 : decode cX5_setBackPressure 7 = .ok (.invokestatic 13, 3) := by decide +kernel
theorem dX5_setBackPressure_10 : decode cX5_setBackPressure 10 = .ok (.iload_n 1, 1) := by decide +kernel
theorem dX5_setBackPressure_11 : decode cX5_setBackPressure 11 = .ok (.invokevirtual 30, 3) := by decide +kernel
theorem dX5_setBackPressure_14 : decode cX5_setBackPressure 14 = .ok (.ireturn, 1) := by decide +kernel
theorem dX5_setFinding_0 : decode cX5_setFinding 0 = .ok (.iload_n 1, 1) := by decide +kernel
theorem dX5_setFinding_1 : decode cX5_setFinding 1 = .ok (.iconst 1, 1) := by decide +kernel
theorem dX5_setFinding_2 : decode cX5_setFinding 2 = .ok (.bipush 100, 2) := by decide +kernel
theorem dX5_setFinding_4 : decode cX5_setFinding 4 = .ok (.invokestatic 13, 3) := by decide +kernel
theorem dX5_setFinding_7 : decode cX5_setFinding 7 = .ok (.ifCond .eq 13, 3) := by decide +kernel
theorem dX5_setFinding_10 : decode cX5_setFinding 10 = .ok (.iload_n 2, 1) := by decide +kernel
theorem dX5_setFinding_11 : decode cX5_setFinding 11 = .ok (.iconst 1, 1) := by decide +kernel
theorem dX5_setFinding_12 : decode cX5_setFinding 12 = .ok (.bipush 50, 2) := by decide +kernel
theorem dX5_setFinding_14 : decode cX5_setFinding 14 = .ok (.invokestatic 13, 3) := by decide +kernel
theorem dX5_setFinding_17 : decode cX5_setFinding 17 = .ok (.ifCond .ne 6, 3) := by decide +kernel
theorem dX5_setFinding_20 : decode cX5_setFinding 20 = .ok (.ldc 26, 2) := by decide +kernel
theorem dX5_setFinding_22 : decode cX5_setFinding 22 = .ok (.ireturn, 1) := by decide +kernel
theorem dX5_setFinding_23 : decode cX5_setFinding 23 = .ok (.aload_n 0, 1) := by decide +kernel
theorem dX5_setFinding_24 : decode cX5_setFinding 24 = .ok (.invokevirtual 27, 3) := by decide +kernel
theorem dX5_setFinding_27 : decode cX5_setFinding 27 = .ok (.bipush 100, 2) := by decide +kernel
theorem dX5_setFinding_29 : decode cX5_setFinding 29 = .ok (.aload_n 0, 1) := by decide +kernel
theorem dX5_setFinding_30 : decode cX5_setFinding 30 = .ok (.getfield 7, 3) := by decide +kernel
theorem dX5_setFinding_33 : decode cX5_setFinding 33 = .ok (.bipush 6, 2) := by decide +kernel
theorem dX5_setFinding_35 : decode cX5_setFinding 35 = .ok (.iaload, 1) := by decide +kernel
theorem dX5_setFinding_36 : decode cX5_setFinding 36 = .ok (.imul, 1) := by decide +kernel
theorem dX5_setFinding_37 : decode cX5_setFinding 37 = .ok (.aload_n 0, 1) := by decide +kernel
theorem dX5_setFinding_38 : decode cX5_setFinding 38 = .ok (.getfield 7, 3) := by decide +kernel
theorem dX5_setFinding_41 : decode cX5_setFinding 41 = .ok (.bipush 7, 2) := by decide +kernel
theorem dX5_setFinding_43 : decode cX5_setFinding 43 = .ok (.iaload, 1) := by decide +kernel
theorem dX5_setFinding_44 : decode cX5_setFinding 44 = .ok (.iadd, 1) := by decide +kernel
theorem dX5_setFinding_45 : decode cX5_setFinding 45 = .ok (.istore_n 3, 1) := by decide +kernel
theorem dX5_setFinding_46 : decode cX5_setFinding 46 = .ok (.aload_n 0, 1) := by decide +kernel
theorem dX5_setFinding_47 : decode cX5_setFinding 47 = .ok (.getfield 7, 3) := by decide +kernel
theorem dX5_setFinding_50 : decode cX5_setFinding 50 = .ok (.bipush 6, 2) := by decide +kernel
theorem dX5_setFinding_52 : decode cX5_setFinding 52 = .ok (.iload_n 1, 1) := by decide +kernel
theorem dX5_setFinding_53 : decode cX5_setFinding 53 = .ok (.iastore, 1) := by decide +kernel
theorem dX5_setFinding_54 : decode cX5_setFinding 54 = .ok (.aload_n 0, 1) := by decide +kernel
theorem dX5_setFinding_55 : decode cX5_setFinding 55 = .ok (.getfield 7, 3) := by decide +kernel
theorem dX5_setFinding_58 : decode cX5_setFinding 58 = .ok (.bipush 7, 2) := by decide +kernel
theorem dX5_setFinding_60 : decode cX5_setFinding 60 = .ok (.iload_n 2, 1) := by decide +kernel
theorem dX5_setFinding_61 : decode cX5_setFinding 61 = .ok (.iastore, 1) := by decide +kernel
theorem dX5_setFinding_62 : decode cX5_setFinding 62 = .ok (.iload_n 3, 1) := by decide +kernel
theorem dX5_setFinding_63 : decode cX5_setFinding 63 = .ok (.ireturn, 1) := by decide +kernel
theorem dX5_setValves_0 : decode cX5_setValves 0 = .ok (.iload_n 1, 1) := by decide +kernel
theorem dX5_setValves_1 : decode cX5_setValves 1 = .ok (.invokestatic 34, 3) := by decide +kernel
theorem dX5_setValves_4 : decode cX5_setValves 4 = .ok (.ifCond .eq 48, 3) := by decide +kernel
theorem dX5_setValves_7 : decode cX5_setValves 7 = .ok (.iload_n 2, 1) := by decide +kernel
theorem dX5_setValves_8 : decode cX5_setValves 8 = .ok (.iconst 0, 1) := by decide +kernel
theorem dX5_setValves_9 : decode cX5_setValves 9 = .ok (.iconst 5, 1) := by decide +kernel
theorem dX5_setValves_10 : decode cX5_setValves 10 = .ok (.invokestatic 13, 3) := by decide +kernel
theorem dX5_setValves_13 : decode cX5_setValves 13 = .ok (.ifCond .eq 39, 3) := by decide +kernel
theorem dX5_setValves_16 : decode cX5_setValves 16 = .ok (.iload_n 3, 1) := by decide +kernel
theorem dX5_setValves_17 : decode cX5_setValves 17 = .ok (.iconst 1, 1) := by decide +kernel
theorem dX5_setValves_18 : decode cX5_setValves 18 = .ok (.bipush 18, 2) := by decide +kernel
theorem dX5_setValves_20 : decode cX5_setValves 20 = .ok (.invokestatic 13, 3) := by decide +kernel
theorem dX5_setValves_23 : decode cX5_setValves 23 = .ok (.ifCond .eq 29, 3) := by decide +kernel
theorem dX5_setValves_26 : decode cX5_setValves 26 = .ok (.iload 4, 2) := by decide +kernel
theorem dX5_setValves_28 : decode cX5_setValves 28 = .ok (.iconst 2, 1) := by decide +kernel
theorem dX5_setValves_29 : decode cX5_setValves 29 = .ok (.bipush 20, 2) := by decide +kernel
theorem dX5_setValves_31 : decode cX5_setValves 31 = .ok (.invokestatic 13, 3) := by decide +kernel
theorem dX5_setValves_34 : decode cX5_setValves 34 = .ok (.ifCond .eq 18, 3) := by decide +kernel
theorem dX5_setValves_37 : decode cX5_setValves 37 = .ok (.iload 5, 2) := by decide +kernel
theorem dX5_setValves_39 : decode cX5_setValves 39 = .ok (.iconst 0, 1) := by decide +kernel
theorem dX5_setValves_40 : decode cX5_setValves 40 = .ok (.bipush 19, 2) := by decide +kernel
theorem dX5_setValves_42 : decode cX5_setValves 42 = .ok (.invokestatic 13, 3) := by decide +kernel
theorem dX5_setValves_45 : decode cX5_setValves 45 = .ok (.ifCond .eq 7, 3) := by decide +kernel
theorem dX5_setValves_48 : decode cX5_setValves 48 = .ok (.iconst 1, 1) := by decide +kernel
theorem dX5_setValves_49 : decode cX5_setValves 49 = .ok (.goto 4, 3) := by decide +kernel
theorem dX5_setValves_52 : decode cX5_setValves 52 = .ok (.iconst 0, 1) := by decide +kernel
theorem dX5_setValves_53 : decode cX5_setValves 53 = .ok (.istore 6, 2) := by decide +kernel
theorem dX5_setValves_55 : decode cX5_setValves 55 = .ok (.iload 6, 2) := by decide +kernel
theorem dX5_setValves_57 : decode cX5_setValves 57 = .ok (.ifCond .eq 14, 3) := by decide +kernel
theorem dX5_setValves_60 : decode cX5_setValves 60 = .ok (.iload_n 3, 1) := by decide +kernel
theorem dX5_setValves_61 : decode cX5_setValves 61 = .ok (.iload_n 2, 1) := by decide +kernel
theorem dX5_setValves_62 : decode cX5_setValves 62 = .ok (.if_icmp .le 9, 3) := by decide +kernel
theorem dX5_setValves_65 : decode cX5_setValves 65 = .ok (.iload 4, 2) := by decide +kernel
theorem dX5_setValves_67 : decode cX5_setValves 67 = .ok (.iload_n 3, 1) := by decide +kernel
theorem dX5_setValves_68 : decode cX5_setValves 68 = .ok (.if_icmp .gt 6, 3) := by decide +kernel
theorem dX5_setValves_71 : decode cX5_setValves 71 = .ok (.ldc 26, 2) := by decide +kernel
theorem dX5_setValves_73 : decode cX5_setValves 73 = .ok (.ireturn, 1) := by decide +kernel
theorem dX5_setValves_74 : decode cX5_setValves 74 = .ok (.aload_n 0, 1) := by decide +kernel
theorem dX5_setValves_75 : decode cX5_setValves 75 = .ok (.invokevirtual 27, 3) := by decide +kernel
theorem dX5_setValves_78 : decode cX5_setValves 78 = .ok (.aload_n 0, 1) := by decide +kernel
theorem dX5_setValves_79 : decode cX5_setValves 79 = .ok (.getfield 7, 3) := by decide +kernel
theorem dX5_setValves_82 : decode cX5_setValves 82 = .ok (.bipush 8, 2) := by decide +kernel
theorem dX5_setValves_84 : decode cX5_setValves 84 = .ok (.iconst 4, 1) := by decide +kernel
theorem dX5_setValves_85 : decode cX5_setValves 85 = .ok (.iload_n 1, 1) := by decide +kernel
theorem dX5_setValves_86 : decode cX5_setValves 86 = .ok (.imul, 1) := by decide +kernel
theorem dX5_setValves_87 : decode cX5_setValves 87 = .ok (.iadd, 1) := by decide +kernel
theorem dX5_setValves_88 : decode cX5_setValves 88 = .ok (.iload_n 2, 1) := by decide +kernel
theorem dX5_setValves_89 : decode cX5_setValves 89 = .ok (.iastore, 1) := by decide +kernel
theorem dX5_setValves_90 : decode cX5_setValves 90 = .ok (.aload_n 0, 1) := by decide +kernel
theorem dX5_setValves_91 : decode cX5_setValves 91 = .ok (.getfield 7, 3) := by decide +kernel
theorem dX5_setValves_94 : decode cX5_setValves 94 = .ok (.bipush 8, 2) := by decide +kernel
theorem dX5_setValves_96 : decode cX5_setValves 96 = .ok (.iconst 4, 1) := by decide +kernel
theorem dX5_setValves_97 : decode cX5_setValves 97 = .ok (.iload_n 1, 1) := by decide +kernel
theorem dX5_setValves_98 : decode cX5_setValves 98 = .ok (.imul, 1) := by decide +kernel
theorem dX5_setValves_99 : decode cX5_setValves 99 = .ok (.iadd, 1) := by decide +kernel
theorem dX5_setValves_100 : decode cX5_setValves 100 = .ok (.iconst 1, 1) := by decide +kernel
theorem dX5_setValves_101 : decode cX5_setValves 101 = .ok (.iadd, 1) := by decide +kernel
theorem dX5_setValves_102 : decode cX5_setValves 102 = .ok (.iload_n 3, 1) := by decide +kernel
theorem dX5_setValves_103 : decode cX5_setValves 103 = .ok (.iastore, 1) := by decide +kernel
theorem dX5_setValves_104 : decode cX5_setValves 104 = .ok (.aload_n 0, 1) := by decide +kernel
theorem dX5_setValves_105 : decode cX5_setValves 105 = .ok (.getfield 7, 3) := by decide +kernel
theorem dX5_setValves_108 : decode cX5_setValves 108 = .ok (.bipush 8, 2) := by decide +kernel
theorem dX5_setValves_110 : decode cX5_setValves 110 = .ok (.iconst 4, 1) := by decide +kernel
theorem dX5_setValves_111 : decode cX5_setValves 111 = .ok (.iload_n 1, 1) := by decide +kernel
theorem dX5_setValves_112 : decode cX5_setValves 112 = .ok (.imul, 1) := by decide +kernel
theorem dX5_setValves_113 : decode cX5_setValves 113 = .ok (.iadd, 1) := by decide +kernel
theorem dX5_setValves_114 : decode cX5_setValves 114 = .ok (.iconst 2, 1) := by decide +kernel
theorem dX5_setValves_115 : decode cX5_setValves 115 = .ok (.iadd, 1) := by decide +kernel
theorem dX5_setValves_116 : decode cX5_setValves 116 = .ok (.iload 4, 2) := by decide +kernel
theorem dX5_setValves_118 : decode cX5_setValves 118 = .ok (.iastore, 1) := by decide +kernel
theorem dX5_setValves_119 : decode cX5_setValves 119 = .ok (.aload_n 0, 1) := by decide +kernel
theorem dX5_setValves_120 : decode cX5_setValves 120 = .ok (.getfield 7, 3) := by decide +kernel
theorem dX5_setValves_123 : decode cX5_setValves 123 = .ok (.bipush 8, 2) := by decide +kernel
theorem dX5_setValves_125 : decode cX5_setValves 125 = .ok (.iconst 4, 1) := by decide +kernel
theorem dX5_setValves_126 : decode cX5_setValves 126 = .ok (.iload_n 1, 1) := by decide +kernel
theorem dX5_setValves_127 : decode cX5_setValves 127 = .ok (.imul, 1) := by decide +kernel
theorem dX5_setValves_128 : decode cX5_setValves 128 = .ok (.iadd, 1) := by decide +kernel
theorem dX5_setValves_129 : decode cX5_setValves 129 = .ok (.iconst 3, 1) := by decide +kernel
theorem dX5_setValves_130 : decode cX5_setValves 130 = .ok (.iadd, 1) := by decide +kernel
theorem dX5_setValves_131 : decode cX5_setValves 131 = .ok (.iload 5, 2) := by decide +kernel
theorem dX5_setValves_133 : decode cX5_setValves 133 = .ok (.iastore, 1) := by decide +kernel
theorem dX5_setValves_134 : decode cX5_setValves 134 = .ok (.iconst 0, 1) := by decide +kernel
theorem dX5_setValves_135 : decode cX5_setValves 135 = .ok (.ireturn, 1) := by decide +kernel
theorem dX5_valve_0 : decode cX5_valve 0 = .ok (.iload_n 1, 1) := by decide +kernel
theorem dX5_valve_1 : decode cX5_valve 1 = .ok (.invokestatic 34, 3) := by decide +kernel
theorem dX5_valve_4 : decode cX5_valve 4 = .ok (.ifCond .eq 28, 3) := by decide +kernel
theorem dX5_valve_7 : decode cX5_valve 7 = .ok (.iload_n 2, 1) := by decide +kernel
theorem dX5_valve_8 : decode cX5_valve 8 = .ok (.iconst 0, 1) := by decide +kernel
theorem dX5_valve_9 : decode cX5_valve 9 = .ok (.iconst 3, 1) := by decide +kernel
theorem dX5_valve_10 : decode cX5_valve 10 = .ok (.invokestatic 13, 3) := by decide +kernel
theorem dX5_valve_13 : decode cX5_valve 13 = .ok (.ifCond .eq 19, 3) := by decide +kernel
theorem dX5_valve_16 : decode cX5_valve 16 = .ok (.aload_n 0, 1) := by decide +kernel
theorem dX5_valve_17 : decode cX5_valve 17 = .ok (.getfield 7, 3) := by decide +kernel
theorem dX5_valve_20 : decode cX5_valve 20 = .ok (.bipush 8, 2) := by decide +kernel
theorem dX5_valve_22 : decode cX5_valve 22 = .ok (.iconst 4, 1) := by decide +kernel
theorem dX5_valve_23 : decode cX5_valve 23 = .ok (.iload_n 1, 1) := by decide +kernel
theorem dX5_valve_24 : decode cX5_valve 24 = .ok (.imul, 1) := by decide +kernel
theorem dX5_valve_25 : decode cX5_valve 25 = .ok (.iadd, 1) := by decide +kernel
theorem dX5_valve_26 : decode cX5_valve 26 = .ok (.iload_n 2, 1) := by decide +kernel
theorem dX5_valve_27 : decode cX5_valve 27 = .ok (.iadd, 1) := by decide +kernel
theorem dX5_valve_28 : decode cX5_valve 28 = .ok (.iaload, 1) := by decide +kernel
theorem dX5_valve_29 : decode cX5_valve 29 = .ok (.goto 5, 3) := by decide +kernel
theorem dX5_valve_32 : decode cX5_valve 32 = .ok (.ldc 26, 2) := by decide +kernel
theorem dX5_valve_34 : decode cX5_valve 34 = .ok (.ireturn, 1) := by decide +kernel
theorem dX5_volume_0 : decode cX5_volume 0 = .ok (.aload_n 0, 1) := by decide +kernel
theorem dX5_volume_1 : decode cX5_volume 1 = .ok (.getfield 7, 3) := by decide +kernel
theorem dX5_volume_4 : decode cX5_volume 4 = .ok (.iconst 0, 1) := by decide +kernel
theorem dX5_volume_5 : decode cX5_volume 5 = .ok (.iaload, 1) := by decide +kernel
theorem dX5_volume_6 : decode cX5_volume 6 = .ok (.iload_n 1, 1) := by decide +kernel
theorem dX5_volume_7 : decode cX5_volume 7 = .ok (.iadd, 1) := by decide +kernel
theorem dX5_volume_8 : decode cX5_volume 8 = .ok (.ireturn, 1) := by decide +kernel
theorem dX5_beginCard_0 : decode cX5_beginCard 0 = .ok (.iload_n 1, 1) := by decide +kernel
theorem dX5_beginCard_1 : decode cX5_beginCard 1 = .ok (.invokestatic 34, 3) := by decide +kernel
theorem dX5_beginCard_4 : decode cX5_beginCard 4 = .ok (.ifCond .eq 14, 3) := by decide +kernel
theorem dX5_beginCard_7 : decode cX5_beginCard 7 = .ok (.iload_n 2, 1) := by decide +kernel
theorem dX5_beginCard_8 : decode cX5_beginCard 8 = .ok (.iconst 1, 1) := by decide +kernel
theorem dX5_beginCard_9 : decode cX5_beginCard 9 = .ok (.sipush 600, 3) := by decide +kernel
theorem dX5_beginCard_12 : decode cX5_beginCard 12 = .ok (.invokestatic 13, 3) := by decide +kernel
theorem dX5_beginCard_15 : decode cX5_beginCard 15 = .ok (.ifCond .ne 6, 3) := by decide +kernel
theorem dX5_beginCard_18 : decode cX5_beginCard 18 = .ok (.ldc 26, 2) := by decide +kernel
theorem dX5_beginCard_20 : decode cX5_beginCard 20 = .ok (.ireturn, 1) := by decide +kernel
theorem dX5_beginCard_21 : decode cX5_beginCard 21 = .ok (.aload_n 0, 1) := by decide +kernel
theorem dX5_beginCard_22 : decode cX5_beginCard 22 = .ok (.invokevirtual 27, 3) := by decide +kernel
theorem dX5_beginCard_25 : decode cX5_beginCard 25 = .ok (.aload_n 0, 1) := by decide +kernel
theorem dX5_beginCard_26 : decode cX5_beginCard 26 = .ok (.getfield 7, 3) := by decide +kernel
theorem dX5_beginCard_29 : decode cX5_beginCard 29 = .ok (.bipush 16, 2) := by decide +kernel
theorem dX5_beginCard_31 : decode cX5_beginCard 31 = .ok (.iaload, 1) := by decide +kernel
theorem dX5_beginCard_32 : decode cX5_beginCard 32 = .ok (.istore_n 3, 1) := by decide +kernel
theorem dX5_beginCard_33 : decode cX5_beginCard 33 = .ok (.aload_n 0, 1) := by decide +kernel
theorem dX5_beginCard_34 : decode cX5_beginCard 34 = .ok (.getfield 7, 3) := by decide +kernel
theorem dX5_beginCard_37 : decode cX5_beginCard 37 = .ok (.bipush 16, 2) := by decide +kernel
theorem dX5_beginCard_39 : decode cX5_beginCard 39 = .ok (.iconst 1, 1) := by decide +kernel
theorem dX5_beginCard_40 : decode cX5_beginCard 40 = .ok (.iastore, 1) := by decide +kernel
theorem dX5_beginCard_41 : decode cX5_beginCard 41 = .ok (.aload_n 0, 1) := by decide +kernel
theorem dX5_beginCard_42 : decode cX5_beginCard 42 = .ok (.getfield 7, 3) := by decide +kernel
theorem dX5_beginCard_45 : decode cX5_beginCard 45 = .ok (.bipush 17, 2) := by decide +kernel
theorem dX5_beginCard_47 : decode cX5_beginCard 47 = .ok (.iload_n 1, 1) := by decide +kernel
theorem dX5_beginCard_48 : decode cX5_beginCard 48 = .ok (.iastore, 1) := by decide +kernel
theorem dX5_beginCard_49 : decode cX5_beginCard 49 = .ok (.aload_n 0, 1) := by decide +kernel
theorem dX5_beginCard_50 : decode cX5_beginCard 50 = .ok (.getfield 7, 3) := by decide +kernel
theorem dX5_beginCard_53 : decode cX5_beginCard 53 = .ok (.bipush 18, 2) := by decide +kernel
theorem dX5_beginCard_55 : decode cX5_beginCard 55 = .ok (.iload_n 2, 1) := by decide +kernel
theorem dX5_beginCard_56 : decode cX5_beginCard 56 = .ok (.iastore, 1) := by decide +kernel
theorem dX5_beginCard_57 : decode cX5_beginCard 57 = .ok (.iconst 0, 1) := by decide +kernel
theorem dX5_beginCard_58 : decode cX5_beginCard 58 = .ok (.istore 4, 2) := by decide +kernel
theorem dX5_beginCard_60 : decode cX5_beginCard 60 = .ok (.iload 4, 2) := by decide +kernel
theorem dX5_beginCard_62 : decode cX5_beginCard 62 = .ok (.bipush 42, 2) := by decide +kernel
theorem dX5_beginCard_64 : decode cX5_beginCard 64 = .ok (.if_icmp .ge 20, 3) := by decide +kernel
theorem dX5_beginCard_67 : decode cX5_beginCard 67 = .ok (.aload_n 0, 1) := by decide +kernel
theorem dX5_beginCard_68 : decode cX5_beginCard 68 = .ok (.getfield 7, 3) := by decide +kernel
theorem dX5_beginCard_71 : decode cX5_beginCard 71 = .ok (.bipush 19, 2) := by decide +kernel
theorem dX5_beginCard_73 : decode cX5_beginCard 73 = .ok (.iload 4, 2) := by decide +kernel
theorem dX5_beginCard_75 : decode cX5_beginCard 75 = .ok (.iadd, 1) := by decide +kernel
theorem dX5_beginCard_76 : decode cX5_beginCard 76 = .ok (.iconst 0, 1) := by decide +kernel
theorem dX5_beginCard_77 : decode cX5_beginCard 77 = .ok (.iastore, 1) := by decide +kernel
theorem dX5_beginCard_78 : decode cX5_beginCard 78 = .ok (.iinc 4 1, 3) := by decide +kernel
theorem dX5_beginCard_81 : decode cX5_beginCard 81 = .ok (.goto (-21), 3) := by decide +kernel
theorem dX5_beginCard_84 : decode cX5_beginCard 84 = .ok (.iload_n 3, 1) := by decide +kernel
theorem dX5_beginCard_85 : decode cX5_beginCard 85 = .ok (.ireturn, 1) := by decide +kernel
theorem dX5_points_0 : decode cX5_points 0 = .ok (.iconst 0, 1) := by decide +kernel
theorem dX5_points_1 : decode cX5_points 1 = .ok (.istore_n 2, 1) := by decide +kernel
theorem dX5_points_2 : decode cX5_points 2 = .ok (.iconst 0, 1) := by decide +kernel
theorem dX5_points_3 : decode cX5_points 3 = .ok (.istore_n 3, 1) := by decide +kernel
theorem dX5_points_4 : decode cX5_points 4 = .ok (.iload_n 3, 1) := by decide +kernel
theorem dX5_points_5 : decode cX5_points 5 = .ok (.bipush 21, 2) := by decide +kernel
theorem dX5_points_7 : decode cX5_points 7 = .ok (.if_icmp .ge 34, 3) := by decide +kernel
theorem dX5_points_10 : decode cX5_points 10 = .ok (.iload_n 2, 1) := by decide +kernel
theorem dX5_points_11 : decode cX5_points 11 = .ok (.aload_n 0, 1) := by decide +kernel
theorem dX5_points_12 : decode cX5_points 12 = .ok (.getfield 7, 3) := by decide +kernel
theorem dX5_points_15 : decode cX5_points 15 = .ok (.bipush 19, 2) := by decide +kernel
theorem dX5_points_17 : decode cX5_points 17 = .ok (.bipush 21, 2) := by decide +kernel
theorem dX5_points_19 : decode cX5_points 19 = .ok (.iload_n 1, 1) := by decide +kernel
theorem dX5_points_20 : decode cX5_points 20 = .ok (.imul, 1) := by decide +kernel
theorem dX5_points_21 : decode cX5_points 21 = .ok (.iadd, 1) := by decide +kernel
theorem dX5_points_22 : decode cX5_points 22 = .ok (.iload_n 3, 1) := by decide +kernel
theorem dX5_points_23 : decode cX5_points 23 = .ok (.iadd, 1) := by decide +kernel
theorem dX5_points_24 : decode cX5_points 24 = .ok (.iaload, 1) := by decide +kernel
theorem dX5_points_25 : decode cX5_points 25 = .ok (.ifCond .le 7, 3) := by decide +kernel
theorem dX5_points_28 : decode cX5_points 28 = .ok (.iconst 1, 1) := by decide +kernel
theorem dX5_points_29 : decode cX5_points 29 = .ok (.goto 4, 3) := by decide +kernel
theorem dX5_points_32 : decode cX5_points 32 = .ok (.iconst 0, 1) := by decide +kernel
theorem dX5_points_33 : decode cX5_points 33 = .ok (.iadd, 1) := by decide +kernel
theorem dX5_points_34 : decode cX5_points 34 = .ok (.istore_n 2, 1) := by decide +kernel
theorem dX5_points_35 : decode cX5_points 35 = .ok (.iinc 3 1, 3) := by decide +kernel
theorem dX5_points_38 : decode cX5_points 38 = .ok (.goto (-34), 3) := by decide +kernel
theorem dX5_points_41 : decode cX5_points 41 = .ok (.iload_n 2, 1) := by decide +kernel
theorem dX5_points_42 : decode cX5_points 42 = .ok (.ireturn, 1) := by decide +kernel
theorem dX5_setPoint_0 : decode cX5_setPoint 0 = .ok (.iload_n 1, 1) := by decide +kernel
theorem dX5_setPoint_1 : decode cX5_setPoint 1 = .ok (.iconst 0, 1) := by decide +kernel
theorem dX5_setPoint_2 : decode cX5_setPoint 2 = .ok (.iconst 1, 1) := by decide +kernel
theorem dX5_setPoint_3 : decode cX5_setPoint 3 = .ok (.invokestatic 13, 3) := by decide +kernel
theorem dX5_setPoint_6 : decode cX5_setPoint 6 = .ok (.ifCond .eq 24, 3) := by decide +kernel
theorem dX5_setPoint_9 : decode cX5_setPoint 9 = .ok (.iload_n 2, 1) := by decide +kernel
theorem dX5_setPoint_10 : decode cX5_setPoint 10 = .ok (.iconst 0, 1) := by decide +kernel
theorem dX5_setPoint_11 : decode cX5_setPoint 11 = .ok (.bipush 20, 2) := by decide +kernel
theorem dX5_setPoint_13 : decode cX5_setPoint 13 = .ok (.invokestatic 13, 3) := by decide +kernel
theorem dX5_setPoint_16 : decode cX5_setPoint 16 = .ok (.ifCond .eq 14, 3) := by decide +kernel
theorem dX5_setPoint_19 : decode cX5_setPoint 19 = .ok (.iload_n 3, 1) := by decide +kernel
theorem dX5_setPoint_20 : decode cX5_setPoint 20 = .ok (.iconst 0, 1) := by decide +kernel
theorem dX5_setPoint_21 : decode cX5_setPoint 21 = .ok (.sipush 5000, 3) := by decide +kernel
theorem dX5_setPoint_24 : decode cX5_setPoint 24 = .ok (.invokestatic 13, 3) := by decide +kernel
theorem dX5_setPoint_27 : decode cX5_setPoint 27 = .ok (.ifCond .ne 6, 3) := by decide +kernel
theorem dX5_setPoint_30 : decode cX5_setPoint 30 = .ok (.ldc 26, 2) := by decide +kernel
theorem dX5_setPoint_32 : decode cX5_setPoint 32 = .ok (.ireturn, 1) := by decide +kernel
theorem dX5_setPoint_33 : decode cX5_setPoint 33 = .ok (.aload_n 0, 1) := by decide +kernel
theorem dX5_setPoint_34 : decode cX5_setPoint 34 = .ok (.getfield 7, 3) := by decide +kernel
theorem dX5_setPoint_37 : decode cX5_setPoint 37 = .ok (.bipush 16, 2) := by decide +kernel
theorem dX5_setPoint_39 : decode cX5_setPoint 39 = .ok (.iaload, 1) := by decide +kernel
theorem dX5_setPoint_40 : decode cX5_setPoint 40 = .ok (.ifCond .ne 6, 3) := by decide +kernel
theorem dX5_setPoint_43 : decode cX5_setPoint 43 = .ok (.ldc 25, 2) := by decide +kernel
theorem dX5_setPoint_45 : decode cX5_setPoint 45 = .ok (.ireturn, 1) := by decide +kernel
theorem dX5_setPoint_46 : decode cX5_setPoint 46 = .ok (.aload_n 0, 1) := by decide +kernel
theorem dX5_setPoint_47 : decode cX5_setPoint 47 = .ok (.invokevirtual 27, 3) := by decide +kernel
theorem dX5_setPoint_50 : decode cX5_setPoint 50 = .ok (.aload_n 0, 1) := by decide +kernel
theorem dX5_setPoint_51 : decode cX5_setPoint 51 = .ok (.getfield 7, 3) := by decide +kernel
theorem dX5_setPoint_54 : decode cX5_setPoint 54 = .ok (.bipush 19, 2) := by decide +kernel
theorem dX5_setPoint_56 : decode cX5_setPoint 56 = .ok (.bipush 21, 2) := by decide +kernel
theorem dX5_setPoint_58 : decode cX5_setPoint 58 = .ok (.iload_n 1, 1) := by decide +kernel
theorem dX5_setPoint_59 : decode cX5_setPoint 59 = .ok (.imul, 1) := by decide +kernel
theorem dX5_setPoint_60 : decode cX5_setPoint 60 = .ok (.iadd, 1) := by decide +kernel
theorem dX5_setPoint_61 : decode cX5_setPoint 61 = .ok (.iload_n 2, 1) := by decide +kernel
theorem dX5_setPoint_62 : decode cX5_setPoint 62 = .ok (.iadd, 1) := by decide +kernel
theorem dX5_setPoint_63 : decode cX5_setPoint 63 = .ok (.iload_n 3, 1) := by decide +kernel
theorem dX5_setPoint_64 : decode cX5_setPoint 64 = .ok (.iconst 1, 1) := by decide +kernel
theorem dX5_setPoint_65 : decode cX5_setPoint 65 = .ok (.iadd, 1) := by decide +kernel
theorem dX5_setPoint_66 : decode cX5_setPoint 66 = .ok (.iastore, 1) := by decide +kernel
theorem dX5_setPoint_67 : decode cX5_setPoint 67 = .ok (.aload_n 0, 1) := by decide +kernel
theorem dX5_setPoint_68 : decode cX5_setPoint 68 = .ok (.iload_n 1, 1) := by decide +kernel
theorem dX5_setPoint_69 : decode cX5_setPoint 69 = .ok (.invokevirtual 38, 3) := by decide +kernel
theorem dX5_setPoint_72 : decode cX5_setPoint 72 = .ok (.ireturn, 1) := by decide +kernel
theorem dX5_drafted_0 : decode cX5_drafted 0 = .ok (.bipush 19, 2) := by decide +kernel
theorem dX5_drafted_2 : decode cX5_drafted 2 = .ok (.bipush 21, 2) := by decide +kernel
theorem dX5_drafted_4 : decode cX5_drafted 4 = .ok (.iload_n 1, 1) := by decide +kernel
theorem dX5_drafted_5 : decode cX5_drafted 5 = .ok (.imul, 1) := by decide +kernel
theorem dX5_drafted_6 : decode cX5_drafted 6 = .ok (.iadd, 1) := by decide +kernel
theorem dX5_drafted_7 : decode cX5_drafted 7 = .ok (.istore_n 3, 1) := by decide +kernel
theorem dX5_drafted_8 : decode cX5_drafted 8 = .ok (.iload_n 2, 1) := by decide +kernel
theorem dX5_drafted_9 : decode cX5_drafted 9 = .ok (.istore 4, 2) := by decide +kernel
theorem dX5_drafted_11 : decode cX5_drafted 11 = .ok (.iload 4, 2) := by decide +kernel
theorem dX5_drafted_13 : decode cX5_drafted 13 = .ok (.ifCond .lt 21, 3) := by decide +kernel
theorem dX5_drafted_16 : decode cX5_drafted 16 = .ok (.aload_n 0, 1) := by decide +kernel
theorem dX5_drafted_17 : decode cX5_drafted 17 = .ok (.getfield 7, 3) := by decide +kernel
theorem dX5_drafted_20 : decode cX5_drafted 20 = .ok (.iload_n 3, 1) := by decide +kernel
theorem dX5_drafted_21 : decode cX5_drafted 21 = .ok (.iload 4, 2) := by decide +kernel
theorem dX5_drafted_23 : decode cX5_drafted 23 = .ok (.iadd, 1) := by decide +kernel
theorem dX5_drafted_24 : decode cX5_drafted 24 = .ok (.iaload, 1) := by decide +kernel
theorem dX5_drafted_25 : decode cX5_drafted 25 = .ok (.ifCond .ne 9, 3) := by decide +kernel
theorem dX5_drafted_28 : decode cX5_drafted 28 = .ok (.iinc 4 (-1), 3) := by decide +kernel
theorem dX5_drafted_31 : decode cX5_drafted 31 = .ok (.goto (-20), 3) := by decide +kernel
theorem dX5_drafted_34 : decode cX5_drafted 34 = .ok (.iload_n 2, 1) := by decide +kernel
theorem dX5_drafted_35 : decode cX5_drafted 35 = .ok (.istore 5, 2) := by decide +kernel
theorem dX5_drafted_37 : decode cX5_drafted 37 = .ok (.iload 5, 2) := by decide +kernel
theorem dX5_drafted_39 : decode cX5_drafted 39 = .ok (.bipush 21, 2) := by decide +kernel
theorem dX5_drafted_41 : decode cX5_drafted 41 = .ok (.if_icmp .ge 21, 3) := by decide +kernel
theorem dX5_drafted_44 : decode cX5_drafted 44 = .ok (.aload_n 0, 1) := by decide +kernel
theorem dX5_drafted_45 : decode cX5_drafted 45 = .ok (.getfield 7, 3) := by decide +kernel
theorem dX5_drafted_48 : decode cX5_drafted 48 = .ok (.iload_n 3, 1) := by decide +kernel
theorem dX5_drafted_49 : decode cX5_drafted 49 = .ok (.iload 5, 2) := by decide +kernel
theorem dX5_drafted_51 : decode cX5_drafted 51 = .ok (.iadd, 1) := by decide +kernel
theorem dX5_drafted_52 : decode cX5_drafted 52 = .ok (.iaload, 1) := by decide +kernel
theorem dX5_drafted_53 : decode cX5_drafted 53 = .ok (.ifCond .ne 9, 3) := by decide +kernel
theorem dX5_drafted_56 : decode cX5_drafted 56 = .ok (.iinc 5 1, 3) := by decide +kernel
theorem dX5_drafted_59 : decode cX5_drafted 59 = .ok (.goto (-22), 3) := by decide +kernel
theorem dX5_drafted_62 : decode cX5_drafted 62 = .ok (.iload 4, 2) := by decide +kernel
theorem dX5_drafted_64 : decode cX5_drafted 64 = .ok (.ifCond .lt 17, 3) := by decide +kernel
theorem dX5_drafted_67 : decode cX5_drafted 67 = .ok (.iload 5, 2) := by decide +kernel
theorem dX5_drafted_69 : decode cX5_drafted 69 = .ok (.bipush 20, 2) := by decide +kernel
theorem dX5_drafted_71 : decode cX5_drafted 71 = .ok (.if_icmp .gt 10, 3) := by decide +kernel
theorem dX5_drafted_74 : decode cX5_drafted 74 = .ok (.iload 4, 2) := by decide +kernel
theorem dX5_drafted_76 : decode cX5_drafted 76 = .ok (.iload 5, 2) := by decide +kernel
theorem dX5_drafted_78 : decode cX5_drafted 78 = .ok (.if_icmp .ne 25, 3) := by decide +kernel
theorem dX5_drafted_81 : decode cX5_drafted 81 = .ok (.aload_n 0, 1) := by decide +kernel
theorem dX5_drafted_82 : decode cX5_drafted 82 = .ok (.getfield 7, 3) := by decide +kernel
theorem dX5_drafted_85 : decode cX5_drafted 85 = .ok (.iload_n 3, 1) := by decide +kernel
theorem dX5_drafted_86 : decode cX5_drafted 86 = .ok (.iload 4, 2) := by decide +kernel
theorem dX5_drafted_88 : decode cX5_drafted 88 = .ok (.ifCond .ge 8, 3) := by decide +kernel
theorem dX5_drafted_91 : decode cX5_drafted 91 = .ok (.iload 5, 2) := by decide +kernel
theorem dX5_drafted_93 : decode cX5_drafted 93 = .ok (.goto 5, 3) := by decide +kernel
theorem dX5_drafted_96 : decode cX5_drafted 96 = .ok (.iload 4, 2) := by decide +kernel
theorem dX5_drafted_98 : decode cX5_drafted 98 = .ok (.iadd, 1) := by decide +kernel
theorem dX5_drafted_99 : decode cX5_drafted 99 = .ok (.iaload, 1) := by decide +kernel
theorem dX5_drafted_100 : decode cX5_drafted 100 = .ok (.iconst 1, 1) := by decide +kernel
theorem dX5_drafted_101 : decode cX5_drafted 101 = .ok (.isub, 1) := by decide +kernel
theorem dX5_drafted_102 : decode cX5_drafted 102 = .ok (.ireturn, 1) := by decide +kernel
theorem dX5_drafted_103 : decode cX5_drafted 103 = .ok (.aload_n 0, 1) := by decide +kernel
theorem dX5_drafted_104 : decode cX5_drafted 104 = .ok (.getfield 7, 3) := by decide +kernel
theorem dX5_drafted_107 : decode cX5_drafted 107 = .ok (.iload_n 3, 1) := by decide +kernel
theorem dX5_drafted_108 : decode cX5_drafted 108 = .ok (.iload 4, 2) := by decide +kernel
theorem dX5_drafted_110 : decode cX5_drafted 110 = .ok (.iadd, 1) := by decide +kernel
theorem dX5_drafted_111 : decode cX5_drafted 111 = .ok (.iaload, 1) := by decide +kernel
theorem dX5_drafted_112 : decode cX5_drafted 112 = .ok (.istore 6, 2) := by decide +kernel
theorem dX5_drafted_114 : decode cX5_drafted 114 = .ok (.iload 6, 2) := by decide +kernel
theorem dX5_drafted_116 : decode cX5_drafted 116 = .ok (.iconst 1, 1) := by decide +kernel
theorem dX5_drafted_117 : decode cX5_drafted 117 = .ok (.isub, 1) := by decide +kernel
theorem dX5_drafted_118 : decode cX5_drafted 118 = .ok (.aload_n 0, 1) := by decide +kernel
theorem dX5_drafted_119 : decode cX5_drafted 119 = .ok (.getfield 7, 3) := by decide +kernel
theorem dX5_drafted_122 : decode cX5_drafted 122 = .ok (.iload_n 3, 1) := by decide +kernel
theorem dX5_drafted_123 : decode cX5_drafted 123 = .ok (.iload 5, 2) := by decide +kernel
theorem dX5_drafted_125 : decode cX5_drafted 125 = .ok (.iadd, 1) := by decide +kernel
theorem dX5_drafted_126 : decode cX5_drafted 126 = .ok (.iaload, 1) := by decide +kernel
theorem dX5_drafted_127 : decode cX5_drafted 127 = .ok (.iload 6, 2) := by decide +kernel
theorem dX5_drafted_129 : decode cX5_drafted 129 = .ok (.isub, 1) := by decide +kernel
theorem dX5_drafted_130 : decode cX5_drafted 130 = .ok (.i2l, 1) := by decide +kernel
theorem dX5_drafted_131 : decode cX5_drafted 131 = .ok (.iload_n 2, 1) := by decide +kernel
theorem dX5_drafted_132 : decode cX5_drafted 132 = .ok (.iload 4, 2) := by decide +kernel
theorem dX5_drafted_134 : decode cX5_drafted 134 = .ok (.isub, 1) := by decide +kernel
theorem dX5_drafted_135 : decode cX5_drafted 135 = .ok (.i2l, 1) := by decide +kernel
theorem dX5_drafted_136 : decode cX5_drafted 136 = .ok (.lmul, 1) := by decide +kernel
theorem dX5_drafted_137 : decode cX5_drafted 137 = .ok (.iload 5, 2) := by decide +kernel
theorem dX5_drafted_139 : decode cX5_drafted 139 = .ok (.iload 4, 2) := by decide +kernel
theorem dX5_drafted_141 : decode cX5_drafted 141 = .ok (.isub, 1) := by decide +kernel
theorem dX5_drafted_142 : decode cX5_drafted 142 = .ok (.i2l, 1) := by decide +kernel
theorem dX5_drafted_143 : decode cX5_drafted 143 = .ok (.invokestatic 42, 3) := by decide +kernel
theorem dX5_drafted_146 : decode cX5_drafted 146 = .ok (.l2i, 1) := by decide +kernel
theorem dX5_drafted_147 : decode cX5_drafted 147 = .ok (.iadd, 1) := by decide +kernel
theorem dX5_drafted_148 : decode cX5_drafted 148 = .ok (.ireturn, 1) := by decide +kernel
theorem dX5_isCard_0 : decode cX5_isCard 0 = .ok (.iload_n 1, 1) := by decide +kernel
theorem dX5_isCard_1 : decode cX5_isCard 1 = .ok (.iconst 0, 1) := by decide +kernel
theorem dX5_isCard_2 : decode cX5_isCard 2 = .ok (.aload_n 0, 1) := by decide +kernel
theorem dX5_isCard_3 : decode cX5_isCard 3 = .ok (.getfield 7, 3) := by decide +kernel
theorem dX5_isCard_6 : decode cX5_isCard 6 = .ok (.bipush 61, 2) := by decide +kernel
theorem dX5_isCard_8 : decode cX5_isCard 8 = .ok (.iaload, 1) := by decide +kernel
theorem dX5_isCard_9 : decode cX5_isCard 9 = .ok (.iconst 1, 1) := by decide +kernel
theorem dX5_isCard_10 : decode cX5_isCard 10 = .ok (.isub, 1) := by decide +kernel
theorem dX5_isCard_11 : decode cX5_isCard 11 = .ok (.invokestatic 13, 3) := by decide +kernel
theorem dX5_isCard_14 : decode cX5_isCard 14 = .ok (.ireturn, 1) := by decide +kernel
theorem dX5_endAt_0 : decode cX5_endAt 0 = .ok (.bipush 62, 2) := by decide +kernel
theorem dX5_endAt_2 : decode cX5_endAt 2 = .ok (.bipush 44, 2) := by decide +kernel
theorem dX5_endAt_4 : decode cX5_endAt 4 = .ok (.iload_n 0, 1) := by decide +kernel
theorem dX5_endAt_5 : decode cX5_endAt 5 = .ok (.imul, 1) := by decide +kernel
theorem dX5_endAt_6 : decode cX5_endAt 6 = .ok (.iadd, 1) := by decide +kernel
theorem dX5_endAt_7 : decode cX5_endAt 7 = .ok (.ireturn, 1) := by decide +kernel
theorem dX5_at_0 : decode cX5_at 0 = .ok (.bipush 62, 2) := by decide +kernel
theorem dX5_at_2 : decode cX5_at 2 = .ok (.bipush 44, 2) := by decide +kernel
theorem dX5_at_4 : decode cX5_at 4 = .ok (.iload_n 0, 1) := by decide +kernel
theorem dX5_at_5 : decode cX5_at 5 = .ok (.imul, 1) := by decide +kernel
theorem dX5_at_6 : decode cX5_at 6 = .ok (.iadd, 1) := by decide +kernel
theorem dX5_at_7 : decode cX5_at 7 = .ok (.iconst 2, 1) := by decide +kernel
theorem dX5_at_8 : decode cX5_at 8 = .ok (.iadd, 1) := by decide +kernel
theorem dX5_at_9 : decode cX5_at 9 = .ok (.ireturn, 1) := by decide +kernel
theorem dX5_addCard_0 : decode cX5_addCard 0 = .ok (.aload_n 0, 1) := by decide +kernel
theorem dX5_addCard_1 : decode cX5_addCard 1 = .ok (.getfield 7, 3) := by decide +kernel
theorem dX5_addCard_4 : decode cX5_addCard 4 = .ok (.bipush 61, 2) := by decide +kernel
theorem dX5_addCard_6 : decode cX5_addCard 6 = .ok (.iaload, 1) := by decide +kernel
theorem dX5_addCard_7 : decode cX5_addCard 7 = .ok (.istore_n 3, 1) := by decide +kernel
theorem dX5_addCard_8 : decode cX5_addCard 8 = .ok (.aload_n 0, 1) := by decide +kernel
theorem dX5_addCard_9 : decode cX5_addCard 9 = .ok (.getfield 7, 3) := by decide +kernel
theorem dX5_addCard_12 : decode cX5_addCard 12 = .ok (.iload_n 3, 1) := by decide +kernel
theorem dX5_addCard_13 : decode cX5_addCard 13 = .ok (.invokestatic 46, 3) := by decide +kernel
theorem dX5_addCard_16 : decode cX5_addCard 16 = .ok (.iload_n 1, 1) := by decide +kernel
theorem dX5_addCard_17 : decode cX5_addCard 17 = .ok (.iastore, 1) := by decide +kernel
theorem dX5_addCard_18 : decode cX5_addCard 18 = .ok (.aload_n 0, 1) := by decide +kernel
theorem dX5_addCard_19 : decode cX5_addCard 19 = .ok (.getfield 7, 3) := by decide +kernel
theorem dX5_addCard_22 : decode cX5_addCard 22 = .ok (.iload_n 3, 1) := by decide +kernel
theorem dX5_addCard_23 : decode cX5_addCard 23 = .ok (.invokestatic 46, 3) := by decide +kernel
theorem dX5_addCard_26 : decode cX5_addCard 26 = .ok (.iconst 1, 1) := by decide +kernel
theorem dX5_addCard_27 : decode cX5_addCard 27 = .ok (.iadd, 1) := by decide +kernel
theorem dX5_addCard_28 : decode cX5_addCard 28 = .ok (.iload_n 2, 1) := by decide +kernel
theorem dX5_addCard_29 : decode cX5_addCard 29 = .ok (.iastore, 1) := by decide +kernel
theorem dX5_addCard_30 : decode cX5_addCard 30 = .ok (.iconst 0, 1) := by decide +kernel
theorem dX5_addCard_31 : decode cX5_addCard 31 = .ok (.istore 4, 2) := by decide +kernel
theorem dX5_addCard_33 : decode cX5_addCard 33 = .ok (.iload 4, 2) := by decide +kernel
theorem dX5_addCard_35 : decode cX5_addCard 35 = .ok (.bipush 42, 2) := by decide +kernel
theorem dX5_addCard_37 : decode cX5_addCard 37 = .ok (.if_icmp .ge 32, 3) := by decide +kernel
theorem dX5_addCard_40 : decode cX5_addCard 40 = .ok (.aload_n 0, 1) := by decide +kernel
theorem dX5_addCard_41 : decode cX5_addCard 41 = .ok (.getfield 7, 3) := by decide +kernel
theorem dX5_addCard_44 : decode cX5_addCard 44 = .ok (.iload_n 3, 1) := by decide +kernel
theorem dX5_addCard_45 : decode cX5_addCard 45 = .ok (.invokestatic 49, 3) := by decide +kernel
theorem dX5_addCard_48 : decode cX5_addCard 48 = .ok (.iload 4, 2) := by decide +kernel
theorem dX5_addCard_50 : decode cX5_addCard 50 = .ok (.iadd, 1) := by decide +kernel
theorem dX5_addCard_51 : decode cX5_addCard 51 = .ok (.aload_n 0, 1) := by decide +kernel
theorem dX5_addCard_52 : decode cX5_addCard 52 = .ok (.getfield 7, 3) := by decide +kernel
theorem dX5_addCard_55 : decode cX5_addCard 55 = .ok (.sipush 2510, 3) := by decide +kernel
theorem dX5_addCard_58 : decode cX5_addCard 58 = .ok (.iload 4, 2) := by decide +kernel
theorem dX5_addCard_60 : decode cX5_addCard 60 = .ok (.iadd, 1) := by decide +kernel
theorem dX5_addCard_61 : decode cX5_addCard 61 = .ok (.iaload, 1) := by decide +kernel
theorem dX5_addCard_62 : decode cX5_addCard 62 = .ok (.iastore, 1) := by decide +kernel
theorem dX5_addCard_63 : decode cX5_addCard 63 = .ok (.iinc 4 1, 3) := by decide +kernel
theorem dX5_addCard_66 : decode cX5_addCard 66 = .ok (.goto (-33), 3) := by decide +kernel
theorem dX5_addCard_69 : decode cX5_addCard 69 = .ok (.aload_n 0, 1) := by decide +kernel
theorem dX5_addCard_70 : decode cX5_addCard 70 = .ok (.getfield 7, 3) := by decide +kernel
theorem dX5_addCard_73 : decode cX5_addCard 73 = .ok (.bipush 61, 2) := by decide +kernel
theorem dX5_addCard_75 : decode cX5_addCard 75 = .ok (.dup2, 1) := by decide +kernel
theorem dX5_addCard_76 : decode cX5_addCard 76 = .ok (.iaload, 1) := by decide +kernel
theorem dX5_addCard_77 : decode cX5_addCard 77 = .ok (.iconst 1, 1) := by decide +kernel
theorem dX5_addCard_78 : decode cX5_addCard 78 = .ok (.iadd, 1) := by decide +kernel
theorem dX5_addCard_79 : decode cX5_addCard 79 = .ok (.iastore, 1) := by decide +kernel
theorem dX5_addCard_80 : decode cX5_addCard 80 = .ok (.iload_n 3, 1) := by decide +kernel
theorem dX5_addCard_81 : decode cX5_addCard 81 = .ok (.ireturn, 1) := by decide +kernel
theorem dX5_finishCard_0 : decode cX5_finishCard 0 = .ok (.aload_n 0, 1) := by decide +kernel
theorem dX5_finishCard_1 : decode cX5_finishCard 1 = .ok (.getfield 7, 3) := by decide +kernel
theorem dX5_finishCard_4 : decode cX5_finishCard 4 = .ok (.bipush 16, 2) := by decide +kernel
theorem dX5_finishCard_6 : decode cX5_finishCard 6 = .ok (.iaload, 1) := by decide +kernel
theorem dX5_finishCard_7 : decode cX5_finishCard 7 = .ok (.ifCond .eq 19, 3) := by decide +kernel
theorem dX5_finishCard_10 : decode cX5_finishCard 10 = .ok (.aload_n 0, 1) := by decide +kernel
theorem dX5_finishCard_11 : decode cX5_finishCard 11 = .ok (.iconst 0, 1) := by decide +kernel
theorem dX5_finishCard_12 : decode cX5_finishCard 12 = .ok (.invokevirtual 38, 3) := by decide +kernel
theorem dX5_finishCard_15 : decode cX5_finishCard 15 = .ok (.ifCond .eq 11, 3) := by decide +kernel
theorem dX5_finishCard_18 : decode cX5_finishCard 18 = .ok (.aload_n 0, 1) := by decide +kernel
theorem dX5_finishCard_19 : decode cX5_finishCard 19 = .ok (.iconst 1, 1) := by decide +kernel
theorem dX5_finishCard_20 : decode cX5_finishCard 20 = .ok (.invokevirtual 38, 3) := by decide +kernel
theorem dX5_finishCard_23 : decode cX5_finishCard 23 = .ok (.ifCond .ne 6, 3) := by decide +kernel
theorem dX5_finishCard_26 : decode cX5_finishCard 26 = .ok (.ldc 25, 2) := by decide +kernel
theorem dX5_finishCard_28 : decode cX5_finishCard 28 = .ok (.ireturn, 1) := by decide +kernel
theorem dX5_finishCard_29 : decode cX5_finishCard 29 = .ok (.aload_n 0, 1) := by decide +kernel
theorem dX5_finishCard_30 : decode cX5_finishCard 30 = .ok (.getfield 7, 3) := by decide +kernel
theorem dX5_finishCard_33 : decode cX5_finishCard 33 = .ok (.bipush 61, 2) := by decide +kernel
theorem dX5_finishCard_35 : decode cX5_finishCard 35 = .ok (.iaload, 1) := by decide +kernel
theorem dX5_finishCard_36 : decode cX5_finishCard 36 = .ok (.bipush 10, 2) := by decide +kernel
theorem dX5_finishCard_38 : decode cX5_finishCard 38 = .ok (.if_icmp .ne 6, 3) := by decide +kernel
theorem dX5_finishCard_41 : decode cX5_finishCard 41 = .ok (.ldc 52, 2) := by decide +kernel
theorem dX5_finishCard_43 : decode cX5_finishCard 43 = .ok (.ireturn, 1) := by decide +kernel
theorem dX5_finishCard_44 : decode cX5_finishCard 44 = .ok (.aload_n 0, 1) := by decide +kernel
theorem dX5_finishCard_45 : decode cX5_finishCard 45 = .ok (.invokevirtual 27, 3) := by decide +kernel
theorem dX5_finishCard_48 : decode cX5_finishCard 48 = .ok (.iconst 0, 1) := by decide +kernel
theorem dX5_finishCard_49 : decode cX5_finishCard 49 = .ok (.istore_n 1, 1) := by decide +kernel
theorem dX5_finishCard_50 : decode cX5_finishCard 50 = .ok (.iload_n 1, 1) := by decide +kernel
theorem dX5_finishCard_51 : decode cX5_finishCard 51 = .ok (.bipush 42, 2) := by decide +kernel
theorem dX5_finishCard_53 : decode cX5_finishCard 53 = .ok (.if_icmp .ge 31, 3) := by decide +kernel
theorem dX5_finishCard_56 : decode cX5_finishCard 56 = .ok (.aload_n 0, 1) := by decide +kernel
theorem dX5_finishCard_57 : decode cX5_finishCard 57 = .ok (.getfield 7, 3) := by decide +kernel
theorem dX5_finishCard_60 : decode cX5_finishCard 60 = .ok (.sipush 2510, 3) := by decide +kernel
theorem dX5_finishCard_63 : decode cX5_finishCard 63 = .ok (.iload_n 1, 1) := by decide +kernel
theorem dX5_finishCard_64 : decode cX5_finishCard 64 = .ok (.iadd, 1) := by decide +kernel
theorem dX5_finishCard_65 : decode cX5_finishCard 65 = .ok (.aload_n 0, 1) := by decide +kernel
theorem dX5_finishCard_66 : decode cX5_finishCard 66 = .ok (.iload_n 1, 1) := by decide +kernel
theorem dX5_finishCard_67 : decode cX5_finishCard 67 = .ok (.bipush 21, 2) := by decide +kernel
theorem dX5_finishCard_69 : decode cX5_finishCard 69 = .ok (.idiv, 1) := by decide +kernel
theorem dX5_finishCard_70 : decode cX5_finishCard 70 = .ok (.iload_n 1, 1) := by decide +kernel
theorem dX5_finishCard_71 : decode cX5_finishCard 71 = .ok (.bipush 21, 2) := by decide +kernel
theorem dX5_finishCard_73 : decode cX5_finishCard 73 = .ok (.irem, 1) := by decide +kernel
theorem dX5_finishCard_74 : decode cX5_finishCard 74 = .ok (.invokevirtual 53, 3) := by decide +kernel
theorem dX5_finishCard_77 : decode cX5_finishCard 77 = .ok (.iastore, 1) := by decide +kernel
theorem dX5_finishCard_78 : decode cX5_finishCard 78 = .ok (.iinc 1 1, 3) := by decide +kernel
theorem dX5_finishCard_81 : decode cX5_finishCard 81 = .ok (.goto (-31), 3) := by decide +kernel
theorem dX5_finishCard_84 : decode cX5_finishCard 84 = .ok (.aload_n 0, 1) := by decide +kernel
theorem dX5_finishCard_85 : decode cX5_finishCard 85 = .ok (.getfield 7, 3) := by decide +kernel
theorem dX5_finishCard_88 : decode cX5_finishCard 88 = .ok (.bipush 16, 2) := by decide +kernel
theorem dX5_finishCard_90 : decode cX5_finishCard 90 = .ok (.iconst 0, 1) := by decide +kernel
theorem dX5_finishCard_91 : decode cX5_finishCard 91 = .ok (.iastore, 1) := by decide +kernel
theorem dX5_finishCard_92 : decode cX5_finishCard 92 = .ok (.aload_n 0, 1) := by decide +kernel
theorem dX5_finishCard_93 : decode cX5_finishCard 93 = .ok (.aload_n 0, 1) := by decide +kernel
theorem dX5_finishCard_94 : decode cX5_finishCard 94 = .ok (.getfield 7, 3) := by decide +kernel
theorem dX5_finishCard_97 : decode cX5_finishCard 97 = .ok (.bipush 17, 2) := by decide +kernel
theorem dX5_finishCard_99 : decode cX5_finishCard 99 = .ok (.iaload, 1) := by decide +kernel
theorem dX5_finishCard_100 : decode cX5_finishCard 100 = .ok (.aload_n 0, 1) := by decide +kernel
theorem dX5_finishCard_101 : decode cX5_finishCard 101 = .ok (.getfield 7, 3) := by decide +kernel
theorem dX5_finishCard_104 : decode cX5_finishCard 104 = .ok (.bipush 18, 2) := by decide +kernel
theorem dX5_finishCard_106 : decode cX5_finishCard 106 = .ok (.iaload, 1) := by decide +kernel
theorem dX5_finishCard_107 : decode cX5_finishCard 107 = .ok (.invokevirtual 57, 3) := by decide +kernel
theorem dX5_finishCard_110 : decode cX5_finishCard 110 = .ok (.ireturn, 1) := by decide +kernel
theorem dX5_draw_0 : decode cX5_draw 0 = .ok (.aload_n 0, 1) := by decide +kernel
theorem dX5_draw_1 : decode cX5_draw 1 = .ok (.getfield 7, 3) := by decide +kernel
theorem dX5_draw_4 : decode cX5_draw 4 = .ok (.iconst 5, 1) := by decide +kernel
theorem dX5_draw_5 : decode cX5_draw 5 = .ok (.iaload, 1) := by decide +kernel
theorem dX5_draw_6 : decode cX5_draw 6 = .ok (.istore 6, 2) := by decide +kernel
theorem dX5_draw_8 : decode cX5_draw 8 = .ok (.aload_n 0, 1) := by decide +kernel
theorem dX5_draw_9 : decode cX5_draw 9 = .ok (.getfield 7, 3) := by decide +kernel
theorem dX5_draw_12 : decode cX5_draw 12 = .ok (.iconst 4, 1) := by decide +kernel
theorem dX5_draw_13 : decode cX5_draw 13 = .ok (.iaload, 1) := by decide +kernel
theorem dX5_draw_14 : decode cX5_draw 14 = .ok (.i2l, 1) := by decide +kernel
theorem dX5_draw_15 : decode cX5_draw 15 = .ok (.aload_n 0, 1) := by decide +kernel
theorem dX5_draw_16 : decode cX5_draw 16 = .ok (.iload_n 2, 1) := by decide +kernel
theorem dX5_draw_17 : decode cX5_draw 17 = .ok (.invokevirtual 60, 3) := by decide +kernel
theorem dX5_draw_20 : decode cX5_draw 20 = .ok (.i2l, 1) := by decide +kernel
theorem dX5_draw_21 : decode cX5_draw 21 = .ok (.lmul, 1) := by decide +kernel
theorem dX5_draw_22 : decode cX5_draw 22 = .ok (.lstore 7, 2) := by decide +kernel
theorem dX5_draw_24 : decode cX5_draw 24 = .ok (.aload_n 0, 1) := by decide +kernel
theorem dX5_draw_25 : decode cX5_draw 25 = .ok (.getfield 7, 3) := by decide +kernel
theorem dX5_draw_28 : decode cX5_draw 28 = .ok (.iconst 4, 1) := by decide +kernel
theorem dX5_draw_29 : decode cX5_draw 29 = .ok (.iaload, 1) := by decide +kernel
theorem dX5_draw_30 : decode cX5_draw 30 = .ok (.istore 9, 2) := by decide +kernel
theorem dX5_draw_32 : decode cX5_draw 32 = .ok (.iconst 0, 1) := by decide +kernel
theorem dX5_draw_33 : decode cX5_draw 33 = .ok (.istore 10, 2) := by decide +kernel
theorem dX5_draw_35 : decode cX5_draw 35 = .ok (.iload 10, 2) := by decide +kernel
theorem dX5_draw_37 : decode cX5_draw 37 = .ok (.bipush 21, 2) := by decide +kernel
theorem dX5_draw_39 : decode cX5_draw 39 = .ok (.if_icmp .ge 185, 3) := by decide +kernel
theorem dX5_draw_42 : decode cX5_draw 42 = .ok (.iload 10, 2) := by decide +kernel
theorem dX5_draw_44 : decode cX5_draw 44 = .ok (.iload_n 1, 1) := by decide +kernel
theorem dX5_draw_45 : decode cX5_draw 45 = .ok (.if_icmp .ge 19, 3) := by decide +kernel
theorem dX5_draw_48 : decode cX5_draw 48 = .ok (.aload_n 0, 1) := by decide +kernel
theorem dX5_draw_49 : decode cX5_draw 49 = .ok (.getfield 7, 3) := by decide +kernel
theorem dX5_draw_52 : decode cX5_draw 52 = .ok (.sipush 2510, 3) := by decide +kernel
theorem dX5_draw_55 : decode cX5_draw 55 = .ok (.iload 10, 2) := by decide +kernel
theorem dX5_draw_57 : decode cX5_draw 57 = .ok (.iadd, 1) := by decide +kernel
theorem dX5_draw_58 : decode cX5_draw 58 = .ok (.iload 6, 2) := by decide +kernel
theorem dX5_draw_60 : decode cX5_draw 60 = .ok (.iastore, 1) := by decide +kernel
theorem dX5_draw_61 : decode cX5_draw 61 = .ok (.goto 118, 3) := by decide +kernel
theorem dX5_draw_64 : decode cX5_draw 64 = .ok (.iload 10, 2) := by decide +kernel
theorem dX5_draw_66 : decode cX5_draw 66 = .ok (.iload_n 2, 1) := by decide +kernel
theorem dX5_draw_67 : decode cX5_draw 67 = .ok (.if_icmp .gt 23, 3) := by decide +kernel
theorem dX5_draw_70 : decode cX5_draw 70 = .ok (.aload_n 0, 1) := by decide +kernel
theorem dX5_draw_71 : decode cX5_draw 71 = .ok (.getfield 7, 3) := by decide +kernel
theorem dX5_draw_74 : decode cX5_draw 74 = .ok (.sipush 2510, 3) := by decide +kernel
theorem dX5_draw_77 : decode cX5_draw 77 = .ok (.iload 10, 2) := by decide +kernel
theorem dX5_draw_79 : decode cX5_draw 79 = .ok (.iadd, 1) := by decide +kernel
theorem dX5_draw_80 : decode cX5_draw 80 = .ok (.aload_n 0, 1) := by decide +kernel
theorem dX5_draw_81 : decode cX5_draw 81 = .ok (.getfield 7, 3) := by decide +kernel
theorem dX5_draw_84 : decode cX5_draw 84 = .ok (.iconst 4, 1) := by decide +kernel
theorem dX5_draw_85 : decode cX5_draw 85 = .ok (.iaload, 1) := by decide +kernel
theorem dX5_draw_86 : decode cX5_draw 86 = .ok (.iastore, 1) := by decide +kernel
theorem dX5_draw_87 : decode cX5_draw 87 = .ok (.goto 92, 3) := by decide +kernel
theorem dX5_draw_90 : decode cX5_draw 90 = .ok (.iload 10, 2) := by decide +kernel
theorem dX5_draw_92 : decode cX5_draw 92 = .ok (.iload_n 3, 1) := by decide +kernel
theorem dX5_draw_93 : decode cX5_draw 93 = .ok (.if_icmp .ge 49, 3) := by decide +kernel
theorem dX5_draw_96 : decode cX5_draw 96 = .ok (.lload 7, 2) := by decide +kernel
theorem dX5_draw_98 : decode cX5_draw 98 = .ok (.lload 7, 2) := by decide +kernel
theorem dX5_draw_100 : decode cX5_draw 100 = .ok (.iload 5, 2) := by decide +kernel
theorem dX5_draw_102 : decode cX5_draw 102 = .ok (.i2l, 1) := by decide +kernel
theorem dX5_draw_103 : decode cX5_draw 103 = .ok (.lmul, 1) := by decide +kernel
theorem dX5_draw_104 : decode cX5_draw 104 = .ok (.ldc2_w 63, 3) := by decide +kernel
theorem dX5_draw_107 : decode cX5_draw 107 = .ok (.invokestatic 42, 3) := by decide +kernel
theorem dX5_draw_110 : decode cX5_draw 110 = .ok (.ladd, 1) := by decide +kernel
theorem dX5_draw_111 : decode cX5_draw 111 = .ok (.lstore 7, 2) := by decide +kernel
theorem dX5_draw_113 : decode cX5_draw 113 = .ok (.lload 7, 2) := by decide +kernel
theorem dX5_draw_115 : decode cX5_draw 115 = .ok (.aload_n 0, 1) := by decide +kernel
theorem dX5_draw_116 : decode cX5_draw 116 = .ok (.iload 10, 2) := by decide +kernel
theorem dX5_draw_118 : decode cX5_draw 118 = .ok (.invokevirtual 60, 3) := by decide +kernel
theorem dX5_draw_121 : decode cX5_draw 121 = .ok (.i2l, 1) := by decide +kernel
theorem dX5_draw_122 : decode cX5_draw 122 = .ok (.ldiv, 1) := by decide +kernel
theorem dX5_draw_123 : decode cX5_draw 123 = .ok (.l2i, 1) := by decide +kernel
theorem dX5_draw_124 : decode cX5_draw 124 = .ok (.istore 9, 2) := by decide +kernel
theorem dX5_draw_126 : decode cX5_draw 126 = .ok (.aload_n 0, 1) := by decide +kernel
theorem dX5_draw_127 : decode cX5_draw 127 = .ok (.getfield 7, 3) := by decide +kernel
theorem dX5_draw_130 : decode cX5_draw 130 = .ok (.sipush 2510, 3) := by decide +kernel
theorem dX5_draw_133 : decode cX5_draw 133 = .ok (.iload 10, 2) := by decide +kernel
theorem dX5_draw_135 : decode cX5_draw 135 = .ok (.iadd, 1) := by decide +kernel
theorem dX5_draw_136 : decode cX5_draw 136 = .ok (.iload 9, 2) := by decide +kernel
theorem dX5_draw_138 : decode cX5_draw 138 = .ok (.iastore, 1) := by decide +kernel
theorem dX5_draw_139 : decode cX5_draw 139 = .ok (.goto 40, 3) := by decide +kernel
theorem dX5_draw_142 : decode cX5_draw 142 = .ok (.aload_n 0, 1) := by decide +kernel
theorem dX5_draw_143 : decode cX5_draw 143 = .ok (.getfield 7, 3) := by decide +kernel
theorem dX5_draw_146 : decode cX5_draw 146 = .ok (.sipush 2510, 3) := by decide +kernel
theorem dX5_draw_149 : decode cX5_draw 149 = .ok (.iload 10, 2) := by decide +kernel
theorem dX5_draw_151 : decode cX5_draw 151 = .ok (.iadd, 1) := by decide +kernel
theorem dX5_draw_152 : decode cX5_draw 152 = .ok (.iload 9, 2) := by decide +kernel
theorem dX5_draw_154 : decode cX5_draw 154 = .ok (.iload 6, 2) := by decide +kernel
theorem dX5_draw_156 : decode cX5_draw 156 = .ok (.iload 9, 2) := by decide +kernel
theorem dX5_draw_158 : decode cX5_draw 158 = .ok (.isub, 1) := by decide +kernel
theorem dX5_draw_159 : decode cX5_draw 159 = .ok (.i2l, 1) := by decide +kernel
theorem dX5_draw_160 : decode cX5_draw 160 = .ok (.iload 10, 2) := by decide +kernel
theorem dX5_draw_162 : decode cX5_draw 162 = .ok (.iload_n 3, 1) := by decide +kernel
theorem dX5_draw_163 : decode cX5_draw 163 = .ok (.isub, 1) := by decide +kernel
theorem dX5_draw_164 : decode cX5_draw 164 = .ok (.iconst 1, 1) := by decide +kernel
theorem dX5_draw_165 : decode cX5_draw 165 = .ok (.iadd, 1) := by decide +kernel
theorem dX5_draw_166 : decode cX5_draw 166 = .ok (.i2l, 1) := by decide +kernel
theorem dX5_draw_167 : decode cX5_draw 167 = .ok (.lmul, 1) := by decide +kernel
theorem dX5_draw_168 : decode cX5_draw 168 = .ok (.bipush 21, 2) := by decide +kernel
theorem dX5_draw_170 : decode cX5_draw 170 = .ok (.iload_n 3, 1) := by decide +kernel
theorem dX5_draw_171 : decode cX5_draw 171 = .ok (.isub, 1) := by decide +kernel
theorem dX5_draw_172 : decode cX5_draw 172 = .ok (.i2l, 1) := by decide +kernel
theorem dX5_draw_173 : decode cX5_draw 173 = .ok (.invokestatic 42, 3) := by decide +kernel
theorem dX5_draw_176 : decode cX5_draw 176 = .ok (.l2i, 1) := by decide +kernel
theorem dX5_draw_177 : decode cX5_draw 177 = .ok (.iadd, 1) := by decide +kernel
theorem dX5_draw_178 : decode cX5_draw 178 = .ok (.iastore, 1) := by decide +kernel
theorem dX5_draw_179 : decode cX5_draw 179 = .ok (.aload_n 0, 1) := by decide +kernel
theorem dX5_draw_180 : decode cX5_draw 180 = .ok (.getfield 7, 3) := by decide +kernel
theorem dX5_draw_183 : decode cX5_draw 183 = .ok (.sipush 2531, 3) := by decide +kernel
theorem dX5_draw_186 : decode cX5_draw 186 = .ok (.iload 10, 2) := by decide +kernel
theorem dX5_draw_188 : decode cX5_draw 188 = .ok (.iadd, 1) := by decide +kernel
theorem dX5_draw_189 : decode cX5_draw 189 = .ok (.iload 10, 2) := by decide +kernel
theorem dX5_draw_191 : decode cX5_draw 191 = .ok (.iload 4, 2) := by decide +kernel
theorem dX5_draw_193 : decode cX5_draw 193 = .ok (.if_icmp .ge 22, 3) := by decide +kernel
theorem dX5_draw_196 : decode cX5_draw 196 = .ok (.iload 6, 2) := by decide +kernel
theorem dX5_draw_198 : decode cX5_draw 198 = .ok (.aload_n 0, 1) := by decide +kernel
theorem dX5_draw_199 : decode cX5_draw 199 = .ok (.iload 4, 2) := by decide +kernel
theorem dX5_draw_201 : decode cX5_draw 201 = .ok (.invokevirtual 60, 3) := by decide +kernel
theorem dX5_draw_204 : decode cX5_draw 204 = .ok (.imul, 1) := by decide +kernel
theorem dX5_draw_205 : decode cX5_draw 205 = .ok (.aload_n 0, 1) := by decide +kernel
theorem dX5_draw_206 : decode cX5_draw 206 = .ok (.iload 10, 2) := by decide +kernel
theorem dX5_draw_208 : decode cX5_draw 208 = .ok (.invokevirtual 60, 3) := by decide +kernel
theorem dX5_draw_211 : decode cX5_draw 211 = .ok (.idiv, 1) := by decide +kernel
theorem dX5_draw_212 : decode cX5_draw 212 = .ok (.goto 5, 3) := by decide +kernel
theorem dX5_draw_215 : decode cX5_draw 215 = .ok (.iload 6, 2) := by decide +kernel
theorem dX5_draw_217 : decode cX5_draw 217 = .ok (.iastore, 1) := by decide +kernel
theorem dX5_draw_218 : decode cX5_draw 218 = .ok (.iinc 10 1, 3) := by decide +kernel
theorem dX5_draw_221 : decode cX5_draw 221 = .ok (.goto (-186), 3) := by decide +kernel
theorem dX5_draw_224 : decode cX5_draw 224 = .ok (.return_, 1) := by decide +kernel
theorem dX5_valveOf_0 : decode cX5_valveOf 0 = .ok (.aload_n 0, 1) := by decide +kernel
theorem dX5_valveOf_1 : decode cX5_valveOf 1 = .ok (.getfield 7, 3) := by decide +kernel
theorem dX5_valveOf_4 : decode cX5_valveOf 4 = .ok (.bipush 8, 2) := by decide +kernel
theorem dX5_valveOf_6 : decode cX5_valveOf 6 = .ok (.iconst 4, 1) := by decide +kernel
theorem dX5_valveOf_7 : decode cX5_valveOf 7 = .ok (.iload_n 1, 1) := by decide +kernel
theorem dX5_valveOf_8 : decode cX5_valveOf 8 = .ok (.imul, 1) := by decide +kernel
theorem dX5_valveOf_9 : decode cX5_valveOf 9 = .ok (.iadd, 1) := by decide +kernel
theorem dX5_valveOf_10 : decode cX5_valveOf 10 = .ok (.iload_n 2, 1) := by decide +kernel
theorem dX5_valveOf_11 : decode cX5_valveOf 11 = .ok (.iadd, 1) := by decide +kernel
theorem dX5_valveOf_12 : decode cX5_valveOf 12 = .ok (.iaload, 1) := by decide +kernel
theorem dX5_valveOf_13 : decode cX5_valveOf 13 = .ok (.ireturn, 1) := by decide +kernel
theorem dX5_addIdealCard_0 : decode cX5_addIdealCard 0 = .ok (.iload_n 1, 1) := by decide +kernel
theorem dX5_addIdealCard_1 : decode cX5_addIdealCard 1 = .ok (.invokestatic 34, 3) := by decide +kernel
theorem dX5_addIdealCard_4 : decode cX5_addIdealCard 4 = .ok (.ifCond .eq 36, 3) := by decide +kernel
theorem dX5_addIdealCard_7 : decode cX5_addIdealCard 7 = .ok (.iload_n 2, 1) := by decide +kernel
theorem dX5_addIdealCard_8 : decode cX5_addIdealCard 8 = .ok (.iconst 1, 1) := by decide +kernel
theorem dX5_addIdealCard_9 : decode cX5_addIdealCard 9 = .ok (.sipush 600, 3) := by decide +kernel
theorem dX5_addIdealCard_12 : decode cX5_addIdealCard 12 = .ok (.invokestatic 13, 3) := by decide +kernel
theorem dX5_addIdealCard_15 : decode cX5_addIdealCard 15 = .ok (.ifCond .eq 25, 3) := by decide +kernel
theorem dX5_addIdealCard_18 : decode cX5_addIdealCard 18 = .ok (.iload_n 3, 1) := by decide +kernel
theorem dX5_addIdealCard_19 : decode cX5_addIdealCard 19 = .ok (.bipush (-3), 2) := by decide +kernel
theorem dX5_addIdealCard_21 : decode cX5_addIdealCard 21 = .ok (.iconst 3, 1) := by decide +kernel
theorem dX5_addIdealCard_22 : decode cX5_addIdealCard 22 = .ok (.invokestatic 13, 3) := by decide +kernel
theorem dX5_addIdealCard_25 : decode cX5_addIdealCard 25 = .ok (.ifCond .eq 15, 3) := by decide +kernel
theorem dX5_addIdealCard_28 : decode cX5_addIdealCard 28 = .ok (.iload 4, 2) := by decide +kernel
theorem dX5_addIdealCard_30 : decode cX5_addIdealCard 30 = .ok (.bipush (-20), 2) := by decide +kernel
theorem dX5_addIdealCard_32 : decode cX5_addIdealCard 32 = .ok (.bipush 20, 2) := by decide +kernel
theorem dX5_addIdealCard_34 : decode cX5_addIdealCard 34 = .ok (.invokestatic 13, 3) := by decide +kernel
theorem dX5_addIdealCard_37 : decode cX5_addIdealCard 37 = .ok (.ifCond .ne 6, 3) := by decide +kernel
theorem dX5_addIdealCard_40 : decode cX5_addIdealCard 40 = .ok (.ldc 26, 2) := by decide +kernel
theorem dX5_addIdealCard_42 : decode cX5_addIdealCard 42 = .ok (.ireturn, 1) := by decide +kernel
theorem dX5_addIdealCard_43 : decode cX5_addIdealCard 43 = .ok (.aload_n 0, 1) := by decide +kernel
theorem dX5_addIdealCard_44 : decode cX5_addIdealCard 44 = .ok (.iload_n 1, 1) := by decide +kernel
theorem dX5_addIdealCard_45 : decode cX5_addIdealCard 45 = .ok (.iconst 0, 1) := by decide +kernel
theorem dX5_addIdealCard_46 : decode cX5_addIdealCard 46 = .ok (.invokevirtual 65, 3) := by decide +kernel
theorem dX5_addIdealCard_49 : decode cX5_addIdealCard 49 = .ok (.iload_n 3, 1) := by decide +kernel
theorem dX5_addIdealCard_50 : decode cX5_addIdealCard 50 = .ok (.iadd, 1) := by decide +kernel
theorem dX5_addIdealCard_51 : decode cX5_addIdealCard 51 = .ok (.istore 5, 2) := by decide +kernel
theorem dX5_addIdealCard_53 : decode cX5_addIdealCard 53 = .ok (.aload_n 0, 1) := by decide +kernel
theorem dX5_addIdealCard_54 : decode cX5_addIdealCard 54 = .ok (.iload_n 1, 1) := by decide +kernel
theorem dX5_addIdealCard_55 : decode cX5_addIdealCard 55 = .ok (.iconst 1, 1) := by decide +kernel
theorem dX5_addIdealCard_56 : decode cX5_addIdealCard 56 = .ok (.invokevirtual 65, 3) := by decide +kernel
theorem dX5_addIdealCard_59 : decode cX5_addIdealCard 59 = .ok (.iload_n 3, 1) := by decide +kernel
theorem dX5_addIdealCard_60 : decode cX5_addIdealCard 60 = .ok (.iadd, 1) := by decide +kernel
theorem dX5_addIdealCard_61 : decode cX5_addIdealCard 61 = .ok (.istore 6, 2) := by decide +kernel
theorem dX5_addIdealCard_63 : decode cX5_addIdealCard 63 = .ok (.aload_n 0, 1) := by decide +kernel
theorem dX5_addIdealCard_64 : decode cX5_addIdealCard 64 = .ok (.iload_n 1, 1) := by decide +kernel
theorem dX5_addIdealCard_65 : decode cX5_addIdealCard 65 = .ok (.iconst 2, 1) := by decide +kernel
theorem dX5_addIdealCard_66 : decode cX5_addIdealCard 66 = .ok (.invokevirtual 65, 3) := by decide +kernel
theorem dX5_addIdealCard_69 : decode cX5_addIdealCard 69 = .ok (.iload_n 3, 1) := by decide +kernel
theorem dX5_addIdealCard_70 : decode cX5_addIdealCard 70 = .ok (.iadd, 1) := by decide +kernel
theorem dX5_addIdealCard_71 : decode cX5_addIdealCard 71 = .ok (.istore 7, 2) := by decide +kernel
theorem dX5_addIdealCard_73 : decode cX5_addIdealCard 73 = .ok (.aload_n 0, 1) := by decide +kernel
theorem dX5_addIdealCard_74 : decode cX5_addIdealCard 74 = .ok (.iload_n 1, 1) := by decide +kernel
theorem dX5_addIdealCard_75 : decode cX5_addIdealCard 75 = .ok (.iconst 3, 1) := by decide +kernel
theorem dX5_addIdealCard_76 : decode cX5_addIdealCard 76 = .ok (.invokevirtual 65, 3) := by decide +kernel
theorem dX5_addIdealCard_79 : decode cX5_addIdealCard 79 = .ok (.iload_n 3, 1) := by decide +kernel
theorem dX5_addIdealCard_80 : decode cX5_addIdealCard 80 = .ok (.isub, 1) := by decide +kernel
theorem dX5_addIdealCard_81 : decode cX5_addIdealCard 81 = .ok (.istore 8, 2) := by decide +kernel
theorem dX5_addIdealCard_83 : decode cX5_addIdealCard 83 = .ok (.iload 5, 2) := by decide +kernel
theorem dX5_addIdealCard_85 : decode cX5_addIdealCard 85 = .ok (.iconst 0, 1) := by decide +kernel
theorem dX5_addIdealCard_86 : decode cX5_addIdealCard 86 = .ok (.bipush 8, 2) := by decide +kernel
theorem dX5_addIdealCard_88 : decode cX5_addIdealCard 88 = .ok (.invokestatic 13, 3) := by decide +kernel
theorem dX5_addIdealCard_91 : decode cX5_addIdealCard 91 = .ok (.ifCond .eq 36, 3) := by decide +kernel
theorem dX5_addIdealCard_94 : decode cX5_addIdealCard 94 = .ok (.iload 6, 2) := by decide +kernel
theorem dX5_addIdealCard_96 : decode cX5_addIdealCard 96 = .ok (.iconst 1, 1) := by decide +kernel
theorem dX5_addIdealCard_97 : decode cX5_addIdealCard 97 = .ok (.bipush 19, 2) := by decide +kernel
theorem dX5_addIdealCard_99 : decode cX5_addIdealCard 99 = .ok (.invokestatic 13, 3) := by decide +kernel
theorem dX5_addIdealCard_102 : decode cX5_addIdealCard 102 = .ok (.ifCond .eq 25, 3) := by decide +kernel
theorem dX5_addIdealCard_105 : decode cX5_addIdealCard 105 = .ok (.iload 7, 2) := by decide +kernel
theorem dX5_addIdealCard_107 : decode cX5_addIdealCard 107 = .ok (.iconst 2, 1) := by decide +kernel
theorem dX5_addIdealCard_108 : decode cX5_addIdealCard 108 = .ok (.bipush 20, 2) := by decide +kernel
theorem dX5_addIdealCard_110 : decode cX5_addIdealCard 110 = .ok (.invokestatic 13, 3) := by decide +kernel
theorem dX5_addIdealCard_113 : decode cX5_addIdealCard 113 = .ok (.ifCond .eq 14, 3) := by decide +kernel
theorem dX5_addIdealCard_116 : decode cX5_addIdealCard 116 = .ok (.iload 8, 2) := by decide +kernel
theorem dX5_addIdealCard_118 : decode cX5_addIdealCard 118 = .ok (.iconst 0, 1) := by decide +kernel
theorem dX5_addIdealCard_119 : decode cX5_addIdealCard 119 = .ok (.bipush 19, 2) := by decide +kernel
theorem dX5_addIdealCard_121 : decode cX5_addIdealCard 121 = .ok (.invokestatic 13, 3) := by decide +kernel
theorem dX5_addIdealCard_124 : decode cX5_addIdealCard 124 = .ok (.ifCond .ne 6, 3) := by decide +kernel
theorem dX5_addIdealCard_127 : decode cX5_addIdealCard 127 = .ok (.ldc 25, 2) := by decide +kernel
theorem dX5_addIdealCard_129 : decode cX5_addIdealCard 129 = .ok (.ireturn, 1) := by decide +kernel
theorem dX5_addIdealCard_130 : decode cX5_addIdealCard 130 = .ok (.aload_n 0, 1) := by decide +kernel
theorem dX5_addIdealCard_131 : decode cX5_addIdealCard 131 = .ok (.getfield 7, 3) := by decide +kernel
theorem dX5_addIdealCard_134 : decode cX5_addIdealCard 134 = .ok (.bipush 61, 2) := by decide +kernel
theorem dX5_addIdealCard_136 : decode cX5_addIdealCard 136 = .ok (.iaload, 1) := by decide +kernel
theorem dX5_addIdealCard_137 : decode cX5_addIdealCard 137 = .ok (.bipush 10, 2) := by decide +kernel
theorem dX5_addIdealCard_139 : decode cX5_addIdealCard 139 = .ok (.if_icmp .ne 6, 3) := by decide +kernel
theorem dX5_addIdealCard_142 : decode cX5_addIdealCard 142 = .ok (.ldc 52, 2) := by decide +kernel
theorem dX5_addIdealCard_144 : decode cX5_addIdealCard 144 = .ok (.ireturn, 1) := by decide +kernel
theorem dX5_addIdealCard_145 : decode cX5_addIdealCard 145 = .ok (.aload_n 0, 1) := by decide +kernel
theorem dX5_addIdealCard_146 : decode cX5_addIdealCard 146 = .ok (.invokevirtual 27, 3) := by decide +kernel
theorem dX5_addIdealCard_149 : decode cX5_addIdealCard 149 = .ok (.aload_n 0, 1) := by decide +kernel
theorem dX5_addIdealCard_150 : decode cX5_addIdealCard 150 = .ok (.iload 5, 2) := by decide +kernel
theorem dX5_addIdealCard_152 : decode cX5_addIdealCard 152 = .ok (.iload 6, 2) := by decide +kernel
theorem dX5_addIdealCard_154 : decode cX5_addIdealCard 154 = .ok (.iload 7, 2) := by decide +kernel
theorem dX5_addIdealCard_156 : decode cX5_addIdealCard 156 = .ok (.iload 8, 2) := by decide +kernel
theorem dX5_addIdealCard_158 : decode cX5_addIdealCard 158 = .ok (.iload 4, 2) := by decide +kernel
theorem dX5_addIdealCard_160 : decode cX5_addIdealCard 160 = .ok (.invokevirtual 68, 3) := by decide +kernel
theorem dX5_addIdealCard_163 : decode cX5_addIdealCard 163 = .ok (.aload_n 0, 1) := by decide +kernel
theorem dX5_addIdealCard_164 : decode cX5_addIdealCard 164 = .ok (.iload_n 1, 1) := by decide +kernel
theorem dX5_addIdealCard_165 : decode cX5_addIdealCard 165 = .ok (.iload_n 2, 1) := by decide +kernel
theorem dX5_addIdealCard_166 : decode cX5_addIdealCard 166 = .ok (.invokevirtual 57, 3) := by decide +kernel
theorem dX5_addIdealCard_169 : decode cX5_addIdealCard 169 = .ok (.ireturn, 1) := by decide +kernel
theorem dX5_remove_0 : decode cX5_remove 0 = .ok (.iload_n 1, 1) := by decide +kernel
theorem dX5_remove_1 : decode cX5_remove 1 = .ok (.invokestatic 46, 3) := by decide +kernel
theorem dX5_remove_4 : decode cX5_remove 4 = .ok (.istore_n 2, 1) := by decide +kernel
theorem dX5_remove_5 : decode cX5_remove 5 = .ok (.iload_n 2, 1) := by decide +kernel
theorem dX5_remove_6 : decode cX5_remove 6 = .ok (.aload_n 0, 1) := by decide +kernel
theorem dX5_remove_7 : decode cX5_remove 7 = .ok (.getfield 7, 3) := by decide +kernel
theorem dX5_remove_10 : decode cX5_remove 10 = .ok (.bipush 61, 2) := by decide +kernel
theorem dX5_remove_12 : decode cX5_remove 12 = .ok (.iaload, 1) := by decide +kernel
theorem dX5_remove_13 : decode cX5_remove 13 = .ok (.iconst 1, 1) := by decide +kernel
theorem dX5_remove_14 : decode cX5_remove 14 = .ok (.isub, 1) := by decide +kernel
theorem dX5_remove_15 : decode cX5_remove 15 = .ok (.invokestatic 46, 3) := by decide +kernel
theorem dX5_remove_18 : decode cX5_remove 18 = .ok (.if_icmp .ge 24, 3) := by decide +kernel
theorem dX5_remove_21 : decode cX5_remove 21 = .ok (.aload_n 0, 1) := by decide +kernel
theorem dX5_remove_22 : decode cX5_remove 22 = .ok (.getfield 7, 3) := by decide +kernel
theorem dX5_remove_25 : decode cX5_remove 25 = .ok (.iload_n 2, 1) := by decide +kernel
theorem dX5_remove_26 : decode cX5_remove 26 = .ok (.aload_n 0, 1) := by decide +kernel
theorem dX5_remove_27 : decode cX5_remove 27 = .ok (.getfield 7, 3) := by decide +kernel
theorem dX5_remove_30 : decode cX5_remove 30 = .ok (.iload_n 2, 1) := by decide +kernel
theorem dX5_remove_31 : decode cX5_remove 31 = .ok (.bipush 44, 2) := by decide +kernel
theorem dX5_remove_33 : decode cX5_remove 33 = .ok (.iadd, 1) := by decide +kernel
theorem dX5_remove_34 : decode cX5_remove 34 = .ok (.iaload, 1) := by decide +kernel
theorem dX5_remove_35 : decode cX5_remove 35 = .ok (.iastore, 1) := by decide +kernel
theorem dX5_remove_36 : decode cX5_remove 36 = .ok (.iinc 2 1, 3) := by decide +kernel
theorem dX5_remove_39 : decode cX5_remove 39 = .ok (.goto (-34), 3) := by decide +kernel
theorem dX5_remove_42 : decode cX5_remove 42 = .ok (.aload_n 0, 1) := by decide +kernel
theorem dX5_remove_43 : decode cX5_remove 43 = .ok (.getfield 7, 3) := by decide +kernel
theorem dX5_remove_46 : decode cX5_remove 46 = .ok (.bipush 61, 2) := by decide +kernel
theorem dX5_remove_48 : decode cX5_remove 48 = .ok (.dup2, 1) := by decide +kernel
theorem dX5_remove_49 : decode cX5_remove 49 = .ok (.iaload, 1) := by decide +kernel
theorem dX5_remove_50 : decode cX5_remove 50 = .ok (.iconst 1, 1) := by decide +kernel
theorem dX5_remove_51 : decode cX5_remove 51 = .ok (.isub, 1) := by decide +kernel
theorem dX5_remove_52 : decode cX5_remove 52 = .ok (.iastore, 1) := by decide +kernel
theorem dX5_remove_53 : decode cX5_remove 53 = .ok (.return_, 1) := by decide +kernel
theorem dX5_removeCard_0 : decode cX5_removeCard 0 = .ok (.aload_n 0, 1) := by decide +kernel
theorem dX5_removeCard_1 : decode cX5_removeCard 1 = .ok (.iload_n 1, 1) := by decide +kernel
theorem dX5_removeCard_2 : decode cX5_removeCard 2 = .ok (.invokevirtual 72, 3) := by decide +kernel
theorem dX5_removeCard_5 : decode cX5_removeCard 5 = .ok (.ifCond .ne 6, 3) := by decide +kernel
theorem dX5_removeCard_8 : decode cX5_removeCard 8 = .ok (.ldc 26, 2) := by decide +kernel
theorem dX5_removeCard_10 : decode cX5_removeCard 10 = .ok (.ireturn, 1) := by decide +kernel
theorem dX5_removeCard_11 : decode cX5_removeCard 11 = .ok (.aload_n 0, 1) := by decide +kernel
theorem dX5_removeCard_12 : decode cX5_removeCard 12 = .ok (.invokevirtual 27, 3) := by decide +kernel
theorem dX5_removeCard_15 : decode cX5_removeCard 15 = .ok (.aload_n 0, 1) := by decide +kernel
theorem dX5_removeCard_16 : decode cX5_removeCard 16 = .ok (.iload_n 1, 1) := by decide +kernel
theorem dX5_removeCard_17 : decode cX5_removeCard 17 = .ok (.invokevirtual 75, 3) := by decide +kernel
theorem dX5_removeCard_20 : decode cX5_removeCard 20 = .ok (.aload_n 0, 1) := by decide +kernel
theorem dX5_removeCard_21 : decode cX5_removeCard 21 = .ok (.getfield 7, 3) := by decide +kernel
theorem dX5_removeCard_24 : decode cX5_removeCard 24 = .ok (.bipush 61, 2) := by decide +kernel
theorem dX5_removeCard_26 : decode cX5_removeCard 26 = .ok (.iaload, 1) := by decide +kernel
theorem dX5_removeCard_27 : decode cX5_removeCard 27 = .ok (.ireturn, 1) := by decide +kernel
theorem dX5_cardCount_0 : decode cX5_cardCount 0 = .ok (.aload_n 0, 1) := by decide +kernel
theorem dX5_cardCount_1 : decode cX5_cardCount 1 = .ok (.getfield 7, 3) := by decide +kernel
theorem dX5_cardCount_4 : decode cX5_cardCount 4 = .ok (.bipush 61, 2) := by decide +kernel
theorem dX5_cardCount_6 : decode cX5_cardCount 6 = .ok (.iaload, 1) := by decide +kernel
theorem dX5_cardCount_7 : decode cX5_cardCount 7 = .ok (.ireturn, 1) := by decide +kernel
theorem dX5_end_0 : decode cX5_end 0 = .ok (.aload_n 0, 1) := by decide +kernel
theorem dX5_end_1 : decode cX5_end 1 = .ok (.iload_n 1, 1) := by decide +kernel
theorem dX5_end_2 : decode cX5_end 2 = .ok (.invokevirtual 72, 3) := by decide +kernel
theorem dX5_end_5 : decode cX5_end 5 = .ok (.ifCond .eq 15, 3) := by decide +kernel
theorem dX5_end_8 : decode cX5_end 8 = .ok (.aload_n 0, 1) := by decide +kernel
theorem dX5_end_9 : decode cX5_end 9 = .ok (.getfield 7, 3) := by decide +kernel
theorem dX5_end_12 : decode cX5_end 12 = .ok (.iload_n 1, 1) := by decide +kernel
theorem dX5_end_13 : decode cX5_end 13 = .ok (.invokestatic 46, 3) := by decide +kernel
theorem dX5_end_16 : decode cX5_end 16 = .ok (.iaload, 1) := by decide +kernel
theorem dX5_end_17 : decode cX5_end 17 = .ok (.goto 5, 3) := by decide +kernel
theorem dX5_end_20 : decode cX5_end 20 = .ok (.ldc 26, 2) := by decide +kernel
theorem dX5_end_22 : decode cX5_end 22 = .ok (.ireturn, 1) := by decide +kernel
theorem dX5_speed_0 : decode cX5_speed 0 = .ok (.aload_n 0, 1) := by decide +kernel
theorem dX5_speed_1 : decode cX5_speed 1 = .ok (.iload_n 1, 1) := by decide +kernel
theorem dX5_speed_2 : decode cX5_speed 2 = .ok (.invokevirtual 72, 3) := by decide +kernel
theorem dX5_speed_5 : decode cX5_speed 5 = .ok (.ifCond .eq 17, 3) := by decide +kernel
theorem dX5_speed_8 : decode cX5_speed 8 = .ok (.aload_n 0, 1) := by decide +kernel
theorem dX5_speed_9 : decode cX5_speed 9 = .ok (.getfield 7, 3) := by decide +kernel
theorem dX5_speed_12 : decode cX5_speed 12 = .ok (.iload_n 1, 1) := by decide +kernel
theorem dX5_speed_13 : decode cX5_speed 13 = .ok (.invokestatic 46, 3) := by decide +kernel
theorem dX5_speed_16 : decode cX5_speed 16 = .ok (.iconst 1, 1) := by decide +kernel
theorem dX5_speed_17 : decode cX5_speed 17 = .ok (.iadd, 1) := by decide +kernel
theorem dX5_speed_18 : decode cX5_speed 18 = .ok (.iaload, 1) := by decide +kernel
theorem dX5_speed_19 : decode cX5_speed 19 = .ok (.goto 5, 3) := by decide +kernel
theorem dX5_speed_22 : decode cX5_speed 22 = .ok (.ldc 26, 2) := by decide +kernel
theorem dX5_speed_24 : decode cX5_speed 24 = .ok (.ireturn, 1) := by decide +kernel
theorem dX5_pressure_0 : decode cX5_pressure 0 = .ok (.aload_n 0, 1) := by decide +kernel
theorem dX5_pressure_1 : decode cX5_pressure 1 = .ok (.iload_n 1, 1) := by decide +kernel
theorem dX5_pressure_2 : decode cX5_pressure 2 = .ok (.invokevirtual 72, 3) := by decide +kernel
theorem dX5_pressure_5 : decode cX5_pressure 5 = .ok (.ifCond .eq 41, 3) := by decide +kernel
theorem dX5_pressure_8 : decode cX5_pressure 8 = .ok (.iload_n 2, 1) := by decide +kernel
theorem dX5_pressure_9 : decode cX5_pressure 9 = .ok (.iconst 0, 1) := by decide +kernel
theorem dX5_pressure_10 : decode cX5_pressure 10 = .ok (.iconst 1, 1) := by decide +kernel
theorem dX5_pressure_11 : decode cX5_pressure 11 = .ok (.invokestatic 13, 3) := by decide +kernel
theorem dX5_pressure_14 : decode cX5_pressure 14 = .ok (.ifCond .eq 32, 3) := by decide +kernel
theorem dX5_pressure_17 : decode cX5_pressure 17 = .ok (.iload_n 3, 1) := by decide +kernel
theorem dX5_pressure_18 : decode cX5_pressure 18 = .ok (.iconst 0, 1) := by decide +kernel
theorem dX5_pressure_19 : decode cX5_pressure 19 = .ok (.bipush 20, 2) := by decide +kernel
theorem dX5_pressure_21 : decode cX5_pressure 21 = .ok (.invokestatic 13, 3) := by decide +kernel
theorem dX5_pressure_24 : decode cX5_pressure 24 = .ok (.ifCond .eq 22, 3) := by decide +kernel
theorem dX5_pressure_27 : decode cX5_pressure 27 = .ok (.aload_n 0, 1) := by decide +kernel
theorem dX5_pressure_28 : decode cX5_pressure 28 = .ok (.getfield 7, 3) := by decide +kernel
theorem dX5_pressure_31 : decode cX5_pressure 31 = .ok (.iload_n 1, 1) := by decide +kernel
theorem dX5_pressure_32 : decode cX5_pressure 32 = .ok (.invokestatic 49, 3) := by decide +kernel
theorem dX5_pressure_35 : decode cX5_pressure 35 = .ok (.bipush 21, 2) := by decide +kernel
theorem dX5_pressure_37 : decode cX5_pressure 37 = .ok (.iload_n 2, 1) := by decide +kernel
theorem dX5_pressure_38 : decode cX5_pressure 38 = .ok (.imul, 1) := by decide +kernel
theorem dX5_pressure_39 : decode cX5_pressure 39 = .ok (.iadd, 1) := by decide +kernel
theorem dX5_pressure_40 : decode cX5_pressure 40 = .ok (.iload_n 3, 1) := by decide +kernel
theorem dX5_pressure_41 : decode cX5_pressure 41 = .ok (.iadd, 1) := by decide +kernel
theorem dX5_pressure_42 : decode cX5_pressure 42 = .ok (.iaload, 1) := by decide +kernel
theorem dX5_pressure_43 : decode cX5_pressure 43 = .ok (.goto 5, 3) := by decide +kernel
theorem dX5_pressure_46 : decode cX5_pressure 46 = .ok (.ldc 26, 2) := by decide +kernel
theorem dX5_pressure_48 : decode cX5_pressure 48 = .ok (.ireturn, 1) := by decide +kernel
theorem dX5_difference_0 : decode cX5_difference 0 = .ok (.aload_n 0, 1) := by decide +kernel
theorem dX5_difference_1 : decode cX5_difference 1 = .ok (.getfield 7, 3) := by decide +kernel
theorem dX5_difference_4 : decode cX5_difference 4 = .ok (.iload_n 1, 1) := by decide +kernel
theorem dX5_difference_5 : decode cX5_difference 5 = .ok (.iload_n 2, 1) := by decide +kernel
theorem dX5_difference_6 : decode cX5_difference 6 = .ok (.iadd, 1) := by decide +kernel
theorem dX5_difference_7 : decode cX5_difference 7 = .ok (.iaload, 1) := by decide +kernel
theorem dX5_difference_8 : decode cX5_difference 8 = .ok (.aload_n 0, 1) := by decide +kernel
theorem dX5_difference_9 : decode cX5_difference 9 = .ok (.getfield 7, 3) := by decide +kernel
theorem dX5_difference_12 : decode cX5_difference 12 = .ok (.iload_n 1, 1) := by decide +kernel
theorem dX5_difference_13 : decode cX5_difference 13 = .ok (.bipush 21, 2) := by decide +kernel
theorem dX5_difference_15 : decode cX5_difference 15 = .ok (.iadd, 1) := by decide +kernel
theorem dX5_difference_16 : decode cX5_difference 16 = .ok (.iload_n 2, 1) := by decide +kernel
theorem dX5_difference_17 : decode cX5_difference 17 = .ok (.iadd, 1) := by decide +kernel
theorem dX5_difference_18 : decode cX5_difference 18 = .ok (.iaload, 1) := by decide +kernel
theorem dX5_difference_19 : decode cX5_difference 19 = .ok (.isub, 1) := by decide +kernel
theorem dX5_difference_20 : decode cX5_difference 20 = .ok (.ireturn, 1) := by decide +kernel
theorem dX5_areaAt_0 : decode cX5_areaAt 0 = .ok (.iconst 0, 1) := by decide +kernel
theorem dX5_areaAt_1 : decode cX5_areaAt 1 = .ok (.istore_n 2, 1) := by decide +kernel
theorem dX5_areaAt_2 : decode cX5_areaAt 2 = .ok (.iconst 0, 1) := by decide +kernel
theorem dX5_areaAt_3 : decode cX5_areaAt 3 = .ok (.istore_n 3, 1) := by decide +kernel
theorem dX5_areaAt_4 : decode cX5_areaAt 4 = .ok (.iload_n 3, 1) := by decide +kernel
theorem dX5_areaAt_5 : decode cX5_areaAt 5 = .ok (.bipush 20, 2) := by decide +kernel
theorem dX5_areaAt_7 : decode cX5_areaAt 7 = .ok (.if_icmp .ge 27, 3) := by decide +kernel
theorem dX5_areaAt_10 : decode cX5_areaAt 10 = .ok (.iload_n 2, 1) := by decide +kernel
theorem dX5_areaAt_11 : decode cX5_areaAt 11 = .ok (.aload_n 0, 1) := by decide +kernel
theorem dX5_areaAt_12 : decode cX5_areaAt 12 = .ok (.iload_n 1, 1) := by decide +kernel
theorem dX5_areaAt_13 : decode cX5_areaAt 13 = .ok (.iload_n 3, 1) := by decide +kernel
theorem dX5_areaAt_14 : decode cX5_areaAt 14 = .ok (.invokevirtual 79, 3) := by decide +kernel
theorem dX5_areaAt_17 : decode cX5_areaAt 17 = .ok (.aload_n 0, 1) := by decide +kernel
theorem dX5_areaAt_18 : decode cX5_areaAt 18 = .ok (.iload_n 1, 1) := by decide +kernel
theorem dX5_areaAt_19 : decode cX5_areaAt 19 = .ok (.iload_n 3, 1) := by decide +kernel
theorem dX5_areaAt_20 : decode cX5_areaAt 20 = .ok (.iconst 1, 1) := by decide +kernel
theorem dX5_areaAt_21 : decode cX5_areaAt 21 = .ok (.iadd, 1) := by decide +kernel
theorem dX5_areaAt_22 : decode cX5_areaAt 22 = .ok (.invokevirtual 79, 3) := by decide +kernel
theorem dX5_areaAt_25 : decode cX5_areaAt 25 = .ok (.iadd, 1) := by decide +kernel
theorem dX5_areaAt_26 : decode cX5_areaAt 26 = .ok (.iadd, 1) := by decide +kernel
theorem dX5_areaAt_27 : decode cX5_areaAt 27 = .ok (.istore_n 2, 1) := by decide +kernel
theorem dX5_areaAt_28 : decode cX5_areaAt 28 = .ok (.iinc 3 1, 3) := by decide +kernel
theorem dX5_areaAt_31 : decode cX5_areaAt 31 = .ok (.goto (-27), 3) := by decide +kernel
theorem dX5_areaAt_34 : decode cX5_areaAt 34 = .ok (.iload_n 2, 1) := by decide +kernel
theorem dX5_areaAt_35 : decode cX5_areaAt 35 = .ok (.ireturn, 1) := by decide +kernel
theorem dX5_part_0 : decode cX5_part 0 = .ok (.iload_n 0, 1) := by decide +kernel
theorem dX5_part_1 : decode cX5_part 1 = .ok (.ifCond .lt 19, 3) := by decide +kernel
theorem dX5_part_4 : decode cX5_part 4 = .ok (.iload_n 1, 1) := by decide +kernel
theorem dX5_part_5 : decode cX5_part 5 = .ok (.ifCond .lt 15, 3) := by decide +kernel
theorem dX5_part_8 : decode cX5_part 8 = .ok (.iload_n 2, 1) := by decide +kernel
theorem dX5_part_9 : decode cX5_part 9 = .ok (.ifCond .eq 9, 3) := by decide +kernel
theorem dX5_part_12 : decode cX5_part 12 = .ok (.iload_n 0, 1) := by decide +kernel
theorem dX5_part_13 : decode cX5_part 13 = .ok (.iload_n 1, 1) := by decide +kernel
theorem dX5_part_14 : decode cX5_part 14 = .ok (.iadd, 1) := by decide +kernel
theorem dX5_part_15 : decode cX5_part 15 = .ok (.goto 4, 3) := by decide +kernel
theorem dX5_part_18 : decode cX5_part 18 = .ok (.iconst 0, 1) := by decide +kernel
theorem dX5_part_19 : decode cX5_part 19 = .ok (.ireturn, 1) := by decide +kernel
theorem dX5_part_20 : decode cX5_part 20 = .ok (.iload_n 0, 1) := by decide +kernel
theorem dX5_part_21 : decode cX5_part 21 = .ok (.ifCond .gt 20, 3) := by decide +kernel
theorem dX5_part_24 : decode cX5_part 24 = .ok (.iload_n 1, 1) := by decide +kernel
theorem dX5_part_25 : decode cX5_part 25 = .ok (.ifCond .gt 16, 3) := by decide +kernel
theorem dX5_part_28 : decode cX5_part 28 = .ok (.iload_n 2, 1) := by decide +kernel
theorem dX5_part_29 : decode cX5_part 29 = .ok (.ifCond .eq 7, 3) := by decide +kernel
theorem dX5_part_32 : decode cX5_part 32 = .ok (.iconst 0, 1) := by decide +kernel
theorem dX5_part_33 : decode cX5_part 33 = .ok (.goto 7, 3) := by decide +kernel
theorem dX5_part_36 : decode cX5_part 36 = .ok (.iload_n 0, 1) := by decide +kernel
theorem dX5_part_37 : decode cX5_part 37 = .ok (.ineg, 1) := by decide +kernel
theorem dX5_part_38 : decode cX5_part 38 = .ok (.iload_n 1, 1) := by decide +kernel
theorem dX5_part_39 : decode cX5_part 39 = .ok (.isub, 1) := by decide +kernel
theorem dX5_part_40 : decode cX5_part 40 = .ok (.ireturn, 1) := by decide +kernel
theorem dX5_part_41 : decode cX5_part 41 = .ok (.iload_n 0, 1) := by decide +kernel
theorem dX5_part_42 : decode cX5_part 42 = .ok (.ifCond .le 7, 3) := by decide +kernel
theorem dX5_part_45 : decode cX5_part 45 = .ok (.iload_n 0, 1) := by decide +kernel
theorem dX5_part_46 : decode cX5_part 46 = .ok (.goto 4, 3) := by decide +kernel
theorem dX5_part_49 : decode cX5_part 49 = .ok (.iload_n 1, 1) := by decide +kernel
theorem dX5_part_50 : decode cX5_part 50 = .ok (.istore_n 3, 1) := by decide +kernel
theorem dX5_part_51 : decode cX5_part 51 = .ok (.iload_n 0, 1) := by decide +kernel
theorem dX5_part_52 : decode cX5_part 52 = .ok (.ifCond .le 8, 3) := by decide +kernel
theorem dX5_part_55 : decode cX5_part 55 = .ok (.iload_n 1, 1) := by decide +kernel
theorem dX5_part_56 : decode cX5_part 56 = .ok (.ineg, 1) := by decide +kernel
theorem dX5_part_57 : decode cX5_part 57 = .ok (.goto 5, 3) := by decide +kernel
theorem dX5_part_60 : decode cX5_part 60 = .ok (.iload_n 0, 1) := by decide +kernel
theorem dX5_part_61 : decode cX5_part 61 = .ok (.ineg, 1) := by decide +kernel
theorem dX5_part_62 : decode cX5_part 62 = .ok (.istore 4, 2) := by decide +kernel
theorem dX5_part_64 : decode cX5_part 64 = .ok (.iload_n 2, 1) := by decide +kernel
theorem dX5_part_65 : decode cX5_part 65 = .ok (.ifCond .eq 14, 3) := by decide +kernel
theorem dX5_part_68 : decode cX5_part 68 = .ok (.iload_n 3, 1) := by decide +kernel
theorem dX5_part_69 : decode cX5_part 69 = .ok (.iload_n 3, 1) := by decide +kernel
theorem dX5_part_70 : decode cX5_part 70 = .ok (.imul, 1) := by decide +kernel
theorem dX5_part_71 : decode cX5_part 71 = .ok (.iload_n 3, 1) := by decide +kernel
theorem dX5_part_72 : decode cX5_part 72 = .ok (.iload 4, 2) := by decide +kernel
theorem dX5_part_74 : decode cX5_part 74 = .ok (.iadd, 1) := by decide +kernel
theorem dX5_part_75 : decode cX5_part 75 = .ok (.idiv, 1) := by decide +kernel
theorem dX5_part_76 : decode cX5_part 76 = .ok (.goto 13, 3) := by decide +kernel
theorem dX5_part_79 : decode cX5_part 79 = .ok (.iload 4, 2) := by decide +kernel
theorem dX5_part_81 : decode cX5_part 81 = .ok (.iload 4, 2) := by decide +kernel
theorem dX5_part_83 : decode cX5_part 83 = .ok (.imul, 1) := by decide +kernel
theorem dX5_part_84 : decode cX5_part 84 = .ok (.iload_n 3, 1) := by decide +kernel
theorem dX5_part_85 : decode cX5_part 85 = .ok (.iload 4, 2) := by decide +kernel
theorem dX5_part_87 : decode cX5_part 87 = .ok (.iadd, 1) := by decide +kernel
theorem dX5_part_88 : decode cX5_part 88 = .ok (.idiv, 1) := by decide +kernel
theorem dX5_part_89 : decode cX5_part 89 = .ok (.ireturn, 1) := by decide +kernel
theorem dX5_parts_0 : decode cX5_parts 0 = .ok (.iconst 0, 1) := by decide +kernel
theorem dX5_parts_1 : decode cX5_parts 1 = .ok (.istore_n 3, 1) := by decide +kernel
theorem dX5_parts_2 : decode cX5_parts 2 = .ok (.iconst 0, 1) := by decide +kernel
theorem dX5_parts_3 : decode cX5_parts 3 = .ok (.istore 4, 2) := by decide +kernel
theorem dX5_parts_5 : decode cX5_parts 5 = .ok (.iload 4, 2) := by decide +kernel
theorem dX5_parts_7 : decode cX5_parts 7 = .ok (.bipush 20, 2) := by decide +kernel
theorem dX5_parts_9 : decode cX5_parts 9 = .ok (.if_icmp .ge 32, 3) := by decide +kernel
theorem dX5_parts_12 : decode cX5_parts 12 = .ok (.iload_n 3, 1) := by decide +kernel
theorem dX5_parts_13 : decode cX5_parts 13 = .ok (.aload_n 0, 1) := by decide +kernel
theorem dX5_parts_14 : decode cX5_parts 14 = .ok (.iload_n 1, 1) := by decide +kernel
theorem dX5_parts_15 : decode cX5_parts 15 = .ok (.iload 4, 2) := by decide +kernel
theorem dX5_parts_17 : decode cX5_parts 17 = .ok (.invokevirtual 79, 3) := by decide +kernel
theorem dX5_parts_20 : decode cX5_parts 20 = .ok (.aload_n 0, 1) := by decide +kernel
theorem dX5_parts_21 : decode cX5_parts 21 = .ok (.iload_n 1, 1) := by decide +kernel
theorem dX5_parts_22 : decode cX5_parts 22 = .ok (.iload 4, 2) := by decide +kernel
theorem dX5_parts_24 : decode cX5_parts 24 = .ok (.iconst 1, 1) := by decide +kernel
theorem dX5_parts_25 : decode cX5_parts 25 = .ok (.iadd, 1) := by decide +kernel
theorem dX5_parts_26 : decode cX5_parts 26 = .ok (.invokevirtual 79, 3) := by decide +kernel
theorem dX5_parts_29 : decode cX5_parts 29 = .ok (.iload_n 2, 1) := by decide +kernel
theorem dX5_parts_30 : decode cX5_parts 30 = .ok (.invokestatic 82, 3) := by decide +kernel
theorem dX5_parts_33 : decode cX5_parts 33 = .ok (.iadd, 1) := by decide +kernel
theorem dX5_parts_34 : decode cX5_parts 34 = .ok (.istore_n 3, 1) := by decide +kernel
theorem dX5_parts_35 : decode cX5_parts 35 = .ok (.iinc 4 1, 3) := by decide +kernel
theorem dX5_parts_38 : decode cX5_parts 38 = .ok (.goto (-33), 3) := by decide +kernel
theorem dX5_parts_41 : decode cX5_parts 41 = .ok (.iload_n 3, 1) := by decide +kernel
theorem dX5_parts_42 : decode cX5_parts 42 = .ok (.ireturn, 1) := by decide +kernel
theorem dX5_powerOf_0 : decode cX5_powerOf 0 = .ok (.iload_n 1, 1) := by decide +kernel
theorem dX5_powerOf_1 : decode cX5_powerOf 1 = .ok (.i2l, 1) := by decide +kernel
theorem dX5_powerOf_2 : decode cX5_powerOf 2 = .ok (.aload_n 0, 1) := by decide +kernel
theorem dX5_powerOf_3 : decode cX5_powerOf 3 = .ok (.getfield 7, 3) := by decide +kernel
theorem dX5_powerOf_6 : decode cX5_powerOf 6 = .ok (.iconst 1, 1) := by decide +kernel
theorem dX5_powerOf_7 : decode cX5_powerOf 7 = .ok (.iload_n 2, 1) := by decide +kernel
theorem dX5_powerOf_8 : decode cX5_powerOf 8 = .ok (.iadd, 1) := by decide +kernel
theorem dX5_powerOf_9 : decode cX5_powerOf 9 = .ok (.iaload, 1) := by decide +kernel
theorem dX5_powerOf_10 : decode cX5_powerOf 10 = .ok (.i2l, 1) := by decide +kernel
theorem dX5_powerOf_11 : decode cX5_powerOf 11 = .ok (.lmul, 1) := by decide +kernel
theorem dX5_powerOf_12 : decode cX5_powerOf 12 = .ok (.aload_n 0, 1) := by decide +kernel
theorem dX5_powerOf_13 : decode cX5_powerOf 13 = .ok (.getfield 7, 3) := by decide +kernel
theorem dX5_powerOf_16 : decode cX5_powerOf 16 = .ok (.iconst 3, 1) := by decide +kernel
theorem dX5_powerOf_17 : decode cX5_powerOf 17 = .ok (.iaload, 1) := by decide +kernel
theorem dX5_powerOf_18 : decode cX5_powerOf 18 = .ok (.i2l, 1) := by decide +kernel
theorem dX5_powerOf_19 : decode cX5_powerOf 19 = .ok (.lmul, 1) := by decide +kernel
theorem dX5_powerOf_20 : decode cX5_powerOf 20 = .ok (.iload_n 3, 1) := by decide +kernel
theorem dX5_powerOf_21 : decode cX5_powerOf 21 = .ok (.i2l, 1) := by decide +kernel
theorem dX5_powerOf_22 : decode cX5_powerOf 22 = .ok (.lmul, 1) := by decide +kernel
theorem dX5_powerOf_23 : decode cX5_powerOf 23 = .ok (.ldc2_w 86, 3) := by decide +kernel
theorem dX5_powerOf_26 : decode cX5_powerOf 26 = .ok (.invokestatic 42, 3) := by decide +kernel
theorem dX5_powerOf_29 : decode cX5_powerOf 29 = .ok (.lreturn, 1) := by decide +kernel
theorem dX5_area_0 : decode cX5_area 0 = .ok (.aload_n 0, 1) := by decide +kernel
theorem dX5_area_1 : decode cX5_area 1 = .ok (.iload_n 1, 1) := by decide +kernel
theorem dX5_area_2 : decode cX5_area 2 = .ok (.invokevirtual 72, 3) := by decide +kernel
theorem dX5_area_5 : decode cX5_area 5 = .ok (.ifCond .eq 14, 3) := by decide +kernel
theorem dX5_area_8 : decode cX5_area 8 = .ok (.aload_n 0, 1) := by decide +kernel
theorem dX5_area_9 : decode cX5_area 9 = .ok (.iload_n 1, 1) := by decide +kernel
theorem dX5_area_10 : decode cX5_area 10 = .ok (.invokestatic 49, 3) := by decide +kernel
theorem dX5_area_13 : decode cX5_area 13 = .ok (.invokevirtual 88, 3) := by decide +kernel
theorem dX5_area_16 : decode cX5_area 16 = .ok (.goto 5, 3) := by decide +kernel
theorem dX5_area_19 : decode cX5_area 19 = .ok (.ldc 26, 2) := by decide +kernel
theorem dX5_area_21 : decode cX5_area 21 = .ok (.ireturn, 1) := by decide +kernel
theorem dX5_forwardArea_0 : decode cX5_forwardArea 0 = .ok (.aload_n 0, 1) := by decide +kernel
theorem dX5_forwardArea_1 : decode cX5_forwardArea 1 = .ok (.iload_n 1, 1) := by decide +kernel
theorem dX5_forwardArea_2 : decode cX5_forwardArea 2 = .ok (.invokevirtual 72, 3) := by decide +kernel
theorem dX5_forwardArea_5 : decode cX5_forwardArea 5 = .ok (.ifCond .eq 15, 3) := by decide +kernel
theorem dX5_forwardArea_8 : decode cX5_forwardArea 8 = .ok (.aload_n 0, 1) := by decide +kernel
theorem dX5_forwardArea_9 : decode cX5_forwardArea 9 = .ok (.iload_n 1, 1) := by decide +kernel
theorem dX5_forwardArea_10 : decode cX5_forwardArea 10 = .ok (.invokestatic 49, 3) := by decide +kernel
theorem dX5_forwardArea_13 : decode cX5_forwardArea 13 = .ok (.iconst 1, 1) := by decide +kernel
theorem dX5_forwardArea_14 : decode cX5_forwardArea 14 = .ok (.invokevirtual 91, 3) := by decide +kernel
theorem dX5_forwardArea_17 : decode cX5_forwardArea 17 = .ok (.goto 5, 3) := by decide +kernel
theorem dX5_forwardArea_20 : decode cX5_forwardArea 20 = .ok (.ldc 26, 2) := by decide +kernel
theorem dX5_forwardArea_22 : decode cX5_forwardArea 22 = .ok (.ireturn, 1) := by decide +kernel
theorem dX5_loopArea_0 : decode cX5_loopArea 0 = .ok (.aload_n 0, 1) := by decide +kernel
theorem dX5_loopArea_1 : decode cX5_loopArea 1 = .ok (.iload_n 1, 1) := by decide +kernel
theorem dX5_loopArea_2 : decode cX5_loopArea 2 = .ok (.invokevirtual 72, 3) := by decide +kernel
theorem dX5_loopArea_5 : decode cX5_loopArea 5 = .ok (.ifCond .eq 15, 3) := by decide +kernel
theorem dX5_loopArea_8 : decode cX5_loopArea 8 = .ok (.aload_n 0, 1) := by decide +kernel
theorem dX5_loopArea_9 : decode cX5_loopArea 9 = .ok (.iload_n 1, 1) := by decide +kernel
theorem dX5_loopArea_10 : decode cX5_loopArea 10 = .ok (.invokestatic 49, 3) := by decide +kernel
theorem dX5_loopArea_13 : decode cX5_loopArea 13 = .ok (.iconst 0, 1) := by decide +kernel
theorem dX5_loopArea_14 : decode cX5_loopArea 14 = .ok (.invokevirtual 91, 3) := by decide +kernel
theorem dX5_loopArea_17 : decode cX5_loopArea 17 = .ok (.goto 5, 3) := by decide +kernel
theorem dX5_loopArea_20 : decode cX5_loopArea 20 = .ok (.ldc 26, 2) := by decide +kernel
theorem dX5_loopArea_22 : decode cX5_loopArea 22 = .ok (.ireturn, 1) := by decide +kernel
theorem dX5_loopStations_0 : decode cX5_loopStations 0 = .ok (.aload_n 0, 1) := by decide +kernel
theorem dX5_loopStations_1 : decode cX5_loopStations 1 = .ok (.iload_n 1, 1) := by decide +kernel
theorem dX5_loopStations_2 : decode cX5_loopStations 2 = .ok (.invokevirtual 72, 3) := by decide +kernel
theorem dX5_loopStations_5 : decode cX5_loopStations 5 = .ok (.ifCond .ne 6, 3) := by decide +kernel
theorem dX5_loopStations_8 : decode cX5_loopStations 8 = .ok (.ldc 26, 2) := by decide +kernel
theorem dX5_loopStations_10 : decode cX5_loopStations 10 = .ok (.ireturn, 1) := by decide +kernel
theorem dX5_loopStations_11 : decode cX5_loopStations 11 = .ok (.iconst 0, 1) := by decide +kernel
theorem dX5_loopStations_12 : decode cX5_loopStations 12 = .ok (.istore_n 2, 1) := by decide +kernel
theorem dX5_loopStations_13 : decode cX5_loopStations 13 = .ok (.iconst 0, 1) := by decide +kernel
theorem dX5_loopStations_14 : decode cX5_loopStations 14 = .ok (.istore_n 3, 1) := by decide +kernel
theorem dX5_loopStations_15 : decode cX5_loopStations 15 = .ok (.iload_n 3, 1) := by decide +kernel
theorem dX5_loopStations_16 : decode cX5_loopStations 16 = .ok (.bipush 21, 2) := by decide +kernel
theorem dX5_loopStations_18 : decode cX5_loopStations 18 = .ok (.if_icmp .ge 31, 3) := by decide +kernel
theorem dX5_loopStations_21 : decode cX5_loopStations 21 = .ok (.iload_n 2, 1) := by decide +kernel
theorem dX5_loopStations_22 : decode cX5_loopStations 22 = .ok (.aload_n 0, 1) := by decide +kernel
theorem dX5_loopStations_23 : decode cX5_loopStations 23 = .ok (.iload_n 1, 1) := by decide +kernel
theorem dX5_loopStations_24 : decode cX5_loopStations 24 = .ok (.invokestatic 49, 3) := by decide +kernel
theorem dX5_loopStations_27 : decode cX5_loopStations 27 = .ok (.iload_n 3, 1) := by decide +kernel
theorem dX5_loopStations_28 : decode cX5_loopStations 28 = .ok (.invokevirtual 79, 3) := by decide +kernel
theorem dX5_loopStations_31 : decode cX5_loopStations 31 = .ok (.ifCond .ge 9, 3) := by decide +kernel
theorem dX5_loopStations_34 : decode cX5_loopStations 34 = .ok (.iconst 1, 1) := by decide +kernel
theorem dX5_loopStations_35 : decode cX5_loopStations 35 = .ok (.iload_n 3, 1) := by decide +kernel
theorem dX5_loopStations_36 : decode cX5_loopStations 36 = .ok (.ishl, 1) := by decide +kernel
theorem dX5_loopStations_37 : decode cX5_loopStations 37 = .ok (.goto 4, 3) := by decide +kernel
theorem dX5_loopStations_40 : decode cX5_loopStations 40 = .ok (.iconst 0, 1) := by decide +kernel
theorem dX5_loopStations_41 : decode cX5_loopStations 41 = .ok (.ior, 1) := by decide +kernel
theorem dX5_loopStations_42 : decode cX5_loopStations 42 = .ok (.istore_n 2, 1) := by decide +kernel
theorem dX5_loopStations_43 : decode cX5_loopStations 43 = .ok (.iinc 3 1, 3) := by decide +kernel
theorem dX5_loopStations_46 : decode cX5_loopStations 46 = .ok (.goto (-31), 3) := by decide +kernel
theorem dX5_loopStations_49 : decode cX5_loopStations 49 = .ok (.iload_n 2, 1) := by decide +kernel
theorem dX5_loopStations_50 : decode cX5_loopStations 50 = .ok (.ireturn, 1) := by decide +kernel
theorem dX5_meanPressure_0 : decode cX5_meanPressure 0 = .ok (.aload_n 0, 1) := by decide +kernel
theorem dX5_meanPressure_1 : decode cX5_meanPressure 1 = .ok (.iload_n 1, 1) := by decide +kernel
theorem dX5_meanPressure_2 : decode cX5_meanPressure 2 = .ok (.invokevirtual 72, 3) := by decide +kernel
theorem dX5_meanPressure_5 : decode cX5_meanPressure 5 = .ok (.ifCond .eq 26, 3) := by decide +kernel
theorem dX5_meanPressure_8 : decode cX5_meanPressure 8 = .ok (.aload_n 0, 1) := by decide +kernel
theorem dX5_meanPressure_9 : decode cX5_meanPressure 9 = .ok (.iload_n 1, 1) := by decide +kernel
theorem dX5_meanPressure_10 : decode cX5_meanPressure 10 = .ok (.invokestatic 49, 3) := by decide +kernel
theorem dX5_meanPressure_13 : decode cX5_meanPressure 13 = .ok (.invokevirtual 88, 3) := by decide +kernel
theorem dX5_meanPressure_16 : decode cX5_meanPressure 16 = .ok (.i2l, 1) := by decide +kernel
theorem dX5_meanPressure_17 : decode cX5_meanPressure 17 = .ok (.ldc2_w 63, 3) := by decide +kernel
theorem dX5_meanPressure_20 : decode cX5_meanPressure 20 = .ok (.lmul, 1) := by decide +kernel
theorem dX5_meanPressure_21 : decode cX5_meanPressure 21 = .ok (.ldc2_w 95, 3) := by decide +kernel
theorem dX5_meanPressure_24 : decode cX5_meanPressure 24 = .ok (.invokestatic 42, 3) := by decide +kernel
theorem dX5_meanPressure_27 : decode cX5_meanPressure 27 = .ok (.l2i, 1) := by decide +kernel
theorem dX5_meanPressure_28 : decode cX5_meanPressure 28 = .ok (.goto 5, 3) := by decide +kernel
theorem dX5_meanPressure_31 : decode cX5_meanPressure 31 = .ok (.ldc 26, 2) := by decide +kernel
theorem dX5_meanPressure_33 : decode cX5_meanPressure 33 = .ok (.ireturn, 1) := by decide +kernel
theorem dX5_powerAt_0 : decode cX5_powerAt 0 = .ok (.aload_n 0, 1) := by decide +kernel
theorem dX5_powerAt_1 : decode cX5_powerAt 1 = .ok (.aload_n 0, 1) := by decide +kernel
theorem dX5_powerAt_2 : decode cX5_powerAt 2 = .ok (.iload_n 1, 1) := by decide +kernel
theorem dX5_powerAt_3 : decode cX5_powerAt 3 = .ok (.invokestatic 49, 3) := by decide +kernel
theorem dX5_powerAt_6 : decode cX5_powerAt 6 = .ok (.invokevirtual 88, 3) := by decide +kernel
theorem dX5_powerAt_9 : decode cX5_powerAt 9 = .ok (.aload_n 0, 1) := by decide +kernel
theorem dX5_powerAt_10 : decode cX5_powerAt 10 = .ok (.getfield 7, 3) := by decide +kernel
theorem dX5_powerAt_13 : decode cX5_powerAt 13 = .ok (.iload_n 1, 1) := by decide +kernel
theorem dX5_powerAt_14 : decode cX5_powerAt 14 = .ok (.invokestatic 46, 3) := by decide +kernel
theorem dX5_powerAt_17 : decode cX5_powerAt 17 = .ok (.iaload, 1) := by decide +kernel
theorem dX5_powerAt_18 : decode cX5_powerAt 18 = .ok (.aload_n 0, 1) := by decide +kernel
theorem dX5_powerAt_19 : decode cX5_powerAt 19 = .ok (.getfield 7, 3) := by decide +kernel
theorem dX5_powerAt_22 : decode cX5_powerAt 22 = .ok (.iload_n 1, 1) := by decide +kernel
theorem dX5_powerAt_23 : decode cX5_powerAt 23 = .ok (.invokestatic 46, 3) := by decide +kernel
theorem dX5_powerAt_26 : decode cX5_powerAt 26 = .ok (.iconst 1, 1) := by decide +kernel
theorem dX5_powerAt_27 : decode cX5_powerAt 27 = .ok (.iadd, 1) := by decide +kernel
theorem dX5_powerAt_28 : decode cX5_powerAt 28 = .ok (.iaload, 1) := by decide +kernel
theorem dX5_powerAt_29 : decode cX5_powerAt 29 = .ok (.invokevirtual 97, 3) := by decide +kernel
theorem dX5_powerAt_32 : decode cX5_powerAt 32 = .ok (.lreturn, 1) := by decide +kernel
theorem dX5_power_0 : decode cX5_power 0 = .ok (.aload_n 0, 1) := by decide +kernel
theorem dX5_power_1 : decode cX5_power 1 = .ok (.iload_n 1, 1) := by decide +kernel
theorem dX5_power_2 : decode cX5_power 2 = .ok (.invokevirtual 72, 3) := by decide +kernel
theorem dX5_power_5 : decode cX5_power 5 = .ok (.ifCond .eq 11, 3) := by decide +kernel
theorem dX5_power_8 : decode cX5_power 8 = .ok (.aload_n 0, 1) := by decide +kernel
theorem dX5_power_9 : decode cX5_power 9 = .ok (.iload_n 1, 1) := by decide +kernel
theorem dX5_power_10 : decode cX5_power 10 = .ok (.invokevirtual 101, 3) := by decide +kernel
theorem dX5_power_13 : decode cX5_power 13 = .ok (.goto 6, 3) := by decide +kernel
theorem dX5_power_16 : decode cX5_power 16 = .ok (.ldc2_w 105, 3) := by decide +kernel
theorem dX5_power_19 : decode cX5_power 19 = .ok (.lreturn, 1) := by decide +kernel
theorem dX5_extreme_0 : decode cX5_extreme 0 = .ok (.aload_n 0, 1) := by decide +kernel
theorem dX5_extreme_1 : decode cX5_extreme 1 = .ok (.getfield 7, 3) := by decide +kernel
theorem dX5_extreme_4 : decode cX5_extreme 4 = .ok (.iload_n 1, 1) := by decide +kernel
theorem dX5_extreme_5 : decode cX5_extreme 5 = .ok (.iaload, 1) := by decide +kernel
theorem dX5_extreme_6 : decode cX5_extreme 6 = .ok (.istore_n 3, 1) := by decide +kernel
theorem dX5_extreme_7 : decode cX5_extreme 7 = .ok (.iconst 1, 1) := by decide +kernel
theorem dX5_extreme_8 : decode cX5_extreme 8 = .ok (.istore 4, 2) := by decide +kernel
theorem dX5_extreme_10 : decode cX5_extreme 10 = .ok (.iload 4, 2) := by decide +kernel
theorem dX5_extreme_12 : decode cX5_extreme 12 = .ok (.bipush 21, 2) := by decide +kernel
theorem dX5_extreme_14 : decode cX5_extreme 14 = .ok (.if_icmp .ge 73, 3) := by decide +kernel
theorem dX5_extreme_17 : decode cX5_extreme 17 = .ok (.iload_n 2, 1) := by decide +kernel
theorem dX5_extreme_18 : decode cX5_extreme 18 = .ok (.ifCond .eq 24, 3) := by decide +kernel
theorem dX5_extreme_21 : decode cX5_extreme 21 = .ok (.aload_n 0, 1) := by decide +kernel
theorem dX5_extreme_22 : decode cX5_extreme 22 = .ok (.getfield 7, 3) := by decide +kernel
theorem dX5_extreme_25 : decode cX5_extreme 25 = .ok (.iload_n 1, 1) := by decide +kernel
theorem dX5_extreme_26 : decode cX5_extreme 26 = .ok (.iload 4, 2) := by decide +kernel
theorem dX5_extreme_28 : decode cX5_extreme 28 = .ok (.iadd, 1) := by decide +kernel
theorem dX5_extreme_29 : decode cX5_extreme 29 = .ok (.iaload, 1) := by decide +kernel
theorem dX5_extreme_30 : decode cX5_extreme 30 = .ok (.iload_n 3, 1) := by decide +kernel
theorem dX5_extreme_31 : decode cX5_extreme 31 = .ok (.if_icmp .le 7, 3) := by decide +kernel
theorem dX5_extreme_34 : decode cX5_extreme 34 = .ok (.iconst 1, 1) := by decide +kernel
theorem dX5_extreme_35 : decode cX5_extreme 35 = .ok (.goto 25, 3) := by decide +kernel
theorem dX5_extreme_38 : decode cX5_extreme 38 = .ok (.iconst 0, 1) := by decide +kernel
theorem dX5_extreme_39 : decode cX5_extreme 39 = .ok (.goto 21, 3) := by decide +kernel
theorem dX5_extreme_42 : decode cX5_extreme 42 = .ok (.aload_n 0, 1) := by decide +kernel
theorem dX5_extreme_43 : decode cX5_extreme 43 = .ok (.getfield 7, 3) := by decide +kernel
theorem dX5_extreme_46 : decode cX5_extreme 46 = .ok (.iload_n 1, 1) := by decide +kernel
theorem dX5_extreme_47 : decode cX5_extreme 47 = .ok (.iload 4, 2) := by decide +kernel
theorem dX5_extreme_49 : decode cX5_extreme 49 = .ok (.iadd, 1) := by decide +kernel
theorem dX5_extreme_50 : decode cX5_extreme 50 = .ok (.iaload, 1) := by decide +kernel
theorem dX5_extreme_51 : decode cX5_extreme 51 = .ok (.iload_n 3, 1) := by decide +kernel
theorem dX5_extreme_52 : decode cX5_extreme 52 = .ok (.if_icmp .ge 7, 3) := by decide +kernel
theorem dX5_extreme_55 : decode cX5_extreme 55 = .ok (.iconst 1, 1) := by decide +kernel
theorem dX5_extreme_56 : decode cX5_extreme 56 = .ok (.goto 4, 3) := by decide +kernel
theorem dX5_extreme_59 : decode cX5_extreme 59 = .ok (.iconst 0, 1) := by decide +kernel
theorem dX5_extreme_60 : decode cX5_extreme 60 = .ok (.istore 5, 2) := by decide +kernel
theorem dX5_extreme_62 : decode cX5_extreme 62 = .ok (.iload 5, 2) := by decide +kernel
theorem dX5_extreme_64 : decode cX5_extreme 64 = .ok (.ifCond .eq 15, 3) := by decide +kernel
theorem dX5_extreme_67 : decode cX5_extreme 67 = .ok (.aload_n 0, 1) := by decide +kernel
theorem dX5_extreme_68 : decode cX5_extreme 68 = .ok (.getfield 7, 3) := by decide +kernel
theorem dX5_extreme_71 : decode cX5_extreme 71 = .ok (.iload_n 1, 1) := by decide +kernel
theorem dX5_extreme_72 : decode cX5_extreme 72 = .ok (.iload 4, 2) := by decide +kernel
theorem dX5_extreme_74 : decode cX5_extreme 74 = .ok (.iadd, 1) := by decide +kernel
theorem dX5_extreme_75 : decode cX5_extreme 75 = .ok (.iaload, 1) := by decide +kernel
theorem dX5_extreme_76 : decode cX5_extreme 76 = .ok (.goto 4, 3) := by decide +kernel
theorem dX5_extreme_79 : decode cX5_extreme 79 = .ok (.iload_n 3, 1) := by decide +kernel
theorem dX5_extreme_80 : decode cX5_extreme 80 = .ok (.istore_n 3, 1) := by decide +kernel
theorem dX5_extreme_81 : decode cX5_extreme 81 = .ok (.iinc 4 1, 3) := by decide +kernel
theorem dX5_extreme_84 : decode cX5_extreme 84 = .ok (.goto (-74), 3) := by decide +kernel
theorem dX5_extreme_87 : decode cX5_extreme 87 = .ok (.iload_n 3, 1) := by decide +kernel
theorem dX5_extreme_88 : decode cX5_extreme 88 = .ok (.ireturn, 1) := by decide +kernel
theorem dX5_admission_0 : decode cX5_admission 0 = .ok (.aload_n 0, 1) := by decide +kernel
theorem dX5_admission_1 : decode cX5_admission 1 = .ok (.iload_n 1, 1) := by decide +kernel
theorem dX5_admission_2 : decode cX5_admission 2 = .ok (.iconst 1, 1) := by decide +kernel
theorem dX5_admission_3 : decode cX5_admission 3 = .ok (.invokevirtual 107, 3) := by decide +kernel
theorem dX5_admission_6 : decode cX5_admission 6 = .ok (.aload_n 0, 1) := by decide +kernel
theorem dX5_admission_7 : decode cX5_admission 7 = .ok (.getfield 7, 3) := by decide +kernel
theorem dX5_admission_10 : decode cX5_admission 10 = .ok (.bipush 6, 2) := by decide +kernel
theorem dX5_admission_12 : decode cX5_admission 12 = .ok (.iaload, 1) := by decide +kernel
theorem dX5_admission_13 : decode cX5_admission 13 = .ok (.isub, 1) := by decide +kernel
theorem dX5_admission_14 : decode cX5_admission 14 = .ok (.istore_n 2, 1) := by decide +kernel
theorem dX5_admission_15 : decode cX5_admission 15 = .ok (.iconst 0, 1) := by decide +kernel
theorem dX5_admission_16 : decode cX5_admission 16 = .ok (.istore_n 3, 1) := by decide +kernel
theorem dX5_admission_17 : decode cX5_admission 17 = .ok (.aload_n 0, 1) := by decide +kernel
theorem dX5_admission_18 : decode cX5_admission 18 = .ok (.getfield 7, 3) := by decide +kernel
theorem dX5_admission_21 : decode cX5_admission 21 = .ok (.iload_n 1, 1) := by decide +kernel
theorem dX5_admission_22 : decode cX5_admission 22 = .ok (.iload_n 3, 1) := by decide +kernel
theorem dX5_admission_23 : decode cX5_admission 23 = .ok (.iadd, 1) := by decide +kernel
theorem dX5_admission_24 : decode cX5_admission 24 = .ok (.iaload, 1) := by decide +kernel
theorem dX5_admission_25 : decode cX5_admission 25 = .ok (.iload_n 2, 1) := by decide +kernel
theorem dX5_admission_26 : decode cX5_admission 26 = .ok (.if_icmp .ge 9, 3) := by decide +kernel
theorem dX5_admission_29 : decode cX5_admission 29 = .ok (.iinc 3 1, 3) := by decide +kernel
theorem dX5_admission_32 : decode cX5_admission 32 = .ok (.goto (-15), 3) := by decide +kernel
theorem dX5_admission_35 : decode cX5_admission 35 = .ok (.iload_n 3, 1) := by decide +kernel
theorem dX5_admission_36 : decode cX5_admission 36 = .ok (.ireturn, 1) := by decide +kernel
theorem dX5_cutOff_0 : decode cX5_cutOff 0 = .ok (.aload_n 0, 1) := by decide +kernel
theorem dX5_cutOff_1 : decode cX5_cutOff 1 = .ok (.iload_n 1, 1) := by decide +kernel
theorem dX5_cutOff_2 : decode cX5_cutOff 2 = .ok (.iconst 1, 1) := by decide +kernel
theorem dX5_cutOff_3 : decode cX5_cutOff 3 = .ok (.invokevirtual 107, 3) := by decide +kernel
theorem dX5_cutOff_6 : decode cX5_cutOff 6 = .ok (.aload_n 0, 1) := by decide +kernel
theorem dX5_cutOff_7 : decode cX5_cutOff 7 = .ok (.getfield 7, 3) := by decide +kernel
theorem dX5_cutOff_10 : decode cX5_cutOff 10 = .ok (.bipush 6, 2) := by decide +kernel
theorem dX5_cutOff_12 : decode cX5_cutOff 12 = .ok (.iaload, 1) := by decide +kernel
theorem dX5_cutOff_13 : decode cX5_cutOff 13 = .ok (.isub, 1) := by decide +kernel
theorem dX5_cutOff_14 : decode cX5_cutOff 14 = .ok (.istore_n 2, 1) := by decide +kernel
theorem dX5_cutOff_15 : decode cX5_cutOff 15 = .ok (.aload_n 0, 1) := by decide +kernel
theorem dX5_cutOff_16 : decode cX5_cutOff 16 = .ok (.iload_n 1, 1) := by decide +kernel
theorem dX5_cutOff_17 : decode cX5_cutOff 17 = .ok (.invokevirtual 110, 3) := by decide +kernel
theorem dX5_cutOff_20 : decode cX5_cutOff 20 = .ok (.istore_n 3, 1) := by decide +kernel
theorem dX5_cutOff_21 : decode cX5_cutOff 21 = .ok (.iload_n 3, 1) := by decide +kernel
theorem dX5_cutOff_22 : decode cX5_cutOff 22 = .ok (.bipush 20, 2) := by decide +kernel
theorem dX5_cutOff_24 : decode cX5_cutOff 24 = .ok (.if_icmp .ge 23, 3) := by decide +kernel
theorem dX5_cutOff_27 : decode cX5_cutOff 27 = .ok (.aload_n 0, 1) := by decide +kernel
theorem dX5_cutOff_28 : decode cX5_cutOff 28 = .ok (.getfield 7, 3) := by decide +kernel
theorem dX5_cutOff_31 : decode cX5_cutOff 31 = .ok (.iload_n 1, 1) := by decide +kernel
theorem dX5_cutOff_32 : decode cX5_cutOff 32 = .ok (.iload_n 3, 1) := by decide +kernel
theorem dX5_cutOff_33 : decode cX5_cutOff 33 = .ok (.iadd, 1) := by decide +kernel
theorem dX5_cutOff_34 : decode cX5_cutOff 34 = .ok (.iconst 1, 1) := by decide +kernel
theorem dX5_cutOff_35 : decode cX5_cutOff 35 = .ok (.iadd, 1) := by decide +kernel
theorem dX5_cutOff_36 : decode cX5_cutOff 36 = .ok (.iaload, 1) := by decide +kernel
theorem dX5_cutOff_37 : decode cX5_cutOff 37 = .ok (.iload_n 2, 1) := by decide +kernel
theorem dX5_cutOff_38 : decode cX5_cutOff 38 = .ok (.if_icmp .lt 9, 3) := by decide +kernel
theorem dX5_cutOff_41 : decode cX5_cutOff 41 = .ok (.iinc 3 1, 3) := by decide +kernel
theorem dX5_cutOff_44 : decode cX5_cutOff 44 = .ok (.goto (-23), 3) := by decide +kernel
theorem dX5_cutOff_47 : decode cX5_cutOff 47 = .ok (.iload_n 3, 1) := by decide +kernel
theorem dX5_cutOff_48 : decode cX5_cutOff 48 = .ok (.ireturn, 1) := by decide +kernel
theorem dX5_constantAt_0 : decode cX5_constantAt 0 = .ok (.aload_n 0, 1) := by decide +kernel
theorem dX5_constantAt_1 : decode cX5_constantAt 1 = .ok (.getfield 7, 3) := by decide +kernel
theorem dX5_constantAt_4 : decode cX5_constantAt 4 = .ok (.iload_n 1, 1) := by decide +kernel
theorem dX5_constantAt_5 : decode cX5_constantAt 5 = .ok (.iload_n 2, 1) := by decide +kernel
theorem dX5_constantAt_6 : decode cX5_constantAt 6 = .ok (.iadd, 1) := by decide +kernel
theorem dX5_constantAt_7 : decode cX5_constantAt 7 = .ok (.iaload, 1) := by decide +kernel
theorem dX5_constantAt_8 : decode cX5_constantAt 8 = .ok (.aload_n 0, 1) := by decide +kernel
theorem dX5_constantAt_9 : decode cX5_constantAt 9 = .ok (.iload_n 2, 1) := by decide +kernel
theorem dX5_constantAt_10 : decode cX5_constantAt 10 = .ok (.invokevirtual 60, 3) := by decide +kernel
theorem dX5_constantAt_13 : decode cX5_constantAt 13 = .ok (.imul, 1) := by decide +kernel
theorem dX5_constantAt_14 : decode cX5_constantAt 14 = .ok (.ireturn, 1) := by decide +kernel
theorem dX5_release_0 : decode cX5_release 0 = .ok (.aload_n 0, 1) := by decide +kernel
theorem dX5_release_1 : decode cX5_release 1 = .ok (.iload_n 1, 1) := by decide +kernel
theorem dX5_release_2 : decode cX5_release 2 = .ok (.invokevirtual 113, 3) := by decide +kernel
theorem dX5_release_5 : decode cX5_release 5 = .ok (.istore_n 2, 1) := by decide +kernel
theorem dX5_release_6 : decode cX5_release 6 = .ok (.aload_n 0, 1) := by decide +kernel
theorem dX5_release_7 : decode cX5_release 7 = .ok (.iload_n 1, 1) := by decide +kernel
theorem dX5_release_8 : decode cX5_release 8 = .ok (.iload_n 2, 1) := by decide +kernel
theorem dX5_release_9 : decode cX5_release 9 = .ok (.invokevirtual 116, 3) := by decide +kernel
theorem dX5_release_12 : decode cX5_release 12 = .ok (.bipush 100, 2) := by decide +kernel
theorem dX5_release_14 : decode cX5_release 14 = .ok (.aload_n 0, 1) := by decide +kernel
theorem dX5_release_15 : decode cX5_release 15 = .ok (.getfield 7, 3) := by decide +kernel
theorem dX5_release_18 : decode cX5_release 18 = .ok (.bipush 7, 2) := by decide +kernel
theorem dX5_release_20 : decode cX5_release 20 = .ok (.iaload, 1) := by decide +kernel
theorem dX5_release_21 : decode cX5_release 21 = .ok (.isub, 1) := by decide +kernel
theorem dX5_release_22 : decode cX5_release 22 = .ok (.imul, 1) := by decide +kernel
theorem dX5_release_23 : decode cX5_release 23 = .ok (.istore_n 3, 1) := by decide +kernel
theorem dX5_release_24 : decode cX5_release 24 = .ok (.iload_n 2, 1) := by decide +kernel
theorem dX5_release_25 : decode cX5_release 25 = .ok (.iconst 1, 1) := by decide +kernel
theorem dX5_release_26 : decode cX5_release 26 = .ok (.iadd, 1) := by decide +kernel
theorem dX5_release_27 : decode cX5_release 27 = .ok (.istore 4, 2) := by decide +kernel
theorem dX5_release_29 : decode cX5_release 29 = .ok (.iload 4, 2) := by decide +kernel
theorem dX5_release_31 : decode cX5_release 31 = .ok (.bipush 20, 2) := by decide +kernel
theorem dX5_release_33 : decode cX5_release 33 = .ok (.if_icmp .gt 23, 3) := by decide +kernel
theorem dX5_release_36 : decode cX5_release 36 = .ok (.aload_n 0, 1) := by decide +kernel
theorem dX5_release_37 : decode cX5_release 37 = .ok (.iload_n 1, 1) := by decide +kernel
theorem dX5_release_38 : decode cX5_release 38 = .ok (.iload 4, 2) := by decide +kernel
theorem dX5_release_40 : decode cX5_release 40 = .ok (.invokevirtual 116, 3) := by decide +kernel
theorem dX5_release_43 : decode cX5_release 43 = .ok (.bipush 100, 2) := by decide +kernel
theorem dX5_release_45 : decode cX5_release 45 = .ok (.imul, 1) := by decide +kernel
theorem dX5_release_46 : decode cX5_release 46 = .ok (.iload_n 3, 1) := by decide +kernel
theorem dX5_release_47 : decode cX5_release 47 = .ok (.if_icmp .lt 9, 3) := by decide +kernel
theorem dX5_release_50 : decode cX5_release 50 = .ok (.iinc 4 1, 3) := by decide +kernel
theorem dX5_release_53 : decode cX5_release 53 = .ok (.goto (-24), 3) := by decide +kernel
theorem dX5_release_56 : decode cX5_release 56 = .ok (.iload 4, 2) := by decide +kernel
theorem dX5_release_58 : decode cX5_release 58 = .ok (.bipush 20, 2) := by decide +kernel
theorem dX5_release_60 : decode cX5_release 60 = .ok (.if_icmp .le 8, 3) := by decide +kernel
theorem dX5_release_63 : decode cX5_release 63 = .ok (.bipush 20, 2) := by decide +kernel
theorem dX5_release_65 : decode cX5_release 65 = .ok (.goto 5, 3) := by decide +kernel
theorem dX5_release_68 : decode cX5_release 68 = .ok (.iload 4, 2) := by decide +kernel
theorem dX5_release_70 : decode cX5_release 70 = .ok (.ireturn, 1) := by decide +kernel
theorem dX5_compression_0 : decode cX5_compression 0 = .ok (.aload_n 0, 1) := by decide +kernel
theorem dX5_compression_1 : decode cX5_compression 1 = .ok (.iload_n 1, 1) := by decide +kernel
theorem dX5_compression_2 : decode cX5_compression 2 = .ok (.bipush 21, 2) := by decide +kernel
theorem dX5_compression_4 : decode cX5_compression 4 = .ok (.iadd, 1) := by decide +kernel
theorem dX5_compression_5 : decode cX5_compression 5 = .ok (.iconst 0, 1) := by decide +kernel
theorem dX5_compression_6 : decode cX5_compression 6 = .ok (.invokevirtual 107, 3) := by decide +kernel
theorem dX5_compression_9 : decode cX5_compression 9 = .ok (.aload_n 0, 1) := by decide +kernel
theorem dX5_compression_10 : decode cX5_compression 10 = .ok (.getfield 7, 3) := by decide +kernel
theorem dX5_compression_13 : decode cX5_compression 13 = .ok (.bipush 6, 2) := by decide +kernel
theorem dX5_compression_15 : decode cX5_compression 15 = .ok (.iaload, 1) := by decide +kernel
theorem dX5_compression_16 : decode cX5_compression 16 = .ok (.iadd, 1) := by decide +kernel
theorem dX5_compression_17 : decode cX5_compression 17 = .ok (.istore_n 2, 1) := by decide +kernel
theorem dX5_compression_18 : decode cX5_compression 18 = .ok (.bipush 21, 2) := by decide +kernel
theorem dX5_compression_20 : decode cX5_compression 20 = .ok (.istore_n 3, 1) := by decide +kernel
theorem dX5_compression_21 : decode cX5_compression 21 = .ok (.iload_n 3, 1) := by decide +kernel
theorem dX5_compression_22 : decode cX5_compression 22 = .ok (.ifCond .le 26, 3) := by decide +kernel
theorem dX5_compression_25 : decode cX5_compression 25 = .ok (.aload_n 0, 1) := by decide +kernel
theorem dX5_compression_26 : decode cX5_compression 26 = .ok (.getfield 7, 3) := by decide +kernel
theorem dX5_compression_29 : decode cX5_compression 29 = .ok (.iload_n 1, 1) := by decide +kernel
theorem dX5_compression_30 : decode cX5_compression 30 = .ok (.bipush 21, 2) := by decide +kernel
theorem dX5_compression_32 : decode cX5_compression 32 = .ok (.iadd, 1) := by decide +kernel
theorem dX5_compression_33 : decode cX5_compression 33 = .ok (.iload_n 3, 1) := by decide +kernel
theorem dX5_compression_34 : decode cX5_compression 34 = .ok (.iadd, 1) := by decide +kernel
theorem dX5_compression_35 : decode cX5_compression 35 = .ok (.iconst 1, 1) := by decide +kernel
theorem dX5_compression_36 : decode cX5_compression 36 = .ok (.isub, 1) := by decide +kernel
theorem dX5_compression_37 : decode cX5_compression 37 = .ok (.iaload, 1) := by decide +kernel
theorem dX5_compression_38 : decode cX5_compression 38 = .ok (.iload_n 2, 1) := by decide +kernel
theorem dX5_compression_39 : decode cX5_compression 39 = .ok (.if_icmp .gt 9, 3) := by decide +kernel
theorem dX5_compression_42 : decode cX5_compression 42 = .ok (.iinc 3 (-1), 3) := by decide +kernel
theorem dX5_compression_45 : decode cX5_compression 45 = .ok (.goto (-24), 3) := by decide +kernel
theorem dX5_compression_48 : decode cX5_compression 48 = .ok (.iload_n 3, 1) := by decide +kernel
theorem dX5_compression_49 : decode cX5_compression 49 = .ok (.bipush 20, 2) := by decide +kernel
theorem dX5_compression_51 : decode cX5_compression 51 = .ok (.if_icmp .le 8, 3) := by decide +kernel
theorem dX5_compression_54 : decode cX5_compression 54 = .ok (.bipush 20, 2) := by decide +kernel
theorem dX5_compression_56 : decode cX5_compression 56 = .ok (.goto 4, 3) := by decide +kernel
theorem dX5_compression_59 : decode cX5_compression 59 = .ok (.iload_n 3, 1) := by decide +kernel
theorem dX5_compression_60 : decode cX5_compression 60 = .ok (.ireturn, 1) := by decide +kernel
theorem dX5_eventOf_0 : decode cX5_eventOf 0 = .ok (.iload_n 1, 1) := by decide +kernel
theorem dX5_eventOf_1 : decode cX5_eventOf 1 = .ok (.invokestatic 49, 3) := by decide +kernel
theorem dX5_eventOf_4 : decode cX5_eventOf 4 = .ok (.istore_n 3, 1) := by decide +kernel
theorem dX5_eventOf_5 : decode cX5_eventOf 5 = .ok (.iload_n 2, 1) := by decide +kernel
theorem dX5_eventOf_6 : decode cX5_eventOf 6 = .ok (.ifCond .ne 11, 3) := by decide +kernel
theorem dX5_eventOf_9 : decode cX5_eventOf 9 = .ok (.aload_n 0, 1) := by decide +kernel
theorem dX5_eventOf_10 : decode cX5_eventOf 10 = .ok (.iload_n 3, 1) := by decide +kernel
theorem dX5_eventOf_11 : decode cX5_eventOf 11 = .ok (.invokevirtual 110, 3) := by decide +kernel
theorem dX5_eventOf_14 : decode cX5_eventOf 14 = .ok (.goto 34, 3) := by decide +kernel
theorem dX5_eventOf_17 : decode cX5_eventOf 17 = .ok (.iload_n 2, 1) := by decide +kernel
theorem dX5_eventOf_18 : decode cX5_eventOf 18 = .ok (.iconst 1, 1) := by decide +kernel
theorem dX5_eventOf_19 : decode cX5_eventOf 19 = .ok (.if_icmp .ne 11, 3) := by decide +kernel
theorem dX5_eventOf_22 : decode cX5_eventOf 22 = .ok (.aload_n 0, 1) := by decide +kernel
theorem dX5_eventOf_23 : decode cX5_eventOf 23 = .ok (.iload_n 3, 1) := by decide +kernel
theorem dX5_eventOf_24 : decode cX5_eventOf 24 = .ok (.invokevirtual 113, 3) := by decide +kernel
theorem dX5_eventOf_27 : decode cX5_eventOf 27 = .ok (.goto 21, 3) := by decide +kernel
theorem dX5_eventOf_30 : decode cX5_eventOf 30 = .ok (.iload_n 2, 1) := by decide +kernel
theorem dX5_eventOf_31 : decode cX5_eventOf 31 = .ok (.iconst 2, 1) := by decide +kernel
theorem dX5_eventOf_32 : decode cX5_eventOf 32 = .ok (.if_icmp .ne 11, 3) := by decide +kernel
theorem dX5_eventOf_35 : decode cX5_eventOf 35 = .ok (.aload_n 0, 1) := by decide +kernel
theorem dX5_eventOf_36 : decode cX5_eventOf 36 = .ok (.iload_n 3, 1) := by decide +kernel
theorem dX5_eventOf_37 : decode cX5_eventOf 37 = .ok (.invokevirtual 119, 3) := by decide +kernel
theorem dX5_eventOf_40 : decode cX5_eventOf 40 = .ok (.goto 8, 3) := by decide +kernel
theorem dX5_eventOf_43 : decode cX5_eventOf 43 = .ok (.aload_n 0, 1) := by decide +kernel
theorem dX5_eventOf_44 : decode cX5_eventOf 44 = .ok (.iload_n 3, 1) := by decide +kernel
theorem dX5_eventOf_45 : decode cX5_eventOf 45 = .ok (.invokevirtual 122, 3) := by decide +kernel
theorem dX5_eventOf_48 : decode cX5_eventOf 48 = .ok (.ireturn, 1) := by decide +kernel
theorem dX5_latenessOf_0 : decode cX5_latenessOf 0 = .ok (.aload_n 0, 1) := by decide +kernel
theorem dX5_latenessOf_1 : decode cX5_latenessOf 1 = .ok (.iload_n 1, 1) := by decide +kernel
theorem dX5_latenessOf_2 : decode cX5_latenessOf 2 = .ok (.iload_n 2, 1) := by decide +kernel
theorem dX5_latenessOf_3 : decode cX5_latenessOf 3 = .ok (.invokevirtual 125, 3) := by decide +kernel
theorem dX5_latenessOf_6 : decode cX5_latenessOf 6 = .ok (.aload_n 0, 1) := by decide +kernel
theorem dX5_latenessOf_7 : decode cX5_latenessOf 7 = .ok (.aload_n 0, 1) := by decide +kernel
theorem dX5_latenessOf_8 : decode cX5_latenessOf 8 = .ok (.getfield 7, 3) := by decide +kernel
theorem dX5_latenessOf_11 : decode cX5_latenessOf 11 = .ok (.iload_n 1, 1) := by decide +kernel
theorem dX5_latenessOf_12 : decode cX5_latenessOf 12 = .ok (.invokestatic 46, 3) := by decide +kernel
theorem dX5_latenessOf_15 : decode cX5_latenessOf 15 = .ok (.iaload, 1) := by decide +kernel
theorem dX5_latenessOf_16 : decode cX5_latenessOf 16 = .ok (.iload_n 2, 1) := by decide +kernel
theorem dX5_latenessOf_17 : decode cX5_latenessOf 17 = .ok (.invokevirtual 65, 3) := by decide +kernel
theorem dX5_latenessOf_20 : decode cX5_latenessOf 20 = .ok (.isub, 1) := by decide +kernel
theorem dX5_latenessOf_21 : decode cX5_latenessOf 21 = .ok (.istore_n 3, 1) := by decide +kernel
theorem dX5_latenessOf_22 : decode cX5_latenessOf 22 = .ok (.iload_n 2, 1) := by decide +kernel
theorem dX5_latenessOf_23 : decode cX5_latenessOf 23 = .ok (.iconst 3, 1) := by decide +kernel
theorem dX5_latenessOf_24 : decode cX5_latenessOf 24 = .ok (.if_icmp .ne 8, 3) := by decide +kernel
theorem dX5_latenessOf_27 : decode cX5_latenessOf 27 = .ok (.iload_n 3, 1) := by decide +kernel
theorem dX5_latenessOf_28 : decode cX5_latenessOf 28 = .ok (.ineg, 1) := by decide +kernel
theorem dX5_latenessOf_29 : decode cX5_latenessOf 29 = .ok (.goto 4, 3) := by decide +kernel
theorem dX5_latenessOf_32 : decode cX5_latenessOf 32 = .ok (.iload_n 3, 1) := by decide +kernel
theorem dX5_latenessOf_33 : decode cX5_latenessOf 33 = .ok (.ireturn, 1) := by decide +kernel
theorem dX5_event_0 : decode cX5_event 0 = .ok (.aload_n 0, 1) := by decide +kernel
theorem dX5_event_1 : decode cX5_event 1 = .ok (.iload_n 1, 1) := by decide +kernel
theorem dX5_event_2 : decode cX5_event 2 = .ok (.invokevirtual 72, 3) := by decide +kernel
theorem dX5_event_5 : decode cX5_event 5 = .ok (.ifCond .eq 21, 3) := by decide +kernel
theorem dX5_event_8 : decode cX5_event 8 = .ok (.iload_n 2, 1) := by decide +kernel
theorem dX5_event_9 : decode cX5_event 9 = .ok (.iconst 0, 1) := by decide +kernel
theorem dX5_event_10 : decode cX5_event 10 = .ok (.iconst 3, 1) := by decide +kernel
theorem dX5_event_11 : decode cX5_event 11 = .ok (.invokestatic 13, 3) := by decide +kernel
theorem dX5_event_14 : decode cX5_event 14 = .ok (.ifCond .eq 12, 3) := by decide +kernel
theorem dX5_event_17 : decode cX5_event 17 = .ok (.aload_n 0, 1) := by decide +kernel
theorem dX5_event_18 : decode cX5_event 18 = .ok (.iload_n 1, 1) := by decide +kernel
theorem dX5_event_19 : decode cX5_event 19 = .ok (.iload_n 2, 1) := by decide +kernel
theorem dX5_event_20 : decode cX5_event 20 = .ok (.invokevirtual 125, 3) := by decide +kernel
theorem dX5_event_23 : decode cX5_event 23 = .ok (.goto 5, 3) := by decide +kernel
theorem dX5_event_26 : decode cX5_event 26 = .ok (.ldc 26, 2) := by decide +kernel
theorem dX5_event_28 : decode cX5_event 28 = .ok (.ireturn, 1) := by decide +kernel
theorem dX5_lateness_0 : decode cX5_lateness 0 = .ok (.aload_n 0, 1) := by decide +kernel
theorem dX5_lateness_1 : decode cX5_lateness 1 = .ok (.iload_n 1, 1) := by decide +kernel
theorem dX5_lateness_2 : decode cX5_lateness 2 = .ok (.invokevirtual 72, 3) := by decide +kernel
theorem dX5_lateness_5 : decode cX5_lateness 5 = .ok (.ifCond .eq 21, 3) := by decide +kernel
theorem dX5_lateness_8 : decode cX5_lateness 8 = .ok (.iload_n 2, 1) := by decide +kernel
theorem dX5_lateness_9 : decode cX5_lateness 9 = .ok (.iconst 0, 1) := by decide +kernel
theorem dX5_lateness_10 : decode cX5_lateness 10 = .ok (.iconst 3, 1) := by decide +kernel
theorem dX5_lateness_11 : decode cX5_lateness 11 = .ok (.invokestatic 13, 3) := by decide +kernel
theorem dX5_lateness_14 : decode cX5_lateness 14 = .ok (.ifCond .eq 12, 3) := by decide +kernel
theorem dX5_lateness_17 : decode cX5_lateness 17 = .ok (.aload_n 0, 1) := by decide +kernel
theorem dX5_lateness_18 : decode cX5_lateness 18 = .ok (.iload_n 1, 1) := by decide +kernel
theorem dX5_lateness_19 : decode cX5_lateness 19 = .ok (.iload_n 2, 1) := by decide +kernel
theorem dX5_lateness_20 : decode cX5_lateness 20 = .ok (.invokevirtual 128, 3) := by decide +kernel
theorem dX5_lateness_23 : decode cX5_lateness 23 = .ok (.goto 5, 3) := by decide +kernel
theorem dX5_lateness_26 : decode cX5_lateness 26 = .ok (.ldc 26, 2) := by decide +kernel
theorem dX5_lateness_28 : decode cX5_lateness 28 = .ok (.ireturn, 1) := by decide +kernel
theorem dX5_offBy_0 : decode cX5_offBy 0 = .ok (.iconst 0, 1) := by decide +kernel
theorem dX5_offBy_1 : decode cX5_offBy 1 = .ok (.istore_n 3, 1) := by decide +kernel
theorem dX5_offBy_2 : decode cX5_offBy 2 = .ok (.iconst 0, 1) := by decide +kernel
theorem dX5_offBy_3 : decode cX5_offBy 3 = .ok (.istore 4, 2) := by decide +kernel
theorem dX5_offBy_5 : decode cX5_offBy 5 = .ok (.iload 4, 2) := by decide +kernel
theorem dX5_offBy_7 : decode cX5_offBy 7 = .ok (.iconst 4, 1) := by decide +kernel
theorem dX5_offBy_8 : decode cX5_offBy 8 = .ok (.if_icmp .ge 24, 3) := by decide +kernel
theorem dX5_offBy_11 : decode cX5_offBy 11 = .ok (.iload_n 3, 1) := by decide +kernel
theorem dX5_offBy_12 : decode cX5_offBy 12 = .ok (.aload_n 0, 1) := by decide +kernel
theorem dX5_offBy_13 : decode cX5_offBy 13 = .ok (.iload_n 1, 1) := by decide +kernel
theorem dX5_offBy_14 : decode cX5_offBy 14 = .ok (.iload 4, 2) := by decide +kernel
theorem dX5_offBy_16 : decode cX5_offBy 16 = .ok (.invokevirtual 128, 3) := by decide +kernel
theorem dX5_offBy_19 : decode cX5_offBy 19 = .ok (.iload_n 2, 1) := by decide +kernel
theorem dX5_offBy_20 : decode cX5_offBy 20 = .ok (.isub, 1) := by decide +kernel
theorem dX5_offBy_21 : decode cX5_offBy 21 = .ok (.invokestatic 131, 3) := by decide +kernel
theorem dX5_offBy_24 : decode cX5_offBy 24 = .ok (.iadd, 1) := by decide +kernel
theorem dX5_offBy_25 : decode cX5_offBy 25 = .ok (.istore_n 3, 1) := by decide +kernel
theorem dX5_offBy_26 : decode cX5_offBy 26 = .ok (.iinc 4 1, 3) := by decide +kernel
theorem dX5_offBy_29 : decode cX5_offBy 29 = .ok (.goto (-24), 3) := by decide +kernel
theorem dX5_offBy_32 : decode cX5_offBy 32 = .ok (.iload_n 3, 1) := by decide +kernel
theorem dX5_offBy_33 : decode cX5_offBy 33 = .ok (.ireturn, 1) := by decide +kernel
theorem dX5_slip_0 : decode cX5_slip 0 = .ok (.aload_n 0, 1) := by decide +kernel
theorem dX5_slip_1 : decode cX5_slip 1 = .ok (.iload_n 1, 1) := by decide +kernel
theorem dX5_slip_2 : decode cX5_slip 2 = .ok (.invokevirtual 72, 3) := by decide +kernel
theorem dX5_slip_5 : decode cX5_slip 5 = .ok (.ifCond .ne 6, 3) := by decide +kernel
theorem dX5_slip_8 : decode cX5_slip 8 = .ok (.ldc 26, 2) := by decide +kernel
theorem dX5_slip_10 : decode cX5_slip 10 = .ok (.ireturn, 1) := by decide +kernel
theorem dX5_slip_11 : decode cX5_slip 11 = .ok (.iconst 0, 1) := by decide +kernel
theorem dX5_slip_12 : decode cX5_slip 12 = .ok (.istore_n 2, 1) := by decide +kernel
theorem dX5_slip_13 : decode cX5_slip 13 = .ok (.iconst 1, 1) := by decide +kernel
theorem dX5_slip_14 : decode cX5_slip 14 = .ok (.istore_n 3, 1) := by decide +kernel
theorem dX5_slip_15 : decode cX5_slip 15 = .ok (.iload_n 3, 1) := by decide +kernel
theorem dX5_slip_16 : decode cX5_slip 16 = .ok (.bipush 6, 2) := by decide +kernel
theorem dX5_slip_18 : decode cX5_slip 18 = .ok (.if_icmp .ge 53, 3) := by decide +kernel
theorem dX5_slip_21 : decode cX5_slip 21 = .ok (.aload_n 0, 1) := by decide +kernel
theorem dX5_slip_22 : decode cX5_slip 22 = .ok (.iload_n 1, 1) := by decide +kernel
theorem dX5_slip_23 : decode cX5_slip 23 = .ok (.iload_n 3, 1) := by decide +kernel
theorem dX5_slip_24 : decode cX5_slip 24 = .ok (.ineg, 1) := by decide +kernel
theorem dX5_slip_25 : decode cX5_slip 25 = .ok (.invokevirtual 134, 3) := by decide +kernel
theorem dX5_slip_28 : decode cX5_slip 28 = .ok (.aload_n 0, 1) := by decide +kernel
theorem dX5_slip_29 : decode cX5_slip 29 = .ok (.iload_n 1, 1) := by decide +kernel
theorem dX5_slip_30 : decode cX5_slip 30 = .ok (.iload_n 2, 1) := by decide +kernel
theorem dX5_slip_31 : decode cX5_slip 31 = .ok (.invokevirtual 134, 3) := by decide +kernel
theorem dX5_slip_34 : decode cX5_slip 34 = .ok (.if_icmp .ge 8, 3) := by decide +kernel
theorem dX5_slip_37 : decode cX5_slip 37 = .ok (.iload_n 3, 1) := by decide +kernel
theorem dX5_slip_38 : decode cX5_slip 38 = .ok (.ineg, 1) := by decide +kernel
theorem dX5_slip_39 : decode cX5_slip 39 = .ok (.goto 4, 3) := by decide +kernel
theorem dX5_slip_42 : decode cX5_slip 42 = .ok (.iload_n 2, 1) := by decide +kernel
theorem dX5_slip_43 : decode cX5_slip 43 = .ok (.istore_n 2, 1) := by decide +kernel
theorem dX5_slip_44 : decode cX5_slip 44 = .ok (.aload_n 0, 1) := by decide +kernel
theorem dX5_slip_45 : decode cX5_slip 45 = .ok (.iload_n 1, 1) := by decide +kernel
theorem dX5_slip_46 : decode cX5_slip 46 = .ok (.iload_n 3, 1) := by decide +kernel
theorem dX5_slip_47 : decode cX5_slip 47 = .ok (.invokevirtual 134, 3) := by decide +kernel
theorem dX5_slip_50 : decode cX5_slip 50 = .ok (.aload_n 0, 1) := by decide +kernel
theorem dX5_slip_51 : decode cX5_slip 51 = .ok (.iload_n 1, 1) := by decide +kernel
theorem dX5_slip_52 : decode cX5_slip 52 = .ok (.iload_n 2, 1) := by decide +kernel
theorem dX5_slip_53 : decode cX5_slip 53 = .ok (.invokevirtual 134, 3) := by decide +kernel
theorem dX5_slip_56 : decode cX5_slip 56 = .ok (.if_icmp .ge 7, 3) := by decide +kernel
theorem dX5_slip_59 : decode cX5_slip 59 = .ok (.iload_n 3, 1) := by decide +kernel
theorem dX5_slip_60 : decode cX5_slip 60 = .ok (.goto 4, 3) := by decide +kernel
theorem dX5_slip_63 : decode cX5_slip 63 = .ok (.iload_n 2, 1) := by decide +kernel
theorem dX5_slip_64 : decode cX5_slip 64 = .ok (.istore_n 2, 1) := by decide +kernel
theorem dX5_slip_65 : decode cX5_slip 65 = .ok (.iinc 3 1, 3) := by decide +kernel
theorem dX5_slip_68 : decode cX5_slip 68 = .ok (.goto (-53), 3) := by decide +kernel
theorem dX5_slip_71 : decode cX5_slip 71 = .ok (.iload_n 2, 1) := by decide +kernel
theorem dX5_slip_72 : decode cX5_slip 72 = .ok (.ireturn, 1) := by decide +kernel
theorem dX5_constant_0 : decode cX5_constant 0 = .ok (.aload_n 0, 1) := by decide +kernel
theorem dX5_constant_1 : decode cX5_constant 1 = .ok (.iload_n 1, 1) := by decide +kernel
theorem dX5_constant_2 : decode cX5_constant 2 = .ok (.invokevirtual 72, 3) := by decide +kernel
theorem dX5_constant_5 : decode cX5_constant 5 = .ok (.ifCond .eq 25, 3) := by decide +kernel
theorem dX5_constant_8 : decode cX5_constant 8 = .ok (.iload_n 2, 1) := by decide +kernel
theorem dX5_constant_9 : decode cX5_constant 9 = .ok (.iconst 0, 1) := by decide +kernel
theorem dX5_constant_10 : decode cX5_constant 10 = .ok (.bipush 20, 2) := by decide +kernel
theorem dX5_constant_12 : decode cX5_constant 12 = .ok (.invokestatic 13, 3) := by decide +kernel
theorem dX5_constant_15 : decode cX5_constant 15 = .ok (.ifCond .eq 15, 3) := by decide +kernel
theorem dX5_constant_18 : decode cX5_constant 18 = .ok (.aload_n 0, 1) := by decide +kernel
theorem dX5_constant_19 : decode cX5_constant 19 = .ok (.iload_n 1, 1) := by decide +kernel
theorem dX5_constant_20 : decode cX5_constant 20 = .ok (.invokestatic 49, 3) := by decide +kernel
theorem dX5_constant_23 : decode cX5_constant 23 = .ok (.iload_n 2, 1) := by decide +kernel
theorem dX5_constant_24 : decode cX5_constant 24 = .ok (.invokevirtual 116, 3) := by decide +kernel
theorem dX5_constant_27 : decode cX5_constant 27 = .ok (.goto 5, 3) := by decide +kernel
theorem dX5_constant_30 : decode cX5_constant 30 = .ok (.ldc 26, 2) := by decide +kernel
theorem dX5_constant_32 : decode cX5_constant 32 = .ok (.ireturn, 1) := by decide +kernel
theorem dX5_leakage_0 : decode cX5_leakage 0 = .ok (.aload_n 0, 1) := by decide +kernel
theorem dX5_leakage_1 : decode cX5_leakage 1 = .ok (.iload_n 1, 1) := by decide +kernel
theorem dX5_leakage_2 : decode cX5_leakage 2 = .ok (.invokevirtual 72, 3) := by decide +kernel
theorem dX5_leakage_5 : decode cX5_leakage 5 = .ok (.ifCond .ne 6, 3) := by decide +kernel
theorem dX5_leakage_8 : decode cX5_leakage 8 = .ok (.ldc 26, 2) := by decide +kernel
theorem dX5_leakage_10 : decode cX5_leakage 10 = .ok (.ireturn, 1) := by decide +kernel
theorem dX5_leakage_11 : decode cX5_leakage 11 = .ok (.aload_n 0, 1) := by decide +kernel
theorem dX5_leakage_12 : decode cX5_leakage 12 = .ok (.iload_n 1, 1) := by decide +kernel
theorem dX5_leakage_13 : decode cX5_leakage 13 = .ok (.invokestatic 49, 3) := by decide +kernel
theorem dX5_leakage_16 : decode cX5_leakage 16 = .ok (.invokevirtual 113, 3) := by decide +kernel
theorem dX5_leakage_19 : decode cX5_leakage 19 = .ok (.istore_n 2, 1) := by decide +kernel
theorem dX5_leakage_20 : decode cX5_leakage 20 = .ok (.aload_n 0, 1) := by decide +kernel
theorem dX5_leakage_21 : decode cX5_leakage 21 = .ok (.iload_n 1, 1) := by decide +kernel
theorem dX5_leakage_22 : decode cX5_leakage 22 = .ok (.invokestatic 49, 3) := by decide +kernel
theorem dX5_leakage_25 : decode cX5_leakage 25 = .ok (.invokevirtual 119, 3) := by decide +kernel
theorem dX5_leakage_28 : decode cX5_leakage 28 = .ok (.iconst 1, 1) := by decide +kernel
theorem dX5_leakage_29 : decode cX5_leakage 29 = .ok (.isub, 1) := by decide +kernel
theorem dX5_leakage_30 : decode cX5_leakage 30 = .ok (.istore_n 3, 1) := by decide +kernel
theorem dX5_leakage_31 : decode cX5_leakage 31 = .ok (.aload_n 0, 1) := by decide +kernel
theorem dX5_leakage_32 : decode cX5_leakage 32 = .ok (.iload_n 1, 1) := by decide +kernel
theorem dX5_leakage_33 : decode cX5_leakage 33 = .ok (.invokestatic 49, 3) := by decide +kernel
theorem dX5_leakage_36 : decode cX5_leakage 36 = .ok (.iload_n 2, 1) := by decide +kernel
theorem dX5_leakage_37 : decode cX5_leakage 37 = .ok (.invokevirtual 116, 3) := by decide +kernel
theorem dX5_leakage_40 : decode cX5_leakage 40 = .ok (.istore 4, 2) := by decide +kernel
theorem dX5_leakage_42 : decode cX5_leakage 42 = .ok (.iload_n 3, 1) := by decide +kernel
theorem dX5_leakage_43 : decode cX5_leakage 43 = .ok (.iload_n 2, 1) := by decide +kernel
theorem dX5_leakage_44 : decode cX5_leakage 44 = .ok (.if_icmp .le 8, 3) := by decide +kernel
theorem dX5_leakage_47 : decode cX5_leakage 47 = .ok (.iload 4, 2) := by decide +kernel
theorem dX5_leakage_49 : decode cX5_leakage 49 = .ok (.ifCond .ne 8, 3) := by decide +kernel
theorem dX5_leakage_52 : decode cX5_leakage 52 = .ok (.ldc 137, 2) := by decide +kernel
theorem dX5_leakage_54 : decode cX5_leakage 54 = .ok (.goto 27, 3) := by decide +kernel
theorem dX5_leakage_57 : decode cX5_leakage 57 = .ok (.aload_n 0, 1) := by decide +kernel
theorem dX5_leakage_58 : decode cX5_leakage 58 = .ok (.iload_n 1, 1) := by decide +kernel
theorem dX5_leakage_59 : decode cX5_leakage 59 = .ok (.invokestatic 49, 3) := by decide +kernel
theorem dX5_leakage_62 : decode cX5_leakage 62 = .ok (.iload_n 3, 1) := by decide +kernel
theorem dX5_leakage_63 : decode cX5_leakage 63 = .ok (.invokevirtual 116, 3) := by decide +kernel
theorem dX5_leakage_66 : decode cX5_leakage 66 = .ok (.iload 4, 2) := by decide +kernel
theorem dX5_leakage_68 : decode cX5_leakage 68 = .ok (.isub, 1) := by decide +kernel
theorem dX5_leakage_69 : decode cX5_leakage 69 = .ok (.i2l, 1) := by decide +kernel
theorem dX5_leakage_70 : decode cX5_leakage 70 = .ok (.ldc2_w 63, 3) := by decide +kernel
theorem dX5_leakage_73 : decode cX5_leakage 73 = .ok (.lmul, 1) := by decide +kernel
theorem dX5_leakage_74 : decode cX5_leakage 74 = .ok (.iload 4, 2) := by decide +kernel
theorem dX5_leakage_76 : decode cX5_leakage 76 = .ok (.i2l, 1) := by decide +kernel
theorem dX5_leakage_77 : decode cX5_leakage 77 = .ok (.invokestatic 42, 3) := by decide +kernel
theorem dX5_leakage_80 : decode cX5_leakage 80 = .ok (.l2i, 1) := by decide +kernel
theorem dX5_leakage_81 : decode cX5_leakage 81 = .ok (.ireturn, 1) := by decide +kernel
theorem dX5_many_0 : decode cX5_many 0 = .ok (.iconst 0, 1) := by decide +kernel
theorem dX5_many_1 : decode cX5_many 1 = .ok (.istore_n 2, 1) := by decide +kernel
theorem dX5_many_2 : decode cX5_many 2 = .ok (.iconst 0, 1) := by decide +kernel
theorem dX5_many_3 : decode cX5_many 3 = .ok (.istore_n 3, 1) := by decide +kernel
theorem dX5_many_4 : decode cX5_many 4 = .ok (.iload_n 3, 1) := by decide +kernel
theorem dX5_many_5 : decode cX5_many 5 = .ok (.aload_n 0, 1) := by decide +kernel
theorem dX5_many_6 : decode cX5_many 6 = .ok (.getfield 7, 3) := by decide +kernel
theorem dX5_many_9 : decode cX5_many 9 = .ok (.bipush 61, 2) := by decide +kernel
theorem dX5_many_11 : decode cX5_many 11 = .ok (.iaload, 1) := by decide +kernel
theorem dX5_many_12 : decode cX5_many 12 = .ok (.if_icmp .ge 30, 3) := by decide +kernel
theorem dX5_many_15 : decode cX5_many 15 = .ok (.iload_n 2, 1) := by decide +kernel
theorem dX5_many_16 : decode cX5_many 16 = .ok (.aload_n 0, 1) := by decide +kernel
theorem dX5_many_17 : decode cX5_many 17 = .ok (.getfield 7, 3) := by decide +kernel
theorem dX5_many_20 : decode cX5_many 20 = .ok (.iload_n 3, 1) := by decide +kernel
theorem dX5_many_21 : decode cX5_many 21 = .ok (.invokestatic 46, 3) := by decide +kernel
theorem dX5_many_24 : decode cX5_many 24 = .ok (.iaload, 1) := by decide +kernel
theorem dX5_many_25 : decode cX5_many 25 = .ok (.iload_n 1, 1) := by decide +kernel
theorem dX5_many_26 : decode cX5_many 26 = .ok (.if_icmp .ne 7, 3) := by decide +kernel
theorem dX5_many_29 : decode cX5_many 29 = .ok (.iconst 1, 1) := by decide +kernel
theorem dX5_many_30 : decode cX5_many 30 = .ok (.goto 4, 3) := by decide +kernel
theorem dX5_many_33 : decode cX5_many 33 = .ok (.iconst 0, 1) := by decide +kernel
theorem dX5_many_34 : decode cX5_many 34 = .ok (.iadd, 1) := by decide +kernel
theorem dX5_many_35 : decode cX5_many 35 = .ok (.istore_n 2, 1) := by decide +kernel
theorem dX5_many_36 : decode cX5_many 36 = .ok (.iinc 3 1, 3) := by decide +kernel
theorem dX5_many_39 : decode cX5_many 39 = .ok (.goto (-35), 3) := by decide +kernel
theorem dX5_many_42 : decode cX5_many 42 = .ok (.iload_n 2, 1) := by decide +kernel
theorem dX5_many_43 : decode cX5_many 43 = .ok (.ireturn, 1) := by decide +kernel
theorem dX5_cardsOf_0 : decode cX5_cardsOf 0 = .ok (.iload_n 1, 1) := by decide +kernel
theorem dX5_cardsOf_1 : decode cX5_cardsOf 1 = .ok (.invokestatic 34, 3) := by decide +kernel
theorem dX5_cardsOf_4 : decode cX5_cardsOf 4 = .ok (.ifCond .eq 11, 3) := by decide +kernel
theorem dX5_cardsOf_7 : decode cX5_cardsOf 7 = .ok (.aload_n 0, 1) := by decide +kernel
theorem dX5_cardsOf_8 : decode cX5_cardsOf 8 = .ok (.iload_n 1, 1) := by decide +kernel
theorem dX5_cardsOf_9 : decode cX5_cardsOf 9 = .ok (.invokevirtual 138, 3) := by decide +kernel
theorem dX5_cardsOf_12 : decode cX5_cardsOf 12 = .ok (.goto 5, 3) := by decide +kernel
theorem dX5_cardsOf_15 : decode cX5_cardsOf 15 = .ok (.ldc 26, 2) := by decide +kernel
theorem dX5_cardsOf_17 : decode cX5_cardsOf 17 = .ok (.ireturn, 1) := by decide +kernel
theorem dX5_meanArea_0 : decode cX5_meanArea 0 = .ok (.iload_n 1, 1) := by decide +kernel
theorem dX5_meanArea_1 : decode cX5_meanArea 1 = .ok (.invokestatic 34, 3) := by decide +kernel
theorem dX5_meanArea_4 : decode cX5_meanArea 4 = .ok (.ifCond .ne 6, 3) := by decide +kernel
theorem dX5_meanArea_7 : decode cX5_meanArea 7 = .ok (.ldc 26, 2) := by decide +kernel
theorem dX5_meanArea_9 : decode cX5_meanArea 9 = .ok (.ireturn, 1) := by decide +kernel
theorem dX5_meanArea_10 : decode cX5_meanArea 10 = .ok (.aload_n 0, 1) := by decide +kernel
theorem dX5_meanArea_11 : decode cX5_meanArea 11 = .ok (.iload_n 1, 1) := by decide +kernel
theorem dX5_meanArea_12 : decode cX5_meanArea 12 = .ok (.invokevirtual 138, 3) := by decide +kernel
theorem dX5_meanArea_15 : decode cX5_meanArea 15 = .ok (.istore_n 2, 1) := by decide +kernel
theorem dX5_meanArea_16 : decode cX5_meanArea 16 = .ok (.iload_n 2, 1) := by decide +kernel
theorem dX5_meanArea_17 : decode cX5_meanArea 17 = .ok (.ifCond .ne 6, 3) := by decide +kernel
theorem dX5_meanArea_20 : decode cX5_meanArea 20 = .ok (.ldc 137, 2) := by decide +kernel
theorem dX5_meanArea_22 : decode cX5_meanArea 22 = .ok (.ireturn, 1) := by decide +kernel
theorem dX5_meanArea_23 : decode cX5_meanArea 23 = .ok (.iconst 0, 1) := by decide +kernel
theorem dX5_meanArea_24 : decode cX5_meanArea 24 = .ok (.istore_n 3, 1) := by decide +kernel
theorem dX5_meanArea_25 : decode cX5_meanArea 25 = .ok (.iload_n 3, 1) := by decide +kernel
theorem dX5_meanArea_26 : decode cX5_meanArea 26 = .ok (.bipush 42, 2) := by decide +kernel
theorem dX5_meanArea_28 : decode cX5_meanArea 28 = .ok (.if_icmp .ge 82, 3) := by decide +kernel
theorem dX5_meanArea_31 : decode cX5_meanArea 31 = .ok (.iconst 0, 1) := by decide +kernel
theorem dX5_meanArea_32 : decode cX5_meanArea 32 = .ok (.istore 4, 2) := by decide +kernel
theorem dX5_meanArea_34 : decode cX5_meanArea 34 = .ok (.iconst 0, 1) := by decide +kernel
theorem dX5_meanArea_35 : decode cX5_meanArea 35 = .ok (.istore 5, 2) := by decide +kernel
theorem dX5_meanArea_37 : decode cX5_meanArea 37 = .ok (.iload 5, 2) := by decide +kernel
theorem dX5_meanArea_39 : decode cX5_meanArea 39 = .ok (.aload_n 0, 1) := by decide +kernel
theorem dX5_meanArea_40 : decode cX5_meanArea 40 = .ok (.getfield 7, 3) := by decide +kernel
theorem dX5_meanArea_43 : decode cX5_meanArea 43 = .ok (.bipush 61, 2) := by decide +kernel
theorem dX5_meanArea_45 : decode cX5_meanArea 45 = .ok (.iaload, 1) := by decide +kernel
theorem dX5_meanArea_46 : decode cX5_meanArea 46 = .ok (.if_icmp .ge 44, 3) := by decide +kernel
theorem dX5_meanArea_49 : decode cX5_meanArea 49 = .ok (.iload 4, 2) := by decide +kernel
theorem dX5_meanArea_51 : decode cX5_meanArea 51 = .ok (.aload_n 0, 1) := by decide +kernel
theorem dX5_meanArea_52 : decode cX5_meanArea 52 = .ok (.getfield 7, 3) := by decide +kernel
theorem dX5_meanArea_55 : decode cX5_meanArea 55 = .ok (.iload 5, 2) := by decide +kernel
theorem dX5_meanArea_57 : decode cX5_meanArea 57 = .ok (.invokestatic 46, 3) := by decide +kernel
theorem dX5_meanArea_60 : decode cX5_meanArea 60 = .ok (.iaload, 1) := by decide +kernel
theorem dX5_meanArea_61 : decode cX5_meanArea 61 = .ok (.iload_n 1, 1) := by decide +kernel
theorem dX5_meanArea_62 : decode cX5_meanArea 62 = .ok (.if_icmp .ne 18, 3) := by decide +kernel
theorem dX5_meanArea_65 : decode cX5_meanArea 65 = .ok (.aload_n 0, 1) := by decide +kernel
theorem dX5_meanArea_66 : decode cX5_meanArea 66 = .ok (.getfield 7, 3) := by decide +kernel
theorem dX5_meanArea_69 : decode cX5_meanArea 69 = .ok (.iload 5, 2) := by decide +kernel
theorem dX5_meanArea_71 : decode cX5_meanArea 71 = .ok (.invokestatic 49, 3) := by decide +kernel
theorem dX5_meanArea_74 : decode cX5_meanArea 74 = .ok (.iload_n 3, 1) := by decide +kernel
theorem dX5_meanArea_75 : decode cX5_meanArea 75 = .ok (.iadd, 1) := by decide +kernel
theorem dX5_meanArea_76 : decode cX5_meanArea 76 = .ok (.iaload, 1) := by decide +kernel
theorem dX5_meanArea_77 : decode cX5_meanArea 77 = .ok (.goto 4, 3) := by decide +kernel
theorem dX5_meanArea_80 : decode cX5_meanArea 80 = .ok (.iconst 0, 1) := by decide +kernel
theorem dX5_meanArea_81 : decode cX5_meanArea 81 = .ok (.iadd, 1) := by decide +kernel
theorem dX5_meanArea_82 : decode cX5_meanArea 82 = .ok (.istore 4, 2) := by decide +kernel
theorem dX5_meanArea_84 : decode cX5_meanArea 84 = .ok (.iinc 5 1, 3) := by decide +kernel
theorem dX5_meanArea_87 : decode cX5_meanArea 87 = .ok (.goto (-50), 3) := by decide +kernel
theorem dX5_meanArea_90 : decode cX5_meanArea 90 = .ok (.aload_n 0, 1) := by decide +kernel
theorem dX5_meanArea_91 : decode cX5_meanArea 91 = .ok (.getfield 7, 3) := by decide +kernel
theorem dX5_meanArea_94 : decode cX5_meanArea 94 = .ok (.sipush 2510, 3) := by decide +kernel
theorem dX5_meanArea_97 : decode cX5_meanArea 97 = .ok (.iload_n 3, 1) := by decide +kernel
theorem dX5_meanArea_98 : decode cX5_meanArea 98 = .ok (.iadd, 1) := by decide +kernel
theorem dX5_meanArea_99 : decode cX5_meanArea 99 = .ok (.iload 4, 2) := by decide +kernel
theorem dX5_meanArea_101 : decode cX5_meanArea 101 = .ok (.iload_n 2, 1) := by decide +kernel
theorem dX5_meanArea_102 : decode cX5_meanArea 102 = .ok (.idiv, 1) := by decide +kernel
theorem dX5_meanArea_103 : decode cX5_meanArea 103 = .ok (.iastore, 1) := by decide +kernel
theorem dX5_meanArea_104 : decode cX5_meanArea 104 = .ok (.iinc 3 1, 3) := by decide +kernel
theorem dX5_meanArea_107 : decode cX5_meanArea 107 = .ok (.goto (-82), 3) := by decide +kernel
theorem dX5_meanArea_110 : decode cX5_meanArea 110 = .ok (.aload_n 0, 1) := by decide +kernel
theorem dX5_meanArea_111 : decode cX5_meanArea 111 = .ok (.sipush 2510, 3) := by decide +kernel
theorem dX5_meanArea_114 : decode cX5_meanArea 114 = .ok (.invokevirtual 88, 3) := by decide +kernel
theorem dX5_meanArea_117 : decode cX5_meanArea 117 = .ok (.ireturn, 1) := by decide +kernel
theorem dX5_meanPowerOf_0 : decode cX5_meanPowerOf 0 = .ok (.lconst 0, 1) := by decide +kernel
theorem dX5_meanPowerOf_1 : decode cX5_meanPowerOf 1 = .ok (.lstore_n 2, 1) := by decide +kernel
theorem dX5_meanPowerOf_2 : decode cX5_meanPowerOf 2 = .ok (.iconst 0, 1) := by decide +kernel
theorem dX5_meanPowerOf_3 : decode cX5_meanPowerOf 3 = .ok (.istore 4, 2) := by decide +kernel
theorem dX5_meanPowerOf_5 : decode cX5_meanPowerOf 5 = .ok (.iload 4, 2) := by decide +kernel
theorem dX5_meanPowerOf_7 : decode cX5_meanPowerOf 7 = .ok (.aload_n 0, 1) := by decide +kernel
theorem dX5_meanPowerOf_8 : decode cX5_meanPowerOf 8 = .ok (.getfield 7, 3) := by decide +kernel
theorem dX5_meanPowerOf_11 : decode cX5_meanPowerOf 11 = .ok (.bipush 61, 2) := by decide +kernel
theorem dX5_meanPowerOf_13 : decode cX5_meanPowerOf 13 = .ok (.iaload, 1) := by decide +kernel
theorem dX5_meanPowerOf_14 : decode cX5_meanPowerOf 14 = .ok (.if_icmp .ge 36, 3) := by decide +kernel
theorem dX5_meanPowerOf_17 : decode cX5_meanPowerOf 17 = .ok (.lload_n 2, 1) := by decide +kernel
theorem dX5_meanPowerOf_18 : decode cX5_meanPowerOf 18 = .ok (.aload_n 0, 1) := by decide +kernel
theorem dX5_meanPowerOf_19 : decode cX5_meanPowerOf 19 = .ok (.getfield 7, 3) := by decide +kernel
theorem dX5_meanPowerOf_22 : decode cX5_meanPowerOf 22 = .ok (.iload 4, 2) := by decide +kernel
theorem dX5_meanPowerOf_24 : decode cX5_meanPowerOf 24 = .ok (.invokestatic 46, 3) := by decide +kernel
theorem dX5_meanPowerOf_27 : decode cX5_meanPowerOf 27 = .ok (.iaload, 1) := by decide +kernel
theorem dX5_meanPowerOf_28 : decode cX5_meanPowerOf 28 = .ok (.iload_n 1, 1) := by decide +kernel
theorem dX5_meanPowerOf_29 : decode cX5_meanPowerOf 29 = .ok (.if_icmp .ne 12, 3) := by decide +kernel
theorem dX5_meanPowerOf_32 : decode cX5_meanPowerOf 32 = .ok (.aload_n 0, 1) := by decide +kernel
theorem dX5_meanPowerOf_33 : decode cX5_meanPowerOf 33 = .ok (.iload 4, 2) := by decide +kernel
theorem dX5_meanPowerOf_35 : decode cX5_meanPowerOf 35 = .ok (.invokevirtual 101, 3) := by decide +kernel
theorem dX5_meanPowerOf_38 : decode cX5_meanPowerOf 38 = .ok (.goto 4, 3) := by decide +kernel
theorem dX5_meanPowerOf_41 : decode cX5_meanPowerOf 41 = .ok (.lconst 0, 1) := by decide +kernel
theorem dX5_meanPowerOf_42 : decode cX5_meanPowerOf 42 = .ok (.ladd, 1) := by decide +kernel
theorem dX5_meanPowerOf_43 : decode cX5_meanPowerOf 43 = .ok (.lstore_n 2, 1) := by decide +kernel
theorem dX5_meanPowerOf_44 : decode cX5_meanPowerOf 44 = .ok (.iinc 4 1, 3) := by decide +kernel
theorem dX5_meanPowerOf_47 : decode cX5_meanPowerOf 47 = .ok (.goto (-42), 3) := by decide +kernel
theorem dX5_meanPowerOf_50 : decode cX5_meanPowerOf 50 = .ok (.lload_n 2, 1) := by decide +kernel
theorem dX5_meanPowerOf_51 : decode cX5_meanPowerOf 51 = .ok (.aload_n 0, 1) := by decide +kernel
theorem dX5_meanPowerOf_52 : decode cX5_meanPowerOf 52 = .ok (.iload_n 1, 1) := by decide +kernel
theorem dX5_meanPowerOf_53 : decode cX5_meanPowerOf 53 = .ok (.invokevirtual 138, 3) := by decide +kernel
theorem dX5_meanPowerOf_56 : decode cX5_meanPowerOf 56 = .ok (.i2l, 1) := by decide +kernel
theorem dX5_meanPowerOf_57 : decode cX5_meanPowerOf 57 = .ok (.invokestatic 42, 3) := by decide +kernel
theorem dX5_meanPowerOf_60 : decode cX5_meanPowerOf 60 = .ok (.lreturn, 1) := by decide +kernel
theorem dX5_meanPower_0 : decode cX5_meanPower 0 = .ok (.iload_n 1, 1) := by decide +kernel
theorem dX5_meanPower_1 : decode cX5_meanPower 1 = .ok (.invokestatic 34, 3) := by decide +kernel
theorem dX5_meanPower_4 : decode cX5_meanPower 4 = .ok (.ifCond .ne 7, 3) := by decide +kernel
theorem dX5_meanPower_7 : decode cX5_meanPower 7 = .ok (.ldc2_w 105, 3) := by decide +kernel
theorem dX5_meanPower_10 : decode cX5_meanPower 10 = .ok (.lreturn, 1) := by decide +kernel
theorem dX5_meanPower_11 : decode cX5_meanPower 11 = .ok (.aload_n 0, 1) := by decide +kernel
theorem dX5_meanPower_12 : decode cX5_meanPower 12 = .ok (.iload_n 1, 1) := by decide +kernel
theorem dX5_meanPower_13 : decode cX5_meanPower 13 = .ok (.invokevirtual 138, 3) := by decide +kernel
theorem dX5_meanPower_16 : decode cX5_meanPower 16 = .ok (.ifCond .ne 9, 3) := by decide +kernel
theorem dX5_meanPower_19 : decode cX5_meanPower 19 = .ok (.ldc2_w 141, 3) := by decide +kernel
theorem dX5_meanPower_22 : decode cX5_meanPower 22 = .ok (.goto 8, 3) := by decide +kernel
theorem dX5_meanPower_25 : decode cX5_meanPower 25 = .ok (.aload_n 0, 1) := by decide +kernel
theorem dX5_meanPower_26 : decode cX5_meanPower 26 = .ok (.iload_n 1, 1) := by decide +kernel
theorem dX5_meanPower_27 : decode cX5_meanPower 27 = .ok (.invokevirtual 143, 3) := by decide +kernel
theorem dX5_meanPower_30 : decode cX5_meanPower 30 = .ok (.lreturn, 1) := by decide +kernel
theorem dX5_imbalance_0 : decode cX5_imbalance 0 = .ok (.aload_n 0, 1) := by decide +kernel
theorem dX5_imbalance_1 : decode cX5_imbalance 1 = .ok (.iconst 0, 1) := by decide +kernel
theorem dX5_imbalance_2 : decode cX5_imbalance 2 = .ok (.invokevirtual 138, 3) := by decide +kernel
theorem dX5_imbalance_5 : decode cX5_imbalance 5 = .ok (.ifCond .eq 11, 3) := by decide +kernel
theorem dX5_imbalance_8 : decode cX5_imbalance 8 = .ok (.aload_n 0, 1) := by decide +kernel
theorem dX5_imbalance_9 : decode cX5_imbalance 9 = .ok (.iconst 1, 1) := by decide +kernel
theorem dX5_imbalance_10 : decode cX5_imbalance 10 = .ok (.invokevirtual 138, 3) := by decide +kernel
theorem dX5_imbalance_13 : decode cX5_imbalance 13 = .ok (.ifCond .ne 6, 3) := by decide +kernel
theorem dX5_imbalance_16 : decode cX5_imbalance 16 = .ok (.ldc 137, 2) := by decide +kernel
theorem dX5_imbalance_18 : decode cX5_imbalance 18 = .ok (.ireturn, 1) := by decide +kernel
theorem dX5_imbalance_19 : decode cX5_imbalance 19 = .ok (.aload_n 0, 1) := by decide +kernel
theorem dX5_imbalance_20 : decode cX5_imbalance 20 = .ok (.iconst 0, 1) := by decide +kernel
theorem dX5_imbalance_21 : decode cX5_imbalance 21 = .ok (.invokevirtual 143, 3) := by decide +kernel
theorem dX5_imbalance_24 : decode cX5_imbalance 24 = .ok (.lstore_n 1, 1) := by decide +kernel
theorem dX5_imbalance_25 : decode cX5_imbalance 25 = .ok (.aload_n 0, 1) := by decide +kernel
theorem dX5_imbalance_26 : decode cX5_imbalance 26 = .ok (.iconst 1, 1) := by decide +kernel
theorem dX5_imbalance_27 : decode cX5_imbalance 27 = .ok (.invokevirtual 143, 3) := by decide +kernel
theorem dX5_imbalance_30 : decode cX5_imbalance 30 = .ok (.lstore_n 3, 1) := by decide +kernel
theorem dX5_imbalance_31 : decode cX5_imbalance 31 = .ok (.lload_n 1, 1) := by decide +kernel
theorem dX5_imbalance_32 : decode cX5_imbalance 32 = .ok (.lload_n 3, 1) := by decide +kernel
theorem dX5_imbalance_33 : decode cX5_imbalance 33 = .ok (.lcmp, 1) := by decide +kernel
theorem dX5_imbalance_34 : decode cX5_imbalance 34 = .ok (.ifCond .ge 9, 3) := by decide +kernel
theorem dX5_imbalance_37 : decode cX5_imbalance 37 = .ok (.lload_n 3, 1) := by decide +kernel
theorem dX5_imbalance_38 : decode cX5_imbalance 38 = .ok (.lload_n 1, 1) := by decide +kernel
theorem dX5_imbalance_39 : decode cX5_imbalance 39 = .ok (.lsub, 1) := by decide +kernel
theorem dX5_imbalance_40 : decode cX5_imbalance 40 = .ok (.goto 6, 3) := by decide +kernel
theorem dX5_imbalance_43 : decode cX5_imbalance 43 = .ok (.lload_n 1, 1) := by decide +kernel
theorem dX5_imbalance_44 : decode cX5_imbalance 44 = .ok (.lload_n 3, 1) := by decide +kernel
theorem dX5_imbalance_45 : decode cX5_imbalance 45 = .ok (.lsub, 1) := by decide +kernel
theorem dX5_imbalance_46 : decode cX5_imbalance 46 = .ok (.lstore 5, 2) := by decide +kernel
theorem dX5_imbalance_48 : decode cX5_imbalance 48 = .ok (.lload_n 1, 1) := by decide +kernel
theorem dX5_imbalance_49 : decode cX5_imbalance 49 = .ok (.lconst 0, 1) := by decide +kernel
theorem dX5_imbalance_50 : decode cX5_imbalance 50 = .ok (.lcmp, 1) := by decide +kernel
theorem dX5_imbalance_51 : decode cX5_imbalance 51 = .ok (.ifCond .lt 17, 3) := by decide +kernel
theorem dX5_imbalance_54 : decode cX5_imbalance 54 = .ok (.lload_n 3, 1) := by decide +kernel
theorem dX5_imbalance_55 : decode cX5_imbalance 55 = .ok (.lconst 0, 1) := by decide +kernel
theorem dX5_imbalance_56 : decode cX5_imbalance 56 = .ok (.lcmp, 1) := by decide +kernel
theorem dX5_imbalance_57 : decode cX5_imbalance 57 = .ok (.ifCond .lt 11, 3) := by decide +kernel
theorem dX5_imbalance_60 : decode cX5_imbalance 60 = .ok (.lload_n 1, 1) := by decide +kernel
theorem dX5_imbalance_61 : decode cX5_imbalance 61 = .ok (.lload_n 3, 1) := by decide +kernel
theorem dX5_imbalance_62 : decode cX5_imbalance 62 = .ok (.ladd, 1) := by decide +kernel
theorem dX5_imbalance_63 : decode cX5_imbalance 63 = .ok (.lconst 0, 1) := by decide +kernel
theorem dX5_imbalance_64 : decode cX5_imbalance 64 = .ok (.lcmp, 1) := by decide +kernel
theorem dX5_imbalance_65 : decode cX5_imbalance 65 = .ok (.ifCond .ne 8, 3) := by decide +kernel
theorem dX5_imbalance_68 : decode cX5_imbalance 68 = .ok (.ldc 137, 2) := by decide +kernel
theorem dX5_imbalance_70 : decode cX5_imbalance 70 = .ok (.goto 14, 3) := by decide +kernel
theorem dX5_imbalance_73 : decode cX5_imbalance 73 = .ok (.lload 5, 2) := by decide +kernel
theorem dX5_imbalance_75 : decode cX5_imbalance 75 = .ok (.ldc2_w 63, 3) := by decide +kernel
theorem dX5_imbalance_78 : decode cX5_imbalance 78 = .ok (.lmul, 1) := by decide +kernel
theorem dX5_imbalance_79 : decode cX5_imbalance 79 = .ok (.lload_n 1, 1) := by decide +kernel
theorem dX5_imbalance_80 : decode cX5_imbalance 80 = .ok (.lload_n 3, 1) := by decide +kernel
theorem dX5_imbalance_81 : decode cX5_imbalance 81 = .ok (.ladd, 1) := by decide +kernel
theorem dX5_imbalance_82 : decode cX5_imbalance 82 = .ok (.ldiv, 1) := by decide +kernel
theorem dX5_imbalance_83 : decode cX5_imbalance 83 = .ok (.l2i, 1) := by decide +kernel
theorem dX5_imbalance_84 : decode cX5_imbalance 84 = .ok (.ireturn, 1) := by decide +kernel
theorem dX5_median_0 : decode cX5_median 0 = .ok (.aload_n 0, 1) := by decide +kernel
theorem dX5_median_1 : decode cX5_median 1 = .ok (.iload_n 1, 1) := by decide +kernel
theorem dX5_median_2 : decode cX5_median 2 = .ok (.invokevirtual 138, 3) := by decide +kernel
theorem dX5_median_5 : decode cX5_median 5 = .ok (.iconst 1, 1) := by decide +kernel
theorem dX5_median_6 : decode cX5_median 6 = .ok (.isub, 1) := by decide +kernel
theorem dX5_median_7 : decode cX5_median 7 = .ok (.iconst 2, 1) := by decide +kernel
theorem dX5_median_8 : decode cX5_median 8 = .ok (.idiv, 1) := by decide +kernel
theorem dX5_median_9 : decode cX5_median 9 = .ok (.istore_n 2, 1) := by decide +kernel
theorem dX5_median_10 : decode cX5_median 10 = .ok (.iconst 0, 1) := by decide +kernel
theorem dX5_median_11 : decode cX5_median 11 = .ok (.istore_n 3, 1) := by decide +kernel
theorem dX5_median_12 : decode cX5_median 12 = .ok (.iconst 0, 1) := by decide +kernel
theorem dX5_median_13 : decode cX5_median 13 = .ok (.istore 4, 2) := by decide +kernel
theorem dX5_median_15 : decode cX5_median 15 = .ok (.iload 4, 2) := by decide +kernel
theorem dX5_median_17 : decode cX5_median 17 = .ok (.aload_n 0, 1) := by decide +kernel
theorem dX5_median_18 : decode cX5_median 18 = .ok (.getfield 7, 3) := by decide +kernel
theorem dX5_median_21 : decode cX5_median 21 = .ok (.bipush 61, 2) := by decide +kernel
theorem dX5_median_23 : decode cX5_median 23 = .ok (.iaload, 1) := by decide +kernel
theorem dX5_median_24 : decode cX5_median 24 = .ok (.if_icmp .ge 173, 3) := by decide +kernel
theorem dX5_median_27 : decode cX5_median 27 = .ok (.iconst 0, 1) := by decide +kernel
theorem dX5_median_28 : decode cX5_median 28 = .ok (.istore 5, 2) := by decide +kernel
theorem dX5_median_30 : decode cX5_median 30 = .ok (.iconst 0, 1) := by decide +kernel
theorem dX5_median_31 : decode cX5_median 31 = .ok (.istore 6, 2) := by decide +kernel
theorem dX5_median_33 : decode cX5_median 33 = .ok (.iconst 0, 1) := by decide +kernel
theorem dX5_median_34 : decode cX5_median 34 = .ok (.istore 7, 2) := by decide +kernel
theorem dX5_median_36 : decode cX5_median 36 = .ok (.iload 7, 2) := by decide +kernel
theorem dX5_median_38 : decode cX5_median 38 = .ok (.aload_n 0, 1) := by decide +kernel
theorem dX5_median_39 : decode cX5_median 39 = .ok (.getfield 7, 3) := by decide +kernel
theorem dX5_median_42 : decode cX5_median 42 = .ok (.bipush 61, 2) := by decide +kernel
theorem dX5_median_44 : decode cX5_median 44 = .ok (.iaload, 1) := by decide +kernel
theorem dX5_median_45 : decode cX5_median 45 = .ok (.if_icmp .ge 102, 3) := by decide +kernel
theorem dX5_median_48 : decode cX5_median 48 = .ok (.aload_n 0, 1) := by decide +kernel
theorem dX5_median_49 : decode cX5_median 49 = .ok (.getfield 7, 3) := by decide +kernel
theorem dX5_median_52 : decode cX5_median 52 = .ok (.iload 7, 2) := by decide +kernel
theorem dX5_median_54 : decode cX5_median 54 = .ok (.invokestatic 46, 3) := by decide +kernel
theorem dX5_median_57 : decode cX5_median 57 = .ok (.iaload, 1) := by decide +kernel
theorem dX5_median_58 : decode cX5_median 58 = .ok (.iload_n 1, 1) := by decide +kernel
theorem dX5_median_59 : decode cX5_median 59 = .ok (.if_icmp .ne 7, 3) := by decide +kernel
theorem dX5_median_62 : decode cX5_median 62 = .ok (.iconst 1, 1) := by decide +kernel
theorem dX5_median_63 : decode cX5_median 63 = .ok (.goto 4, 3) := by decide +kernel
theorem dX5_median_66 : decode cX5_median 66 = .ok (.iconst 0, 1) := by decide +kernel
theorem dX5_median_67 : decode cX5_median 67 = .ok (.istore 8, 2) := by decide +kernel
theorem dX5_median_69 : decode cX5_median 69 = .ok (.iload 5, 2) := by decide +kernel
theorem dX5_median_71 : decode cX5_median 71 = .ok (.iload 8, 2) := by decide +kernel
theorem dX5_median_73 : decode cX5_median 73 = .ok (.ifCond .eq 28, 3) := by decide +kernel
theorem dX5_median_76 : decode cX5_median 76 = .ok (.aload_n 0, 1) := by decide +kernel
theorem dX5_median_77 : decode cX5_median 77 = .ok (.iload 7, 2) := by decide +kernel
theorem dX5_median_79 : decode cX5_median 79 = .ok (.invokestatic 49, 3) := by decide +kernel
theorem dX5_median_82 : decode cX5_median 82 = .ok (.invokevirtual 88, 3) := by decide +kernel
theorem dX5_median_85 : decode cX5_median 85 = .ok (.aload_n 0, 1) := by decide +kernel
theorem dX5_median_86 : decode cX5_median 86 = .ok (.iload 4, 2) := by decide +kernel
theorem dX5_median_88 : decode cX5_median 88 = .ok (.invokestatic 49, 3) := by decide +kernel
theorem dX5_median_91 : decode cX5_median 91 = .ok (.invokevirtual 88, 3) := by decide +kernel
theorem dX5_median_94 : decode cX5_median 94 = .ok (.if_icmp .ge 7, 3) := by decide +kernel
theorem dX5_median_97 : decode cX5_median 97 = .ok (.iconst 1, 1) := by decide +kernel
theorem dX5_median_98 : decode cX5_median 98 = .ok (.goto 4, 3) := by decide +kernel
theorem dX5_median_101 : decode cX5_median 101 = .ok (.iconst 0, 1) := by decide +kernel
theorem dX5_median_102 : decode cX5_median 102 = .ok (.iadd, 1) := by decide +kernel
theorem dX5_median_103 : decode cX5_median 103 = .ok (.istore 5, 2) := by decide +kernel
theorem dX5_median_105 : decode cX5_median 105 = .ok (.iload 6, 2) := by decide +kernel
theorem dX5_median_107 : decode cX5_median 107 = .ok (.iload 8, 2) := by decide +kernel
theorem dX5_median_109 : decode cX5_median 109 = .ok (.ifCond .eq 28, 3) := by decide +kernel
theorem dX5_median_112 : decode cX5_median 112 = .ok (.aload_n 0, 1) := by decide +kernel
theorem dX5_median_113 : decode cX5_median 113 = .ok (.iload 7, 2) := by decide +kernel
theorem dX5_median_115 : decode cX5_median 115 = .ok (.invokestatic 49, 3) := by decide +kernel
theorem dX5_median_118 : decode cX5_median 118 = .ok (.invokevirtual 88, 3) := by decide +kernel
theorem dX5_median_121 : decode cX5_median 121 = .ok (.aload_n 0, 1) := by decide +kernel
theorem dX5_median_122 : decode cX5_median 122 = .ok (.iload 4, 2) := by decide +kernel
theorem dX5_median_124 : decode cX5_median 124 = .ok (.invokestatic 49, 3) := by decide +kernel
theorem dX5_median_127 : decode cX5_median 127 = .ok (.invokevirtual 88, 3) := by decide +kernel
theorem dX5_median_130 : decode cX5_median 130 = .ok (.if_icmp .ne 7, 3) := by decide +kernel
theorem dX5_median_133 : decode cX5_median 133 = .ok (.iconst 1, 1) := by decide +kernel
theorem dX5_median_134 : decode cX5_median 134 = .ok (.goto 4, 3) := by decide +kernel
theorem dX5_median_137 : decode cX5_median 137 = .ok (.iconst 0, 1) := by decide +kernel
theorem dX5_median_138 : decode cX5_median 138 = .ok (.iadd, 1) := by decide +kernel
theorem dX5_median_139 : decode cX5_median 139 = .ok (.istore 6, 2) := by decide +kernel
theorem dX5_median_141 : decode cX5_median 141 = .ok (.iinc 7 1, 3) := by decide +kernel
theorem dX5_median_144 : decode cX5_median 144 = .ok (.goto (-108), 3) := by decide +kernel
theorem dX5_median_147 : decode cX5_median 147 = .ok (.aload_n 0, 1) := by decide +kernel
theorem dX5_median_148 : decode cX5_median 148 = .ok (.getfield 7, 3) := by decide +kernel
theorem dX5_median_151 : decode cX5_median 151 = .ok (.iload 4, 2) := by decide +kernel
theorem dX5_median_153 : decode cX5_median 153 = .ok (.invokestatic 46, 3) := by decide +kernel
theorem dX5_median_156 : decode cX5_median 156 = .ok (.iaload, 1) := by decide +kernel
theorem dX5_median_157 : decode cX5_median 157 = .ok (.iload_n 1, 1) := by decide +kernel
theorem dX5_median_158 : decode cX5_median 158 = .ok (.if_icmp .ne 31, 3) := by decide +kernel
theorem dX5_median_161 : decode cX5_median 161 = .ok (.iload_n 2, 1) := by decide +kernel
theorem dX5_median_162 : decode cX5_median 162 = .ok (.iload 5, 2) := by decide +kernel
theorem dX5_median_164 : decode cX5_median 164 = .ok (.iload 5, 2) := by decide +kernel
theorem dX5_median_166 : decode cX5_median 166 = .ok (.iload 6, 2) := by decide +kernel
theorem dX5_median_168 : decode cX5_median 168 = .ok (.iadd, 1) := by decide +kernel
theorem dX5_median_169 : decode cX5_median 169 = .ok (.iconst 1, 1) := by decide +kernel
theorem dX5_median_170 : decode cX5_median 170 = .ok (.isub, 1) := by decide +kernel
theorem dX5_median_171 : decode cX5_median 171 = .ok (.invokestatic 13, 3) := by decide +kernel
theorem dX5_median_174 : decode cX5_median 174 = .ok (.ifCond .eq 15, 3) := by decide +kernel
theorem dX5_median_177 : decode cX5_median 177 = .ok (.aload_n 0, 1) := by decide +kernel
theorem dX5_median_178 : decode cX5_median 178 = .ok (.iload 4, 2) := by decide +kernel
theorem dX5_median_180 : decode cX5_median 180 = .ok (.invokestatic 49, 3) := by decide +kernel
theorem dX5_median_183 : decode cX5_median 183 = .ok (.invokevirtual 88, 3) := by decide +kernel
theorem dX5_median_186 : decode cX5_median 186 = .ok (.goto 4, 3) := by decide +kernel
theorem dX5_median_189 : decode cX5_median 189 = .ok (.iload_n 3, 1) := by decide +kernel
theorem dX5_median_190 : decode cX5_median 190 = .ok (.istore_n 3, 1) := by decide +kernel
theorem dX5_median_191 : decode cX5_median 191 = .ok (.iinc 4 1, 3) := by decide +kernel
theorem dX5_median_194 : decode cX5_median 194 = .ok (.goto (-179), 3) := by decide +kernel
theorem dX5_median_197 : decode cX5_median 197 = .ok (.iload_n 3, 1) := by decide +kernel
theorem dX5_median_198 : decode cX5_median 198 = .ok (.ireturn, 1) := by decide +kernel
theorem dX5_removeOutliers_0 : decode cX5_removeOutliers 0 = .ok (.iload_n 1, 1) := by decide +kernel
theorem dX5_removeOutliers_1 : decode cX5_removeOutliers 1 = .ok (.invokestatic 34, 3) := by decide +kernel
theorem dX5_removeOutliers_4 : decode cX5_removeOutliers 4 = .ok (.ifCond .eq 13, 3) := by decide +kernel
theorem dX5_removeOutliers_7 : decode cX5_removeOutliers 7 = .ok (.iload_n 2, 1) := by decide +kernel
theorem dX5_removeOutliers_8 : decode cX5_removeOutliers 8 = .ok (.iconst 0, 1) := by decide +kernel
theorem dX5_removeOutliers_9 : decode cX5_removeOutliers 9 = .ok (.bipush 100, 2) := by decide +kernel
theorem dX5_removeOutliers_11 : decode cX5_removeOutliers 11 = .ok (.invokestatic 13, 3) := by decide +kernel
theorem dX5_removeOutliers_14 : decode cX5_removeOutliers 14 = .ok (.ifCond .ne 6, 3) := by decide +kernel
theorem dX5_removeOutliers_17 : decode cX5_removeOutliers 17 = .ok (.ldc 26, 2) := by decide +kernel
theorem dX5_removeOutliers_19 : decode cX5_removeOutliers 19 = .ok (.ireturn, 1) := by decide +kernel
theorem dX5_removeOutliers_20 : decode cX5_removeOutliers 20 = .ok (.aload_n 0, 1) := by decide +kernel
theorem dX5_removeOutliers_21 : decode cX5_removeOutliers 21 = .ok (.iload_n 1, 1) := by decide +kernel
theorem dX5_removeOutliers_22 : decode cX5_removeOutliers 22 = .ok (.invokevirtual 138, 3) := by decide +kernel
theorem dX5_removeOutliers_25 : decode cX5_removeOutliers 25 = .ok (.ifCond .ne 6, 3) := by decide +kernel
theorem dX5_removeOutliers_28 : decode cX5_removeOutliers 28 = .ok (.ldc 25, 2) := by decide +kernel
theorem dX5_removeOutliers_30 : decode cX5_removeOutliers 30 = .ok (.ireturn, 1) := by decide +kernel
theorem dX5_removeOutliers_31 : decode cX5_removeOutliers 31 = .ok (.aload_n 0, 1) := by decide +kernel
theorem dX5_removeOutliers_32 : decode cX5_removeOutliers 32 = .ok (.invokevirtual 27, 3) := by decide +kernel
theorem dX5_removeOutliers_35 : decode cX5_removeOutliers 35 = .ok (.aload_n 0, 1) := by decide +kernel
theorem dX5_removeOutliers_36 : decode cX5_removeOutliers 36 = .ok (.iload_n 1, 1) := by decide +kernel
theorem dX5_removeOutliers_37 : decode cX5_removeOutliers 37 = .ok (.invokevirtual 146, 3) := by decide +kernel
theorem dX5_removeOutliers_40 : decode cX5_removeOutliers 40 = .ok (.istore_n 3, 1) := by decide +kernel
theorem dX5_removeOutliers_41 : decode cX5_removeOutliers 41 = .ok (.iconst 0, 1) := by decide +kernel
theorem dX5_removeOutliers_42 : decode cX5_removeOutliers 42 = .ok (.istore 4, 2) := by decide +kernel
theorem dX5_removeOutliers_44 : decode cX5_removeOutliers 44 = .ok (.aload_n 0, 1) := by decide +kernel
theorem dX5_removeOutliers_45 : decode cX5_removeOutliers 45 = .ok (.getfield 7, 3) := by decide +kernel
theorem dX5_removeOutliers_48 : decode cX5_removeOutliers 48 = .ok (.bipush 61, 2) := by decide +kernel
theorem dX5_removeOutliers_50 : decode cX5_removeOutliers 50 = .ok (.iaload, 1) := by decide +kernel
theorem dX5_removeOutliers_51 : decode cX5_removeOutliers 51 = .ok (.iconst 1, 1) := by decide +kernel
theorem dX5_removeOutliers_52 : decode cX5_removeOutliers 52 = .ok (.isub, 1) := by decide +kernel
theorem dX5_removeOutliers_53 : decode cX5_removeOutliers 53 = .ok (.istore 5, 2) := by decide +kernel
theorem dX5_removeOutliers_55 : decode cX5_removeOutliers 55 = .ok (.iload 5, 2) := by decide +kernel
theorem dX5_removeOutliers_57 : decode cX5_removeOutliers 57 = .ok (.ifCond .lt 62, 3) := by decide +kernel
theorem dX5_removeOutliers_60 : decode cX5_removeOutliers 60 = .ok (.aload_n 0, 1) := by decide +kernel
theorem dX5_removeOutliers_61 : decode cX5_removeOutliers 61 = .ok (.iload 5, 2) := by decide +kernel
theorem dX5_removeOutliers_63 : decode cX5_removeOutliers 63 = .ok (.invokestatic 49, 3) := by decide +kernel
theorem dX5_removeOutliers_66 : decode cX5_removeOutliers 66 = .ok (.invokevirtual 88, 3) := by decide +kernel
theorem dX5_removeOutliers_69 : decode cX5_removeOutliers 69 = .ok (.iload_n 3, 1) := by decide +kernel
theorem dX5_removeOutliers_70 : decode cX5_removeOutliers 70 = .ok (.isub, 1) := by decide +kernel
theorem dX5_removeOutliers_71 : decode cX5_removeOutliers 71 = .ok (.invokestatic 131, 3) := by decide +kernel
theorem dX5_removeOutliers_74 : decode cX5_removeOutliers 74 = .ok (.istore 6, 2) := by decide +kernel
theorem dX5_removeOutliers_76 : decode cX5_removeOutliers 76 = .ok (.aload_n 0, 1) := by decide +kernel
theorem dX5_removeOutliers_77 : decode cX5_removeOutliers 77 = .ok (.getfield 7, 3) := by decide +kernel
theorem dX5_removeOutliers_80 : decode cX5_removeOutliers 80 = .ok (.iload 5, 2) := by decide +kernel
theorem dX5_removeOutliers_82 : decode cX5_removeOutliers 82 = .ok (.invokestatic 46, 3) := by decide +kernel
theorem dX5_removeOutliers_85 : decode cX5_removeOutliers 85 = .ok (.iaload, 1) := by decide +kernel
theorem dX5_removeOutliers_86 : decode cX5_removeOutliers 86 = .ok (.iload_n 1, 1) := by decide +kernel
theorem dX5_removeOutliers_87 : decode cX5_removeOutliers 87 = .ok (.if_icmp .ne 26, 3) := by decide +kernel
theorem dX5_removeOutliers_90 : decode cX5_removeOutliers 90 = .ok (.iload 6, 2) := by decide +kernel
theorem dX5_removeOutliers_92 : decode cX5_removeOutliers 92 = .ok (.bipush 100, 2) := by decide +kernel
theorem dX5_removeOutliers_94 : decode cX5_removeOutliers 94 = .ok (.imul, 1) := by decide +kernel
theorem dX5_removeOutliers_95 : decode cX5_removeOutliers 95 = .ok (.iload_n 2, 1) := by decide +kernel
theorem dX5_removeOutliers_96 : decode cX5_removeOutliers 96 = .ok (.iload_n 3, 1) := by decide +kernel
theorem dX5_removeOutliers_97 : decode cX5_removeOutliers 97 = .ok (.invokestatic 131, 3) := by decide +kernel
theorem dX5_removeOutliers_100 : decode cX5_removeOutliers 100 = .ok (.imul, 1) := by decide +kernel
theorem dX5_removeOutliers_101 : decode cX5_removeOutliers 101 = .ok (.if_icmp .le 12, 3) := by decide +kernel
theorem dX5_removeOutliers_104 : decode cX5_removeOutliers 104 = .ok (.aload_n 0, 1) := by decide +kernel
theorem dX5_removeOutliers_105 : decode cX5_removeOutliers 105 = .ok (.iload 5, 2) := by decide +kernel
theorem dX5_removeOutliers_107 : decode cX5_removeOutliers 107 = .ok (.invokevirtual 75, 3) := by decide +kernel
theorem dX5_removeOutliers_110 : decode cX5_removeOutliers 110 = .ok (.iinc 4 1, 3) := by decide +kernel
theorem dX5_removeOutliers_113 : decode cX5_removeOutliers 113 = .ok (.iinc 5 (-1), 3) := by decide +kernel
theorem dX5_removeOutliers_116 : decode cX5_removeOutliers 116 = .ok (.goto (-61), 3) := by decide +kernel
theorem dX5_removeOutliers_119 : decode cX5_removeOutliers 119 = .ok (.iload 4, 2) := by decide +kernel
theorem dX5_removeOutliers_121 : decode cX5_removeOutliers 121 = .ok (.ireturn, 1) := by decide +kernel
theorem dX5_idealBy_0 : decode cX5_idealBy 0 = .ok (.aload_n 0, 1) := by decide +kernel
theorem dX5_idealBy_1 : decode cX5_idealBy 1 = .ok (.aload_n 0, 1) := by decide +kernel
theorem dX5_idealBy_2 : decode cX5_idealBy 2 = .ok (.iload_n 1, 1) := by decide +kernel
theorem dX5_idealBy_3 : decode cX5_idealBy 3 = .ok (.iconst 0, 1) := by decide +kernel
theorem dX5_idealBy_4 : decode cX5_idealBy 4 = .ok (.invokevirtual 65, 3) := by decide +kernel
theorem dX5_idealBy_7 : decode cX5_idealBy 7 = .ok (.iload_n 2, 1) := by decide +kernel
theorem dX5_idealBy_8 : decode cX5_idealBy 8 = .ok (.aload_n 0, 1) := by decide +kernel
theorem dX5_idealBy_9 : decode cX5_idealBy 9 = .ok (.iload_n 1, 1) := by decide +kernel
theorem dX5_idealBy_10 : decode cX5_idealBy 10 = .ok (.iconst 2, 1) := by decide +kernel
theorem dX5_idealBy_11 : decode cX5_idealBy 11 = .ok (.invokevirtual 65, 3) := by decide +kernel
theorem dX5_idealBy_14 : decode cX5_idealBy 14 = .ok (.aload_n 0, 1) := by decide +kernel
theorem dX5_idealBy_15 : decode cX5_idealBy 15 = .ok (.iload_n 1, 1) := by decide +kernel
theorem dX5_idealBy_16 : decode cX5_idealBy 16 = .ok (.iconst 3, 1) := by decide +kernel
theorem dX5_idealBy_17 : decode cX5_idealBy 17 = .ok (.invokevirtual 65, 3) := by decide +kernel
theorem dX5_idealBy_20 : decode cX5_idealBy 20 = .ok (.iconst 0, 1) := by decide +kernel
theorem dX5_idealBy_21 : decode cX5_idealBy 21 = .ok (.invokevirtual 68, 3) := by decide +kernel
theorem dX5_idealBy_24 : decode cX5_idealBy 24 = .ok (.aload_n 0, 1) := by decide +kernel
theorem dX5_idealBy_25 : decode cX5_idealBy 25 = .ok (.sipush 2510, 3) := by decide +kernel
theorem dX5_idealBy_28 : decode cX5_idealBy 28 = .ok (.invokevirtual 88, 3) := by decide +kernel
theorem dX5_idealBy_31 : decode cX5_idealBy 31 = .ok (.ireturn, 1) := by decide +kernel
theorem dX5_idealArea_0 : decode cX5_idealArea 0 = .ok (.iload_n 1, 1) := by decide +kernel
theorem dX5_idealArea_1 : decode cX5_idealArea 1 = .ok (.invokestatic 34, 3) := by decide +kernel
theorem dX5_idealArea_4 : decode cX5_idealArea 4 = .ok (.ifCond .eq 17, 3) := by decide +kernel
theorem dX5_idealArea_7 : decode cX5_idealArea 7 = .ok (.aload_n 0, 1) := by decide +kernel
theorem dX5_idealArea_8 : decode cX5_idealArea 8 = .ok (.iload_n 1, 1) := by decide +kernel
theorem dX5_idealArea_9 : decode cX5_idealArea 9 = .ok (.aload_n 0, 1) := by decide +kernel
theorem dX5_idealArea_10 : decode cX5_idealArea 10 = .ok (.iload_n 1, 1) := by decide +kernel
theorem dX5_idealArea_11 : decode cX5_idealArea 11 = .ok (.iconst 1, 1) := by decide +kernel
theorem dX5_idealArea_12 : decode cX5_idealArea 12 = .ok (.invokevirtual 65, 3) := by decide +kernel
theorem dX5_idealArea_15 : decode cX5_idealArea 15 = .ok (.invokevirtual 149, 3) := by decide +kernel
theorem dX5_idealArea_18 : decode cX5_idealArea 18 = .ok (.goto 5, 3) := by decide +kernel
theorem dX5_idealArea_21 : decode cX5_idealArea 21 = .ok (.ldc 26, 2) := by decide +kernel
theorem dX5_idealArea_23 : decode cX5_idealArea 23 = .ok (.ireturn, 1) := by decide +kernel
theorem dX5_canCut_0 : decode cX5_canCut 0 = .ok (.iload_n 2, 1) := by decide +kernel
theorem dX5_canCut_1 : decode cX5_canCut 1 = .ok (.aload_n 0, 1) := by decide +kernel
theorem dX5_canCut_2 : decode cX5_canCut 2 = .ok (.iload_n 1, 1) := by decide +kernel
theorem dX5_canCut_3 : decode cX5_canCut 3 = .ok (.iconst 0, 1) := by decide +kernel
theorem dX5_canCut_4 : decode cX5_canCut 4 = .ok (.invokevirtual 65, 3) := by decide +kernel
theorem dX5_canCut_7 : decode cX5_canCut 7 = .ok (.if_icmp .le 17, 3) := by decide +kernel
theorem dX5_canCut_10 : decode cX5_canCut 10 = .ok (.iload_n 2, 1) := by decide +kernel
theorem dX5_canCut_11 : decode cX5_canCut 11 = .ok (.aload_n 0, 1) := by decide +kernel
theorem dX5_canCut_12 : decode cX5_canCut 12 = .ok (.iload_n 1, 1) := by decide +kernel
theorem dX5_canCut_13 : decode cX5_canCut 13 = .ok (.iconst 2, 1) := by decide +kernel
theorem dX5_canCut_14 : decode cX5_canCut 14 = .ok (.invokevirtual 65, 3) := by decide +kernel
theorem dX5_canCut_17 : decode cX5_canCut 17 = .ok (.if_icmp .ge 7, 3) := by decide +kernel
theorem dX5_canCut_20 : decode cX5_canCut 20 = .ok (.iconst 1, 1) := by decide +kernel
theorem dX5_canCut_21 : decode cX5_canCut 21 = .ok (.goto 4, 3) := by decide +kernel
theorem dX5_canCut_24 : decode cX5_canCut 24 = .ok (.iconst 0, 1) := by decide +kernel
theorem dX5_canCut_25 : decode cX5_canCut 25 = .ok (.ireturn, 1) := by decide +kernel
theorem dX5_bestCutOff_0 : decode cX5_bestCutOff 0 = .ok (.iload_n 1, 1) := by decide +kernel
theorem dX5_bestCutOff_1 : decode cX5_bestCutOff 1 = .ok (.invokestatic 34, 3) := by decide +kernel
theorem dX5_bestCutOff_4 : decode cX5_bestCutOff 4 = .ok (.ifCond .eq 14, 3) := by decide +kernel
theorem dX5_bestCutOff_7 : decode cX5_bestCutOff 7 = .ok (.iload_n 2, 1) := by decide +kernel
theorem dX5_bestCutOff_8 : decode cX5_bestCutOff 8 = .ok (.ldc 152, 2) := by decide +kernel
theorem dX5_bestCutOff_10 : decode cX5_bestCutOff 10 = .ok (.ldc 153, 2) := by decide +kernel
theorem dX5_bestCutOff_12 : decode cX5_bestCutOff 12 = .ok (.invokestatic 13, 3) := by decide +kernel
theorem dX5_bestCutOff_15 : decode cX5_bestCutOff 15 = .ok (.ifCond .ne 6, 3) := by decide +kernel
theorem dX5_bestCutOff_18 : decode cX5_bestCutOff 18 = .ok (.ldc 26, 2) := by decide +kernel
theorem dX5_bestCutOff_20 : decode cX5_bestCutOff 20 = .ok (.ireturn, 1) := by decide +kernel
theorem dX5_bestCutOff_21 : decode cX5_bestCutOff 21 = .ok (.iconst 0, 1) := by decide +kernel
theorem dX5_bestCutOff_22 : decode cX5_bestCutOff 22 = .ok (.istore_n 3, 1) := by decide +kernel
theorem dX5_bestCutOff_23 : decode cX5_bestCutOff 23 = .ok (.iconst 0, 1) := by decide +kernel
theorem dX5_bestCutOff_24 : decode cX5_bestCutOff 24 = .ok (.istore 4, 2) := by decide +kernel
theorem dX5_bestCutOff_26 : decode cX5_bestCutOff 26 = .ok (.iconst 1, 1) := by decide +kernel
theorem dX5_bestCutOff_27 : decode cX5_bestCutOff 27 = .ok (.istore 5, 2) := by decide +kernel
theorem dX5_bestCutOff_29 : decode cX5_bestCutOff 29 = .ok (.iload 5, 2) := by decide +kernel
theorem dX5_bestCutOff_31 : decode cX5_bestCutOff 31 = .ok (.bipush 19, 2) := by decide +kernel
theorem dX5_bestCutOff_33 : decode cX5_bestCutOff 33 = .ok (.if_icmp .ge 91, 3) := by decide +kernel
theorem dX5_bestCutOff_36 : decode cX5_bestCutOff 36 = .ok (.aload_n 0, 1) := by decide +kernel
theorem dX5_bestCutOff_37 : decode cX5_bestCutOff 37 = .ok (.iload_n 1, 1) := by decide +kernel
theorem dX5_bestCutOff_38 : decode cX5_bestCutOff 38 = .ok (.iload 5, 2) := by decide +kernel
theorem dX5_bestCutOff_40 : decode cX5_bestCutOff 40 = .ok (.invokevirtual 154, 3) := by decide +kernel
theorem dX5_bestCutOff_43 : decode cX5_bestCutOff 43 = .ok (.ifCond .eq 18, 3) := by decide +kernel
theorem dX5_bestCutOff_46 : decode cX5_bestCutOff 46 = .ok (.aload_n 0, 1) := by decide +kernel
theorem dX5_bestCutOff_47 : decode cX5_bestCutOff 47 = .ok (.iload_n 1, 1) := by decide +kernel
theorem dX5_bestCutOff_48 : decode cX5_bestCutOff 48 = .ok (.iload 5, 2) := by decide +kernel
theorem dX5_bestCutOff_50 : decode cX5_bestCutOff 50 = .ok (.invokevirtual 149, 3) := by decide +kernel
theorem dX5_bestCutOff_53 : decode cX5_bestCutOff 53 = .ok (.iload_n 2, 1) := by decide +kernel
theorem dX5_bestCutOff_54 : decode cX5_bestCutOff 54 = .ok (.isub, 1) := by decide +kernel
theorem dX5_bestCutOff_55 : decode cX5_bestCutOff 55 = .ok (.invokestatic 131, 3) := by decide +kernel
theorem dX5_bestCutOff_58 : decode cX5_bestCutOff 58 = .ok (.goto 4, 3) := by decide +kernel
theorem dX5_bestCutOff_61 : decode cX5_bestCutOff 61 = .ok (.iconst 0, 1) := by decide +kernel
theorem dX5_bestCutOff_62 : decode cX5_bestCutOff 62 = .ok (.istore 6, 2) := by decide +kernel
theorem dX5_bestCutOff_64 : decode cX5_bestCutOff 64 = .ok (.aload_n 0, 1) := by decide +kernel
theorem dX5_bestCutOff_65 : decode cX5_bestCutOff 65 = .ok (.iload_n 1, 1) := by decide +kernel
theorem dX5_bestCutOff_66 : decode cX5_bestCutOff 66 = .ok (.iload 5, 2) := by decide +kernel
theorem dX5_bestCutOff_68 : decode cX5_bestCutOff 68 = .ok (.invokevirtual 154, 3) := by decide +kernel
theorem dX5_bestCutOff_71 : decode cX5_bestCutOff 71 = .ok (.ifCond .eq 18, 3) := by decide +kernel
theorem dX5_bestCutOff_74 : decode cX5_bestCutOff 74 = .ok (.iload_n 3, 1) := by decide +kernel
theorem dX5_bestCutOff_75 : decode cX5_bestCutOff 75 = .ok (.ifCond .eq 10, 3) := by decide +kernel
theorem dX5_bestCutOff_78 : decode cX5_bestCutOff 78 = .ok (.iload 6, 2) := by decide +kernel
theorem dX5_bestCutOff_80 : decode cX5_bestCutOff 80 = .ok (.iload 4, 2) := by decide +kernel
theorem dX5_bestCutOff_82 : decode cX5_bestCutOff 82 = .ok (.if_icmp .ge 7, 3) := by decide +kernel
theorem dX5_bestCutOff_85 : decode cX5_bestCutOff 85 = .ok (.iconst 1, 1) := by decide +kernel
theorem dX5_bestCutOff_86 : decode cX5_bestCutOff 86 = .ok (.goto 4, 3) := by decide +kernel
theorem dX5_bestCutOff_89 : decode cX5_bestCutOff 89 = .ok (.iconst 0, 1) := by decide +kernel
theorem dX5_bestCutOff_90 : decode cX5_bestCutOff 90 = .ok (.istore 7, 2) := by decide +kernel
theorem dX5_bestCutOff_92 : decode cX5_bestCutOff 92 = .ok (.iload 7, 2) := by decide +kernel
theorem dX5_bestCutOff_94 : decode cX5_bestCutOff 94 = .ok (.ifCond .eq 8, 3) := by decide +kernel
theorem dX5_bestCutOff_97 : decode cX5_bestCutOff 97 = .ok (.iload 5, 2) := by decide +kernel
theorem dX5_bestCutOff_99 : decode cX5_bestCutOff 99 = .ok (.goto 4, 3) := by decide +kernel
theorem dX5_bestCutOff_102 : decode cX5_bestCutOff 102 = .ok (.iload_n 3, 1) := by decide +kernel
theorem dX5_bestCutOff_103 : decode cX5_bestCutOff 103 = .ok (.istore_n 3, 1) := by decide +kernel
theorem dX5_bestCutOff_104 : decode cX5_bestCutOff 104 = .ok (.iload 7, 2) := by decide +kernel
theorem dX5_bestCutOff_106 : decode cX5_bestCutOff 106 = .ok (.ifCond .eq 8, 3) := by decide +kernel
theorem dX5_bestCutOff_109 : decode cX5_bestCutOff 109 = .ok (.iload 6, 2) := by decide +kernel
theorem dX5_bestCutOff_111 : decode cX5_bestCutOff 111 = .ok (.goto 5, 3) := by decide +kernel
theorem dX5_bestCutOff_114 : decode cX5_bestCutOff 114 = .ok (.iload 4, 2) := by decide +kernel
theorem dX5_bestCutOff_116 : decode cX5_bestCutOff 116 = .ok (.istore 4, 2) := by decide +kernel
theorem dX5_bestCutOff_118 : decode cX5_bestCutOff 118 = .ok (.iinc 5 1, 3) := by decide +kernel
theorem dX5_bestCutOff_121 : decode cX5_bestCutOff 121 = .ok (.goto (-92), 3) := by decide +kernel
theorem dX5_bestCutOff_124 : decode cX5_bestCutOff 124 = .ok (.iload_n 3, 1) := by decide +kernel
theorem dX5_bestCutOff_125 : decode cX5_bestCutOff 125 = .ok (.ireturn, 1) := by decide +kernel
theorem dX5_balancingCutOff_0 : decode cX5_balancingCutOff 0 = .ok (.aload_n 0, 1) := by decide +kernel
theorem dX5_balancingCutOff_1 : decode cX5_balancingCutOff 1 = .ok (.aload_n 0, 1) := by decide +kernel
theorem dX5_balancingCutOff_2 : decode cX5_balancingCutOff 2 = .ok (.iconst 0, 1) := by decide +kernel
theorem dX5_balancingCutOff_3 : decode cX5_balancingCutOff 3 = .ok (.aload_n 0, 1) := by decide +kernel
theorem dX5_balancingCutOff_4 : decode cX5_balancingCutOff 4 = .ok (.iconst 0, 1) := by decide +kernel
theorem dX5_balancingCutOff_5 : decode cX5_balancingCutOff 5 = .ok (.iconst 1, 1) := by decide +kernel
theorem dX5_balancingCutOff_6 : decode cX5_balancingCutOff 6 = .ok (.invokevirtual 65, 3) := by decide +kernel
theorem dX5_balancingCutOff_9 : decode cX5_balancingCutOff 9 = .ok (.invokevirtual 149, 3) := by decide +kernel
theorem dX5_balancingCutOff_12 : decode cX5_balancingCutOff 12 = .ok (.iconst 0, 1) := by decide +kernel
theorem dX5_balancingCutOff_13 : decode cX5_balancingCutOff 13 = .ok (.bipush 60, 2) := by decide +kernel
theorem dX5_balancingCutOff_15 : decode cX5_balancingCutOff 15 = .ok (.invokevirtual 97, 3) := by decide +kernel
theorem dX5_balancingCutOff_18 : decode cX5_balancingCutOff 18 = .ok (.lstore_n 1, 1) := by decide +kernel
theorem dX5_balancingCutOff_19 : decode cX5_balancingCutOff 19 = .ok (.iconst 0, 1) := by decide +kernel
theorem dX5_balancingCutOff_20 : decode cX5_balancingCutOff 20 = .ok (.istore_n 3, 1) := by decide +kernel
theorem dX5_balancingCutOff_21 : decode cX5_balancingCutOff 21 = .ok (.lconst 0, 1) := by decide +kernel
theorem dX5_balancingCutOff_22 : decode cX5_balancingCutOff 22 = .ok (.lstore 4, 2) := by decide +kernel
theorem dX5_balancingCutOff_24 : decode cX5_balancingCutOff 24 = .ok (.iconst 1, 1) := by decide +kernel
theorem dX5_balancingCutOff_25 : decode cX5_balancingCutOff 25 = .ok (.istore 6, 2) := by decide +kernel
theorem dX5_balancingCutOff_27 : decode cX5_balancingCutOff 27 = .ok (.iload 6, 2) := by decide +kernel
theorem dX5_balancingCutOff_29 : decode cX5_balancingCutOff 29 = .ok (.bipush 19, 2) := by decide +kernel
theorem dX5_balancingCutOff_31 : decode cX5_balancingCutOff 31 = .ok (.if_icmp .ge 113, 3) := by decide +kernel
theorem dX5_balancingCutOff_34 : decode cX5_balancingCutOff 34 = .ok (.aload_n 0, 1) := by decide +kernel
theorem dX5_balancingCutOff_35 : decode cX5_balancingCutOff 35 = .ok (.iconst 1, 1) := by decide +kernel
theorem dX5_balancingCutOff_36 : decode cX5_balancingCutOff 36 = .ok (.iload 6, 2) := by decide +kernel
theorem dX5_balancingCutOff_38 : decode cX5_balancingCutOff 38 = .ok (.invokevirtual 154, 3) := by decide +kernel
theorem dX5_balancingCutOff_41 : decode cX5_balancingCutOff 41 = .ok (.ifCond .eq 22, 3) := by decide +kernel
theorem dX5_balancingCutOff_44 : decode cX5_balancingCutOff 44 = .ok (.aload_n 0, 1) := by decide +kernel
theorem dX5_balancingCutOff_45 : decode cX5_balancingCutOff 45 = .ok (.aload_n 0, 1) := by decide +kernel
theorem dX5_balancingCutOff_46 : decode cX5_balancingCutOff 46 = .ok (.iconst 1, 1) := by decide +kernel
theorem dX5_balancingCutOff_47 : decode cX5_balancingCutOff 47 = .ok (.iload 6, 2) := by decide +kernel
theorem dX5_balancingCutOff_49 : decode cX5_balancingCutOff 49 = .ok (.invokevirtual 149, 3) := by decide +kernel
theorem dX5_balancingCutOff_52 : decode cX5_balancingCutOff 52 = .ok (.iconst 1, 1) := by decide +kernel
theorem dX5_balancingCutOff_53 : decode cX5_balancingCutOff 53 = .ok (.bipush 60, 2) := by decide +kernel
theorem dX5_balancingCutOff_55 : decode cX5_balancingCutOff 55 = .ok (.invokevirtual 97, 3) := by decide +kernel
theorem dX5_balancingCutOff_58 : decode cX5_balancingCutOff 58 = .ok (.lload_n 1, 1) := by decide +kernel
theorem dX5_balancingCutOff_59 : decode cX5_balancingCutOff 59 = .ok (.lsub, 1) := by decide +kernel
theorem dX5_balancingCutOff_60 : decode cX5_balancingCutOff 60 = .ok (.goto 4, 3) := by decide +kernel
theorem dX5_balancingCutOff_63 : decode cX5_balancingCutOff 63 = .ok (.lconst 0, 1) := by decide +kernel
theorem dX5_balancingCutOff_64 : decode cX5_balancingCutOff 64 = .ok (.lstore 7, 2) := by decide +kernel
theorem dX5_balancingCutOff_66 : decode cX5_balancingCutOff 66 = .ok (.lload 7, 2) := by decide +kernel
theorem dX5_balancingCutOff_68 : decode cX5_balancingCutOff 68 = .ok (.lconst 0, 1) := by decide +kernel
theorem dX5_balancingCutOff_69 : decode cX5_balancingCutOff 69 = .ok (.lcmp, 1) := by decide +kernel
theorem dX5_balancingCutOff_70 : decode cX5_balancingCutOff 70 = .ok (.ifCond .ge 9, 3) := by decide +kernel
theorem dX5_balancingCutOff_73 : decode cX5_balancingCutOff 73 = .ok (.lload 7, 2) := by decide +kernel
theorem dX5_balancingCutOff_75 : decode cX5_balancingCutOff 75 = .ok (.lneg, 1) := by decide +kernel
theorem dX5_balancingCutOff_76 : decode cX5_balancingCutOff 76 = .ok (.goto 5, 3) := by decide +kernel
theorem dX5_balancingCutOff_79 : decode cX5_balancingCutOff 79 = .ok (.lload 7, 2) := by decide +kernel
theorem dX5_balancingCutOff_81 : decode cX5_balancingCutOff 81 = .ok (.lstore 9, 2) := by decide +kernel
theorem dX5_balancingCutOff_83 : decode cX5_balancingCutOff 83 = .ok (.aload_n 0, 1) := by decide +kernel
theorem dX5_balancingCutOff_84 : decode cX5_balancingCutOff 84 = .ok (.iconst 1, 1) := by decide +kernel
theorem dX5_balancingCutOff_85 : decode cX5_balancingCutOff 85 = .ok (.iload 6, 2) := by decide +kernel
theorem dX5_balancingCutOff_87 : decode cX5_balancingCutOff 87 = .ok (.invokevirtual 154, 3) := by decide +kernel
theorem dX5_balancingCutOff_90 : decode cX5_balancingCutOff 90 = .ok (.ifCond .eq 19, 3) := by decide +kernel
theorem dX5_balancingCutOff_93 : decode cX5_balancingCutOff 93 = .ok (.iload_n 3, 1) := by decide +kernel
theorem dX5_balancingCutOff_94 : decode cX5_balancingCutOff 94 = .ok (.ifCond .eq 11, 3) := by decide +kernel
theorem dX5_balancingCutOff_97 : decode cX5_balancingCutOff 97 = .ok (.lload 9, 2) := by decide +kernel
theorem dX5_balancingCutOff_99 : decode cX5_balancingCutOff 99 = .ok (.lload 4, 2) := by decide +kernel
theorem dX5_balancingCutOff_101 : decode cX5_balancingCutOff 101 = .ok (.lcmp, 1) := by decide +kernel
theorem dX5_balancingCutOff_102 : decode cX5_balancingCutOff 102 = .ok (.ifCond .ge 7, 3) := by decide +kernel
theorem dX5_balancingCutOff_105 : decode cX5_balancingCutOff 105 = .ok (.iconst 1, 1) := by decide +kernel
theorem dX5_balancingCutOff_106 : decode cX5_balancingCutOff 106 = .ok (.goto 4, 3) := by decide +kernel
theorem dX5_balancingCutOff_109 : decode cX5_balancingCutOff 109 = .ok (.iconst 0, 1) := by decide +kernel
theorem dX5_balancingCutOff_110 : decode cX5_balancingCutOff 110 = .ok (.istore 11, 2) := by decide +kernel
theorem dX5_balancingCutOff_112 : decode cX5_balancingCutOff 112 = .ok (.iload 11, 2) := by decide +kernel
theorem dX5_balancingCutOff_114 : decode cX5_balancingCutOff 114 = .ok (.ifCond .eq 8, 3) := by decide +kernel
theorem dX5_balancingCutOff_117 : decode cX5_balancingCutOff 117 = .ok (.iload 6, 2) := by decide +kernel
theorem dX5_balancingCutOff_119 : decode cX5_balancingCutOff 119 = .ok (.goto 4, 3) := by decide +kernel
theorem dX5_balancingCutOff_122 : decode cX5_balancingCutOff 122 = .ok (.iload_n 3, 1) := by decide +kernel
theorem dX5_balancingCutOff_123 : decode cX5_balancingCutOff 123 = .ok (.istore_n 3, 1) := by decide +kernel
theorem dX5_balancingCutOff_124 : decode cX5_balancingCutOff 124 = .ok (.iload 11, 2) := by decide +kernel
theorem dX5_balancingCutOff_126 : decode cX5_balancingCutOff 126 = .ok (.ifCond .eq 8, 3) := by decide +kernel
theorem dX5_balancingCutOff_129 : decode cX5_balancingCutOff 129 = .ok (.lload 9, 2) := by decide +kernel
theorem dX5_balancingCutOff_131 : decode cX5_balancingCutOff 131 = .ok (.goto 5, 3) := by decide +kernel
theorem dX5_balancingCutOff_134 : decode cX5_balancingCutOff 134 = .ok (.lload 4, 2) := by decide +kernel
theorem dX5_balancingCutOff_136 : decode cX5_balancingCutOff 136 = .ok (.lstore 4, 2) := by decide +kernel
theorem dX5_balancingCutOff_138 : decode cX5_balancingCutOff 138 = .ok (.iinc 6 1, 3) := by decide +kernel
theorem dX5_balancingCutOff_141 : decode cX5_balancingCutOff 141 = .ok (.goto (-114), 3) := by decide +kernel
theorem dX5_balancingCutOff_144 : decode cX5_balancingCutOff 144 = .ok (.iload_n 3, 1) := by decide +kernel
theorem dX5_balancingCutOff_145 : decode cX5_balancingCutOff 145 = .ok (.ireturn, 1) := by decide +kernel
end
section
theorem dL_law_0 : decode cL_law 0 = .ok (.new 7, 3) := by decide +kernel
theorem dL_law_3 : decode cL_law 3 = .ok (.dup, 1) := by decide +kernel
theorem dL_law_4 : decode cL_law 4 = .ok (.invokespecial 9, 3) := by decide +kernel
theorem dL_law_7 : decode cL_law 7 = .ok (.astore_n 1, 1) := by decide +kernel
theorem dL_law_8 : decode cL_law 8 = .ok (.new 10, 3) := by decide +kernel
theorem dL_law_11 : decode cL_law 11 = .ok (.dup, 1) := by decide +kernel
theorem dL_law_12 : decode cL_law 12 = .ok (.invokespecial 12, 3) := by decide +kernel
theorem dL_law_15 : decode cL_law 15 = .ok (.astore_n 2, 1) := by decide +kernel
theorem dL_law_16 : decode cL_law 16 = .ok (.iconst 0, 1) := by decide +kernel
theorem dL_law_17 : decode cL_law 17 = .ok (.istore_n 3, 1) := by decide +kernel
theorem dL_law_18 : decode cL_law 18 = .ok (.iload_n 3, 1) := by decide +kernel
theorem dL_law_19 : decode cL_law 19 = .ok (.aload_n 0, 1) := by decide +kernel
theorem dL_law_20 : decode cL_law 20 = .ok (.arraylength, 1) := by decide +kernel
theorem dL_law_21 : decode cL_law 21 = .ok (.bipush 6, 2) := by decide +kernel
theorem dL_law_23 : decode cL_law 23 = .ok (.isub, 1) := by decide +kernel
theorem dL_law_24 : decode cL_law 24 = .ok (.if_icmp .gt 1198, 3) := by decide +kernel
theorem dL_law_27 : decode cL_law 27 = .ok (.aload_n 0, 1) := by decide +kernel
theorem dL_law_28 : decode cL_law 28 = .ok (.iload_n 3, 1) := by decide +kernel
theorem dL_law_29 : decode cL_law 29 = .ok (.iaload, 1) := by decide +kernel
theorem dL_law_30 : decode cL_law 30 = .ok (.bipush 63, 2) := by decide +kernel
theorem dL_law_32 : decode cL_law 32 = .ok (.iand, 1) := by decide +kernel
theorem dL_law_33 : decode cL_law 33 = .ok (.tableswitch 1183 0 37 #[167, 190, 223, 246, 269, 292, 325, 388, 421, 454, 497, 510, 563, 586, 599, 622, 645, 688, 711, 734, 757, 780, 803, 827, 860, 893, 916, 949, 972, 995, 1018, 1042, 1055, 1088, 1111, 1144, 1157, 1170], 167) := by decide +kernel
theorem dL_law_200 : decode cL_law 200 = .ok (.aload_n 1, 1) := by decide +kernel
theorem dL_law_201 : decode cL_law 201 = .ok (.aload_n 0, 1) := by decide +kernel
theorem dL_law_202 : decode cL_law 202 = .ok (.iload_n 3, 1) := by decide +kernel
theorem dL_law_203 : decode cL_law 203 = .ok (.iconst 1, 1) := by decide +kernel
theorem dL_law_204 : decode cL_law 204 = .ok (.iadd, 1) := by decide +kernel
theorem dL_law_205 : decode cL_law 205 = .ok (.iaload, 1) := by decide +kernel
theorem dL_law_206 : decode cL_law 206 = .ok (.invokevirtual 13, 3) := by decide +kernel
theorem dL_law_209 : decode cL_law 209 = .ok (.aload_n 2, 1) := by decide +kernel
theorem dL_law_210 : decode cL_law 210 = .ok (.aload_n 0, 1) := by decide +kernel
theorem dL_law_211 : decode cL_law 211 = .ok (.iload_n 3, 1) := by decide +kernel
theorem dL_law_212 : decode cL_law 212 = .ok (.iconst 1, 1) := by decide +kernel
theorem dL_law_213 : decode cL_law 213 = .ok (.iadd, 1) := by decide +kernel
theorem dL_law_214 : decode cL_law 214 = .ok (.iaload, 1) := by decide +kernel
theorem dL_law_215 : decode cL_law 215 = .ok (.invokevirtual 17, 3) := by decide +kernel
theorem dL_law_218 : decode cL_law 218 = .ok (.if_icmp .eq 998, 3) := by decide +kernel
theorem dL_law_221 : decode cL_law 221 = .ok (.iconst 0, 1) := by decide +kernel
theorem dL_law_222 : decode cL_law 222 = .ok (.ireturn, 1) := by decide +kernel
theorem dL_law_223 : decode cL_law 223 = .ok (.aload_n 1, 1) := by decide +kernel
theorem dL_law_224 : decode cL_law 224 = .ok (.aload_n 0, 1) := by decide +kernel
theorem dL_law_225 : decode cL_law 225 = .ok (.iload_n 3, 1) := by decide +kernel
theorem dL_law_226 : decode cL_law 226 = .ok (.iconst 1, 1) := by decide +kernel
theorem dL_law_227 : decode cL_law 227 = .ok (.iadd, 1) := by decide +kernel
theorem dL_law_228 : decode cL_law 228 = .ok (.iaload, 1) := by decide +kernel
theorem dL_law_229 : decode cL_law 229 = .ok (.aload_n 0, 1) := by decide +kernel
theorem dL_law_230 : decode cL_law 230 = .ok (.iload_n 3, 1) := by decide +kernel
theorem dL_law_231 : decode cL_law 231 = .ok (.iconst 2, 1) := by decide +kernel
theorem dL_law_232 : decode cL_law 232 = .ok (.iadd, 1) := by decide +kernel
theorem dL_law_233 : decode cL_law 233 = .ok (.iaload, 1) := by decide +kernel
theorem dL_law_234 : decode cL_law 234 = .ok (.invokevirtual 18, 3) := by decide +kernel
theorem dL_law_237 : decode cL_law 237 = .ok (.aload_n 2, 1) := by decide +kernel
theorem dL_law_238 : decode cL_law 238 = .ok (.aload_n 0, 1) := by decide +kernel
theorem dL_law_239 : decode cL_law 239 = .ok (.iload_n 3, 1) := by decide +kernel
theorem dL_law_240 : decode cL_law 240 = .ok (.iconst 1, 1) := by decide +kernel
theorem dL_law_241 : decode cL_law 241 = .ok (.iadd, 1) := by decide +kernel
theorem dL_law_242 : decode cL_law 242 = .ok (.iaload, 1) := by decide +kernel
theorem dL_law_243 : decode cL_law 243 = .ok (.aload_n 0, 1) := by decide +kernel
theorem dL_law_244 : decode cL_law 244 = .ok (.iload_n 3, 1) := by decide +kernel
theorem dL_law_245 : decode cL_law 245 = .ok (.iconst 2, 1) := by decide +kernel
theorem dL_law_246 : decode cL_law 246 = .ok (.iadd, 1) := by decide +kernel
theorem dL_law_247 : decode cL_law 247 = .ok (.iaload, 1) := by decide +kernel
theorem dL_law_248 : decode cL_law 248 = .ok (.invokevirtual 22, 3) := by decide +kernel
theorem dL_law_251 : decode cL_law 251 = .ok (.if_icmp .eq 965, 3) := by decide +kernel
theorem dL_law_254 : decode cL_law 254 = .ok (.iconst 0, 1) := by decide +kernel
theorem dL_law_255 : decode cL_law 255 = .ok (.ireturn, 1) := by decide +kernel
theorem dL_law_256 : decode cL_law 256 = .ok (.aload_n 1, 1) := by decide +kernel
theorem dL_law_257 : decode cL_law 257 = .ok (.aload_n 0, 1) := by decide +kernel
theorem dL_law_258 : decode cL_law 258 = .ok (.iload_n 3, 1) := by decide +kernel
theorem dL_law_259 : decode cL_law 259 = .ok (.iconst 1, 1) := by decide +kernel
theorem dL_law_260 : decode cL_law 260 = .ok (.iadd, 1) := by decide +kernel
theorem dL_law_261 : decode cL_law 261 = .ok (.iaload, 1) := by decide +kernel
theorem dL_law_262 : decode cL_law 262 = .ok (.invokevirtual 23, 3) := by decide +kernel
theorem dL_law_265 : decode cL_law 265 = .ok (.aload_n 2, 1) := by decide +kernel
theorem dL_law_266 : decode cL_law 266 = .ok (.aload_n 0, 1) := by decide +kernel
theorem dL_law_267 : decode cL_law 267 = .ok (.iload_n 3, 1) := by decide +kernel
theorem dL_law_268 : decode cL_law 268 = .ok (.iconst 1, 1) := by decide +kernel
theorem dL_law_269 : decode cL_law 269 = .ok (.iadd, 1) := by decide +kernel
theorem dL_law_270 : decode cL_law 270 = .ok (.iaload, 1) := by decide +kernel
theorem dL_law_271 : decode cL_law 271 = .ok (.invokevirtual 26, 3) := by decide +kernel
theorem dL_law_274 : decode cL_law 274 = .ok (.if_icmp .eq 942, 3) := by decide +kernel
theorem dL_law_277 : decode cL_law 277 = .ok (.iconst 0, 1) := by decide +kernel
theorem dL_law_278 : decode cL_law 278 = .ok (.ireturn, 1) := by decide +kernel
theorem dL_law_279 : decode cL_law 279 = .ok (.aload_n 1, 1) := by decide +kernel
theorem dL_law_280 : decode cL_law 280 = .ok (.aload_n 0, 1) := by decide +kernel
theorem dL_law_281 : decode cL_law 281 = .ok (.iload_n 3, 1) := by decide +kernel
theorem dL_law_282 : decode cL_law 282 = .ok (.iconst 1, 1) := by decide +kernel
theorem dL_law_283 : decode cL_law 283 = .ok (.iadd, 1) := by decide +kernel
theorem dL_law_284 : decode cL_law 284 = .ok (.iaload, 1) := by decide +kernel
theorem dL_law_285 : decode cL_law 285 = .ok (.invokevirtual 27, 3) := by decide +kernel
theorem dL_law_288 : decode cL_law 288 = .ok (.aload_n 2, 1) := by decide +kernel
theorem dL_law_289 : decode cL_law 289 = .ok (.aload_n 0, 1) := by decide +kernel
theorem dL_law_290 : decode cL_law 290 = .ok (.iload_n 3, 1) := by decide +kernel
theorem dL_law_291 : decode cL_law 291 = .ok (.iconst 1, 1) := by decide +kernel
theorem dL_law_292 : decode cL_law 292 = .ok (.iadd, 1) := by decide +kernel
theorem dL_law_293 : decode cL_law 293 = .ok (.iaload, 1) := by decide +kernel
theorem dL_law_294 : decode cL_law 294 = .ok (.invokevirtual 30, 3) := by decide +kernel
theorem dL_law_297 : decode cL_law 297 = .ok (.if_icmp .eq 919, 3) := by decide +kernel
theorem dL_law_300 : decode cL_law 300 = .ok (.iconst 0, 1) := by decide +kernel
theorem dL_law_301 : decode cL_law 301 = .ok (.ireturn, 1) := by decide +kernel
theorem dL_law_302 : decode cL_law 302 = .ok (.aload_n 1, 1) := by decide +kernel
theorem dL_law_303 : decode cL_law 303 = .ok (.aload_n 0, 1) := by decide +kernel
theorem dL_law_304 : decode cL_law 304 = .ok (.iload_n 3, 1) := by decide +kernel
theorem dL_law_305 : decode cL_law 305 = .ok (.iconst 1, 1) := by decide +kernel
theorem dL_law_306 : decode cL_law 306 = .ok (.iadd, 1) := by decide +kernel
theorem dL_law_307 : decode cL_law 307 = .ok (.iaload, 1) := by decide +kernel
theorem dL_law_308 : decode cL_law 308 = .ok (.invokevirtual 31, 3) := by decide +kernel
theorem dL_law_311 : decode cL_law 311 = .ok (.aload_n 2, 1) := by decide +kernel
theorem dL_law_312 : decode cL_law 312 = .ok (.aload_n 0, 1) := by decide +kernel
theorem dL_law_313 : decode cL_law 313 = .ok (.iload_n 3, 1) := by decide +kernel
theorem dL_law_314 : decode cL_law 314 = .ok (.iconst 1, 1) := by decide +kernel
theorem dL_law_315 : decode cL_law 315 = .ok (.iadd, 1) := by decide +kernel
theorem dL_law_316 : decode cL_law 316 = .ok (.iaload, 1) := by decide +kernel
theorem dL_law_317 : decode cL_law 317 = .ok (.invokevirtual 34, 3) := by decide +kernel
theorem dL_law_320 : decode cL_law 320 = .ok (.if_icmp .eq 896, 3) := by decide +kernel
theorem dL_law_323 : decode cL_law 323 = .ok (.iconst 0, 1) := by decide +kernel
theorem dL_law_324 : decode cL_law 324 = .ok (.ireturn, 1) := by decide +kernel
theorem dL_law_325 : decode cL_law 325 = .ok (.aload_n 1, 1) := by decide +kernel
theorem dL_law_326 : decode cL_law 326 = .ok (.aload_n 0, 1) := by decide +kernel
theorem dL_law_327 : decode cL_law 327 = .ok (.iload_n 3, 1) := by decide +kernel
theorem dL_law_328 : decode cL_law 328 = .ok (.iconst 1, 1) := by decide +kernel
theorem dL_law_329 : decode cL_law 329 = .ok (.iadd, 1) := by decide +kernel
theorem dL_law_330 : decode cL_law 330 = .ok (.iaload, 1) := by decide +kernel
theorem dL_law_331 : decode cL_law 331 = .ok (.aload_n 0, 1) := by decide +kernel
theorem dL_law_332 : decode cL_law 332 = .ok (.iload_n 3, 1) := by decide +kernel
theorem dL_law_333 : decode cL_law 333 = .ok (.iconst 2, 1) := by decide +kernel
theorem dL_law_334 : decode cL_law 334 = .ok (.iadd, 1) := by decide +kernel
theorem dL_law_335 : decode cL_law 335 = .ok (.iaload, 1) := by decide +kernel
theorem dL_law_336 : decode cL_law 336 = .ok (.invokevirtual 35, 3) := by decide +kernel
theorem dL_law_339 : decode cL_law 339 = .ok (.aload_n 2, 1) := by decide +kernel
theorem dL_law_340 : decode cL_law 340 = .ok (.aload_n 0, 1) := by decide +kernel
theorem dL_law_341 : decode cL_law 341 = .ok (.iload_n 3, 1) := by decide +kernel
theorem dL_law_342 : decode cL_law 342 = .ok (.iconst 1, 1) := by decide +kernel
theorem dL_law_343 : decode cL_law 343 = .ok (.iadd, 1) := by decide +kernel
theorem dL_law_344 : decode cL_law 344 = .ok (.iaload, 1) := by decide +kernel
theorem dL_law_345 : decode cL_law 345 = .ok (.aload_n 0, 1) := by decide +kernel
theorem dL_law_346 : decode cL_law 346 = .ok (.iload_n 3, 1) := by decide +kernel
theorem dL_law_347 : decode cL_law 347 = .ok (.iconst 2, 1) := by decide +kernel
theorem dL_law_348 : decode cL_law 348 = .ok (.iadd, 1) := by decide +kernel
theorem dL_law_349 : decode cL_law 349 = .ok (.iaload, 1) := by decide +kernel
theorem dL_law_350 : decode cL_law 350 = .ok (.invokevirtual 38, 3) := by decide +kernel
theorem dL_law_353 : decode cL_law 353 = .ok (.if_icmp .eq 863, 3) := by decide +kernel
theorem dL_law_356 : decode cL_law 356 = .ok (.iconst 0, 1) := by decide +kernel
theorem dL_law_357 : decode cL_law 357 = .ok (.ireturn, 1) := by decide +kernel
theorem dL_law_358 : decode cL_law 358 = .ok (.aload_n 1, 1) := by decide +kernel
theorem dL_law_359 : decode cL_law 359 = .ok (.aload_n 0, 1) := by decide +kernel
theorem dL_law_360 : decode cL_law 360 = .ok (.iload_n 3, 1) := by decide +kernel
theorem dL_law_361 : decode cL_law 361 = .ok (.iconst 1, 1) := by decide +kernel
theorem dL_law_362 : decode cL_law 362 = .ok (.iadd, 1) := by decide +kernel
theorem dL_law_363 : decode cL_law 363 = .ok (.iaload, 1) := by decide +kernel
theorem dL_law_364 : decode cL_law 364 = .ok (.aload_n 0, 1) := by decide +kernel
theorem dL_law_365 : decode cL_law 365 = .ok (.iload_n 3, 1) := by decide +kernel
theorem dL_law_366 : decode cL_law 366 = .ok (.iconst 2, 1) := by decide +kernel
theorem dL_law_367 : decode cL_law 367 = .ok (.iadd, 1) := by decide +kernel
theorem dL_law_368 : decode cL_law 368 = .ok (.iaload, 1) := by decide +kernel
theorem dL_law_369 : decode cL_law 369 = .ok (.aload_n 0, 1) := by decide +kernel
theorem dL_law_370 : decode cL_law 370 = .ok (.iload_n 3, 1) := by decide +kernel
theorem dL_law_371 : decode cL_law 371 = .ok (.iconst 3, 1) := by decide +kernel
theorem dL_law_372 : decode cL_law 372 = .ok (.iadd, 1) := by decide +kernel
theorem dL_law_373 : decode cL_law 373 = .ok (.iaload, 1) := by decide +kernel
theorem dL_law_374 : decode cL_law 374 = .ok (.aload_n 0, 1) := by decide +kernel
theorem dL_law_375 : decode cL_law 375 = .ok (.iload_n 3, 1) := by decide +kernel
theorem dL_law_376 : decode cL_law 376 = .ok (.iconst 4, 1) := by decide +kernel
theorem dL_law_377 : decode cL_law 377 = .ok (.iadd, 1) := by decide +kernel
theorem dL_law_378 : decode cL_law 378 = .ok (.iaload, 1) := by decide +kernel
theorem dL_law_379 : decode cL_law 379 = .ok (.aload_n 0, 1) := by decide +kernel
theorem dL_law_380 : decode cL_law 380 = .ok (.iload_n 3, 1) := by decide +kernel
theorem dL_law_381 : decode cL_law 381 = .ok (.iconst 5, 1) := by decide +kernel
theorem dL_law_382 : decode cL_law 382 = .ok (.iadd, 1) := by decide +kernel
theorem dL_law_383 : decode cL_law 383 = .ok (.iaload, 1) := by decide +kernel
theorem dL_law_384 : decode cL_law 384 = .ok (.invokevirtual 39, 3) := by decide +kernel
theorem dL_law_387 : decode cL_law 387 = .ok (.aload_n 2, 1) := by decide +kernel
theorem dL_law_388 : decode cL_law 388 = .ok (.aload_n 0, 1) := by decide +kernel
theorem dL_law_389 : decode cL_law 389 = .ok (.iload_n 3, 1) := by decide +kernel
theorem dL_law_390 : decode cL_law 390 = .ok (.iconst 1, 1) := by decide +kernel
theorem dL_law_391 : decode cL_law 391 = .ok (.iadd, 1) := by decide +kernel
theorem dL_law_392 : decode cL_law 392 = .ok (.iaload, 1) := by decide +kernel
theorem dL_law_393 : decode cL_law 393 = .ok (.aload_n 0, 1) := by decide +kernel
theorem dL_law_394 : decode cL_law 394 = .ok (.iload_n 3, 1) := by decide +kernel
theorem dL_law_395 : decode cL_law 395 = .ok (.iconst 2, 1) := by decide +kernel
theorem dL_law_396 : decode cL_law 396 = .ok (.iadd, 1) := by decide +kernel
theorem dL_law_397 : decode cL_law 397 = .ok (.iaload, 1) := by decide +kernel
theorem dL_law_398 : decode cL_law 398 = .ok (.aload_n 0, 1) := by decide +kernel
theorem dL_law_399 : decode cL_law 399 = .ok (.iload_n 3, 1) := by decide +kernel
theorem dL_law_400 : decode cL_law 400 = .ok (.iconst 3, 1) := by decide +kernel
theorem dL_law_401 : decode cL_law 401 = .ok (.iadd, 1) := by decide +kernel
theorem dL_law_402 : decode cL_law 402 = .ok (.iaload, 1) := by decide +kernel
theorem dL_law_403 : decode cL_law 403 = .ok (.aload_n 0, 1) := by decide +kernel
theorem dL_law_404 : decode cL_law 404 = .ok (.iload_n 3, 1) := by decide +kernel
theorem dL_law_405 : decode cL_law 405 = .ok (.iconst 4, 1) := by decide +kernel
theorem dL_law_406 : decode cL_law 406 = .ok (.iadd, 1) := by decide +kernel
theorem dL_law_407 : decode cL_law 407 = .ok (.iaload, 1) := by decide +kernel
theorem dL_law_408 : decode cL_law 408 = .ok (.aload_n 0, 1) := by decide +kernel
theorem dL_law_409 : decode cL_law 409 = .ok (.iload_n 3, 1) := by decide +kernel
theorem dL_law_410 : decode cL_law 410 = .ok (.iconst 5, 1) := by decide +kernel
theorem dL_law_411 : decode cL_law 411 = .ok (.iadd, 1) := by decide +kernel
theorem dL_law_412 : decode cL_law 412 = .ok (.iaload, 1) := by decide +kernel
theorem dL_law_413 : decode cL_law 413 = .ok (.invokevirtual 43, 3) := by decide +kernel
theorem dL_law_416 : decode cL_law 416 = .ok (.if_icmp .eq 800, 3) := by decide +kernel
theorem dL_law_419 : decode cL_law 419 = .ok (.iconst 0, 1) := by decide +kernel
theorem dL_law_420 : decode cL_law 420 = .ok (.ireturn, 1) := by decide +kernel
theorem dL_law_421 : decode cL_law 421 = .ok (.aload_n 1, 1) := by decide +kernel
theorem dL_law_422 : decode cL_law 422 = .ok (.aload_n 0, 1) := by decide +kernel
theorem dL_law_423 : decode cL_law 423 = .ok (.iload_n 3, 1) := by decide +kernel
theorem dL_law_424 : decode cL_law 424 = .ok (.iconst 1, 1) := by decide +kernel
theorem dL_law_425 : decode cL_law 425 = .ok (.iadd, 1) := by decide +kernel
theorem dL_law_426 : decode cL_law 426 = .ok (.iaload, 1) := by decide +kernel
theorem dL_law_427 : decode cL_law 427 = .ok (.aload_n 0, 1) := by decide +kernel
theorem dL_law_428 : decode cL_law 428 = .ok (.iload_n 3, 1) := by decide +kernel
theorem dL_law_429 : decode cL_law 429 = .ok (.iconst 2, 1) := by decide +kernel
theorem dL_law_430 : decode cL_law 430 = .ok (.iadd, 1) := by decide +kernel
theorem dL_law_431 : decode cL_law 431 = .ok (.iaload, 1) := by decide +kernel
theorem dL_law_432 : decode cL_law 432 = .ok (.invokevirtual 44, 3) := by decide +kernel
theorem dL_law_435 : decode cL_law 435 = .ok (.aload_n 2, 1) := by decide +kernel
theorem dL_law_436 : decode cL_law 436 = .ok (.aload_n 0, 1) := by decide +kernel
theorem dL_law_437 : decode cL_law 437 = .ok (.iload_n 3, 1) := by decide +kernel
theorem dL_law_438 : decode cL_law 438 = .ok (.iconst 1, 1) := by decide +kernel
theorem dL_law_439 : decode cL_law 439 = .ok (.iadd, 1) := by decide +kernel
theorem dL_law_440 : decode cL_law 440 = .ok (.iaload, 1) := by decide +kernel
theorem dL_law_441 : decode cL_law 441 = .ok (.aload_n 0, 1) := by decide +kernel
theorem dL_law_442 : decode cL_law 442 = .ok (.iload_n 3, 1) := by decide +kernel
theorem dL_law_443 : decode cL_law 443 = .ok (.iconst 2, 1) := by decide +kernel
theorem dL_law_444 : decode cL_law 444 = .ok (.iadd, 1) := by decide +kernel
theorem dL_law_445 : decode cL_law 445 = .ok (.iaload, 1) := by decide +kernel
theorem dL_law_446 : decode cL_law 446 = .ok (.invokevirtual 47, 3) := by decide +kernel
theorem dL_law_449 : decode cL_law 449 = .ok (.if_icmp .eq 767, 3) := by decide +kernel
theorem dL_law_452 : decode cL_law 452 = .ok (.iconst 0, 1) := by decide +kernel
theorem dL_law_453 : decode cL_law 453 = .ok (.ireturn, 1) := by decide +kernel
theorem dL_law_454 : decode cL_law 454 = .ok (.aload_n 1, 1) := by decide +kernel
theorem dL_law_455 : decode cL_law 455 = .ok (.aload_n 0, 1) := by decide +kernel
theorem dL_law_456 : decode cL_law 456 = .ok (.iload_n 3, 1) := by decide +kernel
theorem dL_law_457 : decode cL_law 457 = .ok (.iconst 1, 1) := by decide +kernel
theorem dL_law_458 : decode cL_law 458 = .ok (.iadd, 1) := by decide +kernel
theorem dL_law_459 : decode cL_law 459 = .ok (.iaload, 1) := by decide +kernel
theorem dL_law_460 : decode cL_law 460 = .ok (.aload_n 0, 1) := by decide +kernel
theorem dL_law_461 : decode cL_law 461 = .ok (.iload_n 3, 1) := by decide +kernel
theorem dL_law_462 : decode cL_law 462 = .ok (.iconst 2, 1) := by decide +kernel
theorem dL_law_463 : decode cL_law 463 = .ok (.iadd, 1) := by decide +kernel
theorem dL_law_464 : decode cL_law 464 = .ok (.iaload, 1) := by decide +kernel
theorem dL_law_465 : decode cL_law 465 = .ok (.invokevirtual 48, 3) := by decide +kernel
theorem dL_law_468 : decode cL_law 468 = .ok (.aload_n 2, 1) := by decide +kernel
theorem dL_law_469 : decode cL_law 469 = .ok (.aload_n 0, 1) := by decide +kernel
theorem dL_law_470 : decode cL_law 470 = .ok (.iload_n 3, 1) := by decide +kernel
theorem dL_law_471 : decode cL_law 471 = .ok (.iconst 1, 1) := by decide +kernel
theorem dL_law_472 : decode cL_law 472 = .ok (.iadd, 1) := by decide +kernel
theorem dL_law_473 : decode cL_law 473 = .ok (.iaload, 1) := by decide +kernel
theorem dL_law_474 : decode cL_law 474 = .ok (.aload_n 0, 1) := by decide +kernel
theorem dL_law_475 : decode cL_law 475 = .ok (.iload_n 3, 1) := by decide +kernel
theorem dL_law_476 : decode cL_law 476 = .ok (.iconst 2, 1) := by decide +kernel
theorem dL_law_477 : decode cL_law 477 = .ok (.iadd, 1) := by decide +kernel
theorem dL_law_478 : decode cL_law 478 = .ok (.iaload, 1) := by decide +kernel
theorem dL_law_479 : decode cL_law 479 = .ok (.invokevirtual 51, 3) := by decide +kernel
theorem dL_law_482 : decode cL_law 482 = .ok (.if_icmp .eq 734, 3) := by decide +kernel
theorem dL_law_485 : decode cL_law 485 = .ok (.iconst 0, 1) := by decide +kernel
theorem dL_law_486 : decode cL_law 486 = .ok (.ireturn, 1) := by decide +kernel
theorem dL_law_487 : decode cL_law 487 = .ok (.aload_n 1, 1) := by decide +kernel
theorem dL_law_488 : decode cL_law 488 = .ok (.aload_n 0, 1) := by decide +kernel
theorem dL_law_489 : decode cL_law 489 = .ok (.iload_n 3, 1) := by decide +kernel
theorem dL_law_490 : decode cL_law 490 = .ok (.iconst 1, 1) := by decide +kernel
theorem dL_law_491 : decode cL_law 491 = .ok (.iadd, 1) := by decide +kernel
theorem dL_law_492 : decode cL_law 492 = .ok (.iaload, 1) := by decide +kernel
theorem dL_law_493 : decode cL_law 493 = .ok (.aload_n 0, 1) := by decide +kernel
theorem dL_law_494 : decode cL_law 494 = .ok (.iload_n 3, 1) := by decide +kernel
theorem dL_law_495 : decode cL_law 495 = .ok (.iconst 2, 1) := by decide +kernel
theorem dL_law_496 : decode cL_law 496 = .ok (.iadd, 1) := by decide +kernel
theorem dL_law_497 : decode cL_law 497 = .ok (.iaload, 1) := by decide +kernel
theorem dL_law_498 : decode cL_law 498 = .ok (.aload_n 0, 1) := by decide +kernel
theorem dL_law_499 : decode cL_law 499 = .ok (.iload_n 3, 1) := by decide +kernel
theorem dL_law_500 : decode cL_law 500 = .ok (.iconst 3, 1) := by decide +kernel
theorem dL_law_501 : decode cL_law 501 = .ok (.iadd, 1) := by decide +kernel
theorem dL_law_502 : decode cL_law 502 = .ok (.iaload, 1) := by decide +kernel
theorem dL_law_503 : decode cL_law 503 = .ok (.invokevirtual 52, 3) := by decide +kernel
theorem dL_law_506 : decode cL_law 506 = .ok (.aload_n 2, 1) := by decide +kernel
theorem dL_law_507 : decode cL_law 507 = .ok (.aload_n 0, 1) := by decide +kernel
theorem dL_law_508 : decode cL_law 508 = .ok (.iload_n 3, 1) := by decide +kernel
theorem dL_law_509 : decode cL_law 509 = .ok (.iconst 1, 1) := by decide +kernel
theorem dL_law_510 : decode cL_law 510 = .ok (.iadd, 1) := by decide +kernel
theorem dL_law_511 : decode cL_law 511 = .ok (.iaload, 1) := by decide +kernel
theorem dL_law_512 : decode cL_law 512 = .ok (.aload_n 0, 1) := by decide +kernel
theorem dL_law_513 : decode cL_law 513 = .ok (.iload_n 3, 1) := by decide +kernel
theorem dL_law_514 : decode cL_law 514 = .ok (.iconst 2, 1) := by decide +kernel
theorem dL_law_515 : decode cL_law 515 = .ok (.iadd, 1) := by decide +kernel
theorem dL_law_516 : decode cL_law 516 = .ok (.iaload, 1) := by decide +kernel
theorem dL_law_517 : decode cL_law 517 = .ok (.aload_n 0, 1) := by decide +kernel
theorem dL_law_518 : decode cL_law 518 = .ok (.iload_n 3, 1) := by decide +kernel
theorem dL_law_519 : decode cL_law 519 = .ok (.iconst 3, 1) := by decide +kernel
theorem dL_law_520 : decode cL_law 520 = .ok (.iadd, 1) := by decide +kernel
theorem dL_law_521 : decode cL_law 521 = .ok (.iaload, 1) := by decide +kernel
theorem dL_law_522 : decode cL_law 522 = .ok (.invokevirtual 56, 3) := by decide +kernel
theorem dL_law_525 : decode cL_law 525 = .ok (.if_icmp .eq 691, 3) := by decide +kernel
theorem dL_law_528 : decode cL_law 528 = .ok (.iconst 0, 1) := by decide +kernel
theorem dL_law_529 : decode cL_law 529 = .ok (.ireturn, 1) := by decide +kernel
theorem dL_law_530 : decode cL_law 530 = .ok (.aload_n 1, 1) := by decide +kernel
theorem dL_law_531 : decode cL_law 531 = .ok (.invokevirtual 57, 3) := by decide +kernel
theorem dL_law_534 : decode cL_law 534 = .ok (.aload_n 2, 1) := by decide +kernel
theorem dL_law_535 : decode cL_law 535 = .ok (.invokevirtual 61, 3) := by decide +kernel
theorem dL_law_538 : decode cL_law 538 = .ok (.if_icmp .eq 678, 3) := by decide +kernel
theorem dL_law_541 : decode cL_law 541 = .ok (.iconst 0, 1) := by decide +kernel
theorem dL_law_542 : decode cL_law 542 = .ok (.ireturn, 1) := by decide +kernel
theorem dL_law_543 : decode cL_law 543 = .ok (.aload_n 1, 1) := by decide +kernel
theorem dL_law_544 : decode cL_law 544 = .ok (.aload_n 0, 1) := by decide +kernel
theorem dL_law_545 : decode cL_law 545 = .ok (.iload_n 3, 1) := by decide +kernel
theorem dL_law_546 : decode cL_law 546 = .ok (.iconst 1, 1) := by decide +kernel
theorem dL_law_547 : decode cL_law 547 = .ok (.iadd, 1) := by decide +kernel
theorem dL_law_548 : decode cL_law 548 = .ok (.iaload, 1) := by decide +kernel
theorem dL_law_549 : decode cL_law 549 = .ok (.aload_n 0, 1) := by decide +kernel
theorem dL_law_550 : decode cL_law 550 = .ok (.iload_n 3, 1) := by decide +kernel
theorem dL_law_551 : decode cL_law 551 = .ok (.iconst 2, 1) := by decide +kernel
theorem dL_law_552 : decode cL_law 552 = .ok (.iadd, 1) := by decide +kernel
theorem dL_law_553 : decode cL_law 553 = .ok (.iaload, 1) := by decide +kernel
theorem dL_law_554 : decode cL_law 554 = .ok (.aload_n 0, 1) := by decide +kernel
theorem dL_law_555 : decode cL_law 555 = .ok (.iload_n 3, 1) := by decide +kernel
theorem dL_law_556 : decode cL_law 556 = .ok (.iconst 3, 1) := by decide +kernel
theorem dL_law_557 : decode cL_law 557 = .ok (.iadd, 1) := by decide +kernel
theorem dL_law_558 : decode cL_law 558 = .ok (.iaload, 1) := by decide +kernel
theorem dL_law_559 : decode cL_law 559 = .ok (.aload_n 0, 1) := by decide +kernel
theorem dL_law_560 : decode cL_law 560 = .ok (.iload_n 3, 1) := by decide +kernel
theorem dL_law_561 : decode cL_law 561 = .ok (.iconst 4, 1) := by decide +kernel
theorem dL_law_562 : decode cL_law 562 = .ok (.iadd, 1) := by decide +kernel
theorem dL_law_563 : decode cL_law 563 = .ok (.iaload, 1) := by decide +kernel
theorem dL_law_564 : decode cL_law 564 = .ok (.invokevirtual 62, 3) := by decide +kernel
theorem dL_law_567 : decode cL_law 567 = .ok (.aload_n 2, 1) := by decide +kernel
theorem dL_law_568 : decode cL_law 568 = .ok (.aload_n 0, 1) := by decide +kernel
theorem dL_law_569 : decode cL_law 569 = .ok (.iload_n 3, 1) := by decide +kernel
theorem dL_law_570 : decode cL_law 570 = .ok (.iconst 1, 1) := by decide +kernel
theorem dL_law_571 : decode cL_law 571 = .ok (.iadd, 1) := by decide +kernel
theorem dL_law_572 : decode cL_law 572 = .ok (.iaload, 1) := by decide +kernel
theorem dL_law_573 : decode cL_law 573 = .ok (.aload_n 0, 1) := by decide +kernel
theorem dL_law_574 : decode cL_law 574 = .ok (.iload_n 3, 1) := by decide +kernel
theorem dL_law_575 : decode cL_law 575 = .ok (.iconst 2, 1) := by decide +kernel
theorem dL_law_576 : decode cL_law 576 = .ok (.iadd, 1) := by decide +kernel
theorem dL_law_577 : decode cL_law 577 = .ok (.iaload, 1) := by decide +kernel
theorem dL_law_578 : decode cL_law 578 = .ok (.aload_n 0, 1) := by decide +kernel
theorem dL_law_579 : decode cL_law 579 = .ok (.iload_n 3, 1) := by decide +kernel
theorem dL_law_580 : decode cL_law 580 = .ok (.iconst 3, 1) := by decide +kernel
theorem dL_law_581 : decode cL_law 581 = .ok (.iadd, 1) := by decide +kernel
theorem dL_law_582 : decode cL_law 582 = .ok (.iaload, 1) := by decide +kernel
theorem dL_law_583 : decode cL_law 583 = .ok (.aload_n 0, 1) := by decide +kernel
theorem dL_law_584 : decode cL_law 584 = .ok (.iload_n 3, 1) := by decide +kernel
theorem dL_law_585 : decode cL_law 585 = .ok (.iconst 4, 1) := by decide +kernel
theorem dL_law_586 : decode cL_law 586 = .ok (.iadd, 1) := by decide +kernel
theorem dL_law_587 : decode cL_law 587 = .ok (.iaload, 1) := by decide +kernel
theorem dL_law_588 : decode cL_law 588 = .ok (.invokevirtual 66, 3) := by decide +kernel
theorem dL_law_591 : decode cL_law 591 = .ok (.if_icmp .eq 625, 3) := by decide +kernel
theorem dL_law_594 : decode cL_law 594 = .ok (.iconst 0, 1) := by decide +kernel
theorem dL_law_595 : decode cL_law 595 = .ok (.ireturn, 1) := by decide +kernel
theorem dL_law_596 : decode cL_law 596 = .ok (.aload_n 1, 1) := by decide +kernel
theorem dL_law_597 : decode cL_law 597 = .ok (.aload_n 0, 1) := by decide +kernel
theorem dL_law_598 : decode cL_law 598 = .ok (.iload_n 3, 1) := by decide +kernel
theorem dL_law_599 : decode cL_law 599 = .ok (.iconst 1, 1) := by decide +kernel
theorem dL_law_600 : decode cL_law 600 = .ok (.iadd, 1) := by decide +kernel
theorem dL_law_601 : decode cL_law 601 = .ok (.iaload, 1) := by decide +kernel
theorem dL_law_602 : decode cL_law 602 = .ok (.invokevirtual 67, 3) := by decide +kernel
theorem dL_law_605 : decode cL_law 605 = .ok (.aload_n 2, 1) := by decide +kernel
theorem dL_law_606 : decode cL_law 606 = .ok (.aload_n 0, 1) := by decide +kernel
theorem dL_law_607 : decode cL_law 607 = .ok (.iload_n 3, 1) := by decide +kernel
theorem dL_law_608 : decode cL_law 608 = .ok (.iconst 1, 1) := by decide +kernel
theorem dL_law_609 : decode cL_law 609 = .ok (.iadd, 1) := by decide +kernel
theorem dL_law_610 : decode cL_law 610 = .ok (.iaload, 1) := by decide +kernel
theorem dL_law_611 : decode cL_law 611 = .ok (.invokevirtual 70, 3) := by decide +kernel
theorem dL_law_614 : decode cL_law 614 = .ok (.if_icmp .eq 602, 3) := by decide +kernel
theorem dL_law_617 : decode cL_law 617 = .ok (.iconst 0, 1) := by decide +kernel
theorem dL_law_618 : decode cL_law 618 = .ok (.ireturn, 1) := by decide +kernel
theorem dL_law_619 : decode cL_law 619 = .ok (.aload_n 1, 1) := by decide +kernel
theorem dL_law_620 : decode cL_law 620 = .ok (.invokevirtual 71, 3) := by decide +kernel
theorem dL_law_623 : decode cL_law 623 = .ok (.aload_n 2, 1) := by decide +kernel
theorem dL_law_624 : decode cL_law 624 = .ok (.invokevirtual 74, 3) := by decide +kernel
theorem dL_law_627 : decode cL_law 627 = .ok (.if_icmp .eq 589, 3) := by decide +kernel
theorem dL_law_630 : decode cL_law 630 = .ok (.iconst 0, 1) := by decide +kernel
theorem dL_law_631 : decode cL_law 631 = .ok (.ireturn, 1) := by decide +kernel
theorem dL_law_632 : decode cL_law 632 = .ok (.aload_n 1, 1) := by decide +kernel
theorem dL_law_633 : decode cL_law 633 = .ok (.aload_n 0, 1) := by decide +kernel
theorem dL_law_634 : decode cL_law 634 = .ok (.iload_n 3, 1) := by decide +kernel
theorem dL_law_635 : decode cL_law 635 = .ok (.iconst 1, 1) := by decide +kernel
theorem dL_law_636 : decode cL_law 636 = .ok (.iadd, 1) := by decide +kernel
theorem dL_law_637 : decode cL_law 637 = .ok (.iaload, 1) := by decide +kernel
theorem dL_law_638 : decode cL_law 638 = .ok (.invokevirtual 75, 3) := by decide +kernel
theorem dL_law_641 : decode cL_law 641 = .ok (.aload_n 2, 1) := by decide +kernel
theorem dL_law_642 : decode cL_law 642 = .ok (.aload_n 0, 1) := by decide +kernel
theorem dL_law_643 : decode cL_law 643 = .ok (.iload_n 3, 1) := by decide +kernel
theorem dL_law_644 : decode cL_law 644 = .ok (.iconst 1, 1) := by decide +kernel
theorem dL_law_645 : decode cL_law 645 = .ok (.iadd, 1) := by decide +kernel
theorem dL_law_646 : decode cL_law 646 = .ok (.iaload, 1) := by decide +kernel
theorem dL_law_647 : decode cL_law 647 = .ok (.invokevirtual 78, 3) := by decide +kernel
theorem dL_law_650 : decode cL_law 650 = .ok (.if_icmp .eq 566, 3) := by decide +kernel
theorem dL_law_653 : decode cL_law 653 = .ok (.iconst 0, 1) := by decide +kernel
theorem dL_law_654 : decode cL_law 654 = .ok (.ireturn, 1) := by decide +kernel
theorem dL_law_655 : decode cL_law 655 = .ok (.aload_n 1, 1) := by decide +kernel
theorem dL_law_656 : decode cL_law 656 = .ok (.aload_n 0, 1) := by decide +kernel
theorem dL_law_657 : decode cL_law 657 = .ok (.iload_n 3, 1) := by decide +kernel
theorem dL_law_658 : decode cL_law 658 = .ok (.iconst 1, 1) := by decide +kernel
theorem dL_law_659 : decode cL_law 659 = .ok (.iadd, 1) := by decide +kernel
theorem dL_law_660 : decode cL_law 660 = .ok (.iaload, 1) := by decide +kernel
theorem dL_law_661 : decode cL_law 661 = .ok (.invokevirtual 79, 3) := by decide +kernel
theorem dL_law_664 : decode cL_law 664 = .ok (.aload_n 2, 1) := by decide +kernel
theorem dL_law_665 : decode cL_law 665 = .ok (.aload_n 0, 1) := by decide +kernel
theorem dL_law_666 : decode cL_law 666 = .ok (.iload_n 3, 1) := by decide +kernel
theorem dL_law_667 : decode cL_law 667 = .ok (.iconst 1, 1) := by decide +kernel
theorem dL_law_668 : decode cL_law 668 = .ok (.iadd, 1) := by decide +kernel
theorem dL_law_669 : decode cL_law 669 = .ok (.iaload, 1) := by decide +kernel
theorem dL_law_670 : decode cL_law 670 = .ok (.invokevirtual 82, 3) := by decide +kernel
theorem dL_law_673 : decode cL_law 673 = .ok (.if_icmp .eq 543, 3) := by decide +kernel
theorem dL_law_676 : decode cL_law 676 = .ok (.iconst 0, 1) := by decide +kernel
theorem dL_law_677 : decode cL_law 677 = .ok (.ireturn, 1) := by decide +kernel
theorem dL_law_678 : decode cL_law 678 = .ok (.aload_n 1, 1) := by decide +kernel
theorem dL_law_679 : decode cL_law 679 = .ok (.aload_n 0, 1) := by decide +kernel
theorem dL_law_680 : decode cL_law 680 = .ok (.iload_n 3, 1) := by decide +kernel
theorem dL_law_681 : decode cL_law 681 = .ok (.iconst 1, 1) := by decide +kernel
theorem dL_law_682 : decode cL_law 682 = .ok (.iadd, 1) := by decide +kernel
theorem dL_law_683 : decode cL_law 683 = .ok (.iaload, 1) := by decide +kernel
theorem dL_law_684 : decode cL_law 684 = .ok (.aload_n 0, 1) := by decide +kernel
theorem dL_law_685 : decode cL_law 685 = .ok (.iload_n 3, 1) := by decide +kernel
theorem dL_law_686 : decode cL_law 686 = .ok (.iconst 2, 1) := by decide +kernel
theorem dL_law_687 : decode cL_law 687 = .ok (.iadd, 1) := by decide +kernel
theorem dL_law_688 : decode cL_law 688 = .ok (.iaload, 1) := by decide +kernel
theorem dL_law_689 : decode cL_law 689 = .ok (.aload_n 0, 1) := by decide +kernel
theorem dL_law_690 : decode cL_law 690 = .ok (.iload_n 3, 1) := by decide +kernel
theorem dL_law_691 : decode cL_law 691 = .ok (.iconst 3, 1) := by decide +kernel
theorem dL_law_692 : decode cL_law 692 = .ok (.iadd, 1) := by decide +kernel
theorem dL_law_693 : decode cL_law 693 = .ok (.iaload, 1) := by decide +kernel
theorem dL_law_694 : decode cL_law 694 = .ok (.invokevirtual 83, 3) := by decide +kernel
theorem dL_law_697 : decode cL_law 697 = .ok (.aload_n 2, 1) := by decide +kernel
theorem dL_law_698 : decode cL_law 698 = .ok (.aload_n 0, 1) := by decide +kernel
theorem dL_law_699 : decode cL_law 699 = .ok (.iload_n 3, 1) := by decide +kernel
theorem dL_law_700 : decode cL_law 700 = .ok (.iconst 1, 1) := by decide +kernel
theorem dL_law_701 : decode cL_law 701 = .ok (.iadd, 1) := by decide +kernel
theorem dL_law_702 : decode cL_law 702 = .ok (.iaload, 1) := by decide +kernel
theorem dL_law_703 : decode cL_law 703 = .ok (.aload_n 0, 1) := by decide +kernel
theorem dL_law_704 : decode cL_law 704 = .ok (.iload_n 3, 1) := by decide +kernel
theorem dL_law_705 : decode cL_law 705 = .ok (.iconst 2, 1) := by decide +kernel
theorem dL_law_706 : decode cL_law 706 = .ok (.iadd, 1) := by decide +kernel
theorem dL_law_707 : decode cL_law 707 = .ok (.iaload, 1) := by decide +kernel
theorem dL_law_708 : decode cL_law 708 = .ok (.aload_n 0, 1) := by decide +kernel
theorem dL_law_709 : decode cL_law 709 = .ok (.iload_n 3, 1) := by decide +kernel
theorem dL_law_710 : decode cL_law 710 = .ok (.iconst 3, 1) := by decide +kernel
theorem dL_law_711 : decode cL_law 711 = .ok (.iadd, 1) := by decide +kernel
theorem dL_law_712 : decode cL_law 712 = .ok (.iaload, 1) := by decide +kernel
theorem dL_law_713 : decode cL_law 713 = .ok (.invokevirtual 86, 3) := by decide +kernel
theorem dL_law_716 : decode cL_law 716 = .ok (.if_icmp .eq 500, 3) := by decide +kernel
theorem dL_law_719 : decode cL_law 719 = .ok (.iconst 0, 1) := by decide +kernel
theorem dL_law_720 : decode cL_law 720 = .ok (.ireturn, 1) := by decide +kernel
theorem dL_law_721 : decode cL_law 721 = .ok (.aload_n 1, 1) := by decide +kernel
theorem dL_law_722 : decode cL_law 722 = .ok (.aload_n 0, 1) := by decide +kernel
theorem dL_law_723 : decode cL_law 723 = .ok (.iload_n 3, 1) := by decide +kernel
theorem dL_law_724 : decode cL_law 724 = .ok (.iconst 1, 1) := by decide +kernel
theorem dL_law_725 : decode cL_law 725 = .ok (.iadd, 1) := by decide +kernel
theorem dL_law_726 : decode cL_law 726 = .ok (.iaload, 1) := by decide +kernel
theorem dL_law_727 : decode cL_law 727 = .ok (.invokevirtual 87, 3) := by decide +kernel
theorem dL_law_730 : decode cL_law 730 = .ok (.aload_n 2, 1) := by decide +kernel
theorem dL_law_731 : decode cL_law 731 = .ok (.aload_n 0, 1) := by decide +kernel
theorem dL_law_732 : decode cL_law 732 = .ok (.iload_n 3, 1) := by decide +kernel
theorem dL_law_733 : decode cL_law 733 = .ok (.iconst 1, 1) := by decide +kernel
theorem dL_law_734 : decode cL_law 734 = .ok (.iadd, 1) := by decide +kernel
theorem dL_law_735 : decode cL_law 735 = .ok (.iaload, 1) := by decide +kernel
theorem dL_law_736 : decode cL_law 736 = .ok (.invokevirtual 90, 3) := by decide +kernel
theorem dL_law_739 : decode cL_law 739 = .ok (.if_icmp .eq 477, 3) := by decide +kernel
theorem dL_law_742 : decode cL_law 742 = .ok (.iconst 0, 1) := by decide +kernel
theorem dL_law_743 : decode cL_law 743 = .ok (.ireturn, 1) := by decide +kernel
theorem dL_law_744 : decode cL_law 744 = .ok (.aload_n 1, 1) := by decide +kernel
theorem dL_law_745 : decode cL_law 745 = .ok (.aload_n 0, 1) := by decide +kernel
theorem dL_law_746 : decode cL_law 746 = .ok (.iload_n 3, 1) := by decide +kernel
theorem dL_law_747 : decode cL_law 747 = .ok (.iconst 1, 1) := by decide +kernel
theorem dL_law_748 : decode cL_law 748 = .ok (.iadd, 1) := by decide +kernel
theorem dL_law_749 : decode cL_law 749 = .ok (.iaload, 1) := by decide +kernel
theorem dL_law_750 : decode cL_law 750 = .ok (.invokevirtual 91, 3) := by decide +kernel
theorem dL_law_753 : decode cL_law 753 = .ok (.aload_n 2, 1) := by decide +kernel
theorem dL_law_754 : decode cL_law 754 = .ok (.aload_n 0, 1) := by decide +kernel
theorem dL_law_755 : decode cL_law 755 = .ok (.iload_n 3, 1) := by decide +kernel
theorem dL_law_756 : decode cL_law 756 = .ok (.iconst 1, 1) := by decide +kernel
theorem dL_law_757 : decode cL_law 757 = .ok (.iadd, 1) := by decide +kernel
theorem dL_law_758 : decode cL_law 758 = .ok (.iaload, 1) := by decide +kernel
theorem dL_law_759 : decode cL_law 759 = .ok (.invokevirtual 94, 3) := by decide +kernel
theorem dL_law_762 : decode cL_law 762 = .ok (.if_icmp .eq 454, 3) := by decide +kernel
theorem dL_law_765 : decode cL_law 765 = .ok (.iconst 0, 1) := by decide +kernel
theorem dL_law_766 : decode cL_law 766 = .ok (.ireturn, 1) := by decide +kernel
theorem dL_law_767 : decode cL_law 767 = .ok (.aload_n 1, 1) := by decide +kernel
theorem dL_law_768 : decode cL_law 768 = .ok (.aload_n 0, 1) := by decide +kernel
theorem dL_law_769 : decode cL_law 769 = .ok (.iload_n 3, 1) := by decide +kernel
theorem dL_law_770 : decode cL_law 770 = .ok (.iconst 1, 1) := by decide +kernel
theorem dL_law_771 : decode cL_law 771 = .ok (.iadd, 1) := by decide +kernel
theorem dL_law_772 : decode cL_law 772 = .ok (.iaload, 1) := by decide +kernel
theorem dL_law_773 : decode cL_law 773 = .ok (.invokevirtual 95, 3) := by decide +kernel
theorem dL_law_776 : decode cL_law 776 = .ok (.aload_n 2, 1) := by decide +kernel
theorem dL_law_777 : decode cL_law 777 = .ok (.aload_n 0, 1) := by decide +kernel
theorem dL_law_778 : decode cL_law 778 = .ok (.iload_n 3, 1) := by decide +kernel
theorem dL_law_779 : decode cL_law 779 = .ok (.iconst 1, 1) := by decide +kernel
theorem dL_law_780 : decode cL_law 780 = .ok (.iadd, 1) := by decide +kernel
theorem dL_law_781 : decode cL_law 781 = .ok (.iaload, 1) := by decide +kernel
theorem dL_law_782 : decode cL_law 782 = .ok (.invokevirtual 98, 3) := by decide +kernel
theorem dL_law_785 : decode cL_law 785 = .ok (.if_icmp .eq 431, 3) := by decide +kernel
theorem dL_law_788 : decode cL_law 788 = .ok (.iconst 0, 1) := by decide +kernel
theorem dL_law_789 : decode cL_law 789 = .ok (.ireturn, 1) := by decide +kernel
theorem dL_law_790 : decode cL_law 790 = .ok (.aload_n 1, 1) := by decide +kernel
theorem dL_law_791 : decode cL_law 791 = .ok (.aload_n 0, 1) := by decide +kernel
theorem dL_law_792 : decode cL_law 792 = .ok (.iload_n 3, 1) := by decide +kernel
theorem dL_law_793 : decode cL_law 793 = .ok (.iconst 1, 1) := by decide +kernel
theorem dL_law_794 : decode cL_law 794 = .ok (.iadd, 1) := by decide +kernel
theorem dL_law_795 : decode cL_law 795 = .ok (.iaload, 1) := by decide +kernel
theorem dL_law_796 : decode cL_law 796 = .ok (.invokevirtual 99, 3) := by decide +kernel
theorem dL_law_799 : decode cL_law 799 = .ok (.aload_n 2, 1) := by decide +kernel
theorem dL_law_800 : decode cL_law 800 = .ok (.aload_n 0, 1) := by decide +kernel
theorem dL_law_801 : decode cL_law 801 = .ok (.iload_n 3, 1) := by decide +kernel
theorem dL_law_802 : decode cL_law 802 = .ok (.iconst 1, 1) := by decide +kernel
theorem dL_law_803 : decode cL_law 803 = .ok (.iadd, 1) := by decide +kernel
theorem dL_law_804 : decode cL_law 804 = .ok (.iaload, 1) := by decide +kernel
theorem dL_law_805 : decode cL_law 805 = .ok (.invokevirtual 102, 3) := by decide +kernel
theorem dL_law_808 : decode cL_law 808 = .ok (.if_icmp .eq 408, 3) := by decide +kernel
theorem dL_law_811 : decode cL_law 811 = .ok (.iconst 0, 1) := by decide +kernel
theorem dL_law_812 : decode cL_law 812 = .ok (.ireturn, 1) := by decide +kernel
theorem dL_law_813 : decode cL_law 813 = .ok (.aload_n 1, 1) := by decide +kernel
theorem dL_law_814 : decode cL_law 814 = .ok (.aload_n 0, 1) := by decide +kernel
theorem dL_law_815 : decode cL_law 815 = .ok (.iload_n 3, 1) := by decide +kernel
theorem dL_law_816 : decode cL_law 816 = .ok (.iconst 1, 1) := by decide +kernel
theorem dL_law_817 : decode cL_law 817 = .ok (.iadd, 1) := by decide +kernel
theorem dL_law_818 : decode cL_law 818 = .ok (.iaload, 1) := by decide +kernel
theorem dL_law_819 : decode cL_law 819 = .ok (.invokevirtual 103, 3) := by decide +kernel
theorem dL_law_822 : decode cL_law 822 = .ok (.aload_n 2, 1) := by decide +kernel
theorem dL_law_823 : decode cL_law 823 = .ok (.aload_n 0, 1) := by decide +kernel
theorem dL_law_824 : decode cL_law 824 = .ok (.iload_n 3, 1) := by decide +kernel
theorem dL_law_825 : decode cL_law 825 = .ok (.iconst 1, 1) := by decide +kernel
theorem dL_law_826 : decode cL_law 826 = .ok (.iadd, 1) := by decide +kernel
theorem dL_law_827 : decode cL_law 827 = .ok (.iaload, 1) := by decide +kernel
theorem dL_law_828 : decode cL_law 828 = .ok (.invokevirtual 106, 3) := by decide +kernel
theorem dL_law_831 : decode cL_law 831 = .ok (.if_icmp .eq 385, 3) := by decide +kernel
theorem dL_law_834 : decode cL_law 834 = .ok (.iconst 0, 1) := by decide +kernel
theorem dL_law_835 : decode cL_law 835 = .ok (.ireturn, 1) := by decide +kernel
theorem dL_law_836 : decode cL_law 836 = .ok (.aload_n 1, 1) := by decide +kernel
theorem dL_law_837 : decode cL_law 837 = .ok (.aload_n 0, 1) := by decide +kernel
theorem dL_law_838 : decode cL_law 838 = .ok (.iload_n 3, 1) := by decide +kernel
theorem dL_law_839 : decode cL_law 839 = .ok (.iconst 1, 1) := by decide +kernel
theorem dL_law_840 : decode cL_law 840 = .ok (.iadd, 1) := by decide +kernel
theorem dL_law_841 : decode cL_law 841 = .ok (.iaload, 1) := by decide +kernel
theorem dL_law_842 : decode cL_law 842 = .ok (.invokevirtual 107, 3) := by decide +kernel
theorem dL_law_845 : decode cL_law 845 = .ok (.aload_n 2, 1) := by decide +kernel
theorem dL_law_846 : decode cL_law 846 = .ok (.aload_n 0, 1) := by decide +kernel
theorem dL_law_847 : decode cL_law 847 = .ok (.iload_n 3, 1) := by decide +kernel
theorem dL_law_848 : decode cL_law 848 = .ok (.iconst 1, 1) := by decide +kernel
theorem dL_law_849 : decode cL_law 849 = .ok (.iadd, 1) := by decide +kernel
theorem dL_law_850 : decode cL_law 850 = .ok (.iaload, 1) := by decide +kernel
theorem dL_law_851 : decode cL_law 851 = .ok (.invokevirtual 111, 3) := by decide +kernel
theorem dL_law_854 : decode cL_law 854 = .ok (.lcmp, 1) := by decide +kernel
theorem dL_law_855 : decode cL_law 855 = .ok (.ifCond .eq 361, 3) := by decide +kernel
theorem dL_law_858 : decode cL_law 858 = .ok (.iconst 0, 1) := by decide +kernel
theorem dL_law_859 : decode cL_law 859 = .ok (.ireturn, 1) := by decide +kernel
theorem dL_law_860 : decode cL_law 860 = .ok (.aload_n 1, 1) := by decide +kernel
theorem dL_law_861 : decode cL_law 861 = .ok (.aload_n 0, 1) := by decide +kernel
theorem dL_law_862 : decode cL_law 862 = .ok (.iload_n 3, 1) := by decide +kernel
theorem dL_law_863 : decode cL_law 863 = .ok (.iconst 1, 1) := by decide +kernel
theorem dL_law_864 : decode cL_law 864 = .ok (.iadd, 1) := by decide +kernel
theorem dL_law_865 : decode cL_law 865 = .ok (.iaload, 1) := by decide +kernel
theorem dL_law_866 : decode cL_law 866 = .ok (.aload_n 0, 1) := by decide +kernel
theorem dL_law_867 : decode cL_law 867 = .ok (.iload_n 3, 1) := by decide +kernel
theorem dL_law_868 : decode cL_law 868 = .ok (.iconst 2, 1) := by decide +kernel
theorem dL_law_869 : decode cL_law 869 = .ok (.iadd, 1) := by decide +kernel
theorem dL_law_870 : decode cL_law 870 = .ok (.iaload, 1) := by decide +kernel
theorem dL_law_871 : decode cL_law 871 = .ok (.invokevirtual 112, 3) := by decide +kernel
theorem dL_law_874 : decode cL_law 874 = .ok (.aload_n 2, 1) := by decide +kernel
theorem dL_law_875 : decode cL_law 875 = .ok (.aload_n 0, 1) := by decide +kernel
theorem dL_law_876 : decode cL_law 876 = .ok (.iload_n 3, 1) := by decide +kernel
theorem dL_law_877 : decode cL_law 877 = .ok (.iconst 1, 1) := by decide +kernel
theorem dL_law_878 : decode cL_law 878 = .ok (.iadd, 1) := by decide +kernel
theorem dL_law_879 : decode cL_law 879 = .ok (.iaload, 1) := by decide +kernel
theorem dL_law_880 : decode cL_law 880 = .ok (.aload_n 0, 1) := by decide +kernel
theorem dL_law_881 : decode cL_law 881 = .ok (.iload_n 3, 1) := by decide +kernel
theorem dL_law_882 : decode cL_law 882 = .ok (.iconst 2, 1) := by decide +kernel
theorem dL_law_883 : decode cL_law 883 = .ok (.iadd, 1) := by decide +kernel
theorem dL_law_884 : decode cL_law 884 = .ok (.iaload, 1) := by decide +kernel
theorem dL_law_885 : decode cL_law 885 = .ok (.invokevirtual 115, 3) := by decide +kernel
theorem dL_law_888 : decode cL_law 888 = .ok (.if_icmp .eq 328, 3) := by decide +kernel
theorem dL_law_891 : decode cL_law 891 = .ok (.iconst 0, 1) := by decide +kernel
theorem dL_law_892 : decode cL_law 892 = .ok (.ireturn, 1) := by decide +kernel
theorem dL_law_893 : decode cL_law 893 = .ok (.aload_n 1, 1) := by decide +kernel
theorem dL_law_894 : decode cL_law 894 = .ok (.aload_n 0, 1) := by decide +kernel
theorem dL_law_895 : decode cL_law 895 = .ok (.iload_n 3, 1) := by decide +kernel
theorem dL_law_896 : decode cL_law 896 = .ok (.iconst 1, 1) := by decide +kernel
theorem dL_law_897 : decode cL_law 897 = .ok (.iadd, 1) := by decide +kernel
theorem dL_law_898 : decode cL_law 898 = .ok (.iaload, 1) := by decide +kernel
theorem dL_law_899 : decode cL_law 899 = .ok (.aload_n 0, 1) := by decide +kernel
theorem dL_law_900 : decode cL_law 900 = .ok (.iload_n 3, 1) := by decide +kernel
theorem dL_law_901 : decode cL_law 901 = .ok (.iconst 2, 1) := by decide +kernel
theorem dL_law_902 : decode cL_law 902 = .ok (.iadd, 1) := by decide +kernel
theorem dL_law_903 : decode cL_law 903 = .ok (.iaload, 1) := by decide +kernel
theorem dL_law_904 : decode cL_law 904 = .ok (.invokevirtual 116, 3) := by decide +kernel
theorem dL_law_907 : decode cL_law 907 = .ok (.aload_n 2, 1) := by decide +kernel
theorem dL_law_908 : decode cL_law 908 = .ok (.aload_n 0, 1) := by decide +kernel
theorem dL_law_909 : decode cL_law 909 = .ok (.iload_n 3, 1) := by decide +kernel
theorem dL_law_910 : decode cL_law 910 = .ok (.iconst 1, 1) := by decide +kernel
theorem dL_law_911 : decode cL_law 911 = .ok (.iadd, 1) := by decide +kernel
theorem dL_law_912 : decode cL_law 912 = .ok (.iaload, 1) := by decide +kernel
theorem dL_law_913 : decode cL_law 913 = .ok (.aload_n 0, 1) := by decide +kernel
theorem dL_law_914 : decode cL_law 914 = .ok (.iload_n 3, 1) := by decide +kernel
theorem dL_law_915 : decode cL_law 915 = .ok (.iconst 2, 1) := by decide +kernel
theorem dL_law_916 : decode cL_law 916 = .ok (.iadd, 1) := by decide +kernel
theorem dL_law_917 : decode cL_law 917 = .ok (.iaload, 1) := by decide +kernel
theorem dL_law_918 : decode cL_law 918 = .ok (.invokevirtual 119, 3) := by decide +kernel
theorem dL_law_921 : decode cL_law 921 = .ok (.if_icmp .eq 295, 3) := by decide +kernel
theorem dL_law_924 : decode cL_law 924 = .ok (.iconst 0, 1) := by decide +kernel
theorem dL_law_925 : decode cL_law 925 = .ok (.ireturn, 1) := by decide +kernel
theorem dL_law_926 : decode cL_law 926 = .ok (.aload_n 1, 1) := by decide +kernel
theorem dL_law_927 : decode cL_law 927 = .ok (.aload_n 0, 1) := by decide +kernel
theorem dL_law_928 : decode cL_law 928 = .ok (.iload_n 3, 1) := by decide +kernel
theorem dL_law_929 : decode cL_law 929 = .ok (.iconst 1, 1) := by decide +kernel
theorem dL_law_930 : decode cL_law 930 = .ok (.iadd, 1) := by decide +kernel
theorem dL_law_931 : decode cL_law 931 = .ok (.iaload, 1) := by decide +kernel
theorem dL_law_932 : decode cL_law 932 = .ok (.invokevirtual 120, 3) := by decide +kernel
theorem dL_law_935 : decode cL_law 935 = .ok (.aload_n 2, 1) := by decide +kernel
theorem dL_law_936 : decode cL_law 936 = .ok (.aload_n 0, 1) := by decide +kernel
theorem dL_law_937 : decode cL_law 937 = .ok (.iload_n 3, 1) := by decide +kernel
theorem dL_law_938 : decode cL_law 938 = .ok (.iconst 1, 1) := by decide +kernel
theorem dL_law_939 : decode cL_law 939 = .ok (.iadd, 1) := by decide +kernel
theorem dL_law_940 : decode cL_law 940 = .ok (.iaload, 1) := by decide +kernel
theorem dL_law_941 : decode cL_law 941 = .ok (.invokevirtual 123, 3) := by decide +kernel
theorem dL_law_944 : decode cL_law 944 = .ok (.if_icmp .eq 272, 3) := by decide +kernel
theorem dL_law_947 : decode cL_law 947 = .ok (.iconst 0, 1) := by decide +kernel
theorem dL_law_948 : decode cL_law 948 = .ok (.ireturn, 1) := by decide +kernel
theorem dL_law_949 : decode cL_law 949 = .ok (.aload_n 1, 1) := by decide +kernel
theorem dL_law_950 : decode cL_law 950 = .ok (.aload_n 0, 1) := by decide +kernel
theorem dL_law_951 : decode cL_law 951 = .ok (.iload_n 3, 1) := by decide +kernel
theorem dL_law_952 : decode cL_law 952 = .ok (.iconst 1, 1) := by decide +kernel
theorem dL_law_953 : decode cL_law 953 = .ok (.iadd, 1) := by decide +kernel
theorem dL_law_954 : decode cL_law 954 = .ok (.iaload, 1) := by decide +kernel
theorem dL_law_955 : decode cL_law 955 = .ok (.aload_n 0, 1) := by decide +kernel
theorem dL_law_956 : decode cL_law 956 = .ok (.iload_n 3, 1) := by decide +kernel
theorem dL_law_957 : decode cL_law 957 = .ok (.iconst 2, 1) := by decide +kernel
theorem dL_law_958 : decode cL_law 958 = .ok (.iadd, 1) := by decide +kernel
theorem dL_law_959 : decode cL_law 959 = .ok (.iaload, 1) := by decide +kernel
theorem dL_law_960 : decode cL_law 960 = .ok (.invokevirtual 124, 3) := by decide +kernel
theorem dL_law_963 : decode cL_law 963 = .ok (.aload_n 2, 1) := by decide +kernel
theorem dL_law_964 : decode cL_law 964 = .ok (.aload_n 0, 1) := by decide +kernel
theorem dL_law_965 : decode cL_law 965 = .ok (.iload_n 3, 1) := by decide +kernel
theorem dL_law_966 : decode cL_law 966 = .ok (.iconst 1, 1) := by decide +kernel
theorem dL_law_967 : decode cL_law 967 = .ok (.iadd, 1) := by decide +kernel
theorem dL_law_968 : decode cL_law 968 = .ok (.iaload, 1) := by decide +kernel
theorem dL_law_969 : decode cL_law 969 = .ok (.aload_n 0, 1) := by decide +kernel
theorem dL_law_970 : decode cL_law 970 = .ok (.iload_n 3, 1) := by decide +kernel
theorem dL_law_971 : decode cL_law 971 = .ok (.iconst 2, 1) := by decide +kernel
theorem dL_law_972 : decode cL_law 972 = .ok (.iadd, 1) := by decide +kernel
theorem dL_law_973 : decode cL_law 973 = .ok (.iaload, 1) := by decide +kernel
theorem dL_law_974 : decode cL_law 974 = .ok (.invokevirtual 127, 3) := by decide +kernel
theorem dL_law_977 : decode cL_law 977 = .ok (.if_icmp .eq 239, 3) := by decide +kernel
theorem dL_law_980 : decode cL_law 980 = .ok (.iconst 0, 1) := by decide +kernel
theorem dL_law_981 : decode cL_law 981 = .ok (.ireturn, 1) := by decide +kernel
theorem dL_law_982 : decode cL_law 982 = .ok (.aload_n 1, 1) := by decide +kernel
theorem dL_law_983 : decode cL_law 983 = .ok (.aload_n 0, 1) := by decide +kernel
theorem dL_law_984 : decode cL_law 984 = .ok (.iload_n 3, 1) := by decide +kernel
theorem dL_law_985 : decode cL_law 985 = .ok (.iconst 1, 1) := by decide +kernel
theorem dL_law_986 : decode cL_law 986 = .ok (.iadd, 1) := by decide +kernel
theorem dL_law_987 : decode cL_law 987 = .ok (.iaload, 1) := by decide +kernel
theorem dL_law_988 : decode cL_law 988 = .ok (.invokevirtual 128, 3) := by decide +kernel
theorem dL_law_991 : decode cL_law 991 = .ok (.aload_n 2, 1) := by decide +kernel
theorem dL_law_992 : decode cL_law 992 = .ok (.aload_n 0, 1) := by decide +kernel
theorem dL_law_993 : decode cL_law 993 = .ok (.iload_n 3, 1) := by decide +kernel
theorem dL_law_994 : decode cL_law 994 = .ok (.iconst 1, 1) := by decide +kernel
theorem dL_law_995 : decode cL_law 995 = .ok (.iadd, 1) := by decide +kernel
theorem dL_law_996 : decode cL_law 996 = .ok (.iaload, 1) := by decide +kernel
theorem dL_law_997 : decode cL_law 997 = .ok (.invokevirtual 131, 3) := by decide +kernel
theorem dL_law_1000 : decode cL_law 1000 = .ok (.if_icmp .eq 216, 3) := by decide +kernel
theorem dL_law_1003 : decode cL_law 1003 = .ok (.iconst 0, 1) := by decide +kernel
theorem dL_law_1004 : decode cL_law 1004 = .ok (.ireturn, 1) := by decide +kernel
theorem dL_law_1005 : decode cL_law 1005 = .ok (.aload_n 1, 1) := by decide +kernel
theorem dL_law_1006 : decode cL_law 1006 = .ok (.aload_n 0, 1) := by decide +kernel
theorem dL_law_1007 : decode cL_law 1007 = .ok (.iload_n 3, 1) := by decide +kernel
theorem dL_law_1008 : decode cL_law 1008 = .ok (.iconst 1, 1) := by decide +kernel
theorem dL_law_1009 : decode cL_law 1009 = .ok (.iadd, 1) := by decide +kernel
theorem dL_law_1010 : decode cL_law 1010 = .ok (.iaload, 1) := by decide +kernel
theorem dL_law_1011 : decode cL_law 1011 = .ok (.invokevirtual 132, 3) := by decide +kernel
theorem dL_law_1014 : decode cL_law 1014 = .ok (.aload_n 2, 1) := by decide +kernel
theorem dL_law_1015 : decode cL_law 1015 = .ok (.aload_n 0, 1) := by decide +kernel
theorem dL_law_1016 : decode cL_law 1016 = .ok (.iload_n 3, 1) := by decide +kernel
theorem dL_law_1017 : decode cL_law 1017 = .ok (.iconst 1, 1) := by decide +kernel
theorem dL_law_1018 : decode cL_law 1018 = .ok (.iadd, 1) := by decide +kernel
theorem dL_law_1019 : decode cL_law 1019 = .ok (.iaload, 1) := by decide +kernel
theorem dL_law_1020 : decode cL_law 1020 = .ok (.invokevirtual 135, 3) := by decide +kernel
theorem dL_law_1023 : decode cL_law 1023 = .ok (.if_icmp .eq 193, 3) := by decide +kernel
theorem dL_law_1026 : decode cL_law 1026 = .ok (.iconst 0, 1) := by decide +kernel
theorem dL_law_1027 : decode cL_law 1027 = .ok (.ireturn, 1) := by decide +kernel
theorem dL_law_1028 : decode cL_law 1028 = .ok (.aload_n 1, 1) := by decide +kernel
theorem dL_law_1029 : decode cL_law 1029 = .ok (.aload_n 0, 1) := by decide +kernel
theorem dL_law_1030 : decode cL_law 1030 = .ok (.iload_n 3, 1) := by decide +kernel
theorem dL_law_1031 : decode cL_law 1031 = .ok (.iconst 1, 1) := by decide +kernel
theorem dL_law_1032 : decode cL_law 1032 = .ok (.iadd, 1) := by decide +kernel
theorem dL_law_1033 : decode cL_law 1033 = .ok (.iaload, 1) := by decide +kernel
theorem dL_law_1034 : decode cL_law 1034 = .ok (.invokevirtual 136, 3) := by decide +kernel
theorem dL_law_1037 : decode cL_law 1037 = .ok (.aload_n 2, 1) := by decide +kernel
theorem dL_law_1038 : decode cL_law 1038 = .ok (.aload_n 0, 1) := by decide +kernel
theorem dL_law_1039 : decode cL_law 1039 = .ok (.iload_n 3, 1) := by decide +kernel
theorem dL_law_1040 : decode cL_law 1040 = .ok (.iconst 1, 1) := by decide +kernel
theorem dL_law_1041 : decode cL_law 1041 = .ok (.iadd, 1) := by decide +kernel
theorem dL_law_1042 : decode cL_law 1042 = .ok (.iaload, 1) := by decide +kernel
theorem dL_law_1043 : decode cL_law 1043 = .ok (.invokevirtual 139, 3) := by decide +kernel
theorem dL_law_1046 : decode cL_law 1046 = .ok (.if_icmp .eq 170, 3) := by decide +kernel
theorem dL_law_1049 : decode cL_law 1049 = .ok (.iconst 0, 1) := by decide +kernel
theorem dL_law_1050 : decode cL_law 1050 = .ok (.ireturn, 1) := by decide +kernel
theorem dL_law_1051 : decode cL_law 1051 = .ok (.aload_n 1, 1) := by decide +kernel
theorem dL_law_1052 : decode cL_law 1052 = .ok (.aload_n 0, 1) := by decide +kernel
theorem dL_law_1053 : decode cL_law 1053 = .ok (.iload_n 3, 1) := by decide +kernel
theorem dL_law_1054 : decode cL_law 1054 = .ok (.iconst 1, 1) := by decide +kernel
theorem dL_law_1055 : decode cL_law 1055 = .ok (.iadd, 1) := by decide +kernel
theorem dL_law_1056 : decode cL_law 1056 = .ok (.iaload, 1) := by decide +kernel
theorem dL_law_1057 : decode cL_law 1057 = .ok (.invokevirtual 140, 3) := by decide +kernel
theorem dL_law_1060 : decode cL_law 1060 = .ok (.aload_n 2, 1) := by decide +kernel
theorem dL_law_1061 : decode cL_law 1061 = .ok (.aload_n 0, 1) := by decide +kernel
theorem dL_law_1062 : decode cL_law 1062 = .ok (.iload_n 3, 1) := by decide +kernel
theorem dL_law_1063 : decode cL_law 1063 = .ok (.iconst 1, 1) := by decide +kernel
theorem dL_law_1064 : decode cL_law 1064 = .ok (.iadd, 1) := by decide +kernel
theorem dL_law_1065 : decode cL_law 1065 = .ok (.iaload, 1) := by decide +kernel
theorem dL_law_1066 : decode cL_law 1066 = .ok (.invokevirtual 143, 3) := by decide +kernel
theorem dL_law_1069 : decode cL_law 1069 = .ok (.lcmp, 1) := by decide +kernel
theorem dL_law_1070 : decode cL_law 1070 = .ok (.ifCond .eq 146, 3) := by decide +kernel
theorem dL_law_1073 : decode cL_law 1073 = .ok (.iconst 0, 1) := by decide +kernel
theorem dL_law_1074 : decode cL_law 1074 = .ok (.ireturn, 1) := by decide +kernel
theorem dL_law_1075 : decode cL_law 1075 = .ok (.aload_n 1, 1) := by decide +kernel
theorem dL_law_1076 : decode cL_law 1076 = .ok (.invokevirtual 144, 3) := by decide +kernel
theorem dL_law_1079 : decode cL_law 1079 = .ok (.aload_n 2, 1) := by decide +kernel
theorem dL_law_1080 : decode cL_law 1080 = .ok (.invokevirtual 147, 3) := by decide +kernel
theorem dL_law_1083 : decode cL_law 1083 = .ok (.if_icmp .eq 133, 3) := by decide +kernel
theorem dL_law_1086 : decode cL_law 1086 = .ok (.iconst 0, 1) := by decide +kernel
theorem dL_law_1087 : decode cL_law 1087 = .ok (.ireturn, 1) := by decide +kernel
theorem dL_law_1088 : decode cL_law 1088 = .ok (.aload_n 1, 1) := by decide +kernel
theorem dL_law_1089 : decode cL_law 1089 = .ok (.aload_n 0, 1) := by decide +kernel
theorem dL_law_1090 : decode cL_law 1090 = .ok (.iload_n 3, 1) := by decide +kernel
theorem dL_law_1091 : decode cL_law 1091 = .ok (.iconst 1, 1) := by decide +kernel
theorem dL_law_1092 : decode cL_law 1092 = .ok (.iadd, 1) := by decide +kernel
theorem dL_law_1093 : decode cL_law 1093 = .ok (.iaload, 1) := by decide +kernel
theorem dL_law_1094 : decode cL_law 1094 = .ok (.aload_n 0, 1) := by decide +kernel
theorem dL_law_1095 : decode cL_law 1095 = .ok (.iload_n 3, 1) := by decide +kernel
theorem dL_law_1096 : decode cL_law 1096 = .ok (.iconst 2, 1) := by decide +kernel
theorem dL_law_1097 : decode cL_law 1097 = .ok (.iadd, 1) := by decide +kernel
theorem dL_law_1098 : decode cL_law 1098 = .ok (.iaload, 1) := by decide +kernel
theorem dL_law_1099 : decode cL_law 1099 = .ok (.invokevirtual 148, 3) := by decide +kernel
theorem dL_law_1102 : decode cL_law 1102 = .ok (.aload_n 2, 1) := by decide +kernel
theorem dL_law_1103 : decode cL_law 1103 = .ok (.aload_n 0, 1) := by decide +kernel
theorem dL_law_1104 : decode cL_law 1104 = .ok (.iload_n 3, 1) := by decide +kernel
theorem dL_law_1105 : decode cL_law 1105 = .ok (.iconst 1, 1) := by decide +kernel
theorem dL_law_1106 : decode cL_law 1106 = .ok (.iadd, 1) := by decide +kernel
theorem dL_law_1107 : decode cL_law 1107 = .ok (.iaload, 1) := by decide +kernel
theorem dL_law_1108 : decode cL_law 1108 = .ok (.aload_n 0, 1) := by decide +kernel
theorem dL_law_1109 : decode cL_law 1109 = .ok (.iload_n 3, 1) := by decide +kernel
theorem dL_law_1110 : decode cL_law 1110 = .ok (.iconst 2, 1) := by decide +kernel
theorem dL_law_1111 : decode cL_law 1111 = .ok (.iadd, 1) := by decide +kernel
theorem dL_law_1112 : decode cL_law 1112 = .ok (.iaload, 1) := by decide +kernel
theorem dL_law_1113 : decode cL_law 1113 = .ok (.invokevirtual 151, 3) := by decide +kernel
theorem dL_law_1116 : decode cL_law 1116 = .ok (.if_icmp .eq 100, 3) := by decide +kernel
theorem dL_law_1119 : decode cL_law 1119 = .ok (.iconst 0, 1) := by decide +kernel
theorem dL_law_1120 : decode cL_law 1120 = .ok (.ireturn, 1) := by decide +kernel
theorem dL_law_1121 : decode cL_law 1121 = .ok (.aload_n 1, 1) := by decide +kernel
theorem dL_law_1122 : decode cL_law 1122 = .ok (.aload_n 0, 1) := by decide +kernel
theorem dL_law_1123 : decode cL_law 1123 = .ok (.iload_n 3, 1) := by decide +kernel
theorem dL_law_1124 : decode cL_law 1124 = .ok (.iconst 1, 1) := by decide +kernel
theorem dL_law_1125 : decode cL_law 1125 = .ok (.iadd, 1) := by decide +kernel
theorem dL_law_1126 : decode cL_law 1126 = .ok (.iaload, 1) := by decide +kernel
theorem dL_law_1127 : decode cL_law 1127 = .ok (.invokevirtual 152, 3) := by decide +kernel
theorem dL_law_1130 : decode cL_law 1130 = .ok (.aload_n 2, 1) := by decide +kernel
theorem dL_law_1131 : decode cL_law 1131 = .ok (.aload_n 0, 1) := by decide +kernel
theorem dL_law_1132 : decode cL_law 1132 = .ok (.iload_n 3, 1) := by decide +kernel
theorem dL_law_1133 : decode cL_law 1133 = .ok (.iconst 1, 1) := by decide +kernel
theorem dL_law_1134 : decode cL_law 1134 = .ok (.iadd, 1) := by decide +kernel
theorem dL_law_1135 : decode cL_law 1135 = .ok (.iaload, 1) := by decide +kernel
theorem dL_law_1136 : decode cL_law 1136 = .ok (.invokevirtual 155, 3) := by decide +kernel
theorem dL_law_1139 : decode cL_law 1139 = .ok (.if_icmp .eq 77, 3) := by decide +kernel
theorem dL_law_1142 : decode cL_law 1142 = .ok (.iconst 0, 1) := by decide +kernel
theorem dL_law_1143 : decode cL_law 1143 = .ok (.ireturn, 1) := by decide +kernel
theorem dL_law_1144 : decode cL_law 1144 = .ok (.aload_n 1, 1) := by decide +kernel
theorem dL_law_1145 : decode cL_law 1145 = .ok (.aload_n 0, 1) := by decide +kernel
theorem dL_law_1146 : decode cL_law 1146 = .ok (.iload_n 3, 1) := by decide +kernel
theorem dL_law_1147 : decode cL_law 1147 = .ok (.iconst 1, 1) := by decide +kernel
theorem dL_law_1148 : decode cL_law 1148 = .ok (.iadd, 1) := by decide +kernel
theorem dL_law_1149 : decode cL_law 1149 = .ok (.iaload, 1) := by decide +kernel
theorem dL_law_1150 : decode cL_law 1150 = .ok (.aload_n 0, 1) := by decide +kernel
theorem dL_law_1151 : decode cL_law 1151 = .ok (.iload_n 3, 1) := by decide +kernel
theorem dL_law_1152 : decode cL_law 1152 = .ok (.iconst 2, 1) := by decide +kernel
theorem dL_law_1153 : decode cL_law 1153 = .ok (.iadd, 1) := by decide +kernel
theorem dL_law_1154 : decode cL_law 1154 = .ok (.iaload, 1) := by decide +kernel
theorem dL_law_1155 : decode cL_law 1155 = .ok (.invokevirtual 156, 3) := by decide +kernel
theorem dL_law_1158 : decode cL_law 1158 = .ok (.aload_n 2, 1) := by decide +kernel
theorem dL_law_1159 : decode cL_law 1159 = .ok (.aload_n 0, 1) := by decide +kernel
theorem dL_law_1160 : decode cL_law 1160 = .ok (.iload_n 3, 1) := by decide +kernel
theorem dL_law_1161 : decode cL_law 1161 = .ok (.iconst 1, 1) := by decide +kernel
theorem dL_law_1162 : decode cL_law 1162 = .ok (.iadd, 1) := by decide +kernel
theorem dL_law_1163 : decode cL_law 1163 = .ok (.iaload, 1) := by decide +kernel
theorem dL_law_1164 : decode cL_law 1164 = .ok (.aload_n 0, 1) := by decide +kernel
theorem dL_law_1165 : decode cL_law 1165 = .ok (.iload_n 3, 1) := by decide +kernel
theorem dL_law_1166 : decode cL_law 1166 = .ok (.iconst 2, 1) := by decide +kernel
theorem dL_law_1167 : decode cL_law 1167 = .ok (.iadd, 1) := by decide +kernel
theorem dL_law_1168 : decode cL_law 1168 = .ok (.iaload, 1) := by decide +kernel
theorem dL_law_1169 : decode cL_law 1169 = .ok (.invokevirtual 159, 3) := by decide +kernel
theorem dL_law_1172 : decode cL_law 1172 = .ok (.if_icmp .eq 44, 3) := by decide +kernel
theorem dL_law_1175 : decode cL_law 1175 = .ok (.iconst 0, 1) := by decide +kernel
theorem dL_law_1176 : decode cL_law 1176 = .ok (.ireturn, 1) := by decide +kernel
theorem dL_law_1177 : decode cL_law 1177 = .ok (.aload_n 1, 1) := by decide +kernel
theorem dL_law_1178 : decode cL_law 1178 = .ok (.invokevirtual 160, 3) := by decide +kernel
theorem dL_law_1181 : decode cL_law 1181 = .ok (.aload_n 2, 1) := by decide +kernel
theorem dL_law_1182 : decode cL_law 1182 = .ok (.invokevirtual 163, 3) := by decide +kernel
theorem dL_law_1185 : decode cL_law 1185 = .ok (.if_icmp .eq 31, 3) := by decide +kernel
theorem dL_law_1188 : decode cL_law 1188 = .ok (.iconst 0, 1) := by decide +kernel
theorem dL_law_1189 : decode cL_law 1189 = .ok (.ireturn, 1) := by decide +kernel
theorem dL_law_1190 : decode cL_law 1190 = .ok (.aload_n 1, 1) := by decide +kernel
theorem dL_law_1191 : decode cL_law 1191 = .ok (.invokevirtual 164, 3) := by decide +kernel
theorem dL_law_1194 : decode cL_law 1194 = .ok (.aload_n 2, 1) := by decide +kernel
theorem dL_law_1195 : decode cL_law 1195 = .ok (.invokevirtual 167, 3) := by decide +kernel
theorem dL_law_1198 : decode cL_law 1198 = .ok (.if_icmp .eq 18, 3) := by decide +kernel
theorem dL_law_1201 : decode cL_law 1201 = .ok (.iconst 0, 1) := by decide +kernel
theorem dL_law_1202 : decode cL_law 1202 = .ok (.ireturn, 1) := by decide +kernel
theorem dL_law_1203 : decode cL_law 1203 = .ok (.aload_n 1, 1) := by decide +kernel
theorem dL_law_1204 : decode cL_law 1204 = .ok (.invokevirtual 168, 3) := by decide +kernel
theorem dL_law_1207 : decode cL_law 1207 = .ok (.aload_n 2, 1) := by decide +kernel
theorem dL_law_1208 : decode cL_law 1208 = .ok (.invokevirtual 171, 3) := by decide +kernel
theorem dL_law_1211 : decode cL_law 1211 = .ok (.if_icmp .eq 5, 3) := by decide +kernel
theorem dL_law_1214 : decode cL_law 1214 = .ok (.iconst 0, 1) := by decide +kernel
theorem dL_law_1215 : decode cL_law 1215 = .ok (.ireturn, 1) := by decide +kernel
theorem dL_law_1216 : decode cL_law 1216 = .ok (.iinc 3 6, 3) := by decide +kernel
theorem dL_law_1219 : decode cL_law 1219 = .ok (.goto (-1201), 3) := by decide +kernel
theorem dL_law_1222 : decode cL_law 1222 = .ok (.iconst 1, 1) := by decide +kernel
theorem dL_law_1223 : decode cL_law 1223 = .ok (.ireturn, 1) := by decide +kernel
end
section
def lw_good : List Cond := lw_tbl.filter goodWord
theorem w_0 : Cond.selects RX4 yX4_recordState yX4_recordState ∈ lw_good := List.mem_filter.mpr ⟨List.mem_of_getElem? (i := 0) (by decide +kernel), by decide +kernel⟩
theorem w_1 : Cond.selects RX4 yX4_dropOldestState yX4_dropOldestState ∈ lw_good := List.mem_filter.mpr ⟨List.mem_of_getElem? (i := 1) (by decide +kernel), by decide +kernel⟩
theorem w_2 : Cond.selects RX4 yX4_addCard yX4_addCard ∈ lw_good := List.mem_filter.mpr ⟨List.mem_of_getElem? (i := 2) (by decide +kernel), by decide +kernel⟩
theorem w_3 : Cond.selects RX4 yX4_drawIdealCard yX4_drawIdealCard ∈ lw_good := List.mem_filter.mpr ⟨List.mem_of_getElem? (i := 3) (by decide +kernel), by decide +kernel⟩
theorem w_4 : Cond.selects RX4 yX4_drawIdealOutward yX4_drawIdealOutward ∈ lw_good := List.mem_filter.mpr ⟨List.mem_of_getElem? (i := 4) (by decide +kernel), by decide +kernel⟩
theorem w_5 : Cond.selects RX4 yX4_drawIdealReturn yX4_drawIdealReturn ∈ lw_good := List.mem_filter.mpr ⟨List.mem_of_getElem? (i := 5) (by decide +kernel), by decide +kernel⟩
theorem w_6 : Cond.selects RX4 yX4_isCard yX4_isCard ∈ lw_good := List.mem_filter.mpr ⟨List.mem_of_getElem? (i := 6) (by decide +kernel), by decide +kernel⟩
theorem w_7 : Cond.selects RX4 yX4_powerOfCard yX4_powerOfCard ∈ lw_good := List.mem_filter.mpr ⟨List.mem_of_getElem? (i := 7) (by decide +kernel), by decide +kernel⟩
theorem w_8 : Cond.selects RX4 yX4_powerFrom yX4_powerFrom ∈ lw_good := List.mem_filter.mpr ⟨List.mem_of_getElem? (i := 8) (by decide +kernel), by decide +kernel⟩
theorem w_9 : Cond.selects RX4 yX4_findEvents yX4_findEvents ∈ lw_good := List.mem_filter.mpr ⟨List.mem_of_getElem? (i := 9) (by decide +kernel), by decide +kernel⟩
theorem w_10 : Cond.selects RX4 yX4_findAdmission yX4_findAdmission ∈ lw_good := List.mem_filter.mpr ⟨List.mem_of_getElem? (i := 10) (by decide +kernel), by decide +kernel⟩
theorem w_11 : Cond.selects RX4 yX4_findCutOff yX4_findCutOff ∈ lw_good := List.mem_filter.mpr ⟨List.mem_of_getElem? (i := 11) (by decide +kernel), by decide +kernel⟩
theorem w_12 : Cond.selects RX4 yX4_findRelease yX4_findRelease ∈ lw_good := List.mem_filter.mpr ⟨List.mem_of_getElem? (i := 12) (by decide +kernel), by decide +kernel⟩
theorem w_13 : Cond.selects RX4 yX4_constantAt yX4_constantAt ∈ lw_good := List.mem_filter.mpr ⟨List.mem_of_getElem? (i := 13) (by decide +kernel), by decide +kernel⟩
theorem w_14 : Cond.selects RX4 yX4_findCompression yX4_findCompression ∈ lw_good := List.mem_filter.mpr ⟨List.mem_of_getElem? (i := 14) (by decide +kernel), by decide +kernel⟩
theorem w_15 : Cond.selects RX4 yX4_foundLateness yX4_foundLateness ∈ lw_good := List.mem_filter.mpr ⟨List.mem_of_getElem? (i := 15) (by decide +kernel), by decide +kernel⟩
theorem w_16 : Cond.selects RX4 yX4_deviationFrom yX4_deviationFrom ∈ lw_good := List.mem_filter.mpr ⟨List.mem_of_getElem? (i := 16) (by decide +kernel), by decide +kernel⟩
theorem w_17 : Cond.selects RX4 yX4_countCards yX4_countCards ∈ lw_good := List.mem_filter.mpr ⟨List.mem_of_getElem? (i := 17) (by decide +kernel), by decide +kernel⟩
theorem w_18 : Cond.selects RX4 yX4_drawMeanPressures yX4_drawMeanPressures ∈ lw_good := List.mem_filter.mpr ⟨List.mem_of_getElem? (i := 18) (by decide +kernel), by decide +kernel⟩
theorem w_19 : Cond.selects RX4 yX4_meanOfPowers yX4_meanOfPowers ∈ lw_good := List.mem_filter.mpr ⟨List.mem_of_getElem? (i := 19) (by decide +kernel), by decide +kernel⟩
theorem w_20 : Cond.selects RX4 yX4_medianArea yX4_medianArea ∈ lw_good := List.mem_filter.mpr ⟨List.mem_of_getElem? (i := 20) (by decide +kernel), by decide +kernel⟩
theorem w_21 : Cond.selects RX4 yX4_insertSorted yX4_insertSorted ∈ lw_good := List.mem_filter.mpr ⟨List.mem_of_getElem? (i := 21) (by decide +kernel), by decide +kernel⟩
theorem w_22 : Cond.selects RX4 yX4_areaWithCutOff yX4_areaWithCutOff ∈ lw_good := List.mem_filter.mpr ⟨List.mem_of_getElem? (i := 22) (by decide +kernel), by decide +kernel⟩
theorem w_23 : Cond.selects RX4 yX4_nearestCutOff yX4_nearestCutOff ∈ lw_good := List.mem_filter.mpr ⟨List.mem_of_getElem? (i := 23) (by decide +kernel), by decide +kernel⟩
theorem w_24 : Cond.selects RX4 yX4_powerWithCutOff yX4_powerWithCutOff ∈ lw_good := List.mem_filter.mpr ⟨List.mem_of_getElem? (i := 24) (by decide +kernel), by decide +kernel⟩
theorem w_25 : Cond.selects RX5 yX5_copy yX5_copy ∈ lw_good := List.mem_filter.mpr ⟨List.mem_of_getElem? (i := 25) (by decide +kernel), by decide +kernel⟩
theorem w_26 : Cond.selects RX5 yX5_put yX5_put ∈ lw_good := List.mem_filter.mpr ⟨List.mem_of_getElem? (i := 26) (by decide +kernel), by decide +kernel⟩
theorem w_27 : Cond.selects RX5 yX5_record yX5_record ∈ lw_good := List.mem_filter.mpr ⟨List.mem_of_getElem? (i := 27) (by decide +kernel), by decide +kernel⟩
theorem w_28 : Cond.selects RX5 yX5_points yX5_points ∈ lw_good := List.mem_filter.mpr ⟨List.mem_of_getElem? (i := 28) (by decide +kernel), by decide +kernel⟩
theorem w_29 : Cond.selects RX5 yX5_drafted yX5_drafted ∈ lw_good := List.mem_filter.mpr ⟨List.mem_of_getElem? (i := 29) (by decide +kernel), by decide +kernel⟩
theorem w_30 : Cond.selects RX5 yX5_addCard yX5_addCard ∈ lw_good := List.mem_filter.mpr ⟨List.mem_of_getElem? (i := 30) (by decide +kernel), by decide +kernel⟩
theorem w_31 : Cond.selects RX5 yX5_valveOf yX5_valveOf ∈ lw_good := List.mem_filter.mpr ⟨List.mem_of_getElem? (i := 31) (by decide +kernel), by decide +kernel⟩
theorem w_32 : Cond.selects RX5 yX5_draw yX5_draw ∈ lw_good := List.mem_filter.mpr ⟨List.mem_of_getElem? (i := 32) (by decide +kernel), by decide +kernel⟩
theorem w_33 : Cond.selects RX5 yX5_volume yX5_volume ∈ lw_good := List.mem_filter.mpr ⟨List.mem_of_getElem? (i := 33) (by decide +kernel), by decide +kernel⟩
theorem w_34 : Cond.selects RX5 yX5_isCard yX5_isCard ∈ lw_good := List.mem_filter.mpr ⟨List.mem_of_getElem? (i := 34) (by decide +kernel), by decide +kernel⟩
theorem w_35 : Cond.selects RX5 yX5_remove yX5_remove ∈ lw_good := List.mem_filter.mpr ⟨List.mem_of_getElem? (i := 35) (by decide +kernel), by decide +kernel⟩
theorem w_36 : Cond.selects RX5 yX5_areaAt yX5_areaAt ∈ lw_good := List.mem_filter.mpr ⟨List.mem_of_getElem? (i := 36) (by decide +kernel), by decide +kernel⟩
theorem w_37 : Cond.selects RX5 yX5_difference yX5_difference ∈ lw_good := List.mem_filter.mpr ⟨List.mem_of_getElem? (i := 37) (by decide +kernel), by decide +kernel⟩
theorem w_38 : Cond.selects RX5 yX5_parts yX5_parts ∈ lw_good := List.mem_filter.mpr ⟨List.mem_of_getElem? (i := 38) (by decide +kernel), by decide +kernel⟩
theorem w_39 : Cond.selects RX5 yX5_powerAt yX5_powerAt ∈ lw_good := List.mem_filter.mpr ⟨List.mem_of_getElem? (i := 39) (by decide +kernel), by decide +kernel⟩
theorem w_40 : Cond.selects RX5 yX5_powerOf yX5_powerOf ∈ lw_good := List.mem_filter.mpr ⟨List.mem_of_getElem? (i := 40) (by decide +kernel), by decide +kernel⟩
theorem w_41 : Cond.selects RX5 yX5_eventOf yX5_eventOf ∈ lw_good := List.mem_filter.mpr ⟨List.mem_of_getElem? (i := 41) (by decide +kernel), by decide +kernel⟩
theorem w_42 : Cond.selects RX5 yX5_admission yX5_admission ∈ lw_good := List.mem_filter.mpr ⟨List.mem_of_getElem? (i := 42) (by decide +kernel), by decide +kernel⟩
theorem w_43 : Cond.selects RX5 yX5_extreme yX5_extreme ∈ lw_good := List.mem_filter.mpr ⟨List.mem_of_getElem? (i := 43) (by decide +kernel), by decide +kernel⟩
theorem w_44 : Cond.selects RX5 yX5_cutOff yX5_cutOff ∈ lw_good := List.mem_filter.mpr ⟨List.mem_of_getElem? (i := 44) (by decide +kernel), by decide +kernel⟩
theorem w_45 : Cond.selects RX5 yX5_release yX5_release ∈ lw_good := List.mem_filter.mpr ⟨List.mem_of_getElem? (i := 45) (by decide +kernel), by decide +kernel⟩
theorem w_46 : Cond.selects RX5 yX5_constantAt yX5_constantAt ∈ lw_good := List.mem_filter.mpr ⟨List.mem_of_getElem? (i := 46) (by decide +kernel), by decide +kernel⟩
theorem w_47 : Cond.selects RX5 yX5_compression yX5_compression ∈ lw_good := List.mem_filter.mpr ⟨List.mem_of_getElem? (i := 47) (by decide +kernel), by decide +kernel⟩
theorem w_48 : Cond.selects RX5 yX5_latenessOf yX5_latenessOf ∈ lw_good := List.mem_filter.mpr ⟨List.mem_of_getElem? (i := 48) (by decide +kernel), by decide +kernel⟩
theorem w_49 : Cond.selects RX5 yX5_offBy yX5_offBy ∈ lw_good := List.mem_filter.mpr ⟨List.mem_of_getElem? (i := 49) (by decide +kernel), by decide +kernel⟩
theorem w_50 : Cond.selects RX5 yX5_many yX5_many ∈ lw_good := List.mem_filter.mpr ⟨List.mem_of_getElem? (i := 50) (by decide +kernel), by decide +kernel⟩
theorem w_51 : Cond.selects RX5 yX5_meanPowerOf yX5_meanPowerOf ∈ lw_good := List.mem_filter.mpr ⟨List.mem_of_getElem? (i := 51) (by decide +kernel), by decide +kernel⟩
theorem w_52 : Cond.selects RX5 yX5_median yX5_median ∈ lw_good := List.mem_filter.mpr ⟨List.mem_of_getElem? (i := 52) (by decide +kernel), by decide +kernel⟩
theorem w_53 : Cond.selects RX5 yX5_idealBy yX5_idealBy ∈ lw_good := List.mem_filter.mpr ⟨List.mem_of_getElem? (i := 53) (by decide +kernel), by decide +kernel⟩
theorem w_54 : Cond.selects RX5 yX5_canCut yX5_canCut ∈ lw_good := List.mem_filter.mpr ⟨List.mem_of_getElem? (i := 54) (by decide +kernel), by decide +kernel⟩
theorem w_55 : Cond.initialized "IndicatorDiagramLaw" ∈ lw_good := List.mem_filter.mpr ⟨List.mem_of_getElem? (i := 55) (by decide +kernel), by decide +kernel⟩
theorem w_56 : Cond.initialized "IndicatorDiagram" ∈ lw_good := List.mem_filter.mpr ⟨List.mem_of_getElem? (i := 56) (by decide +kernel), by decide +kernel⟩
theorem w_57 : Cond.initialized "IndicatorDiagram$Card" ∈ lw_good := List.mem_filter.mpr ⟨List.mem_of_getElem? (i := 57) (by decide +kernel), by decide +kernel⟩
theorem w_58 : Cond.initialized "IndicatorDiagram$Events" ∈ lw_good := List.mem_filter.mpr ⟨List.mem_of_getElem? (i := 58) (by decide +kernel), by decide +kernel⟩
theorem w_59 : Cond.initialized "IndicatorDiagram$State" ∈ lw_good := List.mem_filter.mpr ⟨List.mem_of_getElem? (i := 59) (by decide +kernel), by decide +kernel⟩
theorem w_60 : Cond.initialized "IndicatorDiagram$Draft" ∈ lw_good := List.mem_filter.mpr ⟨List.mem_of_getElem? (i := 60) (by decide +kernel), by decide +kernel⟩
theorem w_61 : Cond.initialized "IndicatorDiagramModel" ∈ lw_good := List.mem_filter.mpr ⟨List.mem_of_getElem? (i := 61) (by decide +kernel), by decide +kernel⟩
theorem w_62 : Cond.initialized "java/lang/System" ∈ lw_good := List.mem_filter.mpr ⟨List.mem_of_getElem? (i := 62) (by decide +kernel), by decide +kernel⟩
theorem w_63 : Cond.initialized "java/lang/Math" ∈ lw_good := List.mem_filter.mpr ⟨List.mem_of_getElem? (i := 63) (by decide +kernel), by decide +kernel⟩
theorem w_64 : Cond.classLink "IndicatorDiagramLaw" 7 "IndicatorDiagram" ∈ lw_good := List.mem_filter.mpr ⟨List.mem_of_getElem? (i := 64) (by decide +kernel), by decide +kernel⟩
theorem w_65 : Cond.instantiable "IndicatorDiagram" 7 ∈ lw_good := List.mem_filter.mpr ⟨List.mem_of_getElem? (i := 65) (by decide +kernel), by decide +kernel⟩
theorem w_66 : Cond.methodLink "IndicatorDiagramLaw" 9 yX4_init ∈ lw_good := List.mem_filter.mpr ⟨List.mem_of_getElem? (i := 66) (by decide +kernel), by decide +kernel⟩
theorem w_67 : Cond.instanceMethod yX4_init ∈ lw_good := List.mem_filter.mpr ⟨List.mem_of_getElem? (i := 67) (by decide +kernel), by decide +kernel⟩
theorem w_68 : Cond.code yX4_init cX4_init 2 none ∈ lw_good := List.mem_filter.mpr ⟨List.mem_of_getElem? (i := 68) (by decide +kernel), by decide +kernel⟩
theorem w_69 : Cond.methodLink "IndicatorDiagram" 1 objectInit ∈ lw_good := List.mem_filter.mpr ⟨List.mem_of_getElem? (i := 69) (by decide +kernel), by decide +kernel⟩
theorem w_70 : Cond.instanceMethod objectInit ∈ lw_good := List.mem_filter.mpr ⟨List.mem_of_getElem? (i := 70) (by decide +kernel), by decide +kernel⟩
theorem w_71 : Cond.code objectInit object_method_1_code 1 none ∈ lw_good := List.mem_filter.mpr ⟨List.mem_of_getElem? (i := 71) (by decide +kernel), by decide +kernel⟩
theorem w_72 : Cond.classLink "IndicatorDiagram" 7 "IndicatorDiagram$Card" ∈ lw_good := List.mem_filter.mpr ⟨List.mem_of_getElem? (i := 72) (by decide +kernel), by decide +kernel⟩
theorem w_73 : Cond.instantiable "IndicatorDiagram$Card" 4 ∈ lw_good := List.mem_filter.mpr ⟨List.mem_of_getElem? (i := 73) (by decide +kernel), by decide +kernel⟩
theorem w_74 : Cond.methodLink "IndicatorDiagram" 9 yX0_init ∈ lw_good := List.mem_filter.mpr ⟨List.mem_of_getElem? (i := 74) (by decide +kernel), by decide +kernel⟩
theorem w_75 : Cond.instanceMethod yX0_init ∈ lw_good := List.mem_filter.mpr ⟨List.mem_of_getElem? (i := 75) (by decide +kernel), by decide +kernel⟩
theorem w_76 : Cond.code yX0_init cX0_init 1 none ∈ lw_good := List.mem_filter.mpr ⟨List.mem_of_getElem? (i := 76) (by decide +kernel), by decide +kernel⟩
theorem w_77 : Cond.methodLink "IndicatorDiagram$Card" 3 objectInit ∈ lw_good := List.mem_filter.mpr ⟨List.mem_of_getElem? (i := 77) (by decide +kernel), by decide +kernel⟩
theorem w_78 : Cond.fieldLink "IndicatorDiagram" 158 "IndicatorDiagram$Card" "end" "I" ∈ lw_good := List.mem_filter.mpr ⟨List.mem_of_getElem? (i := 78) (by decide +kernel), by decide +kernel⟩
theorem w_79 : Cond.fieldLink "IndicatorDiagram" 162 "IndicatorDiagram$Card" "speed" "I" ∈ lw_good := List.mem_filter.mpr ⟨List.mem_of_getElem? (i := 79) (by decide +kernel), by decide +kernel⟩
theorem w_80 : Cond.fieldLink "IndicatorDiagram$Card" 9 "IndicatorDiagram$Card" "outward" "[I" ∈ lw_good := List.mem_filter.mpr ⟨List.mem_of_getElem? (i := 80) (by decide +kernel), by decide +kernel⟩
theorem w_81 : Cond.fieldLink "IndicatorDiagram" 163 "IndicatorDiagram$Card" "outward" "[I" ∈ lw_good := List.mem_filter.mpr ⟨List.mem_of_getElem? (i := 81) (by decide +kernel), by decide +kernel⟩
theorem w_82 : Cond.fieldLink "IndicatorDiagram$Card" 15 "IndicatorDiagram$Card" "inward" "[I" ∈ lw_good := List.mem_filter.mpr ⟨List.mem_of_getElem? (i := 82) (by decide +kernel), by decide +kernel⟩
theorem w_83 : Cond.fieldLink "IndicatorDiagram" 168 "IndicatorDiagram$Card" "inward" "[I" ∈ lw_good := List.mem_filter.mpr ⟨List.mem_of_getElem? (i := 83) (by decide +kernel), by decide +kernel⟩
theorem w_84 : Cond.lays "IndicatorDiagram$Card" "IndicatorDiagram$Card" "end" "I" ∈ lw_good := List.mem_filter.mpr ⟨List.mem_of_getElem? (i := 84) (by decide +kernel), by decide +kernel⟩
theorem w_86 : Cond.lays "IndicatorDiagram$Card" "IndicatorDiagram$Card" "speed" "I" ∈ lw_good := List.mem_filter.mpr ⟨List.mem_of_getElem? (i := 86) (by decide +kernel), by decide +kernel⟩
theorem w_88 : Cond.laysFinal "IndicatorDiagram$Card" "IndicatorDiagram$Card" "outward" "[I" ∈ lw_good := List.mem_filter.mpr ⟨List.mem_of_getElem? (i := 88) (by decide +kernel), by decide +kernel⟩
theorem w_90 : Cond.laysFinal "IndicatorDiagram$Card" "IndicatorDiagram$Card" "inward" "[I" ∈ lw_good := List.mem_filter.mpr ⟨List.mem_of_getElem? (i := 90) (by decide +kernel), by decide +kernel⟩
theorem w_93 : Cond.arrayClass FieldType.int ∈ lw_good := List.mem_filter.mpr ⟨List.mem_of_getElem? (i := 93) (by decide +kernel), by decide +kernel⟩
theorem w_94 : Cond.classLink "IndicatorDiagram" 16 "IndicatorDiagram$Events" ∈ lw_good := List.mem_filter.mpr ⟨List.mem_of_getElem? (i := 94) (by decide +kernel), by decide +kernel⟩
theorem w_95 : Cond.instantiable "IndicatorDiagram$Events" 4 ∈ lw_good := List.mem_filter.mpr ⟨List.mem_of_getElem? (i := 95) (by decide +kernel), by decide +kernel⟩
theorem w_96 : Cond.methodLink "IndicatorDiagram" 18 yX2_init ∈ lw_good := List.mem_filter.mpr ⟨List.mem_of_getElem? (i := 96) (by decide +kernel), by decide +kernel⟩
theorem w_97 : Cond.instanceMethod yX2_init ∈ lw_good := List.mem_filter.mpr ⟨List.mem_of_getElem? (i := 97) (by decide +kernel), by decide +kernel⟩
theorem w_98 : Cond.code yX2_init cX2_init 1 none ∈ lw_good := List.mem_filter.mpr ⟨List.mem_of_getElem? (i := 98) (by decide +kernel), by decide +kernel⟩
theorem w_99 : Cond.methodLink "IndicatorDiagram$Events" 3 objectInit ∈ lw_good := List.mem_filter.mpr ⟨List.mem_of_getElem? (i := 99) (by decide +kernel), by decide +kernel⟩
theorem w_100 : Cond.fieldLink "IndicatorDiagram$Events" 9 "IndicatorDiagram$Events" "admission" "I" ∈ lw_good := List.mem_filter.mpr ⟨List.mem_of_getElem? (i := 100) (by decide +kernel), by decide +kernel⟩
theorem w_101 : Cond.fieldLink "IndicatorDiagram" 95 "IndicatorDiagram$Events" "admission" "I" ∈ lw_good := List.mem_filter.mpr ⟨List.mem_of_getElem? (i := 101) (by decide +kernel), by decide +kernel⟩
theorem w_102 : Cond.fieldLink "IndicatorDiagram$Events" 15 "IndicatorDiagram$Events" "cutOff" "I" ∈ lw_good := List.mem_filter.mpr ⟨List.mem_of_getElem? (i := 102) (by decide +kernel), by decide +kernel⟩
theorem w_103 : Cond.fieldLink "IndicatorDiagram" 98 "IndicatorDiagram$Events" "cutOff" "I" ∈ lw_good := List.mem_filter.mpr ⟨List.mem_of_getElem? (i := 103) (by decide +kernel), by decide +kernel⟩
theorem w_104 : Cond.fieldLink "IndicatorDiagram$Events" 18 "IndicatorDiagram$Events" "release" "I" ∈ lw_good := List.mem_filter.mpr ⟨List.mem_of_getElem? (i := 104) (by decide +kernel), by decide +kernel⟩
theorem w_105 : Cond.fieldLink "IndicatorDiagram" 101 "IndicatorDiagram$Events" "release" "I" ∈ lw_good := List.mem_filter.mpr ⟨List.mem_of_getElem? (i := 105) (by decide +kernel), by decide +kernel⟩
theorem w_106 : Cond.fieldLink "IndicatorDiagram$Events" 21 "IndicatorDiagram$Events" "compression" "I" ∈ lw_good := List.mem_filter.mpr ⟨List.mem_of_getElem? (i := 106) (by decide +kernel), by decide +kernel⟩
theorem w_107 : Cond.fieldLink "IndicatorDiagram" 104 "IndicatorDiagram$Events" "compression" "I" ∈ lw_good := List.mem_filter.mpr ⟨List.mem_of_getElem? (i := 107) (by decide +kernel), by decide +kernel⟩
theorem w_108 : Cond.lays "IndicatorDiagram$Events" "IndicatorDiagram$Events" "admission" "I" ∈ lw_good := List.mem_filter.mpr ⟨List.mem_of_getElem? (i := 108) (by decide +kernel), by decide +kernel⟩
theorem w_110 : Cond.lays "IndicatorDiagram$Events" "IndicatorDiagram$Events" "cutOff" "I" ∈ lw_good := List.mem_filter.mpr ⟨List.mem_of_getElem? (i := 110) (by decide +kernel), by decide +kernel⟩
theorem w_112 : Cond.lays "IndicatorDiagram$Events" "IndicatorDiagram$Events" "release" "I" ∈ lw_good := List.mem_filter.mpr ⟨List.mem_of_getElem? (i := 112) (by decide +kernel), by decide +kernel⟩
theorem w_114 : Cond.lays "IndicatorDiagram$Events" "IndicatorDiagram$Events" "compression" "I" ∈ lw_good := List.mem_filter.mpr ⟨List.mem_of_getElem? (i := 114) (by decide +kernel), by decide +kernel⟩
theorem w_117 : Cond.classLink "IndicatorDiagram" 30 "IndicatorDiagram$State" ∈ lw_good := List.mem_filter.mpr ⟨List.mem_of_getElem? (i := 117) (by decide +kernel), by decide +kernel⟩
theorem w_118 : Cond.instantiable "IndicatorDiagram$State" 13 ∈ lw_good := List.mem_filter.mpr ⟨List.mem_of_getElem? (i := 118) (by decide +kernel), by decide +kernel⟩
theorem w_119 : Cond.methodLink "IndicatorDiagram" 32 yX3_init ∈ lw_good := List.mem_filter.mpr ⟨List.mem_of_getElem? (i := 119) (by decide +kernel), by decide +kernel⟩
theorem w_120 : Cond.instanceMethod yX3_init ∈ lw_good := List.mem_filter.mpr ⟨List.mem_of_getElem? (i := 120) (by decide +kernel), by decide +kernel⟩
theorem w_121 : Cond.code yX3_init cX3_init 3 none ∈ lw_good := List.mem_filter.mpr ⟨List.mem_of_getElem? (i := 121) (by decide +kernel), by decide +kernel⟩
theorem w_122 : Cond.methodLink "IndicatorDiagram$State" 3 objectInit ∈ lw_good := List.mem_filter.mpr ⟨List.mem_of_getElem? (i := 122) (by decide +kernel), by decide +kernel⟩
theorem w_123 : Cond.classLink "IndicatorDiagram$State" 36 "IndicatorDiagram$Events" ∈ lw_good := List.mem_filter.mpr ⟨List.mem_of_getElem? (i := 123) (by decide +kernel), by decide +kernel⟩
theorem w_124 : Cond.methodLink "IndicatorDiagram$State" 38 yX2_init ∈ lw_good := List.mem_filter.mpr ⟨List.mem_of_getElem? (i := 124) (by decide +kernel), by decide +kernel⟩
theorem w_125 : Cond.classLink "IndicatorDiagram$State" 46 "IndicatorDiagram$Draft" ∈ lw_good := List.mem_filter.mpr ⟨List.mem_of_getElem? (i := 125) (by decide +kernel), by decide +kernel⟩
theorem w_126 : Cond.instantiable "IndicatorDiagram$Draft" 5 ∈ lw_good := List.mem_filter.mpr ⟨List.mem_of_getElem? (i := 126) (by decide +kernel), by decide +kernel⟩
theorem w_127 : Cond.methodLink "IndicatorDiagram$State" 48 yX1_init ∈ lw_good := List.mem_filter.mpr ⟨List.mem_of_getElem? (i := 127) (by decide +kernel), by decide +kernel⟩
theorem w_128 : Cond.instanceMethod yX1_init ∈ lw_good := List.mem_filter.mpr ⟨List.mem_of_getElem? (i := 128) (by decide +kernel), by decide +kernel⟩
theorem w_129 : Cond.code yX1_init cX1_init 1 none ∈ lw_good := List.mem_filter.mpr ⟨List.mem_of_getElem? (i := 129) (by decide +kernel), by decide +kernel⟩
theorem w_130 : Cond.methodLink "IndicatorDiagram$Draft" 3 objectInit ∈ lw_good := List.mem_filter.mpr ⟨List.mem_of_getElem? (i := 130) (by decide +kernel), by decide +kernel⟩
theorem w_131 : Cond.fieldLink "IndicatorDiagram$Draft" 18 "IndicatorDiagram$Draft" "present" "Z" ∈ lw_good := List.mem_filter.mpr ⟨List.mem_of_getElem? (i := 131) (by decide +kernel), by decide +kernel⟩
theorem w_132 : Cond.fieldLink "IndicatorDiagram" 120 "IndicatorDiagram$Draft" "present" "Z" ∈ lw_good := List.mem_filter.mpr ⟨List.mem_of_getElem? (i := 132) (by decide +kernel), by decide +kernel⟩
theorem w_133 : Cond.fieldLink "IndicatorDiagram$Draft" 22 "IndicatorDiagram$Draft" "end" "I" ∈ lw_good := List.mem_filter.mpr ⟨List.mem_of_getElem? (i := 133) (by decide +kernel), by decide +kernel⟩
theorem w_134 : Cond.fieldLink "IndicatorDiagram" 155 "IndicatorDiagram$Draft" "end" "I" ∈ lw_good := List.mem_filter.mpr ⟨List.mem_of_getElem? (i := 134) (by decide +kernel), by decide +kernel⟩
theorem w_135 : Cond.fieldLink "IndicatorDiagram$Draft" 26 "IndicatorDiagram$Draft" "speed" "I" ∈ lw_good := List.mem_filter.mpr ⟨List.mem_of_getElem? (i := 135) (by decide +kernel), by decide +kernel⟩
theorem w_136 : Cond.fieldLink "IndicatorDiagram" 159 "IndicatorDiagram$Draft" "speed" "I" ∈ lw_good := List.mem_filter.mpr ⟨List.mem_of_getElem? (i := 136) (by decide +kernel), by decide +kernel⟩
theorem w_137 : Cond.fieldLink "IndicatorDiagram$Draft" 9 "IndicatorDiagram$Draft" "outward" "[I" ∈ lw_good := List.mem_filter.mpr ⟨List.mem_of_getElem? (i := 137) (by decide +kernel), by decide +kernel⟩
theorem w_138 : Cond.fieldLink "IndicatorDiagram" 145 "IndicatorDiagram$Draft" "outward" "[I" ∈ lw_good := List.mem_filter.mpr ⟨List.mem_of_getElem? (i := 138) (by decide +kernel), by decide +kernel⟩
theorem w_139 : Cond.fieldLink "IndicatorDiagram$Draft" 15 "IndicatorDiagram$Draft" "inward" "[I" ∈ lw_good := List.mem_filter.mpr ⟨List.mem_of_getElem? (i := 139) (by decide +kernel), by decide +kernel⟩
theorem w_140 : Cond.fieldLink "IndicatorDiagram" 148 "IndicatorDiagram$Draft" "inward" "[I" ∈ lw_good := List.mem_filter.mpr ⟨List.mem_of_getElem? (i := 140) (by decide +kernel), by decide +kernel⟩
theorem w_141 : Cond.lays "IndicatorDiagram$Draft" "IndicatorDiagram$Draft" "present" "Z" ∈ lw_good := List.mem_filter.mpr ⟨List.mem_of_getElem? (i := 141) (by decide +kernel), by decide +kernel⟩
theorem w_143 : Cond.lays "IndicatorDiagram$Draft" "IndicatorDiagram$Draft" "end" "I" ∈ lw_good := List.mem_filter.mpr ⟨List.mem_of_getElem? (i := 143) (by decide +kernel), by decide +kernel⟩
theorem w_145 : Cond.lays "IndicatorDiagram$Draft" "IndicatorDiagram$Draft" "speed" "I" ∈ lw_good := List.mem_filter.mpr ⟨List.mem_of_getElem? (i := 145) (by decide +kernel), by decide +kernel⟩
theorem w_147 : Cond.laysFinal "IndicatorDiagram$Draft" "IndicatorDiagram$Draft" "outward" "[I" ∈ lw_good := List.mem_filter.mpr ⟨List.mem_of_getElem? (i := 147) (by decide +kernel), by decide +kernel⟩
theorem w_149 : Cond.laysFinal "IndicatorDiagram$Draft" "IndicatorDiagram$Draft" "inward" "[I" ∈ lw_good := List.mem_filter.mpr ⟨List.mem_of_getElem? (i := 149) (by decide +kernel), by decide +kernel⟩
theorem w_152 : Cond.classLink "IndicatorDiagram$State" 53 "IndicatorDiagram$Card" ∈ lw_good := List.mem_filter.mpr ⟨List.mem_of_getElem? (i := 152) (by decide +kernel), by decide +kernel⟩
theorem w_153 : Cond.arrayOver (FieldType.object "IndicatorDiagram$Card") ∈ lw_tbl := List.mem_of_getElem? (i := 153) (by decide +kernel)
theorem w_154 : Cond.fieldLink "IndicatorDiagram$State" 9 "IndicatorDiagram$State" "clearance" "I" ∈ lw_good := List.mem_filter.mpr ⟨List.mem_of_getElem? (i := 154) (by decide +kernel), by decide +kernel⟩
theorem w_155 : Cond.fieldLink "IndicatorDiagram" 55 "IndicatorDiagram$State" "clearance" "I" ∈ lw_good := List.mem_filter.mpr ⟨List.mem_of_getElem? (i := 155) (by decide +kernel), by decide +kernel⟩
theorem w_156 : Cond.fieldLink "IndicatorDiagram$State" 15 "IndicatorDiagram$State" "headPistonArea" "I" ∈ lw_good := List.mem_filter.mpr ⟨List.mem_of_getElem? (i := 156) (by decide +kernel), by decide +kernel⟩
theorem w_157 : Cond.fieldLink "IndicatorDiagram" 66 "IndicatorDiagram$State" "headPistonArea" "I" ∈ lw_good := List.mem_filter.mpr ⟨List.mem_of_getElem? (i := 157) (by decide +kernel), by decide +kernel⟩
theorem w_158 : Cond.fieldLink "IndicatorDiagram$State" 18 "IndicatorDiagram$State" "crankPistonArea" "I" ∈ lw_good := List.mem_filter.mpr ⟨List.mem_of_getElem? (i := 158) (by decide +kernel), by decide +kernel⟩
theorem w_159 : Cond.fieldLink "IndicatorDiagram" 69 "IndicatorDiagram$State" "crankPistonArea" "I" ∈ lw_good := List.mem_filter.mpr ⟨List.mem_of_getElem? (i := 159) (by decide +kernel), by decide +kernel⟩
theorem w_160 : Cond.fieldLink "IndicatorDiagram$State" 21 "IndicatorDiagram$State" "strokeLength" "I" ∈ lw_good := List.mem_filter.mpr ⟨List.mem_of_getElem? (i := 160) (by decide +kernel), by decide +kernel⟩
theorem w_161 : Cond.fieldLink "IndicatorDiagram" 72 "IndicatorDiagram$State" "strokeLength" "I" ∈ lw_good := List.mem_filter.mpr ⟨List.mem_of_getElem? (i := 161) (by decide +kernel), by decide +kernel⟩
theorem w_162 : Cond.fieldLink "IndicatorDiagram$State" 24 "IndicatorDiagram$State" "boilerPressure" "I" ∈ lw_good := List.mem_filter.mpr ⟨List.mem_of_getElem? (i := 162) (by decide +kernel), by decide +kernel⟩
theorem w_163 : Cond.fieldLink "IndicatorDiagram" 75 "IndicatorDiagram$State" "boilerPressure" "I" ∈ lw_good := List.mem_filter.mpr ⟨List.mem_of_getElem? (i := 163) (by decide +kernel), by decide +kernel⟩
theorem w_164 : Cond.fieldLink "IndicatorDiagram$State" 27 "IndicatorDiagram$State" "backPressure" "I" ∈ lw_good := List.mem_filter.mpr ⟨List.mem_of_getElem? (i := 164) (by decide +kernel), by decide +kernel⟩
theorem w_165 : Cond.fieldLink "IndicatorDiagram" 78 "IndicatorDiagram$State" "backPressure" "I" ∈ lw_good := List.mem_filter.mpr ⟨List.mem_of_getElem? (i := 165) (by decide +kernel), by decide +kernel⟩
theorem w_166 : Cond.fieldLink "IndicatorDiagram$State" 30 "IndicatorDiagram$State" "band" "I" ∈ lw_good := List.mem_filter.mpr ⟨List.mem_of_getElem? (i := 166) (by decide +kernel), by decide +kernel⟩
theorem w_167 : Cond.fieldLink "IndicatorDiagram" 81 "IndicatorDiagram$State" "band" "I" ∈ lw_good := List.mem_filter.mpr ⟨List.mem_of_getElem? (i := 167) (by decide +kernel), by decide +kernel⟩
theorem w_168 : Cond.fieldLink "IndicatorDiagram$State" 33 "IndicatorDiagram$State" "tolerance" "I" ∈ lw_good := List.mem_filter.mpr ⟨List.mem_of_getElem? (i := 168) (by decide +kernel), by decide +kernel⟩
theorem w_169 : Cond.fieldLink "IndicatorDiagram" 84 "IndicatorDiagram$State" "tolerance" "I" ∈ lw_good := List.mem_filter.mpr ⟨List.mem_of_getElem? (i := 169) (by decide +kernel), by decide +kernel⟩
theorem w_170 : Cond.fieldLink "IndicatorDiagram$State" 39 "IndicatorDiagram$State" "headValves" "LIndicatorDiagram$Events;" ∈ lw_good := List.mem_filter.mpr ⟨List.mem_of_getElem? (i := 170) (by decide +kernel), by decide +kernel⟩
theorem w_171 : Cond.fieldLink "IndicatorDiagram" 277 "IndicatorDiagram$State" "headValves" "LIndicatorDiagram$Events;" ∈ lw_good := List.mem_filter.mpr ⟨List.mem_of_getElem? (i := 171) (by decide +kernel), by decide +kernel⟩
theorem w_172 : Cond.fieldLink "IndicatorDiagram$State" 43 "IndicatorDiagram$State" "crankValves" "LIndicatorDiagram$Events;" ∈ lw_good := List.mem_filter.mpr ⟨List.mem_of_getElem? (i := 172) (by decide +kernel), by decide +kernel⟩
theorem w_173 : Cond.fieldLink "IndicatorDiagram$State" 49 "IndicatorDiagram$State" "draft" "LIndicatorDiagram$Draft;" ∈ lw_good := List.mem_filter.mpr ⟨List.mem_of_getElem? (i := 173) (by decide +kernel), by decide +kernel⟩
theorem w_174 : Cond.fieldLink "IndicatorDiagram" 116 "IndicatorDiagram$State" "draft" "LIndicatorDiagram$Draft;" ∈ lw_good := List.mem_filter.mpr ⟨List.mem_of_getElem? (i := 174) (by decide +kernel), by decide +kernel⟩
theorem w_175 : Cond.fieldLink "IndicatorDiagram$State" 55 "IndicatorDiagram$State" "cards" "[LIndicatorDiagram$Card;" ∈ lw_good := List.mem_filter.mpr ⟨List.mem_of_getElem? (i := 175) (by decide +kernel), by decide +kernel⟩
theorem w_176 : Cond.fieldLink "IndicatorDiagram" 192 "IndicatorDiagram$State" "cards" "[LIndicatorDiagram$Card;" ∈ lw_good := List.mem_filter.mpr ⟨List.mem_of_getElem? (i := 176) (by decide +kernel), by decide +kernel⟩
theorem w_177 : Cond.fieldLink "IndicatorDiagram$State" 59 "IndicatorDiagram$State" "count" "I" ∈ lw_good := List.mem_filter.mpr ⟨List.mem_of_getElem? (i := 177) (by decide +kernel), by decide +kernel⟩
theorem w_178 : Cond.fieldLink "IndicatorDiagram" 151 "IndicatorDiagram$State" "count" "I" ∈ lw_good := List.mem_filter.mpr ⟨List.mem_of_getElem? (i := 178) (by decide +kernel), by decide +kernel⟩
theorem w_179 : Cond.lays "IndicatorDiagram$State" "IndicatorDiagram$State" "clearance" "I" ∈ lw_good := List.mem_filter.mpr ⟨List.mem_of_getElem? (i := 179) (by decide +kernel), by decide +kernel⟩
theorem w_181 : Cond.lays "IndicatorDiagram$State" "IndicatorDiagram$State" "headPistonArea" "I" ∈ lw_good := List.mem_filter.mpr ⟨List.mem_of_getElem? (i := 181) (by decide +kernel), by decide +kernel⟩
theorem w_183 : Cond.lays "IndicatorDiagram$State" "IndicatorDiagram$State" "crankPistonArea" "I" ∈ lw_good := List.mem_filter.mpr ⟨List.mem_of_getElem? (i := 183) (by decide +kernel), by decide +kernel⟩
theorem w_185 : Cond.lays "IndicatorDiagram$State" "IndicatorDiagram$State" "strokeLength" "I" ∈ lw_good := List.mem_filter.mpr ⟨List.mem_of_getElem? (i := 185) (by decide +kernel), by decide +kernel⟩
theorem w_187 : Cond.lays "IndicatorDiagram$State" "IndicatorDiagram$State" "boilerPressure" "I" ∈ lw_good := List.mem_filter.mpr ⟨List.mem_of_getElem? (i := 187) (by decide +kernel), by decide +kernel⟩
theorem w_189 : Cond.lays "IndicatorDiagram$State" "IndicatorDiagram$State" "backPressure" "I" ∈ lw_good := List.mem_filter.mpr ⟨List.mem_of_getElem? (i := 189) (by decide +kernel), by decide +kernel⟩
theorem w_191 : Cond.lays "IndicatorDiagram$State" "IndicatorDiagram$State" "band" "I" ∈ lw_good := List.mem_filter.mpr ⟨List.mem_of_getElem? (i := 191) (by decide +kernel), by decide +kernel⟩
theorem w_193 : Cond.lays "IndicatorDiagram$State" "IndicatorDiagram$State" "tolerance" "I" ∈ lw_good := List.mem_filter.mpr ⟨List.mem_of_getElem? (i := 193) (by decide +kernel), by decide +kernel⟩
theorem w_195 : Cond.laysFinal "IndicatorDiagram$State" "IndicatorDiagram$State" "headValves" "LIndicatorDiagram$Events;" ∈ lw_good := List.mem_filter.mpr ⟨List.mem_of_getElem? (i := 195) (by decide +kernel), by decide +kernel⟩
theorem w_197 : Cond.laysFinal "IndicatorDiagram$State" "IndicatorDiagram$State" "crankValves" "LIndicatorDiagram$Events;" ∈ lw_good := List.mem_filter.mpr ⟨List.mem_of_getElem? (i := 197) (by decide +kernel), by decide +kernel⟩
theorem w_199 : Cond.laysFinal "IndicatorDiagram$State" "IndicatorDiagram$State" "draft" "LIndicatorDiagram$Draft;" ∈ lw_good := List.mem_filter.mpr ⟨List.mem_of_getElem? (i := 199) (by decide +kernel), by decide +kernel⟩
theorem w_201 : Cond.laysFinal "IndicatorDiagram$State" "IndicatorDiagram$State" "cards" "[LIndicatorDiagram$Card;" ∈ lw_good := List.mem_filter.mpr ⟨List.mem_of_getElem? (i := 201) (by decide +kernel), by decide +kernel⟩
theorem w_203 : Cond.lays "IndicatorDiagram$State" "IndicatorDiagram$State" "count" "I" ∈ lw_good := List.mem_filter.mpr ⟨List.mem_of_getElem? (i := 203) (by decide +kernel), by decide +kernel⟩
theorem w_206 : Cond.arrayOver (FieldType.object "IndicatorDiagram$State") ∈ lw_tbl := List.mem_of_getElem? (i := 206) (by decide +kernel)
theorem w_207 : Cond.fieldLink "IndicatorDiagram" 35 "IndicatorDiagram" "now" "LIndicatorDiagram$State;" ∈ lw_good := List.mem_filter.mpr ⟨List.mem_of_getElem? (i := 207) (by decide +kernel), by decide +kernel⟩
theorem w_208 : Cond.fieldLink "IndicatorDiagram" 39 "IndicatorDiagram" "history" "[LIndicatorDiagram$State;" ∈ lw_good := List.mem_filter.mpr ⟨List.mem_of_getElem? (i := 208) (by decide +kernel), by decide +kernel⟩
theorem w_209 : Cond.fieldLink "IndicatorDiagram" 43 "IndicatorDiagram" "states" "I" ∈ lw_good := List.mem_filter.mpr ⟨List.mem_of_getElem? (i := 209) (by decide +kernel), by decide +kernel⟩
theorem w_210 : Cond.fieldLink "IndicatorDiagram" 10 "IndicatorDiagram" "trial" "LIndicatorDiagram$Card;" ∈ lw_good := List.mem_filter.mpr ⟨List.mem_of_getElem? (i := 210) (by decide +kernel), by decide +kernel⟩
theorem w_211 : Cond.fieldLink "IndicatorDiagram" 19 "IndicatorDiagram" "trialEvents" "LIndicatorDiagram$Events;" ∈ lw_good := List.mem_filter.mpr ⟨List.mem_of_getElem? (i := 211) (by decide +kernel), by decide +kernel⟩
theorem w_212 : Cond.fieldLink "IndicatorDiagram" 23 "IndicatorDiagram" "found" "LIndicatorDiagram$Events;" ∈ lw_good := List.mem_filter.mpr ⟨List.mem_of_getElem? (i := 212) (by decide +kernel), by decide +kernel⟩
theorem w_213 : Cond.fieldLink "IndicatorDiagram" 26 "IndicatorDiagram" "sortedAreas" "[I" ∈ lw_good := List.mem_filter.mpr ⟨List.mem_of_getElem? (i := 213) (by decide +kernel), by decide +kernel⟩
theorem w_214 : Cond.laysFinal "IndicatorDiagram" "IndicatorDiagram" "now" "LIndicatorDiagram$State;" ∈ lw_good := List.mem_filter.mpr ⟨List.mem_of_getElem? (i := 214) (by decide +kernel), by decide +kernel⟩
theorem w_216 : Cond.laysFinal "IndicatorDiagram" "IndicatorDiagram" "history" "[LIndicatorDiagram$State;" ∈ lw_good := List.mem_filter.mpr ⟨List.mem_of_getElem? (i := 216) (by decide +kernel), by decide +kernel⟩
theorem w_218 : Cond.lays "IndicatorDiagram" "IndicatorDiagram" "states" "I" ∈ lw_good := List.mem_filter.mpr ⟨List.mem_of_getElem? (i := 218) (by decide +kernel), by decide +kernel⟩
theorem w_220 : Cond.laysFinal "IndicatorDiagram" "IndicatorDiagram" "trial" "LIndicatorDiagram$Card;" ∈ lw_good := List.mem_filter.mpr ⟨List.mem_of_getElem? (i := 220) (by decide +kernel), by decide +kernel⟩
theorem w_222 : Cond.laysFinal "IndicatorDiagram" "IndicatorDiagram" "trialEvents" "LIndicatorDiagram$Events;" ∈ lw_good := List.mem_filter.mpr ⟨List.mem_of_getElem? (i := 222) (by decide +kernel), by decide +kernel⟩
theorem w_224 : Cond.laysFinal "IndicatorDiagram" "IndicatorDiagram" "found" "LIndicatorDiagram$Events;" ∈ lw_good := List.mem_filter.mpr ⟨List.mem_of_getElem? (i := 224) (by decide +kernel), by decide +kernel⟩
theorem w_226 : Cond.laysFinal "IndicatorDiagram" "IndicatorDiagram" "sortedAreas" "[I" ∈ lw_good := List.mem_filter.mpr ⟨List.mem_of_getElem? (i := 226) (by decide +kernel), by decide +kernel⟩
theorem w_229 : Cond.methodLink "IndicatorDiagramLaw" 13 yX4_setClearance ∈ lw_good := List.mem_filter.mpr ⟨List.mem_of_getElem? (i := 229) (by decide +kernel), by decide +kernel⟩
theorem w_230 : Cond.instanceMethod yX4_setClearance ∈ lw_good := List.mem_filter.mpr ⟨List.mem_of_getElem? (i := 230) (by decide +kernel), by decide +kernel⟩
theorem w_231 : Cond.selects "IndicatorDiagram" yX4_setClearance yX4_setClearance ∈ lw_good := List.mem_filter.mpr ⟨List.mem_of_getElem? (i := 231) (by decide +kernel), by decide +kernel⟩
theorem w_232 : Cond.code yX4_setClearance cX4_setClearance 3 (some FieldType.int) ∈ lw_good := List.mem_filter.mpr ⟨List.mem_of_getElem? (i := 232) (by decide +kernel), by decide +kernel⟩
theorem w_233 : Cond.methodLink "IndicatorDiagram" 47 yX4_isWithin ∈ lw_good := List.mem_filter.mpr ⟨List.mem_of_getElem? (i := 233) (by decide +kernel), by decide +kernel⟩
theorem w_234 : Cond.static yX4_isWithin ∈ lw_good := List.mem_filter.mpr ⟨List.mem_of_getElem? (i := 234) (by decide +kernel), by decide +kernel⟩
theorem w_235 : Cond.code yX4_isWithin cX4_isWithin 3 (some FieldType.boolean) ∈ lw_good := List.mem_filter.mpr ⟨List.mem_of_getElem? (i := 235) (by decide +kernel), by decide +kernel⟩
theorem w_236 : Cond.constant "IndicatorDiagram" 51 (-2000000001) ∈ lw_good := List.mem_filter.mpr ⟨List.mem_of_getElem? (i := 236) (by decide +kernel), by decide +kernel⟩
theorem w_237 : Cond.methodLink "IndicatorDiagram" 52 yX4_recordState ∈ lw_good := List.mem_filter.mpr ⟨List.mem_of_getElem? (i := 237) (by decide +kernel), by decide +kernel⟩
theorem w_239 : Cond.instanceMethod yX4_recordState ∈ lw_good := List.mem_filter.mpr ⟨List.mem_of_getElem? (i := 239) (by decide +kernel), by decide +kernel⟩
theorem w_240 : Cond.code yX4_recordState cX4_recordState 1 none ∈ lw_good := List.mem_filter.mpr ⟨List.mem_of_getElem? (i := 240) (by decide +kernel), by decide +kernel⟩
theorem w_241 : Cond.methodLink "IndicatorDiagram" 288 yX4_dropOldestState ∈ lw_good := List.mem_filter.mpr ⟨List.mem_of_getElem? (i := 241) (by decide +kernel), by decide +kernel⟩
theorem w_243 : Cond.instanceMethod yX4_dropOldestState ∈ lw_good := List.mem_filter.mpr ⟨List.mem_of_getElem? (i := 243) (by decide +kernel), by decide +kernel⟩
theorem w_244 : Cond.code yX4_dropOldestState cX4_dropOldestState 3 none ∈ lw_good := List.mem_filter.mpr ⟨List.mem_of_getElem? (i := 244) (by decide +kernel), by decide +kernel⟩
theorem w_245 : Cond.methodLink "IndicatorDiagram" 284 yX3_copyFrom ∈ lw_good := List.mem_filter.mpr ⟨List.mem_of_getElem? (i := 245) (by decide +kernel), by decide +kernel⟩
theorem w_246 : Cond.instanceMethod yX3_copyFrom ∈ lw_good := List.mem_filter.mpr ⟨List.mem_of_getElem? (i := 246) (by decide +kernel), by decide +kernel⟩
theorem w_247 : Cond.selects "IndicatorDiagram$State" yX3_copyFrom yX3_copyFrom ∈ lw_good := List.mem_filter.mpr ⟨List.mem_of_getElem? (i := 247) (by decide +kernel), by decide +kernel⟩
theorem w_248 : Cond.code yX3_copyFrom cX3_copyFrom 3 none ∈ lw_good := List.mem_filter.mpr ⟨List.mem_of_getElem? (i := 248) (by decide +kernel), by decide +kernel⟩
theorem w_249 : Cond.methodLink "IndicatorDiagram$State" 62 yX2_copyShifted ∈ lw_good := List.mem_filter.mpr ⟨List.mem_of_getElem? (i := 249) (by decide +kernel), by decide +kernel⟩
theorem w_250 : Cond.instanceMethod yX2_copyShifted ∈ lw_good := List.mem_filter.mpr ⟨List.mem_of_getElem? (i := 250) (by decide +kernel), by decide +kernel⟩
theorem w_251 : Cond.selects "IndicatorDiagram$Events" yX2_copyShifted yX2_copyShifted ∈ lw_good := List.mem_filter.mpr ⟨List.mem_of_getElem? (i := 251) (by decide +kernel), by decide +kernel⟩
theorem w_252 : Cond.code yX2_copyShifted cX2_copyShifted 3 none ∈ lw_good := List.mem_filter.mpr ⟨List.mem_of_getElem? (i := 252) (by decide +kernel), by decide +kernel⟩
theorem w_253 : Cond.methodLink "IndicatorDiagram$State" 66 yX1_copyFrom ∈ lw_good := List.mem_filter.mpr ⟨List.mem_of_getElem? (i := 253) (by decide +kernel), by decide +kernel⟩
theorem w_254 : Cond.instanceMethod yX1_copyFrom ∈ lw_good := List.mem_filter.mpr ⟨List.mem_of_getElem? (i := 254) (by decide +kernel), by decide +kernel⟩
theorem w_255 : Cond.selects "IndicatorDiagram$Draft" yX1_copyFrom yX1_copyFrom ∈ lw_good := List.mem_filter.mpr ⟨List.mem_of_getElem? (i := 255) (by decide +kernel), by decide +kernel⟩
theorem w_256 : Cond.code yX1_copyFrom cX1_copyFrom 2 none ∈ lw_good := List.mem_filter.mpr ⟨List.mem_of_getElem? (i := 256) (by decide +kernel), by decide +kernel⟩
theorem w_257 : Cond.methodLink "IndicatorDiagram$Draft" 29 arraycopyName ∈ lw_good := List.mem_filter.mpr ⟨List.mem_of_getElem? (i := 257) (by decide +kernel), by decide +kernel⟩
theorem w_258 : Cond.static arraycopyName ∈ lw_good := List.mem_filter.mpr ⟨List.mem_of_getElem? (i := 258) (by decide +kernel), by decide +kernel⟩
theorem w_259 : Cond.native arraycopyName ∈ lw_good := List.mem_filter.mpr ⟨List.mem_of_getElem? (i := 259) (by decide +kernel), by decide +kernel⟩
theorem w_260 : Cond.methodLink "IndicatorDiagramLaw" 18 yX4_setPistonArea ∈ lw_good := List.mem_filter.mpr ⟨List.mem_of_getElem? (i := 260) (by decide +kernel), by decide +kernel⟩
theorem w_261 : Cond.instanceMethod yX4_setPistonArea ∈ lw_good := List.mem_filter.mpr ⟨List.mem_of_getElem? (i := 261) (by decide +kernel), by decide +kernel⟩
theorem w_262 : Cond.selects "IndicatorDiagram" yX4_setPistonArea yX4_setPistonArea ∈ lw_good := List.mem_filter.mpr ⟨List.mem_of_getElem? (i := 262) (by decide +kernel), by decide +kernel⟩
theorem w_263 : Cond.code yX4_setPistonArea cX4_setPistonArea 4 (some FieldType.int) ∈ lw_good := List.mem_filter.mpr ⟨List.mem_of_getElem? (i := 263) (by decide +kernel), by decide +kernel⟩
theorem w_264 : Cond.methodLink "IndicatorDiagram" 58 yX4_isEnd ∈ lw_good := List.mem_filter.mpr ⟨List.mem_of_getElem? (i := 264) (by decide +kernel), by decide +kernel⟩
theorem w_265 : Cond.static yX4_isEnd ∈ lw_good := List.mem_filter.mpr ⟨List.mem_of_getElem? (i := 265) (by decide +kernel), by decide +kernel⟩
theorem w_266 : Cond.code yX4_isEnd cX4_isEnd 1 (some FieldType.boolean) ∈ lw_good := List.mem_filter.mpr ⟨List.mem_of_getElem? (i := 266) (by decide +kernel), by decide +kernel⟩
theorem w_267 : Cond.methodLink "IndicatorDiagram" 62 yX3_pistonAreaOf ∈ lw_good := List.mem_filter.mpr ⟨List.mem_of_getElem? (i := 267) (by decide +kernel), by decide +kernel⟩
theorem w_268 : Cond.instanceMethod yX3_pistonAreaOf ∈ lw_good := List.mem_filter.mpr ⟨List.mem_of_getElem? (i := 268) (by decide +kernel), by decide +kernel⟩
theorem w_269 : Cond.selects "IndicatorDiagram$State" yX3_pistonAreaOf yX3_pistonAreaOf ∈ lw_good := List.mem_filter.mpr ⟨List.mem_of_getElem? (i := 269) (by decide +kernel), by decide +kernel⟩
theorem w_270 : Cond.code yX3_pistonAreaOf cX3_pistonAreaOf 2 (some FieldType.int) ∈ lw_good := List.mem_filter.mpr ⟨List.mem_of_getElem? (i := 270) (by decide +kernel), by decide +kernel⟩
theorem w_271 : Cond.methodLink "IndicatorDiagramLaw" 23 yX4_setStroke ∈ lw_good := List.mem_filter.mpr ⟨List.mem_of_getElem? (i := 271) (by decide +kernel), by decide +kernel⟩
theorem w_272 : Cond.instanceMethod yX4_setStroke ∈ lw_good := List.mem_filter.mpr ⟨List.mem_of_getElem? (i := 272) (by decide +kernel), by decide +kernel⟩
theorem w_273 : Cond.selects "IndicatorDiagram" yX4_setStroke yX4_setStroke ∈ lw_good := List.mem_filter.mpr ⟨List.mem_of_getElem? (i := 273) (by decide +kernel), by decide +kernel⟩
theorem w_274 : Cond.code yX4_setStroke cX4_setStroke 3 (some FieldType.int) ∈ lw_good := List.mem_filter.mpr ⟨List.mem_of_getElem? (i := 274) (by decide +kernel), by decide +kernel⟩
theorem w_275 : Cond.methodLink "IndicatorDiagramLaw" 27 yX4_setBoilerPressure ∈ lw_good := List.mem_filter.mpr ⟨List.mem_of_getElem? (i := 275) (by decide +kernel), by decide +kernel⟩
theorem w_276 : Cond.instanceMethod yX4_setBoilerPressure ∈ lw_good := List.mem_filter.mpr ⟨List.mem_of_getElem? (i := 276) (by decide +kernel), by decide +kernel⟩
theorem w_277 : Cond.selects "IndicatorDiagram" yX4_setBoilerPressure yX4_setBoilerPressure ∈ lw_good := List.mem_filter.mpr ⟨List.mem_of_getElem? (i := 277) (by decide +kernel), by decide +kernel⟩
theorem w_278 : Cond.code yX4_setBoilerPressure cX4_setBoilerPressure 3 (some FieldType.int) ∈ lw_good := List.mem_filter.mpr ⟨List.mem_of_getElem? (i := 278) (by decide +kernel), by decide +kernel⟩
theorem w_279 : Cond.methodLink "IndicatorDiagramLaw" 31 yX4_setBackPressure ∈ lw_good := List.mem_filter.mpr ⟨List.mem_of_getElem? (i := 279) (by decide +kernel), by decide +kernel⟩
theorem w_280 : Cond.instanceMethod yX4_setBackPressure ∈ lw_good := List.mem_filter.mpr ⟨List.mem_of_getElem? (i := 280) (by decide +kernel), by decide +kernel⟩
theorem w_281 : Cond.selects "IndicatorDiagram" yX4_setBackPressure yX4_setBackPressure ∈ lw_good := List.mem_filter.mpr ⟨List.mem_of_getElem? (i := 281) (by decide +kernel), by decide +kernel⟩
theorem w_282 : Cond.code yX4_setBackPressure cX4_setBackPressure 3 (some FieldType.int) ∈ lw_good := List.mem_filter.mpr ⟨List.mem_of_getElem? (i := 282) (by decide +kernel), by decide +kernel⟩
theorem w_283 : Cond.methodLink "IndicatorDiagramLaw" 35 yX4_setFinding ∈ lw_good := List.mem_filter.mpr ⟨List.mem_of_getElem? (i := 283) (by decide +kernel), by decide +kernel⟩
theorem w_284 : Cond.instanceMethod yX4_setFinding ∈ lw_good := List.mem_filter.mpr ⟨List.mem_of_getElem? (i := 284) (by decide +kernel), by decide +kernel⟩
theorem w_285 : Cond.selects "IndicatorDiagram" yX4_setFinding yX4_setFinding ∈ lw_good := List.mem_filter.mpr ⟨List.mem_of_getElem? (i := 285) (by decide +kernel), by decide +kernel⟩
theorem w_286 : Cond.code yX4_setFinding cX4_setFinding 4 (some FieldType.int) ∈ lw_good := List.mem_filter.mpr ⟨List.mem_of_getElem? (i := 286) (by decide +kernel), by decide +kernel⟩
theorem w_287 : Cond.methodLink "IndicatorDiagramLaw" 39 yX4_setValves ∈ lw_good := List.mem_filter.mpr ⟨List.mem_of_getElem? (i := 287) (by decide +kernel), by decide +kernel⟩
theorem w_288 : Cond.instanceMethod yX4_setValves ∈ lw_good := List.mem_filter.mpr ⟨List.mem_of_getElem? (i := 288) (by decide +kernel), by decide +kernel⟩
theorem w_289 : Cond.selects "IndicatorDiagram" yX4_setValves yX4_setValves ∈ lw_good := List.mem_filter.mpr ⟨List.mem_of_getElem? (i := 289) (by decide +kernel), by decide +kernel⟩
theorem w_290 : Cond.code yX4_setValves cX4_setValves 7 (some FieldType.int) ∈ lw_good := List.mem_filter.mpr ⟨List.mem_of_getElem? (i := 290) (by decide +kernel), by decide +kernel⟩
theorem w_291 : Cond.methodLink "IndicatorDiagram" 87 yX4_areValves ∈ lw_good := List.mem_filter.mpr ⟨List.mem_of_getElem? (i := 291) (by decide +kernel), by decide +kernel⟩
theorem w_292 : Cond.static yX4_areValves ∈ lw_good := List.mem_filter.mpr ⟨List.mem_of_getElem? (i := 292) (by decide +kernel), by decide +kernel⟩
theorem w_293 : Cond.code yX4_areValves cX4_areValves 4 (some FieldType.boolean) ∈ lw_good := List.mem_filter.mpr ⟨List.mem_of_getElem? (i := 293) (by decide +kernel), by decide +kernel⟩
theorem w_294 : Cond.methodLink "IndicatorDiagram" 91 yX3_valvesOf ∈ lw_good := List.mem_filter.mpr ⟨List.mem_of_getElem? (i := 294) (by decide +kernel), by decide +kernel⟩
theorem w_295 : Cond.instanceMethod yX3_valvesOf ∈ lw_good := List.mem_filter.mpr ⟨List.mem_of_getElem? (i := 295) (by decide +kernel), by decide +kernel⟩
theorem w_296 : Cond.selects "IndicatorDiagram$State" yX3_valvesOf yX3_valvesOf ∈ lw_good := List.mem_filter.mpr ⟨List.mem_of_getElem? (i := 296) (by decide +kernel), by decide +kernel⟩
theorem w_297 : Cond.code yX3_valvesOf cX3_valvesOf 2 (some (FieldType.object "IndicatorDiagram$Events")) ∈ lw_good := List.mem_filter.mpr ⟨List.mem_of_getElem? (i := 297) (by decide +kernel), by decide +kernel⟩
theorem w_298 : Cond.methodLink "IndicatorDiagramLaw" 44 yX4_valve ∈ lw_good := List.mem_filter.mpr ⟨List.mem_of_getElem? (i := 298) (by decide +kernel), by decide +kernel⟩
theorem w_299 : Cond.instanceMethod yX4_valve ∈ lw_good := List.mem_filter.mpr ⟨List.mem_of_getElem? (i := 299) (by decide +kernel), by decide +kernel⟩
theorem w_300 : Cond.selects "IndicatorDiagram" yX4_valve yX4_valve ∈ lw_good := List.mem_filter.mpr ⟨List.mem_of_getElem? (i := 300) (by decide +kernel), by decide +kernel⟩
theorem w_301 : Cond.code yX4_valve cX4_valve 3 (some FieldType.int) ∈ lw_good := List.mem_filter.mpr ⟨List.mem_of_getElem? (i := 301) (by decide +kernel), by decide +kernel⟩
theorem w_302 : Cond.methodLink "IndicatorDiagram" 107 yX4_isEvent ∈ lw_good := List.mem_filter.mpr ⟨List.mem_of_getElem? (i := 302) (by decide +kernel), by decide +kernel⟩
theorem w_303 : Cond.static yX4_isEvent ∈ lw_good := List.mem_filter.mpr ⟨List.mem_of_getElem? (i := 303) (by decide +kernel), by decide +kernel⟩
theorem w_304 : Cond.code yX4_isEvent cX4_isEvent 1 (some FieldType.boolean) ∈ lw_good := List.mem_filter.mpr ⟨List.mem_of_getElem? (i := 304) (by decide +kernel), by decide +kernel⟩
theorem w_305 : Cond.methodLink "IndicatorDiagram" 110 yX2_stationOf ∈ lw_good := List.mem_filter.mpr ⟨List.mem_of_getElem? (i := 305) (by decide +kernel), by decide +kernel⟩
theorem w_306 : Cond.instanceMethod yX2_stationOf ∈ lw_good := List.mem_filter.mpr ⟨List.mem_of_getElem? (i := 306) (by decide +kernel), by decide +kernel⟩
theorem w_307 : Cond.selects "IndicatorDiagram$Events" yX2_stationOf yX2_stationOf ∈ lw_good := List.mem_filter.mpr ⟨List.mem_of_getElem? (i := 307) (by decide +kernel), by decide +kernel⟩
theorem w_308 : Cond.code yX2_stationOf cX2_stationOf 2 (some FieldType.int) ∈ lw_good := List.mem_filter.mpr ⟨List.mem_of_getElem? (i := 308) (by decide +kernel), by decide +kernel⟩
theorem w_309 : Cond.methodLink "IndicatorDiagramLaw" 48 yX4_beginCard ∈ lw_good := List.mem_filter.mpr ⟨List.mem_of_getElem? (i := 309) (by decide +kernel), by decide +kernel⟩
theorem w_310 : Cond.instanceMethod yX4_beginCard ∈ lw_good := List.mem_filter.mpr ⟨List.mem_of_getElem? (i := 310) (by decide +kernel), by decide +kernel⟩
theorem w_311 : Cond.selects "IndicatorDiagram" yX4_beginCard yX4_beginCard ∈ lw_good := List.mem_filter.mpr ⟨List.mem_of_getElem? (i := 311) (by decide +kernel), by decide +kernel⟩
theorem w_312 : Cond.code yX4_beginCard cX4_beginCard 4 (some FieldType.int) ∈ lw_good := List.mem_filter.mpr ⟨List.mem_of_getElem? (i := 312) (by decide +kernel), by decide +kernel⟩
theorem w_313 : Cond.methodLink "IndicatorDiagram" 113 yX4_isSpeed ∈ lw_good := List.mem_filter.mpr ⟨List.mem_of_getElem? (i := 313) (by decide +kernel), by decide +kernel⟩
theorem w_314 : Cond.static yX4_isSpeed ∈ lw_good := List.mem_filter.mpr ⟨List.mem_of_getElem? (i := 314) (by decide +kernel), by decide +kernel⟩
theorem w_315 : Cond.code yX4_isSpeed cX4_isSpeed 1 (some FieldType.boolean) ∈ lw_good := List.mem_filter.mpr ⟨List.mem_of_getElem? (i := 315) (by decide +kernel), by decide +kernel⟩
theorem w_316 : Cond.methodLink "IndicatorDiagram" 126 yX1_begin ∈ lw_good := List.mem_filter.mpr ⟨List.mem_of_getElem? (i := 316) (by decide +kernel), by decide +kernel⟩
theorem w_317 : Cond.instanceMethod yX1_begin ∈ lw_good := List.mem_filter.mpr ⟨List.mem_of_getElem? (i := 317) (by decide +kernel), by decide +kernel⟩
theorem w_318 : Cond.selects "IndicatorDiagram$Draft" yX1_begin yX1_begin ∈ lw_good := List.mem_filter.mpr ⟨List.mem_of_getElem? (i := 318) (by decide +kernel), by decide +kernel⟩
theorem w_319 : Cond.code yX1_begin cX1_begin 4 none ∈ lw_good := List.mem_filter.mpr ⟨List.mem_of_getElem? (i := 319) (by decide +kernel), by decide +kernel⟩
theorem w_320 : Cond.methodLink "IndicatorDiagramLaw" 52 yX4_setPoint ∈ lw_good := List.mem_filter.mpr ⟨List.mem_of_getElem? (i := 320) (by decide +kernel), by decide +kernel⟩
theorem w_321 : Cond.instanceMethod yX4_setPoint ∈ lw_good := List.mem_filter.mpr ⟨List.mem_of_getElem? (i := 321) (by decide +kernel), by decide +kernel⟩
theorem w_322 : Cond.selects "IndicatorDiagram" yX4_setPoint yX4_setPoint ∈ lw_good := List.mem_filter.mpr ⟨List.mem_of_getElem? (i := 322) (by decide +kernel), by decide +kernel⟩
theorem w_323 : Cond.code yX4_setPoint cX4_setPoint 5 (some FieldType.int) ∈ lw_good := List.mem_filter.mpr ⟨List.mem_of_getElem? (i := 323) (by decide +kernel), by decide +kernel⟩
theorem w_324 : Cond.methodLink "IndicatorDiagram" 130 yX4_isStroke ∈ lw_good := List.mem_filter.mpr ⟨List.mem_of_getElem? (i := 324) (by decide +kernel), by decide +kernel⟩
theorem w_325 : Cond.static yX4_isStroke ∈ lw_good := List.mem_filter.mpr ⟨List.mem_of_getElem? (i := 325) (by decide +kernel), by decide +kernel⟩
theorem w_326 : Cond.code yX4_isStroke cX4_isStroke 1 (some FieldType.boolean) ∈ lw_good := List.mem_filter.mpr ⟨List.mem_of_getElem? (i := 326) (by decide +kernel), by decide +kernel⟩
theorem w_327 : Cond.methodLink "IndicatorDiagram" 133 yX4_isStation ∈ lw_good := List.mem_filter.mpr ⟨List.mem_of_getElem? (i := 327) (by decide +kernel), by decide +kernel⟩
theorem w_328 : Cond.static yX4_isStation ∈ lw_good := List.mem_filter.mpr ⟨List.mem_of_getElem? (i := 328) (by decide +kernel), by decide +kernel⟩
theorem w_329 : Cond.code yX4_isStation cX4_isStation 1 (some FieldType.boolean) ∈ lw_good := List.mem_filter.mpr ⟨List.mem_of_getElem? (i := 329) (by decide +kernel), by decide +kernel⟩
theorem w_330 : Cond.constant "IndicatorDiagram" 136 (-2000000002) ∈ lw_good := List.mem_filter.mpr ⟨List.mem_of_getElem? (i := 330) (by decide +kernel), by decide +kernel⟩
theorem w_331 : Cond.methodLink "IndicatorDiagram" 137 yX1_pointsOf ∈ lw_good := List.mem_filter.mpr ⟨List.mem_of_getElem? (i := 331) (by decide +kernel), by decide +kernel⟩
theorem w_332 : Cond.instanceMethod yX1_pointsOf ∈ lw_good := List.mem_filter.mpr ⟨List.mem_of_getElem? (i := 332) (by decide +kernel), by decide +kernel⟩
theorem w_333 : Cond.selects "IndicatorDiagram$Draft" yX1_pointsOf yX1_pointsOf ∈ lw_good := List.mem_filter.mpr ⟨List.mem_of_getElem? (i := 333) (by decide +kernel), by decide +kernel⟩
theorem w_334 : Cond.code yX1_pointsOf cX1_pointsOf 2 (some (FieldType.array FieldType.int)) ∈ lw_good := List.mem_filter.mpr ⟨List.mem_of_getElem? (i := 334) (by decide +kernel), by decide +kernel⟩
theorem w_335 : Cond.methodLink "IndicatorDiagram" 141 yX4_countPoints ∈ lw_good := List.mem_filter.mpr ⟨List.mem_of_getElem? (i := 335) (by decide +kernel), by decide +kernel⟩
theorem w_336 : Cond.static yX4_countPoints ∈ lw_good := List.mem_filter.mpr ⟨List.mem_of_getElem? (i := 336) (by decide +kernel), by decide +kernel⟩
theorem w_337 : Cond.code yX4_countPoints cX4_countPoints 3 (some FieldType.int) ∈ lw_good := List.mem_filter.mpr ⟨List.mem_of_getElem? (i := 337) (by decide +kernel), by decide +kernel⟩
theorem w_338 : Cond.methodLink "IndicatorDiagramLaw" 57 yX4_finishCard ∈ lw_good := List.mem_filter.mpr ⟨List.mem_of_getElem? (i := 338) (by decide +kernel), by decide +kernel⟩
theorem w_339 : Cond.instanceMethod yX4_finishCard ∈ lw_good := List.mem_filter.mpr ⟨List.mem_of_getElem? (i := 339) (by decide +kernel), by decide +kernel⟩
theorem w_340 : Cond.selects "IndicatorDiagram" yX4_finishCard yX4_finishCard ∈ lw_good := List.mem_filter.mpr ⟨List.mem_of_getElem? (i := 340) (by decide +kernel), by decide +kernel⟩
theorem w_341 : Cond.code yX4_finishCard cX4_finishCard 3 (some FieldType.int) ∈ lw_good := List.mem_filter.mpr ⟨List.mem_of_getElem? (i := 341) (by decide +kernel), by decide +kernel⟩
theorem w_342 : Cond.constant "IndicatorDiagram" 154 (-2000000003) ∈ lw_good := List.mem_filter.mpr ⟨List.mem_of_getElem? (i := 342) (by decide +kernel), by decide +kernel⟩
theorem w_343 : Cond.methodLink "IndicatorDiagram" 164 yX4_drawThroughPoints ∈ lw_good := List.mem_filter.mpr ⟨List.mem_of_getElem? (i := 343) (by decide +kernel), by decide +kernel⟩
theorem w_344 : Cond.static yX4_drawThroughPoints ∈ lw_good := List.mem_filter.mpr ⟨List.mem_of_getElem? (i := 344) (by decide +kernel), by decide +kernel⟩
theorem w_345 : Cond.code yX4_drawThroughPoints cX4_drawThroughPoints 6 none ∈ lw_good := List.mem_filter.mpr ⟨List.mem_of_getElem? (i := 345) (by decide +kernel), by decide +kernel⟩
theorem w_346 : Cond.methodLink "IndicatorDiagram" 296 yX4_pointUpTo ∈ lw_good := List.mem_filter.mpr ⟨List.mem_of_getElem? (i := 346) (by decide +kernel), by decide +kernel⟩
theorem w_347 : Cond.static yX4_pointUpTo ∈ lw_good := List.mem_filter.mpr ⟨List.mem_of_getElem? (i := 347) (by decide +kernel), by decide +kernel⟩
theorem w_348 : Cond.code yX4_pointUpTo cX4_pointUpTo 3 (some FieldType.int) ∈ lw_good := List.mem_filter.mpr ⟨List.mem_of_getElem? (i := 348) (by decide +kernel), by decide +kernel⟩
theorem w_349 : Cond.methodLink "IndicatorDiagram" 300 yX4_pointFrom ∈ lw_good := List.mem_filter.mpr ⟨List.mem_of_getElem? (i := 349) (by decide +kernel), by decide +kernel⟩
theorem w_350 : Cond.static yX4_pointFrom ∈ lw_good := List.mem_filter.mpr ⟨List.mem_of_getElem? (i := 350) (by decide +kernel), by decide +kernel⟩
theorem w_351 : Cond.code yX4_pointFrom cX4_pointFrom 3 (some FieldType.int) ∈ lw_good := List.mem_filter.mpr ⟨List.mem_of_getElem? (i := 351) (by decide +kernel), by decide +kernel⟩
theorem w_352 : Cond.methodLink "IndicatorDiagram" 212 yX4_quotient ∈ lw_good := List.mem_filter.mpr ⟨List.mem_of_getElem? (i := 352) (by decide +kernel), by decide +kernel⟩
theorem w_353 : Cond.static yX4_quotient ∈ lw_good := List.mem_filter.mpr ⟨List.mem_of_getElem? (i := 353) (by decide +kernel), by decide +kernel⟩
theorem w_354 : Cond.code yX4_quotient cX4_quotient 2 (some FieldType.int) ∈ lw_good := List.mem_filter.mpr ⟨List.mem_of_getElem? (i := 354) (by decide +kernel), by decide +kernel⟩
theorem w_355 : Cond.methodLink "IndicatorDiagram" 291 yJ9_floorDiv_7cf53 ∈ lw_good := List.mem_filter.mpr ⟨List.mem_of_getElem? (i := 355) (by decide +kernel), by decide +kernel⟩
theorem w_356 : Cond.static yJ9_floorDiv_7cf53 ∈ lw_good := List.mem_filter.mpr ⟨List.mem_of_getElem? (i := 356) (by decide +kernel), by decide +kernel⟩
theorem w_357 : Cond.code yJ9_floorDiv_7cf53 cJ9_floorDiv_7cf53 3 (some FieldType.int) ∈ lw_good := List.mem_filter.mpr ⟨List.mem_of_getElem? (i := 357) (by decide +kernel), by decide +kernel⟩
theorem w_358 : Cond.methodLink "IndicatorDiagram" 169 yX4_addCard ∈ lw_good := List.mem_filter.mpr ⟨List.mem_of_getElem? (i := 358) (by decide +kernel), by decide +kernel⟩
theorem w_360 : Cond.instanceMethod yX4_addCard ∈ lw_good := List.mem_filter.mpr ⟨List.mem_of_getElem? (i := 360) (by decide +kernel), by decide +kernel⟩
theorem w_361 : Cond.code yX4_addCard cX4_addCard 3 (some FieldType.int) ∈ lw_good := List.mem_filter.mpr ⟨List.mem_of_getElem? (i := 361) (by decide +kernel), by decide +kernel⟩
theorem w_362 : Cond.methodLink "IndicatorDiagramLaw" 62 yX4_addIdealCard ∈ lw_good := List.mem_filter.mpr ⟨List.mem_of_getElem? (i := 362) (by decide +kernel), by decide +kernel⟩
theorem w_363 : Cond.instanceMethod yX4_addIdealCard ∈ lw_good := List.mem_filter.mpr ⟨List.mem_of_getElem? (i := 363) (by decide +kernel), by decide +kernel⟩
theorem w_364 : Cond.selects "IndicatorDiagram" yX4_addIdealCard yX4_addIdealCard ∈ lw_good := List.mem_filter.mpr ⟨List.mem_of_getElem? (i := 364) (by decide +kernel), by decide +kernel⟩
theorem w_365 : Cond.code yX4_addIdealCard cX4_addIdealCard 6 (some FieldType.int) ∈ lw_good := List.mem_filter.mpr ⟨List.mem_of_getElem? (i := 365) (by decide +kernel), by decide +kernel⟩
theorem w_366 : Cond.methodLink "IndicatorDiagram" 173 yX2_copyShifted ∈ lw_good := List.mem_filter.mpr ⟨List.mem_of_getElem? (i := 366) (by decide +kernel), by decide +kernel⟩
theorem w_367 : Cond.methodLink "IndicatorDiagram" 177 yX2_existAsIdealCard ∈ lw_good := List.mem_filter.mpr ⟨List.mem_of_getElem? (i := 367) (by decide +kernel), by decide +kernel⟩
theorem w_368 : Cond.instanceMethod yX2_existAsIdealCard ∈ lw_good := List.mem_filter.mpr ⟨List.mem_of_getElem? (i := 368) (by decide +kernel), by decide +kernel⟩
theorem w_369 : Cond.selects "IndicatorDiagram$Events" yX2_existAsIdealCard yX2_existAsIdealCard ∈ lw_good := List.mem_filter.mpr ⟨List.mem_of_getElem? (i := 369) (by decide +kernel), by decide +kernel⟩
theorem w_370 : Cond.code yX2_existAsIdealCard cX2_existAsIdealCard 1 (some FieldType.boolean) ∈ lw_good := List.mem_filter.mpr ⟨List.mem_of_getElem? (i := 370) (by decide +kernel), by decide +kernel⟩
theorem w_371 : Cond.methodLinkNest "IndicatorDiagram$Events" 24 yX4_isWithin "IndicatorDiagram" ∈ lw_tbl := List.mem_of_getElem? (i := 371) (by decide +kernel)
theorem w_372 : Cond.methodLink "IndicatorDiagram" 181 yX4_drawIdealCard ∈ lw_good := List.mem_filter.mpr ⟨List.mem_of_getElem? (i := 372) (by decide +kernel), by decide +kernel⟩
theorem w_374 : Cond.instanceMethod yX4_drawIdealCard ∈ lw_good := List.mem_filter.mpr ⟨List.mem_of_getElem? (i := 374) (by decide +kernel), by decide +kernel⟩
theorem w_375 : Cond.code yX4_drawIdealCard cX4_drawIdealCard 4 none ∈ lw_good := List.mem_filter.mpr ⟨List.mem_of_getElem? (i := 375) (by decide +kernel), by decide +kernel⟩
theorem w_376 : Cond.methodLink "IndicatorDiagram" 303 yX4_drawIdealOutward ∈ lw_good := List.mem_filter.mpr ⟨List.mem_of_getElem? (i := 376) (by decide +kernel), by decide +kernel⟩
theorem w_378 : Cond.instanceMethod yX4_drawIdealOutward ∈ lw_good := List.mem_filter.mpr ⟨List.mem_of_getElem? (i := 378) (by decide +kernel), by decide +kernel⟩
theorem w_379 : Cond.code yX4_drawIdealOutward cX4_drawIdealOutward 10 none ∈ lw_good := List.mem_filter.mpr ⟨List.mem_of_getElem? (i := 379) (by decide +kernel), by decide +kernel⟩
theorem w_380 : Cond.methodLink "IndicatorDiagram" 311 yX3_volumeAt ∈ lw_good := List.mem_filter.mpr ⟨List.mem_of_getElem? (i := 380) (by decide +kernel), by decide +kernel⟩
theorem w_381 : Cond.instanceMethod yX3_volumeAt ∈ lw_good := List.mem_filter.mpr ⟨List.mem_of_getElem? (i := 381) (by decide +kernel), by decide +kernel⟩
theorem w_382 : Cond.selects "IndicatorDiagram$State" yX3_volumeAt yX3_volumeAt ∈ lw_good := List.mem_filter.mpr ⟨List.mem_of_getElem? (i := 382) (by decide +kernel), by decide +kernel⟩
theorem w_383 : Cond.code yX3_volumeAt cX3_volumeAt 2 (some FieldType.int) ∈ lw_good := List.mem_filter.mpr ⟨List.mem_of_getElem? (i := 383) (by decide +kernel), by decide +kernel⟩
theorem w_384 : Cond.methodLink "IndicatorDiagram" 307 yX4_drawIdealReturn ∈ lw_good := List.mem_filter.mpr ⟨List.mem_of_getElem? (i := 384) (by decide +kernel), by decide +kernel⟩
theorem w_386 : Cond.instanceMethod yX4_drawIdealReturn ∈ lw_good := List.mem_filter.mpr ⟨List.mem_of_getElem? (i := 386) (by decide +kernel), by decide +kernel⟩
theorem w_387 : Cond.code yX4_drawIdealReturn cX4_drawIdealReturn 7 none ∈ lw_good := List.mem_filter.mpr ⟨List.mem_of_getElem? (i := 387) (by decide +kernel), by decide +kernel⟩
theorem w_388 : Cond.methodLink "IndicatorDiagramLaw" 67 yX4_removeCard ∈ lw_good := List.mem_filter.mpr ⟨List.mem_of_getElem? (i := 388) (by decide +kernel), by decide +kernel⟩
theorem w_389 : Cond.instanceMethod yX4_removeCard ∈ lw_good := List.mem_filter.mpr ⟨List.mem_of_getElem? (i := 389) (by decide +kernel), by decide +kernel⟩
theorem w_390 : Cond.selects "IndicatorDiagram" yX4_removeCard yX4_removeCard ∈ lw_good := List.mem_filter.mpr ⟨List.mem_of_getElem? (i := 390) (by decide +kernel), by decide +kernel⟩
theorem w_391 : Cond.code yX4_removeCard cX4_removeCard 2 (some FieldType.int) ∈ lw_good := List.mem_filter.mpr ⟨List.mem_of_getElem? (i := 391) (by decide +kernel), by decide +kernel⟩
theorem w_392 : Cond.methodLink "IndicatorDiagram" 185 yX4_isCard ∈ lw_good := List.mem_filter.mpr ⟨List.mem_of_getElem? (i := 392) (by decide +kernel), by decide +kernel⟩
theorem w_394 : Cond.instanceMethod yX4_isCard ∈ lw_good := List.mem_filter.mpr ⟨List.mem_of_getElem? (i := 394) (by decide +kernel), by decide +kernel⟩
theorem w_395 : Cond.code yX4_isCard cX4_isCard 2 (some FieldType.boolean) ∈ lw_good := List.mem_filter.mpr ⟨List.mem_of_getElem? (i := 395) (by decide +kernel), by decide +kernel⟩
theorem w_396 : Cond.methodLink "IndicatorDiagram" 188 yX3_dropCard ∈ lw_good := List.mem_filter.mpr ⟨List.mem_of_getElem? (i := 396) (by decide +kernel), by decide +kernel⟩
theorem w_397 : Cond.instanceMethod yX3_dropCard ∈ lw_good := List.mem_filter.mpr ⟨List.mem_of_getElem? (i := 397) (by decide +kernel), by decide +kernel⟩
theorem w_398 : Cond.selects "IndicatorDiagram$State" yX3_dropCard yX3_dropCard ∈ lw_good := List.mem_filter.mpr ⟨List.mem_of_getElem? (i := 398) (by decide +kernel), by decide +kernel⟩
theorem w_399 : Cond.code yX3_dropCard cX3_dropCard 3 none ∈ lw_good := List.mem_filter.mpr ⟨List.mem_of_getElem? (i := 399) (by decide +kernel), by decide +kernel⟩
theorem w_400 : Cond.methodLink "IndicatorDiagramLaw" 71 yX4_cardCount ∈ lw_good := List.mem_filter.mpr ⟨List.mem_of_getElem? (i := 400) (by decide +kernel), by decide +kernel⟩
theorem w_401 : Cond.instanceMethod yX4_cardCount ∈ lw_good := List.mem_filter.mpr ⟨List.mem_of_getElem? (i := 401) (by decide +kernel), by decide +kernel⟩
theorem w_402 : Cond.selects "IndicatorDiagram" yX4_cardCount yX4_cardCount ∈ lw_good := List.mem_filter.mpr ⟨List.mem_of_getElem? (i := 402) (by decide +kernel), by decide +kernel⟩
theorem w_403 : Cond.code yX4_cardCount cX4_cardCount 1 (some FieldType.int) ∈ lw_good := List.mem_filter.mpr ⟨List.mem_of_getElem? (i := 403) (by decide +kernel), by decide +kernel⟩
theorem w_404 : Cond.methodLink "IndicatorDiagramLaw" 75 yX4_end ∈ lw_good := List.mem_filter.mpr ⟨List.mem_of_getElem? (i := 404) (by decide +kernel), by decide +kernel⟩
theorem w_405 : Cond.instanceMethod yX4_end ∈ lw_good := List.mem_filter.mpr ⟨List.mem_of_getElem? (i := 405) (by decide +kernel), by decide +kernel⟩
theorem w_406 : Cond.selects "IndicatorDiagram" yX4_end yX4_end ∈ lw_good := List.mem_filter.mpr ⟨List.mem_of_getElem? (i := 406) (by decide +kernel), by decide +kernel⟩
theorem w_407 : Cond.code yX4_end cX4_end 2 (some FieldType.int) ∈ lw_good := List.mem_filter.mpr ⟨List.mem_of_getElem? (i := 407) (by decide +kernel), by decide +kernel⟩
theorem w_408 : Cond.methodLink "IndicatorDiagramLaw" 79 yX4_speed ∈ lw_good := List.mem_filter.mpr ⟨List.mem_of_getElem? (i := 408) (by decide +kernel), by decide +kernel⟩
theorem w_409 : Cond.instanceMethod yX4_speed ∈ lw_good := List.mem_filter.mpr ⟨List.mem_of_getElem? (i := 409) (by decide +kernel), by decide +kernel⟩
theorem w_410 : Cond.selects "IndicatorDiagram" yX4_speed yX4_speed ∈ lw_good := List.mem_filter.mpr ⟨List.mem_of_getElem? (i := 410) (by decide +kernel), by decide +kernel⟩
theorem w_411 : Cond.code yX4_speed cX4_speed 2 (some FieldType.int) ∈ lw_good := List.mem_filter.mpr ⟨List.mem_of_getElem? (i := 411) (by decide +kernel), by decide +kernel⟩
theorem w_412 : Cond.methodLink "IndicatorDiagramLaw" 83 yX4_pressure ∈ lw_good := List.mem_filter.mpr ⟨List.mem_of_getElem? (i := 412) (by decide +kernel), by decide +kernel⟩
theorem w_413 : Cond.instanceMethod yX4_pressure ∈ lw_good := List.mem_filter.mpr ⟨List.mem_of_getElem? (i := 413) (by decide +kernel), by decide +kernel⟩
theorem w_414 : Cond.selects "IndicatorDiagram" yX4_pressure yX4_pressure ∈ lw_good := List.mem_filter.mpr ⟨List.mem_of_getElem? (i := 414) (by decide +kernel), by decide +kernel⟩
theorem w_415 : Cond.code yX4_pressure cX4_pressure 4 (some FieldType.int) ∈ lw_good := List.mem_filter.mpr ⟨List.mem_of_getElem? (i := 415) (by decide +kernel), by decide +kernel⟩
theorem w_416 : Cond.methodLink "IndicatorDiagram" 196 yX0_pressuresOf ∈ lw_good := List.mem_filter.mpr ⟨List.mem_of_getElem? (i := 416) (by decide +kernel), by decide +kernel⟩
theorem w_417 : Cond.instanceMethod yX0_pressuresOf ∈ lw_good := List.mem_filter.mpr ⟨List.mem_of_getElem? (i := 417) (by decide +kernel), by decide +kernel⟩
theorem w_418 : Cond.selects "IndicatorDiagram$Card" yX0_pressuresOf yX0_pressuresOf ∈ lw_good := List.mem_filter.mpr ⟨List.mem_of_getElem? (i := 418) (by decide +kernel), by decide +kernel⟩
theorem w_419 : Cond.code yX0_pressuresOf cX0_pressuresOf 2 (some (FieldType.array FieldType.int)) ∈ lw_good := List.mem_filter.mpr ⟨List.mem_of_getElem? (i := 419) (by decide +kernel), by decide +kernel⟩
theorem w_420 : Cond.methodLink "IndicatorDiagramLaw" 87 yX4_area ∈ lw_good := List.mem_filter.mpr ⟨List.mem_of_getElem? (i := 420) (by decide +kernel), by decide +kernel⟩
theorem w_421 : Cond.instanceMethod yX4_area ∈ lw_good := List.mem_filter.mpr ⟨List.mem_of_getElem? (i := 421) (by decide +kernel), by decide +kernel⟩
theorem w_422 : Cond.selects "IndicatorDiagram" yX4_area yX4_area ∈ lw_good := List.mem_filter.mpr ⟨List.mem_of_getElem? (i := 422) (by decide +kernel), by decide +kernel⟩
theorem w_423 : Cond.code yX4_area cX4_area 2 (some FieldType.int) ∈ lw_good := List.mem_filter.mpr ⟨List.mem_of_getElem? (i := 423) (by decide +kernel), by decide +kernel⟩
theorem w_424 : Cond.methodLink "IndicatorDiagram" 199 yX0_wholeArea ∈ lw_good := List.mem_filter.mpr ⟨List.mem_of_getElem? (i := 424) (by decide +kernel), by decide +kernel⟩
theorem w_425 : Cond.instanceMethod yX0_wholeArea ∈ lw_good := List.mem_filter.mpr ⟨List.mem_of_getElem? (i := 425) (by decide +kernel), by decide +kernel⟩
theorem w_426 : Cond.selects "IndicatorDiagram$Card" yX0_wholeArea yX0_wholeArea ∈ lw_good := List.mem_filter.mpr ⟨List.mem_of_getElem? (i := 426) (by decide +kernel), by decide +kernel⟩
theorem w_427 : Cond.code yX0_wholeArea cX0_wholeArea 3 (some FieldType.int) ∈ lw_good := List.mem_filter.mpr ⟨List.mem_of_getElem? (i := 427) (by decide +kernel), by decide +kernel⟩
theorem w_428 : Cond.methodLink "IndicatorDiagram$Card" 18 yX0_differenceAt ∈ lw_good := List.mem_filter.mpr ⟨List.mem_of_getElem? (i := 428) (by decide +kernel), by decide +kernel⟩
theorem w_429 : Cond.instanceMethod yX0_differenceAt ∈ lw_good := List.mem_filter.mpr ⟨List.mem_of_getElem? (i := 429) (by decide +kernel), by decide +kernel⟩
theorem w_430 : Cond.selects "IndicatorDiagram$Card" yX0_differenceAt yX0_differenceAt ∈ lw_good := List.mem_filter.mpr ⟨List.mem_of_getElem? (i := 430) (by decide +kernel), by decide +kernel⟩
theorem w_431 : Cond.code yX0_differenceAt cX0_differenceAt 2 (some FieldType.int) ∈ lw_good := List.mem_filter.mpr ⟨List.mem_of_getElem? (i := 431) (by decide +kernel), by decide +kernel⟩
theorem w_432 : Cond.methodLink "IndicatorDiagramLaw" 91 yX4_forwardArea ∈ lw_good := List.mem_filter.mpr ⟨List.mem_of_getElem? (i := 432) (by decide +kernel), by decide +kernel⟩
theorem w_433 : Cond.instanceMethod yX4_forwardArea ∈ lw_good := List.mem_filter.mpr ⟨List.mem_of_getElem? (i := 433) (by decide +kernel), by decide +kernel⟩
theorem w_434 : Cond.selects "IndicatorDiagram" yX4_forwardArea yX4_forwardArea ∈ lw_good := List.mem_filter.mpr ⟨List.mem_of_getElem? (i := 434) (by decide +kernel), by decide +kernel⟩
theorem w_435 : Cond.code yX4_forwardArea cX4_forwardArea 2 (some FieldType.int) ∈ lw_good := List.mem_filter.mpr ⟨List.mem_of_getElem? (i := 435) (by decide +kernel), by decide +kernel⟩
theorem w_436 : Cond.methodLink "IndicatorDiagram" 203 yX0_sumOfForwardAreas ∈ lw_good := List.mem_filter.mpr ⟨List.mem_of_getElem? (i := 436) (by decide +kernel), by decide +kernel⟩
theorem w_437 : Cond.instanceMethod yX0_sumOfForwardAreas ∈ lw_good := List.mem_filter.mpr ⟨List.mem_of_getElem? (i := 437) (by decide +kernel), by decide +kernel⟩
theorem w_438 : Cond.selects "IndicatorDiagram$Card" yX0_sumOfForwardAreas yX0_sumOfForwardAreas ∈ lw_good := List.mem_filter.mpr ⟨List.mem_of_getElem? (i := 438) (by decide +kernel), by decide +kernel⟩
theorem w_439 : Cond.code yX0_sumOfForwardAreas cX0_sumOfForwardAreas 3 (some FieldType.int) ∈ lw_good := List.mem_filter.mpr ⟨List.mem_of_getElem? (i := 439) (by decide +kernel), by decide +kernel⟩
theorem w_440 : Cond.methodLink "IndicatorDiagram$Card" 22 yX0_partAboveZero ∈ lw_good := List.mem_filter.mpr ⟨List.mem_of_getElem? (i := 440) (by decide +kernel), by decide +kernel⟩
theorem w_441 : Cond.static yX0_partAboveZero ∈ lw_good := List.mem_filter.mpr ⟨List.mem_of_getElem? (i := 441) (by decide +kernel), by decide +kernel⟩
theorem w_442 : Cond.code yX0_partAboveZero cX0_partAboveZero 4 (some FieldType.int) ∈ lw_good := List.mem_filter.mpr ⟨List.mem_of_getElem? (i := 442) (by decide +kernel), by decide +kernel⟩
theorem w_443 : Cond.methodLink "IndicatorDiagram$Card" 26 yJ9_max_7cf53 ∈ lw_good := List.mem_filter.mpr ⟨List.mem_of_getElem? (i := 443) (by decide +kernel), by decide +kernel⟩
theorem w_444 : Cond.static yJ9_max_7cf53 ∈ lw_good := List.mem_filter.mpr ⟨List.mem_of_getElem? (i := 444) (by decide +kernel), by decide +kernel⟩
theorem w_445 : Cond.code yJ9_max_7cf53 cJ9_max_7cf53 2 (some FieldType.int) ∈ lw_good := List.mem_filter.mpr ⟨List.mem_of_getElem? (i := 445) (by decide +kernel), by decide +kernel⟩
theorem w_446 : Cond.methodLink "IndicatorDiagram$Card" 31 yJ9_min_7cf53 ∈ lw_good := List.mem_filter.mpr ⟨List.mem_of_getElem? (i := 446) (by decide +kernel), by decide +kernel⟩
theorem w_447 : Cond.static yJ9_min_7cf53 ∈ lw_good := List.mem_filter.mpr ⟨List.mem_of_getElem? (i := 447) (by decide +kernel), by decide +kernel⟩
theorem w_448 : Cond.code yJ9_min_7cf53 cJ9_min_7cf53 2 (some FieldType.int) ∈ lw_good := List.mem_filter.mpr ⟨List.mem_of_getElem? (i := 448) (by decide +kernel), by decide +kernel⟩
theorem w_449 : Cond.methodLinkNest "IndicatorDiagram$Card" 34 yX4_quotient "IndicatorDiagram" ∈ lw_tbl := List.mem_of_getElem? (i := 449) (by decide +kernel)
theorem w_450 : Cond.methodLink "IndicatorDiagramLaw" 95 yX4_loopArea ∈ lw_good := List.mem_filter.mpr ⟨List.mem_of_getElem? (i := 450) (by decide +kernel), by decide +kernel⟩
theorem w_451 : Cond.instanceMethod yX4_loopArea ∈ lw_good := List.mem_filter.mpr ⟨List.mem_of_getElem? (i := 451) (by decide +kernel), by decide +kernel⟩
theorem w_452 : Cond.selects "IndicatorDiagram" yX4_loopArea yX4_loopArea ∈ lw_good := List.mem_filter.mpr ⟨List.mem_of_getElem? (i := 452) (by decide +kernel), by decide +kernel⟩
theorem w_453 : Cond.code yX4_loopArea cX4_loopArea 2 (some FieldType.int) ∈ lw_good := List.mem_filter.mpr ⟨List.mem_of_getElem? (i := 453) (by decide +kernel), by decide +kernel⟩
theorem w_454 : Cond.methodLink "IndicatorDiagram" 206 yX0_sumOfLoopAreas ∈ lw_good := List.mem_filter.mpr ⟨List.mem_of_getElem? (i := 454) (by decide +kernel), by decide +kernel⟩
theorem w_455 : Cond.instanceMethod yX0_sumOfLoopAreas ∈ lw_good := List.mem_filter.mpr ⟨List.mem_of_getElem? (i := 455) (by decide +kernel), by decide +kernel⟩
theorem w_456 : Cond.selects "IndicatorDiagram$Card" yX0_sumOfLoopAreas yX0_sumOfLoopAreas ∈ lw_good := List.mem_filter.mpr ⟨List.mem_of_getElem? (i := 456) (by decide +kernel), by decide +kernel⟩
theorem w_457 : Cond.code yX0_sumOfLoopAreas cX0_sumOfLoopAreas 3 (some FieldType.int) ∈ lw_good := List.mem_filter.mpr ⟨List.mem_of_getElem? (i := 457) (by decide +kernel), by decide +kernel⟩
theorem w_458 : Cond.methodLink "IndicatorDiagramLaw" 99 yX4_loopStations ∈ lw_good := List.mem_filter.mpr ⟨List.mem_of_getElem? (i := 458) (by decide +kernel), by decide +kernel⟩
theorem w_459 : Cond.instanceMethod yX4_loopStations ∈ lw_good := List.mem_filter.mpr ⟨List.mem_of_getElem? (i := 459) (by decide +kernel), by decide +kernel⟩
theorem w_460 : Cond.selects "IndicatorDiagram" yX4_loopStations yX4_loopStations ∈ lw_good := List.mem_filter.mpr ⟨List.mem_of_getElem? (i := 460) (by decide +kernel), by decide +kernel⟩
theorem w_461 : Cond.code yX4_loopStations cX4_loopStations 2 (some FieldType.int) ∈ lw_good := List.mem_filter.mpr ⟨List.mem_of_getElem? (i := 461) (by decide +kernel), by decide +kernel⟩
theorem w_462 : Cond.methodLink "IndicatorDiagram" 209 yX0_stationsBelowZero ∈ lw_good := List.mem_filter.mpr ⟨List.mem_of_getElem? (i := 462) (by decide +kernel), by decide +kernel⟩
theorem w_463 : Cond.instanceMethod yX0_stationsBelowZero ∈ lw_good := List.mem_filter.mpr ⟨List.mem_of_getElem? (i := 463) (by decide +kernel), by decide +kernel⟩
theorem w_464 : Cond.selects "IndicatorDiagram$Card" yX0_stationsBelowZero yX0_stationsBelowZero ∈ lw_good := List.mem_filter.mpr ⟨List.mem_of_getElem? (i := 464) (by decide +kernel), by decide +kernel⟩
theorem w_465 : Cond.code yX0_stationsBelowZero cX0_stationsBelowZero 3 (some FieldType.int) ∈ lw_good := List.mem_filter.mpr ⟨List.mem_of_getElem? (i := 465) (by decide +kernel), by decide +kernel⟩
theorem w_466 : Cond.methodLink "IndicatorDiagramLaw" 103 yX4_meanPressure ∈ lw_good := List.mem_filter.mpr ⟨List.mem_of_getElem? (i := 466) (by decide +kernel), by decide +kernel⟩
theorem w_467 : Cond.instanceMethod yX4_meanPressure ∈ lw_good := List.mem_filter.mpr ⟨List.mem_of_getElem? (i := 467) (by decide +kernel), by decide +kernel⟩
theorem w_468 : Cond.selects "IndicatorDiagram" yX4_meanPressure yX4_meanPressure ∈ lw_good := List.mem_filter.mpr ⟨List.mem_of_getElem? (i := 468) (by decide +kernel), by decide +kernel⟩
theorem w_469 : Cond.code yX4_meanPressure cX4_meanPressure 2 (some FieldType.int) ∈ lw_good := List.mem_filter.mpr ⟨List.mem_of_getElem? (i := 469) (by decide +kernel), by decide +kernel⟩
theorem w_470 : Cond.methodLink "IndicatorDiagramLaw" 107 yX4_power ∈ lw_good := List.mem_filter.mpr ⟨List.mem_of_getElem? (i := 470) (by decide +kernel), by decide +kernel⟩
theorem w_471 : Cond.instanceMethod yX4_power ∈ lw_good := List.mem_filter.mpr ⟨List.mem_of_getElem? (i := 471) (by decide +kernel), by decide +kernel⟩
theorem w_472 : Cond.selects "IndicatorDiagram" yX4_power yX4_power ∈ lw_good := List.mem_filter.mpr ⟨List.mem_of_getElem? (i := 472) (by decide +kernel), by decide +kernel⟩
theorem w_473 : Cond.code yX4_power cX4_power 2 (some FieldType.long) ∈ lw_good := List.mem_filter.mpr ⟨List.mem_of_getElem? (i := 473) (by decide +kernel), by decide +kernel⟩
theorem w_474 : Cond.methodLink "IndicatorDiagram" 216 yX4_powerOfCard ∈ lw_good := List.mem_filter.mpr ⟨List.mem_of_getElem? (i := 474) (by decide +kernel), by decide +kernel⟩
theorem w_476 : Cond.instanceMethod yX4_powerOfCard ∈ lw_good := List.mem_filter.mpr ⟨List.mem_of_getElem? (i := 476) (by decide +kernel), by decide +kernel⟩
theorem w_477 : Cond.code yX4_powerOfCard cX4_powerOfCard 2 (some FieldType.long) ∈ lw_good := List.mem_filter.mpr ⟨List.mem_of_getElem? (i := 477) (by decide +kernel), by decide +kernel⟩
theorem w_478 : Cond.methodLink "IndicatorDiagram" 318 yX4_powerFrom ∈ lw_good := List.mem_filter.mpr ⟨List.mem_of_getElem? (i := 478) (by decide +kernel), by decide +kernel⟩
theorem w_480 : Cond.instanceMethod yX4_powerFrom ∈ lw_good := List.mem_filter.mpr ⟨List.mem_of_getElem? (i := 480) (by decide +kernel), by decide +kernel⟩
theorem w_481 : Cond.code yX4_powerFrom cX4_powerFrom 6 (some FieldType.long) ∈ lw_good := List.mem_filter.mpr ⟨List.mem_of_getElem? (i := 481) (by decide +kernel), by decide +kernel⟩
theorem w_482 : Cond.constantLong "IndicatorDiagram" 322 2400000 ∈ lw_good := List.mem_filter.mpr ⟨List.mem_of_getElem? (i := 482) (by decide +kernel), by decide +kernel⟩
theorem w_483 : Cond.methodLink "IndicatorDiagram" 257 yX4_longQuotient ∈ lw_good := List.mem_filter.mpr ⟨List.mem_of_getElem? (i := 483) (by decide +kernel), by decide +kernel⟩
theorem w_484 : Cond.static yX4_longQuotient ∈ lw_good := List.mem_filter.mpr ⟨List.mem_of_getElem? (i := 484) (by decide +kernel), by decide +kernel⟩
theorem w_485 : Cond.code yX4_longQuotient cX4_longQuotient 4 (some FieldType.long) ∈ lw_good := List.mem_filter.mpr ⟨List.mem_of_getElem? (i := 485) (by decide +kernel), by decide +kernel⟩
theorem w_486 : Cond.methodLink "IndicatorDiagram" 294 yJ9_floorDiv_f86c9 ∈ lw_good := List.mem_filter.mpr ⟨List.mem_of_getElem? (i := 486) (by decide +kernel), by decide +kernel⟩
theorem w_487 : Cond.static yJ9_floorDiv_f86c9 ∈ lw_good := List.mem_filter.mpr ⟨List.mem_of_getElem? (i := 487) (by decide +kernel), by decide +kernel⟩
theorem w_488 : Cond.code yJ9_floorDiv_f86c9 cJ9_floorDiv_f86c9 6 (some FieldType.long) ∈ lw_good := List.mem_filter.mpr ⟨List.mem_of_getElem? (i := 488) (by decide +kernel), by decide +kernel⟩
theorem w_489 : Cond.constantLong "IndicatorDiagram" 220 (-2000000001) ∈ lw_good := List.mem_filter.mpr ⟨List.mem_of_getElem? (i := 489) (by decide +kernel), by decide +kernel⟩
theorem w_490 : Cond.methodLink "IndicatorDiagramLaw" 112 yX4_event ∈ lw_good := List.mem_filter.mpr ⟨List.mem_of_getElem? (i := 490) (by decide +kernel), by decide +kernel⟩
theorem w_491 : Cond.instanceMethod yX4_event ∈ lw_good := List.mem_filter.mpr ⟨List.mem_of_getElem? (i := 491) (by decide +kernel), by decide +kernel⟩
theorem w_492 : Cond.selects "IndicatorDiagram" yX4_event yX4_event ∈ lw_good := List.mem_filter.mpr ⟨List.mem_of_getElem? (i := 492) (by decide +kernel), by decide +kernel⟩
theorem w_493 : Cond.code yX4_event cX4_event 3 (some FieldType.int) ∈ lw_good := List.mem_filter.mpr ⟨List.mem_of_getElem? (i := 493) (by decide +kernel), by decide +kernel⟩
theorem w_494 : Cond.methodLink "IndicatorDiagram" 222 yX4_findEvents ∈ lw_good := List.mem_filter.mpr ⟨List.mem_of_getElem? (i := 494) (by decide +kernel), by decide +kernel⟩
theorem w_496 : Cond.instanceMethod yX4_findEvents ∈ lw_good := List.mem_filter.mpr ⟨List.mem_of_getElem? (i := 496) (by decide +kernel), by decide +kernel⟩
theorem w_497 : Cond.code yX4_findEvents cX4_findEvents 2 none ∈ lw_good := List.mem_filter.mpr ⟨List.mem_of_getElem? (i := 497) (by decide +kernel), by decide +kernel⟩
theorem w_498 : Cond.methodLink "IndicatorDiagram" 324 yX4_findAdmission ∈ lw_good := List.mem_filter.mpr ⟨List.mem_of_getElem? (i := 498) (by decide +kernel), by decide +kernel⟩
theorem w_500 : Cond.instanceMethod yX4_findAdmission ∈ lw_good := List.mem_filter.mpr ⟨List.mem_of_getElem? (i := 500) (by decide +kernel), by decide +kernel⟩
theorem w_501 : Cond.code yX4_findAdmission cX4_findAdmission 4 (some FieldType.int) ∈ lw_good := List.mem_filter.mpr ⟨List.mem_of_getElem? (i := 501) (by decide +kernel), by decide +kernel⟩
theorem w_502 : Cond.methodLink "IndicatorDiagram" 336 yX4_greatestOf ∈ lw_good := List.mem_filter.mpr ⟨List.mem_of_getElem? (i := 502) (by decide +kernel), by decide +kernel⟩
theorem w_503 : Cond.static yX4_greatestOf ∈ lw_good := List.mem_filter.mpr ⟨List.mem_of_getElem? (i := 503) (by decide +kernel), by decide +kernel⟩
theorem w_504 : Cond.code yX4_greatestOf cX4_greatestOf 3 (some FieldType.int) ∈ lw_good := List.mem_filter.mpr ⟨List.mem_of_getElem? (i := 504) (by decide +kernel), by decide +kernel⟩
theorem w_505 : Cond.methodLink "IndicatorDiagram" 342 yJ9_max_7cf53 ∈ lw_good := List.mem_filter.mpr ⟨List.mem_of_getElem? (i := 505) (by decide +kernel), by decide +kernel⟩
theorem w_506 : Cond.methodLink "IndicatorDiagram" 327 yX4_findCutOff ∈ lw_good := List.mem_filter.mpr ⟨List.mem_of_getElem? (i := 506) (by decide +kernel), by decide +kernel⟩
theorem w_508 : Cond.instanceMethod yX4_findCutOff ∈ lw_good := List.mem_filter.mpr ⟨List.mem_of_getElem? (i := 508) (by decide +kernel), by decide +kernel⟩
theorem w_509 : Cond.code yX4_findCutOff cX4_findCutOff 5 (some FieldType.int) ∈ lw_good := List.mem_filter.mpr ⟨List.mem_of_getElem? (i := 509) (by decide +kernel), by decide +kernel⟩
theorem w_510 : Cond.methodLink "IndicatorDiagram" 330 yX4_findRelease ∈ lw_good := List.mem_filter.mpr ⟨List.mem_of_getElem? (i := 510) (by decide +kernel), by decide +kernel⟩
theorem w_512 : Cond.instanceMethod yX4_findRelease ∈ lw_good := List.mem_filter.mpr ⟨List.mem_of_getElem? (i := 512) (by decide +kernel), by decide +kernel⟩
theorem w_513 : Cond.code yX4_findRelease cX4_findRelease 5 (some FieldType.int) ∈ lw_good := List.mem_filter.mpr ⟨List.mem_of_getElem? (i := 513) (by decide +kernel), by decide +kernel⟩
theorem w_514 : Cond.methodLink "IndicatorDiagram" 232 yX4_constantAt ∈ lw_good := List.mem_filter.mpr ⟨List.mem_of_getElem? (i := 514) (by decide +kernel), by decide +kernel⟩
theorem w_516 : Cond.instanceMethod yX4_constantAt ∈ lw_good := List.mem_filter.mpr ⟨List.mem_of_getElem? (i := 516) (by decide +kernel), by decide +kernel⟩
theorem w_517 : Cond.code yX4_constantAt cX4_constantAt 3 (some FieldType.int) ∈ lw_good := List.mem_filter.mpr ⟨List.mem_of_getElem? (i := 517) (by decide +kernel), by decide +kernel⟩
theorem w_518 : Cond.methodLink "IndicatorDiagram" 333 yX4_findCompression ∈ lw_good := List.mem_filter.mpr ⟨List.mem_of_getElem? (i := 518) (by decide +kernel), by decide +kernel⟩
theorem w_520 : Cond.instanceMethod yX4_findCompression ∈ lw_good := List.mem_filter.mpr ⟨List.mem_of_getElem? (i := 520) (by decide +kernel), by decide +kernel⟩
theorem w_521 : Cond.code yX4_findCompression cX4_findCompression 4 (some FieldType.int) ∈ lw_good := List.mem_filter.mpr ⟨List.mem_of_getElem? (i := 521) (by decide +kernel), by decide +kernel⟩
theorem w_522 : Cond.methodLink "IndicatorDiagram" 339 yX4_leastOf ∈ lw_good := List.mem_filter.mpr ⟨List.mem_of_getElem? (i := 522) (by decide +kernel), by decide +kernel⟩
theorem w_523 : Cond.static yX4_leastOf ∈ lw_good := List.mem_filter.mpr ⟨List.mem_of_getElem? (i := 523) (by decide +kernel), by decide +kernel⟩
theorem w_524 : Cond.code yX4_leastOf cX4_leastOf 3 (some FieldType.int) ∈ lw_good := List.mem_filter.mpr ⟨List.mem_of_getElem? (i := 524) (by decide +kernel), by decide +kernel⟩
theorem w_525 : Cond.methodLink "IndicatorDiagram" 345 yJ9_min_7cf53 ∈ lw_good := List.mem_filter.mpr ⟨List.mem_of_getElem? (i := 525) (by decide +kernel), by decide +kernel⟩
theorem w_526 : Cond.methodLink "IndicatorDiagramLaw" 116 yX4_lateness ∈ lw_good := List.mem_filter.mpr ⟨List.mem_of_getElem? (i := 526) (by decide +kernel), by decide +kernel⟩
theorem w_527 : Cond.instanceMethod yX4_lateness ∈ lw_good := List.mem_filter.mpr ⟨List.mem_of_getElem? (i := 527) (by decide +kernel), by decide +kernel⟩
theorem w_528 : Cond.selects "IndicatorDiagram" yX4_lateness yX4_lateness ∈ lw_good := List.mem_filter.mpr ⟨List.mem_of_getElem? (i := 528) (by decide +kernel), by decide +kernel⟩
theorem w_529 : Cond.code yX4_lateness cX4_lateness 3 (some FieldType.int) ∈ lw_good := List.mem_filter.mpr ⟨List.mem_of_getElem? (i := 529) (by decide +kernel), by decide +kernel⟩
theorem w_530 : Cond.methodLink "IndicatorDiagram" 225 yX4_foundLateness ∈ lw_good := List.mem_filter.mpr ⟨List.mem_of_getElem? (i := 530) (by decide +kernel), by decide +kernel⟩
theorem w_532 : Cond.instanceMethod yX4_foundLateness ∈ lw_good := List.mem_filter.mpr ⟨List.mem_of_getElem? (i := 532) (by decide +kernel), by decide +kernel⟩
theorem w_533 : Cond.code yX4_foundLateness cX4_foundLateness 4 (some FieldType.int) ∈ lw_good := List.mem_filter.mpr ⟨List.mem_of_getElem? (i := 533) (by decide +kernel), by decide +kernel⟩
theorem w_534 : Cond.methodLink "IndicatorDiagramLaw" 120 yX4_slip ∈ lw_good := List.mem_filter.mpr ⟨List.mem_of_getElem? (i := 534) (by decide +kernel), by decide +kernel⟩
theorem w_535 : Cond.instanceMethod yX4_slip ∈ lw_good := List.mem_filter.mpr ⟨List.mem_of_getElem? (i := 535) (by decide +kernel), by decide +kernel⟩
theorem w_536 : Cond.selects "IndicatorDiagram" yX4_slip yX4_slip ∈ lw_good := List.mem_filter.mpr ⟨List.mem_of_getElem? (i := 536) (by decide +kernel), by decide +kernel⟩
theorem w_537 : Cond.code yX4_slip cX4_slip 8 (some FieldType.int) ∈ lw_good := List.mem_filter.mpr ⟨List.mem_of_getElem? (i := 537) (by decide +kernel), by decide +kernel⟩
theorem w_538 : Cond.methodLink "IndicatorDiagram" 229 yX4_deviationFrom ∈ lw_good := List.mem_filter.mpr ⟨List.mem_of_getElem? (i := 538) (by decide +kernel), by decide +kernel⟩
theorem w_540 : Cond.instanceMethod yX4_deviationFrom ∈ lw_good := List.mem_filter.mpr ⟨List.mem_of_getElem? (i := 540) (by decide +kernel), by decide +kernel⟩
theorem w_541 : Cond.code yX4_deviationFrom cX4_deviationFrom 5 (some FieldType.int) ∈ lw_good := List.mem_filter.mpr ⟨List.mem_of_getElem? (i := 541) (by decide +kernel), by decide +kernel⟩
theorem w_542 : Cond.methodLink "IndicatorDiagram" 348 yJ9_abs_0f7a4 ∈ lw_good := List.mem_filter.mpr ⟨List.mem_of_getElem? (i := 542) (by decide +kernel), by decide +kernel⟩
theorem w_543 : Cond.static yJ9_abs_0f7a4 ∈ lw_good := List.mem_filter.mpr ⟨List.mem_of_getElem? (i := 543) (by decide +kernel), by decide +kernel⟩
theorem w_544 : Cond.code yJ9_abs_0f7a4 cJ9_abs_0f7a4 1 (some FieldType.int) ∈ lw_good := List.mem_filter.mpr ⟨List.mem_of_getElem? (i := 544) (by decide +kernel), by decide +kernel⟩
theorem w_545 : Cond.methodLink "IndicatorDiagramLaw" 124 yX4_constant ∈ lw_good := List.mem_filter.mpr ⟨List.mem_of_getElem? (i := 545) (by decide +kernel), by decide +kernel⟩
theorem w_546 : Cond.instanceMethod yX4_constant ∈ lw_good := List.mem_filter.mpr ⟨List.mem_of_getElem? (i := 546) (by decide +kernel), by decide +kernel⟩
theorem w_547 : Cond.selects "IndicatorDiagram" yX4_constant yX4_constant ∈ lw_good := List.mem_filter.mpr ⟨List.mem_of_getElem? (i := 547) (by decide +kernel), by decide +kernel⟩
theorem w_548 : Cond.code yX4_constant cX4_constant 3 (some FieldType.int) ∈ lw_good := List.mem_filter.mpr ⟨List.mem_of_getElem? (i := 548) (by decide +kernel), by decide +kernel⟩
theorem w_549 : Cond.methodLink "IndicatorDiagramLaw" 128 yX4_leakage ∈ lw_good := List.mem_filter.mpr ⟨List.mem_of_getElem? (i := 549) (by decide +kernel), by decide +kernel⟩
theorem w_550 : Cond.instanceMethod yX4_leakage ∈ lw_good := List.mem_filter.mpr ⟨List.mem_of_getElem? (i := 550) (by decide +kernel), by decide +kernel⟩
theorem w_551 : Cond.selects "IndicatorDiagram" yX4_leakage yX4_leakage ∈ lw_good := List.mem_filter.mpr ⟨List.mem_of_getElem? (i := 551) (by decide +kernel), by decide +kernel⟩
theorem w_552 : Cond.code yX4_leakage cX4_leakage 4 (some FieldType.int) ∈ lw_good := List.mem_filter.mpr ⟨List.mem_of_getElem? (i := 552) (by decide +kernel), by decide +kernel⟩
theorem w_553 : Cond.constant "IndicatorDiagram" 236 (-2000000004) ∈ lw_good := List.mem_filter.mpr ⟨List.mem_of_getElem? (i := 553) (by decide +kernel), by decide +kernel⟩
theorem w_554 : Cond.methodLink "IndicatorDiagramLaw" 132 yX4_cardsOf ∈ lw_good := List.mem_filter.mpr ⟨List.mem_of_getElem? (i := 554) (by decide +kernel), by decide +kernel⟩
theorem w_555 : Cond.instanceMethod yX4_cardsOf ∈ lw_good := List.mem_filter.mpr ⟨List.mem_of_getElem? (i := 555) (by decide +kernel), by decide +kernel⟩
theorem w_556 : Cond.selects "IndicatorDiagram" yX4_cardsOf yX4_cardsOf ∈ lw_good := List.mem_filter.mpr ⟨List.mem_of_getElem? (i := 556) (by decide +kernel), by decide +kernel⟩
theorem w_557 : Cond.code yX4_cardsOf cX4_cardsOf 2 (some FieldType.int) ∈ lw_good := List.mem_filter.mpr ⟨List.mem_of_getElem? (i := 557) (by decide +kernel), by decide +kernel⟩
theorem w_558 : Cond.methodLink "IndicatorDiagram" 237 yX4_countCards ∈ lw_good := List.mem_filter.mpr ⟨List.mem_of_getElem? (i := 558) (by decide +kernel), by decide +kernel⟩
theorem w_560 : Cond.instanceMethod yX4_countCards ∈ lw_good := List.mem_filter.mpr ⟨List.mem_of_getElem? (i := 560) (by decide +kernel), by decide +kernel⟩
theorem w_561 : Cond.code yX4_countCards cX4_countCards 4 (some FieldType.int) ∈ lw_good := List.mem_filter.mpr ⟨List.mem_of_getElem? (i := 561) (by decide +kernel), by decide +kernel⟩
theorem w_562 : Cond.methodLink "IndicatorDiagramLaw" 136 yX4_meanArea ∈ lw_good := List.mem_filter.mpr ⟨List.mem_of_getElem? (i := 562) (by decide +kernel), by decide +kernel⟩
theorem w_563 : Cond.instanceMethod yX4_meanArea ∈ lw_good := List.mem_filter.mpr ⟨List.mem_of_getElem? (i := 563) (by decide +kernel), by decide +kernel⟩
theorem w_564 : Cond.selects "IndicatorDiagram" yX4_meanArea yX4_meanArea ∈ lw_good := List.mem_filter.mpr ⟨List.mem_of_getElem? (i := 564) (by decide +kernel), by decide +kernel⟩
theorem w_565 : Cond.code yX4_meanArea cX4_meanArea 2 (some FieldType.int) ∈ lw_good := List.mem_filter.mpr ⟨List.mem_of_getElem? (i := 565) (by decide +kernel), by decide +kernel⟩
theorem w_566 : Cond.methodLink "IndicatorDiagram" 240 yX4_drawMeanPressures ∈ lw_good := List.mem_filter.mpr ⟨List.mem_of_getElem? (i := 566) (by decide +kernel), by decide +kernel⟩
theorem w_568 : Cond.instanceMethod yX4_drawMeanPressures ∈ lw_good := List.mem_filter.mpr ⟨List.mem_of_getElem? (i := 568) (by decide +kernel), by decide +kernel⟩
theorem w_569 : Cond.code yX4_drawMeanPressures cX4_drawMeanPressures 8 none ∈ lw_good := List.mem_filter.mpr ⟨List.mem_of_getElem? (i := 569) (by decide +kernel), by decide +kernel⟩
theorem w_570 : Cond.methodLink "IndicatorDiagramLaw" 140 yX4_meanPower ∈ lw_good := List.mem_filter.mpr ⟨List.mem_of_getElem? (i := 570) (by decide +kernel), by decide +kernel⟩
theorem w_571 : Cond.instanceMethod yX4_meanPower ∈ lw_good := List.mem_filter.mpr ⟨List.mem_of_getElem? (i := 571) (by decide +kernel), by decide +kernel⟩
theorem w_572 : Cond.selects "IndicatorDiagram" yX4_meanPower yX4_meanPower ∈ lw_good := List.mem_filter.mpr ⟨List.mem_of_getElem? (i := 572) (by decide +kernel), by decide +kernel⟩
theorem w_573 : Cond.code yX4_meanPower cX4_meanPower 2 (some FieldType.long) ∈ lw_good := List.mem_filter.mpr ⟨List.mem_of_getElem? (i := 573) (by decide +kernel), by decide +kernel⟩
theorem w_574 : Cond.constantLong "IndicatorDiagram" 243 (-2000000004) ∈ lw_good := List.mem_filter.mpr ⟨List.mem_of_getElem? (i := 574) (by decide +kernel), by decide +kernel⟩
theorem w_575 : Cond.methodLink "IndicatorDiagram" 245 yX4_meanOfPowers ∈ lw_good := List.mem_filter.mpr ⟨List.mem_of_getElem? (i := 575) (by decide +kernel), by decide +kernel⟩
theorem w_577 : Cond.instanceMethod yX4_meanOfPowers ∈ lw_good := List.mem_filter.mpr ⟨List.mem_of_getElem? (i := 577) (by decide +kernel), by decide +kernel⟩
theorem w_578 : Cond.code yX4_meanOfPowers cX4_meanOfPowers 5 (some FieldType.long) ∈ lw_good := List.mem_filter.mpr ⟨List.mem_of_getElem? (i := 578) (by decide +kernel), by decide +kernel⟩
theorem w_579 : Cond.methodLink "IndicatorDiagramLaw" 144 yX4_imbalance ∈ lw_good := List.mem_filter.mpr ⟨List.mem_of_getElem? (i := 579) (by decide +kernel), by decide +kernel⟩
theorem w_580 : Cond.instanceMethod yX4_imbalance ∈ lw_good := List.mem_filter.mpr ⟨List.mem_of_getElem? (i := 580) (by decide +kernel), by decide +kernel⟩
theorem w_581 : Cond.selects "IndicatorDiagram" yX4_imbalance yX4_imbalance ∈ lw_good := List.mem_filter.mpr ⟨List.mem_of_getElem? (i := 581) (by decide +kernel), by decide +kernel⟩
theorem w_582 : Cond.code yX4_imbalance cX4_imbalance 5 (some FieldType.int) ∈ lw_good := List.mem_filter.mpr ⟨List.mem_of_getElem? (i := 582) (by decide +kernel), by decide +kernel⟩
theorem w_583 : Cond.methodLink "IndicatorDiagram" 249 yJ9_abs_067f4 ∈ lw_good := List.mem_filter.mpr ⟨List.mem_of_getElem? (i := 583) (by decide +kernel), by decide +kernel⟩
theorem w_584 : Cond.static yJ9_abs_067f4 ∈ lw_good := List.mem_filter.mpr ⟨List.mem_of_getElem? (i := 584) (by decide +kernel), by decide +kernel⟩
theorem w_585 : Cond.code yJ9_abs_067f4 cJ9_abs_067f4 2 (some FieldType.long) ∈ lw_good := List.mem_filter.mpr ⟨List.mem_of_getElem? (i := 585) (by decide +kernel), by decide +kernel⟩
theorem w_586 : Cond.constantLong "IndicatorDiagram" 255 1000 ∈ lw_good := List.mem_filter.mpr ⟨List.mem_of_getElem? (i := 586) (by decide +kernel), by decide +kernel⟩
theorem w_587 : Cond.methodLink "IndicatorDiagramLaw" 148 yX4_removeOutliers ∈ lw_good := List.mem_filter.mpr ⟨List.mem_of_getElem? (i := 587) (by decide +kernel), by decide +kernel⟩
theorem w_588 : Cond.instanceMethod yX4_removeOutliers ∈ lw_good := List.mem_filter.mpr ⟨List.mem_of_getElem? (i := 588) (by decide +kernel), by decide +kernel⟩
theorem w_589 : Cond.selects "IndicatorDiagram" yX4_removeOutliers yX4_removeOutliers ∈ lw_good := List.mem_filter.mpr ⟨List.mem_of_getElem? (i := 589) (by decide +kernel), by decide +kernel⟩
theorem w_590 : Cond.code yX4_removeOutliers cX4_removeOutliers 6 (some FieldType.int) ∈ lw_good := List.mem_filter.mpr ⟨List.mem_of_getElem? (i := 590) (by decide +kernel), by decide +kernel⟩
theorem w_591 : Cond.methodLink "IndicatorDiagram" 261 yX4_medianArea ∈ lw_good := List.mem_filter.mpr ⟨List.mem_of_getElem? (i := 591) (by decide +kernel), by decide +kernel⟩
theorem w_593 : Cond.instanceMethod yX4_medianArea ∈ lw_good := List.mem_filter.mpr ⟨List.mem_of_getElem? (i := 593) (by decide +kernel), by decide +kernel⟩
theorem w_594 : Cond.code yX4_medianArea cX4_medianArea 4 (some FieldType.int) ∈ lw_good := List.mem_filter.mpr ⟨List.mem_of_getElem? (i := 594) (by decide +kernel), by decide +kernel⟩
theorem w_595 : Cond.methodLink "IndicatorDiagram" 350 yX4_insertSorted ∈ lw_good := List.mem_filter.mpr ⟨List.mem_of_getElem? (i := 595) (by decide +kernel), by decide +kernel⟩
theorem w_597 : Cond.instanceMethod yX4_insertSorted ∈ lw_good := List.mem_filter.mpr ⟨List.mem_of_getElem? (i := 597) (by decide +kernel), by decide +kernel⟩
theorem w_598 : Cond.code yX4_insertSorted cX4_insertSorted 4 none ∈ lw_good := List.mem_filter.mpr ⟨List.mem_of_getElem? (i := 598) (by decide +kernel), by decide +kernel⟩
theorem w_599 : Cond.methodLink "IndicatorDiagram" 264 yX4_isOutlier ∈ lw_good := List.mem_filter.mpr ⟨List.mem_of_getElem? (i := 599) (by decide +kernel), by decide +kernel⟩
theorem w_600 : Cond.static yX4_isOutlier ∈ lw_good := List.mem_filter.mpr ⟨List.mem_of_getElem? (i := 600) (by decide +kernel), by decide +kernel⟩
theorem w_601 : Cond.code yX4_isOutlier cX4_isOutlier 3 (some FieldType.boolean) ∈ lw_good := List.mem_filter.mpr ⟨List.mem_of_getElem? (i := 601) (by decide +kernel), by decide +kernel⟩
theorem w_602 : Cond.methodLink "IndicatorDiagramLaw" 152 yX4_idealArea ∈ lw_good := List.mem_filter.mpr ⟨List.mem_of_getElem? (i := 602) (by decide +kernel), by decide +kernel⟩
theorem w_603 : Cond.instanceMethod yX4_idealArea ∈ lw_good := List.mem_filter.mpr ⟨List.mem_of_getElem? (i := 603) (by decide +kernel), by decide +kernel⟩
theorem w_604 : Cond.selects "IndicatorDiagram" yX4_idealArea yX4_idealArea ∈ lw_good := List.mem_filter.mpr ⟨List.mem_of_getElem? (i := 604) (by decide +kernel), by decide +kernel⟩
theorem w_605 : Cond.code yX4_idealArea cX4_idealArea 2 (some FieldType.int) ∈ lw_good := List.mem_filter.mpr ⟨List.mem_of_getElem? (i := 605) (by decide +kernel), by decide +kernel⟩
theorem w_606 : Cond.methodLink "IndicatorDiagram" 268 yX4_areaWithCutOff ∈ lw_good := List.mem_filter.mpr ⟨List.mem_of_getElem? (i := 606) (by decide +kernel), by decide +kernel⟩
theorem w_608 : Cond.instanceMethod yX4_areaWithCutOff ∈ lw_good := List.mem_filter.mpr ⟨List.mem_of_getElem? (i := 608) (by decide +kernel), by decide +kernel⟩
theorem w_609 : Cond.code yX4_areaWithCutOff cX4_areaWithCutOff 3 (some FieldType.int) ∈ lw_good := List.mem_filter.mpr ⟨List.mem_of_getElem? (i := 609) (by decide +kernel), by decide +kernel⟩
theorem w_610 : Cond.methodLink "IndicatorDiagramLaw" 156 yX4_bestCutOff ∈ lw_good := List.mem_filter.mpr ⟨List.mem_of_getElem? (i := 610) (by decide +kernel), by decide +kernel⟩
theorem w_611 : Cond.instanceMethod yX4_bestCutOff ∈ lw_good := List.mem_filter.mpr ⟨List.mem_of_getElem? (i := 611) (by decide +kernel), by decide +kernel⟩
theorem w_612 : Cond.selects "IndicatorDiagram" yX4_bestCutOff yX4_bestCutOff ∈ lw_good := List.mem_filter.mpr ⟨List.mem_of_getElem? (i := 612) (by decide +kernel), by decide +kernel⟩
theorem w_613 : Cond.code yX4_bestCutOff cX4_bestCutOff 3 (some FieldType.int) ∈ lw_good := List.mem_filter.mpr ⟨List.mem_of_getElem? (i := 613) (by decide +kernel), by decide +kernel⟩
theorem w_614 : Cond.constant "IndicatorDiagram" 271 (-200000) ∈ lw_good := List.mem_filter.mpr ⟨List.mem_of_getElem? (i := 614) (by decide +kernel), by decide +kernel⟩
theorem w_615 : Cond.constant "IndicatorDiagram" 272 200000 ∈ lw_good := List.mem_filter.mpr ⟨List.mem_of_getElem? (i := 615) (by decide +kernel), by decide +kernel⟩
theorem w_616 : Cond.methodLink "IndicatorDiagram" 273 yX4_nearestCutOff ∈ lw_good := List.mem_filter.mpr ⟨List.mem_of_getElem? (i := 616) (by decide +kernel), by decide +kernel⟩
theorem w_618 : Cond.instanceMethod yX4_nearestCutOff ∈ lw_good := List.mem_filter.mpr ⟨List.mem_of_getElem? (i := 618) (by decide +kernel), by decide +kernel⟩
theorem w_619 : Cond.code yX4_nearestCutOff cX4_nearestCutOff 14 (some FieldType.int) ∈ lw_good := List.mem_filter.mpr ⟨List.mem_of_getElem? (i := 619) (by decide +kernel), by decide +kernel⟩
theorem w_620 : Cond.constantLong "IndicatorDiagram" 316 9223372036854775807 ∈ lw_good := List.mem_filter.mpr ⟨List.mem_of_getElem? (i := 620) (by decide +kernel), by decide +kernel⟩
theorem w_621 : Cond.methodLink "IndicatorDiagram" 280 yX4_powerWithCutOff ∈ lw_good := List.mem_filter.mpr ⟨List.mem_of_getElem? (i := 621) (by decide +kernel), by decide +kernel⟩
theorem w_623 : Cond.instanceMethod yX4_powerWithCutOff ∈ lw_good := List.mem_filter.mpr ⟨List.mem_of_getElem? (i := 623) (by decide +kernel), by decide +kernel⟩
theorem w_624 : Cond.code yX4_powerWithCutOff cX4_powerWithCutOff 3 (some FieldType.long) ∈ lw_good := List.mem_filter.mpr ⟨List.mem_of_getElem? (i := 624) (by decide +kernel), by decide +kernel⟩
theorem w_625 : Cond.methodLink "IndicatorDiagramLaw" 160 yX4_balancingCutOff ∈ lw_good := List.mem_filter.mpr ⟨List.mem_of_getElem? (i := 625) (by decide +kernel), by decide +kernel⟩
theorem w_626 : Cond.instanceMethod yX4_balancingCutOff ∈ lw_good := List.mem_filter.mpr ⟨List.mem_of_getElem? (i := 626) (by decide +kernel), by decide +kernel⟩
theorem w_627 : Cond.selects "IndicatorDiagram" yX4_balancingCutOff yX4_balancingCutOff ∈ lw_good := List.mem_filter.mpr ⟨List.mem_of_getElem? (i := 627) (by decide +kernel), by decide +kernel⟩
theorem w_628 : Cond.code yX4_balancingCutOff cX4_balancingCutOff 3 (some FieldType.int) ∈ lw_good := List.mem_filter.mpr ⟨List.mem_of_getElem? (i := 628) (by decide +kernel), by decide +kernel⟩
theorem w_629 : Cond.methodLink "IndicatorDiagramLaw" 164 yX4_historySize ∈ lw_good := List.mem_filter.mpr ⟨List.mem_of_getElem? (i := 629) (by decide +kernel), by decide +kernel⟩
theorem w_630 : Cond.instanceMethod yX4_historySize ∈ lw_good := List.mem_filter.mpr ⟨List.mem_of_getElem? (i := 630) (by decide +kernel), by decide +kernel⟩
theorem w_631 : Cond.selects "IndicatorDiagram" yX4_historySize yX4_historySize ∈ lw_good := List.mem_filter.mpr ⟨List.mem_of_getElem? (i := 631) (by decide +kernel), by decide +kernel⟩
theorem w_632 : Cond.code yX4_historySize cX4_historySize 1 (some FieldType.int) ∈ lw_good := List.mem_filter.mpr ⟨List.mem_of_getElem? (i := 632) (by decide +kernel), by decide +kernel⟩
theorem w_633 : Cond.methodLink "IndicatorDiagramLaw" 168 yX4_undo ∈ lw_good := List.mem_filter.mpr ⟨List.mem_of_getElem? (i := 633) (by decide +kernel), by decide +kernel⟩
theorem w_634 : Cond.instanceMethod yX4_undo ∈ lw_good := List.mem_filter.mpr ⟨List.mem_of_getElem? (i := 634) (by decide +kernel), by decide +kernel⟩
theorem w_635 : Cond.selects "IndicatorDiagram" yX4_undo yX4_undo ∈ lw_good := List.mem_filter.mpr ⟨List.mem_of_getElem? (i := 635) (by decide +kernel), by decide +kernel⟩
theorem w_636 : Cond.code yX4_undo cX4_undo 1 (some FieldType.int) ∈ lw_good := List.mem_filter.mpr ⟨List.mem_of_getElem? (i := 636) (by decide +kernel), by decide +kernel⟩
theorem w_637 : Cond.classLink "IndicatorDiagramLaw" 10 "IndicatorDiagramModel" ∈ lw_good := List.mem_filter.mpr ⟨List.mem_of_getElem? (i := 637) (by decide +kernel), by decide +kernel⟩
theorem w_638 : Cond.instantiable "IndicatorDiagramModel" 2 ∈ lw_good := List.mem_filter.mpr ⟨List.mem_of_getElem? (i := 638) (by decide +kernel), by decide +kernel⟩
theorem w_639 : Cond.methodLink "IndicatorDiagramLaw" 12 yX5_init ∈ lw_good := List.mem_filter.mpr ⟨List.mem_of_getElem? (i := 639) (by decide +kernel), by decide +kernel⟩
theorem w_640 : Cond.instanceMethod yX5_init ∈ lw_good := List.mem_filter.mpr ⟨List.mem_of_getElem? (i := 640) (by decide +kernel), by decide +kernel⟩
theorem w_641 : Cond.code yX5_init cX5_init 2 none ∈ lw_good := List.mem_filter.mpr ⟨List.mem_of_getElem? (i := 641) (by decide +kernel), by decide +kernel⟩
theorem w_642 : Cond.methodLink "IndicatorDiagramModel" 1 objectInit ∈ lw_good := List.mem_filter.mpr ⟨List.mem_of_getElem? (i := 642) (by decide +kernel), by decide +kernel⟩
theorem w_643 : Cond.fieldLink "IndicatorDiagramModel" 7 "IndicatorDiagramModel" "row" "[I" ∈ lw_good := List.mem_filter.mpr ⟨List.mem_of_getElem? (i := 643) (by decide +kernel), by decide +kernel⟩
theorem w_644 : Cond.fieldLink "IndicatorDiagramModel" 17 "IndicatorDiagramModel" "states" "I" ∈ lw_good := List.mem_filter.mpr ⟨List.mem_of_getElem? (i := 644) (by decide +kernel), by decide +kernel⟩
theorem w_645 : Cond.laysFinal "IndicatorDiagramModel" "IndicatorDiagramModel" "row" "[I" ∈ lw_good := List.mem_filter.mpr ⟨List.mem_of_getElem? (i := 645) (by decide +kernel), by decide +kernel⟩
theorem w_647 : Cond.lays "IndicatorDiagramModel" "IndicatorDiagramModel" "states" "I" ∈ lw_good := List.mem_filter.mpr ⟨List.mem_of_getElem? (i := 647) (by decide +kernel), by decide +kernel⟩
theorem w_650 : Cond.methodLink "IndicatorDiagramLaw" 167 yX5_historySize ∈ lw_good := List.mem_filter.mpr ⟨List.mem_of_getElem? (i := 650) (by decide +kernel), by decide +kernel⟩
theorem w_651 : Cond.instanceMethod yX5_historySize ∈ lw_good := List.mem_filter.mpr ⟨List.mem_of_getElem? (i := 651) (by decide +kernel), by decide +kernel⟩
theorem w_652 : Cond.selects "IndicatorDiagramModel" yX5_historySize yX5_historySize ∈ lw_good := List.mem_filter.mpr ⟨List.mem_of_getElem? (i := 652) (by decide +kernel), by decide +kernel⟩
theorem w_653 : Cond.code yX5_historySize cX5_historySize 1 (some FieldType.int) ∈ lw_good := List.mem_filter.mpr ⟨List.mem_of_getElem? (i := 653) (by decide +kernel), by decide +kernel⟩
theorem w_654 : Cond.methodLink "IndicatorDiagramLaw" 171 yX5_undo ∈ lw_good := List.mem_filter.mpr ⟨List.mem_of_getElem? (i := 654) (by decide +kernel), by decide +kernel⟩
theorem w_655 : Cond.instanceMethod yX5_undo ∈ lw_good := List.mem_filter.mpr ⟨List.mem_of_getElem? (i := 655) (by decide +kernel), by decide +kernel⟩
theorem w_656 : Cond.selects "IndicatorDiagramModel" yX5_undo yX5_undo ∈ lw_good := List.mem_filter.mpr ⟨List.mem_of_getElem? (i := 656) (by decide +kernel), by decide +kernel⟩
theorem w_657 : Cond.code yX5_undo cX5_undo 1 (some FieldType.int) ∈ lw_good := List.mem_filter.mpr ⟨List.mem_of_getElem? (i := 657) (by decide +kernel), by decide +kernel⟩
theorem w_658 : Cond.constant "IndicatorDiagramModel" 25 (-2000000002) ∈ lw_good := List.mem_filter.mpr ⟨List.mem_of_getElem? (i := 658) (by decide +kernel), by decide +kernel⟩
theorem w_659 : Cond.methodLink "IndicatorDiagramModel" 21 yX5_copy ∈ lw_good := List.mem_filter.mpr ⟨List.mem_of_getElem? (i := 659) (by decide +kernel), by decide +kernel⟩
theorem w_661 : Cond.instanceMethod yX5_copy ∈ lw_good := List.mem_filter.mpr ⟨List.mem_of_getElem? (i := 661) (by decide +kernel), by decide +kernel⟩
theorem w_662 : Cond.code yX5_copy cX5_copy 4 none ∈ lw_good := List.mem_filter.mpr ⟨List.mem_of_getElem? (i := 662) (by decide +kernel), by decide +kernel⟩
theorem w_663 : Cond.methodLink "IndicatorDiagramLaw" 17 yX5_setClearance ∈ lw_good := List.mem_filter.mpr ⟨List.mem_of_getElem? (i := 663) (by decide +kernel), by decide +kernel⟩
theorem w_664 : Cond.instanceMethod yX5_setClearance ∈ lw_good := List.mem_filter.mpr ⟨List.mem_of_getElem? (i := 664) (by decide +kernel), by decide +kernel⟩
theorem w_665 : Cond.selects "IndicatorDiagramModel" yX5_setClearance yX5_setClearance ∈ lw_good := List.mem_filter.mpr ⟨List.mem_of_getElem? (i := 665) (by decide +kernel), by decide +kernel⟩
theorem w_666 : Cond.code yX5_setClearance cX5_setClearance 2 (some FieldType.int) ∈ lw_good := List.mem_filter.mpr ⟨List.mem_of_getElem? (i := 666) (by decide +kernel), by decide +kernel⟩
theorem w_667 : Cond.methodLink "IndicatorDiagramModel" 13 yX5_in ∈ lw_good := List.mem_filter.mpr ⟨List.mem_of_getElem? (i := 667) (by decide +kernel), by decide +kernel⟩
theorem w_668 : Cond.static yX5_in ∈ lw_good := List.mem_filter.mpr ⟨List.mem_of_getElem? (i := 668) (by decide +kernel), by decide +kernel⟩
theorem w_669 : Cond.code yX5_in cX5_in 3 (some FieldType.boolean) ∈ lw_good := List.mem_filter.mpr ⟨List.mem_of_getElem? (i := 669) (by decide +kernel), by decide +kernel⟩
theorem w_670 : Cond.methodLink "IndicatorDiagramModel" 30 yX5_put ∈ lw_good := List.mem_filter.mpr ⟨List.mem_of_getElem? (i := 670) (by decide +kernel), by decide +kernel⟩
theorem w_672 : Cond.instanceMethod yX5_put ∈ lw_good := List.mem_filter.mpr ⟨List.mem_of_getElem? (i := 672) (by decide +kernel), by decide +kernel⟩
theorem w_673 : Cond.code yX5_put cX5_put 5 (some FieldType.int) ∈ lw_good := List.mem_filter.mpr ⟨List.mem_of_getElem? (i := 673) (by decide +kernel), by decide +kernel⟩
theorem w_674 : Cond.constant "IndicatorDiagramModel" 26 (-2000000001) ∈ lw_good := List.mem_filter.mpr ⟨List.mem_of_getElem? (i := 674) (by decide +kernel), by decide +kernel⟩
theorem w_675 : Cond.methodLink "IndicatorDiagramModel" 27 yX5_record ∈ lw_good := List.mem_filter.mpr ⟨List.mem_of_getElem? (i := 675) (by decide +kernel), by decide +kernel⟩
theorem w_677 : Cond.instanceMethod yX5_record ∈ lw_good := List.mem_filter.mpr ⟨List.mem_of_getElem? (i := 677) (by decide +kernel), by decide +kernel⟩
theorem w_678 : Cond.code yX5_record cX5_record 2 none ∈ lw_good := List.mem_filter.mpr ⟨List.mem_of_getElem? (i := 678) (by decide +kernel), by decide +kernel⟩
theorem w_679 : Cond.methodLink "IndicatorDiagramLaw" 22 yX5_setPistonArea ∈ lw_good := List.mem_filter.mpr ⟨List.mem_of_getElem? (i := 679) (by decide +kernel), by decide +kernel⟩
theorem w_680 : Cond.instanceMethod yX5_setPistonArea ∈ lw_good := List.mem_filter.mpr ⟨List.mem_of_getElem? (i := 680) (by decide +kernel), by decide +kernel⟩
theorem w_681 : Cond.selects "IndicatorDiagramModel" yX5_setPistonArea yX5_setPistonArea ∈ lw_good := List.mem_filter.mpr ⟨List.mem_of_getElem? (i := 681) (by decide +kernel), by decide +kernel⟩
theorem w_682 : Cond.code yX5_setPistonArea cX5_setPistonArea 3 (some FieldType.int) ∈ lw_good := List.mem_filter.mpr ⟨List.mem_of_getElem? (i := 682) (by decide +kernel), by decide +kernel⟩
theorem w_683 : Cond.methodLink "IndicatorDiagramModel" 34 yX5_isEnd ∈ lw_good := List.mem_filter.mpr ⟨List.mem_of_getElem? (i := 683) (by decide +kernel), by decide +kernel⟩
theorem w_684 : Cond.static yX5_isEnd ∈ lw_good := List.mem_filter.mpr ⟨List.mem_of_getElem? (i := 684) (by decide +kernel), by decide +kernel⟩
theorem w_685 : Cond.code yX5_isEnd cX5_isEnd 1 (some FieldType.boolean) ∈ lw_good := List.mem_filter.mpr ⟨List.mem_of_getElem? (i := 685) (by decide +kernel), by decide +kernel⟩
theorem w_686 : Cond.methodLink "IndicatorDiagramLaw" 26 yX5_setStroke ∈ lw_good := List.mem_filter.mpr ⟨List.mem_of_getElem? (i := 686) (by decide +kernel), by decide +kernel⟩
theorem w_687 : Cond.instanceMethod yX5_setStroke ∈ lw_good := List.mem_filter.mpr ⟨List.mem_of_getElem? (i := 687) (by decide +kernel), by decide +kernel⟩
theorem w_688 : Cond.selects "IndicatorDiagramModel" yX5_setStroke yX5_setStroke ∈ lw_good := List.mem_filter.mpr ⟨List.mem_of_getElem? (i := 688) (by decide +kernel), by decide +kernel⟩
theorem w_689 : Cond.code yX5_setStroke cX5_setStroke 2 (some FieldType.int) ∈ lw_good := List.mem_filter.mpr ⟨List.mem_of_getElem? (i := 689) (by decide +kernel), by decide +kernel⟩
theorem w_690 : Cond.methodLink "IndicatorDiagramLaw" 30 yX5_setBoilerPressure ∈ lw_good := List.mem_filter.mpr ⟨List.mem_of_getElem? (i := 690) (by decide +kernel), by decide +kernel⟩
theorem w_691 : Cond.instanceMethod yX5_setBoilerPressure ∈ lw_good := List.mem_filter.mpr ⟨List.mem_of_getElem? (i := 691) (by decide +kernel), by decide +kernel⟩
theorem w_692 : Cond.selects "IndicatorDiagramModel" yX5_setBoilerPressure yX5_setBoilerPressure ∈ lw_good := List.mem_filter.mpr ⟨List.mem_of_getElem? (i := 692) (by decide +kernel), by decide +kernel⟩
theorem w_693 : Cond.code yX5_setBoilerPressure cX5_setBoilerPressure 2 (some FieldType.int) ∈ lw_good := List.mem_filter.mpr ⟨List.mem_of_getElem? (i := 693) (by decide +kernel), by decide +kernel⟩
theorem w_694 : Cond.methodLink "IndicatorDiagramLaw" 34 yX5_setBackPressure ∈ lw_good := List.mem_filter.mpr ⟨List.mem_of_getElem? (i := 694) (by decide +kernel), by decide +kernel⟩
theorem w_695 : Cond.instanceMethod yX5_setBackPressure ∈ lw_good := List.mem_filter.mpr ⟨List.mem_of_getElem? (i := 695) (by decide +kernel), by decide +kernel⟩
theorem w_696 : Cond.selects "IndicatorDiagramModel" yX5_setBackPressure yX5_setBackPressure ∈ lw_good := List.mem_filter.mpr ⟨List.mem_of_getElem? (i := 696) (by decide +kernel), by decide +kernel⟩
theorem w_697 : Cond.code yX5_setBackPressure cX5_setBackPressure 2 (some FieldType.int) ∈ lw_good := List.mem_filter.mpr ⟨List.mem_of_getElem? (i := 697) (by decide +kernel), by decide +kernel⟩
theorem w_698 : Cond.methodLink "IndicatorDiagramLaw" 38 yX5_setFinding ∈ lw_good := List.mem_filter.mpr ⟨List.mem_of_getElem? (i := 698) (by decide +kernel), by decide +kernel⟩
theorem w_699 : Cond.instanceMethod yX5_setFinding ∈ lw_good := List.mem_filter.mpr ⟨List.mem_of_getElem? (i := 699) (by decide +kernel), by decide +kernel⟩
theorem w_700 : Cond.selects "IndicatorDiagramModel" yX5_setFinding yX5_setFinding ∈ lw_good := List.mem_filter.mpr ⟨List.mem_of_getElem? (i := 700) (by decide +kernel), by decide +kernel⟩
theorem w_701 : Cond.code yX5_setFinding cX5_setFinding 4 (some FieldType.int) ∈ lw_good := List.mem_filter.mpr ⟨List.mem_of_getElem? (i := 701) (by decide +kernel), by decide +kernel⟩
theorem w_702 : Cond.methodLink "IndicatorDiagramLaw" 43 yX5_setValves ∈ lw_good := List.mem_filter.mpr ⟨List.mem_of_getElem? (i := 702) (by decide +kernel), by decide +kernel⟩
theorem w_703 : Cond.instanceMethod yX5_setValves ∈ lw_good := List.mem_filter.mpr ⟨List.mem_of_getElem? (i := 703) (by decide +kernel), by decide +kernel⟩
theorem w_704 : Cond.selects "IndicatorDiagramModel" yX5_setValves yX5_setValves ∈ lw_good := List.mem_filter.mpr ⟨List.mem_of_getElem? (i := 704) (by decide +kernel), by decide +kernel⟩
theorem w_705 : Cond.code yX5_setValves cX5_setValves 7 (some FieldType.int) ∈ lw_good := List.mem_filter.mpr ⟨List.mem_of_getElem? (i := 705) (by decide +kernel), by decide +kernel⟩
theorem w_706 : Cond.methodLink "IndicatorDiagramLaw" 47 yX5_valve ∈ lw_good := List.mem_filter.mpr ⟨List.mem_of_getElem? (i := 706) (by decide +kernel), by decide +kernel⟩
theorem w_707 : Cond.instanceMethod yX5_valve ∈ lw_good := List.mem_filter.mpr ⟨List.mem_of_getElem? (i := 707) (by decide +kernel), by decide +kernel⟩
theorem w_708 : Cond.selects "IndicatorDiagramModel" yX5_valve yX5_valve ∈ lw_good := List.mem_filter.mpr ⟨List.mem_of_getElem? (i := 708) (by decide +kernel), by decide +kernel⟩
theorem w_709 : Cond.code yX5_valve cX5_valve 3 (some FieldType.int) ∈ lw_good := List.mem_filter.mpr ⟨List.mem_of_getElem? (i := 709) (by decide +kernel), by decide +kernel⟩
theorem w_710 : Cond.methodLink "IndicatorDiagramLaw" 51 yX5_beginCard ∈ lw_good := List.mem_filter.mpr ⟨List.mem_of_getElem? (i := 710) (by decide +kernel), by decide +kernel⟩
theorem w_711 : Cond.instanceMethod yX5_beginCard ∈ lw_good := List.mem_filter.mpr ⟨List.mem_of_getElem? (i := 711) (by decide +kernel), by decide +kernel⟩
theorem w_712 : Cond.selects "IndicatorDiagramModel" yX5_beginCard yX5_beginCard ∈ lw_good := List.mem_filter.mpr ⟨List.mem_of_getElem? (i := 712) (by decide +kernel), by decide +kernel⟩
theorem w_713 : Cond.code yX5_beginCard cX5_beginCard 5 (some FieldType.int) ∈ lw_good := List.mem_filter.mpr ⟨List.mem_of_getElem? (i := 713) (by decide +kernel), by decide +kernel⟩
theorem w_714 : Cond.methodLink "IndicatorDiagramLaw" 56 yX5_setPoint ∈ lw_good := List.mem_filter.mpr ⟨List.mem_of_getElem? (i := 714) (by decide +kernel), by decide +kernel⟩
theorem w_715 : Cond.instanceMethod yX5_setPoint ∈ lw_good := List.mem_filter.mpr ⟨List.mem_of_getElem? (i := 715) (by decide +kernel), by decide +kernel⟩
theorem w_716 : Cond.selects "IndicatorDiagramModel" yX5_setPoint yX5_setPoint ∈ lw_good := List.mem_filter.mpr ⟨List.mem_of_getElem? (i := 716) (by decide +kernel), by decide +kernel⟩
theorem w_717 : Cond.code yX5_setPoint cX5_setPoint 4 (some FieldType.int) ∈ lw_good := List.mem_filter.mpr ⟨List.mem_of_getElem? (i := 717) (by decide +kernel), by decide +kernel⟩
theorem w_718 : Cond.methodLink "IndicatorDiagramModel" 38 yX5_points ∈ lw_good := List.mem_filter.mpr ⟨List.mem_of_getElem? (i := 718) (by decide +kernel), by decide +kernel⟩
theorem w_720 : Cond.instanceMethod yX5_points ∈ lw_good := List.mem_filter.mpr ⟨List.mem_of_getElem? (i := 720) (by decide +kernel), by decide +kernel⟩
theorem w_721 : Cond.code yX5_points cX5_points 4 (some FieldType.int) ∈ lw_good := List.mem_filter.mpr ⟨List.mem_of_getElem? (i := 721) (by decide +kernel), by decide +kernel⟩
theorem w_722 : Cond.methodLink "IndicatorDiagramLaw" 61 yX5_finishCard ∈ lw_good := List.mem_filter.mpr ⟨List.mem_of_getElem? (i := 722) (by decide +kernel), by decide +kernel⟩
theorem w_723 : Cond.instanceMethod yX5_finishCard ∈ lw_good := List.mem_filter.mpr ⟨List.mem_of_getElem? (i := 723) (by decide +kernel), by decide +kernel⟩
theorem w_724 : Cond.selects "IndicatorDiagramModel" yX5_finishCard yX5_finishCard ∈ lw_good := List.mem_filter.mpr ⟨List.mem_of_getElem? (i := 724) (by decide +kernel), by decide +kernel⟩
theorem w_725 : Cond.code yX5_finishCard cX5_finishCard 2 (some FieldType.int) ∈ lw_good := List.mem_filter.mpr ⟨List.mem_of_getElem? (i := 725) (by decide +kernel), by decide +kernel⟩
theorem w_726 : Cond.constant "IndicatorDiagramModel" 52 (-2000000003) ∈ lw_good := List.mem_filter.mpr ⟨List.mem_of_getElem? (i := 726) (by decide +kernel), by decide +kernel⟩
theorem w_727 : Cond.methodLink "IndicatorDiagramModel" 53 yX5_drafted ∈ lw_good := List.mem_filter.mpr ⟨List.mem_of_getElem? (i := 727) (by decide +kernel), by decide +kernel⟩
theorem w_729 : Cond.instanceMethod yX5_drafted ∈ lw_good := List.mem_filter.mpr ⟨List.mem_of_getElem? (i := 729) (by decide +kernel), by decide +kernel⟩
theorem w_730 : Cond.code yX5_drafted cX5_drafted 7 (some FieldType.int) ∈ lw_good := List.mem_filter.mpr ⟨List.mem_of_getElem? (i := 730) (by decide +kernel), by decide +kernel⟩
theorem w_731 : Cond.methodLink "IndicatorDiagramModel" 42 yX5_quotient ∈ lw_good := List.mem_filter.mpr ⟨List.mem_of_getElem? (i := 731) (by decide +kernel), by decide +kernel⟩
theorem w_732 : Cond.static yX5_quotient ∈ lw_good := List.mem_filter.mpr ⟨List.mem_of_getElem? (i := 732) (by decide +kernel), by decide +kernel⟩
theorem w_733 : Cond.code yX5_quotient cX5_quotient 4 (some FieldType.long) ∈ lw_good := List.mem_filter.mpr ⟨List.mem_of_getElem? (i := 733) (by decide +kernel), by decide +kernel⟩
theorem w_734 : Cond.methodLink "IndicatorDiagramModel" 57 yX5_addCard ∈ lw_good := List.mem_filter.mpr ⟨List.mem_of_getElem? (i := 734) (by decide +kernel), by decide +kernel⟩
theorem w_736 : Cond.instanceMethod yX5_addCard ∈ lw_good := List.mem_filter.mpr ⟨List.mem_of_getElem? (i := 736) (by decide +kernel), by decide +kernel⟩
theorem w_737 : Cond.code yX5_addCard cX5_addCard 5 (some FieldType.int) ∈ lw_good := List.mem_filter.mpr ⟨List.mem_of_getElem? (i := 737) (by decide +kernel), by decide +kernel⟩
theorem w_738 : Cond.methodLink "IndicatorDiagramModel" 46 yX5_endAt ∈ lw_good := List.mem_filter.mpr ⟨List.mem_of_getElem? (i := 738) (by decide +kernel), by decide +kernel⟩
theorem w_739 : Cond.static yX5_endAt ∈ lw_good := List.mem_filter.mpr ⟨List.mem_of_getElem? (i := 739) (by decide +kernel), by decide +kernel⟩
theorem w_740 : Cond.code yX5_endAt cX5_endAt 1 (some FieldType.int) ∈ lw_good := List.mem_filter.mpr ⟨List.mem_of_getElem? (i := 740) (by decide +kernel), by decide +kernel⟩
theorem w_741 : Cond.methodLink "IndicatorDiagramModel" 49 yX5_at ∈ lw_good := List.mem_filter.mpr ⟨List.mem_of_getElem? (i := 741) (by decide +kernel), by decide +kernel⟩
theorem w_742 : Cond.static yX5_at ∈ lw_good := List.mem_filter.mpr ⟨List.mem_of_getElem? (i := 742) (by decide +kernel), by decide +kernel⟩
theorem w_743 : Cond.code yX5_at cX5_at 1 (some FieldType.int) ∈ lw_good := List.mem_filter.mpr ⟨List.mem_of_getElem? (i := 743) (by decide +kernel), by decide +kernel⟩
theorem w_744 : Cond.methodLink "IndicatorDiagramLaw" 66 yX5_addIdealCard ∈ lw_good := List.mem_filter.mpr ⟨List.mem_of_getElem? (i := 744) (by decide +kernel), by decide +kernel⟩
theorem w_745 : Cond.instanceMethod yX5_addIdealCard ∈ lw_good := List.mem_filter.mpr ⟨List.mem_of_getElem? (i := 745) (by decide +kernel), by decide +kernel⟩
theorem w_746 : Cond.selects "IndicatorDiagramModel" yX5_addIdealCard yX5_addIdealCard ∈ lw_good := List.mem_filter.mpr ⟨List.mem_of_getElem? (i := 746) (by decide +kernel), by decide +kernel⟩
theorem w_747 : Cond.code yX5_addIdealCard cX5_addIdealCard 9 (some FieldType.int) ∈ lw_good := List.mem_filter.mpr ⟨List.mem_of_getElem? (i := 747) (by decide +kernel), by decide +kernel⟩
theorem w_748 : Cond.methodLink "IndicatorDiagramModel" 65 yX5_valveOf ∈ lw_good := List.mem_filter.mpr ⟨List.mem_of_getElem? (i := 748) (by decide +kernel), by decide +kernel⟩
theorem w_750 : Cond.instanceMethod yX5_valveOf ∈ lw_good := List.mem_filter.mpr ⟨List.mem_of_getElem? (i := 750) (by decide +kernel), by decide +kernel⟩
theorem w_751 : Cond.code yX5_valveOf cX5_valveOf 3 (some FieldType.int) ∈ lw_good := List.mem_filter.mpr ⟨List.mem_of_getElem? (i := 751) (by decide +kernel), by decide +kernel⟩
theorem w_752 : Cond.methodLink "IndicatorDiagramModel" 68 yX5_draw ∈ lw_good := List.mem_filter.mpr ⟨List.mem_of_getElem? (i := 752) (by decide +kernel), by decide +kernel⟩
theorem w_754 : Cond.instanceMethod yX5_draw ∈ lw_good := List.mem_filter.mpr ⟨List.mem_of_getElem? (i := 754) (by decide +kernel), by decide +kernel⟩
theorem w_755 : Cond.code yX5_draw cX5_draw 11 none ∈ lw_good := List.mem_filter.mpr ⟨List.mem_of_getElem? (i := 755) (by decide +kernel), by decide +kernel⟩
theorem w_756 : Cond.methodLink "IndicatorDiagramModel" 60 yX5_volume ∈ lw_good := List.mem_filter.mpr ⟨List.mem_of_getElem? (i := 756) (by decide +kernel), by decide +kernel⟩
theorem w_758 : Cond.instanceMethod yX5_volume ∈ lw_good := List.mem_filter.mpr ⟨List.mem_of_getElem? (i := 758) (by decide +kernel), by decide +kernel⟩
theorem w_759 : Cond.code yX5_volume cX5_volume 2 (some FieldType.int) ∈ lw_good := List.mem_filter.mpr ⟨List.mem_of_getElem? (i := 759) (by decide +kernel), by decide +kernel⟩
theorem w_760 : Cond.constantLong "IndicatorDiagramModel" 63 1000 ∈ lw_good := List.mem_filter.mpr ⟨List.mem_of_getElem? (i := 760) (by decide +kernel), by decide +kernel⟩
theorem w_761 : Cond.methodLink "IndicatorDiagramLaw" 70 yX5_removeCard ∈ lw_good := List.mem_filter.mpr ⟨List.mem_of_getElem? (i := 761) (by decide +kernel), by decide +kernel⟩
theorem w_762 : Cond.instanceMethod yX5_removeCard ∈ lw_good := List.mem_filter.mpr ⟨List.mem_of_getElem? (i := 762) (by decide +kernel), by decide +kernel⟩
theorem w_763 : Cond.selects "IndicatorDiagramModel" yX5_removeCard yX5_removeCard ∈ lw_good := List.mem_filter.mpr ⟨List.mem_of_getElem? (i := 763) (by decide +kernel), by decide +kernel⟩
theorem w_764 : Cond.code yX5_removeCard cX5_removeCard 2 (some FieldType.int) ∈ lw_good := List.mem_filter.mpr ⟨List.mem_of_getElem? (i := 764) (by decide +kernel), by decide +kernel⟩
theorem w_765 : Cond.methodLink "IndicatorDiagramModel" 72 yX5_isCard ∈ lw_good := List.mem_filter.mpr ⟨List.mem_of_getElem? (i := 765) (by decide +kernel), by decide +kernel⟩
theorem w_767 : Cond.instanceMethod yX5_isCard ∈ lw_good := List.mem_filter.mpr ⟨List.mem_of_getElem? (i := 767) (by decide +kernel), by decide +kernel⟩
theorem w_768 : Cond.code yX5_isCard cX5_isCard 2 (some FieldType.boolean) ∈ lw_good := List.mem_filter.mpr ⟨List.mem_of_getElem? (i := 768) (by decide +kernel), by decide +kernel⟩
theorem w_769 : Cond.methodLink "IndicatorDiagramModel" 75 yX5_remove ∈ lw_good := List.mem_filter.mpr ⟨List.mem_of_getElem? (i := 769) (by decide +kernel), by decide +kernel⟩
theorem w_771 : Cond.instanceMethod yX5_remove ∈ lw_good := List.mem_filter.mpr ⟨List.mem_of_getElem? (i := 771) (by decide +kernel), by decide +kernel⟩
theorem w_772 : Cond.code yX5_remove cX5_remove 3 none ∈ lw_good := List.mem_filter.mpr ⟨List.mem_of_getElem? (i := 772) (by decide +kernel), by decide +kernel⟩
theorem w_773 : Cond.methodLink "IndicatorDiagramLaw" 74 yX5_cardCount ∈ lw_good := List.mem_filter.mpr ⟨List.mem_of_getElem? (i := 773) (by decide +kernel), by decide +kernel⟩
theorem w_774 : Cond.instanceMethod yX5_cardCount ∈ lw_good := List.mem_filter.mpr ⟨List.mem_of_getElem? (i := 774) (by decide +kernel), by decide +kernel⟩
theorem w_775 : Cond.selects "IndicatorDiagramModel" yX5_cardCount yX5_cardCount ∈ lw_good := List.mem_filter.mpr ⟨List.mem_of_getElem? (i := 775) (by decide +kernel), by decide +kernel⟩
theorem w_776 : Cond.code yX5_cardCount cX5_cardCount 1 (some FieldType.int) ∈ lw_good := List.mem_filter.mpr ⟨List.mem_of_getElem? (i := 776) (by decide +kernel), by decide +kernel⟩
theorem w_777 : Cond.methodLink "IndicatorDiagramLaw" 78 yX5_end ∈ lw_good := List.mem_filter.mpr ⟨List.mem_of_getElem? (i := 777) (by decide +kernel), by decide +kernel⟩
theorem w_778 : Cond.instanceMethod yX5_end ∈ lw_good := List.mem_filter.mpr ⟨List.mem_of_getElem? (i := 778) (by decide +kernel), by decide +kernel⟩
theorem w_779 : Cond.selects "IndicatorDiagramModel" yX5_end yX5_end ∈ lw_good := List.mem_filter.mpr ⟨List.mem_of_getElem? (i := 779) (by decide +kernel), by decide +kernel⟩
theorem w_780 : Cond.code yX5_end cX5_end 2 (some FieldType.int) ∈ lw_good := List.mem_filter.mpr ⟨List.mem_of_getElem? (i := 780) (by decide +kernel), by decide +kernel⟩
theorem w_781 : Cond.methodLink "IndicatorDiagramLaw" 82 yX5_speed ∈ lw_good := List.mem_filter.mpr ⟨List.mem_of_getElem? (i := 781) (by decide +kernel), by decide +kernel⟩
theorem w_782 : Cond.instanceMethod yX5_speed ∈ lw_good := List.mem_filter.mpr ⟨List.mem_of_getElem? (i := 782) (by decide +kernel), by decide +kernel⟩
theorem w_783 : Cond.selects "IndicatorDiagramModel" yX5_speed yX5_speed ∈ lw_good := List.mem_filter.mpr ⟨List.mem_of_getElem? (i := 783) (by decide +kernel), by decide +kernel⟩
theorem w_784 : Cond.code yX5_speed cX5_speed 2 (some FieldType.int) ∈ lw_good := List.mem_filter.mpr ⟨List.mem_of_getElem? (i := 784) (by decide +kernel), by decide +kernel⟩
theorem w_785 : Cond.methodLink "IndicatorDiagramLaw" 86 yX5_pressure ∈ lw_good := List.mem_filter.mpr ⟨List.mem_of_getElem? (i := 785) (by decide +kernel), by decide +kernel⟩
theorem w_786 : Cond.instanceMethod yX5_pressure ∈ lw_good := List.mem_filter.mpr ⟨List.mem_of_getElem? (i := 786) (by decide +kernel), by decide +kernel⟩
theorem w_787 : Cond.selects "IndicatorDiagramModel" yX5_pressure yX5_pressure ∈ lw_good := List.mem_filter.mpr ⟨List.mem_of_getElem? (i := 787) (by decide +kernel), by decide +kernel⟩
theorem w_788 : Cond.code yX5_pressure cX5_pressure 4 (some FieldType.int) ∈ lw_good := List.mem_filter.mpr ⟨List.mem_of_getElem? (i := 788) (by decide +kernel), by decide +kernel⟩
theorem w_789 : Cond.methodLink "IndicatorDiagramLaw" 90 yX5_area ∈ lw_good := List.mem_filter.mpr ⟨List.mem_of_getElem? (i := 789) (by decide +kernel), by decide +kernel⟩
theorem w_790 : Cond.instanceMethod yX5_area ∈ lw_good := List.mem_filter.mpr ⟨List.mem_of_getElem? (i := 790) (by decide +kernel), by decide +kernel⟩
theorem w_791 : Cond.selects "IndicatorDiagramModel" yX5_area yX5_area ∈ lw_good := List.mem_filter.mpr ⟨List.mem_of_getElem? (i := 791) (by decide +kernel), by decide +kernel⟩
theorem w_792 : Cond.code yX5_area cX5_area 2 (some FieldType.int) ∈ lw_good := List.mem_filter.mpr ⟨List.mem_of_getElem? (i := 792) (by decide +kernel), by decide +kernel⟩
theorem w_793 : Cond.methodLink "IndicatorDiagramModel" 88 yX5_areaAt ∈ lw_good := List.mem_filter.mpr ⟨List.mem_of_getElem? (i := 793) (by decide +kernel), by decide +kernel⟩
theorem w_795 : Cond.instanceMethod yX5_areaAt ∈ lw_good := List.mem_filter.mpr ⟨List.mem_of_getElem? (i := 795) (by decide +kernel), by decide +kernel⟩
theorem w_796 : Cond.code yX5_areaAt cX5_areaAt 4 (some FieldType.int) ∈ lw_good := List.mem_filter.mpr ⟨List.mem_of_getElem? (i := 796) (by decide +kernel), by decide +kernel⟩
theorem w_797 : Cond.methodLink "IndicatorDiagramModel" 79 yX5_difference ∈ lw_good := List.mem_filter.mpr ⟨List.mem_of_getElem? (i := 797) (by decide +kernel), by decide +kernel⟩
theorem w_799 : Cond.instanceMethod yX5_difference ∈ lw_good := List.mem_filter.mpr ⟨List.mem_of_getElem? (i := 799) (by decide +kernel), by decide +kernel⟩
theorem w_800 : Cond.code yX5_difference cX5_difference 3 (some FieldType.int) ∈ lw_good := List.mem_filter.mpr ⟨List.mem_of_getElem? (i := 800) (by decide +kernel), by decide +kernel⟩
theorem w_801 : Cond.methodLink "IndicatorDiagramLaw" 94 yX5_forwardArea ∈ lw_good := List.mem_filter.mpr ⟨List.mem_of_getElem? (i := 801) (by decide +kernel), by decide +kernel⟩
theorem w_802 : Cond.instanceMethod yX5_forwardArea ∈ lw_good := List.mem_filter.mpr ⟨List.mem_of_getElem? (i := 802) (by decide +kernel), by decide +kernel⟩
theorem w_803 : Cond.selects "IndicatorDiagramModel" yX5_forwardArea yX5_forwardArea ∈ lw_good := List.mem_filter.mpr ⟨List.mem_of_getElem? (i := 803) (by decide +kernel), by decide +kernel⟩
theorem w_804 : Cond.code yX5_forwardArea cX5_forwardArea 2 (some FieldType.int) ∈ lw_good := List.mem_filter.mpr ⟨List.mem_of_getElem? (i := 804) (by decide +kernel), by decide +kernel⟩
theorem w_805 : Cond.methodLink "IndicatorDiagramModel" 91 yX5_parts ∈ lw_good := List.mem_filter.mpr ⟨List.mem_of_getElem? (i := 805) (by decide +kernel), by decide +kernel⟩
theorem w_807 : Cond.instanceMethod yX5_parts ∈ lw_good := List.mem_filter.mpr ⟨List.mem_of_getElem? (i := 807) (by decide +kernel), by decide +kernel⟩
theorem w_808 : Cond.code yX5_parts cX5_parts 5 (some FieldType.int) ∈ lw_good := List.mem_filter.mpr ⟨List.mem_of_getElem? (i := 808) (by decide +kernel), by decide +kernel⟩
theorem w_809 : Cond.methodLink "IndicatorDiagramModel" 82 yX5_part ∈ lw_good := List.mem_filter.mpr ⟨List.mem_of_getElem? (i := 809) (by decide +kernel), by decide +kernel⟩
theorem w_810 : Cond.static yX5_part ∈ lw_good := List.mem_filter.mpr ⟨List.mem_of_getElem? (i := 810) (by decide +kernel), by decide +kernel⟩
theorem w_811 : Cond.code yX5_part cX5_part 5 (some FieldType.int) ∈ lw_good := List.mem_filter.mpr ⟨List.mem_of_getElem? (i := 811) (by decide +kernel), by decide +kernel⟩
theorem w_812 : Cond.methodLink "IndicatorDiagramLaw" 98 yX5_loopArea ∈ lw_good := List.mem_filter.mpr ⟨List.mem_of_getElem? (i := 812) (by decide +kernel), by decide +kernel⟩
theorem w_813 : Cond.instanceMethod yX5_loopArea ∈ lw_good := List.mem_filter.mpr ⟨List.mem_of_getElem? (i := 813) (by decide +kernel), by decide +kernel⟩
theorem w_814 : Cond.selects "IndicatorDiagramModel" yX5_loopArea yX5_loopArea ∈ lw_good := List.mem_filter.mpr ⟨List.mem_of_getElem? (i := 814) (by decide +kernel), by decide +kernel⟩
theorem w_815 : Cond.code yX5_loopArea cX5_loopArea 2 (some FieldType.int) ∈ lw_good := List.mem_filter.mpr ⟨List.mem_of_getElem? (i := 815) (by decide +kernel), by decide +kernel⟩
theorem w_816 : Cond.methodLink "IndicatorDiagramLaw" 102 yX5_loopStations ∈ lw_good := List.mem_filter.mpr ⟨List.mem_of_getElem? (i := 816) (by decide +kernel), by decide +kernel⟩
theorem w_817 : Cond.instanceMethod yX5_loopStations ∈ lw_good := List.mem_filter.mpr ⟨List.mem_of_getElem? (i := 817) (by decide +kernel), by decide +kernel⟩
theorem w_818 : Cond.selects "IndicatorDiagramModel" yX5_loopStations yX5_loopStations ∈ lw_good := List.mem_filter.mpr ⟨List.mem_of_getElem? (i := 818) (by decide +kernel), by decide +kernel⟩
theorem w_819 : Cond.code yX5_loopStations cX5_loopStations 4 (some FieldType.int) ∈ lw_good := List.mem_filter.mpr ⟨List.mem_of_getElem? (i := 819) (by decide +kernel), by decide +kernel⟩
theorem w_820 : Cond.methodLink "IndicatorDiagramLaw" 106 yX5_meanPressure ∈ lw_good := List.mem_filter.mpr ⟨List.mem_of_getElem? (i := 820) (by decide +kernel), by decide +kernel⟩
theorem w_821 : Cond.instanceMethod yX5_meanPressure ∈ lw_good := List.mem_filter.mpr ⟨List.mem_of_getElem? (i := 821) (by decide +kernel), by decide +kernel⟩
theorem w_822 : Cond.selects "IndicatorDiagramModel" yX5_meanPressure yX5_meanPressure ∈ lw_good := List.mem_filter.mpr ⟨List.mem_of_getElem? (i := 822) (by decide +kernel), by decide +kernel⟩
theorem w_823 : Cond.code yX5_meanPressure cX5_meanPressure 2 (some FieldType.int) ∈ lw_good := List.mem_filter.mpr ⟨List.mem_of_getElem? (i := 823) (by decide +kernel), by decide +kernel⟩
theorem w_824 : Cond.constantLong "IndicatorDiagramModel" 95 40 ∈ lw_good := List.mem_filter.mpr ⟨List.mem_of_getElem? (i := 824) (by decide +kernel), by decide +kernel⟩
theorem w_825 : Cond.methodLink "IndicatorDiagramLaw" 111 yX5_power ∈ lw_good := List.mem_filter.mpr ⟨List.mem_of_getElem? (i := 825) (by decide +kernel), by decide +kernel⟩
theorem w_826 : Cond.instanceMethod yX5_power ∈ lw_good := List.mem_filter.mpr ⟨List.mem_of_getElem? (i := 826) (by decide +kernel), by decide +kernel⟩
theorem w_827 : Cond.selects "IndicatorDiagramModel" yX5_power yX5_power ∈ lw_good := List.mem_filter.mpr ⟨List.mem_of_getElem? (i := 827) (by decide +kernel), by decide +kernel⟩
theorem w_828 : Cond.code yX5_power cX5_power 2 (some FieldType.long) ∈ lw_good := List.mem_filter.mpr ⟨List.mem_of_getElem? (i := 828) (by decide +kernel), by decide +kernel⟩
theorem w_829 : Cond.methodLink "IndicatorDiagramModel" 101 yX5_powerAt ∈ lw_good := List.mem_filter.mpr ⟨List.mem_of_getElem? (i := 829) (by decide +kernel), by decide +kernel⟩
theorem w_831 : Cond.instanceMethod yX5_powerAt ∈ lw_good := List.mem_filter.mpr ⟨List.mem_of_getElem? (i := 831) (by decide +kernel), by decide +kernel⟩
theorem w_832 : Cond.code yX5_powerAt cX5_powerAt 2 (some FieldType.long) ∈ lw_good := List.mem_filter.mpr ⟨List.mem_of_getElem? (i := 832) (by decide +kernel), by decide +kernel⟩
theorem w_833 : Cond.methodLink "IndicatorDiagramModel" 97 yX5_powerOf ∈ lw_good := List.mem_filter.mpr ⟨List.mem_of_getElem? (i := 833) (by decide +kernel), by decide +kernel⟩
theorem w_835 : Cond.instanceMethod yX5_powerOf ∈ lw_good := List.mem_filter.mpr ⟨List.mem_of_getElem? (i := 835) (by decide +kernel), by decide +kernel⟩
theorem w_836 : Cond.code yX5_powerOf cX5_powerOf 4 (some FieldType.long) ∈ lw_good := List.mem_filter.mpr ⟨List.mem_of_getElem? (i := 836) (by decide +kernel), by decide +kernel⟩
theorem w_837 : Cond.constantLong "IndicatorDiagramModel" 86 2400000 ∈ lw_good := List.mem_filter.mpr ⟨List.mem_of_getElem? (i := 837) (by decide +kernel), by decide +kernel⟩
theorem w_838 : Cond.constantLong "IndicatorDiagramModel" 105 (-2000000001) ∈ lw_good := List.mem_filter.mpr ⟨List.mem_of_getElem? (i := 838) (by decide +kernel), by decide +kernel⟩
theorem w_839 : Cond.methodLink "IndicatorDiagramLaw" 115 yX5_event ∈ lw_good := List.mem_filter.mpr ⟨List.mem_of_getElem? (i := 839) (by decide +kernel), by decide +kernel⟩
theorem w_840 : Cond.instanceMethod yX5_event ∈ lw_good := List.mem_filter.mpr ⟨List.mem_of_getElem? (i := 840) (by decide +kernel), by decide +kernel⟩
theorem w_841 : Cond.selects "IndicatorDiagramModel" yX5_event yX5_event ∈ lw_good := List.mem_filter.mpr ⟨List.mem_of_getElem? (i := 841) (by decide +kernel), by decide +kernel⟩
theorem w_842 : Cond.code yX5_event cX5_event 3 (some FieldType.int) ∈ lw_good := List.mem_filter.mpr ⟨List.mem_of_getElem? (i := 842) (by decide +kernel), by decide +kernel⟩
theorem w_843 : Cond.methodLink "IndicatorDiagramModel" 125 yX5_eventOf ∈ lw_good := List.mem_filter.mpr ⟨List.mem_of_getElem? (i := 843) (by decide +kernel), by decide +kernel⟩
theorem w_845 : Cond.instanceMethod yX5_eventOf ∈ lw_good := List.mem_filter.mpr ⟨List.mem_of_getElem? (i := 845) (by decide +kernel), by decide +kernel⟩
theorem w_846 : Cond.code yX5_eventOf cX5_eventOf 4 (some FieldType.int) ∈ lw_good := List.mem_filter.mpr ⟨List.mem_of_getElem? (i := 846) (by decide +kernel), by decide +kernel⟩
theorem w_847 : Cond.methodLink "IndicatorDiagramModel" 110 yX5_admission ∈ lw_good := List.mem_filter.mpr ⟨List.mem_of_getElem? (i := 847) (by decide +kernel), by decide +kernel⟩
theorem w_849 : Cond.instanceMethod yX5_admission ∈ lw_good := List.mem_filter.mpr ⟨List.mem_of_getElem? (i := 849) (by decide +kernel), by decide +kernel⟩
theorem w_850 : Cond.code yX5_admission cX5_admission 4 (some FieldType.int) ∈ lw_good := List.mem_filter.mpr ⟨List.mem_of_getElem? (i := 850) (by decide +kernel), by decide +kernel⟩
theorem w_851 : Cond.methodLink "IndicatorDiagramModel" 107 yX5_extreme ∈ lw_good := List.mem_filter.mpr ⟨List.mem_of_getElem? (i := 851) (by decide +kernel), by decide +kernel⟩
theorem w_853 : Cond.instanceMethod yX5_extreme ∈ lw_good := List.mem_filter.mpr ⟨List.mem_of_getElem? (i := 853) (by decide +kernel), by decide +kernel⟩
theorem w_854 : Cond.code yX5_extreme cX5_extreme 6 (some FieldType.int) ∈ lw_good := List.mem_filter.mpr ⟨List.mem_of_getElem? (i := 854) (by decide +kernel), by decide +kernel⟩
theorem w_855 : Cond.methodLink "IndicatorDiagramModel" 113 yX5_cutOff ∈ lw_good := List.mem_filter.mpr ⟨List.mem_of_getElem? (i := 855) (by decide +kernel), by decide +kernel⟩
theorem w_857 : Cond.instanceMethod yX5_cutOff ∈ lw_good := List.mem_filter.mpr ⟨List.mem_of_getElem? (i := 857) (by decide +kernel), by decide +kernel⟩
theorem w_858 : Cond.code yX5_cutOff cX5_cutOff 4 (some FieldType.int) ∈ lw_good := List.mem_filter.mpr ⟨List.mem_of_getElem? (i := 858) (by decide +kernel), by decide +kernel⟩
theorem w_859 : Cond.methodLink "IndicatorDiagramModel" 119 yX5_release ∈ lw_good := List.mem_filter.mpr ⟨List.mem_of_getElem? (i := 859) (by decide +kernel), by decide +kernel⟩
theorem w_861 : Cond.instanceMethod yX5_release ∈ lw_good := List.mem_filter.mpr ⟨List.mem_of_getElem? (i := 861) (by decide +kernel), by decide +kernel⟩
theorem w_862 : Cond.code yX5_release cX5_release 5 (some FieldType.int) ∈ lw_good := List.mem_filter.mpr ⟨List.mem_of_getElem? (i := 862) (by decide +kernel), by decide +kernel⟩
theorem w_863 : Cond.methodLink "IndicatorDiagramModel" 116 yX5_constantAt ∈ lw_good := List.mem_filter.mpr ⟨List.mem_of_getElem? (i := 863) (by decide +kernel), by decide +kernel⟩
theorem w_865 : Cond.instanceMethod yX5_constantAt ∈ lw_good := List.mem_filter.mpr ⟨List.mem_of_getElem? (i := 865) (by decide +kernel), by decide +kernel⟩
theorem w_866 : Cond.code yX5_constantAt cX5_constantAt 3 (some FieldType.int) ∈ lw_good := List.mem_filter.mpr ⟨List.mem_of_getElem? (i := 866) (by decide +kernel), by decide +kernel⟩
theorem w_867 : Cond.methodLink "IndicatorDiagramModel" 122 yX5_compression ∈ lw_good := List.mem_filter.mpr ⟨List.mem_of_getElem? (i := 867) (by decide +kernel), by decide +kernel⟩
theorem w_869 : Cond.instanceMethod yX5_compression ∈ lw_good := List.mem_filter.mpr ⟨List.mem_of_getElem? (i := 869) (by decide +kernel), by decide +kernel⟩
theorem w_870 : Cond.code yX5_compression cX5_compression 4 (some FieldType.int) ∈ lw_good := List.mem_filter.mpr ⟨List.mem_of_getElem? (i := 870) (by decide +kernel), by decide +kernel⟩
theorem w_871 : Cond.methodLink "IndicatorDiagramLaw" 119 yX5_lateness ∈ lw_good := List.mem_filter.mpr ⟨List.mem_of_getElem? (i := 871) (by decide +kernel), by decide +kernel⟩
theorem w_872 : Cond.instanceMethod yX5_lateness ∈ lw_good := List.mem_filter.mpr ⟨List.mem_of_getElem? (i := 872) (by decide +kernel), by decide +kernel⟩
theorem w_873 : Cond.selects "IndicatorDiagramModel" yX5_lateness yX5_lateness ∈ lw_good := List.mem_filter.mpr ⟨List.mem_of_getElem? (i := 873) (by decide +kernel), by decide +kernel⟩
theorem w_874 : Cond.code yX5_lateness cX5_lateness 3 (some FieldType.int) ∈ lw_good := List.mem_filter.mpr ⟨List.mem_of_getElem? (i := 874) (by decide +kernel), by decide +kernel⟩
theorem w_875 : Cond.methodLink "IndicatorDiagramModel" 128 yX5_latenessOf ∈ lw_good := List.mem_filter.mpr ⟨List.mem_of_getElem? (i := 875) (by decide +kernel), by decide +kernel⟩
theorem w_877 : Cond.instanceMethod yX5_latenessOf ∈ lw_good := List.mem_filter.mpr ⟨List.mem_of_getElem? (i := 877) (by decide +kernel), by decide +kernel⟩
theorem w_878 : Cond.code yX5_latenessOf cX5_latenessOf 4 (some FieldType.int) ∈ lw_good := List.mem_filter.mpr ⟨List.mem_of_getElem? (i := 878) (by decide +kernel), by decide +kernel⟩
theorem w_879 : Cond.methodLink "IndicatorDiagramLaw" 123 yX5_slip ∈ lw_good := List.mem_filter.mpr ⟨List.mem_of_getElem? (i := 879) (by decide +kernel), by decide +kernel⟩
theorem w_880 : Cond.instanceMethod yX5_slip ∈ lw_good := List.mem_filter.mpr ⟨List.mem_of_getElem? (i := 880) (by decide +kernel), by decide +kernel⟩
theorem w_881 : Cond.selects "IndicatorDiagramModel" yX5_slip yX5_slip ∈ lw_good := List.mem_filter.mpr ⟨List.mem_of_getElem? (i := 881) (by decide +kernel), by decide +kernel⟩
theorem w_882 : Cond.code yX5_slip cX5_slip 4 (some FieldType.int) ∈ lw_good := List.mem_filter.mpr ⟨List.mem_of_getElem? (i := 882) (by decide +kernel), by decide +kernel⟩
theorem w_883 : Cond.methodLink "IndicatorDiagramModel" 134 yX5_offBy ∈ lw_good := List.mem_filter.mpr ⟨List.mem_of_getElem? (i := 883) (by decide +kernel), by decide +kernel⟩
theorem w_885 : Cond.instanceMethod yX5_offBy ∈ lw_good := List.mem_filter.mpr ⟨List.mem_of_getElem? (i := 885) (by decide +kernel), by decide +kernel⟩
theorem w_886 : Cond.code yX5_offBy cX5_offBy 5 (some FieldType.int) ∈ lw_good := List.mem_filter.mpr ⟨List.mem_of_getElem? (i := 886) (by decide +kernel), by decide +kernel⟩
theorem w_887 : Cond.methodLink "IndicatorDiagramModel" 131 yX5_size ∈ lw_good := List.mem_filter.mpr ⟨List.mem_of_getElem? (i := 887) (by decide +kernel), by decide +kernel⟩
theorem w_888 : Cond.static yX5_size ∈ lw_good := List.mem_filter.mpr ⟨List.mem_of_getElem? (i := 888) (by decide +kernel), by decide +kernel⟩
theorem w_889 : Cond.code yX5_size cX5_size 1 (some FieldType.int) ∈ lw_good := List.mem_filter.mpr ⟨List.mem_of_getElem? (i := 889) (by decide +kernel), by decide +kernel⟩
theorem w_890 : Cond.methodLink "IndicatorDiagramLaw" 127 yX5_constant ∈ lw_good := List.mem_filter.mpr ⟨List.mem_of_getElem? (i := 890) (by decide +kernel), by decide +kernel⟩
theorem w_891 : Cond.instanceMethod yX5_constant ∈ lw_good := List.mem_filter.mpr ⟨List.mem_of_getElem? (i := 891) (by decide +kernel), by decide +kernel⟩
theorem w_892 : Cond.selects "IndicatorDiagramModel" yX5_constant yX5_constant ∈ lw_good := List.mem_filter.mpr ⟨List.mem_of_getElem? (i := 892) (by decide +kernel), by decide +kernel⟩
theorem w_893 : Cond.code yX5_constant cX5_constant 3 (some FieldType.int) ∈ lw_good := List.mem_filter.mpr ⟨List.mem_of_getElem? (i := 893) (by decide +kernel), by decide +kernel⟩
theorem w_894 : Cond.methodLink "IndicatorDiagramLaw" 131 yX5_leakage ∈ lw_good := List.mem_filter.mpr ⟨List.mem_of_getElem? (i := 894) (by decide +kernel), by decide +kernel⟩
theorem w_895 : Cond.instanceMethod yX5_leakage ∈ lw_good := List.mem_filter.mpr ⟨List.mem_of_getElem? (i := 895) (by decide +kernel), by decide +kernel⟩
theorem w_896 : Cond.selects "IndicatorDiagramModel" yX5_leakage yX5_leakage ∈ lw_good := List.mem_filter.mpr ⟨List.mem_of_getElem? (i := 896) (by decide +kernel), by decide +kernel⟩
theorem w_897 : Cond.code yX5_leakage cX5_leakage 5 (some FieldType.int) ∈ lw_good := List.mem_filter.mpr ⟨List.mem_of_getElem? (i := 897) (by decide +kernel), by decide +kernel⟩
theorem w_898 : Cond.constant "IndicatorDiagramModel" 137 (-2000000004) ∈ lw_good := List.mem_filter.mpr ⟨List.mem_of_getElem? (i := 898) (by decide +kernel), by decide +kernel⟩
theorem w_899 : Cond.methodLink "IndicatorDiagramLaw" 135 yX5_cardsOf ∈ lw_good := List.mem_filter.mpr ⟨List.mem_of_getElem? (i := 899) (by decide +kernel), by decide +kernel⟩
theorem w_900 : Cond.instanceMethod yX5_cardsOf ∈ lw_good := List.mem_filter.mpr ⟨List.mem_of_getElem? (i := 900) (by decide +kernel), by decide +kernel⟩
theorem w_901 : Cond.selects "IndicatorDiagramModel" yX5_cardsOf yX5_cardsOf ∈ lw_good := List.mem_filter.mpr ⟨List.mem_of_getElem? (i := 901) (by decide +kernel), by decide +kernel⟩
theorem w_902 : Cond.code yX5_cardsOf cX5_cardsOf 2 (some FieldType.int) ∈ lw_good := List.mem_filter.mpr ⟨List.mem_of_getElem? (i := 902) (by decide +kernel), by decide +kernel⟩
theorem w_903 : Cond.methodLink "IndicatorDiagramModel" 138 yX5_many ∈ lw_good := List.mem_filter.mpr ⟨List.mem_of_getElem? (i := 903) (by decide +kernel), by decide +kernel⟩
theorem w_905 : Cond.instanceMethod yX5_many ∈ lw_good := List.mem_filter.mpr ⟨List.mem_of_getElem? (i := 905) (by decide +kernel), by decide +kernel⟩
theorem w_906 : Cond.code yX5_many cX5_many 4 (some FieldType.int) ∈ lw_good := List.mem_filter.mpr ⟨List.mem_of_getElem? (i := 906) (by decide +kernel), by decide +kernel⟩
theorem w_907 : Cond.methodLink "IndicatorDiagramLaw" 139 yX5_meanArea ∈ lw_good := List.mem_filter.mpr ⟨List.mem_of_getElem? (i := 907) (by decide +kernel), by decide +kernel⟩
theorem w_908 : Cond.instanceMethod yX5_meanArea ∈ lw_good := List.mem_filter.mpr ⟨List.mem_of_getElem? (i := 908) (by decide +kernel), by decide +kernel⟩
theorem w_909 : Cond.selects "IndicatorDiagramModel" yX5_meanArea yX5_meanArea ∈ lw_good := List.mem_filter.mpr ⟨List.mem_of_getElem? (i := 909) (by decide +kernel), by decide +kernel⟩
theorem w_910 : Cond.code yX5_meanArea cX5_meanArea 6 (some FieldType.int) ∈ lw_good := List.mem_filter.mpr ⟨List.mem_of_getElem? (i := 910) (by decide +kernel), by decide +kernel⟩
theorem w_911 : Cond.methodLink "IndicatorDiagramLaw" 143 yX5_meanPower ∈ lw_good := List.mem_filter.mpr ⟨List.mem_of_getElem? (i := 911) (by decide +kernel), by decide +kernel⟩
theorem w_912 : Cond.instanceMethod yX5_meanPower ∈ lw_good := List.mem_filter.mpr ⟨List.mem_of_getElem? (i := 912) (by decide +kernel), by decide +kernel⟩
theorem w_913 : Cond.selects "IndicatorDiagramModel" yX5_meanPower yX5_meanPower ∈ lw_good := List.mem_filter.mpr ⟨List.mem_of_getElem? (i := 913) (by decide +kernel), by decide +kernel⟩
theorem w_914 : Cond.code yX5_meanPower cX5_meanPower 2 (some FieldType.long) ∈ lw_good := List.mem_filter.mpr ⟨List.mem_of_getElem? (i := 914) (by decide +kernel), by decide +kernel⟩
theorem w_915 : Cond.constantLong "IndicatorDiagramModel" 141 (-2000000004) ∈ lw_good := List.mem_filter.mpr ⟨List.mem_of_getElem? (i := 915) (by decide +kernel), by decide +kernel⟩
theorem w_916 : Cond.methodLink "IndicatorDiagramModel" 143 yX5_meanPowerOf ∈ lw_good := List.mem_filter.mpr ⟨List.mem_of_getElem? (i := 916) (by decide +kernel), by decide +kernel⟩
theorem w_918 : Cond.instanceMethod yX5_meanPowerOf ∈ lw_good := List.mem_filter.mpr ⟨List.mem_of_getElem? (i := 918) (by decide +kernel), by decide +kernel⟩
theorem w_919 : Cond.code yX5_meanPowerOf cX5_meanPowerOf 5 (some FieldType.long) ∈ lw_good := List.mem_filter.mpr ⟨List.mem_of_getElem? (i := 919) (by decide +kernel), by decide +kernel⟩
theorem w_920 : Cond.methodLink "IndicatorDiagramLaw" 147 yX5_imbalance ∈ lw_good := List.mem_filter.mpr ⟨List.mem_of_getElem? (i := 920) (by decide +kernel), by decide +kernel⟩
theorem w_921 : Cond.instanceMethod yX5_imbalance ∈ lw_good := List.mem_filter.mpr ⟨List.mem_of_getElem? (i := 921) (by decide +kernel), by decide +kernel⟩
theorem w_922 : Cond.selects "IndicatorDiagramModel" yX5_imbalance yX5_imbalance ∈ lw_good := List.mem_filter.mpr ⟨List.mem_of_getElem? (i := 922) (by decide +kernel), by decide +kernel⟩
theorem w_923 : Cond.code yX5_imbalance cX5_imbalance 7 (some FieldType.int) ∈ lw_good := List.mem_filter.mpr ⟨List.mem_of_getElem? (i := 923) (by decide +kernel), by decide +kernel⟩
theorem w_924 : Cond.methodLink "IndicatorDiagramLaw" 151 yX5_removeOutliers ∈ lw_good := List.mem_filter.mpr ⟨List.mem_of_getElem? (i := 924) (by decide +kernel), by decide +kernel⟩
theorem w_925 : Cond.instanceMethod yX5_removeOutliers ∈ lw_good := List.mem_filter.mpr ⟨List.mem_of_getElem? (i := 925) (by decide +kernel), by decide +kernel⟩
theorem w_926 : Cond.selects "IndicatorDiagramModel" yX5_removeOutliers yX5_removeOutliers ∈ lw_good := List.mem_filter.mpr ⟨List.mem_of_getElem? (i := 926) (by decide +kernel), by decide +kernel⟩
theorem w_927 : Cond.code yX5_removeOutliers cX5_removeOutliers 7 (some FieldType.int) ∈ lw_good := List.mem_filter.mpr ⟨List.mem_of_getElem? (i := 927) (by decide +kernel), by decide +kernel⟩
theorem w_928 : Cond.methodLink "IndicatorDiagramModel" 146 yX5_median ∈ lw_good := List.mem_filter.mpr ⟨List.mem_of_getElem? (i := 928) (by decide +kernel), by decide +kernel⟩
theorem w_930 : Cond.instanceMethod yX5_median ∈ lw_good := List.mem_filter.mpr ⟨List.mem_of_getElem? (i := 930) (by decide +kernel), by decide +kernel⟩
theorem w_931 : Cond.code yX5_median cX5_median 9 (some FieldType.int) ∈ lw_good := List.mem_filter.mpr ⟨List.mem_of_getElem? (i := 931) (by decide +kernel), by decide +kernel⟩
theorem w_932 : Cond.methodLink "IndicatorDiagramLaw" 155 yX5_idealArea ∈ lw_good := List.mem_filter.mpr ⟨List.mem_of_getElem? (i := 932) (by decide +kernel), by decide +kernel⟩
theorem w_933 : Cond.instanceMethod yX5_idealArea ∈ lw_good := List.mem_filter.mpr ⟨List.mem_of_getElem? (i := 933) (by decide +kernel), by decide +kernel⟩
theorem w_934 : Cond.selects "IndicatorDiagramModel" yX5_idealArea yX5_idealArea ∈ lw_good := List.mem_filter.mpr ⟨List.mem_of_getElem? (i := 934) (by decide +kernel), by decide +kernel⟩
theorem w_935 : Cond.code yX5_idealArea cX5_idealArea 2 (some FieldType.int) ∈ lw_good := List.mem_filter.mpr ⟨List.mem_of_getElem? (i := 935) (by decide +kernel), by decide +kernel⟩
theorem w_936 : Cond.methodLink "IndicatorDiagramModel" 149 yX5_idealBy ∈ lw_good := List.mem_filter.mpr ⟨List.mem_of_getElem? (i := 936) (by decide +kernel), by decide +kernel⟩
theorem w_938 : Cond.instanceMethod yX5_idealBy ∈ lw_good := List.mem_filter.mpr ⟨List.mem_of_getElem? (i := 938) (by decide +kernel), by decide +kernel⟩
theorem w_939 : Cond.code yX5_idealBy cX5_idealBy 3 (some FieldType.int) ∈ lw_good := List.mem_filter.mpr ⟨List.mem_of_getElem? (i := 939) (by decide +kernel), by decide +kernel⟩
theorem w_940 : Cond.methodLink "IndicatorDiagramLaw" 159 yX5_bestCutOff ∈ lw_good := List.mem_filter.mpr ⟨List.mem_of_getElem? (i := 940) (by decide +kernel), by decide +kernel⟩
theorem w_941 : Cond.instanceMethod yX5_bestCutOff ∈ lw_good := List.mem_filter.mpr ⟨List.mem_of_getElem? (i := 941) (by decide +kernel), by decide +kernel⟩
theorem w_942 : Cond.selects "IndicatorDiagramModel" yX5_bestCutOff yX5_bestCutOff ∈ lw_good := List.mem_filter.mpr ⟨List.mem_of_getElem? (i := 942) (by decide +kernel), by decide +kernel⟩
theorem w_943 : Cond.code yX5_bestCutOff cX5_bestCutOff 8 (some FieldType.int) ∈ lw_good := List.mem_filter.mpr ⟨List.mem_of_getElem? (i := 943) (by decide +kernel), by decide +kernel⟩
theorem w_944 : Cond.constant "IndicatorDiagramModel" 152 (-200000) ∈ lw_good := List.mem_filter.mpr ⟨List.mem_of_getElem? (i := 944) (by decide +kernel), by decide +kernel⟩
theorem w_945 : Cond.constant "IndicatorDiagramModel" 153 200000 ∈ lw_good := List.mem_filter.mpr ⟨List.mem_of_getElem? (i := 945) (by decide +kernel), by decide +kernel⟩
theorem w_946 : Cond.methodLink "IndicatorDiagramModel" 154 yX5_canCut ∈ lw_good := List.mem_filter.mpr ⟨List.mem_of_getElem? (i := 946) (by decide +kernel), by decide +kernel⟩
theorem w_948 : Cond.instanceMethod yX5_canCut ∈ lw_good := List.mem_filter.mpr ⟨List.mem_of_getElem? (i := 948) (by decide +kernel), by decide +kernel⟩
theorem w_949 : Cond.code yX5_canCut cX5_canCut 3 (some FieldType.boolean) ∈ lw_good := List.mem_filter.mpr ⟨List.mem_of_getElem? (i := 949) (by decide +kernel), by decide +kernel⟩
theorem w_950 : Cond.methodLink "IndicatorDiagramLaw" 163 yX5_balancingCutOff ∈ lw_good := List.mem_filter.mpr ⟨List.mem_of_getElem? (i := 950) (by decide +kernel), by decide +kernel⟩
theorem w_951 : Cond.instanceMethod yX5_balancingCutOff ∈ lw_good := List.mem_filter.mpr ⟨List.mem_of_getElem? (i := 951) (by decide +kernel), by decide +kernel⟩
theorem w_952 : Cond.selects "IndicatorDiagramModel" yX5_balancingCutOff yX5_balancingCutOff ∈ lw_good := List.mem_filter.mpr ⟨List.mem_of_getElem? (i := 952) (by decide +kernel), by decide +kernel⟩
theorem w_953 : Cond.code yX5_balancingCutOff cX5_balancingCutOff 12 (some FieldType.int) ∈ lw_good := List.mem_filter.mpr ⟨List.mem_of_getElem? (i := 953) (by decide +kernel), by decide +kernel⟩
theorem i_X0 : ∀ w ∈ u_ws RX0 TX0 4, w ∈ lw_good := by
  show ∀ w ∈ [Cond.lays "IndicatorDiagram$Card" "IndicatorDiagram$Card" "end" "I", Cond.lays "IndicatorDiagram$Card" "IndicatorDiagram$Card" "speed" "I", Cond.laysFinal "IndicatorDiagram$Card" "IndicatorDiagram$Card" "outward" "[I", Cond.laysFinal "IndicatorDiagram$Card" "IndicatorDiagram$Card" "inward" "[I"], w ∈ lw_good
  exact List.forall_mem_cons.mpr ⟨w_84, List.forall_mem_cons.mpr ⟨w_86, List.forall_mem_cons.mpr ⟨w_88, List.forall_mem_cons.mpr ⟨w_90, fun _ h => absurd h List.not_mem_nil⟩⟩⟩⟩
theorem i_X1 : ∀ w ∈ u_ws RX1 TX1 5, w ∈ lw_good := by
  show ∀ w ∈ [Cond.lays "IndicatorDiagram$Draft" "IndicatorDiagram$Draft" "present" "Z", Cond.lays "IndicatorDiagram$Draft" "IndicatorDiagram$Draft" "end" "I", Cond.lays "IndicatorDiagram$Draft" "IndicatorDiagram$Draft" "speed" "I", Cond.laysFinal "IndicatorDiagram$Draft" "IndicatorDiagram$Draft" "outward" "[I", Cond.laysFinal "IndicatorDiagram$Draft" "IndicatorDiagram$Draft" "inward" "[I"], w ∈ lw_good
  exact List.forall_mem_cons.mpr ⟨w_141, List.forall_mem_cons.mpr ⟨w_143, List.forall_mem_cons.mpr ⟨w_145, List.forall_mem_cons.mpr ⟨w_147, List.forall_mem_cons.mpr ⟨w_149, fun _ h => absurd h List.not_mem_nil⟩⟩⟩⟩⟩
theorem i_X2 : ∀ w ∈ u_ws RX2 TX2 4, w ∈ lw_good := by
  show ∀ w ∈ [Cond.lays "IndicatorDiagram$Events" "IndicatorDiagram$Events" "admission" "I", Cond.lays "IndicatorDiagram$Events" "IndicatorDiagram$Events" "cutOff" "I", Cond.lays "IndicatorDiagram$Events" "IndicatorDiagram$Events" "release" "I", Cond.lays "IndicatorDiagram$Events" "IndicatorDiagram$Events" "compression" "I"], w ∈ lw_good
  exact List.forall_mem_cons.mpr ⟨w_108, List.forall_mem_cons.mpr ⟨w_110, List.forall_mem_cons.mpr ⟨w_112, List.forall_mem_cons.mpr ⟨w_114, fun _ h => absurd h List.not_mem_nil⟩⟩⟩⟩
theorem i_X3 : ∀ w ∈ u_ws RX3 TX3 13, w ∈ lw_good := by
  show ∀ w ∈ [Cond.lays "IndicatorDiagram$State" "IndicatorDiagram$State" "clearance" "I", Cond.lays "IndicatorDiagram$State" "IndicatorDiagram$State" "headPistonArea" "I", Cond.lays "IndicatorDiagram$State" "IndicatorDiagram$State" "crankPistonArea" "I", Cond.lays "IndicatorDiagram$State" "IndicatorDiagram$State" "strokeLength" "I", Cond.lays "IndicatorDiagram$State" "IndicatorDiagram$State" "boilerPressure" "I", Cond.lays "IndicatorDiagram$State" "IndicatorDiagram$State" "backPressure" "I", Cond.lays "IndicatorDiagram$State" "IndicatorDiagram$State" "band" "I", Cond.lays "IndicatorDiagram$State" "IndicatorDiagram$State" "tolerance" "I", Cond.laysFinal "IndicatorDiagram$State" "IndicatorDiagram$State" "headValves" "LIndicatorDiagram$Events;", Cond.laysFinal "IndicatorDiagram$State" "IndicatorDiagram$State" "crankValves" "LIndicatorDiagram$Events;", Cond.laysFinal "IndicatorDiagram$State" "IndicatorDiagram$State" "draft" "LIndicatorDiagram$Draft;", Cond.laysFinal "IndicatorDiagram$State" "IndicatorDiagram$State" "cards" "[LIndicatorDiagram$Card;", Cond.lays "IndicatorDiagram$State" "IndicatorDiagram$State" "count" "I"], w ∈ lw_good
  exact List.forall_mem_cons.mpr ⟨w_179, List.forall_mem_cons.mpr ⟨w_181, List.forall_mem_cons.mpr ⟨w_183, List.forall_mem_cons.mpr ⟨w_185, List.forall_mem_cons.mpr ⟨w_187, List.forall_mem_cons.mpr ⟨w_189, List.forall_mem_cons.mpr ⟨w_191, List.forall_mem_cons.mpr ⟨w_193, List.forall_mem_cons.mpr ⟨w_195, List.forall_mem_cons.mpr ⟨w_197, List.forall_mem_cons.mpr ⟨w_199, List.forall_mem_cons.mpr ⟨w_201, List.forall_mem_cons.mpr ⟨w_203, fun _ h => absurd h List.not_mem_nil⟩⟩⟩⟩⟩⟩⟩⟩⟩⟩⟩⟩⟩
theorem i_X4 : ∀ w ∈ u_ws RX4 TX4 7, w ∈ lw_good := by
  show ∀ w ∈ [Cond.laysFinal "IndicatorDiagram" "IndicatorDiagram" "now" "LIndicatorDiagram$State;", Cond.laysFinal "IndicatorDiagram" "IndicatorDiagram" "history" "[LIndicatorDiagram$State;", Cond.lays "IndicatorDiagram" "IndicatorDiagram" "states" "I", Cond.laysFinal "IndicatorDiagram" "IndicatorDiagram" "trial" "LIndicatorDiagram$Card;", Cond.laysFinal "IndicatorDiagram" "IndicatorDiagram" "trialEvents" "LIndicatorDiagram$Events;", Cond.laysFinal "IndicatorDiagram" "IndicatorDiagram" "found" "LIndicatorDiagram$Events;", Cond.laysFinal "IndicatorDiagram" "IndicatorDiagram" "sortedAreas" "[I"], w ∈ lw_good
  exact List.forall_mem_cons.mpr ⟨w_214, List.forall_mem_cons.mpr ⟨w_216, List.forall_mem_cons.mpr ⟨w_218, List.forall_mem_cons.mpr ⟨w_220, List.forall_mem_cons.mpr ⟨w_222, List.forall_mem_cons.mpr ⟨w_224, List.forall_mem_cons.mpr ⟨w_226, fun _ h => absurd h List.not_mem_nil⟩⟩⟩⟩⟩⟩⟩
theorem i_X5 : ∀ w ∈ u_ws RX5 TX5 2, w ∈ lw_good := by
  show ∀ w ∈ [Cond.laysFinal "IndicatorDiagramModel" "IndicatorDiagramModel" "row" "[I", Cond.lays "IndicatorDiagramModel" "IndicatorDiagramModel" "states" "I"], w ∈ lw_good
  exact List.forall_mem_cons.mpr ⟨w_645, List.forall_mem_cons.mpr ⟨w_647, fun _ h => absurd h List.not_mem_nil⟩⟩
end
section
abbrev kCl : List vw_C := [(RX0, TX0, 4), (RX1, TX1, 5), (RX2, TX2, 4), (RX3, TX3, 13), (RX4, TX4, 7), (RX5, TX5, 2)]
abbrev kG : Type := va_G × (ClassId × (ClassId × ClassId))
abbrev kTy (g : kG) : List (ClassId × FieldType) := [(g.2.1, .int), (g.2.2.1, .object RX0), (g.2.2.2, .object RX3)]
/-- what the tables say of the classes, the arrays, the two nest links -/
def KK (g : kG) (U : State) : Prop := va_K g.1 kCl (kTy g) U ∧ va_Nw (.methodLinkNest RX2 24 yX4_isWithin RX4) U ∧ va_Nw (.methodLinkNest RX0 34 yX4_quotient RX4) U ∧ va_AO RX0 U ∧ va_AO RX3 U
theorem KK.moved {g : kG} {s U : State} (hW : s.WarmedH U.vm) (h : KK g s) : KK g U :=
  ⟨va_K.moved hW.alike h.1, va_Nw.warmM hW h.2.1, va_Nw.warmM hW h.2.2.1, va_AO.moved hW.alike h.2.2.2.1, va_AO.moved hW.alike h.2.2.2.2⟩
theorem KK.same {g : kG} {u U : State} (h : u.vm = U.vm) (k : KK g u) : KK g U :=
  ⟨va_K.moved (h ▸ Vm.Alike.refl u.vm) k.1, va_Nw.same rfl h k.2.1, va_Nw.same rfl h k.2.2.1, va_AO.moved (h ▸ Vm.Alike.refl u.vm) k.2.2.2.1, va_AO.moved (h ▸ Vm.Alike.refl u.vm) k.2.2.2.2⟩
abbrev kPc (as : List Value) (Pre : Heap → Prop) (g : kG) : Array Value → State → Prop := va_Pc as (fun U => Pre U.heap ∧ KK g U)
theorem kPc_blind {as : List Value} {Pre : Heap → Prop} {g : kG} : FrameBlind (kPc as Pre g) := fun a U gg mk q => ⟨q.1, q.2.1, KK.same (u := U) (U := U.calling gg mk a) rfl q.2.2⟩
abbrev kw (y : MethodName) (b : ByteArray) (n : Nat) (r : Option FieldType) : List Cond := Cond.code y b n r :: lw_good
theorem lw_goodIn : GoodIn lw_good lw_good := fun w hw => ⟨hw, good_of_word (List.mem_filter.mp hw).2⟩
abbrev rr (f L : Nat) : Room := { frames := f, cells := 0, slots := 0, locals := L }
abbrev rc (f L k n : Nat) : Room := { frames := f, cells := k, slots := n, locals := L }
def kno (y : MethodName) (n : Nat) : Prop := (y.cls ≠ "java/lang/invoke/MethodHandle" ∧ y.cls ≠ "java/lang/invoke/VarHandle") ∧ (parseMethodDescriptor y.desc).map (fun d => d.parameters.length) = some n
def LnkV (own : String) (idx : Nat) (y : MethodName) (b : ByteArray) (mL : Nat) (ret : Option FieldType) (n : Nat) : Prop :=
  Cond.methodLink own idx y ∈ lw_good ∧ Cond.instanceMethod y ∈ lw_good ∧ Cond.selects y.cls y y ∈ lw_good ∧ Cond.initialized y.cls ∈ lw_good ∧ Cond.code y b mL ret ∈ lw_good ∧ kno y n
def LnkS (own : String) (idx : Nat) (y : MethodName) (b : ByteArray) (mL : Nat) (ret : Option FieldType) (n : Nat) : Prop :=
  Cond.methodLink own idx y ∈ lw_good ∧ Cond.static y ∈ lw_good ∧ Cond.initialized y.cls ∈ lw_good ∧ Cond.code y b mL ret ∈ lw_good ∧ kno y n
def LnkI (own : String) (idx : Nat) (y : MethodName) (b : ByteArray) (mL : Nat) (n : Nat) : Prop :=
  Cond.methodLink own idx y ∈ lw_good ∧ Cond.instanceMethod y ∈ lw_good ∧ y.name = "<init>" ∧ Cond.initialized y.cls ∈ lw_good ∧ Cond.code y b mL none ∈ lw_good ∧ kno y n
def LnkN (own : String) (idx : Nat) (y : MethodName) (host : String) (b : ByteArray) (mL : Nat) (ret : Option FieldType) (n : Nat) : Prop :=
  Cond.static y ∈ lw_good ∧ Cond.initialized y.cls ∈ lw_good ∧ Cond.code y b mL ret ∈ lw_good ∧ kno y n
theorem good_cons {y : MethodName} {b : ByteArray} {mL : Nat} {ret : Option FieldType} (h : Cond.code y b mL ret ∈ lw_good) : GoodIn lw_good (kw y b mL ret) := by
  intro w hw
  rcases List.mem_cons.mp hw with e | h2
  · rw [e]; exact lw_goodIn _ h
  · exact lw_goodIn _ h2
theorem LnkV.good {own : String} {idx : Nat} {y : MethodName} {b : ByteArray} {mL : Nat} {ret : Option FieldType} {n : Nat} (L : LnkV own idx y b mL ret n) : GoodIn lw_good (wsV own idx y.cls y (kw y b mL ret)) := by
  obtain ⟨h1, h2, h3, h4, h5, -⟩ := L
  intro w hw
  unfold wsV at hw
  rcases List.mem_append.mp hw with h | h
  · simp only [List.mem_cons, List.not_mem_nil, or_false] at h
    rcases h with e | e | e | e
    · rw [e]; exact lw_goodIn _ h1
    · rw [e]; exact lw_goodIn _ h2
    · rw [e]; exact lw_goodIn _ h3
    · rw [e]; exact lw_goodIn _ h4
  · exact good_cons h5 _ h
theorem LnkS.good {own : String} {idx : Nat} {y : MethodName} {b : ByteArray} {mL : Nat} {ret : Option FieldType} {n : Nat} (L : LnkS own idx y b mL ret n) : GoodIn lw_good (va_wsS own idx y (kw y b mL ret)) := by
  obtain ⟨h1, h2, h3, h5, -⟩ := L
  intro w hw
  unfold va_wsS at hw
  rcases List.mem_append.mp hw with h | h
  · simp only [List.mem_cons, List.not_mem_nil, or_false] at h
    rcases h with e | e | e
    · rw [e]; exact lw_goodIn _ h1
    · rw [e]; exact lw_goodIn _ h2
    · rw [e]; exact lw_goodIn _ h3
  · exact good_cons h5 _ h
/-! contracts: pure ones (the heap stays), and writing ones -/
abbrev PI (l : Launch) (y : MethodName) (b : ByteArray) (n : Nat) (rt : Option FieldType) (rm : Room) (as : List Value) (Pre : Heap → Prop) (g : kG) (E : Int32) : Prop := Met l y (kw y b n rt) rm (kPc as Pre g) (vp_Si (fun r => r = E)) 0 0 (fun _ => False)
abbrev PL (l : Launch) (y : MethodName) (b : ByteArray) (n : Nat) (rt : Option FieldType) (rm : Room) (as : List Value) (Pre : Heap → Prop) (g : kG) (E : Int64) : Prop := Met l y (kw y b n rt) rm (kPc as Pre g) (vp_Sl (fun r => r = E)) 0 0 (fun _ => False)
abbrev PR (l : Launch) (y : MethodName) (b : ByteArray) (n : Nat) (rt : Option FieldType) (rm : Room) (as : List Value) (Pre : Heap → Prop) (g : kG) (E : Nat) : Prop := Met l y (kw y b n rt) rm (kPc as Pre g) (va_Sr (fun r => r = E) Value.ref) 0 0 (fun _ => False)
def qI (A : Nat → Prop) (post : Int32 → Heap → Prop) : Array Value → State → Outcome → State → Prop := va_Qi (S := Int32) (fun r u => r = u) (fun u t => post u t.heap) A
def qL (A : Nat → Prop) (post : Int64 → Heap → Prop) : Array Value → State → Outcome → State → Prop := va_Ql (S := Int64) (fun r u => r = u) (fun u t => post u t.heap) A
def qV (A : Nat → Prop) (post : Heap → Prop) : Array Value → State → Outcome → State → Prop := va_Qv (S := Unit) (fun _ => True) (fun _ t => post t.heap) A
abbrev MI (l : Launch) (y : MethodName) (b : ByteArray) (n : Nat) (rt : Option FieldType) (rm : Room) (as : List Value) (Pre : Heap → Prop) (g : kG) (mc ms : Nat) (A : Nat → Prop) (post : Int32 → Heap → Prop) : Prop := Met l y (kw y b n rt) rm (kPc as Pre g) (qI A post) mc ms A
abbrev ML (l : Launch) (y : MethodName) (b : ByteArray) (n : Nat) (rt : Option FieldType) (rm : Room) (as : List Value) (Pre : Heap → Prop) (g : kG) (mc ms : Nat) (A : Nat → Prop) (post : Int64 → Heap → Prop) : Prop := Met l y (kw y b n rt) rm (kPc as Pre g) (qL A post) mc ms A
abbrev MV (l : Launch) (y : MethodName) (b : ByteArray) (n : Nat) (rt : Option FieldType) (rm : Room) (as : List Value) (Pre : Heap → Prop) (g : kG) (mc ms : Nat) (A : Nat → Prop) (post : Heap → Prop) : Prop := Met l y (kw y b n rt) rm (kPc as Pre g) (qV A post) mc ms A
theorem kOf {l : Launch} {y : MethodName} {b : ByteArray} {n : Nat} {rt : Option FieldType} {rm : Room} {as : List Value} {Pre : Heap → Prop} {g : kG} {Qc : Array Value → State → Outcome → State → Prop} {mc ms : Nat} {free : Addr → Prop}
    (hy : plainName y.cls = true) (hle : (lg_sl as).length ≤ n)
    (body : ∀ (p : Program) (e : Env) (s : State) (m : MethodId) (below : List Frame) (meth : Method) (c : Code) (ls : Array Slot), CallFix p m c b n s as.toArray lw_good y.cls → meth.sig.returnType = rt → meth.locks = false → meth.name = y.name → KK g s → Pre s.heap → lv_has ls n (lv_args 0 as) →
      W p l e rm s m as.toArray below meth c s.heap [] 0 0 (MQ below Qc as.toArray s mc ms free) (F0 m 0 ls [])) : Met l y (kw y b n rt) rm (kPc as Pre g) Qc mc ms free := by
  refine Met.ofW (cc := b) (maxL := n) (ret := rt) hy rfl ?_
  intro p e s m args below meth c s₁ B hml hv
  obtain ⟨rfl, hpre, hK⟩ := hv
  have hts0 := atoms_spec (ws := kw y b n rt) B.pre
  have hts : ∀ w ∈ lw_good, w.before as.toArray s = true := fun w hw => hts0 w (List.mem_cons_of_mem _ hw)
  have hown : s.vm.findClass y.cls = some m.cls := findClass_of_methodNamed B.named
  have hin : meth.name = y.name := (name_of_methodNamed B.named B.method).1
  rw [lg_entry_eq]
  exact body p e s m below meth c _ ⟨B.exec, B.bytes, hml, hown, hts⟩ B.returns B.notSynchronized hin hK hpre (lv_entry as hle)
theorem lvG {ls : Array Slot} {nL : Nat} {lv : List (Nat × Value)} (h : lv_has ls nL lv) {i : Nat} {v : Value} (hk : lv.find? (fun q => q.1 == i) = some (i, v)) : ls[i]? = some (.val v) := h.2.2 (i, v) (List.mem_of_find?_eq_some hk)
theorem lv_eq {ls : Array Slot} {nL : Nat} {a b : List (Nat × Value)} (h : lv_has ls nL a) (e : a = b) : lv_has ls nL b := e ▸ h
section KB
variable {p : Program} {l : Launch} {e : Env} {R : Room} {s : State} {m : MethodId} {args : Array Value} {below : List Frame} {meth : Method} {c : Code} {H : Heap} {locs : List Loc} {cells slots : Nat} {Q : State → Prop}
variable {cc : ByteArray} {pc nL : Nat} {ls : Array Slot} {own : String} {g : kG}
/-! ends -/
theorem k_iret {v E : Int32} (hC : CallFix p m c cc nL s args lw_good own) (hr : meth.sig.returnType = some .int) (hlk : meth.locks = false) (hdg : decode cc pc = .ok (.ireturn, 1)) (hv : v = E) : W p l e R s m args below meth c s.heap [] 0 0 (MQ below (vp_Si (fun r => r = E)) args s 0 0 (fun _ => False)) (F0 m pc ls [.int v]) :=
  W.iret hC.1 hC.2.1 hr (fun t ht _ => ⟨v, rfl, hv, ht⟩) (fun q h => by cases h) hdg hlk
theorem k_nar0 : narrow .boolean (.int 0) = .int 0 := by decide +kernel
theorem k_nar1 : narrow .boolean (.int 1) = .int 1 := by decide +kernel
theorem k_narb {b : Prop} [Decidable b] : narrow .boolean (.int (if b then 1 else 0)) = .int (if b then 1 else 0) := by split <;> decide +kernel
theorem k_zret {v E : Int32} (hC : CallFix p m c cc nL s args lw_good own) (hr : meth.sig.returnType = some .boolean) (hlk : meth.locks = false) (hdg : decode cc pc = .ok (.ireturn, 1)) (hn : narrow .boolean (.int v) = .int v) (hv : v = E) : W p l e R s m args below meth c s.heap [] 0 0 (MQ below (vp_Si (fun r => r = E)) args s 0 0 (fun _ => False)) (F0 m pc ls [.int v]) :=
  W.zret hC.1 hC.2.1 hr hn (fun t ht _ => ⟨v, rfl, hv, ht⟩) (fun q h => by cases h) hdg hlk
theorem k_lret {v E : Int64} (hC : CallFix p m c cc nL s args lw_good own) (hr : meth.sig.returnType = some .long) (hlk : meth.locks = false) (hdg : decode cc pc = .ok (.lreturn, 1)) (hv : v = E) : W p l e R s m args below meth c s.heap [] 0 0 (MQ below (vp_Sl (fun r => r = E)) args s 0 0 (fun _ => False)) (F0 m pc ls [.long v]) :=
  W.lret hC.1 hC.2.1 hr (fun t ht _ => ⟨v, rfl, hv, ht⟩) (fun q h => by cases h) hdg hlk
theorem k_aret {v E : Nat} {rt : FieldType} (hC : CallFix p m c cc nL s args lw_good own) (hr : meth.sig.returnType = some rt) (hrt : (∃ n, rt = .object n) ∨ ∃ t, rt = .array t) (hlk : meth.locks = false) (hdg : decode cc pc = .ok (.areturn, 1)) (hv : v = E) : W p l e R s m args below meth c s.heap [] 0 0 (MQ below (va_Sr (fun r => r = E) Value.ref) args s 0 0 (fun _ => False)) (F0 m pc ls [.ref v]) :=
  W.aret hC.1 hC.2.1 hr hrt (Or.inr ⟨v, rfl⟩) (fun t ht _ => ⟨v, rfl, hv, ht⟩) (fun q h => by cases h) hdg hlk
theorem k_iretM {v : Int32} {A : Nat → Prop} {post : Int32 → Heap → Prop} (hC : CallFix p m c cc nL s args lw_good own) (hr : meth.sig.returnType = some .int) (hlk : meth.locks = false) (hS : va_S A s.heap H locs) (hdg : decode cc pc = .ok (.ireturn, 1)) (hv : post v H) : W p l e R s m args below meth c H locs cells slots (MQ below (qI A post) args s cells slots A) (F0 m pc ls [.int v]) :=
  W.iret hC.1 hC.2.1 hr (fun t ht _ => ⟨⟨v, v, rfl, rfl, by show post v t.heap; rw [ht]; exact hv⟩, hS.F ht⟩) hS.2.2 hdg hlk
theorem k_lretM {v : Int64} {A : Nat → Prop} {post : Int64 → Heap → Prop} (hC : CallFix p m c cc nL s args lw_good own) (hr : meth.sig.returnType = some .long) (hlk : meth.locks = false) (hS : va_S A s.heap H locs) (hdg : decode cc pc = .ok (.lreturn, 1)) (hv : post v H) : W p l e R s m args below meth c H locs cells slots (MQ below (qL A post) args s cells slots A) (F0 m pc ls [.long v]) :=
  W.lret hC.1 hC.2.1 hr (fun t ht _ => ⟨⟨v, v, rfl, rfl, by show post v t.heap; rw [ht]; exact hv⟩, hS.F ht⟩) hS.2.2 hdg hlk
theorem k_vretM {A : Nat → Prop} {post : Heap → Prop} (hC : CallFix p m c cc nL s args lw_good own) (hr : meth.sig.returnType = none) (hlk : meth.locks = false) (hS : va_S A s.heap H locs) (hdg : decode cc pc = .ok (.return_, 1)) (hv : post H) : W p l e R s m args below meth c H locs cells slots (MQ below (qV A post) args s cells slots A) (F0 m pc ls []) :=
  W.vret hC.1 hC.2.1 hr (fun t ht _ => ⟨⟨(), rfl, trivial, by show post t.heap; rw [ht]; exact hv⟩, hS.F ht⟩) hS.2.2 hdg hlk
/-! calls -/
def RmOk (rm R : Room) (mL mc ms cells slots : Nat) : Prop := (rm.frames + 1 ≤ R.frames ∧ 8 + (mL + 11) + rm.locals ≤ R.locals) ∧ (rm.cells = mc ∧ rm.slots = ms) ∧ (cells + mc ≤ R.cells ∧ slots + ms ≤ R.slots)
theorem k_goV {rest st0 as : List Value} {y : MethodName} {b : ByteArray} {mL mc ms : Nat} {rt : Option FieldType} {rm : Room} {Pre : Heap → Prop} {Qc : Array Value → State → Outcome → State → Prop} {free : Addr → Prop} {idx n a : Nat}
    (hC : CallFix p m c cc nL s args lw_good own) (hK : KK g s) (hM : Met l y (kw y b mL rt) rm (kPc (.ref a :: as) Pre g) Qc mc ms free) (L : LnkV own idx y b mL rt n) (hR : RmOk rm R mL mc ms cells slots)
    (hrecv : ∃ cellB : Cell, H[a]? = some cellB ∧ cellB.vm.isStatics = false ∧ s.vm.findClass y.cls = some cellB.cls) (hpre : Pre H) (hn : as.length = n) (hsz : ls.size = nL) (hst : st0 = as.reverse ++ .ref a :: rest) (hW : (rest.map fun v => v.category).sum ≤ 8) (hdg : decode cc pc = .ok (.invokevirtual idx, 3)) :
    va_Run p l e R s m args below meth c H locs cells slots mc ms (F0 m pc ls st0) rest (Qc (Value.ref a :: as).toArray) free :=
  va_runV (C := y.cls) (As := as) (rest := rest) hC hM (cwV n hC.2.2.2.2 L.good rfl hR.2.1.1 hR.2.1.2 ⟨rfl, L.2.2.2.2.2.1.1, L.2.2.2.2.2.1.2, L.2.2.2.2.2.2⟩ hR.1) ⟨kPc_blind, hrecv, fun U hU hW => ⟨rfl, by rw [hU]; exact hpre, hK.moved hW⟩⟩ rfl hn hsz hst (lv_room hW) hdg hR.2.2
theorem k_goS {rest st0 as : List Value} {y : MethodName} {b : ByteArray} {mL mc ms : Nat} {rt : Option FieldType} {rm : Room} {Pre : Heap → Prop} {Qc : Array Value → State → Outcome → State → Prop} {free : Addr → Prop} {idx n : Nat}
    (hC : CallFix p m c cc nL s args lw_good own) (hK : KK g s) (hM : Met l y (kw y b mL rt) rm (kPc as Pre g) Qc mc ms free) (L : LnkS own idx y b mL rt n) (hR : RmOk rm R mL mc ms cells slots)
    (hpre : Pre H) (hn : as.length = n) (hsz : ls.size = nL) (hst : st0 = as.reverse ++ rest) (hW : (rest.map fun v => v.category).sum ≤ 8) (hdg : decode cc pc = .ok (.invokestatic idx, 3)) :
    va_Run p l e R s m args below meth c H locs cells slots mc ms (F0 m pc ls st0) rest (Qc as.toArray) free :=
  va_runS (As := as) (rest := rest) hC hM (va_cwS n hC.2.2.2.2 L.good rfl hR.2.1.1 hR.2.1.2 ⟨L.2.2.2.2.1.1, L.2.2.2.2.1.2, L.2.2.2.2.2⟩ hR.1) ⟨kPc_blind, fun U hU hW => ⟨rfl, by rw [hU]; exact hpre, hK.moved hW⟩⟩ rfl hn hsz hst (lv_room hW) hdg hR.2.2
theorem k_goN {rest st0 as : List Value} {y : MethodName} {host : String} {b : ByteArray} {mL mc ms : Nat} {rt : Option FieldType} {rm : Room} {Pre : Heap → Prop} {Qc : Array Value → State → Outcome → State → Prop} {free : Addr → Prop} {idx n : Nat}
    (hC : CallFix p m c cc nL s args lw_good own) (hK : KK g s) (hM : Met l y (kw y b mL rt) rm (kPc as Pre g) Qc mc ms free) (hN : va_Nw (.methodLinkNest own idx y host) s) (L : LnkN own idx y host b mL rt n) (hR : RmOk rm R mL mc ms cells slots)
    (hpre : Pre H) (hn : as.length = n) (hsz : ls.size = nL) (hst : st0 = as.reverse ++ rest) (hW : (rest.map fun v => v.category).sum ≤ 8) (hdg : decode cc pc = .ok (.invokestatic idx, 3)) :
    va_Run p l e R s m args below meth c H locs cells slots mc ms (F0 m pc ls st0) rest (Qc as.toArray) free :=
  va_runSN (As := as) (rest := rest) hC hM ⟨va_cnB n hC.2.2.2.2 (good_cons L.2.2.1) rfl hR.2.1.1 hR.2.1.2 hN (hC.2.2.2.2 _ L.2.1) ⟨L.2.2.2.1.1, L.2.2.2.1.2, L.2.2.2.2⟩ hR.1, hC.2.2.2.2 _ L.1, trivial⟩ ⟨kPc_blind, fun U hU hW => ⟨rfl, by rw [hU]; exact hpre, hK.moved hW⟩⟩ rfl hn hsz hst (lv_room hW) hdg hR.2.2
theorem k_goI {rest st0 as : List Value} {y : MethodName} {b : ByteArray} {mL mc ms : Nat} {rm : Room} {Pre : Heap → Prop} {Qc : Array Value → State → Outcome → State → Prop} {free : Addr → Prop} {idx n a : Nat}
    (hC : CallFix p m c cc nL s args lw_good own) (hK : KK g s) (hM : Met l y (kw y b mL none) rm (kPc (.ref a :: as) Pre g) Qc mc ms free) (L : LnkI own idx y b mL n) (hR : RmOk rm R mL mc ms cells slots)
    (hpre : Pre H) (hn : as.length = n) (hsz : ls.size = nL) (hst : st0 = as.reverse ++ .ref a :: rest) (hW : (rest.map fun v => v.category).sum ≤ 8) (hdg : decode cc pc = .ok (.invokespecial idx, 3)) :
    va_Run p l e R s m args below meth c H locs cells slots mc ms (F0 m pc ls st0) rest (Qc (Value.ref a :: as).toArray) free :=
  va_runI (As := as) (rest := rest) hC hM (cwI n hC.2.2.2.2 (good_cons L.2.2.2.2.1) rfl hR.2.1.1 hR.2.1.2 (hC.2.2.2.2 _ L.2.2.2.1) (hC.2.2.2.2 _ L.1) (hC.2.2.2.2 _ L.2.1) L.2.2.1 ⟨L.2.2.2.2.2.1.1, L.2.2.2.2.2.1.2, L.2.2.2.2.2.2⟩ hR.1) ⟨kPc_blind, fun U hU hW => ⟨rfl, by rw [hU]; exact hpre, hK.moved hW⟩⟩ rfl hn hsz hst (lv_room hW) hdg hR.2.2
theorem k_callPI {rest st0 : List Value} {E : Int32} {a : Array Value} (hr : va_Run p l e R s m args below meth c H locs cells slots 0 0 (F0 m pc ls st0) rest (vp_Si (fun r => r = E) a) (fun _ => False)) (kk : W p l e R s m args below meth c H locs cells slots Q (F0 m (pc + 3) ls (.int E :: rest))) : W p l e R s m args below meth c H locs cells slots Q (F0 m pc ls st0) :=
  vp_callSi hr.run (fun r hr => by rw [hr]; exact kk)
theorem k_callPL {rest st0 : List Value} {E : Int64} {a : Array Value} (hr : va_Run p l e R s m args below meth c H locs cells slots 0 0 (F0 m pc ls st0) rest (vp_Sl (fun r => r = E) a) (fun _ => False)) (kk : W p l e R s m args below meth c H locs cells slots Q (F0 m (pc + 3) ls (.long E :: rest))) : W p l e R s m args below meth c H locs cells slots Q (F0 m pc ls st0) :=
  vp_callSl hr.run (fun r hr => by rw [hr]; exact kk)
theorem k_callPR {rest st0 : List Value} {E : Nat} {a : Array Value} (hr : va_Run p l e R s m args below meth c H locs cells slots 0 0 (F0 m pc ls st0) rest (va_Sr (fun r => r = E) Value.ref a) (fun _ => False)) (kk : W p l e R s m args below meth c H locs cells slots Q (F0 m (pc + 3) ls (.ref E :: rest))) : W p l e R s m args below meth c H locs cells slots Q (F0 m pc ls st0) :=
  va_csr hr.run (fun r hr => by rw [hr]; exact kk)
theorem k_callMI {rest st0 : List Value} {A1 A0 : Nat → Prop} {H0 : Heap} {mc ms : Nat} {post : Int32 → Heap → Prop} {a : Array Value} (hr : va_Run p l e R s m args below meth c H locs cells slots mc ms (F0 m pc ls st0) rest (qI A1 post a) A1) (hS : va_S A0 H0 H locs) (hA : ∀ q, A1 q → A0 q)
    (kk : ∀ (r : Int32) (H1 : Heap) (locs1 : List Loc), post r H1 → H.size ≤ H1.size → (∀ q : Nat, q < H.size → ¬ A1 q → H1[q]? = H[q]?) → va_S A0 H0 H1 locs1 → W p l e R s m args below meth c H1 locs1 (cells + mc) (slots + ms) Q (F0 m (pc + 3) ls (.int r :: rest))) : W p l e R s m args below meth c H locs cells slots Q (F0 m pc ls st0) :=
  va_calli hr hS (fun q _ h => hA q h) hA (fun r u t H1 locs1 ht _ hru hb hz hk hS1 => kk r H1 locs1 (by rw [hru, ← ht]; exact hb) hz hk hS1)
theorem k_callML {rest st0 : List Value} {A1 A0 : Nat → Prop} {H0 : Heap} {mc ms : Nat} {post : Int64 → Heap → Prop} {a : Array Value} (hr : va_Run p l e R s m args below meth c H locs cells slots mc ms (F0 m pc ls st0) rest (qL A1 post a) A1) (hS : va_S A0 H0 H locs) (hA : ∀ q, A1 q → A0 q)
    (kk : ∀ (r : Int64) (H1 : Heap) (locs1 : List Loc), post r H1 → H.size ≤ H1.size → (∀ q : Nat, q < H.size → ¬ A1 q → H1[q]? = H[q]?) → va_S A0 H0 H1 locs1 → W p l e R s m args below meth c H1 locs1 (cells + mc) (slots + ms) Q (F0 m (pc + 3) ls (.long r :: rest))) : W p l e R s m args below meth c H locs cells slots Q (F0 m pc ls st0) :=
  va_calll hr hS (fun q _ h => hA q h) hA (fun r u t H1 locs1 ht _ hru hb hz hk hS1 => kk r H1 locs1 (by rw [hru, ← ht]; exact hb) hz hk hS1)
theorem k_callMV {rest st0 : List Value} {A1 A0 : Nat → Prop} {H0 : Heap} {mc ms : Nat} {post : Heap → Prop} {a : Array Value} (hr : va_Run p l e R s m args below meth c H locs cells slots mc ms (F0 m pc ls st0) rest (qV A1 post a) A1) (hS : va_S A0 H0 H locs) (hA : ∀ q, A1 q → A0 q)
    (kk : ∀ (H1 : Heap) (locs1 : List Loc), post H1 → H.size ≤ H1.size → (∀ q : Nat, q < H.size → ¬ A1 q → H1[q]? = H[q]?) → va_S A0 H0 H1 locs1 → W p l e R s m args below meth c H1 locs1 (cells + mc) (slots + ms) Q (F0 m (pc + 3) ls rest)) : W p l e R s m args below meth c H locs cells slots Q (F0 m pc ls st0) :=
  va_callv hr hS (fun q _ h => hA q h) hA (fun u t H1 locs1 ht _ _ hb hz hk hS1 => kk H1 locs1 (by rw [← ht]; exact hb) hz hk hS1)
/-! numbers that count -/
theorem n_iadd {rest : List Value} {x y : Nat} (hC : CallFix p m c cc nL s args lw_good own) (hdg : decode cc pc = .ok (.iadd, 1)) (k : W p l e R s m args below meth c H locs cells slots Q (F0 m (pc + 1) ls (.int (nI (x + y)) :: rest))) : W p l e R s m args below meth c H locs cells slots Q (F0 m pc ls (.int (nI y) :: .int (nI x) :: rest)) := by
  refine lv_iadd hC.1 hC.2.1 hdg ?_
  rw [nI_add]
  exact k
theorem n_isub {rest : List Value} {x y : Nat} (hC : CallFix p m c cc nL s args lw_good own) (hdg : decode cc pc = .ok (.isub, 1)) (h : y ≤ x) (k : W p l e R s m args below meth c H locs cells slots Q (F0 m (pc + 1) ls (.int (nI (x - y)) :: rest))) : W p l e R s m args below meth c H locs cells slots Q (F0 m pc ls (.int (nI y) :: .int (nI x) :: rest)) := by
  refine lv_isub hC.1 hC.2.1 hdg ?_
  rw [pk_sub h]
  exact k
theorem n_imul {rest : List Value} {x y : Nat} (hC : CallFix p m c cc nL s args lw_good own) (hdg : decode cc pc = .ok (.imul, 1)) (k : W p l e R s m args below meth c H locs cells slots Q (F0 m (pc + 1) ls (.int (nI (x * y)) :: rest))) : W p l e R s m args below meth c H locs cells slots Q (F0 m pc ls (.int (nI y) :: .int (nI x) :: rest)) := by
  refine lv_imul hC.1 hC.2.1 hdg ?_
  rw [pk_mul]
  exact k
theorem n_idiv {rest : List Value} {x y : Nat} (hC : CallFix p m c cc nL s args lw_good own) (hdg : decode cc pc = .ok (.idiv, 1)) (hx : x < 2 ^ 31) (hy : y < 2 ^ 31) (h0 : 0 < y) (k : W p l e R s m args below meth c H locs cells slots Q (F0 m (pc + 1) ls (.int (nI (x / y)) :: rest))) : W p l e R s m args below meth c H locs cells slots Q (F0 m pc ls (.int (nI y) :: .int (nI x) :: rest)) := by
  refine lv_idiv hC.1 hC.2.1 hdg (nI_ne0 h0 hy) ?_
  rw [pk_div hx h0 hy]
  exact k
theorem n_irem {rest : List Value} {x y : Nat} (hC : CallFix p m c cc nL s args lw_good own) (hdg : decode cc pc = .ok (.irem, 1)) (hx : x < 2 ^ 31) (hy : y < 2 ^ 31) (h0 : 0 < y) (k : W p l e R s m args below meth c H locs cells slots Q (F0 m (pc + 1) ls (.int (nI (x % y)) :: rest))) : W p l e R s m args below meth c H locs cells slots Q (F0 m pc ls (.int (nI y) :: .int (nI x) :: rest)) := by
  refine lv_irem hC.1 hC.2.1 hdg (nI_ne0 h0 hy) ?_
  rw [pk_rem hx h0 hy]
  exact k
theorem n_iinc {rest : List Value} {i x : Nat} {lv lv' : List (Nat × Value)} (hC : CallFix p m c cc nL s args lw_good own) (hdg : decode cc pc = .ok (.iinc i 1, 3)) (h : lv_has ls nL lv) (hk : lv.find? (fun q => q.1 == i) = some (i, .int (nI x))) (hn : i < nL) (hl : (i, Value.int (nI (x + 1))) :: lv.filter (fun q => !(q.1 == i) && !(q.1 + 1 == i && q.2.category == 2)) = lv')
    (kk : ∀ ls' : Array Slot, lv_has ls' nL lv' → W p l e R s m args below meth c H locs cells slots Q (F0 m (pc + 3) ls' rest)) : W p l e R s m args below meth c H locs cells slots Q (F0 m pc ls rest) := by
  obtain ⟨k, hk2⟩ := List.getElem?_of_mem (List.mem_of_find?_eq_some hk)
  exact lv_iinc hC.1 hC.2.1 hdg h hk2 (show nI x + Int32.ofInt 1 = nI (x + 1) from nI_1 x) hn hl kk
theorem n_idec {rest : List Value} {i x : Nat} {lv lv' : List (Nat × Value)} (hC : CallFix p m c cc nL s args lw_good own) (hdg : decode cc pc = .ok (.iinc i (-1), 3)) (h : lv_has ls nL lv) (hk : lv.find? (fun q => q.1 == i) = some (i, .int (nI (x + 1)))) (hn : i < nL) (hl : (i, Value.int (nI x)) :: lv.filter (fun q => !(q.1 == i) && !(q.1 + 1 == i && q.2.category == 2)) = lv')
    (kk : ∀ ls' : Array Slot, lv_has ls' nL lv' → W p l e R s m args below meth c H locs cells slots Q (F0 m (pc + 3) ls' rest)) : W p l e R s m args below meth c H locs cells slots Q (F0 m pc ls rest) := by
  obtain ⟨k, hk2⟩ := List.getElem?_of_mem (List.mem_of_find?_eq_some hk)
  exact lv_iinc hC.1 hC.2.1 hdg h hk2 (show nI (x + 1) + Int32.ofInt (-1) = nI x from pk_m1 x) hn hl kk
theorem n_icmp_lt {rest : List Value} {x y : Nat} {off : Int} {tgt : Nat} (hC : CallFix p m c cc nL s args lw_good own) (hdg : decode cc pc = .ok (.if_icmp .lt off, 3)) (hx : x < 2 ^ 31) (hy : y < 2 ^ 31) (ht : (pc : Int) + off = (tgt : Int)) (kt : x < y → W p l e R s m args below meth c H locs cells slots Q (F0 m tgt ls rest)) (kf : ¬ x < y → W p l e R s m args below meth c H locs cells slots Q (F0 m (pc + 3) ls rest)) : W p l e R s m args below meth c H locs cells slots Q (F0 m pc ls (.int (nI y) :: .int (nI x) :: rest)) :=
  lv_icmp_lt hC.1 hC.2.1 hdg ht (fun h => kt ((nI_ltI hx hy).mp h)) (fun h => kf (fun q => h ((nI_ltI hx hy).mpr q)))
theorem n_icmp_ge {rest : List Value} {x y : Nat} {off : Int} {tgt : Nat} (hC : CallFix p m c cc nL s args lw_good own) (hdg : decode cc pc = .ok (.if_icmp .ge off, 3)) (hx : x < 2 ^ 31) (hy : y < 2 ^ 31) (ht : (pc : Int) + off = (tgt : Int)) (kt : y ≤ x → W p l e R s m args below meth c H locs cells slots Q (F0 m tgt ls rest)) (kf : ¬ y ≤ x → W p l e R s m args below meth c H locs cells slots Q (F0 m (pc + 3) ls rest)) : W p l e R s m args below meth c H locs cells slots Q (F0 m pc ls (.int (nI y) :: .int (nI x) :: rest)) :=
  lv_icmp_ge hC.1 hC.2.1 hdg ht (fun h => kt ((nI_leI hy hx).mp h)) (fun h => kf (fun q => h ((nI_leI hy hx).mpr q)))
theorem n_icmp_gt {rest : List Value} {x y : Nat} {off : Int} {tgt : Nat} (hC : CallFix p m c cc nL s args lw_good own) (hdg : decode cc pc = .ok (.if_icmp .gt off, 3)) (hx : x < 2 ^ 31) (hy : y < 2 ^ 31) (ht : (pc : Int) + off = (tgt : Int)) (kt : y < x → W p l e R s m args below meth c H locs cells slots Q (F0 m tgt ls rest)) (kf : ¬ y < x → W p l e R s m args below meth c H locs cells slots Q (F0 m (pc + 3) ls rest)) : W p l e R s m args below meth c H locs cells slots Q (F0 m pc ls (.int (nI y) :: .int (nI x) :: rest)) :=
  lv_icmp_gt hC.1 hC.2.1 hdg ht (fun h => kt ((nI_ltI hy hx).mp h)) (fun h => kf (fun q => h ((nI_ltI hy hx).mpr q)))
theorem n_icmp_le {rest : List Value} {x y : Nat} {off : Int} {tgt : Nat} (hC : CallFix p m c cc nL s args lw_good own) (hdg : decode cc pc = .ok (.if_icmp .le off, 3)) (hx : x < 2 ^ 31) (hy : y < 2 ^ 31) (ht : (pc : Int) + off = (tgt : Int)) (kt : x ≤ y → W p l e R s m args below meth c H locs cells slots Q (F0 m tgt ls rest)) (kf : ¬ x ≤ y → W p l e R s m args below meth c H locs cells slots Q (F0 m (pc + 3) ls rest)) : W p l e R s m args below meth c H locs cells slots Q (F0 m pc ls (.int (nI y) :: .int (nI x) :: rest)) :=
  lv_icmp_le hC.1 hC.2.1 hdg ht (fun h => kt ((nI_leI hx hy).mp h)) (fun h => kf (fun q => h ((nI_leI hx hy).mpr q)))
theorem n_icmp_eq {rest : List Value} {x y : Nat} {off : Int} {tgt : Nat} (hC : CallFix p m c cc nL s args lw_good own) (hdg : decode cc pc = .ok (.if_icmp .eq off, 3)) (hx : x < 2 ^ 31) (hy : y < 2 ^ 31) (ht : (pc : Int) + off = (tgt : Int)) (kt : x = y → W p l e R s m args below meth c H locs cells slots Q (F0 m tgt ls rest)) (kf : ¬ x = y → W p l e R s m args below meth c H locs cells slots Q (F0 m (pc + 3) ls rest)) : W p l e R s m args below meth c H locs cells slots Q (F0 m pc ls (.int (nI y) :: .int (nI x) :: rest)) :=
  lv_icmp_eq hC.1 hC.2.1 hdg ht (fun h => kt ((nI_eq hx hy).mp h)) (fun h => kf (fun q => h ((nI_eq hx hy).mpr q)))
theorem n_icmp_ne {rest : List Value} {x y : Nat} {off : Int} {tgt : Nat} (hC : CallFix p m c cc nL s args lw_good own) (hdg : decode cc pc = .ok (.if_icmp .ne off, 3)) (hx : x < 2 ^ 31) (hy : y < 2 ^ 31) (ht : (pc : Int) + off = (tgt : Int)) (kt : ¬ x = y → W p l e R s m args below meth c H locs cells slots Q (F0 m tgt ls rest)) (kf : x = y → W p l e R s m args below meth c H locs cells slots Q (F0 m (pc + 3) ls rest)) : W p l e R s m args below meth c H locs cells slots Q (F0 m pc ls (.int (nI y) :: .int (nI x) :: rest)) :=
  lv_icmp_ne hC.1 hC.2.1 hdg ht (fun h => kt (fun q => h ((nI_eq hx hy).mpr q))) (fun h => kf ((nI_eq hx hy).mp h))
end KB
/-! the reference's world -/
def RP (g : kG) (o q : Nat) (f : Nat → Int32) (n : Nat) (H : Heap) : Prop := o ≠ q ∧ n ≤ 4 ∧ va_P g.1 kCl [(o, .inr (5, [.ref q, .int (nI n)])), (q, .inl (g.2.1, 2552, .inl f))] H
def RA (o q : Nat) : Nat → Prop := fun a => a = o ∨ a = q
theorem RP.D {g : kG} {o q n : Nat} {f : Nat → Int32} {H : Heap} (h : RP g o q f n H) : va_D (RA o q) [(o, .inr (5, [.ref q, .int (nI n)])), (q, .inl (g.2.1, 2552, .inl f))] := by
  refine ⟨fun i j x y hi hj hxy => ?_, fun k z hk => ?_⟩
  · match i, j, hi, hj with
    | 0, 0, _, _ => rfl
    | 1, 1, _, _ => rfl
    | 0, 1, hi, hj => cases hi; cases hj; exact absurd hxy h.1
    | 1, 0, hi, hj => cases hi; cases hj; exact absurd hxy.symm h.1
    | i + 2, _, hi, _ => simp at hi
    | 0, j + 2, _, hj => simp at hj
    | 1, j + 2, _, hj => simp at hj
  · match k, hk with
    | 0, hk => cases hk; exact Or.inl rfl
    | 1, hk => cases hk; exact Or.inr rfl
    | k + 2, hk => simp at hk
section KR
variable {p : Program} {l : Launch} {e : Env} {R : Room} {s : State} {m : MethodId} {args : Array Value} {below : List Frame} {meth : Method} {c : Code} {H : Heap} {locs : List Loc} {cells slots : Nat} {Q : State → Prop}
variable {cc : ByteArray} {pc nL : Nat} {ls : Array Slot} {own : String} {g : kG} {o q n : Nat} {f : Nat → Int32}
theorem RP.recv (hP : RP g o q f n H) (hK : KK g s) : ∃ cellB : Cell, H[o]? = some cellB ∧ cellB.vm.isStatics = false ∧ s.vm.findClass RX5 = some cellB.cls := va_recv hK.1 hP.2.2 (ci := 5) (q0 := 0) rfl rfl
theorem r_row {rest : List Value} (hC : CallFix p m c cc nL s args lw_good RX5) (hK : KK g s) (hP : RP g o q f n H) (hdg : decode cc pc = .ok (.getfield 7, 3)) (kk : W p l e R s m args below meth c H locs cells slots Q (F0 m (pc + 3) ls (.ref q :: rest))) : W p l e R s m args below meth c H locs cells slots Q (F0 m pc ls (.ref o :: rest)) :=
  va_get (D := g.1) (ci := 5) (v := .ref q) (C := RX5) (T := TX5) (N := 2) hC.1 hC.2.1 hC.2.2.2.2 i_X5 hC.2.2.2.1 hK.1 hP.2.2 0 rfl rfl 0 (by decide) (hC.2.2.2.2 (.fieldLink RX5 7 RX5 "row" "[I") w_643) (fun _ h9 => h9) rfl hdg kk
theorem r_states {rest : List Value} (hC : CallFix p m c cc nL s args lw_good RX5) (hK : KK g s) (hP : RP g o q f n H) (hdg : decode cc pc = .ok (.getfield 17, 3)) (kk : W p l e R s m args below meth c H locs cells slots Q (F0 m (pc + 3) ls (.int (nI n) :: rest))) : W p l e R s m args below meth c H locs cells slots Q (F0 m pc ls (.ref o :: rest)) :=
  va_get (D := g.1) (ci := 5) (v := .int (nI n)) (C := RX5) (T := TX5) (N := 2) hC.1 hC.2.1 hC.2.2.2.2 i_X5 hC.2.2.2.1 hK.1 hP.2.2 0 rfl rfl 1 (by decide) (hC.2.2.2.2 (.fieldLink RX5 17 RX5 "states" "I") w_644) (fun _ h9 => h9) rfl hdg kk
theorem r_putStates {rest : List Value} {n2 : Nat} (hC : CallFix p m c cc nL s args lw_good RX5) (hK : KK g s) (hP : RP g o q f n H) (hS : va_S (RA o q) s.heap H locs) (hn : n2 ≤ 4) (hdg : decode cc pc = .ok (.putfield 17, 3)) (kk : ∀ (H1 : Heap) (locs1 : List Loc), RP g o q f n2 H1 → va_S (RA o q) s.heap H1 locs1 → W p l e R s m args below meth c H1 locs1 cells slots Q (F0 m (pc + 3) ls rest)) : W p l e R s m args below meth c H locs cells slots Q (F0 m pc ls (.int (nI n2) :: .ref o :: rest)) :=
  va_put (D := g.1) (ci := 5) (v := .int (nI n2)) (ty := .int) (C := RX5) (T := TX5) (N := 2) hC.1 hC.2.1 hC.2.2.2.2 i_X5 tyX5 tyX5_ok nmX5 hC.2.2.2.1 hK.1 hP.2.2 hP.D hS 0 rfl rfl 1 (by decide) (hC.2.2.2.2 (.fieldLink RX5 17 RX5 "states" "I") w_644) (fun _ h9 => h9) rfl (by decide +kernel) rfl rfl (Nat.le_of_ble_eq_true rfl) hdg (fun H1 locs1 hP1 _ hS1 => kk H1 locs1 ⟨hP.1, hn, hP1⟩ hS1)
theorem r_ald {rest : List Value} {k : Nat} (hC : CallFix p m c cc nL s args lw_good own) (hK : KK g s) (hP : RP g o q f n H) (hk : k < 2552) (hdg : decode cc pc = .ok (.iaload, 1)) (kk : W p l e R s m args below meth c H locs cells slots Q (F0 m (pc + 1) ls (.int (f k) :: rest))) : W p l e R s m args below meth c H locs cells slots Q (F0 m pc ls (.int (nI k) :: .ref q :: rest)) := by
  refine va_iald hC.1 hC.2.1 hK.1 hP.2.2 1 0 rfl rfl (vp_in_nI hk (by decide)) hdg ?_
  rw [nI_clamp (by omega)]
  exact kk
theorem r_ast {rest : List Value} {k : Nat} {x : Int32} (hC : CallFix p m c cc nL s args lw_good own) (hK : KK g s) (hP : RP g o q f n H) (hS : va_S (RA o q) s.heap H locs) (hk : k < 2552) (hdg : decode cc pc = .ok (.iastore, 1)) (kk : ∀ (H1 : Heap) (locs1 : List Loc), RP g o q (upd f k x) n H1 → va_S (RA o q) s.heap H1 locs1 → W p l e R s m args below meth c H1 locs1 cells slots Q (F0 m (pc + 1) ls rest)) : W p l e R s m args below meth c H locs cells slots Q (F0 m pc ls (.int x :: .int (nI k) :: .ref q :: rest)) := by
  refine va_iast hC.1 hC.2.1 hK.1 hP.2.2 hP.D hS 1 0 rfl rfl (vp_in_nI hk (by decide)) hdg ?_
  rw [nI_clamp (by omega)]
  exact fun H1 locs1 hP1 _ hS1 => kk H1 locs1 ⟨hP.1, hP.2.1, hP1⟩ hS1
end KR
end
section
section KB2
variable {p : Program} {l : Launch} {e : Env} {R : Room} {s : State} {m : MethodId} {args : Array Value} {below : List Frame} {meth : Method} {c : Code} {H : Heap} {locs : List Loc} {cells slots : Nat} {Q : State → Prop}
variable {cc : ByteArray} {pc nL : Nat} {ls : Array Slot} {own : String} {g : kG}
theorem k_callMI0 {rest st0 : List Value} {A1 A0 : Nat → Prop} {H0 : Heap} {post : Int32 → Heap → Prop} {a : Array Value} (hr : va_Run p l e R s m args below meth c H locs cells slots 0 0 (F0 m pc ls st0) rest (qI A1 post a) A1) (hS : va_S A0 H0 H locs) (hA : ∀ q, A1 q → A0 q)
    (kk : ∀ (r : Int32) (H1 : Heap) (locs1 : List Loc), post r H1 → H.size ≤ H1.size → (∀ q : Nat, q < H.size → ¬ A1 q → H1[q]? = H[q]?) → va_S A0 H0 H1 locs1 → W p l e R s m args below meth c H1 locs1 cells slots Q (F0 m (pc + 3) ls (.int r :: rest))) : W p l e R s m args below meth c H locs cells slots Q (F0 m pc ls st0) := k_callMI hr hS hA kk
theorem k_callML0 {rest st0 : List Value} {A1 A0 : Nat → Prop} {H0 : Heap} {post : Int64 → Heap → Prop} {a : Array Value} (hr : va_Run p l e R s m args below meth c H locs cells slots 0 0 (F0 m pc ls st0) rest (qL A1 post a) A1) (hS : va_S A0 H0 H locs) (hA : ∀ q, A1 q → A0 q)
    (kk : ∀ (r : Int64) (H1 : Heap) (locs1 : List Loc), post r H1 → H.size ≤ H1.size → (∀ q : Nat, q < H.size → ¬ A1 q → H1[q]? = H[q]?) → va_S A0 H0 H1 locs1 → W p l e R s m args below meth c H1 locs1 cells slots Q (F0 m (pc + 3) ls (.long r :: rest))) : W p l e R s m args below meth c H locs cells slots Q (F0 m pc ls st0) := k_callML hr hS hA kk
theorem k_callMV0 {rest st0 : List Value} {A1 A0 : Nat → Prop} {H0 : Heap} {post : Heap → Prop} {a : Array Value} (hr : va_Run p l e R s m args below meth c H locs cells slots 0 0 (F0 m pc ls st0) rest (qV A1 post a) A1) (hS : va_S A0 H0 H locs) (hA : ∀ q, A1 q → A0 q)
    (kk : ∀ (H1 : Heap) (locs1 : List Loc), post H1 → H.size ≤ H1.size → (∀ q : Nat, q < H.size → ¬ A1 q → H1[q]? = H[q]?) → va_S A0 H0 H1 locs1 → W p l e R s m args below meth c H1 locs1 cells slots Q (F0 m (pc + 3) ls rest)) : W p l e R s m args below meth c H locs cells slots Q (F0 m pc ls st0) := k_callMV hr hS hA kk
theorem b_ifeq {rest : List Value} {P : Prop} [Decidable P] {off : Int} {tgt : Nat} (hC : CallFix p m c cc nL s args lw_good own) (hdg : decode cc pc = .ok (.ifCond .eq off, 3)) (ht : (pc : Int) + off = (tgt : Int)) (kt : ¬ P → W p l e R s m args below meth c H locs cells slots Q (F0 m tgt ls rest)) (kf : P → W p l e R s m args below meth c H locs cells slots Q (F0 m (pc + 3) ls rest)) : W p l e R s m args below meth c H locs cells slots Q (F0 m pc ls (.int (if P then 1 else 0) :: rest)) := by
  refine lv_if_eq hC.1 hC.2.1 hdg ht (fun h => kt (fun hp => ?_)) (fun h => kf (Decidable.byContradiction fun hp => h (if_neg hp)))
  rw [if_pos hp] at h
  exact absurd h (by decide)
theorem b_ifne {rest : List Value} {P : Prop} [Decidable P] {off : Int} {tgt : Nat} (hC : CallFix p m c cc nL s args lw_good own) (hdg : decode cc pc = .ok (.ifCond .ne off, 3)) (ht : (pc : Int) + off = (tgt : Int)) (kt : P → W p l e R s m args below meth c H locs cells slots Q (F0 m tgt ls rest)) (kf : ¬ P → W p l e R s m args below meth c H locs cells slots Q (F0 m (pc + 3) ls rest)) : W p l e R s m args below meth c H locs cells slots Q (F0 m pc ls (.int (if P then 1 else 0) :: rest)) := by
  refine lv_if_ne hC.1 hC.2.1 hdg ht (fun h => kt (Decidable.byContradiction fun hp => h (if_neg hp))) (fun h => kf (fun hp => ?_))
  rw [if_pos hp] at h
  exact absurd h (by decide)
theorem n_if_eq {rest : List Value} {x : Nat} {off : Int} {tgt : Nat} (hC : CallFix p m c cc nL s args lw_good own) (hdg : decode cc pc = .ok (.ifCond .eq off, 3)) (hx : x < 2 ^ 31) (ht : (pc : Int) + off = (tgt : Int)) (kt : x = 0 → W p l e R s m args below meth c H locs cells slots Q (F0 m tgt ls rest)) (kf : ¬ x = 0 → W p l e R s m args below meth c H locs cells slots Q (F0 m (pc + 3) ls rest)) : W p l e R s m args below meth c H locs cells slots Q (F0 m pc ls (.int (nI x) :: rest)) :=
  lv_if_eq hC.1 hC.2.1 hdg ht (fun h => kt ((nI_eq hx (by decide)).mp h)) (fun h => kf (fun q => h ((nI_eq hx (by decide)).mpr q)))
theorem n_if_ne {rest : List Value} {x : Nat} {off : Int} {tgt : Nat} (hC : CallFix p m c cc nL s args lw_good own) (hdg : decode cc pc = .ok (.ifCond .ne off, 3)) (hx : x < 2 ^ 31) (ht : (pc : Int) + off = (tgt : Int)) (kt : ¬ x = 0 → W p l e R s m args below meth c H locs cells slots Q (F0 m tgt ls rest)) (kf : x = 0 → W p l e R s m args below meth c H locs cells slots Q (F0 m (pc + 3) ls rest)) : W p l e R s m args below meth c H locs cells slots Q (F0 m pc ls (.int (nI x) :: rest)) :=
  lv_if_ne hC.1 hC.2.1 hdg ht (fun h => kt (fun q => h ((nI_eq hx (by decide)).mpr q))) (fun h => kf ((nI_eq hx (by decide)).mp h))
theorem n_if_lt {rest : List Value} {x : Nat} {off : Int} {tgt : Nat} (hC : CallFix p m c cc nL s args lw_good own) (hdg : decode cc pc = .ok (.ifCond .lt off, 3)) (hx : x < 2 ^ 31) (ht : (pc : Int) + off = (tgt : Int)) (kt : x < 0 → W p l e R s m args below meth c H locs cells slots Q (F0 m tgt ls rest)) (kf : ¬ x < 0 → W p l e R s m args below meth c H locs cells slots Q (F0 m (pc + 3) ls rest)) : W p l e R s m args below meth c H locs cells slots Q (F0 m pc ls (.int (nI x) :: rest)) :=
  lv_if_lt hC.1 hC.2.1 hdg ht (fun h => kt ((nI_ltI hx (by decide)).mp h)) (fun h => kf (fun q => h ((nI_ltI hx (by decide)).mpr q)))
theorem n_if_ge {rest : List Value} {x : Nat} {off : Int} {tgt : Nat} (hC : CallFix p m c cc nL s args lw_good own) (hdg : decode cc pc = .ok (.ifCond .ge off, 3)) (hx : x < 2 ^ 31) (ht : (pc : Int) + off = (tgt : Int)) (kt : 0 ≤ x → W p l e R s m args below meth c H locs cells slots Q (F0 m tgt ls rest)) (kf : ¬ 0 ≤ x → W p l e R s m args below meth c H locs cells slots Q (F0 m (pc + 3) ls rest)) : W p l e R s m args below meth c H locs cells slots Q (F0 m pc ls (.int (nI x) :: rest)) :=
  lv_if_ge hC.1 hC.2.1 hdg ht (fun h => kt ((nI_leI (by decide) hx).mp h)) (fun h => kf (fun q => h ((nI_leI (by decide) hx).mpr q)))
theorem n_if_gt {rest : List Value} {x : Nat} {off : Int} {tgt : Nat} (hC : CallFix p m c cc nL s args lw_good own) (hdg : decode cc pc = .ok (.ifCond .gt off, 3)) (hx : x < 2 ^ 31) (ht : (pc : Int) + off = (tgt : Int)) (kt : 0 < x → W p l e R s m args below meth c H locs cells slots Q (F0 m tgt ls rest)) (kf : ¬ 0 < x → W p l e R s m args below meth c H locs cells slots Q (F0 m (pc + 3) ls rest)) : W p l e R s m args below meth c H locs cells slots Q (F0 m pc ls (.int (nI x) :: rest)) :=
  lv_if_gt hC.1 hC.2.1 hdg ht (fun h => kt ((nI_ltI (by decide) hx).mp h)) (fun h => kf (fun q => h ((nI_ltI (by decide) hx).mpr q)))
theorem n_if_le {rest : List Value} {x : Nat} {off : Int} {tgt : Nat} (hC : CallFix p m c cc nL s args lw_good own) (hdg : decode cc pc = .ok (.ifCond .le off, 3)) (hx : x < 2 ^ 31) (ht : (pc : Int) + off = (tgt : Int)) (kt : x ≤ 0 → W p l e R s m args below meth c H locs cells slots Q (F0 m tgt ls rest)) (kf : ¬ x ≤ 0 → W p l e R s m args below meth c H locs cells slots Q (F0 m (pc + 3) ls rest)) : W p l e R s m args below meth c H locs cells slots Q (F0 m pc ls (.int (nI x) :: rest)) :=
  lv_if_le hC.1 hC.2.1 hdg ht (fun h => kt ((nI_leI hx (by decide)).mp h)) (fun h => kf (fun q => h ((nI_leI hx (by decide)).mpr q)))
/-! a comparison of longs and its test -/
theorem j_llt {rest : List Value} {x y : Int64} {off : Int} {tgt : Nat} (hC : CallFix p m c cc nL s args lw_good own) (hd1 : decode cc pc = .ok (.lcmp, 1)) (hdg : decode cc (pc + 1) = .ok (.ifCond .lt off, 3)) (ht : ((pc + 1 : Nat) : Int) + off = (tgt : Int)) (kt : x < y → W p l e R s m args below meth c H locs cells slots Q (F0 m tgt ls rest)) (kf : ¬ x < y → W p l e R s m args below meth c H locs cells slots Q (F0 m (pc + 1 + 3) ls rest)) : W p l e R s m args below meth c H locs cells slots Q (F0 m pc ls (.long y :: .long x :: rest)) :=
  W.lcmp hC.1 hC.2.1 hd1 (lv_if_lt hC.1 hC.2.1 hdg ht (fun h => kt ((lg_cmp_lt x y).mp h)) (fun h => kf (fun q => h ((lg_cmp_lt x y).mpr q))))
theorem j_lge {rest : List Value} {x y : Int64} {off : Int} {tgt : Nat} (hC : CallFix p m c cc nL s args lw_good own) (hd1 : decode cc pc = .ok (.lcmp, 1)) (hdg : decode cc (pc + 1) = .ok (.ifCond .ge off, 3)) (ht : ((pc + 1 : Nat) : Int) + off = (tgt : Int)) (kt : y ≤ x → W p l e R s m args below meth c H locs cells slots Q (F0 m tgt ls rest)) (kf : ¬ y ≤ x → W p l e R s m args below meth c H locs cells slots Q (F0 m (pc + 1 + 3) ls rest)) : W p l e R s m args below meth c H locs cells slots Q (F0 m pc ls (.long y :: .long x :: rest)) :=
  W.lcmp hC.1 hC.2.1 hd1 (lv_if_ge hC.1 hC.2.1 hdg ht (fun h => kt ((lg_cmp_ge x y).mp h)) (fun h => kf (fun q => h ((lg_cmp_ge x y).mpr q))))
theorem j_lgt {rest : List Value} {x y : Int64} {off : Int} {tgt : Nat} (hC : CallFix p m c cc nL s args lw_good own) (hd1 : decode cc pc = .ok (.lcmp, 1)) (hdg : decode cc (pc + 1) = .ok (.ifCond .gt off, 3)) (ht : ((pc + 1 : Nat) : Int) + off = (tgt : Int)) (kt : y < x → W p l e R s m args below meth c H locs cells slots Q (F0 m tgt ls rest)) (kf : ¬ y < x → W p l e R s m args below meth c H locs cells slots Q (F0 m (pc + 1 + 3) ls rest)) : W p l e R s m args below meth c H locs cells slots Q (F0 m pc ls (.long y :: .long x :: rest)) :=
  W.lcmp hC.1 hC.2.1 hd1 (lv_if_gt hC.1 hC.2.1 hdg ht (fun h => kt ((lg_cmp_gt x y).mp h)) (fun h => kf (fun q => h ((lg_cmp_gt x y).mpr q))))
theorem j_lle {rest : List Value} {x y : Int64} {off : Int} {tgt : Nat} (hC : CallFix p m c cc nL s args lw_good own) (hd1 : decode cc pc = .ok (.lcmp, 1)) (hdg : decode cc (pc + 1) = .ok (.ifCond .le off, 3)) (ht : ((pc + 1 : Nat) : Int) + off = (tgt : Int)) (kt : x ≤ y → W p l e R s m args below meth c H locs cells slots Q (F0 m tgt ls rest)) (kf : ¬ x ≤ y → W p l e R s m args below meth c H locs cells slots Q (F0 m (pc + 1 + 3) ls rest)) : W p l e R s m args below meth c H locs cells slots Q (F0 m pc ls (.long y :: .long x :: rest)) :=
  W.lcmp hC.1 hC.2.1 hd1 (lv_if_le hC.1 hC.2.1 hdg ht (fun h => kt ((lg_cmp_le x y).mp h)) (fun h => kf (fun q => h ((lg_cmp_le x y).mpr q))))
theorem j_leq {rest : List Value} {x y : Int64} {off : Int} {tgt : Nat} (hC : CallFix p m c cc nL s args lw_good own) (hd1 : decode cc pc = .ok (.lcmp, 1)) (hdg : decode cc (pc + 1) = .ok (.ifCond .eq off, 3)) (ht : ((pc + 1 : Nat) : Int) + off = (tgt : Int)) (kt : x = y → W p l e R s m args below meth c H locs cells slots Q (F0 m tgt ls rest)) (kf : ¬ x = y → W p l e R s m args below meth c H locs cells slots Q (F0 m (pc + 1 + 3) ls rest)) : W p l e R s m args below meth c H locs cells slots Q (F0 m pc ls (.long y :: .long x :: rest)) :=
  W.lcmp hC.1 hC.2.1 hd1 (lv_if_eq hC.1 hC.2.1 hdg ht (fun h => kt ((lg_cmp_eq x y).mp h)) (fun h => kf (fun q => h ((lg_cmp_eq x y).mpr q))))
theorem j_lne {rest : List Value} {x y : Int64} {off : Int} {tgt : Nat} (hC : CallFix p m c cc nL s args lw_good own) (hd1 : decode cc pc = .ok (.lcmp, 1)) (hdg : decode cc (pc + 1) = .ok (.ifCond .ne off, 3)) (ht : ((pc + 1 : Nat) : Int) + off = (tgt : Int)) (kt : ¬ x = y → W p l e R s m args below meth c H locs cells slots Q (F0 m tgt ls rest)) (kf : x = y → W p l e R s m args below meth c H locs cells slots Q (F0 m (pc + 1 + 3) ls rest)) : W p l e R s m args below meth c H locs cells slots Q (F0 m pc ls (.long y :: .long x :: rest)) :=
  W.lcmp hC.1 hC.2.1 hd1 (lv_if_ne hC.1 hC.2.1 hdg ht (fun h => kt (fun q => h ((lg_cmp_eq x y).mpr q))) (fun h => kf ((lg_cmp_eq x y).mp h)))
theorem n_iaddz {rest : List Value} {x y z : Nat} (hC : CallFix p m c cc nL s args lw_good own) (hdg : decode cc pc = .ok (.iadd, 1)) (hz : x + y = z) (k : W p l e R s m args below meth c H locs cells slots Q (F0 m (pc + 1) ls (.int (nI z) :: rest))) : W p l e R s m args below meth c H locs cells slots Q (F0 m pc ls (.int (nI y) :: .int (nI x) :: rest)) := n_iadd hC hdg (hz ▸ k)
theorem n_imulz {rest : List Value} {x y z : Nat} (hC : CallFix p m c cc nL s args lw_good own) (hdg : decode cc pc = .ok (.imul, 1)) (hz : x * y = z) (k : W p l e R s m args below meth c H locs cells slots Q (F0 m (pc + 1) ls (.int (nI z) :: rest))) : W p l e R s m args below meth c H locs cells slots Q (F0 m pc ls (.int (nI y) :: .int (nI x) :: rest)) := n_imul hC hdg (hz ▸ k)
theorem n_isubz {rest : List Value} {x y z : Nat} (hC : CallFix p m c cc nL s args lw_good own) (hdg : decode cc pc = .ok (.isub, 1)) (h : y ≤ x) (hz : x - y = z) (k : W p l e R s m args below meth c H locs cells slots Q (F0 m (pc + 1) ls (.int (nI z) :: rest))) : W p l e R s m args below meth c H locs cells slots Q (F0 m pc ls (.int (nI y) :: .int (nI x) :: rest)) := n_isub hC hdg h (hz ▸ k)
theorem z_if_eq {rest : List Value} {x : Int32} {off : Int} {tgt : Nat} (hC : CallFix p m c cc nL s args lw_good own) (hdg : decode cc pc = .ok (.ifCond .eq off, 3)) (ht : (pc : Int) + off = (tgt : Int)) (kt : x = nI 0 → W p l e R s m args below meth c H locs cells slots Q (F0 m tgt ls rest)) (kf : ¬ x = nI 0 → W p l e R s m args below meth c H locs cells slots Q (F0 m (pc + 3) ls rest)) : W p l e R s m args below meth c H locs cells slots Q (F0 m pc ls (.int x :: rest)) := lv_if_eq hC.1 hC.2.1 hdg ht kt kf
theorem z_if_ne {rest : List Value} {x : Int32} {off : Int} {tgt : Nat} (hC : CallFix p m c cc nL s args lw_good own) (hdg : decode cc pc = .ok (.ifCond .ne off, 3)) (ht : (pc : Int) + off = (tgt : Int)) (kt : ¬ x = nI 0 → W p l e R s m args below meth c H locs cells slots Q (F0 m tgt ls rest)) (kf : x = nI 0 → W p l e R s m args below meth c H locs cells slots Q (F0 m (pc + 3) ls rest)) : W p l e R s m args below meth c H locs cells slots Q (F0 m pc ls (.int x :: rest)) := lv_if_ne hC.1 hC.2.1 hdg ht kt kf
theorem z_if_lt {rest : List Value} {x : Int32} {off : Int} {tgt : Nat} (hC : CallFix p m c cc nL s args lw_good own) (hdg : decode cc pc = .ok (.ifCond .lt off, 3)) (ht : (pc : Int) + off = (tgt : Int)) (kt : x < nI 0 → W p l e R s m args below meth c H locs cells slots Q (F0 m tgt ls rest)) (kf : ¬ x < nI 0 → W p l e R s m args below meth c H locs cells slots Q (F0 m (pc + 3) ls rest)) : W p l e R s m args below meth c H locs cells slots Q (F0 m pc ls (.int x :: rest)) := lv_if_lt hC.1 hC.2.1 hdg ht kt kf
theorem z_if_ge {rest : List Value} {x : Int32} {off : Int} {tgt : Nat} (hC : CallFix p m c cc nL s args lw_good own) (hdg : decode cc pc = .ok (.ifCond .ge off, 3)) (ht : (pc : Int) + off = (tgt : Int)) (kt : nI 0 ≤ x → W p l e R s m args below meth c H locs cells slots Q (F0 m tgt ls rest)) (kf : ¬ nI 0 ≤ x → W p l e R s m args below meth c H locs cells slots Q (F0 m (pc + 3) ls rest)) : W p l e R s m args below meth c H locs cells slots Q (F0 m pc ls (.int x :: rest)) := lv_if_ge hC.1 hC.2.1 hdg ht kt kf
theorem z_if_gt {rest : List Value} {x : Int32} {off : Int} {tgt : Nat} (hC : CallFix p m c cc nL s args lw_good own) (hdg : decode cc pc = .ok (.ifCond .gt off, 3)) (ht : (pc : Int) + off = (tgt : Int)) (kt : nI 0 < x → W p l e R s m args below meth c H locs cells slots Q (F0 m tgt ls rest)) (kf : ¬ nI 0 < x → W p l e R s m args below meth c H locs cells slots Q (F0 m (pc + 3) ls rest)) : W p l e R s m args below meth c H locs cells slots Q (F0 m pc ls (.int x :: rest)) := lv_if_gt hC.1 hC.2.1 hdg ht kt kf
theorem z_if_le {rest : List Value} {x : Int32} {off : Int} {tgt : Nat} (hC : CallFix p m c cc nL s args lw_good own) (hdg : decode cc pc = .ok (.ifCond .le off, 3)) (ht : (pc : Int) + off = (tgt : Int)) (kt : x ≤ nI 0 → W p l e R s m args below meth c H locs cells slots Q (F0 m tgt ls rest)) (kf : ¬ x ≤ nI 0 → W p l e R s m args below meth c H locs cells slots Q (F0 m (pc + 3) ls rest)) : W p l e R s m args below meth c H locs cells slots Q (F0 m pc ls (.int x :: rest)) := lv_if_le hC.1 hC.2.1 hdg ht kt kf
end KB2
end
section
def s_quo (x y : Int64) : Int64 := x / y - (if x - x / y * y < lN 0 then lN 1 else lN 0)
def s_size (v : Int32) : Int32 := if v < nI 0 then -v else v
def s_fl (f : Nat → Int32) (b : Nat) (h : Nat → Int32) (k : Nat) : Nat → Int32 := fun j => if b ≤ j ∧ j < b + k then h (j - b) else f j
theorem s_fl_succ (f : Nat → Int32) (b : Nat) (h : Nat → Int32) (k : Nat) : upd (s_fl f b h k) (b + k) (h k) = s_fl f b h (k + 1) := by
  funext j
  unfold upd s_fl
  by_cases e : j = b + k
  · subst e; rw [if_pos rfl, if_pos ⟨by omega, by omega⟩, Nat.add_sub_cancel_left]
  · rw [if_neg e]
    by_cases e2 : b ≤ j ∧ j < b + k
    · rw [if_pos e2, if_pos ⟨e2.1, by omega⟩]
    · rw [if_neg e2, if_neg (fun q => e2 ⟨q.1, by omega⟩)]
theorem s_fl_out (f : Nat → Int32) (b : Nat) (h : Nat → Int32) (k j : Nat) (hj : j < b ∨ b + k ≤ j) : s_fl f b h k j = f j := if_neg (by omega)
theorem s_fl_in (f : Nat → Int32) (b : Nat) (h : Nat → Int32) (k i : Nat) (hi : i < k) : s_fl f b h k (b + i) = h i := by unfold s_fl; rw [if_pos ⟨by omega, by omega⟩, Nat.add_sub_cancel_left]
theorem s_fl_0 (f : Nat → Int32) (b : Nat) (h : Nat → Int32) : s_fl f b h 0 = f := by funext j; exact if_neg (by omega)
theorem upd_at (f : Nat → Int32) (k : Nat) (x : Int32) : upd f k x k = x := if_pos rfl
theorem upd_ne (f : Nat → Int32) (k : Nat) (x : Int32) (j : Nat) (h : j ≠ k) : upd f k x j = f j := if_neg h
theorem in_nat {x : Int32} {n : Nat} (hn : n < 2 ^ 31) (h : nI 0 ≤ x ∧ x ≤ nI n) : ∃ j : Nat, j ≤ n ∧ x = nI j :=
  nI_of2 (M := nI n) (nI_toInt hn) (Int32.not_lt.mpr h.1) h.2
/-- a block of 502 copied -/
abbrev s_cpy (f : Nat → Int32) (a b k : Nat) : Nat → Int32 := s_fl f b (fun i => f (a + i)) k
def s_rec (f : Nat → Int32) (n : Nat) : Nat → Int32 := if n = 4 then s_cpy (s_cpy (s_cpy (s_cpy f 1004 502 502) 1506 1004 502) 2008 1506 502) 0 2008 502 else s_cpy f 0 (502 + 502 * n) 502
def s_recn (n : Nat) : Nat := if n = 4 then 4 else n + 1
abbrev cINV : Int32 := -2000000001
abbrev cILL : Int32 := -2000000002
abbrev cCAP : Int32 := -2000000003
abbrev cNON : Int32 := -2000000004
set_option maxHeartbeats 4000000 in
set_option maxRecDepth 100000 in
theorem c_X5_in (l : Launch) (g : kG) (v : Int32) (lo : Int32) (hi : Int32) : PI l yX5_in cX5_in 3 (some .boolean) (rr 0 0) [.int (v), .int (lo), .int (hi)] ((fun _ => True)) g (if lo ≤ v ∧ v ≤ hi then 1 else 0) := by
  refine kOf (by decide) (Nat.le_of_ble_eq_true rfl) (fun p e s m below meth c ls hC hr hlk hin hK hP hl => ?_)
  have hx := hC.1
  have hb := hC.2.1
  have hml := hC.2.2.1
  have hown := hC.2.2.2.1
  have hts := hC.2.2.2.2
  have hl : lv_has ls 3 [(0, .int (v)), (1, .int (lo)), (2, .int (hi))] := hl
  refine lv_iload_n hx hb dX5_in_0 rfl (lvG hl rfl) ?_
  refine lv_iload_n hx hb dX5_in_1 rfl (lvG hl rfl) ?_
  refine lv_icmp_lt (tgt := 14) hx hb dX5_in_2 (by decide) (fun c_2 => ?_) (fun c_2 => ?_)
  · refine lv_iconst (v := nI 0) hx hb dX5_in_14 (by decide) ?_
    exact k_zret hC hr hlk dX5_in_15 k_nar0 (by first | rfl | grind [] | grind [nI])
  · refine lv_iload_n hx hb dX5_in_5 rfl (lvG hl rfl) ?_
    refine lv_iload_n hx hb dX5_in_6 rfl (lvG hl rfl) ?_
    refine lv_icmp_gt (tgt := 14) hx hb dX5_in_7 (by decide) (fun c_7 => ?_) (fun c_7 => ?_)
    · refine lv_iconst (v := nI 0) hx hb dX5_in_14 (by decide) ?_
      exact k_zret hC hr hlk dX5_in_15 k_nar0 (by first | rfl | grind [] | grind [nI])
    · refine lv_iconst (v := nI 1) hx hb dX5_in_10 (by decide) ?_
      refine lv_goto (tgt := 15) hx hb dX5_in_11 (by decide) ?_
      exact k_zret hC hr hlk dX5_in_15 k_nar1 (by first | rfl | grind [] | grind [nI])
theorem L_X5_X5_in : LnkS RX5 13 yX5_in cX5_in 3 (some .boolean) 3 := ⟨w_667, w_668, w_61, w_669, ⟨by decide +kernel, by decide +kernel⟩, by decide +kernel⟩
set_option maxHeartbeats 4000000 in
set_option maxRecDepth 100000 in
theorem c_X5_isEnd (l : Launch) (g : kG) (v : Int32) : PI l yX5_isEnd cX5_isEnd 1 (some .boolean) (rr 1 22) [.int (v)] ((fun _ => True)) g (if nI 0 ≤ v ∧ v ≤ nI 1 then 1 else 0) := by
  refine kOf (by decide) (Nat.le_of_ble_eq_true rfl) (fun p e s m below meth c ls hC hr hlk hin hK hP hl => ?_)
  have hx := hC.1
  have hb := hC.2.1
  have hml := hC.2.2.1
  have hown := hC.2.2.2.1
  have hts := hC.2.2.2.2
  have hl : lv_has ls 1 [(0, .int (v))] := hl
  refine lv_iload_n hx hb dX5_isEnd_0 rfl (lvG hl rfl) ?_
  refine lv_iconst (v := nI 0) hx hb dX5_isEnd_1 (by decide) ?_
  refine lv_iconst (v := nI 1) hx hb dX5_isEnd_2 (by decide) ?_
  refine k_callPI (k_goS (rest := []) hC hK (c_X5_in l g v (nI 0) (nI 1)) L_X5_X5_in (⟨⟨Nat.le_of_ble_eq_true rfl, Nat.le_of_ble_eq_true rfl⟩, ⟨rfl, rfl⟩, ⟨Nat.le_of_ble_eq_true rfl, Nat.le_of_ble_eq_true rfl⟩⟩) (trivial) rfl hl.1 rfl (Nat.le_of_ble_eq_true rfl) dX5_isEnd_3) ?_
  exact k_zret hC hr hlk dX5_isEnd_6 k_narb (by first | rfl | grind [] | grind [nI])
set_option maxHeartbeats 4000000 in
set_option maxRecDepth 100000 in
theorem c_X5_quotient (l : Launch) (g : kG) (x : Int64) (y : Int64) (hy : ¬ y = 0) : PL l yX5_quotient cX5_quotient 4 (some .long) (rr 0 0) [.long (x), .long (y)] ((fun _ => True)) g (s_quo x y) := by
  refine kOf (by decide) (Nat.le_of_ble_eq_true rfl) (fun p e s m below meth c ls hC hr hlk hin hK hP hl => ?_)
  have hx := hC.1
  have hb := hC.2.1
  have hml := hC.2.2.1
  have hown := hC.2.2.2.1
  have hts := hC.2.2.2.2
  have hl : lv_has ls 4 [(0, .long (x)), (2, .long (y))] := hl
  refine lv_lload_n hx hb dX5_quotient_0 rfl (lvG hl rfl) ?_
  refine lv_lload_n hx hb dX5_quotient_1 rfl (lvG hl rfl) ?_
  refine lv_ldiv hx hb dX5_quotient_2 (by assumption) ?_
  refine lv_lload_n hx hb dX5_quotient_3 rfl (lvG hl rfl) ?_
  refine lv_lload_n hx hb dX5_quotient_4 rfl (lvG hl rfl) ?_
  refine lv_lrem hx hb dX5_quotient_5 (by assumption) ?_
  refine lv_lconst (v := lN 0) hx hb dX5_quotient_6 (by decide) ?_
  refine j_lge (tgt := 15) hC dX5_quotient_7 dX5_quotient_8 (by decide) (fun c_7 => ?_) (fun c_7 => ?_)
  · refine lv_lconst (v := lN 0) hx hb dX5_quotient_15 (by decide) ?_
    refine lv_lsub hx hb dX5_quotient_16 ?_
    exact k_lret hC hr hlk dX5_quotient_17 (by first | rfl | grind [s_quo] | grind [nI, s_quo])
  · refine lv_lconst (v := lN 1) hx hb dX5_quotient_11 (by decide) ?_
    refine lv_goto (tgt := 16) hx hb dX5_quotient_12 (by decide) ?_
    refine lv_lsub hx hb dX5_quotient_16 ?_
    exact k_lret hC hr hlk dX5_quotient_17 (by first | rfl | grind [s_quo] | grind [nI, s_quo])
set_option maxHeartbeats 4000000 in
set_option maxRecDepth 100000 in
theorem c_X5_size (l : Launch) (g : kG) (v : Int32) : PI l yX5_size cX5_size 1 (some .int) (rr 0 0) [.int (v)] ((fun _ => True)) g (s_size v) := by
  refine kOf (by decide) (Nat.le_of_ble_eq_true rfl) (fun p e s m below meth c ls hC hr hlk hin hK hP hl => ?_)
  have hx := hC.1
  have hb := hC.2.1
  have hml := hC.2.2.1
  have hown := hC.2.2.2.1
  have hts := hC.2.2.2.2
  have hl : lv_has ls 1 [(0, .int (v))] := hl
  refine lv_iload_n hx hb dX5_size_0 rfl (lvG hl rfl) ?_
  refine z_if_ge (tgt := 9) hC dX5_size_1 (by decide) (fun c_1 => ?_) (fun c_1 => ?_)
  · refine lv_iload_n hx hb dX5_size_9 rfl (lvG hl rfl) ?_
    exact k_iret hC hr hlk dX5_size_10 (by first | rfl | grind [s_size] | grind [nI, s_size])
  · refine lv_iload_n hx hb dX5_size_4 rfl (lvG hl rfl) ?_
    refine lv_ineg hx hb dX5_size_5 ?_
    refine lv_goto (tgt := 10) hx hb dX5_size_6 (by decide) ?_
    exact k_iret hC hr hlk dX5_size_10 (by first | rfl | grind [s_size] | grind [nI, s_size])
set_option maxHeartbeats 4000000 in
set_option maxRecDepth 100000 in
theorem c_X5_historySize (l : Launch) (g : kG) (o : Nat) (q : Nat) (f : Nat → Int32) (n : Nat) : PI l yX5_historySize cX5_historySize 1 (some .int) (rr 0 0) [.ref o] ((RP g o q f n)) g (nI n) := by
  refine kOf (by decide) (Nat.le_of_ble_eq_true rfl) (fun p e s m below meth c ls hC hr hlk hin hK hP hl => ?_)
  have hx := hC.1
  have hb := hC.2.1
  have hml := hC.2.2.1
  have hown := hC.2.2.2.1
  have hts := hC.2.2.2.2
  have hl : lv_has ls 1 [(0, .ref o)] := hl
  refine lv_aload_n hx hb dX5_historySize_0 rfl (lvG hl rfl) ?_
  refine r_states hC hK hP dX5_historySize_1 ?_
  exact k_iret hC hr hlk dX5_historySize_4 (by first | rfl | grind [] | grind [nI])
set_option maxHeartbeats 4000000 in
set_option maxRecDepth 100000 in
theorem c_X5_cardCount (l : Launch) (g : kG) (o : Nat) (q : Nat) (f : Nat → Int32) (n : Nat) : PI l yX5_cardCount cX5_cardCount 1 (some .int) (rr 0 0) [.ref o] ((RP g o q f n)) g (f 61) := by
  refine kOf (by decide) (Nat.le_of_ble_eq_true rfl) (fun p e s m below meth c ls hC hr hlk hin hK hP hl => ?_)
  have hx := hC.1
  have hb := hC.2.1
  have hml := hC.2.2.1
  have hown := hC.2.2.2.1
  have hts := hC.2.2.2.2
  have hl : lv_has ls 1 [(0, .ref o)] := hl
  refine lv_aload_n hx hb dX5_cardCount_0 rfl (lvG hl rfl) ?_
  refine r_row hC hK hP dX5_cardCount_1 ?_
  refine lv_bipush (v := nI 61) hx hb dX5_cardCount_4 (by decide) ?_
  refine r_ald (k := 61) hC hK hP (by omega) dX5_cardCount_6 ?_
  exact k_iret hC hr hlk dX5_cardCount_7 (by first | rfl | grind [] | grind [nI])
set_option maxHeartbeats 4000000 in
set_option maxRecDepth 100000 in
theorem c_X5_volume (l : Launch) (g : kG) (o : Nat) (q : Nat) (f : Nat → Int32) (n : Nat) (a : Int32) : PI l yX5_volume cX5_volume 2 (some .int) (rr 0 0) [.ref o, .int (a)] ((RP g o q f n)) g (f 0 + a) := by
  refine kOf (by decide) (Nat.le_of_ble_eq_true rfl) (fun p e s m below meth c ls hC hr hlk hin hK hP hl => ?_)
  have hx := hC.1
  have hb := hC.2.1
  have hml := hC.2.2.1
  have hown := hC.2.2.2.1
  have hts := hC.2.2.2.2
  have hl : lv_has ls 2 [(0, .ref o), (1, .int (a))] := hl
  refine lv_aload_n hx hb dX5_volume_0 rfl (lvG hl rfl) ?_
  refine r_row hC hK hP dX5_volume_1 ?_
  refine lv_iconst (v := nI 0) hx hb dX5_volume_4 (by decide) ?_
  refine r_ald (k := 0) hC hK hP (by omega) dX5_volume_5 ?_
  refine lv_iload_n hx hb dX5_volume_6 rfl (lvG hl rfl) ?_
  refine lv_iadd hx hb dX5_volume_7 ?_
  exact k_iret hC hr hlk dX5_volume_8 (by first | rfl | grind [] | grind [nI])
set_option maxHeartbeats 4000000 in
set_option maxRecDepth 100000 in
theorem c_X5_endAt (l : Launch) (g : kG) (a : Nat) : PI l yX5_endAt cX5_endAt 1 (some .int) (rr 0 0) [.int (nI a)] ((fun _ => True)) g (nI (62 + 44 * a)) := by
  refine kOf (by decide) (Nat.le_of_ble_eq_true rfl) (fun p e s m below meth c ls hC hr hlk hin hK hP hl => ?_)
  have hx := hC.1
  have hb := hC.2.1
  have hml := hC.2.2.1
  have hown := hC.2.2.2.1
  have hts := hC.2.2.2.2
  have hl : lv_has ls 1 [(0, .int (nI a))] := hl
  refine lv_bipush (v := nI 62) hx hb dX5_endAt_0 (by decide) ?_
  refine lv_bipush (v := nI 44) hx hb dX5_endAt_2 (by decide) ?_
  refine lv_iload_n hx hb dX5_endAt_4 rfl (lvG hl rfl) ?_
  refine n_imul hC dX5_endAt_5 ?_
  refine n_iadd hC dX5_endAt_6 ?_
  exact k_iret hC hr hlk dX5_endAt_7 (by first | rfl | grind [] | grind [nI])
set_option maxHeartbeats 4000000 in
set_option maxRecDepth 100000 in
theorem c_X5_at (l : Launch) (g : kG) (a : Nat) : PI l yX5_at cX5_at 1 (some .int) (rr 0 0) [.int (nI a)] ((fun _ => True)) g (nI (62 + 44 * a + 2)) := by
  refine kOf (by decide) (Nat.le_of_ble_eq_true rfl) (fun p e s m below meth c ls hC hr hlk hin hK hP hl => ?_)
  have hx := hC.1
  have hb := hC.2.1
  have hml := hC.2.2.1
  have hown := hC.2.2.2.1
  have hts := hC.2.2.2.2
  have hl : lv_has ls 1 [(0, .int (nI a))] := hl
  refine lv_bipush (v := nI 62) hx hb dX5_at_0 (by decide) ?_
  refine lv_bipush (v := nI 44) hx hb dX5_at_2 (by decide) ?_
  refine lv_iload_n hx hb dX5_at_4 rfl (lvG hl rfl) ?_
  refine n_imul hC dX5_at_5 ?_
  refine n_iadd hC dX5_at_6 ?_
  refine lv_iconst (v := nI 2) hx hb dX5_at_7 (by decide) ?_
  refine n_iadd hC dX5_at_8 ?_
  exact k_iret hC hr hlk dX5_at_9 (by first | rfl | grind [] | grind [nI])
set_option maxHeartbeats 4000000 in
set_option maxRecDepth 100000 in
theorem c_X5_valveOf (l : Launch) (g : kG) (o : Nat) (q : Nat) (f : Nat → Int32) (n : Nat) (en : Nat) (ev : Nat) (h : 8 + 4 * en + ev < 2552) : PI l yX5_valveOf cX5_valveOf 3 (some .int) (rr 0 0) [.ref o, .int (nI en), .int (nI ev)] ((RP g o q f n)) g (f (8 + 4 * en + ev)) := by
  refine kOf (by decide) (Nat.le_of_ble_eq_true rfl) (fun p e s m below meth c ls hC hr hlk hin hK hP hl => ?_)
  have hx := hC.1
  have hb := hC.2.1
  have hml := hC.2.2.1
  have hown := hC.2.2.2.1
  have hts := hC.2.2.2.2
  have hl : lv_has ls 3 [(0, .ref o), (1, .int (nI en)), (2, .int (nI ev))] := hl
  refine lv_aload_n hx hb dX5_valveOf_0 rfl (lvG hl rfl) ?_
  refine r_row hC hK hP dX5_valveOf_1 ?_
  refine lv_bipush (v := nI 8) hx hb dX5_valveOf_4 (by decide) ?_
  refine lv_iconst (v := nI 4) hx hb dX5_valveOf_6 (by decide) ?_
  refine lv_iload_n hx hb dX5_valveOf_7 rfl (lvG hl rfl) ?_
  refine n_imul hC dX5_valveOf_8 ?_
  refine n_iadd hC dX5_valveOf_9 ?_
  refine lv_iload_n hx hb dX5_valveOf_10 rfl (lvG hl rfl) ?_
  refine n_iadd hC dX5_valveOf_11 ?_
  refine r_ald (k := 8 + (4 * en) + ev) hC hK hP (by omega) dX5_valveOf_12 ?_
  exact k_iret hC hr hlk dX5_valveOf_13 (by first | rfl | grind [] | grind [nI])
set_option maxHeartbeats 4000000 in
set_option maxRecDepth 100000 in
theorem c_X5_difference (l : Launch) (g : kG) (o : Nat) (q : Nat) (f : Nat → Int32) (n : Nat) (a : Nat) (s0 : Nat) (h : a + 21 + s0 < 2552) : PI l yX5_difference cX5_difference 3 (some .int) (rr 0 0) [.ref o, .int (nI a), .int (nI s0)] ((RP g o q f n)) g (f (a + s0) - f (a + 21 + s0)) := by
  refine kOf (by decide) (Nat.le_of_ble_eq_true rfl) (fun p e s m below meth c ls hC hr hlk hin hK hP hl => ?_)
  have hx := hC.1
  have hb := hC.2.1
  have hml := hC.2.2.1
  have hown := hC.2.2.2.1
  have hts := hC.2.2.2.2
  have hl : lv_has ls 3 [(0, .ref o), (1, .int (nI a)), (2, .int (nI s0))] := hl
  refine lv_aload_n hx hb dX5_difference_0 rfl (lvG hl rfl) ?_
  refine r_row hC hK hP dX5_difference_1 ?_
  refine lv_iload_n hx hb dX5_difference_4 rfl (lvG hl rfl) ?_
  refine lv_iload_n hx hb dX5_difference_5 rfl (lvG hl rfl) ?_
  refine n_iadd hC dX5_difference_6 ?_
  refine r_ald (k := a + s0) hC hK hP (by omega) dX5_difference_7 ?_
  refine lv_aload_n hx hb dX5_difference_8 rfl (lvG hl rfl) ?_
  refine r_row hC hK hP dX5_difference_9 ?_
  refine lv_iload_n hx hb dX5_difference_12 rfl (lvG hl rfl) ?_
  refine lv_bipush (v := nI 21) hx hb dX5_difference_13 (by decide) ?_
  refine n_iadd hC dX5_difference_15 ?_
  refine lv_iload_n hx hb dX5_difference_16 rfl (lvG hl rfl) ?_
  refine n_iadd hC dX5_difference_17 ?_
  refine r_ald (k := a + 21 + s0) hC hK hP (by omega) dX5_difference_18 ?_
  refine lv_isub hx hb dX5_difference_19 ?_
  exact k_iret hC hr hlk dX5_difference_20 (by first | rfl | grind [] | grind [nI])
def s_df (p : Nat → Int32) (k : Nat) : Int32 := p k - p (21 + k)
def s_ar (p : Nat → Int32) : Nat → Int32
  | 0 => nI 0
  | k + 1 => s_ar p k + (s_df p k + s_df p (k + 1))
theorem L_X5_X5_difference : LnkV RX5 79 yX5_difference cX5_difference 3 (some .int) 2 := ⟨w_797, w_799, w_37, w_61, w_800, ⟨by decide +kernel, by decide +kernel⟩, by decide +kernel⟩
set_option maxHeartbeats 4000000 in
set_option maxRecDepth 100000 in
theorem c_X5_areaAt (l : Launch) (g : kG) (o : Nat) (q : Nat) (f : Nat → Int32) (n : Nat) (a : Nat) (h : a + 42 ≤ 2552) : PI l yX5_areaAt cX5_areaAt 4 (some .int) (rr 1 22) [.ref o, .int (nI a)] ((RP g o q f n)) g (s_ar (fun k => f (a + k)) 20) := by
  refine kOf (by decide) (Nat.le_of_ble_eq_true rfl) (fun p e s m below meth c ls hC hr hlk hin hK hP hl => ?_)
  have hx := hC.1
  have hb := hC.2.1
  have hml := hC.2.2.1
  have hown := hC.2.2.2.1
  have hts := hC.2.2.2.2
  have hl : lv_has ls 4 [(0, .ref o), (1, .int (nI a))] := hl
  refine lv_iconst (v := nI 0) hx hb dX5_areaAt_0 (by decide) ?_
  refine lv_istore_n (lv' := [(2, .int (nI 0)), (0, .ref o), (1, .int (nI a))]) hx hb dX5_areaAt_1 rfl hl (by decide) rfl (fun ls hl => ?_)
  refine lv_iconst (v := nI 0) hx hb dX5_areaAt_2 (by decide) ?_
  refine lv_istore_n (lv' := [(3, .int (nI 0)), (2, .int (nI 0)), (0, .ref o), (1, .int (nI a))]) hx hb dX5_areaAt_3 rfl hl (by decide) rfl (fun ls hl => ?_)
  have key_1 : ∀ (k_2 : Nat) (i : Nat) (sm : Int32)  (hi : i ≤ 20) (hs : sm = s_ar (fun k => f (a + k)) i) (hk_k_2 : 20 - i < k_2) (ls : Array Slot) (hl : lv_has ls 4 [(3, .int (nI i)), (2, .int (sm)), (0, .ref o), (1, .int (nI a))]), W p l e (rr 1 22) s m [.ref o, .int (nI a)].toArray below meth c s.heap [] 0 0 (MQ below (vp_Si (fun r => r = s_ar (fun k => f (a + k)) 20)) [.ref o, .int (nI a)].toArray s 0 0 (fun _ => False)) (F0 m 4 ls ([])) := by
    intro k_2
    induction k_2 with
    | zero => intro i sm hi hs hk_k_2 ls hl; exact absurd hk_k_2 (Nat.not_lt_zero _)
    | succ k_2 ih_3 =>
      intro i sm hi hs hk_k_2 ls hl
      refine lv_iload_n hx hb dX5_areaAt_4 rfl (lvG hl rfl) ?_
      refine lv_bipush (v := nI 20) hx hb dX5_areaAt_5 (by decide) ?_
      refine n_icmp_ge (tgt := 34) hC dX5_areaAt_7 (by omega) (by omega) (by decide) (fun c_7 => ?_) (fun c_7 => ?_)
      · refine lv_iload_n hx hb dX5_areaAt_34 rfl (lvG hl rfl) ?_
        exact k_iret hC hr hlk dX5_areaAt_35 (by rw [hs, show i = 20 by omega])
      · refine lv_iload_n hx hb dX5_areaAt_10 rfl (lvG hl rfl) ?_
        refine lv_aload_n hx hb dX5_areaAt_11 rfl (lvG hl rfl) ?_
        refine lv_iload_n hx hb dX5_areaAt_12 rfl (lvG hl rfl) ?_
        refine lv_iload_n hx hb dX5_areaAt_13 rfl (lvG hl rfl) ?_
        refine k_callPI (k_goV (rest := [.int (sm)]) hC hK (c_X5_difference l g o q f n a i (by omega)) L_X5_X5_difference (⟨⟨Nat.le_of_ble_eq_true rfl, Nat.le_of_ble_eq_true rfl⟩, ⟨rfl, rfl⟩, ⟨Nat.le_of_ble_eq_true rfl, Nat.le_of_ble_eq_true rfl⟩⟩) (hP.recv hK) (hP) rfl hl.1 rfl (Nat.le_of_ble_eq_true rfl) dX5_areaAt_14) ?_
        refine lv_aload_n hx hb dX5_areaAt_17 rfl (lvG hl rfl) ?_
        refine lv_iload_n hx hb dX5_areaAt_18 rfl (lvG hl rfl) ?_
        refine lv_iload_n hx hb dX5_areaAt_19 rfl (lvG hl rfl) ?_
        refine lv_iconst (v := nI 1) hx hb dX5_areaAt_20 (by decide) ?_
        refine n_iadd hC dX5_areaAt_21 ?_
        refine k_callPI (k_goV (rest := [.int (f (a + i) - f (a + 21 + i)), .int (sm)]) hC hK (c_X5_difference l g o q f n a (i + 1) (by omega)) L_X5_X5_difference (⟨⟨Nat.le_of_ble_eq_true rfl, Nat.le_of_ble_eq_true rfl⟩, ⟨rfl, rfl⟩, ⟨Nat.le_of_ble_eq_true rfl, Nat.le_of_ble_eq_true rfl⟩⟩) (hP.recv hK) (hP) rfl hl.1 rfl (Nat.le_of_ble_eq_true rfl) dX5_areaAt_22) ?_
        refine lv_iadd hx hb dX5_areaAt_25 ?_
        refine lv_iadd hx hb dX5_areaAt_26 ?_
        refine lv_istore_n (lv' := [(2, .int (sm + ((f (a + i) - f (a + 21 + i)) + (f (a + (i + 1)) - f (a + 21 + (i + 1)))))), (3, .int (nI i)), (0, .ref o), (1, .int (nI a))]) hx hb dX5_areaAt_27 rfl hl (by decide) rfl (fun ls hl => ?_)
        refine n_iinc (lv' := [(3, .int (nI (i + 1))), (2, .int (sm + ((f (a + i) - f (a + 21 + i)) + (f (a + (i + 1)) - f (a + 21 + (i + 1)))))), (0, .ref o), (1, .int (nI a))]) hC dX5_areaAt_28 hl rfl (by decide) rfl (fun ls hl => ?_)
        refine lv_goto (tgt := 4) hx hb dX5_areaAt_31 (by decide) ?_
        exact ih_3 (i + 1) (sm + ((f (a + i) - f (a + 21 + i)) + (f (a + (i + 1)) - f (a + 21 + (i + 1)))))  (by first | omega | assumption | rfl) (by rw [hs, Nat.add_assoc a 21, Nat.add_assoc a 21, ← Nat.add_assoc a i]; rfl) (by omega) ls (lv_sub hl [0, 1, 2, 3] rfl)
  exact key_1 ((20 - 0) + 1) 0 (nI 0)  (by first | rfl | omega | assumption) (by first | rfl | omega | assumption) (Nat.lt_succ_self _) ls (lv_sub hl [0, 1, 2, 3] rfl)
set_option maxHeartbeats 4000000 in
set_option maxRecDepth 100000 in
theorem c_X5_copy (l : Launch) (g : kG) (o : Nat) (q : Nat) (f : Nat → Int32) (n : Nat) (a : Nat) (b : Nat) (h1 : a + 502 ≤ 2552) (h2 : b + 502 ≤ 2552) (h3 : a + 502 ≤ b ∨ b + 502 ≤ a) : MV l yX5_copy cX5_copy 4 none (rr 0 0) [.ref o, .int (nI a), .int (nI b)] ((RP g o q f n)) g 0 0 (RA o q) (fun H1 => RP g o q (s_cpy f a b 502) (n) H1) := by
  refine kOf (by decide) (Nat.le_of_ble_eq_true rfl) (fun p e s m below meth c ls hC hr hlk hin hK hP hl => ?_)
  have hx := hC.1
  have hb := hC.2.1
  have hml := hC.2.2.1
  have hown := hC.2.2.2.1
  have hts := hC.2.2.2.2
  have hl : lv_has ls 4 [(0, .ref o), (1, .int (nI a)), (2, .int (nI b))] := hl
  have hS : va_S (RA o q) s.heap s.heap [] := va_S.rf
  refine lv_iconst (v := nI 0) hx hb dX5_copy_0 (by decide) ?_
  refine lv_istore_n (lv' := [(3, .int (nI 0)), (0, .ref o), (1, .int (nI a)), (2, .int (nI b))]) hx hb dX5_copy_1 rfl hl (by decide) rfl (fun ls hl => ?_)
  have key_1 : ∀ (k_2 : Nat) (i : Nat) (F : Nat → Int32) (H_l2 : Heap) (locs_l2 : List Loc) (hP_l2 : RP g o q F n H_l2) (hS_l2 : va_S (RA o q) s.heap H_l2 locs_l2) (hi : i ≤ 502) (hF : F = s_cpy f a b i) (hk_k_2 : 502 - i < k_2) (ls : Array Slot) (hl : lv_has ls 4 [(3, .int (nI i)), (0, .ref o), (1, .int (nI a)), (2, .int (nI b))]), W p l e (rr 0 0) s m [.ref o, .int (nI a), .int (nI b)].toArray below meth c H_l2 locs_l2 0 0 (MQ below (qV (RA o q) (fun H1 => RP g o q (s_cpy f a b 502) (n) H1)) [.ref o, .int (nI a), .int (nI b)].toArray s 0 0 (RA o q)) (F0 m 2 ls ([])) := by
    intro k_2
    induction k_2 with
    | zero => intro i F H_l2 locs_l2 hP_l2 hS_l2 hi hF hk_k_2 ls hl; exact absurd hk_k_2 (Nat.not_lt_zero _)
    | succ k_2 ih_3 =>
      intro i F H_l2 locs_l2 hP_l2 hS_l2 hi hF hk_k_2 ls hl
      refine lv_iload_n hx hb dX5_copy_2 rfl (lvG hl rfl) ?_
      refine lv_sipush (v := nI 502) hx hb dX5_copy_3 (by decide) ?_
      refine n_icmp_ge (tgt := 31) hC dX5_copy_6 (by omega) (by omega) (by decide) (fun c_6 => ?_) (fun c_6 => ?_)
      · exact k_vretM hC hr hlk hS_l2 dX5_copy_31 (by rw [hF, show i = 502 by omega] at hP_l2; exact hP_l2)
      · refine lv_aload_n hx hb dX5_copy_9 rfl (lvG hl rfl) ?_
        refine r_row hC hK hP_l2 dX5_copy_10 ?_
        refine lv_iload_n hx hb dX5_copy_13 rfl (lvG hl rfl) ?_
        refine lv_iload_n hx hb dX5_copy_14 rfl (lvG hl rfl) ?_
        refine n_iadd hC dX5_copy_15 ?_
        refine lv_aload_n hx hb dX5_copy_16 rfl (lvG hl rfl) ?_
        refine r_row hC hK hP_l2 dX5_copy_17 ?_
        refine lv_iload_n hx hb dX5_copy_20 rfl (lvG hl rfl) ?_
        refine lv_iload_n hx hb dX5_copy_21 rfl (lvG hl rfl) ?_
        refine n_iadd hC dX5_copy_22 ?_
        refine r_ald (k := a + i) hC hK hP_l2 (by omega) dX5_copy_23 ?_
        refine r_ast (k := b + i) hC hK hP_l2 hS_l2 (by omega) dX5_copy_24 (fun H_4 locs_5 hP_6 hS_7 => ?_)
        refine n_iinc (lv' := [(3, .int (nI (i + 1))), (0, .ref o), (1, .int (nI a)), (2, .int (nI b))]) hC dX5_copy_25 hl rfl (by decide) rfl (fun ls hl => ?_)
        refine lv_goto (tgt := 2) hx hb dX5_copy_28 (by decide) ?_
        exact ih_3 (i + 1) (upd F (b + i) (F (a + i))) _ _ hP_6 hS_7 (by first | omega | assumption | rfl) (by rw [hF, show s_cpy f a b i (a + i) = f (a + i) from s_fl_out _ _ _ _ _ (by omega)]; exact s_fl_succ f b (fun i => f (a + i)) i) (by omega) ls (lv_sub hl [0, 1, 2, 3] rfl)
  exact key_1 ((502 - 0) + 1) 0 f _ _ hP hS (by first | rfl | omega | assumption) ((s_fl_0 _ _ _).symm) (Nat.lt_succ_self _) ls (lv_sub hl [0, 1, 2, 3] rfl)
theorem L_X5_X5_copy : LnkV RX5 21 yX5_copy cX5_copy 4 none 2 := ⟨w_659, w_661, w_25, w_61, w_662, ⟨by decide +kernel, by decide +kernel⟩, by decide +kernel⟩
set_option maxHeartbeats 4000000 in
set_option maxRecDepth 100000 in
theorem c_X5_record (l : Launch) (g : kG) (o : Nat) (q : Nat) (f : Nat → Int32) (n : Nat) : MV l yX5_record cX5_record 2 none (rr 1 23) [.ref o] ((RP g o q f n)) g 0 0 (RA o q) (fun H1 => RP g o q (s_rec f n) (s_recn n) H1) := by
  refine kOf (by decide) (Nat.le_of_ble_eq_true rfl) (fun p e s m below meth c ls hC hr hlk hin hK hP hl => ?_)
  have hx := hC.1
  have hb := hC.2.1
  have hml := hC.2.2.1
  have hown := hC.2.2.2.1
  have hts := hC.2.2.2.2
  have hl : lv_has ls 2 [(0, .ref o)] := hl
  have hS : va_S (RA o q) s.heap s.heap [] := va_S.rf
  have hn4 := hP.2.1
  refine lv_aload_n hx hb dX5_record_0 rfl (lvG hl rfl) ?_
  refine r_states hC hK hP dX5_record_1 ?_
  refine lv_iconst (v := nI 4) hx hb dX5_record_4 (by decide) ?_
  refine n_icmp_ne (tgt := 49) hC dX5_record_5 (by omega) (by omega) (by decide) (fun c_5 => ?_) (fun c_5 => ?_)
  · refine lv_aload_n hx hb dX5_record_49 rfl (lvG hl rfl) ?_
    refine lv_iconst (v := nI 0) hx hb dX5_record_50 (by decide) ?_
    refine lv_sipush (v := nI 502) hx hb dX5_record_51 (by decide) ?_
    refine lv_sipush (v := nI 502) hx hb dX5_record_54 (by decide) ?_
    refine lv_aload_n hx hb dX5_record_57 rfl (lvG hl rfl) ?_
    refine r_states hC hK hP dX5_record_58 ?_
    refine n_imul hC dX5_record_61 ?_
    refine n_iadd hC dX5_record_62 ?_
    refine k_callMV0 (k_goV (rest := []) hC hK (c_X5_copy l g o q f n 0 (502 + (502 * n)) (by omega) (by omega) (by omega)) L_X5_X5_copy (⟨⟨Nat.le_of_ble_eq_true rfl, Nat.le_of_ble_eq_true rfl⟩, ⟨rfl, rfl⟩, ⟨Nat.le_of_ble_eq_true rfl, Nat.le_of_ble_eq_true rfl⟩⟩) (hP.recv hK) (hP) rfl hl.1 rfl (Nat.le_of_ble_eq_true rfl) dX5_record_63) hS (fun _ h => h) (fun H_1 locs_2 hP_3 _ _ hS_4 => ?_)
    refine lv_aload_n hx hb dX5_record_66 rfl (lvG hl rfl) ?_
    refine lv_dup hx hb dX5_record_67 rfl ?_
    refine r_states hC hK hP_3 dX5_record_68 ?_
    refine lv_iconst (v := nI 1) hx hb dX5_record_71 (by decide) ?_
    refine n_iadd hC dX5_record_72 ?_
    refine r_putStates (n2 := n + 1) hC hK hP_3 hS_4 (by omega) dX5_record_73 (fun H_5 locs_6 hP_7 hS_8 => ?_)
    exact k_vretM hC hr hlk hS_8 dX5_record_76 (by unfold s_rec s_recn; first | (rw [if_pos rfl, if_pos rfl]; exact hP_7) | (rw [if_neg c_5, if_neg c_5]; exact hP_7))
  · subst c_5
    refine lv_iconst (v := nI 1) hx hb dX5_record_8 (by decide) ?_
    refine lv_istore_n (lv' := [(1, .int (nI 1)), (0, .ref o)]) hx hb dX5_record_9 rfl hl (by decide) rfl (fun ls hl => ?_)
    refine lv_iload_n hx hb dX5_record_10 rfl (lvG hl rfl) ?_
    refine lv_iconst (v := nI 4) hx hb dX5_record_11 (by decide) ?_
    refine n_icmp_ge (tgt := 39) hC dX5_record_12 (by decide) (by decide) (by decide) (fun c => absurd c (by decide)) (fun _ => ?_)
    refine lv_aload_n hx hb dX5_record_15 rfl (lvG hl rfl) ?_
    refine lv_sipush (v := nI 502) hx hb dX5_record_16 (by decide) ?_
    refine lv_sipush (v := nI 502) hx hb dX5_record_19 (by decide) ?_
    refine lv_iload_n hx hb dX5_record_22 rfl (lvG hl rfl) ?_
    refine n_imulz (z := 502) hC dX5_record_23 rfl ?_
    refine n_iaddz (z := 1004) hC dX5_record_24 rfl ?_
    refine lv_sipush (v := nI 502) hx hb dX5_record_25 (by decide) ?_
    refine lv_iload_n hx hb dX5_record_28 rfl (lvG hl rfl) ?_
    refine n_imulz (z := 502) hC dX5_record_29 rfl ?_
    refine k_callMV0 (k_goV (rest := []) hC hK (c_X5_copy l g o q f 4 1004 502 (by omega) (by omega) (by omega)) L_X5_X5_copy (⟨⟨Nat.le_of_ble_eq_true rfl, Nat.le_of_ble_eq_true rfl⟩, ⟨rfl, rfl⟩, ⟨Nat.le_of_ble_eq_true rfl, Nat.le_of_ble_eq_true rfl⟩⟩) (hP.recv hK) (hP) rfl hl.1 rfl (Nat.le_of_ble_eq_true rfl) dX5_record_30) hS (fun _ h => h) (fun H_9 locs_10 hP_11 _ _ hS_12 => ?_)
    refine n_iinc (lv' := [(1, .int (nI 2)), (0, .ref o)]) hC dX5_record_33 hl rfl (by decide) rfl (fun ls hl => ?_)
    refine lv_goto (tgt := 10) hx hb dX5_record_36 (by decide) ?_
    refine lv_iload_n hx hb dX5_record_10 rfl (lvG hl rfl) ?_
    refine lv_iconst (v := nI 4) hx hb dX5_record_11 (by decide) ?_
    refine n_icmp_ge (tgt := 39) hC dX5_record_12 (by decide) (by decide) (by decide) (fun c => absurd c (by decide)) (fun _ => ?_)
    refine lv_aload_n hx hb dX5_record_15 rfl (lvG hl rfl) ?_
    refine lv_sipush (v := nI 502) hx hb dX5_record_16 (by decide) ?_
    refine lv_sipush (v := nI 502) hx hb dX5_record_19 (by decide) ?_
    refine lv_iload_n hx hb dX5_record_22 rfl (lvG hl rfl) ?_
    refine n_imulz (z := 1004) hC dX5_record_23 rfl ?_
    refine n_iaddz (z := 1506) hC dX5_record_24 rfl ?_
    refine lv_sipush (v := nI 502) hx hb dX5_record_25 (by decide) ?_
    refine lv_iload_n hx hb dX5_record_28 rfl (lvG hl rfl) ?_
    refine n_imulz (z := 1004) hC dX5_record_29 rfl ?_
    refine k_callMV0 (k_goV (rest := []) hC hK (c_X5_copy l g o q (s_cpy f 1004 502 502) 4 1506 1004 (by omega) (by omega) (by omega)) L_X5_X5_copy (⟨⟨Nat.le_of_ble_eq_true rfl, Nat.le_of_ble_eq_true rfl⟩, ⟨rfl, rfl⟩, ⟨Nat.le_of_ble_eq_true rfl, Nat.le_of_ble_eq_true rfl⟩⟩) (hP_11.recv hK) (hP_11) rfl hl.1 rfl (Nat.le_of_ble_eq_true rfl) dX5_record_30) hS_12 (fun _ h => h) (fun H_13 locs_14 hP_15 _ _ hS_16 => ?_)
    refine n_iinc (lv' := [(1, .int (nI 3)), (0, .ref o)]) hC dX5_record_33 hl rfl (by decide) rfl (fun ls hl => ?_)
    refine lv_goto (tgt := 10) hx hb dX5_record_36 (by decide) ?_
    refine lv_iload_n hx hb dX5_record_10 rfl (lvG hl rfl) ?_
    refine lv_iconst (v := nI 4) hx hb dX5_record_11 (by decide) ?_
    refine n_icmp_ge (tgt := 39) hC dX5_record_12 (by decide) (by decide) (by decide) (fun c => absurd c (by decide)) (fun _ => ?_)
    refine lv_aload_n hx hb dX5_record_15 rfl (lvG hl rfl) ?_
    refine lv_sipush (v := nI 502) hx hb dX5_record_16 (by decide) ?_
    refine lv_sipush (v := nI 502) hx hb dX5_record_19 (by decide) ?_
    refine lv_iload_n hx hb dX5_record_22 rfl (lvG hl rfl) ?_
    refine n_imulz (z := 1506) hC dX5_record_23 rfl ?_
    refine n_iaddz (z := 2008) hC dX5_record_24 rfl ?_
    refine lv_sipush (v := nI 502) hx hb dX5_record_25 (by decide) ?_
    refine lv_iload_n hx hb dX5_record_28 rfl (lvG hl rfl) ?_
    refine n_imulz (z := 1506) hC dX5_record_29 rfl ?_
    refine k_callMV0 (k_goV (rest := []) hC hK (c_X5_copy l g o q (s_cpy (s_cpy f 1004 502 502) 1506 1004 502) 4 2008 1506 (by omega) (by omega) (by omega)) L_X5_X5_copy (⟨⟨Nat.le_of_ble_eq_true rfl, Nat.le_of_ble_eq_true rfl⟩, ⟨rfl, rfl⟩, ⟨Nat.le_of_ble_eq_true rfl, Nat.le_of_ble_eq_true rfl⟩⟩) (hP_15.recv hK) (hP_15) rfl hl.1 rfl (Nat.le_of_ble_eq_true rfl) dX5_record_30) hS_16 (fun _ h => h) (fun H_17 locs_18 hP_19 _ _ hS_20 => ?_)
    refine n_iinc (lv' := [(1, .int (nI 4)), (0, .ref o)]) hC dX5_record_33 hl rfl (by decide) rfl (fun ls hl => ?_)
    refine lv_goto (tgt := 10) hx hb dX5_record_36 (by decide) ?_
    refine lv_iload_n hx hb dX5_record_10 rfl (lvG hl rfl) ?_
    refine lv_iconst (v := nI 4) hx hb dX5_record_11 (by decide) ?_
    refine n_icmp_ge (tgt := 39) hC dX5_record_12 (by decide) (by decide) (by decide) (fun _ => ?_) (fun c => absurd c (by decide))
    refine lv_aload_n hx hb dX5_record_39 rfl (lvG hl rfl) ?_
    refine lv_dup hx hb dX5_record_40 rfl ?_
    refine r_states hC hK hP_19 dX5_record_41 ?_
    refine lv_iconst (v := nI 1) hx hb dX5_record_44 (by decide) ?_
    refine n_isubz (z := 3) hC dX5_record_45 (by decide) rfl ?_
    refine r_putStates (n2 := 3) hC hK hP_19 hS_20 (by decide) dX5_record_46 (fun H_21 locs_22 hP_23 hS_24 => ?_)
    refine lv_aload_n hx hb dX5_record_49 rfl (lvG hl rfl) ?_
    refine lv_iconst (v := nI 0) hx hb dX5_record_50 (by decide) ?_
    refine lv_sipush (v := nI 502) hx hb dX5_record_51 (by decide) ?_
    refine lv_sipush (v := nI 502) hx hb dX5_record_54 (by decide) ?_
    refine lv_aload_n hx hb dX5_record_57 rfl (lvG hl rfl) ?_
    refine r_states hC hK hP_23 dX5_record_58 ?_
    refine n_imulz (z := 1506) hC dX5_record_61 rfl ?_
    refine n_iaddz (z := 2008) hC dX5_record_62 rfl ?_
    refine k_callMV0 (k_goV (rest := []) hC hK (c_X5_copy l g o q (s_cpy (s_cpy (s_cpy f 1004 502 502) 1506 1004 502) 2008 1506 502) 3 0 2008 (by omega) (by omega) (by omega)) L_X5_X5_copy (⟨⟨Nat.le_of_ble_eq_true rfl, Nat.le_of_ble_eq_true rfl⟩, ⟨rfl, rfl⟩, ⟨Nat.le_of_ble_eq_true rfl, Nat.le_of_ble_eq_true rfl⟩⟩) (hP_23.recv hK) (hP_23) rfl hl.1 rfl (Nat.le_of_ble_eq_true rfl) dX5_record_63) hS_24 (fun _ h => h) (fun H_25 locs_26 hP_27 _ _ hS_28 => ?_)
    refine lv_aload_n hx hb dX5_record_66 rfl (lvG hl rfl) ?_
    refine lv_dup hx hb dX5_record_67 rfl ?_
    refine r_states hC hK hP_27 dX5_record_68 ?_
    refine lv_iconst (v := nI 1) hx hb dX5_record_71 (by decide) ?_
    refine n_iaddz (z := 4) hC dX5_record_72 rfl ?_
    refine r_putStates (n2 := 4) hC hK hP_27 hS_28 (by omega) dX5_record_73 (fun H_29 locs_30 hP_31 hS_32 => ?_)
    exact k_vretM hC hr hlk hS_32 dX5_record_76 (by unfold s_rec s_recn; first | (rw [if_pos rfl, if_pos rfl]; exact hP_31) | (rw [if_neg c_5, if_neg c_5]; exact hP_31))
def s_undf (f : Nat → Int32) (n : Nat) : Nat → Int32 := if n = 0 then f else s_cpy f (502 + 502 * (n - 1)) 0 502
def s_undr (n : Nat) : Int32 := if n = 0 then cILL else nI (n - 1)
set_option maxHeartbeats 4000000 in
set_option maxRecDepth 100000 in
theorem c_X5_undo (l : Launch) (g : kG) (o : Nat) (q : Nat) (f : Nat → Int32) (n : Nat) : MI l yX5_undo cX5_undo 1 (some .int) (rr 1 23) [.ref o] ((RP g o q f n)) g 0 0 (RA o q) (fun r H1 => r = s_undr n ∧ RP g o q (s_undf f n) (n - 1) H1) := by
  refine kOf (by decide) (Nat.le_of_ble_eq_true rfl) (fun p e s m below meth c ls hC hr hlk hin hK hP hl => ?_)
  have hx := hC.1
  have hb := hC.2.1
  have hml := hC.2.2.1
  have hown := hC.2.2.2.1
  have hts := hC.2.2.2.2
  have hl : lv_has ls 1 [(0, .ref o)] := hl
  have hS : va_S (RA o q) s.heap s.heap [] := va_S.rf
  have hn4 := hP.2.1
  refine lv_aload_n hx hb dX5_undo_0 rfl (lvG hl rfl) ?_
  refine r_states hC hK hP dX5_undo_1 ?_
  refine n_if_ne (tgt := 10) hC dX5_undo_4 (by omega) (by decide) (fun c_4 => ?_) (fun c_4 => ?_)
  · refine lv_aload_n hx hb dX5_undo_10 rfl (lvG hl rfl) ?_
    refine lv_dup hx hb dX5_undo_11 rfl ?_
    refine r_states hC hK hP dX5_undo_12 ?_
    refine lv_iconst (v := nI 1) hx hb dX5_undo_15 (by decide) ?_
    refine n_isub hC dX5_undo_16 (by omega) ?_
    refine r_putStates (n2 := n - 1) hC hK hP hS (by omega) dX5_undo_17 (fun H_1 locs_2 hP_3 hS_4 => ?_)
    refine lv_aload_n hx hb dX5_undo_20 rfl (lvG hl rfl) ?_
    refine lv_sipush (v := nI 502) hx hb dX5_undo_21 (by decide) ?_
    refine lv_sipush (v := nI 502) hx hb dX5_undo_24 (by decide) ?_
    refine lv_aload_n hx hb dX5_undo_27 rfl (lvG hl rfl) ?_
    refine r_states hC hK hP_3 dX5_undo_28 ?_
    refine n_imul hC dX5_undo_31 ?_
    refine n_iadd hC dX5_undo_32 ?_
    refine lv_iconst (v := nI 0) hx hb dX5_undo_33 (by decide) ?_
    refine k_callMV0 (k_goV (rest := []) hC hK (c_X5_copy l g o q f (n - 1) (502 + (502 * (n - 1))) 0 (by omega) (by omega) (by omega)) L_X5_X5_copy (⟨⟨Nat.le_of_ble_eq_true rfl, Nat.le_of_ble_eq_true rfl⟩, ⟨rfl, rfl⟩, ⟨Nat.le_of_ble_eq_true rfl, Nat.le_of_ble_eq_true rfl⟩⟩) (hP_3.recv hK) (hP_3) rfl hl.1 rfl (Nat.le_of_ble_eq_true rfl) dX5_undo_34) hS_4 (fun _ h => h) (fun H_5 locs_6 hP_7 _ _ hS_8 => ?_)
    refine lv_aload_n hx hb dX5_undo_37 rfl (lvG hl rfl) ?_
    refine r_states hC hK hP_7 dX5_undo_38 ?_
    exact k_iretM hC hr hlk hS_8 dX5_undo_41 (⟨by first | rfl | grind [s_undr, s_undf] | grind [nI, s_undr, s_undf], by first | exact hP_7 | grind [s_undr, s_undf]⟩)
  · refine lv_ldc (v := (-2000000002 : Int32)) hx hb hown (hts _ w_658) dX5_undo_7 ?_
    exact k_iretM hC hr hlk hS dX5_undo_9 (⟨by first | rfl | grind [s_undr, s_undf] | grind [nI, s_undr, s_undf], by first | exact hP | grind [s_undr, s_undf]⟩)
def s_putr (f : Nat → Int32) (n a : Nat) (P : Prop) [Decidable P] : Int32 := if P then s_rec f n a else cINV
def s_putf (f : Nat → Int32) (n a : Nat) (P : Prop) [Decidable P] (x : Int32) : Nat → Int32 := if P then upd (s_rec f n) a x else f
def s_putn (n : Nat) (P : Prop) [Decidable P] : Nat := if P then s_recn n else n
theorem L_X5_X5_record : LnkV RX5 27 yX5_record cX5_record 2 none 0 := ⟨w_675, w_677, w_27, w_61, w_678, ⟨by decide +kernel, by decide +kernel⟩, by decide +kernel⟩
set_option maxHeartbeats 4000000 in
set_option maxRecDepth 100000 in
theorem c_X5_put (l : Launch) (g : kG) (o : Nat) (q : Nat) (f : Nat → Int32) (n : Nat) (a : Nat) (P : Prop) (dP : Decidable P) (x : Int32) (h : a < 502) : MI l yX5_put cX5_put 5 (some .int) (rr 2 44) [.ref o, .int (nI a), .int (if P then 1 else 0), .int (x)] ((RP g o q f n)) g 0 0 (RA o q) (fun r H1 => r = s_putr f n a P ∧ RP g o q (s_putf f n a P x) (s_putn n P) H1) := by
  refine kOf (by decide) (Nat.le_of_ble_eq_true rfl) (fun p e s m below meth c ls hC hr hlk hin hK hP hl => ?_)
  have hx := hC.1
  have hb := hC.2.1
  have hml := hC.2.2.1
  have hown := hC.2.2.2.1
  have hts := hC.2.2.2.2
  have hl : lv_has ls 5 [(0, .ref o), (1, .int (nI a)), (2, .int (if P then 1 else 0)), (3, .int (x))] := hl
  have hS : va_S (RA o q) s.heap s.heap [] := va_S.rf
  refine lv_iload_n hx hb dX5_put_0 rfl (lvG hl rfl) ?_
  refine b_ifne (tgt := 7) hC dX5_put_1 (by decide) (fun c_1 => ?_) (fun c_1 => ?_)
  · refine lv_aload_n hx hb dX5_put_7 rfl (lvG hl rfl) ?_
    refine k_callMV0 (k_goV (rest := []) hC hK (c_X5_record l g o q f n) L_X5_X5_record (⟨⟨Nat.le_of_ble_eq_true rfl, Nat.le_of_ble_eq_true rfl⟩, ⟨rfl, rfl⟩, ⟨Nat.le_of_ble_eq_true rfl, Nat.le_of_ble_eq_true rfl⟩⟩) (hP.recv hK) (hP) rfl hl.1 rfl (Nat.le_of_ble_eq_true rfl) dX5_put_8) hS (fun _ h => h) (fun H_1 locs_2 hP_3 _ _ hS_4 => ?_)
    refine lv_aload_n hx hb dX5_put_11 rfl (lvG hl rfl) ?_
    refine r_row hC hK hP_3 dX5_put_12 ?_
    refine lv_iload_n hx hb dX5_put_15 rfl (lvG hl rfl) ?_
    refine r_ald (k := a) hC hK hP_3 (by omega) dX5_put_16 ?_
    refine lv_istore (lv' := [(4, .int ((s_rec f n) a)), (0, .ref o), (1, .int (nI a)), (2, .int (if P then 1 else 0)), (3, .int (x))]) hx hb dX5_put_17 hl (by decide) rfl (fun ls hl => ?_)
    refine lv_aload_n hx hb dX5_put_19 rfl (lvG hl rfl) ?_
    refine r_row hC hK hP_3 dX5_put_20 ?_
    refine lv_iload_n hx hb dX5_put_23 rfl (lvG hl rfl) ?_
    refine lv_iload_n hx hb dX5_put_24 rfl (lvG hl rfl) ?_
    refine r_ast (k := a) hC hK hP_3 hS_4 (by omega) dX5_put_25 (fun H_5 locs_6 hP_7 hS_8 => ?_)
    refine lv_iload hx hb dX5_put_26 (lvG hl rfl) ?_
    exact k_iretM hC hr hlk hS_8 dX5_put_28 (by unfold s_putr s_putf s_putn; first | (rw [if_pos c_1, if_pos c_1, if_pos c_1]; exact ⟨rfl, hP_7⟩) | (rw [if_neg c_1, if_neg c_1, if_neg c_1]; exact ⟨rfl, hP_7⟩))
  · refine lv_ldc (v := (-2000000001 : Int32)) hx hb hown (hts _ w_674) dX5_put_4 ?_
    exact k_iretM hC hr hlk hS dX5_put_6 (by unfold s_putr s_putf s_putn; first | (rw [if_pos c_1, if_pos c_1, if_pos c_1]; exact ⟨rfl, hP⟩) | (rw [if_neg c_1, if_neg c_1, if_neg c_1]; exact ⟨rfl, hP⟩))
theorem L_X5_X5_put : LnkV RX5 30 yX5_put cX5_put 5 (some .int) 3 := ⟨w_670, w_672, w_26, w_61, w_673, ⟨by decide +kernel, by decide +kernel⟩, by decide +kernel⟩
set_option maxHeartbeats 4000000 in
set_option maxRecDepth 100000 in
theorem c_X5_setClearance (l : Launch) (g : kG) (o : Nat) (q : Nat) (f : Nat → Int32) (n : Nat) (v : Int32) : MI l yX5_setClearance cX5_setClearance 2 (some .int) (rr 3 68) [.ref o, .int (v)] ((RP g o q f n)) g 0 0 (RA o q) (fun r H1 => r = s_putr f n 0 (nI 1 ≤ v ∧ v ≤ nI 20) ∧ RP g o q (s_putf f n 0 (nI 1 ≤ v ∧ v ≤ nI 20) v) (s_putn n (nI 1 ≤ v ∧ v ≤ nI 20)) H1) := by
  refine kOf (by decide) (Nat.le_of_ble_eq_true rfl) (fun p e s m below meth c ls hC hr hlk hin hK hP hl => ?_)
  have hx := hC.1
  have hb := hC.2.1
  have hml := hC.2.2.1
  have hown := hC.2.2.2.1
  have hts := hC.2.2.2.2
  have hl : lv_has ls 2 [(0, .ref o), (1, .int (v))] := hl
  have hS : va_S (RA o q) s.heap s.heap [] := va_S.rf
  refine lv_aload_n hx hb dX5_setClearance_0 rfl (lvG hl rfl) ?_
  refine lv_iconst (v := nI 0) hx hb dX5_setClearance_1 (by decide) ?_
  refine lv_iload_n hx hb dX5_setClearance_2 rfl (lvG hl rfl) ?_
  refine lv_iconst (v := nI 1) hx hb dX5_setClearance_3 (by decide) ?_
  refine lv_bipush (v := nI 20) hx hb dX5_setClearance_4 (by decide) ?_
  refine k_callPI (k_goS (rest := [.int (nI 0), .ref o]) hC hK (c_X5_in l g v (nI 1) (nI 20)) L_X5_X5_in (⟨⟨Nat.le_of_ble_eq_true rfl, Nat.le_of_ble_eq_true rfl⟩, ⟨rfl, rfl⟩, ⟨Nat.le_of_ble_eq_true rfl, Nat.le_of_ble_eq_true rfl⟩⟩) (trivial) rfl hl.1 rfl (Nat.le_of_ble_eq_true rfl) dX5_setClearance_6) ?_
  refine lv_iload_n hx hb dX5_setClearance_9 rfl (lvG hl rfl) ?_
  refine k_callMI0 (k_goV (rest := []) hC hK (c_X5_put l g o q f n 0 ((nI 1) ≤ v ∧ v ≤ (nI 20)) (inferInstance) v (by omega)) L_X5_X5_put (⟨⟨Nat.le_of_ble_eq_true rfl, Nat.le_of_ble_eq_true rfl⟩, ⟨rfl, rfl⟩, ⟨Nat.le_of_ble_eq_true rfl, Nat.le_of_ble_eq_true rfl⟩⟩) (hP.recv hK) (hP) rfl hl.1 rfl (Nat.le_of_ble_eq_true rfl) dX5_setClearance_10) hS (fun _ h => h) (fun r_ H_1 locs_2 hq_ _ _ hS_4 => ?_)
  obtain ⟨rfl, hP_3⟩ := hq_
  exact k_iretM hC hr hlk hS_4 dX5_setClearance_13 (⟨rfl, hP_3⟩)
set_option maxHeartbeats 4000000 in
set_option maxRecDepth 100000 in
theorem c_X5_setStroke (l : Launch) (g : kG) (o : Nat) (q : Nat) (f : Nat → Int32) (n : Nat) (v : Int32) : MI l yX5_setStroke cX5_setStroke 2 (some .int) (rr 3 68) [.ref o, .int (v)] ((RP g o q f n)) g 0 0 (RA o q) (fun r H1 => r = s_putr f n 3 (nI 1 ≤ v ∧ v ≤ nI 300) ∧ RP g o q (s_putf f n 3 (nI 1 ≤ v ∧ v ≤ nI 300) v) (s_putn n (nI 1 ≤ v ∧ v ≤ nI 300)) H1) := by
  refine kOf (by decide) (Nat.le_of_ble_eq_true rfl) (fun p e s m below meth c ls hC hr hlk hin hK hP hl => ?_)
  have hx := hC.1
  have hb := hC.2.1
  have hml := hC.2.2.1
  have hown := hC.2.2.2.1
  have hts := hC.2.2.2.2
  have hl : lv_has ls 2 [(0, .ref o), (1, .int (v))] := hl
  have hS : va_S (RA o q) s.heap s.heap [] := va_S.rf
  refine lv_aload_n hx hb dX5_setStroke_0 rfl (lvG hl rfl) ?_
  refine lv_iconst (v := nI 3) hx hb dX5_setStroke_1 (by decide) ?_
  refine lv_iload_n hx hb dX5_setStroke_2 rfl (lvG hl rfl) ?_
  refine lv_iconst (v := nI 1) hx hb dX5_setStroke_3 (by decide) ?_
  refine lv_sipush (v := nI 300) hx hb dX5_setStroke_4 (by decide) ?_
  refine k_callPI (k_goS (rest := [.int (nI 3), .ref o]) hC hK (c_X5_in l g v (nI 1) (nI 300)) L_X5_X5_in (⟨⟨Nat.le_of_ble_eq_true rfl, Nat.le_of_ble_eq_true rfl⟩, ⟨rfl, rfl⟩, ⟨Nat.le_of_ble_eq_true rfl, Nat.le_of_ble_eq_true rfl⟩⟩) (trivial) rfl hl.1 rfl (Nat.le_of_ble_eq_true rfl) dX5_setStroke_7) ?_
  refine lv_iload_n hx hb dX5_setStroke_10 rfl (lvG hl rfl) ?_
  refine k_callMI0 (k_goV (rest := []) hC hK (c_X5_put l g o q f n 3 ((nI 1) ≤ v ∧ v ≤ (nI 300)) (inferInstance) v (by omega)) L_X5_X5_put (⟨⟨Nat.le_of_ble_eq_true rfl, Nat.le_of_ble_eq_true rfl⟩, ⟨rfl, rfl⟩, ⟨Nat.le_of_ble_eq_true rfl, Nat.le_of_ble_eq_true rfl⟩⟩) (hP.recv hK) (hP) rfl hl.1 rfl (Nat.le_of_ble_eq_true rfl) dX5_setStroke_11) hS (fun _ h => h) (fun r_ H_1 locs_2 hq_ _ _ hS_4 => ?_)
  obtain ⟨rfl, hP_3⟩ := hq_
  exact k_iretM hC hr hlk hS_4 dX5_setStroke_14 (⟨rfl, hP_3⟩)
set_option maxHeartbeats 4000000 in
set_option maxRecDepth 100000 in
theorem c_X5_setBoilerPressure (l : Launch) (g : kG) (o : Nat) (q : Nat) (f : Nat → Int32) (n : Nat) (v : Int32) : MI l yX5_setBoilerPressure cX5_setBoilerPressure 2 (some .int) (rr 3 68) [.ref o, .int (v)] ((RP g o q f n)) g 0 0 (RA o q) (fun r H1 => r = s_putr f n 4 (nI 100 ≤ v ∧ v ≤ nI 2000) ∧ RP g o q (s_putf f n 4 (nI 100 ≤ v ∧ v ≤ nI 2000) v) (s_putn n (nI 100 ≤ v ∧ v ≤ nI 2000)) H1) := by
  refine kOf (by decide) (Nat.le_of_ble_eq_true rfl) (fun p e s m below meth c ls hC hr hlk hin hK hP hl => ?_)
  have hx := hC.1
  have hb := hC.2.1
  have hml := hC.2.2.1
  have hown := hC.2.2.2.1
  have hts := hC.2.2.2.2
  have hl : lv_has ls 2 [(0, .ref o), (1, .int (v))] := hl
  have hS : va_S (RA o q) s.heap s.heap [] := va_S.rf
  refine lv_aload_n hx hb dX5_setBoilerPressure_0 rfl (lvG hl rfl) ?_
  refine lv_iconst (v := nI 4) hx hb dX5_setBoilerPressure_1 (by decide) ?_
  refine lv_iload_n hx hb dX5_setBoilerPressure_2 rfl (lvG hl rfl) ?_
  refine lv_bipush (v := nI 100) hx hb dX5_setBoilerPressure_3 (by decide) ?_
  refine lv_sipush (v := nI 2000) hx hb dX5_setBoilerPressure_5 (by decide) ?_
  refine k_callPI (k_goS (rest := [.int (nI 4), .ref o]) hC hK (c_X5_in l g v (nI 100) (nI 2000)) L_X5_X5_in (⟨⟨Nat.le_of_ble_eq_true rfl, Nat.le_of_ble_eq_true rfl⟩, ⟨rfl, rfl⟩, ⟨Nat.le_of_ble_eq_true rfl, Nat.le_of_ble_eq_true rfl⟩⟩) (trivial) rfl hl.1 rfl (Nat.le_of_ble_eq_true rfl) dX5_setBoilerPressure_8) ?_
  refine lv_iload_n hx hb dX5_setBoilerPressure_11 rfl (lvG hl rfl) ?_
  refine k_callMI0 (k_goV (rest := []) hC hK (c_X5_put l g o q f n 4 ((nI 100) ≤ v ∧ v ≤ (nI 2000)) (inferInstance) v (by omega)) L_X5_X5_put (⟨⟨Nat.le_of_ble_eq_true rfl, Nat.le_of_ble_eq_true rfl⟩, ⟨rfl, rfl⟩, ⟨Nat.le_of_ble_eq_true rfl, Nat.le_of_ble_eq_true rfl⟩⟩) (hP.recv hK) (hP) rfl hl.1 rfl (Nat.le_of_ble_eq_true rfl) dX5_setBoilerPressure_12) hS (fun _ h => h) (fun r_ H_1 locs_2 hq_ _ _ hS_4 => ?_)
  obtain ⟨rfl, hP_3⟩ := hq_
  exact k_iretM hC hr hlk hS_4 dX5_setBoilerPressure_15 (⟨rfl, hP_3⟩)
set_option maxHeartbeats 4000000 in
set_option maxRecDepth 100000 in
theorem c_X5_setBackPressure (l : Launch) (g : kG) (o : Nat) (q : Nat) (f : Nat → Int32) (n : Nat) (v : Int32) : MI l yX5_setBackPressure cX5_setBackPressure 2 (some .int) (rr 3 68) [.ref o, .int (v)] ((RP g o q f n)) g 0 0 (RA o q) (fun r H1 => r = s_putr f n 5 (nI 10 ≤ v ∧ v ≤ nI 99) ∧ RP g o q (s_putf f n 5 (nI 10 ≤ v ∧ v ≤ nI 99) v) (s_putn n (nI 10 ≤ v ∧ v ≤ nI 99)) H1) := by
  refine kOf (by decide) (Nat.le_of_ble_eq_true rfl) (fun p e s m below meth c ls hC hr hlk hin hK hP hl => ?_)
  have hx := hC.1
  have hb := hC.2.1
  have hml := hC.2.2.1
  have hown := hC.2.2.2.1
  have hts := hC.2.2.2.2
  have hl : lv_has ls 2 [(0, .ref o), (1, .int (v))] := hl
  have hS : va_S (RA o q) s.heap s.heap [] := va_S.rf
  refine lv_aload_n hx hb dX5_setBackPressure_0 rfl (lvG hl rfl) ?_
  refine lv_iconst (v := nI 5) hx hb dX5_setBackPressure_1 (by decide) ?_
  refine lv_iload_n hx hb dX5_setBackPressure_2 rfl (lvG hl rfl) ?_
  refine lv_bipush (v := nI 10) hx hb dX5_setBackPressure_3 (by decide) ?_
  refine lv_bipush (v := nI 99) hx hb dX5_setBackPressure_5 (by decide) ?_
  refine k_callPI (k_goS (rest := [.int (nI 5), .ref o]) hC hK (c_X5_in l g v (nI 10) (nI 99)) L_X5_X5_in (⟨⟨Nat.le_of_ble_eq_true rfl, Nat.le_of_ble_eq_true rfl⟩, ⟨rfl, rfl⟩, ⟨Nat.le_of_ble_eq_true rfl, Nat.le_of_ble_eq_true rfl⟩⟩) (trivial) rfl hl.1 rfl (Nat.le_of_ble_eq_true rfl) dX5_setBackPressure_7) ?_
  refine lv_iload_n hx hb dX5_setBackPressure_10 rfl (lvG hl rfl) ?_
  refine k_callMI0 (k_goV (rest := []) hC hK (c_X5_put l g o q f n 5 ((nI 10) ≤ v ∧ v ≤ (nI 99)) (inferInstance) v (by omega)) L_X5_X5_put (⟨⟨Nat.le_of_ble_eq_true rfl, Nat.le_of_ble_eq_true rfl⟩, ⟨rfl, rfl⟩, ⟨Nat.le_of_ble_eq_true rfl, Nat.le_of_ble_eq_true rfl⟩⟩) (hP.recv hK) (hP) rfl hl.1 rfl (Nat.le_of_ble_eq_true rfl) dX5_setBackPressure_11) hS (fun _ h => h) (fun r_ H_1 locs_2 hq_ _ _ hS_4 => ?_)
  obtain ⟨rfl, hP_3⟩ := hq_
  exact k_iretM hC hr hlk hS_4 dX5_setBackPressure_14 (⟨rfl, hP_3⟩)
abbrev s_okPA (en v : Int32) : Prop := (nI 0 ≤ en ∧ en ≤ nI 1) ∧ (nI 1 ≤ v ∧ v ≤ nI 5000)
abbrev s_plPA (en : Int32) : Nat := if en = nI 1 then 2 else 1
theorem s_put_t {f : Nat → Int32} {n a b : Nat} {P Q : Prop} [Decidable P] [Decidable Q] {x : Int32} (ha : a = b) (h : P ↔ Q) : s_putr f n a P = s_putr f n b Q ∧ s_putf f n a P x = s_putf f n b Q x ∧ s_putn n P = s_putn n Q := by
  subst ha
  unfold s_putr s_putf s_putn
  by_cases hp : P
  · rw [if_pos hp, if_pos hp, if_pos hp, if_pos (h.mp hp), if_pos (h.mp hp), if_pos (h.mp hp)]; exact ⟨rfl, rfl, rfl⟩
  · rw [if_neg hp, if_neg hp, if_neg hp, if_neg (fun q => hp (h.mpr q)), if_neg (fun q => hp (h.mpr q)), if_neg (fun q => hp (h.mpr q))]; exact ⟨rfl, rfl, rfl⟩
theorem L_X5_X5_isEnd : LnkS RX5 34 yX5_isEnd cX5_isEnd 1 (some .boolean) 1 := ⟨w_683, w_684, w_61, w_685, ⟨by decide +kernel, by decide +kernel⟩, by decide +kernel⟩
set_option maxHeartbeats 4000000 in
set_option maxRecDepth 100000 in
theorem c_X5_setPistonArea (l : Launch) (g : kG) (o : Nat) (q : Nat) (f : Nat → Int32) (n : Nat) (en : Int32) (v : Int32) : MI l yX5_setPistonArea cX5_setPistonArea 3 (some .int) (rr 3 68) [.ref o, .int (en), .int (v)] ((RP g o q f n)) g 0 0 (RA o q) (fun r H1 => r = s_putr f n (s_plPA en) (s_okPA en v) ∧ RP g o q (s_putf f n (s_plPA en) (s_okPA en v) v) (s_putn n (s_okPA en v)) H1) := by
  refine kOf (by decide) (Nat.le_of_ble_eq_true rfl) (fun p e s m below meth c ls hC hr hlk hin hK hP hl => ?_)
  have hx := hC.1
  have hb := hC.2.1
  have hml := hC.2.2.1
  have hown := hC.2.2.2.1
  have hts := hC.2.2.2.2
  have hl : lv_has ls 3 [(0, .ref o), (1, .int (en)), (2, .int (v))] := hl
  have hS : va_S (RA o q) s.heap s.heap [] := va_S.rf
  refine lv_aload_n hx hb dX5_setPistonArea_0 rfl (lvG hl rfl) ?_
  refine lv_iload_n hx hb dX5_setPistonArea_1 rfl (lvG hl rfl) ?_
  refine lv_iconst (v := nI 1) hx hb dX5_setPistonArea_2 (by decide) ?_
  refine lv_icmp_ne (tgt := 10) hx hb dX5_setPistonArea_3 (by decide) (fun c_3 => ?_) (fun c_3 => ?_)
  · refine lv_iconst (v := nI 1) hx hb dX5_setPistonArea_10 (by decide) ?_
    refine lv_iload_n hx hb dX5_setPistonArea_11 rfl (lvG hl rfl) ?_
    refine k_callPI (k_goS (rest := [.int (nI 1), .ref o]) hC hK (c_X5_isEnd l g en) L_X5_X5_isEnd (⟨⟨Nat.le_of_ble_eq_true rfl, Nat.le_of_ble_eq_true rfl⟩, ⟨rfl, rfl⟩, ⟨Nat.le_of_ble_eq_true rfl, Nat.le_of_ble_eq_true rfl⟩⟩) (trivial) rfl hl.1 rfl (Nat.le_of_ble_eq_true rfl) dX5_setPistonArea_12) ?_
    refine b_ifeq (tgt := 33) hC dX5_setPistonArea_15 (by decide) (fun c_15 => ?_) (fun c_15 => ?_)
    · refine lv_iconst (v := nI 0) hx hb dX5_setPistonArea_33 (by decide) ?_
      refine lv_iload_n hx hb dX5_setPistonArea_34 rfl (lvG hl rfl) ?_
      refine k_callMI0 (k_goV (rest := []) hC hK (c_X5_put l g o q f n 1 False (inferInstance) v (by omega)) L_X5_X5_put (⟨⟨Nat.le_of_ble_eq_true rfl, Nat.le_of_ble_eq_true rfl⟩, ⟨rfl, rfl⟩, ⟨Nat.le_of_ble_eq_true rfl, Nat.le_of_ble_eq_true rfl⟩⟩) (hP.recv hK) (hP) rfl hl.1 rfl (Nat.le_of_ble_eq_true rfl) dX5_setPistonArea_35) hS (fun _ h => h) (fun r_ H_1 locs_2 hq_ _ _ hS_4 => ?_)
      obtain ⟨rfl, hP_3⟩ := hq_
      exact k_iretM hC hr hlk hS_4 dX5_setPistonArea_38 (by first | (have t := s_put_t (f := f) (n := n) (a := 2) (b := s_plPA en) (P := True) (Q := s_okPA en v) (x := v) (by grind) (by grind); rw [← t.1, ← t.2.1, ← t.2.2]; exact ⟨rfl, hP_3⟩) | (have t := s_put_t (f := f) (n := n) (a := 1) (b := s_plPA en) (P := True) (Q := s_okPA en v) (x := v) (by grind) (by grind); rw [← t.1, ← t.2.1, ← t.2.2]; exact ⟨rfl, hP_3⟩) | (have t := s_put_t (f := f) (n := n) (a := 2) (b := s_plPA en) (P := False) (Q := s_okPA en v) (x := v) (by grind) (by grind); rw [← t.1, ← t.2.1, ← t.2.2]; exact ⟨rfl, hP_3⟩) | (have t := s_put_t (f := f) (n := n) (a := 1) (b := s_plPA en) (P := False) (Q := s_okPA en v) (x := v) (by grind) (by grind); rw [← t.1, ← t.2.1, ← t.2.2]; exact ⟨rfl, hP_3⟩))
    · refine lv_iload_n hx hb dX5_setPistonArea_18 rfl (lvG hl rfl) ?_
      refine lv_iconst (v := nI 1) hx hb dX5_setPistonArea_19 (by decide) ?_
      refine lv_sipush (v := nI 5000) hx hb dX5_setPistonArea_20 (by decide) ?_
      refine k_callPI (k_goS (rest := [.int (nI 1), .ref o]) hC hK (c_X5_in l g v (nI 1) (nI 5000)) L_X5_X5_in (⟨⟨Nat.le_of_ble_eq_true rfl, Nat.le_of_ble_eq_true rfl⟩, ⟨rfl, rfl⟩, ⟨Nat.le_of_ble_eq_true rfl, Nat.le_of_ble_eq_true rfl⟩⟩) (trivial) rfl hl.1 rfl (Nat.le_of_ble_eq_true rfl) dX5_setPistonArea_23) ?_
      refine b_ifeq (tgt := 33) hC dX5_setPistonArea_26 (by decide) (fun c_26 => ?_) (fun c_26 => ?_)
      · refine lv_iconst (v := nI 0) hx hb dX5_setPistonArea_33 (by decide) ?_
        refine lv_iload_n hx hb dX5_setPistonArea_34 rfl (lvG hl rfl) ?_
        refine k_callMI0 (k_goV (rest := []) hC hK (c_X5_put l g o q f n 1 False (inferInstance) v (by omega)) L_X5_X5_put (⟨⟨Nat.le_of_ble_eq_true rfl, Nat.le_of_ble_eq_true rfl⟩, ⟨rfl, rfl⟩, ⟨Nat.le_of_ble_eq_true rfl, Nat.le_of_ble_eq_true rfl⟩⟩) (hP.recv hK) (hP) rfl hl.1 rfl (Nat.le_of_ble_eq_true rfl) dX5_setPistonArea_35) hS (fun _ h => h) (fun r_ H_5 locs_6 hq_ _ _ hS_8 => ?_)
        obtain ⟨rfl, hP_7⟩ := hq_
        exact k_iretM hC hr hlk hS_8 dX5_setPistonArea_38 (by first | (have t := s_put_t (f := f) (n := n) (a := 2) (b := s_plPA en) (P := True) (Q := s_okPA en v) (x := v) (by grind) (by grind); rw [← t.1, ← t.2.1, ← t.2.2]; exact ⟨rfl, hP_7⟩) | (have t := s_put_t (f := f) (n := n) (a := 1) (b := s_plPA en) (P := True) (Q := s_okPA en v) (x := v) (by grind) (by grind); rw [← t.1, ← t.2.1, ← t.2.2]; exact ⟨rfl, hP_7⟩) | (have t := s_put_t (f := f) (n := n) (a := 2) (b := s_plPA en) (P := False) (Q := s_okPA en v) (x := v) (by grind) (by grind); rw [← t.1, ← t.2.1, ← t.2.2]; exact ⟨rfl, hP_7⟩) | (have t := s_put_t (f := f) (n := n) (a := 1) (b := s_plPA en) (P := False) (Q := s_okPA en v) (x := v) (by grind) (by grind); rw [← t.1, ← t.2.1, ← t.2.2]; exact ⟨rfl, hP_7⟩))
      · refine lv_iconst (v := nI 1) hx hb dX5_setPistonArea_29 (by decide) ?_
        refine lv_goto (tgt := 34) hx hb dX5_setPistonArea_30 (by decide) ?_
        refine lv_iload_n hx hb dX5_setPistonArea_34 rfl (lvG hl rfl) ?_
        refine k_callMI0 (k_goV (rest := []) hC hK (c_X5_put l g o q f n 1 True (inferInstance) v (by omega)) L_X5_X5_put (⟨⟨Nat.le_of_ble_eq_true rfl, Nat.le_of_ble_eq_true rfl⟩, ⟨rfl, rfl⟩, ⟨Nat.le_of_ble_eq_true rfl, Nat.le_of_ble_eq_true rfl⟩⟩) (hP.recv hK) (hP) rfl hl.1 rfl (Nat.le_of_ble_eq_true rfl) dX5_setPistonArea_35) hS (fun _ h => h) (fun r_ H_9 locs_10 hq_ _ _ hS_12 => ?_)
        obtain ⟨rfl, hP_11⟩ := hq_
        exact k_iretM hC hr hlk hS_12 dX5_setPistonArea_38 (by first | (have t := s_put_t (f := f) (n := n) (a := 2) (b := s_plPA en) (P := True) (Q := s_okPA en v) (x := v) (by grind) (by grind); rw [← t.1, ← t.2.1, ← t.2.2]; exact ⟨rfl, hP_11⟩) | (have t := s_put_t (f := f) (n := n) (a := 1) (b := s_plPA en) (P := True) (Q := s_okPA en v) (x := v) (by grind) (by grind); rw [← t.1, ← t.2.1, ← t.2.2]; exact ⟨rfl, hP_11⟩) | (have t := s_put_t (f := f) (n := n) (a := 2) (b := s_plPA en) (P := False) (Q := s_okPA en v) (x := v) (by grind) (by grind); rw [← t.1, ← t.2.1, ← t.2.2]; exact ⟨rfl, hP_11⟩) | (have t := s_put_t (f := f) (n := n) (a := 1) (b := s_plPA en) (P := False) (Q := s_okPA en v) (x := v) (by grind) (by grind); rw [← t.1, ← t.2.1, ← t.2.2]; exact ⟨rfl, hP_11⟩))
  · refine lv_iconst (v := nI 2) hx hb dX5_setPistonArea_6 (by decide) ?_
    refine lv_goto (tgt := 11) hx hb dX5_setPistonArea_7 (by decide) ?_
    refine lv_iload_n hx hb dX5_setPistonArea_11 rfl (lvG hl rfl) ?_
    refine k_callPI (k_goS (rest := [.int (nI 2), .ref o]) hC hK (c_X5_isEnd l g en) L_X5_X5_isEnd (⟨⟨Nat.le_of_ble_eq_true rfl, Nat.le_of_ble_eq_true rfl⟩, ⟨rfl, rfl⟩, ⟨Nat.le_of_ble_eq_true rfl, Nat.le_of_ble_eq_true rfl⟩⟩) (trivial) rfl hl.1 rfl (Nat.le_of_ble_eq_true rfl) dX5_setPistonArea_12) ?_
    refine b_ifeq (tgt := 33) hC dX5_setPistonArea_15 (by decide) (fun c_15 => ?_) (fun c_15 => ?_)
    · refine lv_iconst (v := nI 0) hx hb dX5_setPistonArea_33 (by decide) ?_
      refine lv_iload_n hx hb dX5_setPistonArea_34 rfl (lvG hl rfl) ?_
      refine k_callMI0 (k_goV (rest := []) hC hK (c_X5_put l g o q f n 2 False (inferInstance) v (by omega)) L_X5_X5_put (⟨⟨Nat.le_of_ble_eq_true rfl, Nat.le_of_ble_eq_true rfl⟩, ⟨rfl, rfl⟩, ⟨Nat.le_of_ble_eq_true rfl, Nat.le_of_ble_eq_true rfl⟩⟩) (hP.recv hK) (hP) rfl hl.1 rfl (Nat.le_of_ble_eq_true rfl) dX5_setPistonArea_35) hS (fun _ h => h) (fun r_ H_13 locs_14 hq_ _ _ hS_16 => ?_)
      obtain ⟨rfl, hP_15⟩ := hq_
      exact k_iretM hC hr hlk hS_16 dX5_setPistonArea_38 (by first | (have t := s_put_t (f := f) (n := n) (a := 2) (b := s_plPA en) (P := True) (Q := s_okPA en v) (x := v) (by grind) (by grind); rw [← t.1, ← t.2.1, ← t.2.2]; exact ⟨rfl, hP_15⟩) | (have t := s_put_t (f := f) (n := n) (a := 1) (b := s_plPA en) (P := True) (Q := s_okPA en v) (x := v) (by grind) (by grind); rw [← t.1, ← t.2.1, ← t.2.2]; exact ⟨rfl, hP_15⟩) | (have t := s_put_t (f := f) (n := n) (a := 2) (b := s_plPA en) (P := False) (Q := s_okPA en v) (x := v) (by grind) (by grind); rw [← t.1, ← t.2.1, ← t.2.2]; exact ⟨rfl, hP_15⟩) | (have t := s_put_t (f := f) (n := n) (a := 1) (b := s_plPA en) (P := False) (Q := s_okPA en v) (x := v) (by grind) (by grind); rw [← t.1, ← t.2.1, ← t.2.2]; exact ⟨rfl, hP_15⟩))
    · refine lv_iload_n hx hb dX5_setPistonArea_18 rfl (lvG hl rfl) ?_
      refine lv_iconst (v := nI 1) hx hb dX5_setPistonArea_19 (by decide) ?_
      refine lv_sipush (v := nI 5000) hx hb dX5_setPistonArea_20 (by decide) ?_
      refine k_callPI (k_goS (rest := [.int (nI 2), .ref o]) hC hK (c_X5_in l g v (nI 1) (nI 5000)) L_X5_X5_in (⟨⟨Nat.le_of_ble_eq_true rfl, Nat.le_of_ble_eq_true rfl⟩, ⟨rfl, rfl⟩, ⟨Nat.le_of_ble_eq_true rfl, Nat.le_of_ble_eq_true rfl⟩⟩) (trivial) rfl hl.1 rfl (Nat.le_of_ble_eq_true rfl) dX5_setPistonArea_23) ?_
      refine b_ifeq (tgt := 33) hC dX5_setPistonArea_26 (by decide) (fun c_26 => ?_) (fun c_26 => ?_)
      · refine lv_iconst (v := nI 0) hx hb dX5_setPistonArea_33 (by decide) ?_
        refine lv_iload_n hx hb dX5_setPistonArea_34 rfl (lvG hl rfl) ?_
        refine k_callMI0 (k_goV (rest := []) hC hK (c_X5_put l g o q f n 2 False (inferInstance) v (by omega)) L_X5_X5_put (⟨⟨Nat.le_of_ble_eq_true rfl, Nat.le_of_ble_eq_true rfl⟩, ⟨rfl, rfl⟩, ⟨Nat.le_of_ble_eq_true rfl, Nat.le_of_ble_eq_true rfl⟩⟩) (hP.recv hK) (hP) rfl hl.1 rfl (Nat.le_of_ble_eq_true rfl) dX5_setPistonArea_35) hS (fun _ h => h) (fun r_ H_17 locs_18 hq_ _ _ hS_20 => ?_)
        obtain ⟨rfl, hP_19⟩ := hq_
        exact k_iretM hC hr hlk hS_20 dX5_setPistonArea_38 (by first | (have t := s_put_t (f := f) (n := n) (a := 2) (b := s_plPA en) (P := True) (Q := s_okPA en v) (x := v) (by grind) (by grind); rw [← t.1, ← t.2.1, ← t.2.2]; exact ⟨rfl, hP_19⟩) | (have t := s_put_t (f := f) (n := n) (a := 1) (b := s_plPA en) (P := True) (Q := s_okPA en v) (x := v) (by grind) (by grind); rw [← t.1, ← t.2.1, ← t.2.2]; exact ⟨rfl, hP_19⟩) | (have t := s_put_t (f := f) (n := n) (a := 2) (b := s_plPA en) (P := False) (Q := s_okPA en v) (x := v) (by grind) (by grind); rw [← t.1, ← t.2.1, ← t.2.2]; exact ⟨rfl, hP_19⟩) | (have t := s_put_t (f := f) (n := n) (a := 1) (b := s_plPA en) (P := False) (Q := s_okPA en v) (x := v) (by grind) (by grind); rw [← t.1, ← t.2.1, ← t.2.2]; exact ⟨rfl, hP_19⟩))
      · refine lv_iconst (v := nI 1) hx hb dX5_setPistonArea_29 (by decide) ?_
        refine lv_goto (tgt := 34) hx hb dX5_setPistonArea_30 (by decide) ?_
        refine lv_iload_n hx hb dX5_setPistonArea_34 rfl (lvG hl rfl) ?_
        refine k_callMI0 (k_goV (rest := []) hC hK (c_X5_put l g o q f n 2 True (inferInstance) v (by omega)) L_X5_X5_put (⟨⟨Nat.le_of_ble_eq_true rfl, Nat.le_of_ble_eq_true rfl⟩, ⟨rfl, rfl⟩, ⟨Nat.le_of_ble_eq_true rfl, Nat.le_of_ble_eq_true rfl⟩⟩) (hP.recv hK) (hP) rfl hl.1 rfl (Nat.le_of_ble_eq_true rfl) dX5_setPistonArea_35) hS (fun _ h => h) (fun r_ H_21 locs_22 hq_ _ _ hS_24 => ?_)
        obtain ⟨rfl, hP_23⟩ := hq_
        exact k_iretM hC hr hlk hS_24 dX5_setPistonArea_38 (by first | (have t := s_put_t (f := f) (n := n) (a := 2) (b := s_plPA en) (P := True) (Q := s_okPA en v) (x := v) (by grind) (by grind); rw [← t.1, ← t.2.1, ← t.2.2]; exact ⟨rfl, hP_23⟩) | (have t := s_put_t (f := f) (n := n) (a := 1) (b := s_plPA en) (P := True) (Q := s_okPA en v) (x := v) (by grind) (by grind); rw [← t.1, ← t.2.1, ← t.2.2]; exact ⟨rfl, hP_23⟩) | (have t := s_put_t (f := f) (n := n) (a := 2) (b := s_plPA en) (P := False) (Q := s_okPA en v) (x := v) (by grind) (by grind); rw [← t.1, ← t.2.1, ← t.2.2]; exact ⟨rfl, hP_23⟩) | (have t := s_put_t (f := f) (n := n) (a := 1) (b := s_plPA en) (P := False) (Q := s_okPA en v) (x := v) (by grind) (by grind); rw [← t.1, ← t.2.1, ← t.2.2]; exact ⟨rfl, hP_23⟩))
end
section
def s_seR (f : Nat → Int32) (n : Nat) (b t : Int32) : Int32 := if (nI 1 ≤ b ∧ b ≤ nI 100) ∧ (nI 1 ≤ t ∧ t ≤ nI 50) then nI 100 * s_rec f n 6 + s_rec f n 7 else cINV
def s_seF (f : Nat → Int32) (n : Nat) (b t : Int32) : Nat → Int32 := if (nI 1 ≤ b ∧ b ≤ nI 100) ∧ (nI 1 ≤ t ∧ t ≤ nI 50) then upd (upd (s_rec f n) 6 b) 7 t else f
def s_seN (n : Nat) (b t : Int32) : Nat := if (nI 1 ≤ b ∧ b ≤ nI 100) ∧ (nI 1 ≤ t ∧ t ≤ nI 50) then s_recn n else n
set_option maxHeartbeats 4000000 in
set_option maxRecDepth 100000 in
theorem c_X5_setFinding (l : Launch) (g : kG) (o : Nat) (q : Nat) (f : Nat → Int32) (n : Nat) (b : Int32) (t : Int32) : MI l yX5_setFinding cX5_setFinding 4 (some .int) (rr 2 44) [.ref o, .int (b), .int (t)] ((RP g o q f n)) g 0 0 (RA o q) (fun r H1 => r = s_seR f n b t ∧ RP g o q (s_seF f n b t) (s_seN n b t) H1) := by
  refine kOf (by decide) (Nat.le_of_ble_eq_true rfl) (fun p e s m below meth c ls hC hr hlk hin hK hP hl => ?_)
  have hx := hC.1
  have hb := hC.2.1
  have hml := hC.2.2.1
  have hown := hC.2.2.2.1
  have hts := hC.2.2.2.2
  have hl : lv_has ls 4 [(0, .ref o), (1, .int (b)), (2, .int (t))] := hl
  have hS : va_S (RA o q) s.heap s.heap [] := va_S.rf
  refine lv_iload_n hx hb dX5_setFinding_0 rfl (lvG hl rfl) ?_
  refine lv_iconst (v := nI 1) hx hb dX5_setFinding_1 (by decide) ?_
  refine lv_bipush (v := nI 100) hx hb dX5_setFinding_2 (by decide) ?_
  refine k_callPI (k_goS (rest := []) hC hK (c_X5_in l g b (nI 1) (nI 100)) L_X5_X5_in (⟨⟨Nat.le_of_ble_eq_true rfl, Nat.le_of_ble_eq_true rfl⟩, ⟨rfl, rfl⟩, ⟨Nat.le_of_ble_eq_true rfl, Nat.le_of_ble_eq_true rfl⟩⟩) (trivial) rfl hl.1 rfl (Nat.le_of_ble_eq_true rfl) dX5_setFinding_4) ?_
  refine b_ifeq (tgt := 20) hC dX5_setFinding_7 (by decide) (fun c_7 => ?_) (fun c_7 => ?_)
  · refine lv_ldc (v := (-2000000001 : Int32)) hx hb hown (hts _ w_674) dX5_setFinding_20 ?_
    exact k_iretM hC hr hlk hS dX5_setFinding_22 (⟨by first | rfl | grind [s_seR, s_seF, s_seN] | grind [nI, s_seR, s_seF, s_seN], by first | exact hP | grind [s_seR, s_seF, s_seN]⟩)
  · refine lv_iload_n hx hb dX5_setFinding_10 rfl (lvG hl rfl) ?_
    refine lv_iconst (v := nI 1) hx hb dX5_setFinding_11 (by decide) ?_
    refine lv_bipush (v := nI 50) hx hb dX5_setFinding_12 (by decide) ?_
    refine k_callPI (k_goS (rest := []) hC hK (c_X5_in l g t (nI 1) (nI 50)) L_X5_X5_in (⟨⟨Nat.le_of_ble_eq_true rfl, Nat.le_of_ble_eq_true rfl⟩, ⟨rfl, rfl⟩, ⟨Nat.le_of_ble_eq_true rfl, Nat.le_of_ble_eq_true rfl⟩⟩) (trivial) rfl hl.1 rfl (Nat.le_of_ble_eq_true rfl) dX5_setFinding_14) ?_
    refine b_ifne (tgt := 23) hC dX5_setFinding_17 (by decide) (fun c_17 => ?_) (fun c_17 => ?_)
    · refine lv_aload_n hx hb dX5_setFinding_23 rfl (lvG hl rfl) ?_
      refine k_callMV0 (k_goV (rest := []) hC hK (c_X5_record l g o q f n) L_X5_X5_record (⟨⟨Nat.le_of_ble_eq_true rfl, Nat.le_of_ble_eq_true rfl⟩, ⟨rfl, rfl⟩, ⟨Nat.le_of_ble_eq_true rfl, Nat.le_of_ble_eq_true rfl⟩⟩) (hP.recv hK) (hP) rfl hl.1 rfl (Nat.le_of_ble_eq_true rfl) dX5_setFinding_24) hS (fun _ h => h) (fun H_1 locs_2 hP_3 _ _ hS_4 => ?_)
      refine lv_bipush (v := nI 100) hx hb dX5_setFinding_27 (by decide) ?_
      refine lv_aload_n hx hb dX5_setFinding_29 rfl (lvG hl rfl) ?_
      refine r_row hC hK hP_3 dX5_setFinding_30 ?_
      refine lv_bipush (v := nI 6) hx hb dX5_setFinding_33 (by decide) ?_
      refine r_ald (k := 6) hC hK hP_3 (by omega) dX5_setFinding_35 ?_
      refine lv_imul hx hb dX5_setFinding_36 ?_
      refine lv_aload_n hx hb dX5_setFinding_37 rfl (lvG hl rfl) ?_
      refine r_row hC hK hP_3 dX5_setFinding_38 ?_
      refine lv_bipush (v := nI 7) hx hb dX5_setFinding_41 (by decide) ?_
      refine r_ald (k := 7) hC hK hP_3 (by omega) dX5_setFinding_43 ?_
      refine lv_iadd hx hb dX5_setFinding_44 ?_
      refine lv_istore_n (lv' := [(3, .int (((nI 100) * ((s_rec f n) 6)) + ((s_rec f n) 7))), (0, .ref o), (1, .int (b)), (2, .int (t))]) hx hb dX5_setFinding_45 rfl hl (by decide) rfl (fun ls hl => ?_)
      refine lv_aload_n hx hb dX5_setFinding_46 rfl (lvG hl rfl) ?_
      refine r_row hC hK hP_3 dX5_setFinding_47 ?_
      refine lv_bipush (v := nI 6) hx hb dX5_setFinding_50 (by decide) ?_
      refine lv_iload_n hx hb dX5_setFinding_52 rfl (lvG hl rfl) ?_
      refine r_ast (k := 6) hC hK hP_3 hS_4 (by omega) dX5_setFinding_53 (fun H_5 locs_6 hP_7 hS_8 => ?_)
      refine lv_aload_n hx hb dX5_setFinding_54 rfl (lvG hl rfl) ?_
      refine r_row hC hK hP_7 dX5_setFinding_55 ?_
      refine lv_bipush (v := nI 7) hx hb dX5_setFinding_58 (by decide) ?_
      refine lv_iload_n hx hb dX5_setFinding_60 rfl (lvG hl rfl) ?_
      refine r_ast (k := 7) hC hK hP_7 hS_8 (by omega) dX5_setFinding_61 (fun H_9 locs_10 hP_11 hS_12 => ?_)
      refine lv_iload_n hx hb dX5_setFinding_62 rfl (lvG hl rfl) ?_
      exact k_iretM hC hr hlk hS_12 dX5_setFinding_63 (⟨by first | rfl | grind [s_seR, s_seF, s_seN] | grind [nI, s_seR, s_seF, s_seN], by first | exact hP_11 | grind [s_seR, s_seF, s_seN]⟩)
    · refine lv_ldc (v := (-2000000001 : Int32)) hx hb hown (hts _ w_674) dX5_setFinding_20 ?_
      exact k_iretM hC hr hlk hS dX5_setFinding_22 (⟨by first | rfl | grind [s_seR, s_seF, s_seN] | grind [nI, s_seR, s_seF, s_seN], by first | exact hP | grind [s_seR, s_seF, s_seN]⟩)
abbrev s_okV (en a c r m : Int32) : Prop := ((nI 0 ≤ en ∧ en ≤ nI 1) ∧ (nI 0 ≤ a ∧ a ≤ nI 5) ∧ (nI 1 ≤ c ∧ c ≤ nI 18) ∧ (nI 2 ≤ r ∧ r ≤ nI 20) ∧ (nI 0 ≤ m ∧ m ≤ nI 19)) ∧ a < c ∧ c < r
def s_svR (en a c r m : Int32) : Int32 := if s_okV en a c r m then nI 0 else cINV
def s_svU (f : Nat → Int32) (j : Nat) (a c r m : Int32) : Nat → Int32 := upd (upd (upd (upd f (8 + 4 * j) a) (8 + 4 * j + 1) c) (8 + 4 * j + 2) r) (8 + 4 * j + 3) m
def s_svF (f : Nat → Int32) (n : Nat) (en a c r m : Int32) : Nat → Int32 := if s_okV en a c r m then s_svU (s_rec f n) en.toNatClampNeg a c r m else f
def s_svN (n : Nat) (en a c r m : Int32) : Nat := if s_okV en a c r m then s_recn n else n
set_option maxHeartbeats 4000000 in
set_option maxRecDepth 100000 in
theorem c_X5_setValves (l : Launch) (g : kG) (o : Nat) (q : Nat) (f : Nat → Int32) (n : Nat) (en : Int32) (va : Int32) (vc : Int32) (vr : Int32) (vm : Int32) : MI l yX5_setValves cX5_setValves 7 (some .int) (rr 2 44) [.ref o, .int (en), .int (va), .int (vc), .int (vr), .int (vm)] ((RP g o q f n)) g 0 0 (RA o q) (fun r H1 => r = s_svR en va vc vr vm ∧ RP g o q (s_svF f n en va vc vr vm) (s_svN n en va vc vr vm) H1) := by
  refine kOf (by decide) (Nat.le_of_ble_eq_true rfl) (fun p e s m below meth c ls hC hr hlk hin hK hP hl => ?_)
  have hx := hC.1
  have hb := hC.2.1
  have hml := hC.2.2.1
  have hown := hC.2.2.2.1
  have hts := hC.2.2.2.2
  have hl : lv_has ls 7 [(0, .ref o), (1, .int (en)), (2, .int (va)), (3, .int (vc)), (4, .int (vr)), (5, .int (vm))] := hl
  have hS : va_S (RA o q) s.heap s.heap [] := va_S.rf
  refine lv_iload_n hx hb dX5_setValves_0 rfl (lvG hl rfl) ?_
  refine k_callPI (k_goS (rest := []) hC hK (c_X5_isEnd l g en) L_X5_X5_isEnd (⟨⟨Nat.le_of_ble_eq_true rfl, Nat.le_of_ble_eq_true rfl⟩, ⟨rfl, rfl⟩, ⟨Nat.le_of_ble_eq_true rfl, Nat.le_of_ble_eq_true rfl⟩⟩) (trivial) rfl hl.1 rfl (Nat.le_of_ble_eq_true rfl) dX5_setValves_1) ?_
  refine b_ifeq (tgt := 52) hC dX5_setValves_4 (by decide) (fun c_4 => ?_) (fun c_4 => ?_)
  · refine lv_iconst (v := nI 0) hx hb dX5_setValves_52 (by decide) ?_
    refine lv_istore (lv' := [(6, .int (nI 0)), (0, .ref o), (1, .int (en)), (2, .int (va)), (3, .int (vc)), (4, .int (vr)), (5, .int (vm))]) hx hb dX5_setValves_53 hl (by decide) rfl (fun ls hl => ?_)
    refine lv_iload hx hb dX5_setValves_55 (lvG hl rfl) ?_
    refine n_if_eq (tgt := 71) hC dX5_setValves_57 (by decide) (by decide) (fun _ => ?_) (fun c => absurd c (by decide))
    refine lv_ldc (v := (-2000000001 : Int32)) hx hb hown (hts _ w_674) dX5_setValves_71 ?_
    exact k_iretM hC hr hlk hS dX5_setValves_73 (by have hno : ¬ s_okV en va vc vr vm := (by grind); unfold s_svR s_svF s_svN; rw [if_neg hno, if_neg hno, if_neg hno]; exact ⟨rfl, hP⟩)
  · refine lv_iload_n hx hb dX5_setValves_7 rfl (lvG hl rfl) ?_
    refine lv_iconst (v := nI 0) hx hb dX5_setValves_8 (by decide) ?_
    refine lv_iconst (v := nI 5) hx hb dX5_setValves_9 (by decide) ?_
    refine k_callPI (k_goS (rest := []) hC hK (c_X5_in l g va (nI 0) (nI 5)) L_X5_X5_in (⟨⟨Nat.le_of_ble_eq_true rfl, Nat.le_of_ble_eq_true rfl⟩, ⟨rfl, rfl⟩, ⟨Nat.le_of_ble_eq_true rfl, Nat.le_of_ble_eq_true rfl⟩⟩) (trivial) rfl hl.1 rfl (Nat.le_of_ble_eq_true rfl) dX5_setValves_10) ?_
    refine b_ifeq (tgt := 52) hC dX5_setValves_13 (by decide) (fun c_13 => ?_) (fun c_13 => ?_)
    · refine lv_iconst (v := nI 0) hx hb dX5_setValves_52 (by decide) ?_
      refine lv_istore (lv' := [(6, .int (nI 0)), (0, .ref o), (1, .int (en)), (2, .int (va)), (3, .int (vc)), (4, .int (vr)), (5, .int (vm))]) hx hb dX5_setValves_53 hl (by decide) rfl (fun ls hl => ?_)
      refine lv_iload hx hb dX5_setValves_55 (lvG hl rfl) ?_
      refine n_if_eq (tgt := 71) hC dX5_setValves_57 (by decide) (by decide) (fun _ => ?_) (fun c => absurd c (by decide))
      refine lv_ldc (v := (-2000000001 : Int32)) hx hb hown (hts _ w_674) dX5_setValves_71 ?_
      exact k_iretM hC hr hlk hS dX5_setValves_73 (by have hno : ¬ s_okV en va vc vr vm := (by grind); unfold s_svR s_svF s_svN; rw [if_neg hno, if_neg hno, if_neg hno]; exact ⟨rfl, hP⟩)
    · refine lv_iload_n hx hb dX5_setValves_16 rfl (lvG hl rfl) ?_
      refine lv_iconst (v := nI 1) hx hb dX5_setValves_17 (by decide) ?_
      refine lv_bipush (v := nI 18) hx hb dX5_setValves_18 (by decide) ?_
      refine k_callPI (k_goS (rest := []) hC hK (c_X5_in l g vc (nI 1) (nI 18)) L_X5_X5_in (⟨⟨Nat.le_of_ble_eq_true rfl, Nat.le_of_ble_eq_true rfl⟩, ⟨rfl, rfl⟩, ⟨Nat.le_of_ble_eq_true rfl, Nat.le_of_ble_eq_true rfl⟩⟩) (trivial) rfl hl.1 rfl (Nat.le_of_ble_eq_true rfl) dX5_setValves_20) ?_
      refine b_ifeq (tgt := 52) hC dX5_setValves_23 (by decide) (fun c_23 => ?_) (fun c_23 => ?_)
      · refine lv_iconst (v := nI 0) hx hb dX5_setValves_52 (by decide) ?_
        refine lv_istore (lv' := [(6, .int (nI 0)), (0, .ref o), (1, .int (en)), (2, .int (va)), (3, .int (vc)), (4, .int (vr)), (5, .int (vm))]) hx hb dX5_setValves_53 hl (by decide) rfl (fun ls hl => ?_)
        refine lv_iload hx hb dX5_setValves_55 (lvG hl rfl) ?_
        refine n_if_eq (tgt := 71) hC dX5_setValves_57 (by decide) (by decide) (fun _ => ?_) (fun c => absurd c (by decide))
        refine lv_ldc (v := (-2000000001 : Int32)) hx hb hown (hts _ w_674) dX5_setValves_71 ?_
        exact k_iretM hC hr hlk hS dX5_setValves_73 (by have hno : ¬ s_okV en va vc vr vm := (by grind); unfold s_svR s_svF s_svN; rw [if_neg hno, if_neg hno, if_neg hno]; exact ⟨rfl, hP⟩)
      · refine lv_iload hx hb dX5_setValves_26 (lvG hl rfl) ?_
        refine lv_iconst (v := nI 2) hx hb dX5_setValves_28 (by decide) ?_
        refine lv_bipush (v := nI 20) hx hb dX5_setValves_29 (by decide) ?_
        refine k_callPI (k_goS (rest := []) hC hK (c_X5_in l g vr (nI 2) (nI 20)) L_X5_X5_in (⟨⟨Nat.le_of_ble_eq_true rfl, Nat.le_of_ble_eq_true rfl⟩, ⟨rfl, rfl⟩, ⟨Nat.le_of_ble_eq_true rfl, Nat.le_of_ble_eq_true rfl⟩⟩) (trivial) rfl hl.1 rfl (Nat.le_of_ble_eq_true rfl) dX5_setValves_31) ?_
        refine b_ifeq (tgt := 52) hC dX5_setValves_34 (by decide) (fun c_34 => ?_) (fun c_34 => ?_)
        · refine lv_iconst (v := nI 0) hx hb dX5_setValves_52 (by decide) ?_
          refine lv_istore (lv' := [(6, .int (nI 0)), (0, .ref o), (1, .int (en)), (2, .int (va)), (3, .int (vc)), (4, .int (vr)), (5, .int (vm))]) hx hb dX5_setValves_53 hl (by decide) rfl (fun ls hl => ?_)
          refine lv_iload hx hb dX5_setValves_55 (lvG hl rfl) ?_
          refine n_if_eq (tgt := 71) hC dX5_setValves_57 (by decide) (by decide) (fun _ => ?_) (fun c => absurd c (by decide))
          refine lv_ldc (v := (-2000000001 : Int32)) hx hb hown (hts _ w_674) dX5_setValves_71 ?_
          exact k_iretM hC hr hlk hS dX5_setValves_73 (by have hno : ¬ s_okV en va vc vr vm := (by grind); unfold s_svR s_svF s_svN; rw [if_neg hno, if_neg hno, if_neg hno]; exact ⟨rfl, hP⟩)
        · refine lv_iload hx hb dX5_setValves_37 (lvG hl rfl) ?_
          refine lv_iconst (v := nI 0) hx hb dX5_setValves_39 (by decide) ?_
          refine lv_bipush (v := nI 19) hx hb dX5_setValves_40 (by decide) ?_
          refine k_callPI (k_goS (rest := []) hC hK (c_X5_in l g vm (nI 0) (nI 19)) L_X5_X5_in (⟨⟨Nat.le_of_ble_eq_true rfl, Nat.le_of_ble_eq_true rfl⟩, ⟨rfl, rfl⟩, ⟨Nat.le_of_ble_eq_true rfl, Nat.le_of_ble_eq_true rfl⟩⟩) (trivial) rfl hl.1 rfl (Nat.le_of_ble_eq_true rfl) dX5_setValves_42) ?_
          refine b_ifeq (tgt := 52) hC dX5_setValves_45 (by decide) (fun c_45 => ?_) (fun c_45 => ?_)
          · refine lv_iconst (v := nI 0) hx hb dX5_setValves_52 (by decide) ?_
            refine lv_istore (lv' := [(6, .int (nI 0)), (0, .ref o), (1, .int (en)), (2, .int (va)), (3, .int (vc)), (4, .int (vr)), (5, .int (vm))]) hx hb dX5_setValves_53 hl (by decide) rfl (fun ls hl => ?_)
            refine lv_iload hx hb dX5_setValves_55 (lvG hl rfl) ?_
            refine n_if_eq (tgt := 71) hC dX5_setValves_57 (by decide) (by decide) (fun _ => ?_) (fun c => absurd c (by decide))
            refine lv_ldc (v := (-2000000001 : Int32)) hx hb hown (hts _ w_674) dX5_setValves_71 ?_
            exact k_iretM hC hr hlk hS dX5_setValves_73 (by have hno : ¬ s_okV en va vc vr vm := (by grind); unfold s_svR s_svF s_svN; rw [if_neg hno, if_neg hno, if_neg hno]; exact ⟨rfl, hP⟩)
          · refine lv_iconst (v := nI 1) hx hb dX5_setValves_48 (by decide) ?_
            refine lv_goto (tgt := 53) hx hb dX5_setValves_49 (by decide) ?_
            refine lv_istore (lv' := [(6, .int (nI 1)), (0, .ref o), (1, .int (en)), (2, .int (va)), (3, .int (vc)), (4, .int (vr)), (5, .int (vm))]) hx hb dX5_setValves_53 hl (by decide) rfl (fun ls hl => ?_)
            refine lv_iload hx hb dX5_setValves_55 (lvG hl rfl) ?_
            refine n_if_eq (tgt := 71) hC dX5_setValves_57 (by decide) (by decide) (fun c => absurd c (by decide)) (fun _ => ?_)
            refine lv_iload_n hx hb dX5_setValves_60 rfl (lvG hl rfl) ?_
            refine lv_iload_n hx hb dX5_setValves_61 rfl (lvG hl rfl) ?_
            refine lv_icmp_le (tgt := 71) hx hb dX5_setValves_62 (by decide) (fun c_62 => ?_) (fun c_62 => ?_)
            · refine lv_ldc (v := (-2000000001 : Int32)) hx hb hown (hts _ w_674) dX5_setValves_71 ?_
              exact k_iretM hC hr hlk hS dX5_setValves_73 (by have hno : ¬ s_okV en va vc vr vm := (by grind); unfold s_svR s_svF s_svN; rw [if_neg hno, if_neg hno, if_neg hno]; exact ⟨rfl, hP⟩)
            · refine lv_iload hx hb dX5_setValves_65 (lvG hl rfl) ?_
              refine lv_iload_n hx hb dX5_setValves_67 rfl (lvG hl rfl) ?_
              refine lv_icmp_gt (tgt := 74) hx hb dX5_setValves_68 (by decide) (fun c_68 => ?_) (fun c_68 => ?_)
              · obtain ⟨j, h_j, rfl⟩ := in_nat (by decide) (c_4)
                have e_j : (nI j).toNatClampNeg = j := nI_clamp (by omega)
                refine lv_aload_n hx hb dX5_setValves_74 rfl (lvG hl rfl) ?_
                refine k_callMV0 (k_goV (rest := []) hC hK (c_X5_record l g o q f n) L_X5_X5_record (⟨⟨Nat.le_of_ble_eq_true rfl, Nat.le_of_ble_eq_true rfl⟩, ⟨rfl, rfl⟩, ⟨Nat.le_of_ble_eq_true rfl, Nat.le_of_ble_eq_true rfl⟩⟩) (hP.recv hK) (hP) rfl hl.1 rfl (Nat.le_of_ble_eq_true rfl) dX5_setValves_75) hS (fun _ h => h) (fun H_1 locs_2 hP_3 _ _ hS_4 => ?_)
                refine lv_aload_n hx hb dX5_setValves_78 rfl (lvG hl rfl) ?_
                refine r_row hC hK hP_3 dX5_setValves_79 ?_
                refine lv_bipush (v := nI 8) hx hb dX5_setValves_82 (by decide) ?_
                refine lv_iconst (v := nI 4) hx hb dX5_setValves_84 (by decide) ?_
                refine lv_iload_n hx hb dX5_setValves_85 rfl (lvG hl rfl) ?_
                refine n_imul hC dX5_setValves_86 ?_
                refine n_iadd hC dX5_setValves_87 ?_
                refine lv_iload_n hx hb dX5_setValves_88 rfl (lvG hl rfl) ?_
                refine r_ast (k := 8 + (4 * j)) hC hK hP_3 hS_4 (by omega) dX5_setValves_89 (fun H_5 locs_6 hP_7 hS_8 => ?_)
                refine lv_aload_n hx hb dX5_setValves_90 rfl (lvG hl rfl) ?_
                refine r_row hC hK hP_7 dX5_setValves_91 ?_
                refine lv_bipush (v := nI 8) hx hb dX5_setValves_94 (by decide) ?_
                refine lv_iconst (v := nI 4) hx hb dX5_setValves_96 (by decide) ?_
                refine lv_iload_n hx hb dX5_setValves_97 rfl (lvG hl rfl) ?_
                refine n_imul hC dX5_setValves_98 ?_
                refine n_iadd hC dX5_setValves_99 ?_
                refine lv_iconst (v := nI 1) hx hb dX5_setValves_100 (by decide) ?_
                refine n_iadd hC dX5_setValves_101 ?_
                refine lv_iload_n hx hb dX5_setValves_102 rfl (lvG hl rfl) ?_
                refine r_ast (k := 8 + (4 * j) + 1) hC hK hP_7 hS_8 (by omega) dX5_setValves_103 (fun H_9 locs_10 hP_11 hS_12 => ?_)
                refine lv_aload_n hx hb dX5_setValves_104 rfl (lvG hl rfl) ?_
                refine r_row hC hK hP_11 dX5_setValves_105 ?_
                refine lv_bipush (v := nI 8) hx hb dX5_setValves_108 (by decide) ?_
                refine lv_iconst (v := nI 4) hx hb dX5_setValves_110 (by decide) ?_
                refine lv_iload_n hx hb dX5_setValves_111 rfl (lvG hl rfl) ?_
                refine n_imul hC dX5_setValves_112 ?_
                refine n_iadd hC dX5_setValves_113 ?_
                refine lv_iconst (v := nI 2) hx hb dX5_setValves_114 (by decide) ?_
                refine n_iadd hC dX5_setValves_115 ?_
                refine lv_iload hx hb dX5_setValves_116 (lvG hl rfl) ?_
                refine r_ast (k := 8 + (4 * j) + 2) hC hK hP_11 hS_12 (by omega) dX5_setValves_118 (fun H_13 locs_14 hP_15 hS_16 => ?_)
                refine lv_aload_n hx hb dX5_setValves_119 rfl (lvG hl rfl) ?_
                refine r_row hC hK hP_15 dX5_setValves_120 ?_
                refine lv_bipush (v := nI 8) hx hb dX5_setValves_123 (by decide) ?_
                refine lv_iconst (v := nI 4) hx hb dX5_setValves_125 (by decide) ?_
                refine lv_iload_n hx hb dX5_setValves_126 rfl (lvG hl rfl) ?_
                refine n_imul hC dX5_setValves_127 ?_
                refine n_iadd hC dX5_setValves_128 ?_
                refine lv_iconst (v := nI 3) hx hb dX5_setValves_129 (by decide) ?_
                refine n_iadd hC dX5_setValves_130 ?_
                refine lv_iload hx hb dX5_setValves_131 (lvG hl rfl) ?_
                refine r_ast (k := 8 + (4 * j) + 3) hC hK hP_15 hS_16 (by omega) dX5_setValves_133 (fun H_17 locs_18 hP_19 hS_20 => ?_)
                refine lv_iconst (v := nI 0) hx hb dX5_setValves_134 (by decide) ?_
                exact k_iretM hC hr hlk hS_20 dX5_setValves_135 (by have hok : s_okV (nI j) va vc vr vm := (by grind); unfold s_svR s_svF s_svN; rw [if_pos hok, if_pos hok, if_pos hok, e_j]; exact ⟨rfl, hP_19⟩)
              · refine lv_ldc (v := (-2000000001 : Int32)) hx hb hown (hts _ w_674) dX5_setValves_71 ?_
                exact k_iretM hC hr hlk hS dX5_setValves_73 (by have hno : ¬ s_okV en va vc vr vm := (by grind); unfold s_svR s_svF s_svN; rw [if_neg hno, if_neg hno, if_neg hno]; exact ⟨rfl, hP⟩)
def s_vaR (f : Nat → Int32) (en ev : Int32) : Int32 := if (nI 0 ≤ en ∧ en ≤ nI 1) ∧ (nI 0 ≤ ev ∧ ev ≤ nI 3) then f (8 + 4 * en.toNatClampNeg + ev.toNatClampNeg) else cINV
set_option maxHeartbeats 4000000 in
set_option maxRecDepth 100000 in
theorem c_X5_valve (l : Launch) (g : kG) (o : Nat) (q : Nat) (f : Nat → Int32) (n : Nat) (en : Int32) (ev : Int32) : PI l yX5_valve cX5_valve 3 (some .int) (rr 2 42) [.ref o, .int (en), .int (ev)] ((RP g o q f n)) g (s_vaR f en ev) := by
  refine kOf (by decide) (Nat.le_of_ble_eq_true rfl) (fun p e s m below meth c ls hC hr hlk hin hK hP hl => ?_)
  have hx := hC.1
  have hb := hC.2.1
  have hml := hC.2.2.1
  have hown := hC.2.2.2.1
  have hts := hC.2.2.2.2
  have hl : lv_has ls 3 [(0, .ref o), (1, .int (en)), (2, .int (ev))] := hl
  refine lv_iload_n hx hb dX5_valve_0 rfl (lvG hl rfl) ?_
  refine k_callPI (k_goS (rest := []) hC hK (c_X5_isEnd l g en) L_X5_X5_isEnd (⟨⟨Nat.le_of_ble_eq_true rfl, Nat.le_of_ble_eq_true rfl⟩, ⟨rfl, rfl⟩, ⟨Nat.le_of_ble_eq_true rfl, Nat.le_of_ble_eq_true rfl⟩⟩) (trivial) rfl hl.1 rfl (Nat.le_of_ble_eq_true rfl) dX5_valve_1) ?_
  refine b_ifeq (tgt := 32) hC dX5_valve_4 (by decide) (fun c_4 => ?_) (fun c_4 => ?_)
  · refine lv_ldc (v := (-2000000001 : Int32)) hx hb hown (hts _ w_674) dX5_valve_32 ?_
    exact k_iret hC hr hlk dX5_valve_34 (by unfold s_vaR; first | (rw [if_pos ⟨c_4, c_13⟩, e_j, e_k]) | (rw [if_neg (by grind)]))
  · refine lv_iload_n hx hb dX5_valve_7 rfl (lvG hl rfl) ?_
    refine lv_iconst (v := nI 0) hx hb dX5_valve_8 (by decide) ?_
    refine lv_iconst (v := nI 3) hx hb dX5_valve_9 (by decide) ?_
    refine k_callPI (k_goS (rest := []) hC hK (c_X5_in l g ev (nI 0) (nI 3)) L_X5_X5_in (⟨⟨Nat.le_of_ble_eq_true rfl, Nat.le_of_ble_eq_true rfl⟩, ⟨rfl, rfl⟩, ⟨Nat.le_of_ble_eq_true rfl, Nat.le_of_ble_eq_true rfl⟩⟩) (trivial) rfl hl.1 rfl (Nat.le_of_ble_eq_true rfl) dX5_valve_10) ?_
    refine b_ifeq (tgt := 32) hC dX5_valve_13 (by decide) (fun c_13 => ?_) (fun c_13 => ?_)
    · refine lv_ldc (v := (-2000000001 : Int32)) hx hb hown (hts _ w_674) dX5_valve_32 ?_
      exact k_iret hC hr hlk dX5_valve_34 (by unfold s_vaR; first | (rw [if_pos ⟨c_4, c_13⟩, e_j, e_k]) | (rw [if_neg (by grind)]))
    · obtain ⟨j, h_j, rfl⟩ := in_nat (by decide) (c_4)
      have e_j : (nI j).toNatClampNeg = j := nI_clamp (by omega)
      obtain ⟨k, h_k, rfl⟩ := in_nat (by decide) (c_13)
      have e_k : (nI k).toNatClampNeg = k := nI_clamp (by omega)
      refine lv_aload_n hx hb dX5_valve_16 rfl (lvG hl rfl) ?_
      refine r_row hC hK hP dX5_valve_17 ?_
      refine lv_bipush (v := nI 8) hx hb dX5_valve_20 (by decide) ?_
      refine lv_iconst (v := nI 4) hx hb dX5_valve_22 (by decide) ?_
      refine lv_iload_n hx hb dX5_valve_23 rfl (lvG hl rfl) ?_
      refine n_imul hC dX5_valve_24 ?_
      refine n_iadd hC dX5_valve_25 ?_
      refine lv_iload_n hx hb dX5_valve_26 rfl (lvG hl rfl) ?_
      refine n_iadd hC dX5_valve_27 ?_
      refine r_ald (k := 8 + (4 * j) + k) hC hK hP (by omega) dX5_valve_28 ?_
      refine lv_goto (tgt := 34) hx hb dX5_valve_29 (by decide) ?_
      exact k_iret hC hr hlk dX5_valve_34 (by unfold s_vaR; first | (rw [if_pos ⟨c_4, c_13⟩, e_j, e_k]) | (rw [if_neg (by grind)]))
def s_bcU (f : Nat → Int32) (en sp : Int32) : Nat → Int32 := s_fl (upd (upd (upd f 16 (nI 1)) 17 en) 18 sp) 19 (fun _ => nI 0) 42
abbrev s_okB (en sp : Int32) : Prop := (nI 0 ≤ en ∧ en ≤ nI 1) ∧ (nI 1 ≤ sp ∧ sp ≤ nI 600)
def s_bcR (f : Nat → Int32) (n : Nat) (en sp : Int32) : Int32 := if s_okB en sp then s_rec f n 16 else cINV
def s_bcF (f : Nat → Int32) (n : Nat) (en sp : Int32) : Nat → Int32 := if s_okB en sp then s_bcU (s_rec f n) en sp else f
def s_bcN (n : Nat) (en sp : Int32) : Nat := if s_okB en sp then s_recn n else n
set_option maxHeartbeats 4000000 in
set_option maxRecDepth 100000 in
theorem c_X5_beginCard (l : Launch) (g : kG) (o : Nat) (q : Nat) (f : Nat → Int32) (n : Nat) (en : Int32) (sp : Int32) : MI l yX5_beginCard cX5_beginCard 5 (some .int) (rr 2 44) [.ref o, .int (en), .int (sp)] ((RP g o q f n)) g 0 0 (RA o q) (fun r H1 => r = s_bcR f n en sp ∧ RP g o q (s_bcF f n en sp) (s_bcN n en sp) H1) := by
  refine kOf (by decide) (Nat.le_of_ble_eq_true rfl) (fun p e s m below meth c ls hC hr hlk hin hK hP hl => ?_)
  have hx := hC.1
  have hb := hC.2.1
  have hml := hC.2.2.1
  have hown := hC.2.2.2.1
  have hts := hC.2.2.2.2
  have hl : lv_has ls 5 [(0, .ref o), (1, .int (en)), (2, .int (sp))] := hl
  have hS : va_S (RA o q) s.heap s.heap [] := va_S.rf
  refine lv_iload_n hx hb dX5_beginCard_0 rfl (lvG hl rfl) ?_
  refine k_callPI (k_goS (rest := []) hC hK (c_X5_isEnd l g en) L_X5_X5_isEnd (⟨⟨Nat.le_of_ble_eq_true rfl, Nat.le_of_ble_eq_true rfl⟩, ⟨rfl, rfl⟩, ⟨Nat.le_of_ble_eq_true rfl, Nat.le_of_ble_eq_true rfl⟩⟩) (trivial) rfl hl.1 rfl (Nat.le_of_ble_eq_true rfl) dX5_beginCard_1) ?_
  refine b_ifeq (tgt := 18) hC dX5_beginCard_4 (by decide) (fun c_4 => ?_) (fun c_4 => ?_)
  · refine lv_ldc (v := (-2000000001 : Int32)) hx hb hown (hts _ w_674) dX5_beginCard_18 ?_
    exact k_iretM hC hr hlk hS dX5_beginCard_20 (by unfold s_bcR s_bcF s_bcN; rw [if_neg (by grind), if_neg (by grind), if_neg (by grind)]; exact ⟨rfl, hP⟩)
  · refine lv_iload_n hx hb dX5_beginCard_7 rfl (lvG hl rfl) ?_
    refine lv_iconst (v := nI 1) hx hb dX5_beginCard_8 (by decide) ?_
    refine lv_sipush (v := nI 600) hx hb dX5_beginCard_9 (by decide) ?_
    refine k_callPI (k_goS (rest := []) hC hK (c_X5_in l g sp (nI 1) (nI 600)) L_X5_X5_in (⟨⟨Nat.le_of_ble_eq_true rfl, Nat.le_of_ble_eq_true rfl⟩, ⟨rfl, rfl⟩, ⟨Nat.le_of_ble_eq_true rfl, Nat.le_of_ble_eq_true rfl⟩⟩) (trivial) rfl hl.1 rfl (Nat.le_of_ble_eq_true rfl) dX5_beginCard_12) ?_
    refine b_ifne (tgt := 21) hC dX5_beginCard_15 (by decide) (fun c_15 => ?_) (fun c_15 => ?_)
    · refine lv_aload_n hx hb dX5_beginCard_21 rfl (lvG hl rfl) ?_
      refine k_callMV0 (k_goV (rest := []) hC hK (c_X5_record l g o q f n) L_X5_X5_record (⟨⟨Nat.le_of_ble_eq_true rfl, Nat.le_of_ble_eq_true rfl⟩, ⟨rfl, rfl⟩, ⟨Nat.le_of_ble_eq_true rfl, Nat.le_of_ble_eq_true rfl⟩⟩) (hP.recv hK) (hP) rfl hl.1 rfl (Nat.le_of_ble_eq_true rfl) dX5_beginCard_22) hS (fun _ h => h) (fun H_1 locs_2 hP_3 _ _ hS_4 => ?_)
      refine lv_aload_n hx hb dX5_beginCard_25 rfl (lvG hl rfl) ?_
      refine r_row hC hK hP_3 dX5_beginCard_26 ?_
      refine lv_bipush (v := nI 16) hx hb dX5_beginCard_29 (by decide) ?_
      refine r_ald (k := 16) hC hK hP_3 (by omega) dX5_beginCard_31 ?_
      refine lv_istore_n (lv' := [(3, .int ((s_rec f n) 16)), (0, .ref o), (1, .int (en)), (2, .int (sp))]) hx hb dX5_beginCard_32 rfl hl (by decide) rfl (fun ls hl => ?_)
      refine lv_aload_n hx hb dX5_beginCard_33 rfl (lvG hl rfl) ?_
      refine r_row hC hK hP_3 dX5_beginCard_34 ?_
      refine lv_bipush (v := nI 16) hx hb dX5_beginCard_37 (by decide) ?_
      refine lv_iconst (v := nI 1) hx hb dX5_beginCard_39 (by decide) ?_
      refine r_ast (k := 16) hC hK hP_3 hS_4 (by omega) dX5_beginCard_40 (fun H_5 locs_6 hP_7 hS_8 => ?_)
      refine lv_aload_n hx hb dX5_beginCard_41 rfl (lvG hl rfl) ?_
      refine r_row hC hK hP_7 dX5_beginCard_42 ?_
      refine lv_bipush (v := nI 17) hx hb dX5_beginCard_45 (by decide) ?_
      refine lv_iload_n hx hb dX5_beginCard_47 rfl (lvG hl rfl) ?_
      refine r_ast (k := 17) hC hK hP_7 hS_8 (by omega) dX5_beginCard_48 (fun H_9 locs_10 hP_11 hS_12 => ?_)
      refine lv_aload_n hx hb dX5_beginCard_49 rfl (lvG hl rfl) ?_
      refine r_row hC hK hP_11 dX5_beginCard_50 ?_
      refine lv_bipush (v := nI 18) hx hb dX5_beginCard_53 (by decide) ?_
      refine lv_iload_n hx hb dX5_beginCard_55 rfl (lvG hl rfl) ?_
      refine r_ast (k := 18) hC hK hP_11 hS_12 (by omega) dX5_beginCard_56 (fun H_13 locs_14 hP_15 hS_16 => ?_)
      refine lv_iconst (v := nI 0) hx hb dX5_beginCard_57 (by decide) ?_
      refine lv_istore (lv' := [(4, .int (nI 0)), (3, .int ((s_rec f n) 16)), (0, .ref o), (1, .int (en)), (2, .int (sp))]) hx hb dX5_beginCard_58 hl (by decide) rfl (fun ls hl => ?_)
      have key_17 : ∀ (k_18 : Nat) (i : Nat) (F : Nat → Int32) (H_l60 : Heap) (locs_l60 : List Loc) (hP_l60 : RP g o q F (s_recn n) H_l60) (hS_l60 : va_S (RA o q) s.heap H_l60 locs_l60) (hi : i ≤ 42) (hF : F = s_fl (upd (upd (upd (s_rec f n) 16 (nI 1)) 17 en) 18 sp) 19 (fun _ => nI 0) i) (hk_k_18 : 42 - i < k_18) (ls : Array Slot) (hl : lv_has ls 5 [(4, .int (nI i)), (3, .int ((s_rec f n) 16)), (0, .ref o), (1, .int (en)), (2, .int (sp))]), W p l e (rr 2 44) s m [.ref o, .int (en), .int (sp)].toArray below meth c H_l60 locs_l60 0 0 (MQ below (qI (RA o q) (fun r H1 => r = s_bcR f n en sp ∧ RP g o q (s_bcF f n en sp) (s_bcN n en sp) H1)) [.ref o, .int (en), .int (sp)].toArray s 0 0 (RA o q)) (F0 m 60 ls ([])) := by
        intro k_18
        induction k_18 with
        | zero => intro i F H_l60 locs_l60 hP_l60 hS_l60 hi hF hk_k_18 ls hl; exact absurd hk_k_18 (Nat.not_lt_zero _)
        | succ k_18 ih_19 =>
          intro i F H_l60 locs_l60 hP_l60 hS_l60 hi hF hk_k_18 ls hl
          refine lv_iload hx hb dX5_beginCard_60 (lvG hl rfl) ?_
          refine lv_bipush (v := nI 42) hx hb dX5_beginCard_62 (by decide) ?_
          refine n_icmp_ge (tgt := 84) hC dX5_beginCard_64 (by omega) (by omega) (by decide) (fun c_64 => ?_) (fun c_64 => ?_)
          · refine lv_iload_n hx hb dX5_beginCard_84 rfl (lvG hl rfl) ?_
            exact k_iretM hC hr hlk hS_l60 dX5_beginCard_85 (by unfold s_bcR s_bcF s_bcN s_bcU; rw [if_pos ⟨c_4, c_15⟩, if_pos ⟨c_4, c_15⟩, if_pos ⟨c_4, c_15⟩]; rw [hF, show i = 42 by omega] at hP_l60; exact ⟨rfl, hP_l60⟩)
          · refine lv_aload_n hx hb dX5_beginCard_67 rfl (lvG hl rfl) ?_
            refine r_row hC hK hP_l60 dX5_beginCard_68 ?_
            refine lv_bipush (v := nI 19) hx hb dX5_beginCard_71 (by decide) ?_
            refine lv_iload hx hb dX5_beginCard_73 (lvG hl rfl) ?_
            refine n_iadd hC dX5_beginCard_75 ?_
            refine lv_iconst (v := nI 0) hx hb dX5_beginCard_76 (by decide) ?_
            refine r_ast (k := 19 + i) hC hK hP_l60 hS_l60 (by omega) dX5_beginCard_77 (fun H_20 locs_21 hP_22 hS_23 => ?_)
            refine n_iinc (lv' := [(4, .int (nI (i + 1))), (3, .int ((s_rec f n) 16)), (0, .ref o), (1, .int (en)), (2, .int (sp))]) hC dX5_beginCard_78 hl rfl (by decide) rfl (fun ls hl => ?_)
            refine lv_goto (tgt := 60) hx hb dX5_beginCard_81 (by decide) ?_
            exact ih_19 (i + 1) (upd F (19 + i) (nI 0)) _ _ hP_22 hS_23 (by first | omega | assumption | rfl) (by rw [hF]; exact s_fl_succ _ _ _ _) (by omega) ls (lv_sub hl [0, 1, 2, 3, 4] rfl)
      exact key_17 ((42 - 0) + 1) 0 (upd (upd (upd (s_rec f n) 16 (nI 1)) 17 en) 18 sp) _ _ hP_15 hS_16 (by first | rfl | omega | assumption) ((s_fl_0 _ _ _).symm) (Nat.lt_succ_self _) ls (lv_sub hl [0, 1, 2, 3, 4] rfl)
    · refine lv_ldc (v := (-2000000001 : Int32)) hx hb hown (hts _ w_674) dX5_beginCard_18 ?_
      exact k_iretM hC hr hlk hS dX5_beginCard_20 (by unfold s_bcR s_bcF s_bcN; rw [if_neg (by grind), if_neg (by grind), if_neg (by grind)]; exact ⟨rfl, hP⟩)
def s_cnt (p : Nat → Int32) : Nat → Nat
  | 0 => 0
  | k + 1 => s_cnt p k + (if p k ≤ nI 0 then 0 else 1)
theorem s_cnt_le (p : Nat → Int32) : ∀ k, s_cnt p k ≤ k
  | 0 => Nat.le_refl 0
  | k + 1 => by
    have h := s_cnt_le p k
    unfold s_cnt
    split <;> omega
set_option maxHeartbeats 4000000 in
set_option maxRecDepth 100000 in
theorem c_X5_points (l : Launch) (g : kG) (o : Nat) (q : Nat) (f : Nat → Int32) (n : Nat) (st : Nat) (h : st ≤ 1) : PI l yX5_points cX5_points 4 (some .int) (rr 0 0) [.ref o, .int (nI st)] ((RP g o q f n)) g (nI (s_cnt (fun k => f (19 + 21 * st + k)) 21)) := by
  refine kOf (by decide) (Nat.le_of_ble_eq_true rfl) (fun p e s m below meth c ls hC hr hlk hin hK hP hl => ?_)
  have hx := hC.1
  have hb := hC.2.1
  have hml := hC.2.2.1
  have hown := hC.2.2.2.1
  have hts := hC.2.2.2.2
  have hl : lv_has ls 4 [(0, .ref o), (1, .int (nI st))] := hl
  refine lv_iconst (v := nI 0) hx hb dX5_points_0 (by decide) ?_
  refine lv_istore_n (lv' := [(2, .int (nI 0)), (0, .ref o), (1, .int (nI st))]) hx hb dX5_points_1 rfl hl (by decide) rfl (fun ls hl => ?_)
  refine lv_iconst (v := nI 0) hx hb dX5_points_2 (by decide) ?_
  refine lv_istore_n (lv' := [(3, .int (nI 0)), (2, .int (nI 0)), (0, .ref o), (1, .int (nI st))]) hx hb dX5_points_3 rfl hl (by decide) rfl (fun ls hl => ?_)
  have key_1 : ∀ (k_2 : Nat) (i : Nat) (cn : Nat)  (hi : i ≤ 21) (hs : cn = s_cnt (fun k => f (19 + 21 * st + k)) i) (hk_k_2 : 21 - i < k_2) (ls : Array Slot) (hl : lv_has ls 4 [(3, .int (nI i)), (2, .int (nI cn)), (0, .ref o), (1, .int (nI st))]), W p l e (rr 0 0) s m [.ref o, .int (nI st)].toArray below meth c s.heap [] 0 0 (MQ below (vp_Si (fun r => r = nI (s_cnt (fun k => f (19 + 21 * st + k)) 21))) [.ref o, .int (nI st)].toArray s 0 0 (fun _ => False)) (F0 m 4 ls ([])) := by
    intro k_2
    induction k_2 with
    | zero => intro i cn hi hs hk_k_2 ls hl; exact absurd hk_k_2 (Nat.not_lt_zero _)
    | succ k_2 ih_3 =>
      intro i cn hi hs hk_k_2 ls hl
      refine lv_iload_n hx hb dX5_points_4 rfl (lvG hl rfl) ?_
      refine lv_bipush (v := nI 21) hx hb dX5_points_5 (by decide) ?_
      refine n_icmp_ge (tgt := 41) hC dX5_points_7 (by omega) (by omega) (by decide) (fun c_7 => ?_) (fun c_7 => ?_)
      · refine lv_iload_n hx hb dX5_points_41 rfl (lvG hl rfl) ?_
        exact k_iret hC hr hlk dX5_points_42 (by rw [hs, show i = 21 by omega])
      · refine lv_iload_n hx hb dX5_points_10 rfl (lvG hl rfl) ?_
        refine lv_aload_n hx hb dX5_points_11 rfl (lvG hl rfl) ?_
        refine r_row hC hK hP dX5_points_12 ?_
        refine lv_bipush (v := nI 19) hx hb dX5_points_15 (by decide) ?_
        refine lv_bipush (v := nI 21) hx hb dX5_points_17 (by decide) ?_
        refine lv_iload_n hx hb dX5_points_19 rfl (lvG hl rfl) ?_
        refine n_imul hC dX5_points_20 ?_
        refine n_iadd hC dX5_points_21 ?_
        refine lv_iload_n hx hb dX5_points_22 rfl (lvG hl rfl) ?_
        refine n_iadd hC dX5_points_23 ?_
        refine r_ald (k := 19 + (21 * st) + i) hC hK hP (by omega) dX5_points_24 ?_
        refine z_if_le (tgt := 32) hC dX5_points_25 (by decide) (fun c_25 => ?_) (fun c_25 => ?_)
        · refine lv_iconst (v := nI 0) hx hb dX5_points_32 (by decide) ?_
          refine n_iadd hC dX5_points_33 ?_
          refine lv_istore_n (lv' := [(2, .int (nI (cn + 0))), (3, .int (nI i)), (0, .ref o), (1, .int (nI st))]) hx hb dX5_points_34 rfl hl (by decide) rfl (fun ls hl => ?_)
          refine n_iinc (lv' := [(3, .int (nI (i + 1))), (2, .int (nI (cn + 0))), (0, .ref o), (1, .int (nI st))]) hC dX5_points_35 hl rfl (by decide) rfl (fun ls hl => ?_)
          refine lv_goto (tgt := 4) hx hb dX5_points_38 (by decide) ?_
          exact ih_3 (i + 1) (cn + 0)  (by first | omega | assumption | rfl) (by unfold s_cnt; first | (rw [if_neg c_25, ← hs]) | (rw [if_pos c_25, ← hs])) (by omega) ls (lv_sub hl [0, 1, 2, 3] rfl)
        · refine lv_iconst (v := nI 1) hx hb dX5_points_28 (by decide) ?_
          refine lv_goto (tgt := 33) hx hb dX5_points_29 (by decide) ?_
          refine n_iadd hC dX5_points_33 ?_
          refine lv_istore_n (lv' := [(2, .int (nI (cn + 1))), (3, .int (nI i)), (0, .ref o), (1, .int (nI st))]) hx hb dX5_points_34 rfl hl (by decide) rfl (fun ls hl => ?_)
          refine n_iinc (lv' := [(3, .int (nI (i + 1))), (2, .int (nI (cn + 1))), (0, .ref o), (1, .int (nI st))]) hC dX5_points_35 hl rfl (by decide) rfl (fun ls hl => ?_)
          refine lv_goto (tgt := 4) hx hb dX5_points_38 (by decide) ?_
          exact ih_3 (i + 1) (cn + 1)  (by first | omega | assumption | rfl) (by unfold s_cnt; first | (rw [if_neg c_25, ← hs]) | (rw [if_pos c_25, ← hs])) (by omega) ls (lv_sub hl [0, 1, 2, 3] rfl)
  exact key_1 ((21 - 0) + 1) 0 0  (by first | rfl | omega | assumption) (by first | rfl | omega | assumption) (Nat.lt_succ_self _) ls (lv_sub hl [0, 1, 2, 3] rfl)
abbrev s_okP (st sa pr : Int32) : Prop := (nI 0 ≤ st ∧ st ≤ nI 1) ∧ (nI 0 ≤ sa ∧ sa ≤ nI 20) ∧ (nI 0 ≤ pr ∧ pr ≤ nI 5000)
def s_spU (f : Nat → Int32) (j k : Nat) (pr : Int32) : Nat → Int32 := upd f (19 + 21 * j + k) (pr + nI 1)
def s_spR (f : Nat → Int32) (n : Nat) (st sa pr : Int32) : Int32 := if s_okP st sa pr then (if f 16 = nI 0 then cILL else nI (s_cnt (fun k => s_spU (s_rec f n) st.toNatClampNeg sa.toNatClampNeg pr (19 + 21 * st.toNatClampNeg + k)) 21)) else cINV
def s_spF (f : Nat → Int32) (n : Nat) (st sa pr : Int32) : Nat → Int32 := if s_okP st sa pr ∧ ¬ f 16 = nI 0 then s_spU (s_rec f n) st.toNatClampNeg sa.toNatClampNeg pr else f
def s_spN (f : Nat → Int32) (n : Nat) (st sa pr : Int32) : Nat := if s_okP st sa pr ∧ ¬ f 16 = nI 0 then s_recn n else n
theorem L_X5_X5_points : LnkV RX5 38 yX5_points cX5_points 4 (some .int) 1 := ⟨w_718, w_720, w_28, w_61, w_721, ⟨by decide +kernel, by decide +kernel⟩, by decide +kernel⟩
set_option maxHeartbeats 4000000 in
set_option maxRecDepth 100000 in
theorem c_X5_setPoint (l : Launch) (g : kG) (o : Nat) (q : Nat) (f : Nat → Int32) (n : Nat) (st : Int32) (sa : Int32) (pr : Int32) : MI l yX5_setPoint cX5_setPoint 4 (some .int) (rr 2 44) [.ref o, .int (st), .int (sa), .int (pr)] ((RP g o q f n)) g 0 0 (RA o q) (fun r H1 => r = s_spR f n st sa pr ∧ RP g o q (s_spF f n st sa pr) (s_spN f n st sa pr) H1) := by
  refine kOf (by decide) (Nat.le_of_ble_eq_true rfl) (fun p e s m below meth c ls hC hr hlk hin hK hP hl => ?_)
  have hx := hC.1
  have hb := hC.2.1
  have hml := hC.2.2.1
  have hown := hC.2.2.2.1
  have hts := hC.2.2.2.2
  have hl : lv_has ls 4 [(0, .ref o), (1, .int (st)), (2, .int (sa)), (3, .int (pr))] := hl
  have hS : va_S (RA o q) s.heap s.heap [] := va_S.rf
  refine lv_iload_n hx hb dX5_setPoint_0 rfl (lvG hl rfl) ?_
  refine lv_iconst (v := nI 0) hx hb dX5_setPoint_1 (by decide) ?_
  refine lv_iconst (v := nI 1) hx hb dX5_setPoint_2 (by decide) ?_
  refine k_callPI (k_goS (rest := []) hC hK (c_X5_in l g st (nI 0) (nI 1)) L_X5_X5_in (⟨⟨Nat.le_of_ble_eq_true rfl, Nat.le_of_ble_eq_true rfl⟩, ⟨rfl, rfl⟩, ⟨Nat.le_of_ble_eq_true rfl, Nat.le_of_ble_eq_true rfl⟩⟩) (trivial) rfl hl.1 rfl (Nat.le_of_ble_eq_true rfl) dX5_setPoint_3) ?_
  refine b_ifeq (tgt := 30) hC dX5_setPoint_6 (by decide) (fun c_6 => ?_) (fun c_6 => ?_)
  · refine lv_ldc (v := (-2000000001 : Int32)) hx hb hown (hts _ w_674) dX5_setPoint_30 ?_
    exact k_iretM hC hr hlk hS dX5_setPoint_32 (by have hno : ¬ s_okP st sa pr := (by grind); unfold s_spR s_spF s_spN; rw [if_neg hno, if_neg (fun q => hno q.1), if_neg (fun q => hno q.1)]; exact ⟨rfl, hP⟩)
  · refine lv_iload_n hx hb dX5_setPoint_9 rfl (lvG hl rfl) ?_
    refine lv_iconst (v := nI 0) hx hb dX5_setPoint_10 (by decide) ?_
    refine lv_bipush (v := nI 20) hx hb dX5_setPoint_11 (by decide) ?_
    refine k_callPI (k_goS (rest := []) hC hK (c_X5_in l g sa (nI 0) (nI 20)) L_X5_X5_in (⟨⟨Nat.le_of_ble_eq_true rfl, Nat.le_of_ble_eq_true rfl⟩, ⟨rfl, rfl⟩, ⟨Nat.le_of_ble_eq_true rfl, Nat.le_of_ble_eq_true rfl⟩⟩) (trivial) rfl hl.1 rfl (Nat.le_of_ble_eq_true rfl) dX5_setPoint_13) ?_
    refine b_ifeq (tgt := 30) hC dX5_setPoint_16 (by decide) (fun c_16 => ?_) (fun c_16 => ?_)
    · refine lv_ldc (v := (-2000000001 : Int32)) hx hb hown (hts _ w_674) dX5_setPoint_30 ?_
      exact k_iretM hC hr hlk hS dX5_setPoint_32 (by have hno : ¬ s_okP st sa pr := (by grind); unfold s_spR s_spF s_spN; rw [if_neg hno, if_neg (fun q => hno q.1), if_neg (fun q => hno q.1)]; exact ⟨rfl, hP⟩)
    · refine lv_iload_n hx hb dX5_setPoint_19 rfl (lvG hl rfl) ?_
      refine lv_iconst (v := nI 0) hx hb dX5_setPoint_20 (by decide) ?_
      refine lv_sipush (v := nI 5000) hx hb dX5_setPoint_21 (by decide) ?_
      refine k_callPI (k_goS (rest := []) hC hK (c_X5_in l g pr (nI 0) (nI 5000)) L_X5_X5_in (⟨⟨Nat.le_of_ble_eq_true rfl, Nat.le_of_ble_eq_true rfl⟩, ⟨rfl, rfl⟩, ⟨Nat.le_of_ble_eq_true rfl, Nat.le_of_ble_eq_true rfl⟩⟩) (trivial) rfl hl.1 rfl (Nat.le_of_ble_eq_true rfl) dX5_setPoint_24) ?_
      refine b_ifne (tgt := 33) hC dX5_setPoint_27 (by decide) (fun c_27 => ?_) (fun c_27 => ?_)
      · refine lv_aload_n hx hb dX5_setPoint_33 rfl (lvG hl rfl) ?_
        refine r_row hC hK hP dX5_setPoint_34 ?_
        refine lv_bipush (v := nI 16) hx hb dX5_setPoint_37 (by decide) ?_
        refine r_ald (k := 16) hC hK hP (by omega) dX5_setPoint_39 ?_
        refine z_if_ne (tgt := 46) hC dX5_setPoint_40 (by decide) (fun c_40 => ?_) (fun c_40 => ?_)
        · obtain ⟨j, h_j, rfl⟩ := in_nat (by decide) (c_6)
          have e_j : (nI j).toNatClampNeg = j := nI_clamp (by omega)
          obtain ⟨k, h_k, rfl⟩ := in_nat (by decide) (c_16)
          have e_k : (nI k).toNatClampNeg = k := nI_clamp (by omega)
          refine lv_aload_n hx hb dX5_setPoint_46 rfl (lvG hl rfl) ?_
          refine k_callMV0 (k_goV (rest := []) hC hK (c_X5_record l g o q f n) L_X5_X5_record (⟨⟨Nat.le_of_ble_eq_true rfl, Nat.le_of_ble_eq_true rfl⟩, ⟨rfl, rfl⟩, ⟨Nat.le_of_ble_eq_true rfl, Nat.le_of_ble_eq_true rfl⟩⟩) (hP.recv hK) (hP) rfl hl.1 rfl (Nat.le_of_ble_eq_true rfl) dX5_setPoint_47) hS (fun _ h => h) (fun H_1 locs_2 hP_3 _ _ hS_4 => ?_)
          refine lv_aload_n hx hb dX5_setPoint_50 rfl (lvG hl rfl) ?_
          refine r_row hC hK hP_3 dX5_setPoint_51 ?_
          refine lv_bipush (v := nI 19) hx hb dX5_setPoint_54 (by decide) ?_
          refine lv_bipush (v := nI 21) hx hb dX5_setPoint_56 (by decide) ?_
          refine lv_iload_n hx hb dX5_setPoint_58 rfl (lvG hl rfl) ?_
          refine n_imul hC dX5_setPoint_59 ?_
          refine n_iadd hC dX5_setPoint_60 ?_
          refine lv_iload_n hx hb dX5_setPoint_61 rfl (lvG hl rfl) ?_
          refine n_iadd hC dX5_setPoint_62 ?_
          refine lv_iload_n hx hb dX5_setPoint_63 rfl (lvG hl rfl) ?_
          refine lv_iconst (v := nI 1) hx hb dX5_setPoint_64 (by decide) ?_
          refine lv_iadd hx hb dX5_setPoint_65 ?_
          refine r_ast (k := 19 + (21 * j) + k) hC hK hP_3 hS_4 (by omega) dX5_setPoint_66 (fun H_5 locs_6 hP_7 hS_8 => ?_)
          refine lv_aload_n hx hb dX5_setPoint_67 rfl (lvG hl rfl) ?_
          refine lv_iload_n hx hb dX5_setPoint_68 rfl (lvG hl rfl) ?_
          refine k_callPI (k_goV (rest := []) hC hK (c_X5_points l g o q (upd (s_rec f n) (19 + (21 * j) + k) (pr + (nI 1))) (s_recn n) j (by omega)) L_X5_X5_points (⟨⟨Nat.le_of_ble_eq_true rfl, Nat.le_of_ble_eq_true rfl⟩, ⟨rfl, rfl⟩, ⟨Nat.le_of_ble_eq_true rfl, Nat.le_of_ble_eq_true rfl⟩⟩) (hP_7.recv hK) (hP_7) rfl hl.1 rfl (Nat.le_of_ble_eq_true rfl) dX5_setPoint_69) ?_
          exact k_iretM hC hr hlk hS_8 dX5_setPoint_72 (by unfold s_spR s_spF s_spN; rw [if_pos ⟨c_6, c_16, c_27⟩, if_neg c_40, if_pos ⟨⟨c_6, c_16, c_27⟩, c_40⟩, if_pos ⟨⟨c_6, c_16, c_27⟩, c_40⟩, e_j, e_k]; exact ⟨rfl, hP_7⟩)
        · refine lv_ldc (v := (-2000000002 : Int32)) hx hb hown (hts _ w_658) dX5_setPoint_43 ?_
          exact k_iretM hC hr hlk hS dX5_setPoint_45 (by unfold s_spR s_spF s_spN; rw [if_pos ⟨c_6, c_16, c_27⟩, if_pos c_40, if_neg (fun q => q.2 c_40), if_neg (fun q => q.2 c_40)]; exact ⟨rfl, hP⟩)
      · refine lv_ldc (v := (-2000000001 : Int32)) hx hb hown (hts _ w_674) dX5_setPoint_30 ?_
        exact k_iretM hC hr hlk hS dX5_setPoint_32 (by have hno : ¬ s_okP st sa pr := (by grind); unfold s_spR s_spF s_spN; rw [if_neg hno, if_neg (fun q => hno q.1), if_neg (fun q => hno q.1)]; exact ⟨rfl, hP⟩)
def s_dn (p : Nat → Int32) : Nat → Nat
  | 0 => 0
  | k + 1 => if p k = nI 0 then s_dn p k else k + 1
def s_up (p : Nat → Int32) : Nat → Nat → Nat
  | 0, k => k
  | m + 1, k => if p k = nI 0 then s_up p m (k + 1) else k
theorem s_dn_le (p : Nat → Int32) : ∀ k, s_dn p k ≤ k
  | 0 => Nat.le_refl 0
  | k + 1 => by
    have h := s_dn_le p k
    unfold s_dn
    split <;> omega
theorem s_up_in (p : Nat → Int32) : ∀ m k, k ≤ s_up p m k ∧ s_up p m k ≤ k + m
  | 0, k => ⟨Nat.le_refl _, Nat.le_refl _⟩
  | m + 1, k => by
    have h := s_up_in p m (k + 1)
    unfold s_up
    split <;> omega
def s_drw (p : Nat → Int32) (st d u : Nat) : Int32 := if d = 0 ∨ 20 < u ∨ d = u + 1 then p (if d = 0 then u else d - 1) - nI 1 else p (d - 1) - nI 1 + (s_quo ((p u - p (d - 1)).toInt64 * (nI (st - (d - 1))).toInt64) (nI (u - (d - 1))).toInt64).toInt32
def s_dr (p : Nat → Int32) (st : Nat) : Int32 := s_drw p st (s_dn p (st + 1)) (s_up p (21 - st) st)
theorem l_ne0 {n : Nat} (h0 : 0 < n) (h : n < 2 ^ 31) : ¬ (nI n).toInt64 = 0 := by
  rw [nI_l h]
  intro e
  have := (lN_eq h (show 0 < 2 ^ 31 by decide)).mp (show lN n = lN 0 from e)
  omega
theorem pd_lt {x : Nat} (h : x < 2 ^ 31) : nI x + (-1) < 0 ↔ x = 0 := by
  cases x with
  | zero => exact ⟨fun _ => rfl, fun _ => by decide⟩
  | succ y => rw [pk_m1]; exact ⟨fun q => absurd q (nI_pos (by omega)), fun q => absurd q (by omega)⟩
theorem pd_ge {x : Nat} (h : x < 2 ^ 31) : 0 ≤ nI x + (-1) ↔ ¬ x = 0 := by
  rw [← Int32.not_lt, pd_lt h]
end
section
theorem i_vc : Claimed_1_1 ∧ Claimed_1_2 := sorry
end
