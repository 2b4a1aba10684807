section
-- ===== PART A: goes FIRST, ahead of the names: the tables' words, and 'selects' of the private methods out of them =====
/-- a private method of a class that the tables say can be made, by its rows of tables_1 -/
def lw_okq (q : MethodName × Nat) : Prop := (q.1.cls ≠ "java/lang/invoke/MethodHandle" ∧ q.1.cls ≠ "java/lang/invoke/VarHandle") ∧ Cond.instantiable q.1.cls q.2 ∈ tables_1 ∧ Cond.privateMethod q.1 ∈ tables_1 ∧ Cond.instanceMethod q.1 ∈ tables_1
theorem lw_p0 : lw_okq (⟨"FourPhases", "accept", "(I)I"⟩, 6) := ⟨⟨by decide +kernel, by decide +kernel⟩, List.mem_of_getElem? (i := 12) (by decide +kernel), List.mem_of_getElem? (i := 307) (by decide +kernel), List.mem_of_getElem? (i := 308) (by decide +kernel)⟩
theorem lw_p1 : lw_okq (⟨"FourPhases$History", "dropOldest", "()V"⟩, 2) := ⟨⟨by decide +kernel, by decide +kernel⟩, List.mem_of_getElem? (i := 197) (by decide +kernel), List.mem_of_getElem? (i := 315) (by decide +kernel), List.mem_of_getElem? (i := 316) (by decide +kernel)⟩
theorem lw_p2 : lw_okq (⟨"FourPhases$Line", "letOneGo", "()I"⟩, 12) := ⟨⟨by decide +kernel, by decide +kernel⟩, List.mem_of_getElem? (i := 20) (by decide +kernel), List.mem_of_getElem? (i := 332) (by decide +kernel), List.mem_of_getElem? (i := 333) (by decide +kernel)⟩
theorem lw_p3 : lw_okq (⟨"FourPhases$Line", "chosenSender", "()I"⟩, 12) := ⟨⟨by decide +kernel, by decide +kernel⟩, List.mem_of_getElem? (i := 20) (by decide +kernel), List.mem_of_getElem? (i := 336) (by decide +kernel), List.mem_of_getElem? (i := 337) (by decide +kernel)⟩
theorem lw_p4 : lw_okq (⟨"FourPhases$Line", "offer", "(II)V"⟩, 12) := ⟨⟨by decide +kernel, by decide +kernel⟩, List.mem_of_getElem? (i := 20) (by decide +kernel), List.mem_of_getElem? (i := 344) (by decide +kernel), List.mem_of_getElem? (i := 345) (by decide +kernel)⟩
theorem lw_p5 : lw_okq (⟨"FourPhases$Line", "makeRequest", "(III)V"⟩, 12) := ⟨⟨by decide +kernel, by decide +kernel⟩, List.mem_of_getElem? (i := 20) (by decide +kernel), List.mem_of_getElem? (i := 352) (by decide +kernel), List.mem_of_getElem? (i := 353) (by decide +kernel)⟩
theorem lw_p6 : lw_okq (⟨"FourPhases$Line", "letRequestArrive", "(II)V"⟩, 12) := ⟨⟨by decide +kernel, by decide +kernel⟩, List.mem_of_getElem? (i := 20) (by decide +kernel), List.mem_of_getElem? (i := 397) (by decide +kernel), List.mem_of_getElem? (i := 398) (by decide +kernel)⟩
theorem lw_p7 : lw_okq (⟨"FourPhases$Line", "makeAnswer", "(III)V"⟩, 12) := ⟨⟨by decide +kernel, by decide +kernel⟩, List.mem_of_getElem? (i := 20) (by decide +kernel), List.mem_of_getElem? (i := 401) (by decide +kernel), List.mem_of_getElem? (i := 402) (by decide +kernel)⟩
theorem lw_p8 : lw_okq (⟨"FourPhases$Line", "noteWord", "(I)V"⟩, 12) := ⟨⟨by decide +kernel, by decide +kernel⟩, List.mem_of_getElem? (i := 20) (by decide +kernel), List.mem_of_getElem? (i := 405) (by decide +kernel), List.mem_of_getElem? (i := 406) (by decide +kernel)⟩
theorem lw_p9 : lw_okq (⟨"FourPhases$Line", "takeWord", "(I)V"⟩, 12) := ⟨⟨by decide +kernel, by decide +kernel⟩, List.mem_of_getElem? (i := 20) (by decide +kernel), List.mem_of_getElem? (i := 413) (by decide +kernel), List.mem_of_getElem? (i := 414) (by decide +kernel)⟩
theorem lw_p10 : lw_okq (⟨"FourPhases$Line", "letAnswerArrive", "(II)V"⟩, 12) := ⟨⟨by decide +kernel, by decide +kernel⟩, List.mem_of_getElem? (i := 20) (by decide +kernel), List.mem_of_getElem? (i := 417) (by decide +kernel), List.mem_of_getElem? (i := 418) (by decide +kernel)⟩
theorem lw_p11 : lw_okq (⟨"FourPhases$Text", "readOrder", "()Z"⟩, 7) := ⟨⟨by decide +kernel, by decide +kernel⟩, List.mem_of_getElem? (i := 214) (by decide +kernel), List.mem_of_getElem? (i := 461) (by decide +kernel), List.mem_of_getElem? (i := 462) (by decide +kernel)⟩
theorem lw_p12 : lw_okq (⟨"FourPhases$Text", "current", "()I"⟩, 7) := ⟨⟨by decide +kernel, by decide +kernel⟩, List.mem_of_getElem? (i := 214) (by decide +kernel), List.mem_of_getElem? (i := 465) (by decide +kernel), List.mem_of_getElem? (i := 466) (by decide +kernel)⟩
theorem lw_p13 : lw_okq (⟨"FourPhases$Text", "readDigit", "(I)I"⟩, 7) := ⟨⟨by decide +kernel, by decide +kernel⟩, List.mem_of_getElem? (i := 214) (by decide +kernel), List.mem_of_getElem? (i := 469) (by decide +kernel), List.mem_of_getElem? (i := 470) (by decide +kernel)⟩
theorem lw_p14 : lw_okq (⟨"FourPhases$Text", "digitOf", "(I)I"⟩, 7) := ⟨⟨by decide +kernel, by decide +kernel⟩, List.mem_of_getElem? (i := 214) (by decide +kernel), List.mem_of_getElem? (i := 473) (by decide +kernel), List.mem_of_getElem? (i := 474) (by decide +kernel)⟩
theorem lw_p15 : lw_okq (⟨"FourPhases$Text", "store", "(IIII)Z"⟩, 7) := ⟨⟨by decide +kernel, by decide +kernel⟩, List.mem_of_getElem? (i := 214) (by decide +kernel), List.mem_of_getElem? (i := 477) (by decide +kernel), List.mem_of_getElem? (i := 478) (by decide +kernel)⟩
def lw_privs_1 : List (MethodName × Nat) := [(⟨"FourPhases", "accept", "(I)I"⟩, 6), (⟨"FourPhases$History", "dropOldest", "()V"⟩, 2), (⟨"FourPhases$Line", "letOneGo", "()I"⟩, 12), (⟨"FourPhases$Line", "chosenSender", "()I"⟩, 12), (⟨"FourPhases$Line", "offer", "(II)V"⟩, 12), (⟨"FourPhases$Line", "makeRequest", "(III)V"⟩, 12), (⟨"FourPhases$Line", "letRequestArrive", "(II)V"⟩, 12), (⟨"FourPhases$Line", "makeAnswer", "(III)V"⟩, 12), (⟨"FourPhases$Line", "noteWord", "(I)V"⟩, 12), (⟨"FourPhases$Line", "takeWord", "(I)V"⟩, 12), (⟨"FourPhases$Line", "letAnswerArrive", "(II)V"⟩, 12), (⟨"FourPhases$Text", "readOrder", "()Z"⟩, 7), (⟨"FourPhases$Text", "current", "()I"⟩, 7), (⟨"FourPhases$Text", "readDigit", "(I)I"⟩, 7), (⟨"FourPhases$Text", "digitOf", "(I)I"⟩, 7), (⟨"FourPhases$Text", "store", "(IIII)Z"⟩, 7)]
theorem lw_r1 : ∀ q ∈ lw_privs_1, lw_okq q := List.forall_mem_cons.mpr ⟨lw_p0, List.forall_mem_cons.mpr ⟨lw_p1, List.forall_mem_cons.mpr ⟨lw_p2, List.forall_mem_cons.mpr ⟨lw_p3, List.forall_mem_cons.mpr ⟨lw_p4, List.forall_mem_cons.mpr ⟨lw_p5, List.forall_mem_cons.mpr ⟨lw_p6, List.forall_mem_cons.mpr ⟨lw_p7, List.forall_mem_cons.mpr ⟨lw_p8, List.forall_mem_cons.mpr ⟨lw_p9, List.forall_mem_cons.mpr ⟨lw_p10, List.forall_mem_cons.mpr ⟨lw_p11, List.forall_mem_cons.mpr ⟨lw_p12, List.forall_mem_cons.mpr ⟨lw_p13, List.forall_mem_cons.mpr ⟨lw_p14, List.forall_mem_cons.mpr ⟨lw_p15, fun _ h => absurd h List.not_mem_nil⟩⟩⟩⟩⟩⟩⟩⟩⟩⟩⟩⟩⟩⟩⟩⟩
theorem lw_p16 : lw_okq (⟨"FourPhases$Text", "readNumber", "(I)I"⟩, 7) := ⟨⟨by decide +kernel, by decide +kernel⟩, List.mem_of_getElem? (i := 214) (by decide +kernel), List.mem_of_getElem? (i := 481) (by decide +kernel), List.mem_of_getElem? (i := 482) (by decide +kernel)⟩
theorem lw_p17 : lw_okq (⟨"FourPhases$Text", "readDelay", "(I)Z"⟩, 7) := ⟨⟨by decide +kernel, by decide +kernel⟩, List.mem_of_getElem? (i := 214) (by decide +kernel), List.mem_of_getElem? (i := 485) (by decide +kernel), List.mem_of_getElem? (i := 486) (by decide +kernel)⟩
theorem lw_p18 : lw_okq (⟨"FourPhases$Text", "readSign", "(I)Z"⟩, 7) := ⟨⟨by decide +kernel, by decide +kernel⟩, List.mem_of_getElem? (i := 214) (by decide +kernel), List.mem_of_getElem? (i := 489) (by decide +kernel), List.mem_of_getElem? (i := 490) (by decide +kernel)⟩
theorem lw_p19 : lw_okq (⟨"FourPhases", "settleTrialWithLead", "(I)V"⟩, 6) := ⟨⟨by decide +kernel, by decide +kernel⟩, List.mem_of_getElem? (i := 12) (by decide +kernel), List.mem_of_getElem? (i := 555) (by decide +kernel), List.mem_of_getElem? (i := 556) (by decide +kernel)⟩
theorem lw_p20 : lw_okq (⟨"FourPhases", "wrongInTrial", "()I"⟩, 6) := ⟨⟨by decide +kernel, by decide +kernel⟩, List.mem_of_getElem? (i := 12) (by decide +kernel), List.mem_of_getElem? (i := 559) (by decide +kernel), List.mem_of_getElem? (i := 560) (by decide +kernel)⟩
theorem lw_p21 : lw_okq (⟨"FourPhases", "quietTimeWithLess", "(II)I"⟩, 6) := ⟨⟨by decide +kernel, by decide +kernel⟩, List.mem_of_getElem? (i := 12) (by decide +kernel), List.mem_of_getElem? (i := 575) (by decide +kernel), List.mem_of_getElem? (i := 576) (by decide +kernel)⟩
theorem lw_p22 : lw_okq (⟨"FourPhasesModel", "clean", "(I)V"⟩, 12) := ⟨⟨by decide +kernel, by decide +kernel⟩, List.mem_of_getElem? (i := 579) (by decide +kernel), List.mem_of_getElem? (i := 585) (by decide +kernel), List.mem_of_getElem? (i := 586) (by decide +kernel)⟩
theorem lw_p23 : lw_okq (⟨"FourPhasesModel", "record", "()V"⟩, 12) := ⟨⟨by decide +kernel, by decide +kernel⟩, List.mem_of_getElem? (i := 579) (by decide +kernel), List.mem_of_getElem? (i := 638) (by decide +kernel), List.mem_of_getElem? (i := 639) (by decide +kernel)⟩
theorem lw_p24 : lw_okq (⟨"FourPhasesModel", "putAside", "()V"⟩, 12) := ⟨⟨by decide +kernel, by decide +kernel⟩, List.mem_of_getElem? (i := 579) (by decide +kernel), List.mem_of_getElem? (i := 642) (by decide +kernel), List.mem_of_getElem? (i := 643) (by decide +kernel)⟩
theorem lw_p25 : lw_okq (⟨"FourPhasesModel", "push", "()V"⟩, 12) := ⟨⟨by decide +kernel, by decide +kernel⟩, List.mem_of_getElem? (i := 579) (by decide +kernel), List.mem_of_getElem? (i := 646) (by decide +kernel), List.mem_of_getElem? (i := 647) (by decide +kernel)⟩
theorem lw_p26 : lw_okq (⟨"FourPhasesModel", "fullStages", "()I"⟩, 12) := ⟨⟨by decide +kernel, by decide +kernel⟩, List.mem_of_getElem? (i := 579) (by decide +kernel), List.mem_of_getElem? (i := 657) (by decide +kernel), List.mem_of_getElem? (i := 658) (by decide +kernel)⟩
theorem lw_p27 : lw_okq (⟨"FourPhasesModel", "adds", "(II)I"⟩, 12) := ⟨⟨by decide +kernel, by decide +kernel⟩, List.mem_of_getElem? (i := 579) (by decide +kernel), List.mem_of_getElem? (i := 665) (by decide +kernel), List.mem_of_getElem? (i := 666) (by decide +kernel)⟩
theorem lw_p28 : lw_okq (⟨"FourPhasesModel", "letGo", "()V"⟩, 12) := ⟨⟨by decide +kernel, by decide +kernel⟩, List.mem_of_getElem? (i := 579) (by decide +kernel), List.mem_of_getElem? (i := 672) (by decide +kernel), List.mem_of_getElem? (i := 673) (by decide +kernel)⟩
theorem lw_p29 : lw_okq (⟨"FourPhasesModel", "offer", "(II)V"⟩, 12) := ⟨⟨by decide +kernel, by decide +kernel⟩, List.mem_of_getElem? (i := 579) (by decide +kernel), List.mem_of_getElem? (i := 676) (by decide +kernel), List.mem_of_getElem? (i := 677) (by decide +kernel)⟩
theorem lw_p30 : lw_okq (⟨"FourPhasesModel", "setEnd", "(III)V"⟩, 12) := ⟨⟨by decide +kernel, by decide +kernel⟩, List.mem_of_getElem? (i := 579) (by decide +kernel), List.mem_of_getElem? (i := 680) (by decide +kernel), List.mem_of_getElem? (i := 681) (by decide +kernel)⟩
theorem lw_p31 : lw_okq (⟨"FourPhasesModel", "make", "(IIII)V"⟩, 12) := ⟨⟨by decide +kernel, by decide +kernel⟩, List.mem_of_getElem? (i := 579) (by decide +kernel), List.mem_of_getElem? (i := 684) (by decide +kernel), List.mem_of_getElem? (i := 685) (by decide +kernel)⟩
def lw_privs_2 : List (MethodName × Nat) := [(⟨"FourPhases$Text", "readNumber", "(I)I"⟩, 7), (⟨"FourPhases$Text", "readDelay", "(I)Z"⟩, 7), (⟨"FourPhases$Text", "readSign", "(I)Z"⟩, 7), (⟨"FourPhases", "settleTrialWithLead", "(I)V"⟩, 6), (⟨"FourPhases", "wrongInTrial", "()I"⟩, 6), (⟨"FourPhases", "quietTimeWithLess", "(II)I"⟩, 6), (⟨"FourPhasesModel", "clean", "(I)V"⟩, 12), (⟨"FourPhasesModel", "record", "()V"⟩, 12), (⟨"FourPhasesModel", "putAside", "()V"⟩, 12), (⟨"FourPhasesModel", "push", "()V"⟩, 12), (⟨"FourPhasesModel", "fullStages", "()I"⟩, 12), (⟨"FourPhasesModel", "adds", "(II)I"⟩, 12), (⟨"FourPhasesModel", "letGo", "()V"⟩, 12), (⟨"FourPhasesModel", "offer", "(II)V"⟩, 12), (⟨"FourPhasesModel", "setEnd", "(III)V"⟩, 12), (⟨"FourPhasesModel", "make", "(IIII)V"⟩, 12)]
theorem lw_r2 : ∀ q ∈ lw_privs_2, lw_okq q := List.forall_mem_cons.mpr ⟨lw_p16, List.forall_mem_cons.mpr ⟨lw_p17, List.forall_mem_cons.mpr ⟨lw_p18, List.forall_mem_cons.mpr ⟨lw_p19, List.forall_mem_cons.mpr ⟨lw_p20, List.forall_mem_cons.mpr ⟨lw_p21, List.forall_mem_cons.mpr ⟨lw_p22, List.forall_mem_cons.mpr ⟨lw_p23, List.forall_mem_cons.mpr ⟨lw_p24, List.forall_mem_cons.mpr ⟨lw_p25, List.forall_mem_cons.mpr ⟨lw_p26, List.forall_mem_cons.mpr ⟨lw_p27, List.forall_mem_cons.mpr ⟨lw_p28, List.forall_mem_cons.mpr ⟨lw_p29, List.forall_mem_cons.mpr ⟨lw_p30, List.forall_mem_cons.mpr ⟨lw_p31, fun _ h => absurd h List.not_mem_nil⟩⟩⟩⟩⟩⟩⟩⟩⟩⟩⟩⟩⟩⟩⟩⟩
theorem lw_p32 : lw_okq (⟨"FourPhasesModel", "recorded", "(I)I"⟩, 12) := ⟨⟨by decide +kernel, by decide +kernel⟩, List.mem_of_getElem? (i := 579) (by decide +kernel), List.mem_of_getElem? (i := 688) (by decide +kernel), List.mem_of_getElem? (i := 689) (by decide +kernel)⟩
theorem lw_p33 : lw_okq (⟨"FourPhasesModel", "runs", "(I)I"⟩, 12) := ⟨⟨by decide +kernel, by decide +kernel⟩, List.mem_of_getElem? (i := 579) (by decide +kernel), List.mem_of_getElem? (i := 696) (by decide +kernel), List.mem_of_getElem? (i := 697) (by decide +kernel)⟩
theorem lw_p34 : lw_okq (⟨"FourPhasesModel", "goTo", "(I)V"⟩, 12) := ⟨⟨by decide +kernel, by decide +kernel⟩, List.mem_of_getElem? (i := 579) (by decide +kernel), List.mem_of_getElem? (i := 701) (by decide +kernel), List.mem_of_getElem? (i := 702) (by decide +kernel)⟩
theorem lw_p35 : lw_okq (⟨"FourPhasesModel", "nextChange", "()I"⟩, 12) := ⟨⟨by decide +kernel, by decide +kernel⟩, List.mem_of_getElem? (i := 579) (by decide +kernel), List.mem_of_getElem? (i := 705) (by decide +kernel), List.mem_of_getElem? (i := 706) (by decide +kernel)⟩
theorem lw_p36 : lw_okq (⟨"FourPhasesModel", "whenOf", "(I)I"⟩, 12) := ⟨⟨by decide +kernel, by decide +kernel⟩, List.mem_of_getElem? (i := 579) (by decide +kernel), List.mem_of_getElem? (i := 709) (by decide +kernel), List.mem_of_getElem? (i := 710) (by decide +kernel)⟩
theorem lw_p37 : lw_okq (⟨"FourPhasesModel", "arrive", "(I)V"⟩, 12) := ⟨⟨by decide +kernel, by decide +kernel⟩, List.mem_of_getElem? (i := 579) (by decide +kernel), List.mem_of_getElem? (i := 713) (by decide +kernel), List.mem_of_getElem? (i := 714) (by decide +kernel)⟩
theorem lw_p38 : lw_okq (⟨"FourPhasesModel", "requestArrives", "(II)V"⟩, 12) := ⟨⟨by decide +kernel, by decide +kernel⟩, List.mem_of_getElem? (i := 579) (by decide +kernel), List.mem_of_getElem? (i := 717) (by decide +kernel), List.mem_of_getElem? (i := 718) (by decide +kernel)⟩
theorem lw_p39 : lw_okq (⟨"FourPhasesModel", "answer", "(III)V"⟩, 12) := ⟨⟨by decide +kernel, by decide +kernel⟩, List.mem_of_getElem? (i := 579) (by decide +kernel), List.mem_of_getElem? (i := 721) (by decide +kernel), List.mem_of_getElem? (i := 722) (by decide +kernel)⟩
theorem lw_p40 : lw_okq (⟨"FourPhasesModel", "note", "()V"⟩, 12) := ⟨⟨by decide +kernel, by decide +kernel⟩, List.mem_of_getElem? (i := 579) (by decide +kernel), List.mem_of_getElem? (i := 725) (by decide +kernel), List.mem_of_getElem? (i := 726) (by decide +kernel)⟩
theorem lw_p41 : lw_okq (⟨"FourPhasesModel", "end", "(II)I"⟩, 12) := ⟨⟨by decide +kernel, by decide +kernel⟩, List.mem_of_getElem? (i := 579) (by decide +kernel), List.mem_of_getElem? (i := 729) (by decide +kernel), List.mem_of_getElem? (i := 730) (by decide +kernel)⟩
theorem lw_p42 : lw_okq (⟨"FourPhasesModel", "take", "(I)V"⟩, 12) := ⟨⟨by decide +kernel, by decide +kernel⟩, List.mem_of_getElem? (i := 579) (by decide +kernel), List.mem_of_getElem? (i := 733) (by decide +kernel), List.mem_of_getElem? (i := 734) (by decide +kernel)⟩
theorem lw_p43 : lw_okq (⟨"FourPhasesModel", "answerArrives", "(II)V"⟩, 12) := ⟨⟨by decide +kernel, by decide +kernel⟩, List.mem_of_getElem? (i := 579) (by decide +kernel), List.mem_of_getElem? (i := 737) (by decide +kernel), List.mem_of_getElem? (i := 738) (by decide +kernel)⟩
theorem lw_p44 : lw_okq (⟨"FourPhasesModel", "settle", "()I"⟩, 12) := ⟨⟨by decide +kernel, by decide +kernel⟩, List.mem_of_getElem? (i := 579) (by decide +kernel), List.mem_of_getElem? (i := 745) (by decide +kernel), List.mem_of_getElem? (i := 746) (by decide +kernel)⟩
theorem lw_p45 : lw_okq (⟨"FourPhasesModel", "takeBack", "()V"⟩, 12) := ⟨⟨by decide +kernel, by decide +kernel⟩, List.mem_of_getElem? (i := 579) (by decide +kernel), List.mem_of_getElem? (i := 749) (by decide +kernel), List.mem_of_getElem? (i := 750) (by decide +kernel)⟩
theorem lw_p46 : lw_okq (⟨"FourPhasesModel", "setsDelay", "(III)I"⟩, 12) := ⟨⟨by decide +kernel, by decide +kernel⟩, List.mem_of_getElem? (i := 579) (by decide +kernel), List.mem_of_getElem? (i := 757) (by decide +kernel), List.mem_of_getElem? (i := 758) (by decide +kernel)⟩
theorem lw_p47 : lw_okq (⟨"FourPhasesModel", "isLink", "(I)Z"⟩, 12) := ⟨⟨by decide +kernel, by decide +kernel⟩, List.mem_of_getElem? (i := 579) (by decide +kernel), List.mem_of_getElem? (i := 761) (by decide +kernel), List.mem_of_getElem? (i := 762) (by decide +kernel)⟩
def lw_privs_3 : List (MethodName × Nat) := [(⟨"FourPhasesModel", "recorded", "(I)I"⟩, 12), (⟨"FourPhasesModel", "runs", "(I)I"⟩, 12), (⟨"FourPhasesModel", "goTo", "(I)V"⟩, 12), (⟨"FourPhasesModel", "nextChange", "()I"⟩, 12), (⟨"FourPhasesModel", "whenOf", "(I)I"⟩, 12), (⟨"FourPhasesModel", "arrive", "(I)V"⟩, 12), (⟨"FourPhasesModel", "requestArrives", "(II)V"⟩, 12), (⟨"FourPhasesModel", "answer", "(III)V"⟩, 12), (⟨"FourPhasesModel", "note", "()V"⟩, 12), (⟨"FourPhasesModel", "end", "(II)I"⟩, 12), (⟨"FourPhasesModel", "take", "(I)V"⟩, 12), (⟨"FourPhasesModel", "answerArrives", "(II)V"⟩, 12), (⟨"FourPhasesModel", "settle", "()I"⟩, 12), (⟨"FourPhasesModel", "takeBack", "()V"⟩, 12), (⟨"FourPhasesModel", "setsDelay", "(III)I"⟩, 12), (⟨"FourPhasesModel", "isLink", "(I)Z"⟩, 12)]
theorem lw_r3 : ∀ q ∈ lw_privs_3, lw_okq q := List.forall_mem_cons.mpr ⟨lw_p32, List.forall_mem_cons.mpr ⟨lw_p33, List.forall_mem_cons.mpr ⟨lw_p34, List.forall_mem_cons.mpr ⟨lw_p35, List.forall_mem_cons.mpr ⟨lw_p36, List.forall_mem_cons.mpr ⟨lw_p37, List.forall_mem_cons.mpr ⟨lw_p38, List.forall_mem_cons.mpr ⟨lw_p39, List.forall_mem_cons.mpr ⟨lw_p40, List.forall_mem_cons.mpr ⟨lw_p41, List.forall_mem_cons.mpr ⟨lw_p42, List.forall_mem_cons.mpr ⟨lw_p43, List.forall_mem_cons.mpr ⟨lw_p44, List.forall_mem_cons.mpr ⟨lw_p45, List.forall_mem_cons.mpr ⟨lw_p46, List.forall_mem_cons.mpr ⟨lw_p47, fun _ h => absurd h List.not_mem_nil⟩⟩⟩⟩⟩⟩⟩⟩⟩⟩⟩⟩⟩⟩⟩⟩
theorem lw_p48 : lw_okq (⟨"FourPhasesModel", "findFault", "()I"⟩, 12) := ⟨⟨by decide +kernel, by decide +kernel⟩, List.mem_of_getElem? (i := 579) (by decide +kernel), List.mem_of_getElem? (i := 784) (by decide +kernel), List.mem_of_getElem? (i := 785) (by decide +kernel)⟩
theorem lw_p49 : lw_okq (⟨"FourPhasesModel", "readsOrder", "()Z"⟩, 12) := ⟨⟨by decide +kernel, by decide +kernel⟩, List.mem_of_getElem? (i := 579) (by decide +kernel), List.mem_of_getElem? (i := 788) (by decide +kernel), List.mem_of_getElem? (i := 789) (by decide +kernel)⟩
theorem lw_p50 : lw_okq (⟨"FourPhasesModel", "code", "()I"⟩, 12) := ⟨⟨by decide +kernel, by decide +kernel⟩, List.mem_of_getElem? (i := 579) (by decide +kernel), List.mem_of_getElem? (i := 792) (by decide +kernel), List.mem_of_getElem? (i := 793) (by decide +kernel)⟩
theorem lw_p51 : lw_okq (⟨"FourPhasesModel", "readsNumber", "(I)Z"⟩, 12) := ⟨⟨by decide +kernel, by decide +kernel⟩, List.mem_of_getElem? (i := 579) (by decide +kernel), List.mem_of_getElem? (i := 799) (by decide +kernel), List.mem_of_getElem? (i := 800) (by decide +kernel)⟩
theorem lw_p52 : lw_okq (⟨"FourPhasesModel", "readsDelay", "()Z"⟩, 12) := ⟨⟨by decide +kernel, by decide +kernel⟩, List.mem_of_getElem? (i := 579) (by decide +kernel), List.mem_of_getElem? (i := 803) (by decide +kernel), List.mem_of_getElem? (i := 804) (by decide +kernel)⟩
theorem lw_p53 : lw_okq (⟨"FourPhasesModel", "doesOrder", "()I"⟩, 12) := ⟨⟨by decide +kernel, by decide +kernel⟩, List.mem_of_getElem? (i := 579) (by decide +kernel), List.mem_of_getElem? (i := 807) (by decide +kernel), List.mem_of_getElem? (i := 808) (by decide +kernel)⟩
theorem lw_p54 : lw_okq (⟨"FourPhasesModel", "tellsLink", "(II)I"⟩, 12) := ⟨⟨by decide +kernel, by decide +kernel⟩, List.mem_of_getElem? (i := 579) (by decide +kernel), List.mem_of_getElem? (i := 815) (by decide +kernel), List.mem_of_getElem? (i := 816) (by decide +kernel)⟩
theorem lw_p55 : lw_okq (⟨"FourPhasesModel", "withLead", "(II)I"⟩, 12) := ⟨⟨by decide +kernel, by decide +kernel⟩, List.mem_of_getElem? (i := 579) (by decide +kernel), List.mem_of_getElem? (i := 847) (by decide +kernel), List.mem_of_getElem? (i := 848) (by decide +kernel)⟩
def lw_privs_4 : List (MethodName × Nat) := [(⟨"FourPhasesModel", "findFault", "()I"⟩, 12), (⟨"FourPhasesModel", "readsOrder", "()Z"⟩, 12), (⟨"FourPhasesModel", "code", "()I"⟩, 12), (⟨"FourPhasesModel", "readsNumber", "(I)Z"⟩, 12), (⟨"FourPhasesModel", "readsDelay", "()Z"⟩, 12), (⟨"FourPhasesModel", "doesOrder", "()I"⟩, 12), (⟨"FourPhasesModel", "tellsLink", "(II)I"⟩, 12), (⟨"FourPhasesModel", "withLead", "(II)I"⟩, 12)]
theorem lw_r4 : ∀ q ∈ lw_privs_4, lw_okq q := List.forall_mem_cons.mpr ⟨lw_p48, List.forall_mem_cons.mpr ⟨lw_p49, List.forall_mem_cons.mpr ⟨lw_p50, List.forall_mem_cons.mpr ⟨lw_p51, List.forall_mem_cons.mpr ⟨lw_p52, List.forall_mem_cons.mpr ⟨lw_p53, List.forall_mem_cons.mpr ⟨lw_p54, List.forall_mem_cons.mpr ⟨lw_p55, fun _ h => absurd h List.not_mem_nil⟩⟩⟩⟩⟩⟩⟩⟩
def lw_privs : List (MethodName × Nat) := lw_privs_1 ++ (lw_privs_2 ++ (lw_privs_3 ++ (lw_privs_4)))
def lw_tbl : List Cond := k2_sels lw_privs ++ tables_1
theorem lw_privs_ok : ∀ q ∈ lw_privs, lw_okq q := by
  show ∀ q ∈ lw_privs_1 ++ (lw_privs_2 ++ (lw_privs_3 ++ (lw_privs_4))), lw_okq q
  exact List.forall_mem_append.mpr ⟨lw_r1, List.forall_mem_append.mpr ⟨lw_r2, List.forall_mem_append.mpr ⟨lw_r3, lw_r4⟩⟩⟩
end
section
/-! ===== BEGIN words of one list among another's, by their places ===== -/
theorem goodIn_r {big : List Cond} (ws : List Cond) (ps : List Nat) (hp : ws = ps.filterMap (fun i => big[i]?)) (h : ws.all goodWord = true) : GoodIn big ws := by
  intro w hw
  have h1 := List.all_eq_true.mp h w hw
  rw [hp] at hw
  obtain ⟨i, -, hi⟩ := List.mem_filterMap.mp hw
  have hm : w ∈ big := by first | exact List.mem_of_getElem? hi | exact List.getElem?_mem hi
  exact ⟨hm, good_of_word h1⟩
theorem goodIn_app {big a b : List Cond} (ha : GoodIn big a) (hb : GoodIn big b) : GoodIn big (a ++ b) := fun w h => (List.mem_append.mp h).elim (ha w) (hb w)
theorem goodIn_ca {big a b : List Cond} {c : Cond} (ha : GoodIn big (c :: a)) (hb : GoodIn big b) : GoodIn big (c :: (a ++ b)) := fun w h => (List.mem_cons.mp h).elim (fun e => ha w (List.mem_cons.mpr (Or.inl e))) (fun h => (List.mem_append.mp h).elim (fun h => ha w (List.mem_cons.mpr (Or.inr h))) (hb w))
theorem goodIn_sub {big ws : List Cond} (hm : ∀ w ∈ ws, w ∈ big) (h : ws.all goodWord = true) : GoodIn big ws := fun w hw => ⟨hm w hw, good_of_word (List.all_eq_true.mp h w hw)⟩
/-! ===== END ===== -/

/-! ===== BEGIN printed: names, fields, word lists, decode rows ===== -/
def RX0 : String := "FourPhases$Changes"
def TX0 : u_T := fun k => match k with
  | 0 => ("FourPhases$Changes", "times", "[I", true)
  | 1 => ("FourPhases$Changes", "signals", "[I", true)
  | 2 => ("FourPhases$Changes", "head", "I", false)
  | _ => ("FourPhases$Changes", "count", "I", false)
def tyX0 : Nat → FieldType := fun k => match k with
  | 0 => .array .int
  | 1 => .array .int
  | 2 => .int
  | _ => .int
abbrev wsX00 : List Cond := u_ws RX0 TX0 4
theorem nmX0 : ∀ a, a < 4 → ∀ b, b < 4 → a ≠ b → (TX0 a).2.1 ≠ (TX0 b).2.1 := by decide +kernel
theorem tyX0_ok : ∀ k, k < 4 → parseFieldDescriptor (TX0 k).2.2.1 = some (tyX0 k) := by decide +kernel
abbrev cX0_init : ByteArray := prog_2_method_1_code
def yX0_init : MethodName := ⟨RX0, "<init>", "()V"⟩
abbrev cX0_copyFrom : ByteArray := prog_2_method_2_code
def yX0_copyFrom : MethodName := ⟨RX0, "copyFrom", "(LFourPhases$Changes;)V"⟩
abbrev cX0_insert : ByteArray := prog_2_method_3_code
def yX0_insert : MethodName := ⟨RX0, "insert", "(IIII)V"⟩
abbrev cX0_firstTime : ByteArray := prog_2_method_4_code
def yX0_firstTime : MethodName := ⟨RX0, "firstTime", "()I"⟩
abbrev cX0_firstLink : ByteArray := prog_2_method_5_code
def yX0_firstLink : MethodName := ⟨RX0, "firstLink", "()I"⟩
abbrev cX0_firstWire : ByteArray := prog_2_method_6_code
def yX0_firstWire : MethodName := ⟨RX0, "firstWire", "()I"⟩
abbrev cX0_firstValue : ByteArray := prog_2_method_7_code
def yX0_firstValue : MethodName := ⟨RX0, "firstValue", "()I"⟩
abbrev cX0_removeFirst : ByteArray := prog_2_method_8_code
def yX0_removeFirst : MethodName := ⟨RX0, "removeFirst", "()V"⟩
def RX1 : String := "FourPhases$History"
def TX1 : u_T := fun k => match k with
  | 0 => ("FourPhases$History", "states", "[LFourPhases$Line;", true)
  | _ => ("FourPhases$History", "count", "I", false)
def tyX1 : Nat → FieldType := fun k => match k with
  | 0 => .array (.object "FourPhases$Line")
  | _ => .int
abbrev wsX10 : List Cond := u_ws RX1 TX1 2
theorem nmX1 : ∀ a, a < 2 → ∀ b, b < 2 → a ≠ b → (TX1 a).2.1 ≠ (TX1 b).2.1 := by decide +kernel
theorem tyX1_ok : ∀ k, k < 2 → parseFieldDescriptor (TX1 k).2.2.1 = some (tyX1 k) := by decide +kernel
abbrev cX1_init : ByteArray := prog_3_method_1_code
def yX1_init : MethodName := ⟨RX1, "<init>", "()V"⟩
abbrev cX1_record : ByteArray := prog_3_method_2_code
def yX1_record : MethodName := ⟨RX1, "record", "(LFourPhases$Line;)V"⟩
abbrev cX1_dropOldest : ByteArray := prog_3_method_3_code
def yX1_dropOldest : MethodName := ⟨RX1, "dropOldest", "()V"⟩
abbrev cX1_giveBack : ByteArray := prog_3_method_4_code
def yX1_giveBack : MethodName := ⟨RX1, "giveBack", "(LFourPhases$Line;)I"⟩
def RX2 : String := "FourPhases$Line"
def TX2 : u_T := fun k => match k with
  | 0 => ("FourPhases$Line", "stages", "I", false)
  | 1 => ("FourPhases$Line", "time", "I", false)
  | 2 => ("FourPhases$Line", "latestSender", "I", false)
  | 3 => ("FourPhases$Line", "offeredWords", "I", false)
  | 4 => ("FourPhases$Line", "arrivedChanges", "I", false)
  | 5 => ("FourPhases$Line", "settings", "[I", true)
  | 6 => ("FourPhases$Line", "links", "[LFourPhases$Link;", true)
  | 7 => ("FourPhases$Line", "held", "[I", true)
  | 8 => ("FourPhases$Line", "rows", "[LFourPhases$Row;", true)
  | 9 => ("FourPhases$Line", "underWay", "LFourPhases$Changes;", true)
  | 10 => ("FourPhases$Line", "notes", "LFourPhases$Notes;", true)
  | _ => ("FourPhases$Line", "offered", "[I", true)
def tyX2 : Nat → FieldType := fun k => match k with
  | 0 => .int
  | 1 => .int
  | 2 => .int
  | 3 => .int
  | 4 => .int
  | 5 => .array .int
  | 6 => .array (.object "FourPhases$Link")
  | 7 => .array .int
  | 8 => .array (.object "FourPhases$Row")
  | 9 => .object "FourPhases$Changes"
  | 10 => .object "FourPhases$Notes"
  | _ => .array .int
abbrev wsX20 : List Cond := u_ws RX2 TX2 12
theorem nmX2 : ∀ a, a < 12 → ∀ b, b < 12 → a ≠ b → (TX2 a).2.1 ≠ (TX2 b).2.1 := by decide +kernel
theorem tyX2_ok : ∀ k, k < 12 → parseFieldDescriptor (TX2 k).2.2.1 = some (tyX2 k) := by decide +kernel
abbrev cX2_init : ByteArray := prog_4_method_1_code
def yX2_init : MethodName := ⟨RX2, "<init>", "()V"⟩
abbrev cX2_clearTo : ByteArray := prog_4_method_2_code
def yX2_clearTo : MethodName := ⟨RX2, "clearTo", "(I)V"⟩
abbrev cX2_copyFrom : ByteArray := prog_4_method_3_code
def yX2_copyFrom : MethodName := ⟨RX2, "copyFrom", "(LFourPhases$Line;)V"⟩
abbrev cX2_hasLink : ByteArray := prog_4_method_4_code
def yX2_hasLink : MethodName := ⟨RX2, "hasLink", "(I)Z"⟩
abbrev cX2_isQuiet : ByteArray := prog_4_method_5_code
def yX2_isQuiet : MethodName := ⟨RX2, "isQuiet", "()Z"⟩
abbrev cX2_fullStages : ByteArray := prog_4_method_6_code
def yX2_fullStages : MethodName := ⟨RX2, "fullStages", "()I"⟩
abbrev cX2_waitingWords : ByteArray := prog_4_method_7_code
def yX2_waitingWords : MethodName := ⟨RX2, "waitingWords", "()I"⟩
abbrev cX2_addWord : ByteArray := prog_4_method_8_code
def yX2_addWord : MethodName := ⟨RX2, "addWord", "(II)I"⟩
abbrev cX2_changeDelay : ByteArray := prog_4_method_9_code
def yX2_changeDelay : MethodName := ⟨RX2, "changeDelay", "(III)I"⟩
abbrev cX2_passTicks : ByteArray := prog_4_method_10_code
def yX2_passTicks : MethodName := ⟨RX2, "passTicks", "(I)I"⟩
abbrev cX2_letArriveUpTo : ByteArray := prog_4_method_11_code
def yX2_letArriveUpTo : MethodName := ⟨RX2, "letArriveUpTo", "(I)V"⟩
abbrev cX2_letRequestArrive : ByteArray := prog_4_method_12_code
def yX2_letRequestArrive : MethodName := ⟨RX2, "letRequestArrive", "(II)V"⟩
abbrev cX2_letAnswerArrive : ByteArray := prog_4_method_13_code
def yX2_letAnswerArrive : MethodName := ⟨RX2, "letAnswerArrive", "(II)V"⟩
abbrev cX2_takeWord : ByteArray := prog_4_method_14_code
def yX2_takeWord : MethodName := ⟨RX2, "takeWord", "(I)V"⟩
abbrev cX2_letOneGo : ByteArray := prog_4_method_15_code
def yX2_letOneGo : MethodName := ⟨RX2, "letOneGo", "()I"⟩
abbrev cX2_chosenSender : ByteArray := prog_4_method_16_code
def yX2_chosenSender : MethodName := ⟨RX2, "chosenSender", "()I"⟩
abbrev cX2_noteWord : ByteArray := prog_4_method_17_code
def yX2_noteWord : MethodName := ⟨RX2, "noteWord", "(I)V"⟩
abbrev cX2_offer : ByteArray := prog_4_method_18_code
def yX2_offer : MethodName := ⟨RX2, "offer", "(II)V"⟩
abbrev cX2_makeRequest : ByteArray := prog_4_method_19_code
def yX2_makeRequest : MethodName := ⟨RX2, "makeRequest", "(III)V"⟩
abbrev cX2_makeAnswer : ByteArray := prog_4_method_20_code
def yX2_makeAnswer : MethodName := ⟨RX2, "makeAnswer", "(III)V"⟩
def RX3 : String := "FourPhases$Link"
def TX3 : u_T := fun k => match k with
  | 0 => ("FourPhases$Link", "delays", "[I", true)
  | 1 => ("FourPhases$Link", "requestAtBeginning", "I", false)
  | 2 => ("FourPhases$Link", "requestAtEnd", "I", false)
  | 3 => ("FourPhases$Link", "answerAtEnd", "I", false)
  | 4 => ("FourPhases$Link", "answerAtBeginning", "I", false)
  | 5 => ("FourPhases$Link", "dataAtBeginning", "I", false)
  | 6 => ("FourPhases$Link", "dataAtEnd", "I", false)
  | 7 => ("FourPhases$Link", "atRest", "Z", false)
  | 8 => ("FourPhases$Link", "requestWaits", "Z", false)
  | _ => ("FourPhases$Link", "offeredWords", "I", false)
def tyX3 : Nat → FieldType := fun k => match k with
  | 0 => .array .int
  | 1 => .int
  | 2 => .int
  | 3 => .int
  | 4 => .int
  | 5 => .int
  | 6 => .int
  | 7 => .boolean
  | 8 => .boolean
  | _ => .int
abbrev wsX30 : List Cond := u_ws RX3 TX3 10
theorem nmX3 : ∀ a, a < 10 → ∀ b, b < 10 → a ≠ b → (TX3 a).2.1 ≠ (TX3 b).2.1 := by decide +kernel
theorem tyX3_ok : ∀ k, k < 10 → parseFieldDescriptor (TX3 k).2.2.1 = some (tyX3 k) := by decide +kernel
abbrev cX3_init : ByteArray := prog_5_method_1_code
def yX3_init : MethodName := ⟨RX3, "<init>", "()V"⟩
abbrev cX3_clear : ByteArray := prog_5_method_2_code
def yX3_clear : MethodName := ⟨RX3, "clear", "()V"⟩
abbrev cX3_copyFrom : ByteArray := prog_5_method_3_code
def yX3_copyFrom : MethodName := ⟨RX3, "copyFrom", "(LFourPhases$Link;)V"⟩
abbrev cX3_tell : ByteArray := prog_5_method_4_code
def yX3_tell : MethodName := ⟨RX3, "tell", "(II)I"⟩
def RX4 : String := "FourPhases$Notes"
def TX4 : u_T := fun k => match k with
  | 0 => ("FourPhases$Notes", "words", "[I", true)
  | 1 => ("FourPhases$Notes", "times", "[I", true)
  | 2 => ("FourPhases$Notes", "rights", "[I", true)
  | 3 => ("FourPhases$Notes", "count", "I", false)
  | _ => ("FourPhases$Notes", "rightCount", "I", false)
def tyX4 : Nat → FieldType := fun k => match k with
  | 0 => .array .int
  | 1 => .array .int
  | 2 => .array .int
  | 3 => .int
  | _ => .int
abbrev wsX40 : List Cond := u_ws RX4 TX4 5
theorem nmX4 : ∀ a, a < 5 → ∀ b, b < 5 → a ≠ b → (TX4 a).2.1 ≠ (TX4 b).2.1 := by decide +kernel
theorem tyX4_ok : ∀ k, k < 5 → parseFieldDescriptor (TX4 k).2.2.1 = some (tyX4 k) := by decide +kernel
abbrev cX4_init : ByteArray := prog_6_method_1_code
def yX4_init : MethodName := ⟨RX4, "<init>", "()V"⟩
abbrev cX4_clear : ByteArray := prog_6_method_2_code
def yX4_clear : MethodName := ⟨RX4, "clear", "()V"⟩
abbrev cX4_copyFrom : ByteArray := prog_6_method_3_code
def yX4_copyFrom : MethodName := ⟨RX4, "copyFrom", "(LFourPhases$Notes;)V"⟩
abbrev cX4_append : ByteArray := prog_6_method_4_code
def yX4_append : MethodName := ⟨RX4, "append", "(III)V"⟩
abbrev cX4_wrongWords : ByteArray := prog_6_method_5_code
def yX4_wrongWords : MethodName := ⟨RX4, "wrongWords", "()I"⟩
abbrev cX4_tell : ByteArray := prog_6_method_6_code
def yX4_tell : MethodName := ⟨RX4, "tell", "(II)I"⟩
def RX5 : String := "FourPhases$Row"
def TX5 : u_T := fun k => match k with
  | 0 => ("FourPhases$Row", "words", "[I", true)
  | _ => ("FourPhases$Row", "count", "I", false)
def tyX5 : Nat → FieldType := fun k => match k with
  | 0 => .array .int
  | _ => .int
abbrev wsX50 : List Cond := u_ws RX5 TX5 2
theorem nmX5 : ∀ a, a < 2 → ∀ b, b < 2 → a ≠ b → (TX5 a).2.1 ≠ (TX5 b).2.1 := by decide +kernel
theorem tyX5_ok : ∀ k, k < 2 → parseFieldDescriptor (TX5 k).2.2.1 = some (tyX5 k) := by decide +kernel
abbrev cX5_init : ByteArray := prog_7_method_1_code
def yX5_init : MethodName := ⟨RX5, "<init>", "()V"⟩
abbrev cX5_copyFrom : ByteArray := prog_7_method_2_code
def yX5_copyFrom : MethodName := ⟨RX5, "copyFrom", "(LFourPhases$Row;)V"⟩
abbrev cX5_append : ByteArray := prog_7_method_3_code
def yX5_append : MethodName := ⟨RX5, "append", "(I)V"⟩
abbrev cX5_wordAt : ByteArray := prog_7_method_4_code
def yX5_wordAt : MethodName := ⟨RX5, "wordAt", "(I)I"⟩
abbrev cX5_removeFirst : ByteArray := prog_7_method_5_code
def yX5_removeFirst : MethodName := ⟨RX5, "removeFirst", "()I"⟩
def RX6 : String := "FourPhases$Text"
def TX6 : u_T := fun k => match k with
  | 0 => ("FourPhases$Text", "characters", "[C", true)
  | 1 => ("FourPhases$Text", "length", "I", false)
  | 2 => ("FourPhases$Text", "letters", "[I", true)
  | 3 => ("FourPhases$Text", "targets", "[I", true)
  | 4 => ("FourPhases$Text", "values", "[I", true)
  | 5 => ("FourPhases$Text", "orders", "I", false)
  | _ => ("FourPhases$Text", "place", "I", false)
def tyX6 : Nat → FieldType := fun k => match k with
  | 0 => .array .char
  | 1 => .int
  | 2 => .array .int
  | 3 => .array .int
  | 4 => .array .int
  | 5 => .int
  | _ => .int
abbrev wsX60 : List Cond := u_ws RX6 TX6 7
theorem nmX6 : ∀ a, a < 7 → ∀ b, b < 7 → a ≠ b → (TX6 a).2.1 ≠ (TX6 b).2.1 := by decide +kernel
theorem tyX6_ok : ∀ k, k < 7 → parseFieldDescriptor (TX6 k).2.2.1 = some (tyX6 k) := by decide +kernel
abbrev cX6_init : ByteArray := prog_8_method_1_code
def yX6_init : MethodName := ⟨RX6, "<init>", "()V"⟩
abbrev cX6_append : ByteArray := prog_8_method_2_code
def yX6_append : MethodName := ⟨RX6, "append", "(C)I"⟩
abbrev cX6_readOrders : ByteArray := prog_8_method_3_code
def yX6_readOrders : MethodName := ⟨RX6, "readOrders", "()I"⟩
abbrev cX6_readOrder : ByteArray := prog_8_method_4_code
def yX6_readOrder : MethodName := ⟨RX6, "readOrder", "()Z"⟩
abbrev cX6_readDelay : ByteArray := prog_8_method_5_code
def yX6_readDelay : MethodName := ⟨RX6, "readDelay", "(I)Z"⟩
abbrev cX6_store : ByteArray := prog_8_method_6_code
def yX6_store : MethodName := ⟨RX6, "store", "(IIII)Z"⟩
abbrev cX6_current : ByteArray := prog_8_method_7_code
def yX6_current : MethodName := ⟨RX6, "current", "()I"⟩
abbrev cX6_readSign : ByteArray := prog_8_method_8_code
def yX6_readSign : MethodName := ⟨RX6, "readSign", "(I)Z"⟩
abbrev cX6_readDigit : ByteArray := prog_8_method_9_code
def yX6_readDigit : MethodName := ⟨RX6, "readDigit", "(I)I"⟩
abbrev cX6_readNumber : ByteArray := prog_8_method_10_code
def yX6_readNumber : MethodName := ⟨RX6, "readNumber", "(I)I"⟩
abbrev cX6_digitOf : ByteArray := prog_8_method_11_code
def yX6_digitOf : MethodName := ⟨RX6, "digitOf", "(I)I"⟩
def RX7 : String := "FourPhases"
def TX7 : u_T := fun k => match k with
  | 0 => ("FourPhases", "now", "LFourPhases$Line;", true)
  | 1 => ("FourPhases", "trial", "LFourPhases$Line;", true)
  | 2 => ("FourPhases", "snapshot", "LFourPhases$Line;", true)
  | 3 => ("FourPhases", "hasSnapshot", "Z", false)
  | 4 => ("FourPhases", "history", "LFourPhases$History;", true)
  | _ => ("FourPhases", "text", "LFourPhases$Text;", true)
def tyX7 : Nat → FieldType := fun k => match k with
  | 0 => .object "FourPhases$Line"
  | 1 => .object "FourPhases$Line"
  | 2 => .object "FourPhases$Line"
  | 3 => .boolean
  | 4 => .object "FourPhases$History"
  | _ => .object "FourPhases$Text"
abbrev wsX70 : List Cond := u_ws RX7 TX7 6
theorem nmX7 : ∀ a, a < 6 → ∀ b, b < 6 → a ≠ b → (TX7 a).2.1 ≠ (TX7 b).2.1 := by decide +kernel
theorem tyX7_ok : ∀ k, k < 6 → parseFieldDescriptor (TX7 k).2.2.1 = some (tyX7 k) := by decide +kernel
abbrev cX7_init : ByteArray := prog_1_method_1_code
def yX7_init : MethodName := ⟨RX7, "<init>", "()V"⟩
abbrev cX7_build : ByteArray := prog_1_method_2_code
def yX7_build : MethodName := ⟨RX7, "build", "(I)I"⟩
abbrev cX7_add : ByteArray := prog_1_method_3_code
def yX7_add : MethodName := ⟨RX7, "add", "(II)I"⟩
abbrev cX7_run : ByteArray := prog_1_method_4_code
def yX7_run : MethodName := ⟨RX7, "run", "(I)I"⟩
abbrev cX7_finish : ByteArray := prog_1_method_5_code
def yX7_finish : MethodName := ⟨RX7, "finish", "()I"⟩
abbrev cX7_setDelay : ByteArray := prog_1_method_6_code
def yX7_setDelay : MethodName := ⟨RX7, "setDelay", "(III)I"⟩
abbrev cX7_set : ByteArray := prog_1_method_7_code
def yX7_set : MethodName := ⟨RX7, "set", "(II)I"⟩
abbrev cX7_type : ByteArray := prog_1_method_8_code
def yX7_type : MethodName := ⟨RX7, "type", "(C)I"⟩
abbrev cX7_clearText : ByteArray := prog_1_method_9_code
def yX7_clearText : MethodName := ⟨RX7, "clearText", "()I"⟩
abbrev cX7_perform : ByteArray := prog_1_method_10_code
def yX7_perform : MethodName := ⟨RX7, "perform", "()I"⟩
abbrev cX7_undo : ByteArray := prog_1_method_11_code
def yX7_undo : MethodName := ⟨RX7, "undo", "()I"⟩
abbrev cX7_keep : ByteArray := prog_1_method_12_code
def yX7_keep : MethodName := ⟨RX7, "keep", "()I"⟩
abbrev cX7_restore : ByteArray := prog_1_method_13_code
def yX7_restore : MethodName := ⟨RX7, "restore", "()I"⟩
abbrev cX7_link : ByteArray := prog_1_method_14_code
def yX7_link : MethodName := ⟨RX7, "link", "(II)I"⟩
abbrev cX7_stage : ByteArray := prog_1_method_15_code
def yX7_stage : MethodName := ⟨RX7, "stage", "(I)I"⟩
abbrev cX7_waiting : ByteArray := prog_1_method_16_code
def yX7_waiting : MethodName := ⟨RX7, "waiting", "(II)I"⟩
abbrev cX7_noted : ByteArray := prog_1_method_17_code
def yX7_noted : MethodName := ⟨RX7, "noted", "(II)I"⟩
abbrev cX7_total : ByteArray := prog_1_method_18_code
def yX7_total : MethodName := ⟨RX7, "total", "(I)I"⟩
abbrev cX7_next : ByteArray := prog_1_method_19_code
def yX7_next : MethodName := ⟨RX7, "next", "()I"⟩
abbrev cX7_quietIn : ByteArray := prog_1_method_20_code
def yX7_quietIn : MethodName := ⟨RX7, "quietIn", "()I"⟩
abbrev cX7_ifLead : ByteArray := prog_1_method_21_code
def yX7_ifLead : MethodName := ⟨RX7, "ifLead", "(II)I"⟩
abbrev cX7_leastLead : ByteArray := prog_1_method_22_code
def yX7_leastLead : MethodName := ⟨RX7, "leastLead", "()I"⟩
abbrev cX7_dearest : ByteArray := prog_1_method_23_code
def yX7_dearest : MethodName := ⟨RX7, "dearest", "()I"⟩
abbrev cX7_accept : ByteArray := prog_1_method_24_code
def yX7_accept : MethodName := ⟨RX7, "accept", "(I)I"⟩
abbrev cX7_settleTrialWithLead : ByteArray := prog_1_method_25_code
def yX7_settleTrialWithLead : MethodName := ⟨RX7, "settleTrialWithLead", "(I)V"⟩
abbrev cX7_wrongInTrial : ByteArray := prog_1_method_26_code
def yX7_wrongInTrial : MethodName := ⟨RX7, "wrongInTrial", "()I"⟩
abbrev cX7_quietTimeWithLess : ByteArray := prog_1_method_27_code
def yX7_quietTimeWithLess : MethodName := ⟨RX7, "quietTimeWithLess", "(II)I"⟩
def RX8 : String := "FourPhasesModel"
def TX8 : u_T := fun k => match k with
  | 0 => ("FourPhasesModel", "state", "[I", true)
  | 1 => ("FourPhasesModel", "spare", "[I", true)
  | 2 => ("FourPhasesModel", "history", "[I", true)
  | 3 => ("FourPhasesModel", "states", "I", false)
  | 4 => ("FourPhasesModel", "snapshot", "[I", true)
  | 5 => ("FourPhasesModel", "hasSnapshot", "Z", false)
  | 6 => ("FourPhasesModel", "text", "[I", true)
  | 7 => ("FourPhasesModel", "length", "I", false)
  | 8 => ("FourPhasesModel", "at", "I", false)
  | 9 => ("FourPhasesModel", "sign", "I", false)
  | 10 => ("FourPhasesModel", "first", "I", false)
  | _ => ("FourPhasesModel", "second", "I", false)
def tyX8 : Nat → FieldType := fun k => match k with
  | 0 => .array .int
  | 1 => .array .int
  | 2 => .array .int
  | 3 => .int
  | 4 => .array .int
  | 5 => .boolean
  | 6 => .array .int
  | 7 => .int
  | 8 => .int
  | 9 => .int
  | 10 => .int
  | _ => .int
abbrev wsX80 : List Cond := u_ws RX8 TX8 12
theorem nmX8 : ∀ a, a < 12 → ∀ b, b < 12 → a ≠ b → (TX8 a).2.1 ≠ (TX8 b).2.1 := by decide +kernel
theorem tyX8_ok : ∀ k, k < 12 → parseFieldDescriptor (TX8 k).2.2.1 = some (tyX8 k) := by decide +kernel
abbrev cX8_init : ByteArray := prog_10_method_1_code
def yX8_init : MethodName := ⟨RX8, "<init>", "()V"⟩
abbrev cX8_within : ByteArray := prog_10_method_2_code
def yX8_within : MethodName := ⟨RX8, "within", "(III)Z"⟩
abbrev cX8_isLink : ByteArray := prog_10_method_3_code
def yX8_isLink : MethodName := ⟨RX8, "isLink", "(I)Z"⟩
abbrev cX8_isWire : ByteArray := prog_10_method_4_code
def yX8_isWire : MethodName := ⟨RX8, "isWire", "(I)Z"⟩
abbrev cX8_isSender : ByteArray := prog_10_method_5_code
def yX8_isSender : MethodName := ⟨RX8, "isSender", "(I)Z"⟩
abbrev cX8_end : ByteArray := prog_10_method_6_code
def yX8_end : MethodName := ⟨RX8, "end", "(II)I"⟩
abbrev cX8_setEnd : ByteArray := prog_10_method_7_code
def yX8_setEnd : MethodName := ⟨RX8, "setEnd", "(III)V"⟩
abbrev cX8_clean : ByteArray := prog_10_method_8_code
def yX8_clean : MethodName := ⟨RX8, "clean", "(I)V"⟩
abbrev cX8_putAside : ByteArray := prog_10_method_9_code
def yX8_putAside : MethodName := ⟨RX8, "putAside", "()V"⟩
abbrev cX8_takeBack : ByteArray := prog_10_method_10_code
def yX8_takeBack : MethodName := ⟨RX8, "takeBack", "()V"⟩
abbrev cX8_push : ByteArray := prog_10_method_11_code
def yX8_push : MethodName := ⟨RX8, "push", "()V"⟩
abbrev cX8_record : ByteArray := prog_10_method_12_code
def yX8_record : MethodName := ⟨RX8, "record", "()V"⟩
abbrev cX8_undo : ByteArray := prog_10_method_13_code
def yX8_undo : MethodName := ⟨RX8, "undo", "()I"⟩
abbrev cX8_keep : ByteArray := prog_10_method_14_code
def yX8_keep : MethodName := ⟨RX8, "keep", "()I"⟩
abbrev cX8_restore : ByteArray := prog_10_method_15_code
def yX8_restore : MethodName := ⟨RX8, "restore", "()I"⟩
abbrev cX8_make : ByteArray := prog_10_method_16_code
def yX8_make : MethodName := ⟨RX8, "make", "(IIII)V"⟩
abbrev cX8_offer : ByteArray := prog_10_method_17_code
def yX8_offer : MethodName := ⟨RX8, "offer", "(II)V"⟩
abbrev cX8_answer : ByteArray := prog_10_method_18_code
def yX8_answer : MethodName := ⟨RX8, "answer", "(III)V"⟩
abbrev cX8_take : ByteArray := prog_10_method_19_code
def yX8_take : MethodName := ⟨RX8, "take", "(I)V"⟩
abbrev cX8_note : ByteArray := prog_10_method_20_code
def yX8_note : MethodName := ⟨RX8, "note", "()V"⟩
abbrev cX8_letGo : ByteArray := prog_10_method_21_code
def yX8_letGo : MethodName := ⟨RX8, "letGo", "()V"⟩
abbrev cX8_requestArrives : ByteArray := prog_10_method_22_code
def yX8_requestArrives : MethodName := ⟨RX8, "requestArrives", "(II)V"⟩
abbrev cX8_answerArrives : ByteArray := prog_10_method_23_code
def yX8_answerArrives : MethodName := ⟨RX8, "answerArrives", "(II)V"⟩
abbrev cX8_whenOf : ByteArray := prog_10_method_24_code
def yX8_whenOf : MethodName := ⟨RX8, "whenOf", "(I)I"⟩
abbrev cX8_nextChange : ByteArray := prog_10_method_25_code
def yX8_nextChange : MethodName := ⟨RX8, "nextChange", "()I"⟩
abbrev cX8_arrive : ByteArray := prog_10_method_26_code
def yX8_arrive : MethodName := ⟨RX8, "arrive", "(I)V"⟩
abbrev cX8_goTo : ByteArray := prog_10_method_27_code
def yX8_goTo : MethodName := ⟨RX8, "goTo", "(I)V"⟩
abbrev cX8_settle : ByteArray := prog_10_method_28_code
def yX8_settle : MethodName := ⟨RX8, "settle", "()I"⟩
abbrev cX8_adds : ByteArray := prog_10_method_29_code
def yX8_adds : MethodName := ⟨RX8, "adds", "(II)I"⟩
abbrev cX8_runs : ByteArray := prog_10_method_30_code
def yX8_runs : MethodName := ⟨RX8, "runs", "(I)I"⟩
abbrev cX8_setsDelay : ByteArray := prog_10_method_31_code
def yX8_setsDelay : MethodName := ⟨RX8, "setsDelay", "(III)I"⟩
abbrev cX8_build : ByteArray := prog_10_method_32_code
def yX8_build : MethodName := ⟨RX8, "build", "(I)I"⟩
abbrev cX8_recorded : ByteArray := prog_10_method_33_code
def yX8_recorded : MethodName := ⟨RX8, "recorded", "(I)I"⟩
abbrev cX8_add : ByteArray := prog_10_method_34_code
def yX8_add : MethodName := ⟨RX8, "add", "(II)I"⟩
abbrev cX8_run : ByteArray := prog_10_method_35_code
def yX8_run : MethodName := ⟨RX8, "run", "(I)I"⟩
abbrev cX8_finish : ByteArray := prog_10_method_36_code
def yX8_finish : MethodName := ⟨RX8, "finish", "()I"⟩
abbrev cX8_setDelay : ByteArray := prog_10_method_37_code
def yX8_setDelay : MethodName := ⟨RX8, "setDelay", "(III)I"⟩
abbrev cX8_set : ByteArray := prog_10_method_38_code
def yX8_set : MethodName := ⟨RX8, "set", "(II)I"⟩
abbrev cX8_type : ByteArray := prog_10_method_39_code
def yX8_type : MethodName := ⟨RX8, "type", "(C)I"⟩
abbrev cX8_clearText : ByteArray := prog_10_method_40_code
def yX8_clearText : MethodName := ⟨RX8, "clearText", "()I"⟩
abbrev cX8_code : ByteArray := prog_10_method_41_code
def yX8_code : MethodName := ⟨RX8, "code", "()I"⟩
abbrev cX8_hex : ByteArray := prog_10_method_42_code
def yX8_hex : MethodName := ⟨RX8, "hex", "(I)I"⟩
abbrev cX8_readsNumber : ByteArray := prog_10_method_43_code
def yX8_readsNumber : MethodName := ⟨RX8, "readsNumber", "(I)Z"⟩
abbrev cX8_readsDelay : ByteArray := prog_10_method_44_code
def yX8_readsDelay : MethodName := ⟨RX8, "readsDelay", "()Z"⟩
abbrev cX8_readsOrder : ByteArray := prog_10_method_45_code
def yX8_readsOrder : MethodName := ⟨RX8, "readsOrder", "()Z"⟩
abbrev cX8_findFault : ByteArray := prog_10_method_46_code
def yX8_findFault : MethodName := ⟨RX8, "findFault", "()I"⟩
abbrev cX8_doesOrder : ByteArray := prog_10_method_47_code
def yX8_doesOrder : MethodName := ⟨RX8, "doesOrder", "()I"⟩
abbrev cX8_perform : ByteArray := prog_10_method_48_code
def yX8_perform : MethodName := ⟨RX8, "perform", "()I"⟩
abbrev cX8_fullStages : ByteArray := prog_10_method_49_code
def yX8_fullStages : MethodName := ⟨RX8, "fullStages", "()I"⟩
abbrev cX8_tellsLink : ByteArray := prog_10_method_50_code
def yX8_tellsLink : MethodName := ⟨RX8, "tellsLink", "(II)I"⟩
abbrev cX8_link : ByteArray := prog_10_method_51_code
def yX8_link : MethodName := ⟨RX8, "link", "(II)I"⟩
abbrev cX8_stage : ByteArray := prog_10_method_52_code
def yX8_stage : MethodName := ⟨RX8, "stage", "(I)I"⟩
abbrev cX8_waiting : ByteArray := prog_10_method_53_code
def yX8_waiting : MethodName := ⟨RX8, "waiting", "(II)I"⟩
abbrev cX8_noted : ByteArray := prog_10_method_54_code
def yX8_noted : MethodName := ⟨RX8, "noted", "(II)I"⟩
abbrev cX8_total : ByteArray := prog_10_method_55_code
def yX8_total : MethodName := ⟨RX8, "total", "(I)I"⟩
abbrev cX8_next : ByteArray := prog_10_method_56_code
def yX8_next : MethodName := ⟨RX8, "next", "()I"⟩
abbrev cX8_quietIn : ByteArray := prog_10_method_57_code
def yX8_quietIn : MethodName := ⟨RX8, "quietIn", "()I"⟩
abbrev cX8_withLead : ByteArray := prog_10_method_58_code
def yX8_withLead : MethodName := ⟨RX8, "withLead", "(II)I"⟩
abbrev cX8_ifLead : ByteArray := prog_10_method_59_code
def yX8_ifLead : MethodName := ⟨RX8, "ifLead", "(II)I"⟩
abbrev cX8_leastLead : ByteArray := prog_10_method_60_code
def yX8_leastLead : MethodName := ⟨RX8, "leastLead", "()I"⟩
abbrev cX8_dearest : ByteArray := prog_10_method_61_code
def yX8_dearest : MethodName := ⟨RX8, "dearest", "()I"⟩
def RJ10 : String := "java/lang/System"
def TJ10 : u_T := fun k => match k with
  | _ => ("", "", "", false)
def tyJ10 : Nat → FieldType := fun k => match k with
  | _ => .int
abbrev wsJ100 : List Cond := u_ws RJ10 TJ10 0
theorem nmJ10 : ∀ a, a < 0 → ∀ b, b < 0 → a ≠ b → (TJ10 a).2.1 ≠ (TJ10 b).2.1 := by decide +kernel
theorem tyJ10_ok : ∀ k, k < 0 → parseFieldDescriptor (TJ10 k).2.2.1 = some (tyJ10 k) := by decide +kernel
def RL : String := "FourPhasesLaw"
abbrev cL_law : ByteArray := code
def yL_law : MethodName := ⟨RL, "law", "([I)Z"⟩
def wsX0_init : List Cond := .code yX0_init cX0_init 1 none :: ([.methodLink RX0 3 objectInit, .instanceMethod objectInit, .code objectInit ⟨#[0xb1]⟩ 1 none, .arrayClass .int, .fieldLink RX0 9 "FourPhases$Changes" "times" "[I", .fieldLink RX0 15 "FourPhases$Changes" "signals" "[I"] ++ wsX00)
def wsX0_copyFrom : List Cond := .code yX0_copyFrom cX0_copyFrom 2 none :: ([.fieldLink RX0 18 "FourPhases$Changes" "head" "I", .fieldLink RX0 22 "FourPhases$Changes" "count" "I", .fieldLink RX0 9 "FourPhases$Changes" "times" "[I", .methodLink RX0 25 arraycopyName, .native arraycopyName, .static arraycopyName, .initialized "java/lang/System", .fieldLink RX0 15 "FourPhases$Changes" "signals" "[I"] ++ wsX00)
def wsX0_insert : List Cond := .code yX0_insert cX0_insert 8 none :: ([.fieldLink RX0 22 "FourPhases$Changes" "count" "I", .fieldLink RX0 9 "FourPhases$Changes" "times" "[I", .fieldLink RX0 18 "FourPhases$Changes" "head" "I", .fieldLink RX0 15 "FourPhases$Changes" "signals" "[I"] ++ wsX00)
def wsX0_firstTime : List Cond := .code yX0_firstTime cX0_firstTime 1 (some .int) :: ([.fieldLink RX0 9 "FourPhases$Changes" "times" "[I", .fieldLink RX0 18 "FourPhases$Changes" "head" "I"] ++ wsX00)
def wsX0_firstLink : List Cond := .code yX0_firstLink cX0_firstLink 1 (some .int) :: ([.fieldLink RX0 15 "FourPhases$Changes" "signals" "[I", .fieldLink RX0 18 "FourPhases$Changes" "head" "I"] ++ wsX00)
def wsX0_firstWire : List Cond := .code yX0_firstWire cX0_firstWire 1 (some .int) :: ([.fieldLink RX0 15 "FourPhases$Changes" "signals" "[I", .fieldLink RX0 18 "FourPhases$Changes" "head" "I"] ++ wsX00)
def wsX0_firstValue : List Cond := .code yX0_firstValue cX0_firstValue 1 (some .int) :: ([.fieldLink RX0 15 "FourPhases$Changes" "signals" "[I", .fieldLink RX0 18 "FourPhases$Changes" "head" "I"] ++ wsX00)
def wsX0_removeFirst : List Cond := .code yX0_removeFirst cX0_removeFirst 1 none :: ([.fieldLink RX0 22 "FourPhases$Changes" "count" "I", .fieldLink RX0 18 "FourPhases$Changes" "head" "I"] ++ wsX00)
def wsX4_init : List Cond := .code yX4_init cX4_init 1 none :: ([.methodLink RX4 3 objectInit, .instanceMethod objectInit, .code objectInit ⟨#[0xb1]⟩ 1 none, .arrayClass .int, .fieldLink RX4 9 "FourPhases$Notes" "words" "[I", .fieldLink RX4 15 "FourPhases$Notes" "times" "[I", .fieldLink RX4 18 "FourPhases$Notes" "rights" "[I"] ++ wsX40)
def wsX3_init : List Cond := .code yX3_init cX3_init 1 none :: ([.methodLink RX3 3 objectInit, .instanceMethod objectInit, .code objectInit ⟨#[0xb1]⟩ 1 none, .arrayClass .int, .fieldLink RX3 9 "FourPhases$Link" "delays" "[I"] ++ wsX30)
def wsX5_init : List Cond := .code yX5_init cX5_init 1 none :: ([.methodLink RX5 3 objectInit, .instanceMethod objectInit, .code objectInit ⟨#[0xb1]⟩ 1 none, .arrayClass .int, .fieldLink RX5 9 "FourPhases$Row" "words" "[I"] ++ wsX50)
def wsX3_clear : List Cond := .code yX3_clear cX3_clear 2 none :: ([.fieldLink RX3 9 "FourPhases$Link" "delays" "[I", .fieldLink RX3 15 "FourPhases$Link" "requestAtBeginning" "I", .fieldLink RX3 19 "FourPhases$Link" "requestAtEnd" "I", .fieldLink RX3 22 "FourPhases$Link" "answerAtEnd" "I", .fieldLink RX3 25 "FourPhases$Link" "answerAtBeginning" "I", .fieldLink RX3 28 "FourPhases$Link" "dataAtBeginning" "I", .fieldLink RX3 31 "FourPhases$Link" "dataAtEnd" "I", .fieldLink RX3 34 "FourPhases$Link" "atRest" "Z", .fieldLink RX3 38 "FourPhases$Link" "requestWaits" "Z", .fieldLink RX3 41 "FourPhases$Link" "offeredWords" "I"] ++ wsX30)
def wsX4_clear : List Cond := .code yX4_clear cX4_clear 1 none :: ([.fieldLink RX4 21 "FourPhases$Notes" "count" "I", .fieldLink RX4 25 "FourPhases$Notes" "rightCount" "I"] ++ wsX40)
def wsX2_clearTo_r1 : List Cond := [Cond.fieldLink RX2 53 "FourPhases$Line" "stages" "I", Cond.fieldLink RX2 57 "FourPhases$Line" "time" "I", Cond.fieldLink RX2 60 "FourPhases$Line" "latestSender" "I", Cond.fieldLink RX2 63 "FourPhases$Line" "offeredWords" "I", Cond.fieldLink RX2 66 "FourPhases$Line" "arrivedChanges" "I", Cond.fieldLink RX2 17 "FourPhases$Line" "links" "[LFourPhases$Link;", Cond.fieldLink RX2 21 "FourPhases$Line" "held" "[I", Cond.fieldLink RX2 26 "FourPhases$Line" "rows" "[LFourPhases$Row;", Cond.fieldLink RX2 72 "FourPhases$Row" "count" "I", Cond.fieldLink RX2 33 "FourPhases$Line" "underWay" "LFourPhases$Changes;", Cond.fieldLink RX2 75 "FourPhases$Changes" "count" "I", Cond.fieldLink RX2 40 "FourPhases$Line" "notes" "LFourPhases$Notes;", Cond.methodLink RX2 69 yX3_clear, Cond.instanceMethod yX3_clear, Cond.selects RX3 yX3_clear yX3_clear, Cond.initialized RX3, Cond.code yX3_clear cX3_clear 2 none, Cond.fieldLink RX3 9 "FourPhases$Link" "delays" "[I", Cond.fieldLink RX3 15 "FourPhases$Link" "requestAtBeginning" "I", Cond.fieldLink RX3 19 "FourPhases$Link" "requestAtEnd" "I", Cond.fieldLink RX3 22 "FourPhases$Link" "answerAtEnd" "I", Cond.fieldLink RX3 25 "FourPhases$Link" "answerAtBeginning" "I", Cond.fieldLink RX3 28 "FourPhases$Link" "dataAtBeginning" "I", Cond.fieldLink RX3 31 "FourPhases$Link" "dataAtEnd" "I"]
def wsX2_clearTo_r2 : List Cond := [Cond.fieldLink RX3 34 "FourPhases$Link" "atRest" "Z", Cond.fieldLink RX3 38 "FourPhases$Link" "requestWaits" "Z", Cond.fieldLink RX3 41 "FourPhases$Link" "offeredWords" "I", Cond.methodLink RX2 76 yX4_clear, Cond.instanceMethod yX4_clear, Cond.selects RX4 yX4_clear yX4_clear, Cond.initialized RX4, Cond.code yX4_clear cX4_clear 1 none, Cond.fieldLink RX4 21 "FourPhases$Notes" "count" "I", Cond.fieldLink RX4 25 "FourPhases$Notes" "rightCount" "I"]
def wsX2_clearTo : List Cond := .code yX2_clearTo cX2_clearTo 3 none :: ((wsX2_clearTo_r1 ++ wsX2_clearTo_r2) ++ wsX20 ++ wsX50 ++ wsX00 ++ wsX30 ++ wsX40)
def wsX2_init_r1 : List Cond := [Cond.methodLink RX2 3 objectInit, Cond.instanceMethod objectInit, Cond.code objectInit ⟨#[0xb1]⟩ 1 none, Cond.arrayClass .int, Cond.fieldLink RX2 9 "FourPhases$Line" "settings" "[I", Cond.classLink RX2 15 RX3, Cond.fieldLink RX2 17 "FourPhases$Line" "links" "[LFourPhases$Link;", Cond.fieldLink RX2 21 "FourPhases$Line" "held" "[I", Cond.classLink RX2 24 RX5, Cond.fieldLink RX2 26 "FourPhases$Line" "rows" "[LFourPhases$Row;", Cond.classLink RX2 30 RX0, Cond.instantiable RX0 4, Cond.initialized RX0, Cond.fieldLink RX2 33 "FourPhases$Line" "underWay" "LFourPhases$Changes;", Cond.classLink RX2 37 RX4, Cond.instantiable RX4 5, Cond.initialized RX4, Cond.fieldLink RX2 40 "FourPhases$Line" "notes" "LFourPhases$Notes;", Cond.fieldLink RX2 44 "FourPhases$Line" "offered" "[I", Cond.instantiable RX3 10, Cond.initialized RX3, Cond.instantiable RX5 2, Cond.initialized RX5, Cond.instanceMethod yX0_init]
def wsX2_init_r2 : List Cond := [Cond.code yX0_init cX0_init 1 none, Cond.methodLink RX0 3 objectInit, Cond.fieldLink RX0 9 "FourPhases$Changes" "times" "[I", Cond.fieldLink RX0 15 "FourPhases$Changes" "signals" "[I", Cond.instanceMethod yX4_init, Cond.code yX4_init cX4_init 1 none, Cond.methodLink RX4 3 objectInit, Cond.fieldLink RX4 9 "FourPhases$Notes" "words" "[I", Cond.fieldLink RX4 15 "FourPhases$Notes" "times" "[I", Cond.fieldLink RX4 18 "FourPhases$Notes" "rights" "[I", Cond.instanceMethod yX3_init, Cond.code yX3_init cX3_init 1 none, Cond.methodLink RX3 3 objectInit, Cond.fieldLink RX3 9 "FourPhases$Link" "delays" "[I", Cond.instanceMethod yX5_init, Cond.code yX5_init cX5_init 1 none, Cond.methodLink RX5 3 objectInit, Cond.fieldLink RX5 9 "FourPhases$Row" "words" "[I", Cond.methodLink RX2 49 yX2_clearTo, Cond.instanceMethod yX2_clearTo, Cond.selects RX2 yX2_clearTo yX2_clearTo, Cond.initialized RX2, Cond.code yX2_clearTo cX2_clearTo 3 none, Cond.fieldLink RX2 53 "FourPhases$Line" "stages" "I"]
def wsX2_init_r3 : List Cond := [Cond.fieldLink RX2 57 "FourPhases$Line" "time" "I", Cond.fieldLink RX2 60 "FourPhases$Line" "latestSender" "I", Cond.fieldLink RX2 63 "FourPhases$Line" "offeredWords" "I", Cond.fieldLink RX2 66 "FourPhases$Line" "arrivedChanges" "I", Cond.fieldLink RX2 72 "FourPhases$Row" "count" "I", Cond.fieldLink RX2 75 "FourPhases$Changes" "count" "I", Cond.methodLink RX2 69 yX3_clear, Cond.instanceMethod yX3_clear, Cond.selects RX3 yX3_clear yX3_clear, Cond.code yX3_clear cX3_clear 2 none, Cond.fieldLink RX3 15 "FourPhases$Link" "requestAtBeginning" "I", Cond.fieldLink RX3 19 "FourPhases$Link" "requestAtEnd" "I", Cond.fieldLink RX3 22 "FourPhases$Link" "answerAtEnd" "I", Cond.fieldLink RX3 25 "FourPhases$Link" "answerAtBeginning" "I", Cond.fieldLink RX3 28 "FourPhases$Link" "dataAtBeginning" "I", Cond.fieldLink RX3 31 "FourPhases$Link" "dataAtEnd" "I", Cond.fieldLink RX3 34 "FourPhases$Link" "atRest" "Z", Cond.fieldLink RX3 38 "FourPhases$Link" "requestWaits" "Z", Cond.fieldLink RX3 41 "FourPhases$Link" "offeredWords" "I", Cond.methodLink RX2 76 yX4_clear, Cond.instanceMethod yX4_clear, Cond.selects RX4 yX4_clear yX4_clear, Cond.code yX4_clear cX4_clear 1 none, Cond.fieldLink RX4 21 "FourPhases$Notes" "count" "I"]
def wsX2_init_r4 : List Cond := [Cond.fieldLink RX4 25 "FourPhases$Notes" "rightCount" "I"]
def wsX2_init : List Cond := .code yX2_init cX2_init 2 none :: ((wsX2_init_r1 ++ (wsX2_init_r2 ++ (wsX2_init_r3 ++ wsX2_init_r4))) ++ wsX20 ++ wsX00 ++ wsX40 ++ wsX30 ++ wsX50)
def wsX1_init_r1 : List Cond := [Cond.methodLink RX1 3 objectInit, Cond.instanceMethod objectInit, Cond.code objectInit ⟨#[0xb1]⟩ 1 none, Cond.classLink RX1 9 RX2, Cond.fieldLink RX1 11 "FourPhases$History" "states" "[LFourPhases$Line;", Cond.instantiable RX2 12, Cond.initialized RX2, Cond.methodLink RX1 17 yX2_init, Cond.instanceMethod yX2_init, Cond.code yX2_init cX2_init 2 none, Cond.methodLink RX2 3 objectInit, Cond.arrayClass .int, Cond.fieldLink RX2 9 "FourPhases$Line" "settings" "[I", Cond.classLink RX2 15 RX3, Cond.fieldLink RX2 17 "FourPhases$Line" "links" "[LFourPhases$Link;", Cond.fieldLink RX2 21 "FourPhases$Line" "held" "[I", Cond.classLink RX2 24 RX5, Cond.fieldLink RX2 26 "FourPhases$Line" "rows" "[LFourPhases$Row;", Cond.classLink RX2 30 RX0, Cond.instantiable RX0 4, Cond.initialized RX0, Cond.fieldLink RX2 33 "FourPhases$Line" "underWay" "LFourPhases$Changes;", Cond.classLink RX2 37 RX4, Cond.instantiable RX4 5]
def wsX1_init_r2 : List Cond := [Cond.initialized RX4, Cond.fieldLink RX2 40 "FourPhases$Line" "notes" "LFourPhases$Notes;", Cond.fieldLink RX2 44 "FourPhases$Line" "offered" "[I", Cond.instantiable RX3 10, Cond.initialized RX3, Cond.instantiable RX5 2, Cond.initialized RX5, Cond.instanceMethod yX0_init, Cond.code yX0_init cX0_init 1 none, Cond.methodLink RX0 3 objectInit, Cond.fieldLink RX0 9 "FourPhases$Changes" "times" "[I", Cond.fieldLink RX0 15 "FourPhases$Changes" "signals" "[I", Cond.instanceMethod yX4_init, Cond.code yX4_init cX4_init 1 none, Cond.methodLink RX4 3 objectInit, Cond.fieldLink RX4 9 "FourPhases$Notes" "words" "[I", Cond.fieldLink RX4 15 "FourPhases$Notes" "times" "[I", Cond.fieldLink RX4 18 "FourPhases$Notes" "rights" "[I", Cond.instanceMethod yX3_init, Cond.code yX3_init cX3_init 1 none, Cond.methodLink RX3 3 objectInit, Cond.fieldLink RX3 9 "FourPhases$Link" "delays" "[I", Cond.instanceMethod yX5_init, Cond.code yX5_init cX5_init 1 none]
def wsX1_init_r3 : List Cond := [Cond.methodLink RX5 3 objectInit, Cond.fieldLink RX5 9 "FourPhases$Row" "words" "[I", Cond.methodLink RX2 49 yX2_clearTo, Cond.instanceMethod yX2_clearTo, Cond.selects RX2 yX2_clearTo yX2_clearTo, Cond.code yX2_clearTo cX2_clearTo 3 none, Cond.fieldLink RX2 53 "FourPhases$Line" "stages" "I", Cond.fieldLink RX2 57 "FourPhases$Line" "time" "I", Cond.fieldLink RX2 60 "FourPhases$Line" "latestSender" "I", Cond.fieldLink RX2 63 "FourPhases$Line" "offeredWords" "I", Cond.fieldLink RX2 66 "FourPhases$Line" "arrivedChanges" "I", Cond.fieldLink RX2 72 "FourPhases$Row" "count" "I", Cond.fieldLink RX2 75 "FourPhases$Changes" "count" "I", Cond.methodLink RX2 69 yX3_clear, Cond.instanceMethod yX3_clear, Cond.selects RX3 yX3_clear yX3_clear, Cond.code yX3_clear cX3_clear 2 none, Cond.fieldLink RX3 15 "FourPhases$Link" "requestAtBeginning" "I", Cond.fieldLink RX3 19 "FourPhases$Link" "requestAtEnd" "I", Cond.fieldLink RX3 22 "FourPhases$Link" "answerAtEnd" "I", Cond.fieldLink RX3 25 "FourPhases$Link" "answerAtBeginning" "I", Cond.fieldLink RX3 28 "FourPhases$Link" "dataAtBeginning" "I", Cond.fieldLink RX3 31 "FourPhases$Link" "dataAtEnd" "I", Cond.fieldLink RX3 34 "FourPhases$Link" "atRest" "Z"]
def wsX1_init_r4 : List Cond := [Cond.fieldLink RX3 38 "FourPhases$Link" "requestWaits" "Z", Cond.fieldLink RX3 41 "FourPhases$Link" "offeredWords" "I", Cond.methodLink RX2 76 yX4_clear, Cond.instanceMethod yX4_clear, Cond.selects RX4 yX4_clear yX4_clear, Cond.code yX4_clear cX4_clear 1 none, Cond.fieldLink RX4 21 "FourPhases$Notes" "count" "I", Cond.fieldLink RX4 25 "FourPhases$Notes" "rightCount" "I"]
def wsX1_init : List Cond := .code yX1_init cX1_init 2 none :: ((wsX1_init_r1 ++ (wsX1_init_r2 ++ (wsX1_init_r3 ++ wsX1_init_r4))) ++ wsX10 ++ wsX20 ++ wsX00 ++ wsX40 ++ wsX30 ++ wsX50)
def wsX1_dropOldest : List Cond := .code yX1_dropOldest cX1_dropOldest 3 none :: ([.fieldLink RX1 11 "FourPhases$History" "states" "[LFourPhases$Line;", .fieldLink RX1 18 "FourPhases$History" "count" "I"] ++ wsX10)
def wsX3_copyFrom : List Cond := .code yX3_copyFrom cX3_copyFrom 2 none :: ([.fieldLink RX3 9 "FourPhases$Link" "delays" "[I", .methodLink RX3 44 arraycopyName, .native arraycopyName, .static arraycopyName, .initialized "java/lang/System", .fieldLink RX3 15 "FourPhases$Link" "requestAtBeginning" "I", .fieldLink RX3 19 "FourPhases$Link" "requestAtEnd" "I", .fieldLink RX3 22 "FourPhases$Link" "answerAtEnd" "I", .fieldLink RX3 25 "FourPhases$Link" "answerAtBeginning" "I", .fieldLink RX3 28 "FourPhases$Link" "dataAtBeginning" "I", .fieldLink RX3 31 "FourPhases$Link" "dataAtEnd" "I", .fieldLink RX3 34 "FourPhases$Link" "atRest" "Z", .fieldLink RX3 38 "FourPhases$Link" "requestWaits" "Z", .fieldLink RX3 41 "FourPhases$Link" "offeredWords" "I"] ++ wsX30)
def wsX5_copyFrom : List Cond := .code yX5_copyFrom cX5_copyFrom 2 none :: ([.fieldLink RX5 15 "FourPhases$Row" "count" "I", .fieldLink RX5 9 "FourPhases$Row" "words" "[I", .methodLink RX5 19 arraycopyName, .native arraycopyName, .static arraycopyName, .initialized "java/lang/System"] ++ wsX50)
def wsX4_copyFrom : List Cond := .code yX4_copyFrom cX4_copyFrom 2 none :: ([.fieldLink RX4 9 "FourPhases$Notes" "words" "[I", .methodLink RX4 28 arraycopyName, .native arraycopyName, .static arraycopyName, .initialized "java/lang/System", .fieldLink RX4 15 "FourPhases$Notes" "times" "[I", .fieldLink RX4 18 "FourPhases$Notes" "rights" "[I", .fieldLink RX4 21 "FourPhases$Notes" "count" "I", .fieldLink RX4 25 "FourPhases$Notes" "rightCount" "I"] ++ wsX40)
def wsX2_copyFrom_r1 : List Cond := [Cond.fieldLink RX2 53 "FourPhases$Line" "stages" "I", Cond.fieldLink RX2 57 "FourPhases$Line" "time" "I", Cond.fieldLink RX2 60 "FourPhases$Line" "latestSender" "I", Cond.fieldLink RX2 63 "FourPhases$Line" "offeredWords" "I", Cond.fieldLink RX2 66 "FourPhases$Line" "arrivedChanges" "I", Cond.fieldLink RX2 9 "FourPhases$Line" "settings" "[I", Cond.methodLink RX2 77 arraycopyName, Cond.native arraycopyName, Cond.static arraycopyName, Cond.initialized "java/lang/System", Cond.fieldLink RX2 17 "FourPhases$Line" "links" "[LFourPhases$Link;", Cond.fieldLink RX2 21 "FourPhases$Line" "held" "[I", Cond.fieldLink RX2 26 "FourPhases$Line" "rows" "[LFourPhases$Row;", Cond.fieldLink RX2 33 "FourPhases$Line" "underWay" "LFourPhases$Changes;", Cond.fieldLink RX2 40 "FourPhases$Line" "notes" "LFourPhases$Notes;", Cond.fieldLink RX2 44 "FourPhases$Line" "offered" "[I", Cond.methodLink RX2 83 yX3_copyFrom, Cond.instanceMethod yX3_copyFrom, Cond.selects RX3 yX3_copyFrom yX3_copyFrom, Cond.initialized RX3, Cond.code yX3_copyFrom cX3_copyFrom 2 none, Cond.fieldLink RX3 9 "FourPhases$Link" "delays" "[I", Cond.methodLink RX3 44 arraycopyName, Cond.fieldLink RX3 15 "FourPhases$Link" "requestAtBeginning" "I"]
def wsX2_copyFrom_r2 : List Cond := [Cond.fieldLink RX3 19 "FourPhases$Link" "requestAtEnd" "I", Cond.fieldLink RX3 22 "FourPhases$Link" "answerAtEnd" "I", Cond.fieldLink RX3 25 "FourPhases$Link" "answerAtBeginning" "I", Cond.fieldLink RX3 28 "FourPhases$Link" "dataAtBeginning" "I", Cond.fieldLink RX3 31 "FourPhases$Link" "dataAtEnd" "I", Cond.fieldLink RX3 34 "FourPhases$Link" "atRest" "Z", Cond.fieldLink RX3 38 "FourPhases$Link" "requestWaits" "Z", Cond.fieldLink RX3 41 "FourPhases$Link" "offeredWords" "I", Cond.methodLink RX2 87 yX5_copyFrom, Cond.instanceMethod yX5_copyFrom, Cond.selects RX5 yX5_copyFrom yX5_copyFrom, Cond.initialized RX5, Cond.code yX5_copyFrom cX5_copyFrom 2 none, Cond.fieldLink RX5 15 "FourPhases$Row" "count" "I", Cond.fieldLink RX5 9 "FourPhases$Row" "words" "[I", Cond.methodLink RX5 19 arraycopyName, Cond.methodLink RX2 90 yX0_copyFrom, Cond.instanceMethod yX0_copyFrom, Cond.selects RX0 yX0_copyFrom yX0_copyFrom, Cond.initialized RX0, Cond.code yX0_copyFrom cX0_copyFrom 2 none, Cond.fieldLink RX0 18 "FourPhases$Changes" "head" "I", Cond.fieldLink RX0 22 "FourPhases$Changes" "count" "I", Cond.fieldLink RX0 9 "FourPhases$Changes" "times" "[I"]
def wsX2_copyFrom_r3 : List Cond := [Cond.methodLink RX0 25 arraycopyName, Cond.fieldLink RX0 15 "FourPhases$Changes" "signals" "[I", Cond.methodLink RX2 93 yX4_copyFrom, Cond.instanceMethod yX4_copyFrom, Cond.selects RX4 yX4_copyFrom yX4_copyFrom, Cond.initialized RX4, Cond.code yX4_copyFrom cX4_copyFrom 2 none, Cond.fieldLink RX4 9 "FourPhases$Notes" "words" "[I", Cond.methodLink RX4 28 arraycopyName, Cond.fieldLink RX4 15 "FourPhases$Notes" "times" "[I", Cond.fieldLink RX4 18 "FourPhases$Notes" "rights" "[I", Cond.fieldLink RX4 21 "FourPhases$Notes" "count" "I", Cond.fieldLink RX4 25 "FourPhases$Notes" "rightCount" "I"]
def wsX2_copyFrom : List Cond := .code yX2_copyFrom cX2_copyFrom 3 none :: ((wsX2_copyFrom_r1 ++ (wsX2_copyFrom_r2 ++ wsX2_copyFrom_r3)) ++ wsX20 ++ wsX30 ++ wsX50 ++ wsX00 ++ wsX40)
def wsX1_record_r1 : List Cond := [Cond.fieldLink RX1 18 "FourPhases$History" "count" "I", Cond.fieldLink RX1 11 "FourPhases$History" "states" "[LFourPhases$Line;", Cond.methodLink RX1 22 yX1_dropOldest, Cond.instanceMethod yX1_dropOldest, Cond.selects RX1 yX1_dropOldest yX1_dropOldest, Cond.initialized RX1, Cond.code yX1_dropOldest cX1_dropOldest 3 none, Cond.methodLink RX1 25 yX2_copyFrom, Cond.instanceMethod yX2_copyFrom, Cond.selects RX2 yX2_copyFrom yX2_copyFrom, Cond.initialized RX2, Cond.code yX2_copyFrom cX2_copyFrom 3 none, Cond.fieldLink RX2 53 "FourPhases$Line" "stages" "I", Cond.fieldLink RX2 57 "FourPhases$Line" "time" "I", Cond.fieldLink RX2 60 "FourPhases$Line" "latestSender" "I", Cond.fieldLink RX2 63 "FourPhases$Line" "offeredWords" "I", Cond.fieldLink RX2 66 "FourPhases$Line" "arrivedChanges" "I", Cond.fieldLink RX2 9 "FourPhases$Line" "settings" "[I", Cond.methodLink RX2 77 arraycopyName, Cond.native arraycopyName, Cond.static arraycopyName, Cond.initialized "java/lang/System", Cond.fieldLink RX2 17 "FourPhases$Line" "links" "[LFourPhases$Link;", Cond.fieldLink RX2 21 "FourPhases$Line" "held" "[I"]
def wsX1_record_r2 : List Cond := [Cond.fieldLink RX2 26 "FourPhases$Line" "rows" "[LFourPhases$Row;", Cond.fieldLink RX2 33 "FourPhases$Line" "underWay" "LFourPhases$Changes;", Cond.fieldLink RX2 40 "FourPhases$Line" "notes" "LFourPhases$Notes;", Cond.fieldLink RX2 44 "FourPhases$Line" "offered" "[I", Cond.methodLink RX2 83 yX3_copyFrom, Cond.instanceMethod yX3_copyFrom, Cond.selects RX3 yX3_copyFrom yX3_copyFrom, Cond.initialized RX3, Cond.code yX3_copyFrom cX3_copyFrom 2 none, Cond.fieldLink RX3 9 "FourPhases$Link" "delays" "[I", Cond.methodLink RX3 44 arraycopyName, Cond.fieldLink RX3 15 "FourPhases$Link" "requestAtBeginning" "I", Cond.fieldLink RX3 19 "FourPhases$Link" "requestAtEnd" "I", Cond.fieldLink RX3 22 "FourPhases$Link" "answerAtEnd" "I", Cond.fieldLink RX3 25 "FourPhases$Link" "answerAtBeginning" "I", Cond.fieldLink RX3 28 "FourPhases$Link" "dataAtBeginning" "I", Cond.fieldLink RX3 31 "FourPhases$Link" "dataAtEnd" "I", Cond.fieldLink RX3 34 "FourPhases$Link" "atRest" "Z", Cond.fieldLink RX3 38 "FourPhases$Link" "requestWaits" "Z", Cond.fieldLink RX3 41 "FourPhases$Link" "offeredWords" "I", Cond.methodLink RX2 87 yX5_copyFrom, Cond.instanceMethod yX5_copyFrom, Cond.selects RX5 yX5_copyFrom yX5_copyFrom, Cond.initialized RX5]
def wsX1_record_r3 : List Cond := [Cond.code yX5_copyFrom cX5_copyFrom 2 none, Cond.fieldLink RX5 15 "FourPhases$Row" "count" "I", Cond.fieldLink RX5 9 "FourPhases$Row" "words" "[I", Cond.methodLink RX5 19 arraycopyName, Cond.methodLink RX2 90 yX0_copyFrom, Cond.instanceMethod yX0_copyFrom, Cond.selects RX0 yX0_copyFrom yX0_copyFrom, Cond.initialized RX0, Cond.code yX0_copyFrom cX0_copyFrom 2 none, Cond.fieldLink RX0 18 "FourPhases$Changes" "head" "I", Cond.fieldLink RX0 22 "FourPhases$Changes" "count" "I", Cond.fieldLink RX0 9 "FourPhases$Changes" "times" "[I", Cond.methodLink RX0 25 arraycopyName, Cond.fieldLink RX0 15 "FourPhases$Changes" "signals" "[I", Cond.methodLink RX2 93 yX4_copyFrom, Cond.instanceMethod yX4_copyFrom, Cond.selects RX4 yX4_copyFrom yX4_copyFrom, Cond.initialized RX4, Cond.code yX4_copyFrom cX4_copyFrom 2 none, Cond.fieldLink RX4 9 "FourPhases$Notes" "words" "[I", Cond.methodLink RX4 28 arraycopyName, Cond.fieldLink RX4 15 "FourPhases$Notes" "times" "[I", Cond.fieldLink RX4 18 "FourPhases$Notes" "rights" "[I", Cond.fieldLink RX4 21 "FourPhases$Notes" "count" "I"]
def wsX1_record_r4 : List Cond := [Cond.fieldLink RX4 25 "FourPhases$Notes" "rightCount" "I"]
def wsX1_record : List Cond := .code yX1_record cX1_record 2 none :: ((wsX1_record_r1 ++ (wsX1_record_r2 ++ (wsX1_record_r3 ++ wsX1_record_r4))) ++ wsX10 ++ wsX20 ++ wsX30 ++ wsX50 ++ wsX00 ++ wsX40)
def wsX1_giveBack_r1 : List Cond := [Cond.fieldLink RX1 18 "FourPhases$History" "count" "I", Cond.fieldLink RX1 11 "FourPhases$History" "states" "[LFourPhases$Line;", Cond.methodLink RX1 25 yX2_copyFrom, Cond.instanceMethod yX2_copyFrom, Cond.selects RX2 yX2_copyFrom yX2_copyFrom, Cond.initialized RX2, Cond.code yX2_copyFrom cX2_copyFrom 3 none, Cond.fieldLink RX2 53 "FourPhases$Line" "stages" "I", Cond.fieldLink RX2 57 "FourPhases$Line" "time" "I", Cond.fieldLink RX2 60 "FourPhases$Line" "latestSender" "I", Cond.fieldLink RX2 63 "FourPhases$Line" "offeredWords" "I", Cond.fieldLink RX2 66 "FourPhases$Line" "arrivedChanges" "I", Cond.fieldLink RX2 9 "FourPhases$Line" "settings" "[I", Cond.methodLink RX2 77 arraycopyName, Cond.native arraycopyName, Cond.static arraycopyName, Cond.initialized "java/lang/System", Cond.fieldLink RX2 17 "FourPhases$Line" "links" "[LFourPhases$Link;", Cond.fieldLink RX2 21 "FourPhases$Line" "held" "[I", Cond.fieldLink RX2 26 "FourPhases$Line" "rows" "[LFourPhases$Row;", Cond.fieldLink RX2 33 "FourPhases$Line" "underWay" "LFourPhases$Changes;", Cond.fieldLink RX2 40 "FourPhases$Line" "notes" "LFourPhases$Notes;", Cond.fieldLink RX2 44 "FourPhases$Line" "offered" "[I", Cond.methodLink RX2 83 yX3_copyFrom]
def wsX1_giveBack_r2 : List Cond := [Cond.instanceMethod yX3_copyFrom, Cond.selects RX3 yX3_copyFrom yX3_copyFrom, Cond.initialized RX3, Cond.code yX3_copyFrom cX3_copyFrom 2 none, Cond.fieldLink RX3 9 "FourPhases$Link" "delays" "[I", Cond.methodLink RX3 44 arraycopyName, Cond.fieldLink RX3 15 "FourPhases$Link" "requestAtBeginning" "I", Cond.fieldLink RX3 19 "FourPhases$Link" "requestAtEnd" "I", Cond.fieldLink RX3 22 "FourPhases$Link" "answerAtEnd" "I", Cond.fieldLink RX3 25 "FourPhases$Link" "answerAtBeginning" "I", Cond.fieldLink RX3 28 "FourPhases$Link" "dataAtBeginning" "I", Cond.fieldLink RX3 31 "FourPhases$Link" "dataAtEnd" "I", Cond.fieldLink RX3 34 "FourPhases$Link" "atRest" "Z", Cond.fieldLink RX3 38 "FourPhases$Link" "requestWaits" "Z", Cond.fieldLink RX3 41 "FourPhases$Link" "offeredWords" "I", Cond.methodLink RX2 87 yX5_copyFrom, Cond.instanceMethod yX5_copyFrom, Cond.selects RX5 yX5_copyFrom yX5_copyFrom, Cond.initialized RX5, Cond.code yX5_copyFrom cX5_copyFrom 2 none, Cond.fieldLink RX5 15 "FourPhases$Row" "count" "I", Cond.fieldLink RX5 9 "FourPhases$Row" "words" "[I", Cond.methodLink RX5 19 arraycopyName, Cond.methodLink RX2 90 yX0_copyFrom]
def wsX1_giveBack_r3 : List Cond := [Cond.instanceMethod yX0_copyFrom, Cond.selects RX0 yX0_copyFrom yX0_copyFrom, Cond.initialized RX0, Cond.code yX0_copyFrom cX0_copyFrom 2 none, Cond.fieldLink RX0 18 "FourPhases$Changes" "head" "I", Cond.fieldLink RX0 22 "FourPhases$Changes" "count" "I", Cond.fieldLink RX0 9 "FourPhases$Changes" "times" "[I", Cond.methodLink RX0 25 arraycopyName, Cond.fieldLink RX0 15 "FourPhases$Changes" "signals" "[I", Cond.methodLink RX2 93 yX4_copyFrom, Cond.instanceMethod yX4_copyFrom, Cond.selects RX4 yX4_copyFrom yX4_copyFrom, Cond.initialized RX4, Cond.code yX4_copyFrom cX4_copyFrom 2 none, Cond.fieldLink RX4 9 "FourPhases$Notes" "words" "[I", Cond.methodLink RX4 28 arraycopyName, Cond.fieldLink RX4 15 "FourPhases$Notes" "times" "[I", Cond.fieldLink RX4 18 "FourPhases$Notes" "rights" "[I", Cond.fieldLink RX4 21 "FourPhases$Notes" "count" "I", Cond.fieldLink RX4 25 "FourPhases$Notes" "rightCount" "I"]
def wsX1_giveBack : List Cond := .code yX1_giveBack cX1_giveBack 2 (some .int) :: ((wsX1_giveBack_r1 ++ (wsX1_giveBack_r2 ++ wsX1_giveBack_r3)) ++ wsX10 ++ wsX20 ++ wsX30 ++ wsX50 ++ wsX00 ++ wsX40)
def wsX2_hasLink : List Cond := .code yX2_hasLink cX2_hasLink 2 (some .boolean) :: ([.fieldLink RX2 53 "FourPhases$Line" "stages" "I"] ++ wsX20)
def wsX2_isQuiet : List Cond := .code yX2_isQuiet cX2_isQuiet 1 (some .boolean) :: ([.fieldLink RX2 33 "FourPhases$Line" "underWay" "LFourPhases$Changes;", .fieldLink RX2 75 "FourPhases$Changes" "count" "I"] ++ wsX20 ++ wsX00)
def wsX2_fullStages : List Cond := .code yX2_fullStages cX2_fullStages 3 (some .int) :: ([.fieldLink RX2 53 "FourPhases$Line" "stages" "I", .fieldLink RX2 21 "FourPhases$Line" "held" "[I"] ++ wsX20)
def wsX2_waitingWords : List Cond := .code yX2_waitingWords cX2_waitingWords 1 (some .int) :: ([.fieldLink RX2 26 "FourPhases$Line" "rows" "[LFourPhases$Row;", .fieldLink RX2 72 "FourPhases$Row" "count" "I"] ++ wsX20 ++ wsX50)
def wsX5_append : List Cond := .code yX5_append cX5_append 2 none :: ([.fieldLink RX5 15 "FourPhases$Row" "count" "I", .fieldLink RX5 9 "FourPhases$Row" "words" "[I"] ++ wsX50)
def wsX2_chosenSender : List Cond := .code yX2_chosenSender cX2_chosenSender 1 (some .int) :: ([.fieldLink RX2 26 "FourPhases$Line" "rows" "[LFourPhases$Row;", .fieldLink RX2 72 "FourPhases$Row" "count" "I", .fieldLink RX2 9 "FourPhases$Line" "settings" "[I", .fieldLink RX2 60 "FourPhases$Line" "latestSender" "I"] ++ wsX20 ++ wsX50)
def wsX5_removeFirst : List Cond := .code yX5_removeFirst cX5_removeFirst 3 (some .int) :: ([.fieldLink RX5 15 "FourPhases$Row" "count" "I", .fieldLink RX5 9 "FourPhases$Row" "words" "[I"] ++ wsX50)
def wsX2_letOneGo : List Cond := .code yX2_letOneGo cX2_letOneGo 4 (some .int) :: ([.fieldLink RX2 26 "FourPhases$Line" "rows" "[LFourPhases$Row;", .fieldLink RX2 60 "FourPhases$Line" "latestSender" "I", .fieldLink RX2 44 "FourPhases$Line" "offered" "[I", .fieldLink RX2 63 "FourPhases$Line" "offeredWords" "I", .methodLink RX2 173 yX2_chosenSender, .instanceMethod yX2_chosenSender, .selects RX2 yX2_chosenSender yX2_chosenSender, .initialized RX2, .code yX2_chosenSender cX2_chosenSender 1 (some .int), .fieldLink RX2 72 "FourPhases$Row" "count" "I", .fieldLink RX2 9 "FourPhases$Line" "settings" "[I", .methodLink RX2 176 yX5_removeFirst, .instanceMethod yX5_removeFirst, .selects RX5 yX5_removeFirst yX5_removeFirst, .initialized RX5, .code yX5_removeFirst cX5_removeFirst 3 (some .int), .fieldLink RX5 15 "FourPhases$Row" "count" "I", .fieldLink RX5 9 "FourPhases$Row" "words" "[I"] ++ wsX20 ++ wsX50)
def wsX2_makeRequest : List Cond := .code yX2_makeRequest cX2_makeRequest 4 none :: ([.fieldLink RX2 17 "FourPhases$Line" "links" "[LFourPhases$Link;", .fieldLink RX2 188 "FourPhases$Link" "requestAtBeginning" "I", .fieldLink RX2 33 "FourPhases$Line" "underWay" "LFourPhases$Changes;", .fieldLink RX2 57 "FourPhases$Line" "time" "I", .fieldLink RX2 115 "FourPhases$Link" "delays" "[I", .methodLink RX2 183 yX0_insert, .instanceMethod yX0_insert, .selects RX0 yX0_insert yX0_insert, .initialized RX0, .code yX0_insert cX0_insert 8 none, .fieldLink RX0 22 "FourPhases$Changes" "count" "I", .fieldLink RX0 9 "FourPhases$Changes" "times" "[I", .fieldLink RX0 18 "FourPhases$Changes" "head" "I", .fieldLink RX0 15 "FourPhases$Changes" "signals" "[I"] ++ wsX20 ++ wsX30 ++ wsX00)
def wsX2_offer : List Cond := .code yX2_offer cX2_offer 4 none :: ([.fieldLink RX2 17 "FourPhases$Line" "links" "[LFourPhases$Link;", .fieldLink RX2 180 "FourPhases$Link" "dataAtBeginning" "I", .fieldLink RX2 33 "FourPhases$Line" "underWay" "LFourPhases$Changes;", .fieldLink RX2 57 "FourPhases$Line" "time" "I", .fieldLink RX2 115 "FourPhases$Link" "delays" "[I", .fieldLink RX2 9 "FourPhases$Line" "settings" "[I", .fieldLink RX2 99 "FourPhases$Link" "atRest" "Z", .fieldLink RX2 187 "FourPhases$Link" "offeredWords" "I", .methodLink RX2 183 yX0_insert, .instanceMethod yX0_insert, .selects RX0 yX0_insert yX0_insert, .initialized RX0, .code yX0_insert cX0_insert 8 none, .fieldLink RX0 22 "FourPhases$Changes" "count" "I", .fieldLink RX0 9 "FourPhases$Changes" "times" "[I", .fieldLink RX0 18 "FourPhases$Changes" "head" "I", .fieldLink RX0 15 "FourPhases$Changes" "signals" "[I", .methodLink RX2 170 yX2_makeRequest, .instanceMethod yX2_makeRequest, .selects RX2 yX2_makeRequest yX2_makeRequest, .initialized RX2, .code yX2_makeRequest cX2_makeRequest 4 none, .fieldLink RX2 188 "FourPhases$Link" "requestAtBeginning" "I"] ++ wsX20 ++ wsX30 ++ wsX00)
def wsX2_addWord_r1 : List Cond := [Cond.fieldLink RX2 26 "FourPhases$Line" "rows" "[LFourPhases$Row;", Cond.fieldLink RX2 72 "FourPhases$Row" "count" "I", Cond.fieldLink RX2 17 "FourPhases$Line" "links" "[LFourPhases$Link;", Cond.fieldLink RX2 99 "FourPhases$Link" "atRest" "Z", Cond.methodLink RX2 96 yX5_append, Cond.instanceMethod yX5_append, Cond.selects RX5 yX5_append yX5_append, Cond.initialized RX5, Cond.code yX5_append cX5_append 2 none, Cond.fieldLink RX5 15 "FourPhases$Row" "count" "I", Cond.fieldLink RX5 9 "FourPhases$Row" "words" "[I", Cond.methodLink RX2 103 yX2_letOneGo, Cond.instanceMethod yX2_letOneGo, Cond.selects RX2 yX2_letOneGo yX2_letOneGo, Cond.initialized RX2, Cond.code yX2_letOneGo cX2_letOneGo 4 (some .int), Cond.fieldLink RX2 60 "FourPhases$Line" "latestSender" "I", Cond.fieldLink RX2 44 "FourPhases$Line" "offered" "[I", Cond.fieldLink RX2 63 "FourPhases$Line" "offeredWords" "I", Cond.methodLink RX2 173 yX2_chosenSender, Cond.instanceMethod yX2_chosenSender, Cond.selects RX2 yX2_chosenSender yX2_chosenSender, Cond.code yX2_chosenSender cX2_chosenSender 1 (some .int), Cond.fieldLink RX2 9 "FourPhases$Line" "settings" "[I"]
def wsX2_addWord_r2 : List Cond := [Cond.methodLink RX2 176 yX5_removeFirst, Cond.instanceMethod yX5_removeFirst, Cond.selects RX5 yX5_removeFirst yX5_removeFirst, Cond.code yX5_removeFirst cX5_removeFirst 3 (some .int), Cond.methodLink RX2 107 yX2_offer, Cond.instanceMethod yX2_offer, Cond.selects RX2 yX2_offer yX2_offer, Cond.code yX2_offer cX2_offer 4 none, Cond.fieldLink RX2 180 "FourPhases$Link" "dataAtBeginning" "I", Cond.fieldLink RX2 33 "FourPhases$Line" "underWay" "LFourPhases$Changes;", Cond.fieldLink RX2 57 "FourPhases$Line" "time" "I", Cond.fieldLink RX2 115 "FourPhases$Link" "delays" "[I", Cond.fieldLink RX2 187 "FourPhases$Link" "offeredWords" "I", Cond.methodLink RX2 183 yX0_insert, Cond.instanceMethod yX0_insert, Cond.selects RX0 yX0_insert yX0_insert, Cond.initialized RX0, Cond.code yX0_insert cX0_insert 8 none, Cond.fieldLink RX0 22 "FourPhases$Changes" "count" "I", Cond.fieldLink RX0 9 "FourPhases$Changes" "times" "[I", Cond.fieldLink RX0 18 "FourPhases$Changes" "head" "I", Cond.fieldLink RX0 15 "FourPhases$Changes" "signals" "[I", Cond.methodLink RX2 170 yX2_makeRequest, Cond.instanceMethod yX2_makeRequest]
def wsX2_addWord_r3 : List Cond := [Cond.selects RX2 yX2_makeRequest yX2_makeRequest, Cond.code yX2_makeRequest cX2_makeRequest 4 none, Cond.fieldLink RX2 188 "FourPhases$Link" "requestAtBeginning" "I"]
def wsX2_addWord : List Cond := .code yX2_addWord cX2_addWord 4 (some .int) :: ((wsX2_addWord_r1 ++ (wsX2_addWord_r2 ++ wsX2_addWord_r3)) ++ wsX20 ++ wsX50 ++ wsX30 ++ wsX00)
def wsX2_changeDelay : List Cond := .code yX2_changeDelay cX2_changeDelay 5 (some .int) :: ([.fieldLink RX2 17 "FourPhases$Line" "links" "[LFourPhases$Link;", .fieldLink RX2 115 "FourPhases$Link" "delays" "[I", .methodLink RX2 111 yX2_hasLink, .instanceMethod yX2_hasLink, .selects RX2 yX2_hasLink yX2_hasLink, .initialized RX2, .code yX2_hasLink cX2_hasLink 2 (some .boolean), .fieldLink RX2 53 "FourPhases$Line" "stages" "I"] ++ wsX20 ++ wsX30)
def wsX2_makeAnswer : List Cond := .code yX2_makeAnswer cX2_makeAnswer 4 none :: ([.fieldLink RX2 17 "FourPhases$Line" "links" "[LFourPhases$Link;", .fieldLink RX2 191 "FourPhases$Link" "answerAtEnd" "I", .fieldLink RX2 33 "FourPhases$Line" "underWay" "LFourPhases$Changes;", .fieldLink RX2 57 "FourPhases$Line" "time" "I", .fieldLink RX2 115 "FourPhases$Link" "delays" "[I", .methodLink RX2 183 yX0_insert, .instanceMethod yX0_insert, .selects RX0 yX0_insert yX0_insert, .initialized RX0, .code yX0_insert cX0_insert 8 none, .fieldLink RX0 22 "FourPhases$Changes" "count" "I", .fieldLink RX0 9 "FourPhases$Changes" "times" "[I", .fieldLink RX0 18 "FourPhases$Changes" "head" "I", .fieldLink RX0 15 "FourPhases$Changes" "signals" "[I"] ++ wsX20 ++ wsX30 ++ wsX00)
def wsX4_append : List Cond := .code yX4_append cX4_append 5 none :: ([.fieldLink RX4 21 "FourPhases$Notes" "count" "I", .fieldLink RX4 9 "FourPhases$Notes" "words" "[I", .fieldLink RX4 15 "FourPhases$Notes" "times" "[I", .fieldLink RX4 18 "FourPhases$Notes" "rights" "[I", .fieldLink RX4 25 "FourPhases$Notes" "rightCount" "I"] ++ wsX40)
def wsX2_noteWord : List Cond := .code yX2_noteWord cX2_noteWord 3 none :: ([.fieldLink RX2 44 "FourPhases$Line" "offered" "[I", .fieldLink RX2 40 "FourPhases$Line" "notes" "LFourPhases$Notes;", .fieldLink RX2 119 "FourPhases$Notes" "count" "I", .fieldLink RX2 57 "FourPhases$Line" "time" "I", .methodLink RX2 178 yX4_append, .instanceMethod yX4_append, .selects RX4 yX4_append yX4_append, .initialized RX4, .code yX4_append cX4_append 5 none, .fieldLink RX4 21 "FourPhases$Notes" "count" "I", .fieldLink RX4 9 "FourPhases$Notes" "words" "[I", .fieldLink RX4 15 "FourPhases$Notes" "times" "[I", .fieldLink RX4 18 "FourPhases$Notes" "rights" "[I", .fieldLink RX4 25 "FourPhases$Notes" "rightCount" "I"] ++ wsX20 ++ wsX40)
def wsX2_takeWord : List Cond := .code yX2_takeWord cX2_takeWord 2 none :: ([.fieldLink RX2 17 "FourPhases$Line" "links" "[LFourPhases$Link;", .fieldLink RX2 161 "FourPhases$Link" "requestWaits" "Z", .fieldLink RX2 21 "FourPhases$Line" "held" "[I", .fieldLink RX2 148 "FourPhases$Link" "dataAtEnd" "I", .methodLink RX2 154 yX2_makeAnswer, .instanceMethod yX2_makeAnswer, .selects RX2 yX2_makeAnswer yX2_makeAnswer, .initialized RX2, .code yX2_makeAnswer cX2_makeAnswer 4 none, .fieldLink RX2 191 "FourPhases$Link" "answerAtEnd" "I", .fieldLink RX2 33 "FourPhases$Line" "underWay" "LFourPhases$Changes;", .fieldLink RX2 57 "FourPhases$Line" "time" "I", .fieldLink RX2 115 "FourPhases$Link" "delays" "[I", .methodLink RX2 183 yX0_insert, .instanceMethod yX0_insert, .selects RX0 yX0_insert yX0_insert, .initialized RX0, .code yX0_insert cX0_insert 8 none, .fieldLink RX0 22 "FourPhases$Changes" "count" "I", .fieldLink RX0 9 "FourPhases$Changes" "times" "[I", .fieldLink RX0 18 "FourPhases$Changes" "head" "I", .fieldLink RX0 15 "FourPhases$Changes" "signals" "[I"] ++ wsX20 ++ wsX30 ++ wsX00)
def wsX2_letRequestArrive_r1 : List Cond := [Cond.fieldLink RX2 17 "FourPhases$Line" "links" "[LFourPhases$Link;", Cond.fieldLink RX2 151 "FourPhases$Link" "requestAtEnd" "I", Cond.fieldLink RX2 53 "FourPhases$Line" "stages" "I", Cond.fieldLink RX2 148 "FourPhases$Link" "dataAtEnd" "I", Cond.fieldLink RX2 9 "FourPhases$Line" "settings" "[I", Cond.fieldLink RX2 21 "FourPhases$Line" "held" "[I", Cond.fieldLink RX2 161 "FourPhases$Link" "requestWaits" "Z", Cond.fieldLink RX2 99 "FourPhases$Link" "atRest" "Z", Cond.methodLink RX2 154 yX2_makeAnswer, Cond.instanceMethod yX2_makeAnswer, Cond.selects RX2 yX2_makeAnswer yX2_makeAnswer, Cond.initialized RX2, Cond.code yX2_makeAnswer cX2_makeAnswer 4 none, Cond.fieldLink RX2 191 "FourPhases$Link" "answerAtEnd" "I", Cond.fieldLink RX2 33 "FourPhases$Line" "underWay" "LFourPhases$Changes;", Cond.fieldLink RX2 57 "FourPhases$Line" "time" "I", Cond.fieldLink RX2 115 "FourPhases$Link" "delays" "[I", Cond.methodLink RX2 183 yX0_insert, Cond.instanceMethod yX0_insert, Cond.selects RX0 yX0_insert yX0_insert, Cond.initialized RX0, Cond.code yX0_insert cX0_insert 8 none, Cond.fieldLink RX0 22 "FourPhases$Changes" "count" "I", Cond.fieldLink RX0 9 "FourPhases$Changes" "times" "[I"]
def wsX2_letRequestArrive_r2 : List Cond := [Cond.fieldLink RX0 18 "FourPhases$Changes" "head" "I", Cond.fieldLink RX0 15 "FourPhases$Changes" "signals" "[I", Cond.methodLink RX2 158 yX2_noteWord, Cond.instanceMethod yX2_noteWord, Cond.selects RX2 yX2_noteWord yX2_noteWord, Cond.code yX2_noteWord cX2_noteWord 3 none, Cond.fieldLink RX2 44 "FourPhases$Line" "offered" "[I", Cond.fieldLink RX2 40 "FourPhases$Line" "notes" "LFourPhases$Notes;", Cond.fieldLink RX2 119 "FourPhases$Notes" "count" "I", Cond.methodLink RX2 178 yX4_append, Cond.instanceMethod yX4_append, Cond.selects RX4 yX4_append yX4_append, Cond.initialized RX4, Cond.code yX4_append cX4_append 5 none, Cond.fieldLink RX4 21 "FourPhases$Notes" "count" "I", Cond.fieldLink RX4 9 "FourPhases$Notes" "words" "[I", Cond.fieldLink RX4 15 "FourPhases$Notes" "times" "[I", Cond.fieldLink RX4 18 "FourPhases$Notes" "rights" "[I", Cond.fieldLink RX4 25 "FourPhases$Notes" "rightCount" "I", Cond.methodLink RX2 164 yX2_takeWord, Cond.instanceMethod yX2_takeWord, Cond.selects RX2 yX2_takeWord yX2_takeWord, Cond.code yX2_takeWord cX2_takeWord 2 none, Cond.methodLink RX2 107 yX2_offer]
def wsX2_letRequestArrive_r3 : List Cond := [Cond.instanceMethod yX2_offer, Cond.selects RX2 yX2_offer yX2_offer, Cond.code yX2_offer cX2_offer 4 none, Cond.fieldLink RX2 180 "FourPhases$Link" "dataAtBeginning" "I", Cond.fieldLink RX2 187 "FourPhases$Link" "offeredWords" "I", Cond.methodLink RX2 170 yX2_makeRequest, Cond.instanceMethod yX2_makeRequest, Cond.selects RX2 yX2_makeRequest yX2_makeRequest, Cond.code yX2_makeRequest cX2_makeRequest 4 none, Cond.fieldLink RX2 188 "FourPhases$Link" "requestAtBeginning" "I"]
def wsX2_letRequestArrive : List Cond := .code yX2_letRequestArrive cX2_letRequestArrive 3 none :: ((wsX2_letRequestArrive_r1 ++ (wsX2_letRequestArrive_r2 ++ wsX2_letRequestArrive_r3)) ++ wsX20 ++ wsX30 ++ wsX00 ++ wsX40)
def wsX2_letAnswerArrive_r1 : List Cond := [Cond.fieldLink RX2 17 "FourPhases$Line" "links" "[LFourPhases$Link;", Cond.fieldLink RX2 167 "FourPhases$Link" "answerAtBeginning" "I", Cond.fieldLink RX2 99 "FourPhases$Link" "atRest" "Z", Cond.fieldLink RX2 21 "FourPhases$Line" "held" "[I", Cond.fieldLink RX2 161 "FourPhases$Link" "requestWaits" "Z", Cond.methodLink RX2 103 yX2_letOneGo, Cond.instanceMethod yX2_letOneGo, Cond.selects RX2 yX2_letOneGo yX2_letOneGo, Cond.initialized RX2, Cond.code yX2_letOneGo cX2_letOneGo 4 (some .int), Cond.fieldLink RX2 26 "FourPhases$Line" "rows" "[LFourPhases$Row;", Cond.fieldLink RX2 60 "FourPhases$Line" "latestSender" "I", Cond.fieldLink RX2 44 "FourPhases$Line" "offered" "[I", Cond.fieldLink RX2 63 "FourPhases$Line" "offeredWords" "I", Cond.methodLink RX2 173 yX2_chosenSender, Cond.instanceMethod yX2_chosenSender, Cond.selects RX2 yX2_chosenSender yX2_chosenSender, Cond.code yX2_chosenSender cX2_chosenSender 1 (some .int), Cond.fieldLink RX2 72 "FourPhases$Row" "count" "I", Cond.fieldLink RX2 9 "FourPhases$Line" "settings" "[I", Cond.methodLink RX2 176 yX5_removeFirst, Cond.instanceMethod yX5_removeFirst, Cond.selects RX5 yX5_removeFirst yX5_removeFirst, Cond.initialized RX5]
def wsX2_letAnswerArrive_r2 : List Cond := [Cond.code yX5_removeFirst cX5_removeFirst 3 (some .int), Cond.fieldLink RX5 15 "FourPhases$Row" "count" "I", Cond.fieldLink RX5 9 "FourPhases$Row" "words" "[I", Cond.methodLink RX2 107 yX2_offer, Cond.instanceMethod yX2_offer, Cond.selects RX2 yX2_offer yX2_offer, Cond.code yX2_offer cX2_offer 4 none, Cond.fieldLink RX2 180 "FourPhases$Link" "dataAtBeginning" "I", Cond.fieldLink RX2 33 "FourPhases$Line" "underWay" "LFourPhases$Changes;", Cond.fieldLink RX2 57 "FourPhases$Line" "time" "I", Cond.fieldLink RX2 115 "FourPhases$Link" "delays" "[I", Cond.fieldLink RX2 187 "FourPhases$Link" "offeredWords" "I", Cond.methodLink RX2 183 yX0_insert, Cond.instanceMethod yX0_insert, Cond.selects RX0 yX0_insert yX0_insert, Cond.initialized RX0, Cond.code yX0_insert cX0_insert 8 none, Cond.fieldLink RX0 22 "FourPhases$Changes" "count" "I", Cond.fieldLink RX0 9 "FourPhases$Changes" "times" "[I", Cond.fieldLink RX0 18 "FourPhases$Changes" "head" "I", Cond.fieldLink RX0 15 "FourPhases$Changes" "signals" "[I", Cond.methodLink RX2 170 yX2_makeRequest, Cond.instanceMethod yX2_makeRequest, Cond.selects RX2 yX2_makeRequest yX2_makeRequest]
def wsX2_letAnswerArrive_r3 : List Cond := [Cond.code yX2_makeRequest cX2_makeRequest 4 none, Cond.fieldLink RX2 188 "FourPhases$Link" "requestAtBeginning" "I", Cond.methodLink RX2 164 yX2_takeWord, Cond.instanceMethod yX2_takeWord, Cond.selects RX2 yX2_takeWord yX2_takeWord, Cond.code yX2_takeWord cX2_takeWord 2 none, Cond.fieldLink RX2 148 "FourPhases$Link" "dataAtEnd" "I", Cond.methodLink RX2 154 yX2_makeAnswer, Cond.instanceMethod yX2_makeAnswer, Cond.selects RX2 yX2_makeAnswer yX2_makeAnswer, Cond.code yX2_makeAnswer cX2_makeAnswer 4 none, Cond.fieldLink RX2 191 "FourPhases$Link" "answerAtEnd" "I"]
def wsX2_letAnswerArrive : List Cond := .code yX2_letAnswerArrive cX2_letAnswerArrive 4 none :: ((wsX2_letAnswerArrive_r1 ++ (wsX2_letAnswerArrive_r2 ++ wsX2_letAnswerArrive_r3)) ++ wsX20 ++ wsX30 ++ wsX50 ++ wsX00)
def wsX2_letArriveUpTo_r1 : List Cond := [Cond.constant RX2 118 (1000000), Cond.fieldLink RX2 33 "FourPhases$Line" "underWay" "LFourPhases$Changes;", Cond.fieldLink RX2 57 "FourPhases$Line" "time" "I", Cond.fieldLink RX2 66 "FourPhases$Line" "arrivedChanges" "I", Cond.fieldLink RX2 17 "FourPhases$Line" "links" "[LFourPhases$Link;", Cond.fieldLink RX2 148 "FourPhases$Link" "dataAtEnd" "I", Cond.methodLink RX2 123 yX2_isQuiet, Cond.instanceMethod yX2_isQuiet, Cond.selects RX2 yX2_isQuiet yX2_isQuiet, Cond.initialized RX2, Cond.code yX2_isQuiet cX2_isQuiet 1 (some .boolean), Cond.fieldLink RX2 75 "FourPhases$Changes" "count" "I", Cond.methodLink RX2 127 yX0_firstTime, Cond.instanceMethod yX0_firstTime, Cond.selects RX0 yX0_firstTime yX0_firstTime, Cond.initialized RX0, Cond.code yX0_firstTime cX0_firstTime 1 (some .int), Cond.fieldLink RX0 9 "FourPhases$Changes" "times" "[I", Cond.fieldLink RX0 18 "FourPhases$Changes" "head" "I", Cond.methodLink RX2 130 yX0_firstLink, Cond.instanceMethod yX0_firstLink, Cond.selects RX0 yX0_firstLink yX0_firstLink, Cond.code yX0_firstLink cX0_firstLink 1 (some .int), Cond.fieldLink RX0 15 "FourPhases$Changes" "signals" "[I"]
def wsX2_letArriveUpTo_r2 : List Cond := [Cond.methodLink RX2 133 yX0_firstWire, Cond.instanceMethod yX0_firstWire, Cond.selects RX0 yX0_firstWire yX0_firstWire, Cond.code yX0_firstWire cX0_firstWire 1 (some .int), Cond.methodLink RX2 136 yX0_firstValue, Cond.instanceMethod yX0_firstValue, Cond.selects RX0 yX0_firstValue yX0_firstValue, Cond.code yX0_firstValue cX0_firstValue 1 (some .int), Cond.methodLink RX2 139 yX0_removeFirst, Cond.instanceMethod yX0_removeFirst, Cond.selects RX0 yX0_removeFirst yX0_removeFirst, Cond.code yX0_removeFirst cX0_removeFirst 1 none, Cond.fieldLink RX0 22 "FourPhases$Changes" "count" "I", Cond.methodLink RX2 111 yX2_hasLink, Cond.instanceMethod yX2_hasLink, Cond.selects RX2 yX2_hasLink yX2_hasLink, Cond.code yX2_hasLink cX2_hasLink 2 (some .boolean), Cond.fieldLink RX2 53 "FourPhases$Line" "stages" "I", Cond.methodLink RX2 142 yX2_letRequestArrive, Cond.instanceMethod yX2_letRequestArrive, Cond.selects RX2 yX2_letRequestArrive yX2_letRequestArrive, Cond.code yX2_letRequestArrive cX2_letRequestArrive 3 none, Cond.fieldLink RX2 151 "FourPhases$Link" "requestAtEnd" "I", Cond.fieldLink RX2 9 "FourPhases$Line" "settings" "[I"]
def wsX2_letArriveUpTo_r3 : List Cond := [Cond.fieldLink RX2 21 "FourPhases$Line" "held" "[I", Cond.fieldLink RX2 161 "FourPhases$Link" "requestWaits" "Z", Cond.fieldLink RX2 99 "FourPhases$Link" "atRest" "Z", Cond.methodLink RX2 154 yX2_makeAnswer, Cond.instanceMethod yX2_makeAnswer, Cond.selects RX2 yX2_makeAnswer yX2_makeAnswer, Cond.code yX2_makeAnswer cX2_makeAnswer 4 none, Cond.fieldLink RX2 191 "FourPhases$Link" "answerAtEnd" "I", Cond.fieldLink RX2 115 "FourPhases$Link" "delays" "[I", Cond.methodLink RX2 183 yX0_insert, Cond.instanceMethod yX0_insert, Cond.selects RX0 yX0_insert yX0_insert, Cond.code yX0_insert cX0_insert 8 none, Cond.methodLink RX2 158 yX2_noteWord, Cond.instanceMethod yX2_noteWord, Cond.selects RX2 yX2_noteWord yX2_noteWord, Cond.code yX2_noteWord cX2_noteWord 3 none, Cond.fieldLink RX2 44 "FourPhases$Line" "offered" "[I", Cond.fieldLink RX2 40 "FourPhases$Line" "notes" "LFourPhases$Notes;", Cond.fieldLink RX2 119 "FourPhases$Notes" "count" "I", Cond.methodLink RX2 178 yX4_append, Cond.instanceMethod yX4_append, Cond.selects RX4 yX4_append yX4_append, Cond.initialized RX4]
def wsX2_letArriveUpTo_r4 : List Cond := [Cond.code yX4_append cX4_append 5 none, Cond.fieldLink RX4 21 "FourPhases$Notes" "count" "I", Cond.fieldLink RX4 9 "FourPhases$Notes" "words" "[I", Cond.fieldLink RX4 15 "FourPhases$Notes" "times" "[I", Cond.fieldLink RX4 18 "FourPhases$Notes" "rights" "[I", Cond.fieldLink RX4 25 "FourPhases$Notes" "rightCount" "I", Cond.methodLink RX2 164 yX2_takeWord, Cond.instanceMethod yX2_takeWord, Cond.selects RX2 yX2_takeWord yX2_takeWord, Cond.code yX2_takeWord cX2_takeWord 2 none, Cond.methodLink RX2 107 yX2_offer, Cond.instanceMethod yX2_offer, Cond.selects RX2 yX2_offer yX2_offer, Cond.code yX2_offer cX2_offer 4 none, Cond.fieldLink RX2 180 "FourPhases$Link" "dataAtBeginning" "I", Cond.fieldLink RX2 187 "FourPhases$Link" "offeredWords" "I", Cond.methodLink RX2 170 yX2_makeRequest, Cond.instanceMethod yX2_makeRequest, Cond.selects RX2 yX2_makeRequest yX2_makeRequest, Cond.code yX2_makeRequest cX2_makeRequest 4 none, Cond.fieldLink RX2 188 "FourPhases$Link" "requestAtBeginning" "I", Cond.methodLink RX2 145 yX2_letAnswerArrive, Cond.instanceMethod yX2_letAnswerArrive, Cond.selects RX2 yX2_letAnswerArrive yX2_letAnswerArrive]
def wsX2_letArriveUpTo_r5 : List Cond := [Cond.code yX2_letAnswerArrive cX2_letAnswerArrive 4 none, Cond.fieldLink RX2 167 "FourPhases$Link" "answerAtBeginning" "I", Cond.methodLink RX2 103 yX2_letOneGo, Cond.instanceMethod yX2_letOneGo, Cond.selects RX2 yX2_letOneGo yX2_letOneGo, Cond.code yX2_letOneGo cX2_letOneGo 4 (some .int), Cond.fieldLink RX2 26 "FourPhases$Line" "rows" "[LFourPhases$Row;", Cond.fieldLink RX2 60 "FourPhases$Line" "latestSender" "I", Cond.fieldLink RX2 63 "FourPhases$Line" "offeredWords" "I", Cond.methodLink RX2 173 yX2_chosenSender, Cond.instanceMethod yX2_chosenSender, Cond.selects RX2 yX2_chosenSender yX2_chosenSender, Cond.code yX2_chosenSender cX2_chosenSender 1 (some .int), Cond.fieldLink RX2 72 "FourPhases$Row" "count" "I", Cond.methodLink RX2 176 yX5_removeFirst, Cond.instanceMethod yX5_removeFirst, Cond.selects RX5 yX5_removeFirst yX5_removeFirst, Cond.initialized RX5, Cond.code yX5_removeFirst cX5_removeFirst 3 (some .int), Cond.fieldLink RX5 15 "FourPhases$Row" "count" "I", Cond.fieldLink RX5 9 "FourPhases$Row" "words" "[I"]
def wsX2_letArriveUpTo : List Cond := .code yX2_letArriveUpTo cX2_letArriveUpTo 6 none :: ((wsX2_letArriveUpTo_r1 ++ (wsX2_letArriveUpTo_r2 ++ (wsX2_letArriveUpTo_r3 ++ (wsX2_letArriveUpTo_r4 ++ wsX2_letArriveUpTo_r5)))) ++ wsX20 ++ wsX30 ++ wsX00 ++ wsX40 ++ wsX50)
def wsX2_passTicks_r1 : List Cond := [Cond.fieldLink RX2 57 "FourPhases$Line" "time" "I", Cond.constant RX2 118 (1000000), Cond.fieldLink RX2 40 "FourPhases$Line" "notes" "LFourPhases$Notes;", Cond.fieldLink RX2 119 "FourPhases$Notes" "count" "I", Cond.methodLink RX2 120 yX2_letArriveUpTo, Cond.instanceMethod yX2_letArriveUpTo, Cond.selects RX2 yX2_letArriveUpTo yX2_letArriveUpTo, Cond.initialized RX2, Cond.code yX2_letArriveUpTo cX2_letArriveUpTo 6 none, Cond.fieldLink RX2 33 "FourPhases$Line" "underWay" "LFourPhases$Changes;", Cond.fieldLink RX2 66 "FourPhases$Line" "arrivedChanges" "I", Cond.fieldLink RX2 17 "FourPhases$Line" "links" "[LFourPhases$Link;", Cond.fieldLink RX2 148 "FourPhases$Link" "dataAtEnd" "I", Cond.methodLink RX2 123 yX2_isQuiet, Cond.instanceMethod yX2_isQuiet, Cond.selects RX2 yX2_isQuiet yX2_isQuiet, Cond.code yX2_isQuiet cX2_isQuiet 1 (some .boolean), Cond.fieldLink RX2 75 "FourPhases$Changes" "count" "I", Cond.methodLink RX2 127 yX0_firstTime, Cond.instanceMethod yX0_firstTime, Cond.selects RX0 yX0_firstTime yX0_firstTime, Cond.initialized RX0, Cond.code yX0_firstTime cX0_firstTime 1 (some .int), Cond.fieldLink RX0 9 "FourPhases$Changes" "times" "[I"]
def wsX2_passTicks_r2 : List Cond := [Cond.fieldLink RX0 18 "FourPhases$Changes" "head" "I", Cond.methodLink RX2 130 yX0_firstLink, Cond.instanceMethod yX0_firstLink, Cond.selects RX0 yX0_firstLink yX0_firstLink, Cond.code yX0_firstLink cX0_firstLink 1 (some .int), Cond.fieldLink RX0 15 "FourPhases$Changes" "signals" "[I", Cond.methodLink RX2 133 yX0_firstWire, Cond.instanceMethod yX0_firstWire, Cond.selects RX0 yX0_firstWire yX0_firstWire, Cond.code yX0_firstWire cX0_firstWire 1 (some .int), Cond.methodLink RX2 136 yX0_firstValue, Cond.instanceMethod yX0_firstValue, Cond.selects RX0 yX0_firstValue yX0_firstValue, Cond.code yX0_firstValue cX0_firstValue 1 (some .int), Cond.methodLink RX2 139 yX0_removeFirst, Cond.instanceMethod yX0_removeFirst, Cond.selects RX0 yX0_removeFirst yX0_removeFirst, Cond.code yX0_removeFirst cX0_removeFirst 1 none, Cond.fieldLink RX0 22 "FourPhases$Changes" "count" "I", Cond.methodLink RX2 111 yX2_hasLink, Cond.instanceMethod yX2_hasLink, Cond.selects RX2 yX2_hasLink yX2_hasLink, Cond.code yX2_hasLink cX2_hasLink 2 (some .boolean), Cond.fieldLink RX2 53 "FourPhases$Line" "stages" "I"]
def wsX2_passTicks_r3 : List Cond := [Cond.methodLink RX2 142 yX2_letRequestArrive, Cond.instanceMethod yX2_letRequestArrive, Cond.selects RX2 yX2_letRequestArrive yX2_letRequestArrive, Cond.code yX2_letRequestArrive cX2_letRequestArrive 3 none, Cond.fieldLink RX2 151 "FourPhases$Link" "requestAtEnd" "I", Cond.fieldLink RX2 9 "FourPhases$Line" "settings" "[I", Cond.fieldLink RX2 21 "FourPhases$Line" "held" "[I", Cond.fieldLink RX2 161 "FourPhases$Link" "requestWaits" "Z", Cond.fieldLink RX2 99 "FourPhases$Link" "atRest" "Z", Cond.methodLink RX2 154 yX2_makeAnswer, Cond.instanceMethod yX2_makeAnswer, Cond.selects RX2 yX2_makeAnswer yX2_makeAnswer, Cond.code yX2_makeAnswer cX2_makeAnswer 4 none, Cond.fieldLink RX2 191 "FourPhases$Link" "answerAtEnd" "I", Cond.fieldLink RX2 115 "FourPhases$Link" "delays" "[I", Cond.methodLink RX2 183 yX0_insert, Cond.instanceMethod yX0_insert, Cond.selects RX0 yX0_insert yX0_insert, Cond.code yX0_insert cX0_insert 8 none, Cond.methodLink RX2 158 yX2_noteWord, Cond.instanceMethod yX2_noteWord, Cond.selects RX2 yX2_noteWord yX2_noteWord, Cond.code yX2_noteWord cX2_noteWord 3 none, Cond.fieldLink RX2 44 "FourPhases$Line" "offered" "[I"]
def wsX2_passTicks_r4 : List Cond := [Cond.methodLink RX2 178 yX4_append, Cond.instanceMethod yX4_append, Cond.selects RX4 yX4_append yX4_append, Cond.initialized RX4, Cond.code yX4_append cX4_append 5 none, Cond.fieldLink RX4 21 "FourPhases$Notes" "count" "I", Cond.fieldLink RX4 9 "FourPhases$Notes" "words" "[I", Cond.fieldLink RX4 15 "FourPhases$Notes" "times" "[I", Cond.fieldLink RX4 18 "FourPhases$Notes" "rights" "[I", Cond.fieldLink RX4 25 "FourPhases$Notes" "rightCount" "I", Cond.methodLink RX2 164 yX2_takeWord, Cond.instanceMethod yX2_takeWord, Cond.selects RX2 yX2_takeWord yX2_takeWord, Cond.code yX2_takeWord cX2_takeWord 2 none, Cond.methodLink RX2 107 yX2_offer, Cond.instanceMethod yX2_offer, Cond.selects RX2 yX2_offer yX2_offer, Cond.code yX2_offer cX2_offer 4 none, Cond.fieldLink RX2 180 "FourPhases$Link" "dataAtBeginning" "I", Cond.fieldLink RX2 187 "FourPhases$Link" "offeredWords" "I", Cond.methodLink RX2 170 yX2_makeRequest, Cond.instanceMethod yX2_makeRequest, Cond.selects RX2 yX2_makeRequest yX2_makeRequest, Cond.code yX2_makeRequest cX2_makeRequest 4 none]
def wsX2_passTicks_r5 : List Cond := [Cond.fieldLink RX2 188 "FourPhases$Link" "requestAtBeginning" "I", Cond.methodLink RX2 145 yX2_letAnswerArrive, Cond.instanceMethod yX2_letAnswerArrive, Cond.selects RX2 yX2_letAnswerArrive yX2_letAnswerArrive, Cond.code yX2_letAnswerArrive cX2_letAnswerArrive 4 none, Cond.fieldLink RX2 167 "FourPhases$Link" "answerAtBeginning" "I", Cond.methodLink RX2 103 yX2_letOneGo, Cond.instanceMethod yX2_letOneGo, Cond.selects RX2 yX2_letOneGo yX2_letOneGo, Cond.code yX2_letOneGo cX2_letOneGo 4 (some .int), Cond.fieldLink RX2 26 "FourPhases$Line" "rows" "[LFourPhases$Row;", Cond.fieldLink RX2 60 "FourPhases$Line" "latestSender" "I", Cond.fieldLink RX2 63 "FourPhases$Line" "offeredWords" "I", Cond.methodLink RX2 173 yX2_chosenSender, Cond.instanceMethod yX2_chosenSender, Cond.selects RX2 yX2_chosenSender yX2_chosenSender, Cond.code yX2_chosenSender cX2_chosenSender 1 (some .int), Cond.fieldLink RX2 72 "FourPhases$Row" "count" "I", Cond.methodLink RX2 176 yX5_removeFirst, Cond.instanceMethod yX5_removeFirst, Cond.selects RX5 yX5_removeFirst yX5_removeFirst, Cond.initialized RX5, Cond.code yX5_removeFirst cX5_removeFirst 3 (some .int), Cond.fieldLink RX5 15 "FourPhases$Row" "count" "I"]
def wsX2_passTicks_r6 : List Cond := [Cond.fieldLink RX5 9 "FourPhases$Row" "words" "[I"]
def wsX2_passTicks : List Cond := .code yX2_passTicks cX2_passTicks 4 (some .int) :: ((wsX2_passTicks_r1 ++ (wsX2_passTicks_r2 ++ (wsX2_passTicks_r3 ++ (wsX2_passTicks_r4 ++ (wsX2_passTicks_r5 ++ wsX2_passTicks_r6))))) ++ wsX20 ++ wsX40 ++ wsX30 ++ wsX00 ++ wsX50)
def wsX3_tell : List Cond := .code yX3_tell cX3_tell 3 (some .int) :: ([.fieldLink RX3 9 "FourPhases$Link" "delays" "[I", .fieldLink RX3 15 "FourPhases$Link" "requestAtBeginning" "I", .fieldLink RX3 19 "FourPhases$Link" "requestAtEnd" "I", .fieldLink RX3 22 "FourPhases$Link" "answerAtEnd" "I", .fieldLink RX3 25 "FourPhases$Link" "answerAtBeginning" "I", .fieldLink RX3 28 "FourPhases$Link" "dataAtBeginning" "I", .fieldLink RX3 31 "FourPhases$Link" "dataAtEnd" "I", .fieldLink RX3 34 "FourPhases$Link" "atRest" "Z", .fieldLink RX3 38 "FourPhases$Link" "requestWaits" "Z", .fieldLink RX3 41 "FourPhases$Link" "offeredWords" "I"] ++ wsX30)
def wsX4_wrongWords : List Cond := .code yX4_wrongWords cX4_wrongWords 1 (some .int) :: ([.fieldLink RX4 21 "FourPhases$Notes" "count" "I", .fieldLink RX4 25 "FourPhases$Notes" "rightCount" "I"] ++ wsX40)
def wsX4_tell : List Cond := .code yX4_tell cX4_tell 4 (some .int) :: ([.fieldLink RX4 21 "FourPhases$Notes" "count" "I", .fieldLink RX4 9 "FourPhases$Notes" "words" "[I", .fieldLink RX4 15 "FourPhases$Notes" "times" "[I", .fieldLink RX4 18 "FourPhases$Notes" "rights" "[I"] ++ wsX40)
def wsX5_wordAt : List Cond := .code yX5_wordAt cX5_wordAt 2 (some .int) :: ([.fieldLink RX5 15 "FourPhases$Row" "count" "I", .fieldLink RX5 9 "FourPhases$Row" "words" "[I"] ++ wsX50)
def wsX6_init : List Cond := .code yX6_init cX6_init 1 none :: ([.methodLink RX6 3 objectInit, .instanceMethod objectInit, .code objectInit ⟨#[0xb1]⟩ 1 none, .arrayClass .char, .fieldLink RX6 9 "FourPhases$Text" "characters" "[C", .arrayClass .int, .fieldLink RX6 15 "FourPhases$Text" "letters" "[I", .fieldLink RX6 19 "FourPhases$Text" "targets" "[I", .fieldLink RX6 22 "FourPhases$Text" "values" "[I"] ++ wsX60)
def wsX6_append : List Cond := .code yX6_append cX6_append 2 (some .int) :: ([.fieldLink RX6 25 "FourPhases$Text" "length" "I", .fieldLink RX6 9 "FourPhases$Text" "characters" "[C"] ++ wsX60)
def wsX6_current : List Cond := .code yX6_current cX6_current 1 (some .int) :: ([.fieldLink RX6 29 "FourPhases$Text" "place" "I", .fieldLink RX6 25 "FourPhases$Text" "length" "I", .fieldLink RX6 9 "FourPhases$Text" "characters" "[C"] ++ wsX60)
def wsX6_digitOf : List Cond := .code yX6_digitOf cX6_digitOf 2 (some .int) :: ([])
def wsX6_readDigit : List Cond := .code yX6_readDigit cX6_readDigit 3 (some .int) :: ([.fieldLink RX6 29 "FourPhases$Text" "place" "I", .methodLink RX6 43 yX6_current, .instanceMethod yX6_current, .selects RX6 yX6_current yX6_current, .initialized RX6, .code yX6_current cX6_current 1 (some .int), .fieldLink RX6 25 "FourPhases$Text" "length" "I", .fieldLink RX6 9 "FourPhases$Text" "characters" "[C", .methodLink RX6 61 yX6_digitOf, .instanceMethod yX6_digitOf, .selects RX6 yX6_digitOf yX6_digitOf, .code yX6_digitOf cX6_digitOf 2 (some .int)] ++ wsX60)
def wsX6_store : List Cond := .code yX6_store cX6_store 5 (some .boolean) :: ([.fieldLink RX6 32 "FourPhases$Text" "orders" "I", .fieldLink RX6 15 "FourPhases$Text" "letters" "[I", .fieldLink RX6 19 "FourPhases$Text" "targets" "[I", .fieldLink RX6 22 "FourPhases$Text" "values" "[I"] ++ wsX60)
def wsX6_readNumber : List Cond := .code yX6_readNumber cX6_readNumber 6 (some .int) :: ([.fieldLink RX6 29 "FourPhases$Text" "place" "I", .methodLink RX6 43 yX6_current, .instanceMethod yX6_current, .selects RX6 yX6_current yX6_current, .initialized RX6, .code yX6_current cX6_current 1 (some .int), .fieldLink RX6 25 "FourPhases$Text" "length" "I", .fieldLink RX6 9 "FourPhases$Text" "characters" "[C", .methodLink RX6 61 yX6_digitOf, .instanceMethod yX6_digitOf, .selects RX6 yX6_digitOf yX6_digitOf, .code yX6_digitOf cX6_digitOf 2 (some .int)] ++ wsX60)
def wsX6_readSign : List Cond := .code yX6_readSign cX6_readSign 2 (some .boolean) :: ([.fieldLink RX6 29 "FourPhases$Text" "place" "I", .methodLink RX6 43 yX6_current, .instanceMethod yX6_current, .selects RX6 yX6_current yX6_current, .initialized RX6, .code yX6_current cX6_current 1 (some .int), .fieldLink RX6 25 "FourPhases$Text" "length" "I", .fieldLink RX6 9 "FourPhases$Text" "characters" "[C"] ++ wsX60)
def wsX6_readDelay_r1 : List Cond := [Cond.methodLink RX6 47 yX6_readDigit, Cond.instanceMethod yX6_readDigit, Cond.selects RX6 yX6_readDigit yX6_readDigit, Cond.initialized RX6, Cond.code yX6_readDigit cX6_readDigit 3 (some .int), Cond.fieldLink RX6 29 "FourPhases$Text" "place" "I", Cond.methodLink RX6 43 yX6_current, Cond.instanceMethod yX6_current, Cond.selects RX6 yX6_current yX6_current, Cond.code yX6_current cX6_current 1 (some .int), Cond.fieldLink RX6 25 "FourPhases$Text" "length" "I", Cond.fieldLink RX6 9 "FourPhases$Text" "characters" "[C", Cond.methodLink RX6 61 yX6_digitOf, Cond.instanceMethod yX6_digitOf, Cond.selects RX6 yX6_digitOf yX6_digitOf, Cond.code yX6_digitOf cX6_digitOf 2 (some .int), Cond.methodLink RX6 39 yX6_readSign, Cond.instanceMethod yX6_readSign, Cond.selects RX6 yX6_readSign yX6_readSign, Cond.code yX6_readSign cX6_readSign 2 (some .boolean), Cond.methodLink RX6 55 yX6_readNumber, Cond.instanceMethod yX6_readNumber, Cond.selects RX6 yX6_readNumber yX6_readNumber, Cond.code yX6_readNumber cX6_readNumber 6 (some .int)]
def wsX6_readDelay_r2 : List Cond := [Cond.methodLink RX6 51 yX6_store, Cond.instanceMethod yX6_store, Cond.selects RX6 yX6_store yX6_store, Cond.code yX6_store cX6_store 5 (some .boolean), Cond.fieldLink RX6 32 "FourPhases$Text" "orders" "I", Cond.fieldLink RX6 15 "FourPhases$Text" "letters" "[I", Cond.fieldLink RX6 19 "FourPhases$Text" "targets" "[I", Cond.fieldLink RX6 22 "FourPhases$Text" "values" "[I"]
def wsX6_readDelay : List Cond := .code yX6_readDelay cX6_readDelay 3 (some .boolean) :: ((wsX6_readDelay_r1 ++ wsX6_readDelay_r2) ++ wsX60)
def wsX6_readOrder_r1 : List Cond := [Cond.fieldLink RX6 29 "FourPhases$Text" "place" "I", Cond.methodLink RX6 43 yX6_current, Cond.instanceMethod yX6_current, Cond.selects RX6 yX6_current yX6_current, Cond.initialized RX6, Cond.code yX6_current cX6_current 1 (some .int), Cond.fieldLink RX6 25 "FourPhases$Text" "length" "I", Cond.fieldLink RX6 9 "FourPhases$Text" "characters" "[C", Cond.methodLink RX6 47 yX6_readDigit, Cond.instanceMethod yX6_readDigit, Cond.selects RX6 yX6_readDigit yX6_readDigit, Cond.code yX6_readDigit cX6_readDigit 3 (some .int), Cond.methodLink RX6 61 yX6_digitOf, Cond.instanceMethod yX6_digitOf, Cond.selects RX6 yX6_digitOf yX6_digitOf, Cond.code yX6_digitOf cX6_digitOf 2 (some .int), Cond.methodLink RX6 51 yX6_store, Cond.instanceMethod yX6_store, Cond.selects RX6 yX6_store yX6_store, Cond.code yX6_store cX6_store 5 (some .boolean), Cond.fieldLink RX6 32 "FourPhases$Text" "orders" "I", Cond.fieldLink RX6 15 "FourPhases$Text" "letters" "[I", Cond.fieldLink RX6 19 "FourPhases$Text" "targets" "[I", Cond.fieldLink RX6 22 "FourPhases$Text" "values" "[I"]
def wsX6_readOrder_r2 : List Cond := [Cond.methodLink RX6 55 yX6_readNumber, Cond.instanceMethod yX6_readNumber, Cond.selects RX6 yX6_readNumber yX6_readNumber, Cond.code yX6_readNumber cX6_readNumber 6 (some .int), Cond.methodLink RX6 58 yX6_readDelay, Cond.instanceMethod yX6_readDelay, Cond.selects RX6 yX6_readDelay yX6_readDelay, Cond.code yX6_readDelay cX6_readDelay 3 (some .boolean), Cond.methodLink RX6 39 yX6_readSign, Cond.instanceMethod yX6_readSign, Cond.selects RX6 yX6_readSign yX6_readSign, Cond.code yX6_readSign cX6_readSign 2 (some .boolean)]
def wsX6_readOrder : List Cond := .code yX6_readOrder cX6_readOrder 2 (some .boolean) :: ((wsX6_readOrder_r1 ++ wsX6_readOrder_r2) ++ wsX60)
def wsX6_readOrders_r1 : List Cond := [Cond.fieldLink RX6 29 "FourPhases$Text" "place" "I", Cond.fieldLink RX6 32 "FourPhases$Text" "orders" "I", Cond.fieldLink RX6 25 "FourPhases$Text" "length" "I", Cond.methodLink RX6 35 yX6_readOrder, Cond.instanceMethod yX6_readOrder, Cond.selects RX6 yX6_readOrder yX6_readOrder, Cond.initialized RX6, Cond.code yX6_readOrder cX6_readOrder 2 (some .boolean), Cond.methodLink RX6 43 yX6_current, Cond.instanceMethod yX6_current, Cond.selects RX6 yX6_current yX6_current, Cond.code yX6_current cX6_current 1 (some .int), Cond.fieldLink RX6 9 "FourPhases$Text" "characters" "[C", Cond.methodLink RX6 47 yX6_readDigit, Cond.instanceMethod yX6_readDigit, Cond.selects RX6 yX6_readDigit yX6_readDigit, Cond.code yX6_readDigit cX6_readDigit 3 (some .int), Cond.methodLink RX6 61 yX6_digitOf, Cond.instanceMethod yX6_digitOf, Cond.selects RX6 yX6_digitOf yX6_digitOf, Cond.code yX6_digitOf cX6_digitOf 2 (some .int), Cond.methodLink RX6 51 yX6_store, Cond.instanceMethod yX6_store, Cond.selects RX6 yX6_store yX6_store]
def wsX6_readOrders_r2 : List Cond := [Cond.code yX6_store cX6_store 5 (some .boolean), Cond.fieldLink RX6 15 "FourPhases$Text" "letters" "[I", Cond.fieldLink RX6 19 "FourPhases$Text" "targets" "[I", Cond.fieldLink RX6 22 "FourPhases$Text" "values" "[I", Cond.methodLink RX6 55 yX6_readNumber, Cond.instanceMethod yX6_readNumber, Cond.selects RX6 yX6_readNumber yX6_readNumber, Cond.code yX6_readNumber cX6_readNumber 6 (some .int), Cond.methodLink RX6 58 yX6_readDelay, Cond.instanceMethod yX6_readDelay, Cond.selects RX6 yX6_readDelay yX6_readDelay, Cond.code yX6_readDelay cX6_readDelay 3 (some .boolean), Cond.methodLink RX6 39 yX6_readSign, Cond.instanceMethod yX6_readSign, Cond.selects RX6 yX6_readSign yX6_readSign, Cond.code yX6_readSign cX6_readSign 2 (some .boolean)]
def wsX6_readOrders : List Cond := .code yX6_readOrders cX6_readOrders 2 (some .int) :: ((wsX6_readOrders_r1 ++ wsX6_readOrders_r2) ++ wsX60)
def wsX7_init_r1 : List Cond := [Cond.methodLink RX7 3 objectInit, Cond.instanceMethod objectInit, Cond.code objectInit ⟨#[0xb1]⟩ 1 none, Cond.classLink RX7 9 RX2, Cond.instantiable RX2 12, Cond.initialized RX2, Cond.fieldLink RX7 12 "FourPhases" "now" "LFourPhases$Line;", Cond.fieldLink RX7 16 "FourPhases" "trial" "LFourPhases$Line;", Cond.fieldLink RX7 19 "FourPhases" "snapshot" "LFourPhases$Line;", Cond.fieldLink RX7 22 "FourPhases" "hasSnapshot" "Z", Cond.classLink RX7 26 RX1, Cond.instantiable RX1 2, Cond.initialized RX1, Cond.fieldLink RX7 29 "FourPhases" "history" "LFourPhases$History;", Cond.classLink RX7 33 RX6, Cond.instantiable RX6 7, Cond.initialized RX6, Cond.fieldLink RX7 36 "FourPhases" "text" "LFourPhases$Text;", Cond.methodLink RX7 11 yX2_init, Cond.instanceMethod yX2_init, Cond.code yX2_init cX2_init 2 none, Cond.methodLink RX2 3 objectInit, Cond.arrayClass .int, Cond.fieldLink RX2 9 "FourPhases$Line" "settings" "[I"]
def wsX7_init_r2 : List Cond := [Cond.classLink RX2 15 RX3, Cond.fieldLink RX2 17 "FourPhases$Line" "links" "[LFourPhases$Link;", Cond.fieldLink RX2 21 "FourPhases$Line" "held" "[I", Cond.classLink RX2 24 RX5, Cond.fieldLink RX2 26 "FourPhases$Line" "rows" "[LFourPhases$Row;", Cond.classLink RX2 30 RX0, Cond.instantiable RX0 4, Cond.initialized RX0, Cond.fieldLink RX2 33 "FourPhases$Line" "underWay" "LFourPhases$Changes;", Cond.classLink RX2 37 RX4, Cond.instantiable RX4 5, Cond.initialized RX4, Cond.fieldLink RX2 40 "FourPhases$Line" "notes" "LFourPhases$Notes;", Cond.fieldLink RX2 44 "FourPhases$Line" "offered" "[I", Cond.instantiable RX3 10, Cond.initialized RX3, Cond.instantiable RX5 2, Cond.initialized RX5, Cond.instanceMethod yX0_init, Cond.code yX0_init cX0_init 1 none, Cond.methodLink RX0 3 objectInit, Cond.fieldLink RX0 9 "FourPhases$Changes" "times" "[I", Cond.fieldLink RX0 15 "FourPhases$Changes" "signals" "[I", Cond.instanceMethod yX4_init]
def wsX7_init_r3 : List Cond := [Cond.code yX4_init cX4_init 1 none, Cond.methodLink RX4 3 objectInit, Cond.fieldLink RX4 9 "FourPhases$Notes" "words" "[I", Cond.fieldLink RX4 15 "FourPhases$Notes" "times" "[I", Cond.fieldLink RX4 18 "FourPhases$Notes" "rights" "[I", Cond.instanceMethod yX3_init, Cond.code yX3_init cX3_init 1 none, Cond.methodLink RX3 3 objectInit, Cond.fieldLink RX3 9 "FourPhases$Link" "delays" "[I", Cond.instanceMethod yX5_init, Cond.code yX5_init cX5_init 1 none, Cond.methodLink RX5 3 objectInit, Cond.fieldLink RX5 9 "FourPhases$Row" "words" "[I", Cond.methodLink RX2 49 yX2_clearTo, Cond.instanceMethod yX2_clearTo, Cond.selects RX2 yX2_clearTo yX2_clearTo, Cond.code yX2_clearTo cX2_clearTo 3 none, Cond.fieldLink RX2 53 "FourPhases$Line" "stages" "I", Cond.fieldLink RX2 57 "FourPhases$Line" "time" "I", Cond.fieldLink RX2 60 "FourPhases$Line" "latestSender" "I", Cond.fieldLink RX2 63 "FourPhases$Line" "offeredWords" "I", Cond.fieldLink RX2 66 "FourPhases$Line" "arrivedChanges" "I", Cond.fieldLink RX2 72 "FourPhases$Row" "count" "I", Cond.fieldLink RX2 75 "FourPhases$Changes" "count" "I"]
def wsX7_init_r4 : List Cond := [Cond.methodLink RX2 69 yX3_clear, Cond.instanceMethod yX3_clear, Cond.selects RX3 yX3_clear yX3_clear, Cond.code yX3_clear cX3_clear 2 none, Cond.fieldLink RX3 15 "FourPhases$Link" "requestAtBeginning" "I", Cond.fieldLink RX3 19 "FourPhases$Link" "requestAtEnd" "I", Cond.fieldLink RX3 22 "FourPhases$Link" "answerAtEnd" "I", Cond.fieldLink RX3 25 "FourPhases$Link" "answerAtBeginning" "I", Cond.fieldLink RX3 28 "FourPhases$Link" "dataAtBeginning" "I", Cond.fieldLink RX3 31 "FourPhases$Link" "dataAtEnd" "I", Cond.fieldLink RX3 34 "FourPhases$Link" "atRest" "Z", Cond.fieldLink RX3 38 "FourPhases$Link" "requestWaits" "Z", Cond.fieldLink RX3 41 "FourPhases$Link" "offeredWords" "I", Cond.methodLink RX2 76 yX4_clear, Cond.instanceMethod yX4_clear, Cond.selects RX4 yX4_clear yX4_clear, Cond.code yX4_clear cX4_clear 1 none, Cond.fieldLink RX4 21 "FourPhases$Notes" "count" "I", Cond.fieldLink RX4 25 "FourPhases$Notes" "rightCount" "I", Cond.methodLink RX7 28 yX1_init, Cond.instanceMethod yX1_init, Cond.code yX1_init cX1_init 2 none, Cond.methodLink RX1 3 objectInit, Cond.classLink RX1 9 RX2]
def wsX7_init_r5 : List Cond := [Cond.fieldLink RX1 11 "FourPhases$History" "states" "[LFourPhases$Line;", Cond.methodLink RX1 17 yX2_init, Cond.instanceMethod yX6_init, Cond.code yX6_init cX6_init 1 none, Cond.methodLink RX6 3 objectInit, Cond.arrayClass .char, Cond.fieldLink RX6 9 "FourPhases$Text" "characters" "[C", Cond.fieldLink RX6 15 "FourPhases$Text" "letters" "[I", Cond.fieldLink RX6 19 "FourPhases$Text" "targets" "[I", Cond.fieldLink RX6 22 "FourPhases$Text" "values" "[I"]
def wsX7_init : List Cond := .code yX7_init cX7_init 1 none :: ((wsX7_init_r1 ++ (wsX7_init_r2 ++ (wsX7_init_r3 ++ (wsX7_init_r4 ++ wsX7_init_r5)))) ++ wsX20 ++ wsX70 ++ wsX10 ++ wsX60 ++ wsX00 ++ wsX40 ++ wsX30 ++ wsX50)
def wsX7_accept_r1 : List Cond := [Cond.fieldLink RX7 29 "FourPhases" "history" "LFourPhases$History;", Cond.fieldLink RX7 12 "FourPhases" "now" "LFourPhases$Line;", Cond.fieldLink RX7 16 "FourPhases" "trial" "LFourPhases$Line;", Cond.methodLink RX7 186 yX1_record, Cond.instanceMethod yX1_record, Cond.selects RX1 yX1_record yX1_record, Cond.initialized RX1, Cond.code yX1_record cX1_record 2 none, Cond.fieldLink RX1 18 "FourPhases$History" "count" "I", Cond.fieldLink RX1 11 "FourPhases$History" "states" "[LFourPhases$Line;", Cond.methodLink RX1 22 yX1_dropOldest, Cond.instanceMethod yX1_dropOldest, Cond.selects RX1 yX1_dropOldest yX1_dropOldest, Cond.code yX1_dropOldest cX1_dropOldest 3 none, Cond.methodLink RX1 25 yX2_copyFrom, Cond.instanceMethod yX2_copyFrom, Cond.selects RX2 yX2_copyFrom yX2_copyFrom, Cond.initialized RX2, Cond.code yX2_copyFrom cX2_copyFrom 3 none, Cond.fieldLink RX2 53 "FourPhases$Line" "stages" "I", Cond.fieldLink RX2 57 "FourPhases$Line" "time" "I", Cond.fieldLink RX2 60 "FourPhases$Line" "latestSender" "I", Cond.fieldLink RX2 63 "FourPhases$Line" "offeredWords" "I", Cond.fieldLink RX2 66 "FourPhases$Line" "arrivedChanges" "I"]
def wsX7_accept_r2 : List Cond := [Cond.fieldLink RX2 9 "FourPhases$Line" "settings" "[I", Cond.methodLink RX2 77 arraycopyName, Cond.native arraycopyName, Cond.static arraycopyName, Cond.initialized "java/lang/System", Cond.fieldLink RX2 17 "FourPhases$Line" "links" "[LFourPhases$Link;", Cond.fieldLink RX2 21 "FourPhases$Line" "held" "[I", Cond.fieldLink RX2 26 "FourPhases$Line" "rows" "[LFourPhases$Row;", Cond.fieldLink RX2 33 "FourPhases$Line" "underWay" "LFourPhases$Changes;", Cond.fieldLink RX2 40 "FourPhases$Line" "notes" "LFourPhases$Notes;", Cond.fieldLink RX2 44 "FourPhases$Line" "offered" "[I", Cond.methodLink RX2 83 yX3_copyFrom, Cond.instanceMethod yX3_copyFrom, Cond.selects RX3 yX3_copyFrom yX3_copyFrom, Cond.initialized RX3, Cond.code yX3_copyFrom cX3_copyFrom 2 none, Cond.fieldLink RX3 9 "FourPhases$Link" "delays" "[I", Cond.methodLink RX3 44 arraycopyName, Cond.fieldLink RX3 15 "FourPhases$Link" "requestAtBeginning" "I", Cond.fieldLink RX3 19 "FourPhases$Link" "requestAtEnd" "I", Cond.fieldLink RX3 22 "FourPhases$Link" "answerAtEnd" "I", Cond.fieldLink RX3 25 "FourPhases$Link" "answerAtBeginning" "I", Cond.fieldLink RX3 28 "FourPhases$Link" "dataAtBeginning" "I", Cond.fieldLink RX3 31 "FourPhases$Link" "dataAtEnd" "I"]
def wsX7_accept_r3 : List Cond := [Cond.fieldLink RX3 34 "FourPhases$Link" "atRest" "Z", Cond.fieldLink RX3 38 "FourPhases$Link" "requestWaits" "Z", Cond.fieldLink RX3 41 "FourPhases$Link" "offeredWords" "I", Cond.methodLink RX2 87 yX5_copyFrom, Cond.instanceMethod yX5_copyFrom, Cond.selects RX5 yX5_copyFrom yX5_copyFrom, Cond.initialized RX5, Cond.code yX5_copyFrom cX5_copyFrom 2 none, Cond.fieldLink RX5 15 "FourPhases$Row" "count" "I", Cond.fieldLink RX5 9 "FourPhases$Row" "words" "[I", Cond.methodLink RX5 19 arraycopyName, Cond.methodLink RX2 90 yX0_copyFrom, Cond.instanceMethod yX0_copyFrom, Cond.selects RX0 yX0_copyFrom yX0_copyFrom, Cond.initialized RX0, Cond.code yX0_copyFrom cX0_copyFrom 2 none, Cond.fieldLink RX0 18 "FourPhases$Changes" "head" "I", Cond.fieldLink RX0 22 "FourPhases$Changes" "count" "I", Cond.fieldLink RX0 9 "FourPhases$Changes" "times" "[I", Cond.methodLink RX0 25 arraycopyName, Cond.fieldLink RX0 15 "FourPhases$Changes" "signals" "[I", Cond.methodLink RX2 93 yX4_copyFrom, Cond.instanceMethod yX4_copyFrom, Cond.selects RX4 yX4_copyFrom yX4_copyFrom]
def wsX7_accept_r4 : List Cond := [Cond.initialized RX4, Cond.code yX4_copyFrom cX4_copyFrom 2 none, Cond.fieldLink RX4 9 "FourPhases$Notes" "words" "[I", Cond.methodLink RX4 28 arraycopyName, Cond.fieldLink RX4 15 "FourPhases$Notes" "times" "[I", Cond.fieldLink RX4 18 "FourPhases$Notes" "rights" "[I", Cond.fieldLink RX4 21 "FourPhases$Notes" "count" "I", Cond.fieldLink RX4 25 "FourPhases$Notes" "rightCount" "I", Cond.methodLink RX7 40 yX2_copyFrom]
def wsX7_accept : List Cond := .code yX7_accept cX7_accept 2 (some .int) :: ((wsX7_accept_r1 ++ (wsX7_accept_r2 ++ (wsX7_accept_r3 ++ wsX7_accept_r4))) ++ wsX70 ++ wsX10 ++ wsX20 ++ wsX30 ++ wsX50 ++ wsX00 ++ wsX40)
def wsX7_build_r1 : List Cond := [Cond.fieldLink RX7 16 "FourPhases" "trial" "LFourPhases$Line;", Cond.fieldLink RX7 12 "FourPhases" "now" "LFourPhases$Line;", Cond.methodLink RX7 40 yX2_copyFrom, Cond.instanceMethod yX2_copyFrom, Cond.selects RX2 yX2_copyFrom yX2_copyFrom, Cond.initialized RX2, Cond.code yX2_copyFrom cX2_copyFrom 3 none, Cond.fieldLink RX2 53 "FourPhases$Line" "stages" "I", Cond.fieldLink RX2 57 "FourPhases$Line" "time" "I", Cond.fieldLink RX2 60 "FourPhases$Line" "latestSender" "I", Cond.fieldLink RX2 63 "FourPhases$Line" "offeredWords" "I", Cond.fieldLink RX2 66 "FourPhases$Line" "arrivedChanges" "I", Cond.fieldLink RX2 9 "FourPhases$Line" "settings" "[I", Cond.methodLink RX2 77 arraycopyName, Cond.native arraycopyName, Cond.static arraycopyName, Cond.initialized "java/lang/System", Cond.fieldLink RX2 17 "FourPhases$Line" "links" "[LFourPhases$Link;", Cond.fieldLink RX2 21 "FourPhases$Line" "held" "[I", Cond.fieldLink RX2 26 "FourPhases$Line" "rows" "[LFourPhases$Row;", Cond.fieldLink RX2 33 "FourPhases$Line" "underWay" "LFourPhases$Changes;", Cond.fieldLink RX2 40 "FourPhases$Line" "notes" "LFourPhases$Notes;", Cond.fieldLink RX2 44 "FourPhases$Line" "offered" "[I", Cond.methodLink RX2 83 yX3_copyFrom]
def wsX7_build_r2 : List Cond := [Cond.instanceMethod yX3_copyFrom, Cond.selects RX3 yX3_copyFrom yX3_copyFrom, Cond.initialized RX3, Cond.code yX3_copyFrom cX3_copyFrom 2 none, Cond.fieldLink RX3 9 "FourPhases$Link" "delays" "[I", Cond.methodLink RX3 44 arraycopyName, Cond.fieldLink RX3 15 "FourPhases$Link" "requestAtBeginning" "I", Cond.fieldLink RX3 19 "FourPhases$Link" "requestAtEnd" "I", Cond.fieldLink RX3 22 "FourPhases$Link" "answerAtEnd" "I", Cond.fieldLink RX3 25 "FourPhases$Link" "answerAtBeginning" "I", Cond.fieldLink RX3 28 "FourPhases$Link" "dataAtBeginning" "I", Cond.fieldLink RX3 31 "FourPhases$Link" "dataAtEnd" "I", Cond.fieldLink RX3 34 "FourPhases$Link" "atRest" "Z", Cond.fieldLink RX3 38 "FourPhases$Link" "requestWaits" "Z", Cond.fieldLink RX3 41 "FourPhases$Link" "offeredWords" "I", Cond.methodLink RX2 87 yX5_copyFrom, Cond.instanceMethod yX5_copyFrom, Cond.selects RX5 yX5_copyFrom yX5_copyFrom, Cond.initialized RX5, Cond.code yX5_copyFrom cX5_copyFrom 2 none, Cond.fieldLink RX5 15 "FourPhases$Row" "count" "I", Cond.fieldLink RX5 9 "FourPhases$Row" "words" "[I", Cond.methodLink RX5 19 arraycopyName, Cond.methodLink RX2 90 yX0_copyFrom]
def wsX7_build_r3 : List Cond := [Cond.instanceMethod yX0_copyFrom, Cond.selects RX0 yX0_copyFrom yX0_copyFrom, Cond.initialized RX0, Cond.code yX0_copyFrom cX0_copyFrom 2 none, Cond.fieldLink RX0 18 "FourPhases$Changes" "head" "I", Cond.fieldLink RX0 22 "FourPhases$Changes" "count" "I", Cond.fieldLink RX0 9 "FourPhases$Changes" "times" "[I", Cond.methodLink RX0 25 arraycopyName, Cond.fieldLink RX0 15 "FourPhases$Changes" "signals" "[I", Cond.methodLink RX2 93 yX4_copyFrom, Cond.instanceMethod yX4_copyFrom, Cond.selects RX4 yX4_copyFrom yX4_copyFrom, Cond.initialized RX4, Cond.code yX4_copyFrom cX4_copyFrom 2 none, Cond.fieldLink RX4 9 "FourPhases$Notes" "words" "[I", Cond.methodLink RX4 28 arraycopyName, Cond.fieldLink RX4 15 "FourPhases$Notes" "times" "[I", Cond.fieldLink RX4 18 "FourPhases$Notes" "rights" "[I", Cond.fieldLink RX4 21 "FourPhases$Notes" "count" "I", Cond.fieldLink RX4 25 "FourPhases$Notes" "rightCount" "I", Cond.methodLink RX7 44 yX2_clearTo, Cond.instanceMethod yX2_clearTo, Cond.selects RX2 yX2_clearTo yX2_clearTo, Cond.code yX2_clearTo cX2_clearTo 3 none]
def wsX7_build_r4 : List Cond := [Cond.fieldLink RX2 72 "FourPhases$Row" "count" "I", Cond.fieldLink RX2 75 "FourPhases$Changes" "count" "I", Cond.methodLink RX2 69 yX3_clear, Cond.instanceMethod yX3_clear, Cond.selects RX3 yX3_clear yX3_clear, Cond.code yX3_clear cX3_clear 2 none, Cond.methodLink RX2 76 yX4_clear, Cond.instanceMethod yX4_clear, Cond.selects RX4 yX4_clear yX4_clear, Cond.code yX4_clear cX4_clear 1 none, Cond.methodLink RX7 48 yX2_fullStages, Cond.instanceMethod yX2_fullStages, Cond.selects RX2 yX2_fullStages yX2_fullStages, Cond.code yX2_fullStages cX2_fullStages 3 (some .int), Cond.methodLink RX7 52 yX2_waitingWords, Cond.instanceMethod yX2_waitingWords, Cond.selects RX2 yX2_waitingWords yX2_waitingWords, Cond.code yX2_waitingWords cX2_waitingWords 1 (some .int), Cond.methodLink RX7 55 yX7_accept, Cond.instanceMethod yX7_accept, Cond.selects RX7 yX7_accept yX7_accept, Cond.initialized RX7, Cond.code yX7_accept cX7_accept 2 (some .int), Cond.fieldLink RX7 29 "FourPhases" "history" "LFourPhases$History;"]
def wsX7_build_r5 : List Cond := [Cond.methodLink RX7 186 yX1_record, Cond.instanceMethod yX1_record, Cond.selects RX1 yX1_record yX1_record, Cond.initialized RX1, Cond.code yX1_record cX1_record 2 none, Cond.fieldLink RX1 18 "FourPhases$History" "count" "I", Cond.fieldLink RX1 11 "FourPhases$History" "states" "[LFourPhases$Line;", Cond.methodLink RX1 22 yX1_dropOldest, Cond.instanceMethod yX1_dropOldest, Cond.selects RX1 yX1_dropOldest yX1_dropOldest, Cond.code yX1_dropOldest cX1_dropOldest 3 none, Cond.methodLink RX1 25 yX2_copyFrom]
def wsX7_build : List Cond := .code yX7_build cX7_build 2 (some .int) :: ((wsX7_build_r1 ++ (wsX7_build_r2 ++ (wsX7_build_r3 ++ (wsX7_build_r4 ++ wsX7_build_r5)))) ++ wsX70 ++ wsX20 ++ wsX30 ++ wsX50 ++ wsX00 ++ wsX40 ++ wsX10)
def wsX7_add_r1 : List Cond := [Cond.fieldLink RX7 16 "FourPhases" "trial" "LFourPhases$Line;", Cond.fieldLink RX7 12 "FourPhases" "now" "LFourPhases$Line;", Cond.methodLink RX7 40 yX2_copyFrom, Cond.instanceMethod yX2_copyFrom, Cond.selects RX2 yX2_copyFrom yX2_copyFrom, Cond.initialized RX2, Cond.code yX2_copyFrom cX2_copyFrom 3 none, Cond.fieldLink RX2 53 "FourPhases$Line" "stages" "I", Cond.fieldLink RX2 57 "FourPhases$Line" "time" "I", Cond.fieldLink RX2 60 "FourPhases$Line" "latestSender" "I", Cond.fieldLink RX2 63 "FourPhases$Line" "offeredWords" "I", Cond.fieldLink RX2 66 "FourPhases$Line" "arrivedChanges" "I", Cond.fieldLink RX2 9 "FourPhases$Line" "settings" "[I", Cond.methodLink RX2 77 arraycopyName, Cond.native arraycopyName, Cond.static arraycopyName, Cond.initialized "java/lang/System", Cond.fieldLink RX2 17 "FourPhases$Line" "links" "[LFourPhases$Link;", Cond.fieldLink RX2 21 "FourPhases$Line" "held" "[I", Cond.fieldLink RX2 26 "FourPhases$Line" "rows" "[LFourPhases$Row;", Cond.fieldLink RX2 33 "FourPhases$Line" "underWay" "LFourPhases$Changes;", Cond.fieldLink RX2 40 "FourPhases$Line" "notes" "LFourPhases$Notes;", Cond.fieldLink RX2 44 "FourPhases$Line" "offered" "[I", Cond.methodLink RX2 83 yX3_copyFrom]
def wsX7_add_r2 : List Cond := [Cond.instanceMethod yX3_copyFrom, Cond.selects RX3 yX3_copyFrom yX3_copyFrom, Cond.initialized RX3, Cond.code yX3_copyFrom cX3_copyFrom 2 none, Cond.fieldLink RX3 9 "FourPhases$Link" "delays" "[I", Cond.methodLink RX3 44 arraycopyName, Cond.fieldLink RX3 15 "FourPhases$Link" "requestAtBeginning" "I", Cond.fieldLink RX3 19 "FourPhases$Link" "requestAtEnd" "I", Cond.fieldLink RX3 22 "FourPhases$Link" "answerAtEnd" "I", Cond.fieldLink RX3 25 "FourPhases$Link" "answerAtBeginning" "I", Cond.fieldLink RX3 28 "FourPhases$Link" "dataAtBeginning" "I", Cond.fieldLink RX3 31 "FourPhases$Link" "dataAtEnd" "I", Cond.fieldLink RX3 34 "FourPhases$Link" "atRest" "Z", Cond.fieldLink RX3 38 "FourPhases$Link" "requestWaits" "Z", Cond.fieldLink RX3 41 "FourPhases$Link" "offeredWords" "I", Cond.methodLink RX2 87 yX5_copyFrom, Cond.instanceMethod yX5_copyFrom, Cond.selects RX5 yX5_copyFrom yX5_copyFrom, Cond.initialized RX5, Cond.code yX5_copyFrom cX5_copyFrom 2 none, Cond.fieldLink RX5 15 "FourPhases$Row" "count" "I", Cond.fieldLink RX5 9 "FourPhases$Row" "words" "[I", Cond.methodLink RX5 19 arraycopyName, Cond.methodLink RX2 90 yX0_copyFrom]
def wsX7_add_r3 : List Cond := [Cond.instanceMethod yX0_copyFrom, Cond.selects RX0 yX0_copyFrom yX0_copyFrom, Cond.initialized RX0, Cond.code yX0_copyFrom cX0_copyFrom 2 none, Cond.fieldLink RX0 18 "FourPhases$Changes" "head" "I", Cond.fieldLink RX0 22 "FourPhases$Changes" "count" "I", Cond.fieldLink RX0 9 "FourPhases$Changes" "times" "[I", Cond.methodLink RX0 25 arraycopyName, Cond.fieldLink RX0 15 "FourPhases$Changes" "signals" "[I", Cond.methodLink RX2 93 yX4_copyFrom, Cond.instanceMethod yX4_copyFrom, Cond.selects RX4 yX4_copyFrom yX4_copyFrom, Cond.initialized RX4, Cond.code yX4_copyFrom cX4_copyFrom 2 none, Cond.fieldLink RX4 9 "FourPhases$Notes" "words" "[I", Cond.methodLink RX4 28 arraycopyName, Cond.fieldLink RX4 15 "FourPhases$Notes" "times" "[I", Cond.fieldLink RX4 18 "FourPhases$Notes" "rights" "[I", Cond.fieldLink RX4 21 "FourPhases$Notes" "count" "I", Cond.fieldLink RX4 25 "FourPhases$Notes" "rightCount" "I", Cond.methodLink RX7 59 yX2_addWord, Cond.instanceMethod yX2_addWord, Cond.selects RX2 yX2_addWord yX2_addWord, Cond.code yX2_addWord cX2_addWord 4 (some .int)]
def wsX7_add_r4 : List Cond := [Cond.fieldLink RX2 72 "FourPhases$Row" "count" "I", Cond.fieldLink RX2 99 "FourPhases$Link" "atRest" "Z", Cond.methodLink RX2 96 yX5_append, Cond.instanceMethod yX5_append, Cond.selects RX5 yX5_append yX5_append, Cond.code yX5_append cX5_append 2 none, Cond.methodLink RX2 103 yX2_letOneGo, Cond.instanceMethod yX2_letOneGo, Cond.selects RX2 yX2_letOneGo yX2_letOneGo, Cond.code yX2_letOneGo cX2_letOneGo 4 (some .int), Cond.methodLink RX2 173 yX2_chosenSender, Cond.instanceMethod yX2_chosenSender, Cond.selects RX2 yX2_chosenSender yX2_chosenSender, Cond.code yX2_chosenSender cX2_chosenSender 1 (some .int), Cond.methodLink RX2 176 yX5_removeFirst, Cond.instanceMethod yX5_removeFirst, Cond.selects RX5 yX5_removeFirst yX5_removeFirst, Cond.code yX5_removeFirst cX5_removeFirst 3 (some .int), Cond.methodLink RX2 107 yX2_offer, Cond.instanceMethod yX2_offer, Cond.selects RX2 yX2_offer yX2_offer, Cond.code yX2_offer cX2_offer 4 none, Cond.fieldLink RX2 180 "FourPhases$Link" "dataAtBeginning" "I", Cond.fieldLink RX2 115 "FourPhases$Link" "delays" "[I"]
def wsX7_add_r5 : List Cond := [Cond.fieldLink RX2 187 "FourPhases$Link" "offeredWords" "I", Cond.methodLink RX2 183 yX0_insert, Cond.instanceMethod yX0_insert, Cond.selects RX0 yX0_insert yX0_insert, Cond.code yX0_insert cX0_insert 8 none, Cond.methodLink RX2 170 yX2_makeRequest, Cond.instanceMethod yX2_makeRequest, Cond.selects RX2 yX2_makeRequest yX2_makeRequest, Cond.code yX2_makeRequest cX2_makeRequest 4 none, Cond.fieldLink RX2 188 "FourPhases$Link" "requestAtBeginning" "I", Cond.methodLink RX7 55 yX7_accept, Cond.instanceMethod yX7_accept, Cond.selects RX7 yX7_accept yX7_accept, Cond.initialized RX7, Cond.code yX7_accept cX7_accept 2 (some .int), Cond.fieldLink RX7 29 "FourPhases" "history" "LFourPhases$History;", Cond.methodLink RX7 186 yX1_record, Cond.instanceMethod yX1_record, Cond.selects RX1 yX1_record yX1_record, Cond.initialized RX1, Cond.code yX1_record cX1_record 2 none, Cond.fieldLink RX1 18 "FourPhases$History" "count" "I", Cond.fieldLink RX1 11 "FourPhases$History" "states" "[LFourPhases$Line;", Cond.methodLink RX1 22 yX1_dropOldest]
def wsX7_add_r6 : List Cond := [Cond.instanceMethod yX1_dropOldest, Cond.selects RX1 yX1_dropOldest yX1_dropOldest, Cond.code yX1_dropOldest cX1_dropOldest 3 none, Cond.methodLink RX1 25 yX2_copyFrom]
def wsX7_add : List Cond := .code yX7_add cX7_add 3 (some .int) :: ((wsX7_add_r1 ++ (wsX7_add_r2 ++ (wsX7_add_r3 ++ (wsX7_add_r4 ++ (wsX7_add_r5 ++ wsX7_add_r6))))) ++ wsX70 ++ wsX20 ++ wsX30 ++ wsX50 ++ wsX00 ++ wsX40 ++ wsX10)
def wsX7_run_r1 : List Cond := [Cond.fieldLink RX7 16 "FourPhases" "trial" "LFourPhases$Line;", Cond.fieldLink RX7 12 "FourPhases" "now" "LFourPhases$Line;", Cond.methodLink RX7 40 yX2_copyFrom, Cond.instanceMethod yX2_copyFrom, Cond.selects RX2 yX2_copyFrom yX2_copyFrom, Cond.initialized RX2, Cond.code yX2_copyFrom cX2_copyFrom 3 none, Cond.fieldLink RX2 53 "FourPhases$Line" "stages" "I", Cond.fieldLink RX2 57 "FourPhases$Line" "time" "I", Cond.fieldLink RX2 60 "FourPhases$Line" "latestSender" "I", Cond.fieldLink RX2 63 "FourPhases$Line" "offeredWords" "I", Cond.fieldLink RX2 66 "FourPhases$Line" "arrivedChanges" "I", Cond.fieldLink RX2 9 "FourPhases$Line" "settings" "[I", Cond.methodLink RX2 77 arraycopyName, Cond.native arraycopyName, Cond.static arraycopyName, Cond.initialized "java/lang/System", Cond.fieldLink RX2 17 "FourPhases$Line" "links" "[LFourPhases$Link;", Cond.fieldLink RX2 21 "FourPhases$Line" "held" "[I", Cond.fieldLink RX2 26 "FourPhases$Line" "rows" "[LFourPhases$Row;", Cond.fieldLink RX2 33 "FourPhases$Line" "underWay" "LFourPhases$Changes;", Cond.fieldLink RX2 40 "FourPhases$Line" "notes" "LFourPhases$Notes;", Cond.fieldLink RX2 44 "FourPhases$Line" "offered" "[I", Cond.methodLink RX2 83 yX3_copyFrom]
def wsX7_run_r2 : List Cond := [Cond.instanceMethod yX3_copyFrom, Cond.selects RX3 yX3_copyFrom yX3_copyFrom, Cond.initialized RX3, Cond.code yX3_copyFrom cX3_copyFrom 2 none, Cond.fieldLink RX3 9 "FourPhases$Link" "delays" "[I", Cond.methodLink RX3 44 arraycopyName, Cond.fieldLink RX3 15 "FourPhases$Link" "requestAtBeginning" "I", Cond.fieldLink RX3 19 "FourPhases$Link" "requestAtEnd" "I", Cond.fieldLink RX3 22 "FourPhases$Link" "answerAtEnd" "I", Cond.fieldLink RX3 25 "FourPhases$Link" "answerAtBeginning" "I", Cond.fieldLink RX3 28 "FourPhases$Link" "dataAtBeginning" "I", Cond.fieldLink RX3 31 "FourPhases$Link" "dataAtEnd" "I", Cond.fieldLink RX3 34 "FourPhases$Link" "atRest" "Z", Cond.fieldLink RX3 38 "FourPhases$Link" "requestWaits" "Z", Cond.fieldLink RX3 41 "FourPhases$Link" "offeredWords" "I", Cond.methodLink RX2 87 yX5_copyFrom, Cond.instanceMethod yX5_copyFrom, Cond.selects RX5 yX5_copyFrom yX5_copyFrom, Cond.initialized RX5, Cond.code yX5_copyFrom cX5_copyFrom 2 none, Cond.fieldLink RX5 15 "FourPhases$Row" "count" "I", Cond.fieldLink RX5 9 "FourPhases$Row" "words" "[I", Cond.methodLink RX5 19 arraycopyName, Cond.methodLink RX2 90 yX0_copyFrom]
def wsX7_run_r3 : List Cond := [Cond.instanceMethod yX0_copyFrom, Cond.selects RX0 yX0_copyFrom yX0_copyFrom, Cond.initialized RX0, Cond.code yX0_copyFrom cX0_copyFrom 2 none, Cond.fieldLink RX0 18 "FourPhases$Changes" "head" "I", Cond.fieldLink RX0 22 "FourPhases$Changes" "count" "I", Cond.fieldLink RX0 9 "FourPhases$Changes" "times" "[I", Cond.methodLink RX0 25 arraycopyName, Cond.fieldLink RX0 15 "FourPhases$Changes" "signals" "[I", Cond.methodLink RX2 93 yX4_copyFrom, Cond.instanceMethod yX4_copyFrom, Cond.selects RX4 yX4_copyFrom yX4_copyFrom, Cond.initialized RX4, Cond.code yX4_copyFrom cX4_copyFrom 2 none, Cond.fieldLink RX4 9 "FourPhases$Notes" "words" "[I", Cond.methodLink RX4 28 arraycopyName, Cond.fieldLink RX4 15 "FourPhases$Notes" "times" "[I", Cond.fieldLink RX4 18 "FourPhases$Notes" "rights" "[I", Cond.fieldLink RX4 21 "FourPhases$Notes" "count" "I", Cond.fieldLink RX4 25 "FourPhases$Notes" "rightCount" "I", Cond.methodLink RX7 63 yX2_passTicks, Cond.instanceMethod yX2_passTicks, Cond.selects RX2 yX2_passTicks yX2_passTicks, Cond.code yX2_passTicks cX2_passTicks 4 (some .int)]
def wsX7_run_r4 : List Cond := [Cond.constant RX2 118 (1000000), Cond.fieldLink RX2 119 "FourPhases$Notes" "count" "I", Cond.methodLink RX2 120 yX2_letArriveUpTo, Cond.instanceMethod yX2_letArriveUpTo, Cond.selects RX2 yX2_letArriveUpTo yX2_letArriveUpTo, Cond.code yX2_letArriveUpTo cX2_letArriveUpTo 6 none, Cond.fieldLink RX2 148 "FourPhases$Link" "dataAtEnd" "I", Cond.methodLink RX2 123 yX2_isQuiet, Cond.instanceMethod yX2_isQuiet, Cond.selects RX2 yX2_isQuiet yX2_isQuiet, Cond.code yX2_isQuiet cX2_isQuiet 1 (some .boolean), Cond.fieldLink RX2 75 "FourPhases$Changes" "count" "I", Cond.methodLink RX2 127 yX0_firstTime, Cond.instanceMethod yX0_firstTime, Cond.selects RX0 yX0_firstTime yX0_firstTime, Cond.code yX0_firstTime cX0_firstTime 1 (some .int), Cond.methodLink RX2 130 yX0_firstLink, Cond.instanceMethod yX0_firstLink, Cond.selects RX0 yX0_firstLink yX0_firstLink, Cond.code yX0_firstLink cX0_firstLink 1 (some .int), Cond.methodLink RX2 133 yX0_firstWire, Cond.instanceMethod yX0_firstWire, Cond.selects RX0 yX0_firstWire yX0_firstWire, Cond.code yX0_firstWire cX0_firstWire 1 (some .int)]
def wsX7_run_r5 : List Cond := [Cond.methodLink RX2 136 yX0_firstValue, Cond.instanceMethod yX0_firstValue, Cond.selects RX0 yX0_firstValue yX0_firstValue, Cond.code yX0_firstValue cX0_firstValue 1 (some .int), Cond.methodLink RX2 139 yX0_removeFirst, Cond.instanceMethod yX0_removeFirst, Cond.selects RX0 yX0_removeFirst yX0_removeFirst, Cond.code yX0_removeFirst cX0_removeFirst 1 none, Cond.methodLink RX2 111 yX2_hasLink, Cond.instanceMethod yX2_hasLink, Cond.selects RX2 yX2_hasLink yX2_hasLink, Cond.code yX2_hasLink cX2_hasLink 2 (some .boolean), Cond.methodLink RX2 142 yX2_letRequestArrive, Cond.instanceMethod yX2_letRequestArrive, Cond.selects RX2 yX2_letRequestArrive yX2_letRequestArrive, Cond.code yX2_letRequestArrive cX2_letRequestArrive 3 none, Cond.fieldLink RX2 151 "FourPhases$Link" "requestAtEnd" "I", Cond.fieldLink RX2 161 "FourPhases$Link" "requestWaits" "Z", Cond.fieldLink RX2 99 "FourPhases$Link" "atRest" "Z", Cond.methodLink RX2 154 yX2_makeAnswer, Cond.instanceMethod yX2_makeAnswer, Cond.selects RX2 yX2_makeAnswer yX2_makeAnswer, Cond.code yX2_makeAnswer cX2_makeAnswer 4 none, Cond.fieldLink RX2 191 "FourPhases$Link" "answerAtEnd" "I"]
def wsX7_run_r6 : List Cond := [Cond.fieldLink RX2 115 "FourPhases$Link" "delays" "[I", Cond.methodLink RX2 183 yX0_insert, Cond.instanceMethod yX0_insert, Cond.selects RX0 yX0_insert yX0_insert, Cond.code yX0_insert cX0_insert 8 none, Cond.methodLink RX2 158 yX2_noteWord, Cond.instanceMethod yX2_noteWord, Cond.selects RX2 yX2_noteWord yX2_noteWord, Cond.code yX2_noteWord cX2_noteWord 3 none, Cond.methodLink RX2 178 yX4_append, Cond.instanceMethod yX4_append, Cond.selects RX4 yX4_append yX4_append, Cond.code yX4_append cX4_append 5 none, Cond.methodLink RX2 164 yX2_takeWord, Cond.instanceMethod yX2_takeWord, Cond.selects RX2 yX2_takeWord yX2_takeWord, Cond.code yX2_takeWord cX2_takeWord 2 none, Cond.methodLink RX2 107 yX2_offer, Cond.instanceMethod yX2_offer, Cond.selects RX2 yX2_offer yX2_offer, Cond.code yX2_offer cX2_offer 4 none, Cond.fieldLink RX2 180 "FourPhases$Link" "dataAtBeginning" "I", Cond.fieldLink RX2 187 "FourPhases$Link" "offeredWords" "I", Cond.methodLink RX2 170 yX2_makeRequest]
def wsX7_run_r7 : List Cond := [Cond.instanceMethod yX2_makeRequest, Cond.selects RX2 yX2_makeRequest yX2_makeRequest, Cond.code yX2_makeRequest cX2_makeRequest 4 none, Cond.fieldLink RX2 188 "FourPhases$Link" "requestAtBeginning" "I", Cond.methodLink RX2 145 yX2_letAnswerArrive, Cond.instanceMethod yX2_letAnswerArrive, Cond.selects RX2 yX2_letAnswerArrive yX2_letAnswerArrive, Cond.code yX2_letAnswerArrive cX2_letAnswerArrive 4 none, Cond.fieldLink RX2 167 "FourPhases$Link" "answerAtBeginning" "I", Cond.methodLink RX2 103 yX2_letOneGo, Cond.instanceMethod yX2_letOneGo, Cond.selects RX2 yX2_letOneGo yX2_letOneGo, Cond.code yX2_letOneGo cX2_letOneGo 4 (some .int), Cond.methodLink RX2 173 yX2_chosenSender, Cond.instanceMethod yX2_chosenSender, Cond.selects RX2 yX2_chosenSender yX2_chosenSender, Cond.code yX2_chosenSender cX2_chosenSender 1 (some .int), Cond.fieldLink RX2 72 "FourPhases$Row" "count" "I", Cond.methodLink RX2 176 yX5_removeFirst, Cond.instanceMethod yX5_removeFirst, Cond.selects RX5 yX5_removeFirst yX5_removeFirst, Cond.code yX5_removeFirst cX5_removeFirst 3 (some .int), Cond.methodLink RX7 55 yX7_accept, Cond.instanceMethod yX7_accept]
def wsX7_run_r8 : List Cond := [Cond.selects RX7 yX7_accept yX7_accept, Cond.initialized RX7, Cond.code yX7_accept cX7_accept 2 (some .int), Cond.fieldLink RX7 29 "FourPhases" "history" "LFourPhases$History;", Cond.methodLink RX7 186 yX1_record, Cond.instanceMethod yX1_record, Cond.selects RX1 yX1_record yX1_record, Cond.initialized RX1, Cond.code yX1_record cX1_record 2 none, Cond.fieldLink RX1 18 "FourPhases$History" "count" "I", Cond.fieldLink RX1 11 "FourPhases$History" "states" "[LFourPhases$Line;", Cond.methodLink RX1 22 yX1_dropOldest, Cond.instanceMethod yX1_dropOldest, Cond.selects RX1 yX1_dropOldest yX1_dropOldest, Cond.code yX1_dropOldest cX1_dropOldest 3 none, Cond.methodLink RX1 25 yX2_copyFrom]
def wsX7_run : List Cond := .code yX7_run cX7_run 2 (some .int) :: ((wsX7_run_r1 ++ (wsX7_run_r2 ++ (wsX7_run_r3 ++ (wsX7_run_r4 ++ (wsX7_run_r5 ++ (wsX7_run_r6 ++ (wsX7_run_r7 ++ wsX7_run_r8))))))) ++ wsX70 ++ wsX20 ++ wsX30 ++ wsX50 ++ wsX00 ++ wsX40 ++ wsX10)
def wsX7_finish_r1 : List Cond := [Cond.fieldLink RX7 12 "FourPhases" "now" "LFourPhases$Line;", Cond.fieldLink RX7 16 "FourPhases" "trial" "LFourPhases$Line;", Cond.constant RX7 70 (2000000000), Cond.fieldLink RX7 74 "FourPhases$Line" "time" "I", Cond.constant RX7 78 (1000000), Cond.methodLink RX7 66 yX2_isQuiet, Cond.instanceMethod yX2_isQuiet, Cond.selects RX2 yX2_isQuiet yX2_isQuiet, Cond.initialized RX2, Cond.code yX2_isQuiet cX2_isQuiet 1 (some .boolean), Cond.fieldLink RX2 33 "FourPhases$Line" "underWay" "LFourPhases$Changes;", Cond.fieldLink RX2 75 "FourPhases$Changes" "count" "I", Cond.methodLink RX7 40 yX2_copyFrom, Cond.instanceMethod yX2_copyFrom, Cond.selects RX2 yX2_copyFrom yX2_copyFrom, Cond.code yX2_copyFrom cX2_copyFrom 3 none, Cond.fieldLink RX2 53 "FourPhases$Line" "stages" "I", Cond.fieldLink RX2 57 "FourPhases$Line" "time" "I", Cond.fieldLink RX2 60 "FourPhases$Line" "latestSender" "I", Cond.fieldLink RX2 63 "FourPhases$Line" "offeredWords" "I", Cond.fieldLink RX2 66 "FourPhases$Line" "arrivedChanges" "I", Cond.fieldLink RX2 9 "FourPhases$Line" "settings" "[I", Cond.methodLink RX2 77 arraycopyName, Cond.native arraycopyName]
def wsX7_finish_r2 : List Cond := [Cond.static arraycopyName, Cond.initialized "java/lang/System", Cond.fieldLink RX2 17 "FourPhases$Line" "links" "[LFourPhases$Link;", Cond.fieldLink RX2 21 "FourPhases$Line" "held" "[I", Cond.fieldLink RX2 26 "FourPhases$Line" "rows" "[LFourPhases$Row;", Cond.fieldLink RX2 40 "FourPhases$Line" "notes" "LFourPhases$Notes;", Cond.fieldLink RX2 44 "FourPhases$Line" "offered" "[I", Cond.methodLink RX2 83 yX3_copyFrom, Cond.instanceMethod yX3_copyFrom, Cond.selects RX3 yX3_copyFrom yX3_copyFrom, Cond.initialized RX3, Cond.code yX3_copyFrom cX3_copyFrom 2 none, Cond.fieldLink RX3 9 "FourPhases$Link" "delays" "[I", Cond.methodLink RX3 44 arraycopyName, Cond.fieldLink RX3 15 "FourPhases$Link" "requestAtBeginning" "I", Cond.fieldLink RX3 19 "FourPhases$Link" "requestAtEnd" "I", Cond.fieldLink RX3 22 "FourPhases$Link" "answerAtEnd" "I", Cond.fieldLink RX3 25 "FourPhases$Link" "answerAtBeginning" "I", Cond.fieldLink RX3 28 "FourPhases$Link" "dataAtBeginning" "I", Cond.fieldLink RX3 31 "FourPhases$Link" "dataAtEnd" "I", Cond.fieldLink RX3 34 "FourPhases$Link" "atRest" "Z", Cond.fieldLink RX3 38 "FourPhases$Link" "requestWaits" "Z", Cond.fieldLink RX3 41 "FourPhases$Link" "offeredWords" "I", Cond.methodLink RX2 87 yX5_copyFrom]
def wsX7_finish_r3 : List Cond := [Cond.instanceMethod yX5_copyFrom, Cond.selects RX5 yX5_copyFrom yX5_copyFrom, Cond.initialized RX5, Cond.code yX5_copyFrom cX5_copyFrom 2 none, Cond.fieldLink RX5 15 "FourPhases$Row" "count" "I", Cond.fieldLink RX5 9 "FourPhases$Row" "words" "[I", Cond.methodLink RX5 19 arraycopyName, Cond.methodLink RX2 90 yX0_copyFrom, Cond.instanceMethod yX0_copyFrom, Cond.selects RX0 yX0_copyFrom yX0_copyFrom, Cond.initialized RX0, Cond.code yX0_copyFrom cX0_copyFrom 2 none, Cond.fieldLink RX0 18 "FourPhases$Changes" "head" "I", Cond.fieldLink RX0 22 "FourPhases$Changes" "count" "I", Cond.fieldLink RX0 9 "FourPhases$Changes" "times" "[I", Cond.methodLink RX0 25 arraycopyName, Cond.fieldLink RX0 15 "FourPhases$Changes" "signals" "[I", Cond.methodLink RX2 93 yX4_copyFrom, Cond.instanceMethod yX4_copyFrom, Cond.selects RX4 yX4_copyFrom yX4_copyFrom, Cond.initialized RX4, Cond.code yX4_copyFrom cX4_copyFrom 2 none, Cond.fieldLink RX4 9 "FourPhases$Notes" "words" "[I", Cond.methodLink RX4 28 arraycopyName]
def wsX7_finish_r4 : List Cond := [Cond.fieldLink RX4 15 "FourPhases$Notes" "times" "[I", Cond.fieldLink RX4 18 "FourPhases$Notes" "rights" "[I", Cond.fieldLink RX4 21 "FourPhases$Notes" "count" "I", Cond.fieldLink RX4 25 "FourPhases$Notes" "rightCount" "I", Cond.methodLink RX7 71 yX2_letArriveUpTo, Cond.instanceMethod yX2_letArriveUpTo, Cond.selects RX2 yX2_letArriveUpTo yX2_letArriveUpTo, Cond.code yX2_letArriveUpTo cX2_letArriveUpTo 6 none, Cond.constant RX2 118 (1000000), Cond.fieldLink RX2 148 "FourPhases$Link" "dataAtEnd" "I", Cond.methodLink RX2 123 yX2_isQuiet, Cond.methodLink RX2 127 yX0_firstTime, Cond.instanceMethod yX0_firstTime, Cond.selects RX0 yX0_firstTime yX0_firstTime, Cond.code yX0_firstTime cX0_firstTime 1 (some .int), Cond.methodLink RX2 130 yX0_firstLink, Cond.instanceMethod yX0_firstLink, Cond.selects RX0 yX0_firstLink yX0_firstLink, Cond.code yX0_firstLink cX0_firstLink 1 (some .int), Cond.methodLink RX2 133 yX0_firstWire, Cond.instanceMethod yX0_firstWire, Cond.selects RX0 yX0_firstWire yX0_firstWire, Cond.code yX0_firstWire cX0_firstWire 1 (some .int), Cond.methodLink RX2 136 yX0_firstValue]
def wsX7_finish_r5 : List Cond := [Cond.instanceMethod yX0_firstValue, Cond.selects RX0 yX0_firstValue yX0_firstValue, Cond.code yX0_firstValue cX0_firstValue 1 (some .int), Cond.methodLink RX2 139 yX0_removeFirst, Cond.instanceMethod yX0_removeFirst, Cond.selects RX0 yX0_removeFirst yX0_removeFirst, Cond.code yX0_removeFirst cX0_removeFirst 1 none, Cond.methodLink RX2 111 yX2_hasLink, Cond.instanceMethod yX2_hasLink, Cond.selects RX2 yX2_hasLink yX2_hasLink, Cond.code yX2_hasLink cX2_hasLink 2 (some .boolean), Cond.methodLink RX2 142 yX2_letRequestArrive, Cond.instanceMethod yX2_letRequestArrive, Cond.selects RX2 yX2_letRequestArrive yX2_letRequestArrive, Cond.code yX2_letRequestArrive cX2_letRequestArrive 3 none, Cond.fieldLink RX2 151 "FourPhases$Link" "requestAtEnd" "I", Cond.fieldLink RX2 161 "FourPhases$Link" "requestWaits" "Z", Cond.fieldLink RX2 99 "FourPhases$Link" "atRest" "Z", Cond.methodLink RX2 154 yX2_makeAnswer, Cond.instanceMethod yX2_makeAnswer, Cond.selects RX2 yX2_makeAnswer yX2_makeAnswer, Cond.code yX2_makeAnswer cX2_makeAnswer 4 none, Cond.fieldLink RX2 191 "FourPhases$Link" "answerAtEnd" "I", Cond.fieldLink RX2 115 "FourPhases$Link" "delays" "[I"]
def wsX7_finish_r6 : List Cond := [Cond.methodLink RX2 183 yX0_insert, Cond.instanceMethod yX0_insert, Cond.selects RX0 yX0_insert yX0_insert, Cond.code yX0_insert cX0_insert 8 none, Cond.methodLink RX2 158 yX2_noteWord, Cond.instanceMethod yX2_noteWord, Cond.selects RX2 yX2_noteWord yX2_noteWord, Cond.code yX2_noteWord cX2_noteWord 3 none, Cond.fieldLink RX2 119 "FourPhases$Notes" "count" "I", Cond.methodLink RX2 178 yX4_append, Cond.instanceMethod yX4_append, Cond.selects RX4 yX4_append yX4_append, Cond.code yX4_append cX4_append 5 none, Cond.methodLink RX2 164 yX2_takeWord, Cond.instanceMethod yX2_takeWord, Cond.selects RX2 yX2_takeWord yX2_takeWord, Cond.code yX2_takeWord cX2_takeWord 2 none, Cond.methodLink RX2 107 yX2_offer, Cond.instanceMethod yX2_offer, Cond.selects RX2 yX2_offer yX2_offer, Cond.code yX2_offer cX2_offer 4 none, Cond.fieldLink RX2 180 "FourPhases$Link" "dataAtBeginning" "I", Cond.fieldLink RX2 187 "FourPhases$Link" "offeredWords" "I", Cond.methodLink RX2 170 yX2_makeRequest]
def wsX7_finish_r7 : List Cond := [Cond.instanceMethod yX2_makeRequest, Cond.selects RX2 yX2_makeRequest yX2_makeRequest, Cond.code yX2_makeRequest cX2_makeRequest 4 none, Cond.fieldLink RX2 188 "FourPhases$Link" "requestAtBeginning" "I", Cond.methodLink RX2 145 yX2_letAnswerArrive, Cond.instanceMethod yX2_letAnswerArrive, Cond.selects RX2 yX2_letAnswerArrive yX2_letAnswerArrive, Cond.code yX2_letAnswerArrive cX2_letAnswerArrive 4 none, Cond.fieldLink RX2 167 "FourPhases$Link" "answerAtBeginning" "I", Cond.methodLink RX2 103 yX2_letOneGo, Cond.instanceMethod yX2_letOneGo, Cond.selects RX2 yX2_letOneGo yX2_letOneGo, Cond.code yX2_letOneGo cX2_letOneGo 4 (some .int), Cond.methodLink RX2 173 yX2_chosenSender, Cond.instanceMethod yX2_chosenSender, Cond.selects RX2 yX2_chosenSender yX2_chosenSender, Cond.code yX2_chosenSender cX2_chosenSender 1 (some .int), Cond.fieldLink RX2 72 "FourPhases$Row" "count" "I", Cond.methodLink RX2 176 yX5_removeFirst, Cond.instanceMethod yX5_removeFirst, Cond.selects RX5 yX5_removeFirst yX5_removeFirst, Cond.code yX5_removeFirst cX5_removeFirst 3 (some .int), Cond.methodLink RX7 55 yX7_accept, Cond.instanceMethod yX7_accept]
def wsX7_finish_r8 : List Cond := [Cond.selects RX7 yX7_accept yX7_accept, Cond.initialized RX7, Cond.code yX7_accept cX7_accept 2 (some .int), Cond.fieldLink RX7 29 "FourPhases" "history" "LFourPhases$History;", Cond.methodLink RX7 186 yX1_record, Cond.instanceMethod yX1_record, Cond.selects RX1 yX1_record yX1_record, Cond.initialized RX1, Cond.code yX1_record cX1_record 2 none, Cond.fieldLink RX1 18 "FourPhases$History" "count" "I", Cond.fieldLink RX1 11 "FourPhases$History" "states" "[LFourPhases$Line;", Cond.methodLink RX1 22 yX1_dropOldest, Cond.instanceMethod yX1_dropOldest, Cond.selects RX1 yX1_dropOldest yX1_dropOldest, Cond.code yX1_dropOldest cX1_dropOldest 3 none, Cond.methodLink RX1 25 yX2_copyFrom]
def wsX7_finish : List Cond := .code yX7_finish cX7_finish 1 (some .int) :: ((wsX7_finish_r1 ++ (wsX7_finish_r2 ++ (wsX7_finish_r3 ++ (wsX7_finish_r4 ++ (wsX7_finish_r5 ++ (wsX7_finish_r6 ++ (wsX7_finish_r7 ++ wsX7_finish_r8))))))) ++ wsX70 ++ wsX20 ++ wsX00 ++ wsX30 ++ wsX50 ++ wsX40 ++ wsX10)
def wsX7_setDelay_r1 : List Cond := [Cond.fieldLink RX7 16 "FourPhases" "trial" "LFourPhases$Line;", Cond.fieldLink RX7 12 "FourPhases" "now" "LFourPhases$Line;", Cond.methodLink RX7 40 yX2_copyFrom, Cond.instanceMethod yX2_copyFrom, Cond.selects RX2 yX2_copyFrom yX2_copyFrom, Cond.initialized RX2, Cond.code yX2_copyFrom cX2_copyFrom 3 none, Cond.fieldLink RX2 53 "FourPhases$Line" "stages" "I", Cond.fieldLink RX2 57 "FourPhases$Line" "time" "I", Cond.fieldLink RX2 60 "FourPhases$Line" "latestSender" "I", Cond.fieldLink RX2 63 "FourPhases$Line" "offeredWords" "I", Cond.fieldLink RX2 66 "FourPhases$Line" "arrivedChanges" "I", Cond.fieldLink RX2 9 "FourPhases$Line" "settings" "[I", Cond.methodLink RX2 77 arraycopyName, Cond.native arraycopyName, Cond.static arraycopyName, Cond.initialized "java/lang/System", Cond.fieldLink RX2 17 "FourPhases$Line" "links" "[LFourPhases$Link;", Cond.fieldLink RX2 21 "FourPhases$Line" "held" "[I", Cond.fieldLink RX2 26 "FourPhases$Line" "rows" "[LFourPhases$Row;", Cond.fieldLink RX2 33 "FourPhases$Line" "underWay" "LFourPhases$Changes;", Cond.fieldLink RX2 40 "FourPhases$Line" "notes" "LFourPhases$Notes;", Cond.fieldLink RX2 44 "FourPhases$Line" "offered" "[I", Cond.methodLink RX2 83 yX3_copyFrom]
def wsX7_setDelay_r2 : List Cond := [Cond.instanceMethod yX3_copyFrom, Cond.selects RX3 yX3_copyFrom yX3_copyFrom, Cond.initialized RX3, Cond.code yX3_copyFrom cX3_copyFrom 2 none, Cond.fieldLink RX3 9 "FourPhases$Link" "delays" "[I", Cond.methodLink RX3 44 arraycopyName, Cond.fieldLink RX3 15 "FourPhases$Link" "requestAtBeginning" "I", Cond.fieldLink RX3 19 "FourPhases$Link" "requestAtEnd" "I", Cond.fieldLink RX3 22 "FourPhases$Link" "answerAtEnd" "I", Cond.fieldLink RX3 25 "FourPhases$Link" "answerAtBeginning" "I", Cond.fieldLink RX3 28 "FourPhases$Link" "dataAtBeginning" "I", Cond.fieldLink RX3 31 "FourPhases$Link" "dataAtEnd" "I", Cond.fieldLink RX3 34 "FourPhases$Link" "atRest" "Z", Cond.fieldLink RX3 38 "FourPhases$Link" "requestWaits" "Z", Cond.fieldLink RX3 41 "FourPhases$Link" "offeredWords" "I", Cond.methodLink RX2 87 yX5_copyFrom, Cond.instanceMethod yX5_copyFrom, Cond.selects RX5 yX5_copyFrom yX5_copyFrom, Cond.initialized RX5, Cond.code yX5_copyFrom cX5_copyFrom 2 none, Cond.fieldLink RX5 15 "FourPhases$Row" "count" "I", Cond.fieldLink RX5 9 "FourPhases$Row" "words" "[I", Cond.methodLink RX5 19 arraycopyName, Cond.methodLink RX2 90 yX0_copyFrom]
def wsX7_setDelay_r3 : List Cond := [Cond.instanceMethod yX0_copyFrom, Cond.selects RX0 yX0_copyFrom yX0_copyFrom, Cond.initialized RX0, Cond.code yX0_copyFrom cX0_copyFrom 2 none, Cond.fieldLink RX0 18 "FourPhases$Changes" "head" "I", Cond.fieldLink RX0 22 "FourPhases$Changes" "count" "I", Cond.fieldLink RX0 9 "FourPhases$Changes" "times" "[I", Cond.methodLink RX0 25 arraycopyName, Cond.fieldLink RX0 15 "FourPhases$Changes" "signals" "[I", Cond.methodLink RX2 93 yX4_copyFrom, Cond.instanceMethod yX4_copyFrom, Cond.selects RX4 yX4_copyFrom yX4_copyFrom, Cond.initialized RX4, Cond.code yX4_copyFrom cX4_copyFrom 2 none, Cond.fieldLink RX4 9 "FourPhases$Notes" "words" "[I", Cond.methodLink RX4 28 arraycopyName, Cond.fieldLink RX4 15 "FourPhases$Notes" "times" "[I", Cond.fieldLink RX4 18 "FourPhases$Notes" "rights" "[I", Cond.fieldLink RX4 21 "FourPhases$Notes" "count" "I", Cond.fieldLink RX4 25 "FourPhases$Notes" "rightCount" "I", Cond.methodLink RX7 79 yX2_changeDelay, Cond.instanceMethod yX2_changeDelay, Cond.selects RX2 yX2_changeDelay yX2_changeDelay, Cond.code yX2_changeDelay cX2_changeDelay 5 (some .int)]
def wsX7_setDelay_r4 : List Cond := [Cond.fieldLink RX2 115 "FourPhases$Link" "delays" "[I", Cond.methodLink RX2 111 yX2_hasLink, Cond.instanceMethod yX2_hasLink, Cond.selects RX2 yX2_hasLink yX2_hasLink, Cond.code yX2_hasLink cX2_hasLink 2 (some .boolean), Cond.methodLink RX7 55 yX7_accept, Cond.instanceMethod yX7_accept, Cond.selects RX7 yX7_accept yX7_accept, Cond.initialized RX7, Cond.code yX7_accept cX7_accept 2 (some .int), Cond.fieldLink RX7 29 "FourPhases" "history" "LFourPhases$History;", Cond.methodLink RX7 186 yX1_record, Cond.instanceMethod yX1_record, Cond.selects RX1 yX1_record yX1_record, Cond.initialized RX1, Cond.code yX1_record cX1_record 2 none, Cond.fieldLink RX1 18 "FourPhases$History" "count" "I", Cond.fieldLink RX1 11 "FourPhases$History" "states" "[LFourPhases$Line;", Cond.methodLink RX1 22 yX1_dropOldest, Cond.instanceMethod yX1_dropOldest, Cond.selects RX1 yX1_dropOldest yX1_dropOldest, Cond.code yX1_dropOldest cX1_dropOldest 3 none, Cond.methodLink RX1 25 yX2_copyFrom]
def wsX7_setDelay : List Cond := .code yX7_setDelay cX7_setDelay 4 (some .int) :: ((wsX7_setDelay_r1 ++ (wsX7_setDelay_r2 ++ (wsX7_setDelay_r3 ++ wsX7_setDelay_r4))) ++ wsX70 ++ wsX20 ++ wsX30 ++ wsX50 ++ wsX00 ++ wsX40 ++ wsX10)
def wsX7_set_r1 : List Cond := [Cond.fieldLink RX7 12 "FourPhases" "now" "LFourPhases$Line;", Cond.fieldLink RX7 83 "FourPhases$Line" "settings" "[I", Cond.fieldLink RX7 16 "FourPhases" "trial" "LFourPhases$Line;", Cond.methodLink RX7 40 yX2_copyFrom, Cond.instanceMethod yX2_copyFrom, Cond.selects RX2 yX2_copyFrom yX2_copyFrom, Cond.initialized RX2, Cond.code yX2_copyFrom cX2_copyFrom 3 none, Cond.fieldLink RX2 53 "FourPhases$Line" "stages" "I", Cond.fieldLink RX2 57 "FourPhases$Line" "time" "I", Cond.fieldLink RX2 60 "FourPhases$Line" "latestSender" "I", Cond.fieldLink RX2 63 "FourPhases$Line" "offeredWords" "I", Cond.fieldLink RX2 66 "FourPhases$Line" "arrivedChanges" "I", Cond.fieldLink RX2 9 "FourPhases$Line" "settings" "[I", Cond.methodLink RX2 77 arraycopyName, Cond.native arraycopyName, Cond.static arraycopyName, Cond.initialized "java/lang/System", Cond.fieldLink RX2 17 "FourPhases$Line" "links" "[LFourPhases$Link;", Cond.fieldLink RX2 21 "FourPhases$Line" "held" "[I", Cond.fieldLink RX2 26 "FourPhases$Line" "rows" "[LFourPhases$Row;", Cond.fieldLink RX2 33 "FourPhases$Line" "underWay" "LFourPhases$Changes;", Cond.fieldLink RX2 40 "FourPhases$Line" "notes" "LFourPhases$Notes;", Cond.fieldLink RX2 44 "FourPhases$Line" "offered" "[I"]
def wsX7_set_r2 : List Cond := [Cond.methodLink RX2 83 yX3_copyFrom, Cond.instanceMethod yX3_copyFrom, Cond.selects RX3 yX3_copyFrom yX3_copyFrom, Cond.initialized RX3, Cond.code yX3_copyFrom cX3_copyFrom 2 none, Cond.fieldLink RX3 9 "FourPhases$Link" "delays" "[I", Cond.methodLink RX3 44 arraycopyName, Cond.fieldLink RX3 15 "FourPhases$Link" "requestAtBeginning" "I", Cond.fieldLink RX3 19 "FourPhases$Link" "requestAtEnd" "I", Cond.fieldLink RX3 22 "FourPhases$Link" "answerAtEnd" "I", Cond.fieldLink RX3 25 "FourPhases$Link" "answerAtBeginning" "I", Cond.fieldLink RX3 28 "FourPhases$Link" "dataAtBeginning" "I", Cond.fieldLink RX3 31 "FourPhases$Link" "dataAtEnd" "I", Cond.fieldLink RX3 34 "FourPhases$Link" "atRest" "Z", Cond.fieldLink RX3 38 "FourPhases$Link" "requestWaits" "Z", Cond.fieldLink RX3 41 "FourPhases$Link" "offeredWords" "I", Cond.methodLink RX2 87 yX5_copyFrom, Cond.instanceMethod yX5_copyFrom, Cond.selects RX5 yX5_copyFrom yX5_copyFrom, Cond.initialized RX5, Cond.code yX5_copyFrom cX5_copyFrom 2 none, Cond.fieldLink RX5 15 "FourPhases$Row" "count" "I", Cond.fieldLink RX5 9 "FourPhases$Row" "words" "[I", Cond.methodLink RX5 19 arraycopyName]
def wsX7_set_r3 : List Cond := [Cond.methodLink RX2 90 yX0_copyFrom, Cond.instanceMethod yX0_copyFrom, Cond.selects RX0 yX0_copyFrom yX0_copyFrom, Cond.initialized RX0, Cond.code yX0_copyFrom cX0_copyFrom 2 none, Cond.fieldLink RX0 18 "FourPhases$Changes" "head" "I", Cond.fieldLink RX0 22 "FourPhases$Changes" "count" "I", Cond.fieldLink RX0 9 "FourPhases$Changes" "times" "[I", Cond.methodLink RX0 25 arraycopyName, Cond.fieldLink RX0 15 "FourPhases$Changes" "signals" "[I", Cond.methodLink RX2 93 yX4_copyFrom, Cond.instanceMethod yX4_copyFrom, Cond.selects RX4 yX4_copyFrom yX4_copyFrom, Cond.initialized RX4, Cond.code yX4_copyFrom cX4_copyFrom 2 none, Cond.fieldLink RX4 9 "FourPhases$Notes" "words" "[I", Cond.methodLink RX4 28 arraycopyName, Cond.fieldLink RX4 15 "FourPhases$Notes" "times" "[I", Cond.fieldLink RX4 18 "FourPhases$Notes" "rights" "[I", Cond.fieldLink RX4 21 "FourPhases$Notes" "count" "I", Cond.fieldLink RX4 25 "FourPhases$Notes" "rightCount" "I", Cond.methodLink RX7 55 yX7_accept, Cond.instanceMethod yX7_accept, Cond.selects RX7 yX7_accept yX7_accept]
def wsX7_set_r4 : List Cond := [Cond.initialized RX7, Cond.code yX7_accept cX7_accept 2 (some .int), Cond.fieldLink RX7 29 "FourPhases" "history" "LFourPhases$History;", Cond.methodLink RX7 186 yX1_record, Cond.instanceMethod yX1_record, Cond.selects RX1 yX1_record yX1_record, Cond.initialized RX1, Cond.code yX1_record cX1_record 2 none, Cond.fieldLink RX1 18 "FourPhases$History" "count" "I", Cond.fieldLink RX1 11 "FourPhases$History" "states" "[LFourPhases$Line;", Cond.methodLink RX1 22 yX1_dropOldest, Cond.instanceMethod yX1_dropOldest, Cond.selects RX1 yX1_dropOldest yX1_dropOldest, Cond.code yX1_dropOldest cX1_dropOldest 3 none, Cond.methodLink RX1 25 yX2_copyFrom]
def wsX7_set : List Cond := .code yX7_set cX7_set 5 (some .int) :: ((wsX7_set_r1 ++ (wsX7_set_r2 ++ (wsX7_set_r3 ++ wsX7_set_r4))) ++ wsX70 ++ wsX20 ++ wsX30 ++ wsX50 ++ wsX00 ++ wsX40 ++ wsX10)
def wsX7_type : List Cond := .code yX7_type cX7_type 2 (some .int) :: ([.fieldLink RX7 36 "FourPhases" "text" "LFourPhases$Text;", .methodLink RX7 87 yX6_append, .instanceMethod yX6_append, .selects RX6 yX6_append yX6_append, .initialized RX6, .code yX6_append cX6_append 2 (some .int), .fieldLink RX6 25 "FourPhases$Text" "length" "I", .fieldLink RX6 9 "FourPhases$Text" "characters" "[C"] ++ wsX70 ++ wsX60)
def wsX7_clearText : List Cond := .code yX7_clearText cX7_clearText 2 (some .int) :: ([.fieldLink RX7 36 "FourPhases" "text" "LFourPhases$Text;", .fieldLink RX7 91 "FourPhases$Text" "length" "I"] ++ wsX70 ++ wsX60)
def wsX7_perform_r1 : List Cond := [Cond.fieldLink RX7 36 "FourPhases" "text" "LFourPhases$Text;", Cond.fieldLink RX7 16 "FourPhases" "trial" "LFourPhases$Line;", Cond.fieldLink RX7 12 "FourPhases" "now" "LFourPhases$Line;", Cond.fieldLink RX7 97 "FourPhases$Text" "orders" "I", Cond.fieldLink RX7 100 "FourPhases$Text" "letters" "[I", Cond.fieldLink RX7 103 "FourPhases$Text" "values" "[I", Cond.fieldLink RX7 106 "FourPhases$Text" "targets" "[I", Cond.methodLink RX7 94 yX6_readOrders, Cond.instanceMethod yX6_readOrders, Cond.selects RX6 yX6_readOrders yX6_readOrders, Cond.initialized RX6, Cond.code yX6_readOrders cX6_readOrders 2 (some .int), Cond.fieldLink RX6 29 "FourPhases$Text" "place" "I", Cond.fieldLink RX6 32 "FourPhases$Text" "orders" "I", Cond.fieldLink RX6 25 "FourPhases$Text" "length" "I", Cond.methodLink RX6 35 yX6_readOrder, Cond.instanceMethod yX6_readOrder, Cond.selects RX6 yX6_readOrder yX6_readOrder, Cond.code yX6_readOrder cX6_readOrder 2 (some .boolean), Cond.methodLink RX6 43 yX6_current, Cond.instanceMethod yX6_current, Cond.selects RX6 yX6_current yX6_current, Cond.code yX6_current cX6_current 1 (some .int), Cond.fieldLink RX6 9 "FourPhases$Text" "characters" "[C"]
def wsX7_perform_r2 : List Cond := [Cond.methodLink RX6 47 yX6_readDigit, Cond.instanceMethod yX6_readDigit, Cond.selects RX6 yX6_readDigit yX6_readDigit, Cond.code yX6_readDigit cX6_readDigit 3 (some .int), Cond.methodLink RX6 61 yX6_digitOf, Cond.instanceMethod yX6_digitOf, Cond.selects RX6 yX6_digitOf yX6_digitOf, Cond.code yX6_digitOf cX6_digitOf 2 (some .int), Cond.methodLink RX6 51 yX6_store, Cond.instanceMethod yX6_store, Cond.selects RX6 yX6_store yX6_store, Cond.code yX6_store cX6_store 5 (some .boolean), Cond.fieldLink RX6 15 "FourPhases$Text" "letters" "[I", Cond.fieldLink RX6 19 "FourPhases$Text" "targets" "[I", Cond.fieldLink RX6 22 "FourPhases$Text" "values" "[I", Cond.methodLink RX6 55 yX6_readNumber, Cond.instanceMethod yX6_readNumber, Cond.selects RX6 yX6_readNumber yX6_readNumber, Cond.code yX6_readNumber cX6_readNumber 6 (some .int), Cond.methodLink RX6 58 yX6_readDelay, Cond.instanceMethod yX6_readDelay, Cond.selects RX6 yX6_readDelay yX6_readDelay, Cond.code yX6_readDelay cX6_readDelay 3 (some .boolean), Cond.methodLink RX6 39 yX6_readSign]
def wsX7_perform_r3 : List Cond := [Cond.instanceMethod yX6_readSign, Cond.selects RX6 yX6_readSign yX6_readSign, Cond.code yX6_readSign cX6_readSign 2 (some .boolean), Cond.methodLink RX7 40 yX2_copyFrom, Cond.instanceMethod yX2_copyFrom, Cond.selects RX2 yX2_copyFrom yX2_copyFrom, Cond.initialized RX2, Cond.code yX2_copyFrom cX2_copyFrom 3 none, Cond.fieldLink RX2 53 "FourPhases$Line" "stages" "I", Cond.fieldLink RX2 57 "FourPhases$Line" "time" "I", Cond.fieldLink RX2 60 "FourPhases$Line" "latestSender" "I", Cond.fieldLink RX2 63 "FourPhases$Line" "offeredWords" "I", Cond.fieldLink RX2 66 "FourPhases$Line" "arrivedChanges" "I", Cond.fieldLink RX2 9 "FourPhases$Line" "settings" "[I", Cond.methodLink RX2 77 arraycopyName, Cond.native arraycopyName, Cond.static arraycopyName, Cond.initialized "java/lang/System", Cond.fieldLink RX2 17 "FourPhases$Line" "links" "[LFourPhases$Link;", Cond.fieldLink RX2 21 "FourPhases$Line" "held" "[I", Cond.fieldLink RX2 26 "FourPhases$Line" "rows" "[LFourPhases$Row;", Cond.fieldLink RX2 33 "FourPhases$Line" "underWay" "LFourPhases$Changes;", Cond.fieldLink RX2 40 "FourPhases$Line" "notes" "LFourPhases$Notes;", Cond.fieldLink RX2 44 "FourPhases$Line" "offered" "[I"]
def wsX7_perform_r4 : List Cond := [Cond.methodLink RX2 83 yX3_copyFrom, Cond.instanceMethod yX3_copyFrom, Cond.selects RX3 yX3_copyFrom yX3_copyFrom, Cond.initialized RX3, Cond.code yX3_copyFrom cX3_copyFrom 2 none, Cond.fieldLink RX3 9 "FourPhases$Link" "delays" "[I", Cond.methodLink RX3 44 arraycopyName, Cond.fieldLink RX3 15 "FourPhases$Link" "requestAtBeginning" "I", Cond.fieldLink RX3 19 "FourPhases$Link" "requestAtEnd" "I", Cond.fieldLink RX3 22 "FourPhases$Link" "answerAtEnd" "I", Cond.fieldLink RX3 25 "FourPhases$Link" "answerAtBeginning" "I", Cond.fieldLink RX3 28 "FourPhases$Link" "dataAtBeginning" "I", Cond.fieldLink RX3 31 "FourPhases$Link" "dataAtEnd" "I", Cond.fieldLink RX3 34 "FourPhases$Link" "atRest" "Z", Cond.fieldLink RX3 38 "FourPhases$Link" "requestWaits" "Z", Cond.fieldLink RX3 41 "FourPhases$Link" "offeredWords" "I", Cond.methodLink RX2 87 yX5_copyFrom, Cond.instanceMethod yX5_copyFrom, Cond.selects RX5 yX5_copyFrom yX5_copyFrom, Cond.initialized RX5, Cond.code yX5_copyFrom cX5_copyFrom 2 none, Cond.fieldLink RX5 15 "FourPhases$Row" "count" "I", Cond.fieldLink RX5 9 "FourPhases$Row" "words" "[I", Cond.methodLink RX5 19 arraycopyName]
def wsX7_perform_r5 : List Cond := [Cond.methodLink RX2 90 yX0_copyFrom, Cond.instanceMethod yX0_copyFrom, Cond.selects RX0 yX0_copyFrom yX0_copyFrom, Cond.initialized RX0, Cond.code yX0_copyFrom cX0_copyFrom 2 none, Cond.fieldLink RX0 18 "FourPhases$Changes" "head" "I", Cond.fieldLink RX0 22 "FourPhases$Changes" "count" "I", Cond.fieldLink RX0 9 "FourPhases$Changes" "times" "[I", Cond.methodLink RX0 25 arraycopyName, Cond.fieldLink RX0 15 "FourPhases$Changes" "signals" "[I", Cond.methodLink RX2 93 yX4_copyFrom, Cond.instanceMethod yX4_copyFrom, Cond.selects RX4 yX4_copyFrom yX4_copyFrom, Cond.initialized RX4, Cond.code yX4_copyFrom cX4_copyFrom 2 none, Cond.fieldLink RX4 9 "FourPhases$Notes" "words" "[I", Cond.methodLink RX4 28 arraycopyName, Cond.fieldLink RX4 15 "FourPhases$Notes" "times" "[I", Cond.fieldLink RX4 18 "FourPhases$Notes" "rights" "[I", Cond.fieldLink RX4 21 "FourPhases$Notes" "count" "I", Cond.fieldLink RX4 25 "FourPhases$Notes" "rightCount" "I", Cond.methodLink RX7 59 yX2_addWord, Cond.instanceMethod yX2_addWord, Cond.selects RX2 yX2_addWord yX2_addWord]
def wsX7_perform_r6 : List Cond := [Cond.code yX2_addWord cX2_addWord 4 (some .int), Cond.fieldLink RX2 72 "FourPhases$Row" "count" "I", Cond.fieldLink RX2 99 "FourPhases$Link" "atRest" "Z", Cond.methodLink RX2 96 yX5_append, Cond.instanceMethod yX5_append, Cond.selects RX5 yX5_append yX5_append, Cond.code yX5_append cX5_append 2 none, Cond.methodLink RX2 103 yX2_letOneGo, Cond.instanceMethod yX2_letOneGo, Cond.selects RX2 yX2_letOneGo yX2_letOneGo, Cond.code yX2_letOneGo cX2_letOneGo 4 (some .int), Cond.methodLink RX2 173 yX2_chosenSender, Cond.instanceMethod yX2_chosenSender, Cond.selects RX2 yX2_chosenSender yX2_chosenSender, Cond.code yX2_chosenSender cX2_chosenSender 1 (some .int), Cond.methodLink RX2 176 yX5_removeFirst, Cond.instanceMethod yX5_removeFirst, Cond.selects RX5 yX5_removeFirst yX5_removeFirst, Cond.code yX5_removeFirst cX5_removeFirst 3 (some .int), Cond.methodLink RX2 107 yX2_offer, Cond.instanceMethod yX2_offer, Cond.selects RX2 yX2_offer yX2_offer, Cond.code yX2_offer cX2_offer 4 none, Cond.fieldLink RX2 180 "FourPhases$Link" "dataAtBeginning" "I"]
def wsX7_perform_r7 : List Cond := [Cond.fieldLink RX2 115 "FourPhases$Link" "delays" "[I", Cond.fieldLink RX2 187 "FourPhases$Link" "offeredWords" "I", Cond.methodLink RX2 183 yX0_insert, Cond.instanceMethod yX0_insert, Cond.selects RX0 yX0_insert yX0_insert, Cond.code yX0_insert cX0_insert 8 none, Cond.methodLink RX2 170 yX2_makeRequest, Cond.instanceMethod yX2_makeRequest, Cond.selects RX2 yX2_makeRequest yX2_makeRequest, Cond.code yX2_makeRequest cX2_makeRequest 4 none, Cond.fieldLink RX2 188 "FourPhases$Link" "requestAtBeginning" "I", Cond.methodLink RX7 63 yX2_passTicks, Cond.instanceMethod yX2_passTicks, Cond.selects RX2 yX2_passTicks yX2_passTicks, Cond.code yX2_passTicks cX2_passTicks 4 (some .int), Cond.constant RX2 118 (1000000), Cond.fieldLink RX2 119 "FourPhases$Notes" "count" "I", Cond.methodLink RX2 120 yX2_letArriveUpTo, Cond.instanceMethod yX2_letArriveUpTo, Cond.selects RX2 yX2_letArriveUpTo yX2_letArriveUpTo, Cond.code yX2_letArriveUpTo cX2_letArriveUpTo 6 none, Cond.fieldLink RX2 148 "FourPhases$Link" "dataAtEnd" "I", Cond.methodLink RX2 123 yX2_isQuiet, Cond.instanceMethod yX2_isQuiet]
def wsX7_perform_r8 : List Cond := [Cond.selects RX2 yX2_isQuiet yX2_isQuiet, Cond.code yX2_isQuiet cX2_isQuiet 1 (some .boolean), Cond.fieldLink RX2 75 "FourPhases$Changes" "count" "I", Cond.methodLink RX2 127 yX0_firstTime, Cond.instanceMethod yX0_firstTime, Cond.selects RX0 yX0_firstTime yX0_firstTime, Cond.code yX0_firstTime cX0_firstTime 1 (some .int), Cond.methodLink RX2 130 yX0_firstLink, Cond.instanceMethod yX0_firstLink, Cond.selects RX0 yX0_firstLink yX0_firstLink, Cond.code yX0_firstLink cX0_firstLink 1 (some .int), Cond.methodLink RX2 133 yX0_firstWire, Cond.instanceMethod yX0_firstWire, Cond.selects RX0 yX0_firstWire yX0_firstWire, Cond.code yX0_firstWire cX0_firstWire 1 (some .int), Cond.methodLink RX2 136 yX0_firstValue, Cond.instanceMethod yX0_firstValue, Cond.selects RX0 yX0_firstValue yX0_firstValue, Cond.code yX0_firstValue cX0_firstValue 1 (some .int), Cond.methodLink RX2 139 yX0_removeFirst, Cond.instanceMethod yX0_removeFirst, Cond.selects RX0 yX0_removeFirst yX0_removeFirst, Cond.code yX0_removeFirst cX0_removeFirst 1 none, Cond.methodLink RX2 111 yX2_hasLink]
def wsX7_perform_r9 : List Cond := [Cond.instanceMethod yX2_hasLink, Cond.selects RX2 yX2_hasLink yX2_hasLink, Cond.code yX2_hasLink cX2_hasLink 2 (some .boolean), Cond.methodLink RX2 142 yX2_letRequestArrive, Cond.instanceMethod yX2_letRequestArrive, Cond.selects RX2 yX2_letRequestArrive yX2_letRequestArrive, Cond.code yX2_letRequestArrive cX2_letRequestArrive 3 none, Cond.fieldLink RX2 151 "FourPhases$Link" "requestAtEnd" "I", Cond.fieldLink RX2 161 "FourPhases$Link" "requestWaits" "Z", Cond.methodLink RX2 154 yX2_makeAnswer, Cond.instanceMethod yX2_makeAnswer, Cond.selects RX2 yX2_makeAnswer yX2_makeAnswer, Cond.code yX2_makeAnswer cX2_makeAnswer 4 none, Cond.fieldLink RX2 191 "FourPhases$Link" "answerAtEnd" "I", Cond.methodLink RX2 158 yX2_noteWord, Cond.instanceMethod yX2_noteWord, Cond.selects RX2 yX2_noteWord yX2_noteWord, Cond.code yX2_noteWord cX2_noteWord 3 none, Cond.methodLink RX2 178 yX4_append, Cond.instanceMethod yX4_append, Cond.selects RX4 yX4_append yX4_append, Cond.code yX4_append cX4_append 5 none, Cond.methodLink RX2 164 yX2_takeWord, Cond.instanceMethod yX2_takeWord]
def wsX7_perform_r10 : List Cond := [Cond.selects RX2 yX2_takeWord yX2_takeWord, Cond.code yX2_takeWord cX2_takeWord 2 none, Cond.methodLink RX2 145 yX2_letAnswerArrive, Cond.instanceMethod yX2_letAnswerArrive, Cond.selects RX2 yX2_letAnswerArrive yX2_letAnswerArrive, Cond.code yX2_letAnswerArrive cX2_letAnswerArrive 4 none, Cond.fieldLink RX2 167 "FourPhases$Link" "answerAtBeginning" "I", Cond.methodLink RX7 79 yX2_changeDelay, Cond.instanceMethod yX2_changeDelay, Cond.selects RX2 yX2_changeDelay yX2_changeDelay, Cond.code yX2_changeDelay cX2_changeDelay 5 (some .int), Cond.methodLink RX7 55 yX7_accept, Cond.instanceMethod yX7_accept, Cond.selects RX7 yX7_accept yX7_accept, Cond.initialized RX7, Cond.code yX7_accept cX7_accept 2 (some .int), Cond.fieldLink RX7 29 "FourPhases" "history" "LFourPhases$History;", Cond.methodLink RX7 186 yX1_record, Cond.instanceMethod yX1_record, Cond.selects RX1 yX1_record yX1_record, Cond.initialized RX1, Cond.code yX1_record cX1_record 2 none, Cond.fieldLink RX1 18 "FourPhases$History" "count" "I", Cond.fieldLink RX1 11 "FourPhases$History" "states" "[LFourPhases$Line;"]
def wsX7_perform_r11 : List Cond := [Cond.methodLink RX1 22 yX1_dropOldest, Cond.instanceMethod yX1_dropOldest, Cond.selects RX1 yX1_dropOldest yX1_dropOldest, Cond.code yX1_dropOldest cX1_dropOldest 3 none, Cond.methodLink RX1 25 yX2_copyFrom]
def wsX7_perform : List Cond := .code yX7_perform cX7_perform 4 (some .int) :: ((wsX7_perform_r1 ++ (wsX7_perform_r2 ++ (wsX7_perform_r3 ++ (wsX7_perform_r4 ++ (wsX7_perform_r5 ++ (wsX7_perform_r6 ++ (wsX7_perform_r7 ++ (wsX7_perform_r8 ++ (wsX7_perform_r9 ++ (wsX7_perform_r10 ++ wsX7_perform_r11)))))))))) ++ wsX70 ++ wsX60 ++ wsX20 ++ wsX30 ++ wsX50 ++ wsX00 ++ wsX40 ++ wsX10)
def wsX7_undo_r1 : List Cond := [Cond.fieldLink RX7 29 "FourPhases" "history" "LFourPhases$History;", Cond.fieldLink RX7 12 "FourPhases" "now" "LFourPhases$Line;", Cond.methodLink RX7 109 yX1_giveBack, Cond.instanceMethod yX1_giveBack, Cond.selects RX1 yX1_giveBack yX1_giveBack, Cond.initialized RX1, Cond.code yX1_giveBack cX1_giveBack 2 (some .int), Cond.fieldLink RX1 18 "FourPhases$History" "count" "I", Cond.fieldLink RX1 11 "FourPhases$History" "states" "[LFourPhases$Line;", Cond.methodLink RX1 25 yX2_copyFrom, Cond.instanceMethod yX2_copyFrom, Cond.selects RX2 yX2_copyFrom yX2_copyFrom, Cond.initialized RX2, Cond.code yX2_copyFrom cX2_copyFrom 3 none, Cond.fieldLink RX2 53 "FourPhases$Line" "stages" "I", Cond.fieldLink RX2 57 "FourPhases$Line" "time" "I", Cond.fieldLink RX2 60 "FourPhases$Line" "latestSender" "I", Cond.fieldLink RX2 63 "FourPhases$Line" "offeredWords" "I", Cond.fieldLink RX2 66 "FourPhases$Line" "arrivedChanges" "I", Cond.fieldLink RX2 9 "FourPhases$Line" "settings" "[I", Cond.methodLink RX2 77 arraycopyName, Cond.native arraycopyName, Cond.static arraycopyName, Cond.initialized "java/lang/System"]
def wsX7_undo_r2 : List Cond := [Cond.fieldLink RX2 17 "FourPhases$Line" "links" "[LFourPhases$Link;", Cond.fieldLink RX2 21 "FourPhases$Line" "held" "[I", Cond.fieldLink RX2 26 "FourPhases$Line" "rows" "[LFourPhases$Row;", Cond.fieldLink RX2 33 "FourPhases$Line" "underWay" "LFourPhases$Changes;", Cond.fieldLink RX2 40 "FourPhases$Line" "notes" "LFourPhases$Notes;", Cond.fieldLink RX2 44 "FourPhases$Line" "offered" "[I", Cond.methodLink RX2 83 yX3_copyFrom, Cond.instanceMethod yX3_copyFrom, Cond.selects RX3 yX3_copyFrom yX3_copyFrom, Cond.initialized RX3, Cond.code yX3_copyFrom cX3_copyFrom 2 none, Cond.fieldLink RX3 9 "FourPhases$Link" "delays" "[I", Cond.methodLink RX3 44 arraycopyName, Cond.fieldLink RX3 15 "FourPhases$Link" "requestAtBeginning" "I", Cond.fieldLink RX3 19 "FourPhases$Link" "requestAtEnd" "I", Cond.fieldLink RX3 22 "FourPhases$Link" "answerAtEnd" "I", Cond.fieldLink RX3 25 "FourPhases$Link" "answerAtBeginning" "I", Cond.fieldLink RX3 28 "FourPhases$Link" "dataAtBeginning" "I", Cond.fieldLink RX3 31 "FourPhases$Link" "dataAtEnd" "I", Cond.fieldLink RX3 34 "FourPhases$Link" "atRest" "Z", Cond.fieldLink RX3 38 "FourPhases$Link" "requestWaits" "Z", Cond.fieldLink RX3 41 "FourPhases$Link" "offeredWords" "I", Cond.methodLink RX2 87 yX5_copyFrom, Cond.instanceMethod yX5_copyFrom]
def wsX7_undo_r3 : List Cond := [Cond.selects RX5 yX5_copyFrom yX5_copyFrom, Cond.initialized RX5, Cond.code yX5_copyFrom cX5_copyFrom 2 none, Cond.fieldLink RX5 15 "FourPhases$Row" "count" "I", Cond.fieldLink RX5 9 "FourPhases$Row" "words" "[I", Cond.methodLink RX5 19 arraycopyName, Cond.methodLink RX2 90 yX0_copyFrom, Cond.instanceMethod yX0_copyFrom, Cond.selects RX0 yX0_copyFrom yX0_copyFrom, Cond.initialized RX0, Cond.code yX0_copyFrom cX0_copyFrom 2 none, Cond.fieldLink RX0 18 "FourPhases$Changes" "head" "I", Cond.fieldLink RX0 22 "FourPhases$Changes" "count" "I", Cond.fieldLink RX0 9 "FourPhases$Changes" "times" "[I", Cond.methodLink RX0 25 arraycopyName, Cond.fieldLink RX0 15 "FourPhases$Changes" "signals" "[I", Cond.methodLink RX2 93 yX4_copyFrom, Cond.instanceMethod yX4_copyFrom, Cond.selects RX4 yX4_copyFrom yX4_copyFrom, Cond.initialized RX4, Cond.code yX4_copyFrom cX4_copyFrom 2 none, Cond.fieldLink RX4 9 "FourPhases$Notes" "words" "[I", Cond.methodLink RX4 28 arraycopyName, Cond.fieldLink RX4 15 "FourPhases$Notes" "times" "[I"]
def wsX7_undo_r4 : List Cond := [Cond.fieldLink RX4 18 "FourPhases$Notes" "rights" "[I", Cond.fieldLink RX4 21 "FourPhases$Notes" "count" "I", Cond.fieldLink RX4 25 "FourPhases$Notes" "rightCount" "I"]
def wsX7_undo : List Cond := .code yX7_undo cX7_undo 1 (some .int) :: ((wsX7_undo_r1 ++ (wsX7_undo_r2 ++ (wsX7_undo_r3 ++ wsX7_undo_r4))) ++ wsX70 ++ wsX10 ++ wsX20 ++ wsX30 ++ wsX50 ++ wsX00 ++ wsX40)
def wsX7_keep_r1 : List Cond := [Cond.fieldLink RX7 19 "FourPhases" "snapshot" "LFourPhases$Line;", Cond.fieldLink RX7 12 "FourPhases" "now" "LFourPhases$Line;", Cond.fieldLink RX7 22 "FourPhases" "hasSnapshot" "Z", Cond.fieldLink RX7 74 "FourPhases$Line" "time" "I", Cond.methodLink RX7 40 yX2_copyFrom, Cond.instanceMethod yX2_copyFrom, Cond.selects RX2 yX2_copyFrom yX2_copyFrom, Cond.initialized RX2, Cond.code yX2_copyFrom cX2_copyFrom 3 none, Cond.fieldLink RX2 53 "FourPhases$Line" "stages" "I", Cond.fieldLink RX2 57 "FourPhases$Line" "time" "I", Cond.fieldLink RX2 60 "FourPhases$Line" "latestSender" "I", Cond.fieldLink RX2 63 "FourPhases$Line" "offeredWords" "I", Cond.fieldLink RX2 66 "FourPhases$Line" "arrivedChanges" "I", Cond.fieldLink RX2 9 "FourPhases$Line" "settings" "[I", Cond.methodLink RX2 77 arraycopyName, Cond.native arraycopyName, Cond.static arraycopyName, Cond.initialized "java/lang/System", Cond.fieldLink RX2 17 "FourPhases$Line" "links" "[LFourPhases$Link;", Cond.fieldLink RX2 21 "FourPhases$Line" "held" "[I", Cond.fieldLink RX2 26 "FourPhases$Line" "rows" "[LFourPhases$Row;", Cond.fieldLink RX2 33 "FourPhases$Line" "underWay" "LFourPhases$Changes;", Cond.fieldLink RX2 40 "FourPhases$Line" "notes" "LFourPhases$Notes;"]
def wsX7_keep_r2 : List Cond := [Cond.fieldLink RX2 44 "FourPhases$Line" "offered" "[I", Cond.methodLink RX2 83 yX3_copyFrom, Cond.instanceMethod yX3_copyFrom, Cond.selects RX3 yX3_copyFrom yX3_copyFrom, Cond.initialized RX3, Cond.code yX3_copyFrom cX3_copyFrom 2 none, Cond.fieldLink RX3 9 "FourPhases$Link" "delays" "[I", Cond.methodLink RX3 44 arraycopyName, Cond.fieldLink RX3 15 "FourPhases$Link" "requestAtBeginning" "I", Cond.fieldLink RX3 19 "FourPhases$Link" "requestAtEnd" "I", Cond.fieldLink RX3 22 "FourPhases$Link" "answerAtEnd" "I", Cond.fieldLink RX3 25 "FourPhases$Link" "answerAtBeginning" "I", Cond.fieldLink RX3 28 "FourPhases$Link" "dataAtBeginning" "I", Cond.fieldLink RX3 31 "FourPhases$Link" "dataAtEnd" "I", Cond.fieldLink RX3 34 "FourPhases$Link" "atRest" "Z", Cond.fieldLink RX3 38 "FourPhases$Link" "requestWaits" "Z", Cond.fieldLink RX3 41 "FourPhases$Link" "offeredWords" "I", Cond.methodLink RX2 87 yX5_copyFrom, Cond.instanceMethod yX5_copyFrom, Cond.selects RX5 yX5_copyFrom yX5_copyFrom, Cond.initialized RX5, Cond.code yX5_copyFrom cX5_copyFrom 2 none, Cond.fieldLink RX5 15 "FourPhases$Row" "count" "I", Cond.fieldLink RX5 9 "FourPhases$Row" "words" "[I"]
def wsX7_keep_r3 : List Cond := [Cond.methodLink RX5 19 arraycopyName, Cond.methodLink RX2 90 yX0_copyFrom, Cond.instanceMethod yX0_copyFrom, Cond.selects RX0 yX0_copyFrom yX0_copyFrom, Cond.initialized RX0, Cond.code yX0_copyFrom cX0_copyFrom 2 none, Cond.fieldLink RX0 18 "FourPhases$Changes" "head" "I", Cond.fieldLink RX0 22 "FourPhases$Changes" "count" "I", Cond.fieldLink RX0 9 "FourPhases$Changes" "times" "[I", Cond.methodLink RX0 25 arraycopyName, Cond.fieldLink RX0 15 "FourPhases$Changes" "signals" "[I", Cond.methodLink RX2 93 yX4_copyFrom, Cond.instanceMethod yX4_copyFrom, Cond.selects RX4 yX4_copyFrom yX4_copyFrom, Cond.initialized RX4, Cond.code yX4_copyFrom cX4_copyFrom 2 none, Cond.fieldLink RX4 9 "FourPhases$Notes" "words" "[I", Cond.methodLink RX4 28 arraycopyName, Cond.fieldLink RX4 15 "FourPhases$Notes" "times" "[I", Cond.fieldLink RX4 18 "FourPhases$Notes" "rights" "[I", Cond.fieldLink RX4 21 "FourPhases$Notes" "count" "I", Cond.fieldLink RX4 25 "FourPhases$Notes" "rightCount" "I"]
def wsX7_keep : List Cond := .code yX7_keep cX7_keep 1 (some .int) :: ((wsX7_keep_r1 ++ (wsX7_keep_r2 ++ wsX7_keep_r3)) ++ wsX70 ++ wsX20 ++ wsX30 ++ wsX50 ++ wsX00 ++ wsX40)
def wsX7_restore_r1 : List Cond := [Cond.fieldLink RX7 22 "FourPhases" "hasSnapshot" "Z", Cond.fieldLink RX7 16 "FourPhases" "trial" "LFourPhases$Line;", Cond.fieldLink RX7 19 "FourPhases" "snapshot" "LFourPhases$Line;", Cond.fieldLink RX7 74 "FourPhases$Line" "time" "I", Cond.methodLink RX7 40 yX2_copyFrom, Cond.instanceMethod yX2_copyFrom, Cond.selects RX2 yX2_copyFrom yX2_copyFrom, Cond.initialized RX2, Cond.code yX2_copyFrom cX2_copyFrom 3 none, Cond.fieldLink RX2 53 "FourPhases$Line" "stages" "I", Cond.fieldLink RX2 57 "FourPhases$Line" "time" "I", Cond.fieldLink RX2 60 "FourPhases$Line" "latestSender" "I", Cond.fieldLink RX2 63 "FourPhases$Line" "offeredWords" "I", Cond.fieldLink RX2 66 "FourPhases$Line" "arrivedChanges" "I", Cond.fieldLink RX2 9 "FourPhases$Line" "settings" "[I", Cond.methodLink RX2 77 arraycopyName, Cond.native arraycopyName, Cond.static arraycopyName, Cond.initialized "java/lang/System", Cond.fieldLink RX2 17 "FourPhases$Line" "links" "[LFourPhases$Link;", Cond.fieldLink RX2 21 "FourPhases$Line" "held" "[I", Cond.fieldLink RX2 26 "FourPhases$Line" "rows" "[LFourPhases$Row;", Cond.fieldLink RX2 33 "FourPhases$Line" "underWay" "LFourPhases$Changes;", Cond.fieldLink RX2 40 "FourPhases$Line" "notes" "LFourPhases$Notes;"]
def wsX7_restore_r2 : List Cond := [Cond.fieldLink RX2 44 "FourPhases$Line" "offered" "[I", Cond.methodLink RX2 83 yX3_copyFrom, Cond.instanceMethod yX3_copyFrom, Cond.selects RX3 yX3_copyFrom yX3_copyFrom, Cond.initialized RX3, Cond.code yX3_copyFrom cX3_copyFrom 2 none, Cond.fieldLink RX3 9 "FourPhases$Link" "delays" "[I", Cond.methodLink RX3 44 arraycopyName, Cond.fieldLink RX3 15 "FourPhases$Link" "requestAtBeginning" "I", Cond.fieldLink RX3 19 "FourPhases$Link" "requestAtEnd" "I", Cond.fieldLink RX3 22 "FourPhases$Link" "answerAtEnd" "I", Cond.fieldLink RX3 25 "FourPhases$Link" "answerAtBeginning" "I", Cond.fieldLink RX3 28 "FourPhases$Link" "dataAtBeginning" "I", Cond.fieldLink RX3 31 "FourPhases$Link" "dataAtEnd" "I", Cond.fieldLink RX3 34 "FourPhases$Link" "atRest" "Z", Cond.fieldLink RX3 38 "FourPhases$Link" "requestWaits" "Z", Cond.fieldLink RX3 41 "FourPhases$Link" "offeredWords" "I", Cond.methodLink RX2 87 yX5_copyFrom, Cond.instanceMethod yX5_copyFrom, Cond.selects RX5 yX5_copyFrom yX5_copyFrom, Cond.initialized RX5, Cond.code yX5_copyFrom cX5_copyFrom 2 none, Cond.fieldLink RX5 15 "FourPhases$Row" "count" "I", Cond.fieldLink RX5 9 "FourPhases$Row" "words" "[I"]
def wsX7_restore_r3 : List Cond := [Cond.methodLink RX5 19 arraycopyName, Cond.methodLink RX2 90 yX0_copyFrom, Cond.instanceMethod yX0_copyFrom, Cond.selects RX0 yX0_copyFrom yX0_copyFrom, Cond.initialized RX0, Cond.code yX0_copyFrom cX0_copyFrom 2 none, Cond.fieldLink RX0 18 "FourPhases$Changes" "head" "I", Cond.fieldLink RX0 22 "FourPhases$Changes" "count" "I", Cond.fieldLink RX0 9 "FourPhases$Changes" "times" "[I", Cond.methodLink RX0 25 arraycopyName, Cond.fieldLink RX0 15 "FourPhases$Changes" "signals" "[I", Cond.methodLink RX2 93 yX4_copyFrom, Cond.instanceMethod yX4_copyFrom, Cond.selects RX4 yX4_copyFrom yX4_copyFrom, Cond.initialized RX4, Cond.code yX4_copyFrom cX4_copyFrom 2 none, Cond.fieldLink RX4 9 "FourPhases$Notes" "words" "[I", Cond.methodLink RX4 28 arraycopyName, Cond.fieldLink RX4 15 "FourPhases$Notes" "times" "[I", Cond.fieldLink RX4 18 "FourPhases$Notes" "rights" "[I", Cond.fieldLink RX4 21 "FourPhases$Notes" "count" "I", Cond.fieldLink RX4 25 "FourPhases$Notes" "rightCount" "I", Cond.methodLink RX7 55 yX7_accept, Cond.instanceMethod yX7_accept]
def wsX7_restore_r4 : List Cond := [Cond.selects RX7 yX7_accept yX7_accept, Cond.initialized RX7, Cond.code yX7_accept cX7_accept 2 (some .int), Cond.fieldLink RX7 29 "FourPhases" "history" "LFourPhases$History;", Cond.fieldLink RX7 12 "FourPhases" "now" "LFourPhases$Line;", Cond.methodLink RX7 186 yX1_record, Cond.instanceMethod yX1_record, Cond.selects RX1 yX1_record yX1_record, Cond.initialized RX1, Cond.code yX1_record cX1_record 2 none, Cond.fieldLink RX1 18 "FourPhases$History" "count" "I", Cond.fieldLink RX1 11 "FourPhases$History" "states" "[LFourPhases$Line;", Cond.methodLink RX1 22 yX1_dropOldest, Cond.instanceMethod yX1_dropOldest, Cond.selects RX1 yX1_dropOldest yX1_dropOldest, Cond.code yX1_dropOldest cX1_dropOldest 3 none, Cond.methodLink RX1 25 yX2_copyFrom]
def wsX7_restore : List Cond := .code yX7_restore cX7_restore 1 (some .int) :: ((wsX7_restore_r1 ++ (wsX7_restore_r2 ++ (wsX7_restore_r3 ++ wsX7_restore_r4))) ++ wsX70 ++ wsX20 ++ wsX30 ++ wsX50 ++ wsX00 ++ wsX40 ++ wsX10)
def wsX7_link : List Cond := .code yX7_link cX7_link 3 (some .int) :: ([.fieldLink RX7 12 "FourPhases" "now" "LFourPhases$Line;", .fieldLink RX7 117 "FourPhases$Line" "links" "[LFourPhases$Link;", .fieldLink RX7 83 "FourPhases$Line" "settings" "[I", .methodLink RX7 113 yX2_hasLink, .instanceMethod yX2_hasLink, .selects RX2 yX2_hasLink yX2_hasLink, .initialized RX2, .code yX2_hasLink cX2_hasLink 2 (some .boolean), .fieldLink RX2 53 "FourPhases$Line" "stages" "I", .methodLink RX7 121 yX3_tell, .instanceMethod yX3_tell, .selects RX3 yX3_tell yX3_tell, .initialized RX3, .code yX3_tell cX3_tell 3 (some .int), .fieldLink RX3 9 "FourPhases$Link" "delays" "[I", .fieldLink RX3 15 "FourPhases$Link" "requestAtBeginning" "I", .fieldLink RX3 19 "FourPhases$Link" "requestAtEnd" "I", .fieldLink RX3 22 "FourPhases$Link" "answerAtEnd" "I", .fieldLink RX3 25 "FourPhases$Link" "answerAtBeginning" "I", .fieldLink RX3 28 "FourPhases$Link" "dataAtBeginning" "I", .fieldLink RX3 31 "FourPhases$Link" "dataAtEnd" "I", .fieldLink RX3 34 "FourPhases$Link" "atRest" "Z", .fieldLink RX3 38 "FourPhases$Link" "requestWaits" "Z", .fieldLink RX3 41 "FourPhases$Link" "offeredWords" "I"] ++ wsX70 ++ wsX20 ++ wsX30)
def wsX7_stage : List Cond := .code yX7_stage cX7_stage 3 (some .int) :: ([.fieldLink RX7 12 "FourPhases" "now" "LFourPhases$Line;", .fieldLink RX7 126 "FourPhases$Line" "stages" "I", .fieldLink RX7 129 "FourPhases$Line" "held" "[I"] ++ wsX70 ++ wsX20)
def wsX7_waiting : List Cond := .code yX7_waiting cX7_waiting 4 (some .int) :: ([.fieldLink RX7 12 "FourPhases" "now" "LFourPhases$Line;", .fieldLink RX7 132 "FourPhases$Line" "rows" "[LFourPhases$Row;", .methodLink RX7 136 yX5_wordAt, .instanceMethod yX5_wordAt, .selects RX5 yX5_wordAt yX5_wordAt, .initialized RX5, .code yX5_wordAt cX5_wordAt 2 (some .int), .fieldLink RX5 15 "FourPhases$Row" "count" "I", .fieldLink RX5 9 "FourPhases$Row" "words" "[I"] ++ wsX70 ++ wsX20 ++ wsX50)
def wsX7_noted : List Cond := .code yX7_noted cX7_noted 3 (some .int) :: ([.fieldLink RX7 12 "FourPhases" "now" "LFourPhases$Line;", .fieldLink RX7 141 "FourPhases$Line" "notes" "LFourPhases$Notes;", .methodLink RX7 145 yX4_tell, .instanceMethod yX4_tell, .selects RX4 yX4_tell yX4_tell, .initialized RX4, .code yX4_tell cX4_tell 4 (some .int), .fieldLink RX4 21 "FourPhases$Notes" "count" "I", .fieldLink RX4 9 "FourPhases$Notes" "words" "[I", .fieldLink RX4 15 "FourPhases$Notes" "times" "[I", .fieldLink RX4 18 "FourPhases$Notes" "rights" "[I"] ++ wsX70 ++ wsX20 ++ wsX40)
def wsX7_total_r1 : List Cond := [Cond.fieldLink RX7 12 "FourPhases" "now" "LFourPhases$Line;", Cond.fieldLink RX7 126 "FourPhases$Line" "stages" "I", Cond.fieldLink RX7 74 "FourPhases$Line" "time" "I", Cond.fieldLink RX7 148 "FourPhases$Line" "underWay" "LFourPhases$Changes;", Cond.fieldLink RX7 152 "FourPhases$Changes" "count" "I", Cond.fieldLink RX7 157 "FourPhases$Line" "offeredWords" "I", Cond.fieldLink RX7 141 "FourPhases$Line" "notes" "LFourPhases$Notes;", Cond.fieldLink RX7 160 "FourPhases$Notes" "count" "I", Cond.fieldLink RX7 161 "FourPhases$Notes" "rightCount" "I", Cond.fieldLink RX7 164 "FourPhases$Line" "arrivedChanges" "I", Cond.fieldLink RX7 167 "FourPhases$Line" "latestSender" "I", Cond.fieldLink RX7 83 "FourPhases$Line" "settings" "[I", Cond.fieldLink RX7 29 "FourPhases" "history" "LFourPhases$History;", Cond.fieldLink RX7 170 "FourPhases$History" "count" "I", Cond.fieldLink RX7 36 "FourPhases" "text" "LFourPhases$Text;", Cond.fieldLink RX7 91 "FourPhases$Text" "length" "I", Cond.methodLink RX7 52 yX2_waitingWords, Cond.instanceMethod yX2_waitingWords, Cond.selects RX2 yX2_waitingWords yX2_waitingWords, Cond.initialized RX2, Cond.code yX2_waitingWords cX2_waitingWords 1 (some .int), Cond.fieldLink RX2 26 "FourPhases$Line" "rows" "[LFourPhases$Row;", Cond.fieldLink RX2 72 "FourPhases$Row" "count" "I", Cond.methodLink RX7 48 yX2_fullStages]
def wsX7_total_r2 : List Cond := [Cond.instanceMethod yX2_fullStages, Cond.selects RX2 yX2_fullStages yX2_fullStages, Cond.code yX2_fullStages cX2_fullStages 3 (some .int), Cond.fieldLink RX2 53 "FourPhases$Line" "stages" "I", Cond.fieldLink RX2 21 "FourPhases$Line" "held" "[I"]
def wsX7_total : List Cond := .code yX7_total cX7_total 2 (some .int) :: ((wsX7_total_r1 ++ wsX7_total_r2) ++ wsX70 ++ wsX20 ++ wsX00 ++ wsX40 ++ wsX10 ++ wsX60 ++ wsX50)
def wsX7_next : List Cond := .code yX7_next cX7_next 1 (some .int) :: ([.fieldLink RX7 12 "FourPhases" "now" "LFourPhases$Line;", .fieldLink RX7 148 "FourPhases$Line" "underWay" "LFourPhases$Changes;", .methodLink RX7 66 yX2_isQuiet, .instanceMethod yX2_isQuiet, .selects RX2 yX2_isQuiet yX2_isQuiet, .initialized RX2, .code yX2_isQuiet cX2_isQuiet 1 (some .boolean), .fieldLink RX2 33 "FourPhases$Line" "underWay" "LFourPhases$Changes;", .fieldLink RX2 75 "FourPhases$Changes" "count" "I", .methodLink RX7 171 yX0_firstTime, .instanceMethod yX0_firstTime, .selects RX0 yX0_firstTime yX0_firstTime, .initialized RX0, .code yX0_firstTime cX0_firstTime 1 (some .int), .fieldLink RX0 9 "FourPhases$Changes" "times" "[I", .fieldLink RX0 18 "FourPhases$Changes" "head" "I"] ++ wsX70 ++ wsX20 ++ wsX00)
def wsX7_quietIn_r1 : List Cond := [Cond.fieldLink RX7 16 "FourPhases" "trial" "LFourPhases$Line;", Cond.fieldLink RX7 12 "FourPhases" "now" "LFourPhases$Line;", Cond.constant RX7 70 (2000000000), Cond.fieldLink RX7 74 "FourPhases$Line" "time" "I", Cond.methodLink RX7 40 yX2_copyFrom, Cond.instanceMethod yX2_copyFrom, Cond.selects RX2 yX2_copyFrom yX2_copyFrom, Cond.initialized RX2, Cond.code yX2_copyFrom cX2_copyFrom 3 none, Cond.fieldLink RX2 53 "FourPhases$Line" "stages" "I", Cond.fieldLink RX2 57 "FourPhases$Line" "time" "I", Cond.fieldLink RX2 60 "FourPhases$Line" "latestSender" "I", Cond.fieldLink RX2 63 "FourPhases$Line" "offeredWords" "I", Cond.fieldLink RX2 66 "FourPhases$Line" "arrivedChanges" "I", Cond.fieldLink RX2 9 "FourPhases$Line" "settings" "[I", Cond.methodLink RX2 77 arraycopyName, Cond.native arraycopyName, Cond.static arraycopyName, Cond.initialized "java/lang/System", Cond.fieldLink RX2 17 "FourPhases$Line" "links" "[LFourPhases$Link;", Cond.fieldLink RX2 21 "FourPhases$Line" "held" "[I", Cond.fieldLink RX2 26 "FourPhases$Line" "rows" "[LFourPhases$Row;", Cond.fieldLink RX2 33 "FourPhases$Line" "underWay" "LFourPhases$Changes;", Cond.fieldLink RX2 40 "FourPhases$Line" "notes" "LFourPhases$Notes;"]
def wsX7_quietIn_r2 : List Cond := [Cond.fieldLink RX2 44 "FourPhases$Line" "offered" "[I", Cond.methodLink RX2 83 yX3_copyFrom, Cond.instanceMethod yX3_copyFrom, Cond.selects RX3 yX3_copyFrom yX3_copyFrom, Cond.initialized RX3, Cond.code yX3_copyFrom cX3_copyFrom 2 none, Cond.fieldLink RX3 9 "FourPhases$Link" "delays" "[I", Cond.methodLink RX3 44 arraycopyName, Cond.fieldLink RX3 15 "FourPhases$Link" "requestAtBeginning" "I", Cond.fieldLink RX3 19 "FourPhases$Link" "requestAtEnd" "I", Cond.fieldLink RX3 22 "FourPhases$Link" "answerAtEnd" "I", Cond.fieldLink RX3 25 "FourPhases$Link" "answerAtBeginning" "I", Cond.fieldLink RX3 28 "FourPhases$Link" "dataAtBeginning" "I", Cond.fieldLink RX3 31 "FourPhases$Link" "dataAtEnd" "I", Cond.fieldLink RX3 34 "FourPhases$Link" "atRest" "Z", Cond.fieldLink RX3 38 "FourPhases$Link" "requestWaits" "Z", Cond.fieldLink RX3 41 "FourPhases$Link" "offeredWords" "I", Cond.methodLink RX2 87 yX5_copyFrom, Cond.instanceMethod yX5_copyFrom, Cond.selects RX5 yX5_copyFrom yX5_copyFrom, Cond.initialized RX5, Cond.code yX5_copyFrom cX5_copyFrom 2 none, Cond.fieldLink RX5 15 "FourPhases$Row" "count" "I", Cond.fieldLink RX5 9 "FourPhases$Row" "words" "[I"]
def wsX7_quietIn_r3 : List Cond := [Cond.methodLink RX5 19 arraycopyName, Cond.methodLink RX2 90 yX0_copyFrom, Cond.instanceMethod yX0_copyFrom, Cond.selects RX0 yX0_copyFrom yX0_copyFrom, Cond.initialized RX0, Cond.code yX0_copyFrom cX0_copyFrom 2 none, Cond.fieldLink RX0 18 "FourPhases$Changes" "head" "I", Cond.fieldLink RX0 22 "FourPhases$Changes" "count" "I", Cond.fieldLink RX0 9 "FourPhases$Changes" "times" "[I", Cond.methodLink RX0 25 arraycopyName, Cond.fieldLink RX0 15 "FourPhases$Changes" "signals" "[I", Cond.methodLink RX2 93 yX4_copyFrom, Cond.instanceMethod yX4_copyFrom, Cond.selects RX4 yX4_copyFrom yX4_copyFrom, Cond.initialized RX4, Cond.code yX4_copyFrom cX4_copyFrom 2 none, Cond.fieldLink RX4 9 "FourPhases$Notes" "words" "[I", Cond.methodLink RX4 28 arraycopyName, Cond.fieldLink RX4 15 "FourPhases$Notes" "times" "[I", Cond.fieldLink RX4 18 "FourPhases$Notes" "rights" "[I", Cond.fieldLink RX4 21 "FourPhases$Notes" "count" "I", Cond.fieldLink RX4 25 "FourPhases$Notes" "rightCount" "I", Cond.methodLink RX7 71 yX2_letArriveUpTo, Cond.instanceMethod yX2_letArriveUpTo]
def wsX7_quietIn_r4 : List Cond := [Cond.selects RX2 yX2_letArriveUpTo yX2_letArriveUpTo, Cond.code yX2_letArriveUpTo cX2_letArriveUpTo 6 none, Cond.constant RX2 118 (1000000), Cond.fieldLink RX2 148 "FourPhases$Link" "dataAtEnd" "I", Cond.methodLink RX2 123 yX2_isQuiet, Cond.instanceMethod yX2_isQuiet, Cond.selects RX2 yX2_isQuiet yX2_isQuiet, Cond.code yX2_isQuiet cX2_isQuiet 1 (some .boolean), Cond.fieldLink RX2 75 "FourPhases$Changes" "count" "I", Cond.methodLink RX2 127 yX0_firstTime, Cond.instanceMethod yX0_firstTime, Cond.selects RX0 yX0_firstTime yX0_firstTime, Cond.code yX0_firstTime cX0_firstTime 1 (some .int), Cond.methodLink RX2 130 yX0_firstLink, Cond.instanceMethod yX0_firstLink, Cond.selects RX0 yX0_firstLink yX0_firstLink, Cond.code yX0_firstLink cX0_firstLink 1 (some .int), Cond.methodLink RX2 133 yX0_firstWire, Cond.instanceMethod yX0_firstWire, Cond.selects RX0 yX0_firstWire yX0_firstWire, Cond.code yX0_firstWire cX0_firstWire 1 (some .int), Cond.methodLink RX2 136 yX0_firstValue, Cond.instanceMethod yX0_firstValue, Cond.selects RX0 yX0_firstValue yX0_firstValue]
def wsX7_quietIn_r5 : List Cond := [Cond.code yX0_firstValue cX0_firstValue 1 (some .int), Cond.methodLink RX2 139 yX0_removeFirst, Cond.instanceMethod yX0_removeFirst, Cond.selects RX0 yX0_removeFirst yX0_removeFirst, Cond.code yX0_removeFirst cX0_removeFirst 1 none, Cond.methodLink RX2 111 yX2_hasLink, Cond.instanceMethod yX2_hasLink, Cond.selects RX2 yX2_hasLink yX2_hasLink, Cond.code yX2_hasLink cX2_hasLink 2 (some .boolean), Cond.methodLink RX2 142 yX2_letRequestArrive, Cond.instanceMethod yX2_letRequestArrive, Cond.selects RX2 yX2_letRequestArrive yX2_letRequestArrive, Cond.code yX2_letRequestArrive cX2_letRequestArrive 3 none, Cond.fieldLink RX2 151 "FourPhases$Link" "requestAtEnd" "I", Cond.fieldLink RX2 161 "FourPhases$Link" "requestWaits" "Z", Cond.fieldLink RX2 99 "FourPhases$Link" "atRest" "Z", Cond.methodLink RX2 154 yX2_makeAnswer, Cond.instanceMethod yX2_makeAnswer, Cond.selects RX2 yX2_makeAnswer yX2_makeAnswer, Cond.code yX2_makeAnswer cX2_makeAnswer 4 none, Cond.fieldLink RX2 191 "FourPhases$Link" "answerAtEnd" "I", Cond.fieldLink RX2 115 "FourPhases$Link" "delays" "[I", Cond.methodLink RX2 183 yX0_insert, Cond.instanceMethod yX0_insert]
def wsX7_quietIn_r6 : List Cond := [Cond.selects RX0 yX0_insert yX0_insert, Cond.code yX0_insert cX0_insert 8 none, Cond.methodLink RX2 158 yX2_noteWord, Cond.instanceMethod yX2_noteWord, Cond.selects RX2 yX2_noteWord yX2_noteWord, Cond.code yX2_noteWord cX2_noteWord 3 none, Cond.fieldLink RX2 119 "FourPhases$Notes" "count" "I", Cond.methodLink RX2 178 yX4_append, Cond.instanceMethod yX4_append, Cond.selects RX4 yX4_append yX4_append, Cond.code yX4_append cX4_append 5 none, Cond.methodLink RX2 164 yX2_takeWord, Cond.instanceMethod yX2_takeWord, Cond.selects RX2 yX2_takeWord yX2_takeWord, Cond.code yX2_takeWord cX2_takeWord 2 none, Cond.methodLink RX2 107 yX2_offer, Cond.instanceMethod yX2_offer, Cond.selects RX2 yX2_offer yX2_offer, Cond.code yX2_offer cX2_offer 4 none, Cond.fieldLink RX2 180 "FourPhases$Link" "dataAtBeginning" "I", Cond.fieldLink RX2 187 "FourPhases$Link" "offeredWords" "I", Cond.methodLink RX2 170 yX2_makeRequest, Cond.instanceMethod yX2_makeRequest, Cond.selects RX2 yX2_makeRequest yX2_makeRequest]
def wsX7_quietIn_r7 : List Cond := [Cond.code yX2_makeRequest cX2_makeRequest 4 none, Cond.fieldLink RX2 188 "FourPhases$Link" "requestAtBeginning" "I", Cond.methodLink RX2 145 yX2_letAnswerArrive, Cond.instanceMethod yX2_letAnswerArrive, Cond.selects RX2 yX2_letAnswerArrive yX2_letAnswerArrive, Cond.code yX2_letAnswerArrive cX2_letAnswerArrive 4 none, Cond.fieldLink RX2 167 "FourPhases$Link" "answerAtBeginning" "I", Cond.methodLink RX2 103 yX2_letOneGo, Cond.instanceMethod yX2_letOneGo, Cond.selects RX2 yX2_letOneGo yX2_letOneGo, Cond.code yX2_letOneGo cX2_letOneGo 4 (some .int), Cond.methodLink RX2 173 yX2_chosenSender, Cond.instanceMethod yX2_chosenSender, Cond.selects RX2 yX2_chosenSender yX2_chosenSender, Cond.code yX2_chosenSender cX2_chosenSender 1 (some .int), Cond.fieldLink RX2 72 "FourPhases$Row" "count" "I", Cond.methodLink RX2 176 yX5_removeFirst, Cond.instanceMethod yX5_removeFirst, Cond.selects RX5 yX5_removeFirst yX5_removeFirst, Cond.code yX5_removeFirst cX5_removeFirst 3 (some .int)]
def wsX7_quietIn : List Cond := .code yX7_quietIn cX7_quietIn 1 (some .int) :: ((wsX7_quietIn_r1 ++ (wsX7_quietIn_r2 ++ (wsX7_quietIn_r3 ++ (wsX7_quietIn_r4 ++ (wsX7_quietIn_r5 ++ (wsX7_quietIn_r6 ++ wsX7_quietIn_r7)))))) ++ wsX70 ++ wsX20 ++ wsX30 ++ wsX50 ++ wsX00 ++ wsX40)
def wsX7_settleTrialWithLead_r1 : List Cond := [Cond.fieldLink RX7 16 "FourPhases" "trial" "LFourPhases$Line;", Cond.fieldLink RX7 12 "FourPhases" "now" "LFourPhases$Line;", Cond.fieldLink RX7 83 "FourPhases$Line" "settings" "[I", Cond.constant RX7 70 (2000000000), Cond.methodLink RX7 40 yX2_copyFrom, Cond.instanceMethod yX2_copyFrom, Cond.selects RX2 yX2_copyFrom yX2_copyFrom, Cond.initialized RX2, Cond.code yX2_copyFrom cX2_copyFrom 3 none, Cond.fieldLink RX2 53 "FourPhases$Line" "stages" "I", Cond.fieldLink RX2 57 "FourPhases$Line" "time" "I", Cond.fieldLink RX2 60 "FourPhases$Line" "latestSender" "I", Cond.fieldLink RX2 63 "FourPhases$Line" "offeredWords" "I", Cond.fieldLink RX2 66 "FourPhases$Line" "arrivedChanges" "I", Cond.fieldLink RX2 9 "FourPhases$Line" "settings" "[I", Cond.methodLink RX2 77 arraycopyName, Cond.native arraycopyName, Cond.static arraycopyName, Cond.initialized "java/lang/System", Cond.fieldLink RX2 17 "FourPhases$Line" "links" "[LFourPhases$Link;", Cond.fieldLink RX2 21 "FourPhases$Line" "held" "[I", Cond.fieldLink RX2 26 "FourPhases$Line" "rows" "[LFourPhases$Row;", Cond.fieldLink RX2 33 "FourPhases$Line" "underWay" "LFourPhases$Changes;", Cond.fieldLink RX2 40 "FourPhases$Line" "notes" "LFourPhases$Notes;"]
def wsX7_settleTrialWithLead_r2 : List Cond := [Cond.fieldLink RX2 44 "FourPhases$Line" "offered" "[I", Cond.methodLink RX2 83 yX3_copyFrom, Cond.instanceMethod yX3_copyFrom, Cond.selects RX3 yX3_copyFrom yX3_copyFrom, Cond.initialized RX3, Cond.code yX3_copyFrom cX3_copyFrom 2 none, Cond.fieldLink RX3 9 "FourPhases$Link" "delays" "[I", Cond.methodLink RX3 44 arraycopyName, Cond.fieldLink RX3 15 "FourPhases$Link" "requestAtBeginning" "I", Cond.fieldLink RX3 19 "FourPhases$Link" "requestAtEnd" "I", Cond.fieldLink RX3 22 "FourPhases$Link" "answerAtEnd" "I", Cond.fieldLink RX3 25 "FourPhases$Link" "answerAtBeginning" "I", Cond.fieldLink RX3 28 "FourPhases$Link" "dataAtBeginning" "I", Cond.fieldLink RX3 31 "FourPhases$Link" "dataAtEnd" "I", Cond.fieldLink RX3 34 "FourPhases$Link" "atRest" "Z", Cond.fieldLink RX3 38 "FourPhases$Link" "requestWaits" "Z", Cond.fieldLink RX3 41 "FourPhases$Link" "offeredWords" "I", Cond.methodLink RX2 87 yX5_copyFrom, Cond.instanceMethod yX5_copyFrom, Cond.selects RX5 yX5_copyFrom yX5_copyFrom, Cond.initialized RX5, Cond.code yX5_copyFrom cX5_copyFrom 2 none, Cond.fieldLink RX5 15 "FourPhases$Row" "count" "I", Cond.fieldLink RX5 9 "FourPhases$Row" "words" "[I"]
def wsX7_settleTrialWithLead_r3 : List Cond := [Cond.methodLink RX5 19 arraycopyName, Cond.methodLink RX2 90 yX0_copyFrom, Cond.instanceMethod yX0_copyFrom, Cond.selects RX0 yX0_copyFrom yX0_copyFrom, Cond.initialized RX0, Cond.code yX0_copyFrom cX0_copyFrom 2 none, Cond.fieldLink RX0 18 "FourPhases$Changes" "head" "I", Cond.fieldLink RX0 22 "FourPhases$Changes" "count" "I", Cond.fieldLink RX0 9 "FourPhases$Changes" "times" "[I", Cond.methodLink RX0 25 arraycopyName, Cond.fieldLink RX0 15 "FourPhases$Changes" "signals" "[I", Cond.methodLink RX2 93 yX4_copyFrom, Cond.instanceMethod yX4_copyFrom, Cond.selects RX4 yX4_copyFrom yX4_copyFrom, Cond.initialized RX4, Cond.code yX4_copyFrom cX4_copyFrom 2 none, Cond.fieldLink RX4 9 "FourPhases$Notes" "words" "[I", Cond.methodLink RX4 28 arraycopyName, Cond.fieldLink RX4 15 "FourPhases$Notes" "times" "[I", Cond.fieldLink RX4 18 "FourPhases$Notes" "rights" "[I", Cond.fieldLink RX4 21 "FourPhases$Notes" "count" "I", Cond.fieldLink RX4 25 "FourPhases$Notes" "rightCount" "I", Cond.methodLink RX7 71 yX2_letArriveUpTo, Cond.instanceMethod yX2_letArriveUpTo]
def wsX7_settleTrialWithLead_r4 : List Cond := [Cond.selects RX2 yX2_letArriveUpTo yX2_letArriveUpTo, Cond.code yX2_letArriveUpTo cX2_letArriveUpTo 6 none, Cond.constant RX2 118 (1000000), Cond.fieldLink RX2 148 "FourPhases$Link" "dataAtEnd" "I", Cond.methodLink RX2 123 yX2_isQuiet, Cond.instanceMethod yX2_isQuiet, Cond.selects RX2 yX2_isQuiet yX2_isQuiet, Cond.code yX2_isQuiet cX2_isQuiet 1 (some .boolean), Cond.fieldLink RX2 75 "FourPhases$Changes" "count" "I", Cond.methodLink RX2 127 yX0_firstTime, Cond.instanceMethod yX0_firstTime, Cond.selects RX0 yX0_firstTime yX0_firstTime, Cond.code yX0_firstTime cX0_firstTime 1 (some .int), Cond.methodLink RX2 130 yX0_firstLink, Cond.instanceMethod yX0_firstLink, Cond.selects RX0 yX0_firstLink yX0_firstLink, Cond.code yX0_firstLink cX0_firstLink 1 (some .int), Cond.methodLink RX2 133 yX0_firstWire, Cond.instanceMethod yX0_firstWire, Cond.selects RX0 yX0_firstWire yX0_firstWire, Cond.code yX0_firstWire cX0_firstWire 1 (some .int), Cond.methodLink RX2 136 yX0_firstValue, Cond.instanceMethod yX0_firstValue, Cond.selects RX0 yX0_firstValue yX0_firstValue]
def wsX7_settleTrialWithLead_r5 : List Cond := [Cond.code yX0_firstValue cX0_firstValue 1 (some .int), Cond.methodLink RX2 139 yX0_removeFirst, Cond.instanceMethod yX0_removeFirst, Cond.selects RX0 yX0_removeFirst yX0_removeFirst, Cond.code yX0_removeFirst cX0_removeFirst 1 none, Cond.methodLink RX2 111 yX2_hasLink, Cond.instanceMethod yX2_hasLink, Cond.selects RX2 yX2_hasLink yX2_hasLink, Cond.code yX2_hasLink cX2_hasLink 2 (some .boolean), Cond.methodLink RX2 142 yX2_letRequestArrive, Cond.instanceMethod yX2_letRequestArrive, Cond.selects RX2 yX2_letRequestArrive yX2_letRequestArrive, Cond.code yX2_letRequestArrive cX2_letRequestArrive 3 none, Cond.fieldLink RX2 151 "FourPhases$Link" "requestAtEnd" "I", Cond.fieldLink RX2 161 "FourPhases$Link" "requestWaits" "Z", Cond.fieldLink RX2 99 "FourPhases$Link" "atRest" "Z", Cond.methodLink RX2 154 yX2_makeAnswer, Cond.instanceMethod yX2_makeAnswer, Cond.selects RX2 yX2_makeAnswer yX2_makeAnswer, Cond.code yX2_makeAnswer cX2_makeAnswer 4 none, Cond.fieldLink RX2 191 "FourPhases$Link" "answerAtEnd" "I", Cond.fieldLink RX2 115 "FourPhases$Link" "delays" "[I", Cond.methodLink RX2 183 yX0_insert, Cond.instanceMethod yX0_insert]
def wsX7_settleTrialWithLead_r6 : List Cond := [Cond.selects RX0 yX0_insert yX0_insert, Cond.code yX0_insert cX0_insert 8 none, Cond.methodLink RX2 158 yX2_noteWord, Cond.instanceMethod yX2_noteWord, Cond.selects RX2 yX2_noteWord yX2_noteWord, Cond.code yX2_noteWord cX2_noteWord 3 none, Cond.fieldLink RX2 119 "FourPhases$Notes" "count" "I", Cond.methodLink RX2 178 yX4_append, Cond.instanceMethod yX4_append, Cond.selects RX4 yX4_append yX4_append, Cond.code yX4_append cX4_append 5 none, Cond.methodLink RX2 164 yX2_takeWord, Cond.instanceMethod yX2_takeWord, Cond.selects RX2 yX2_takeWord yX2_takeWord, Cond.code yX2_takeWord cX2_takeWord 2 none, Cond.methodLink RX2 107 yX2_offer, Cond.instanceMethod yX2_offer, Cond.selects RX2 yX2_offer yX2_offer, Cond.code yX2_offer cX2_offer 4 none, Cond.fieldLink RX2 180 "FourPhases$Link" "dataAtBeginning" "I", Cond.fieldLink RX2 187 "FourPhases$Link" "offeredWords" "I", Cond.methodLink RX2 170 yX2_makeRequest, Cond.instanceMethod yX2_makeRequest, Cond.selects RX2 yX2_makeRequest yX2_makeRequest]
def wsX7_settleTrialWithLead_r7 : List Cond := [Cond.code yX2_makeRequest cX2_makeRequest 4 none, Cond.fieldLink RX2 188 "FourPhases$Link" "requestAtBeginning" "I", Cond.methodLink RX2 145 yX2_letAnswerArrive, Cond.instanceMethod yX2_letAnswerArrive, Cond.selects RX2 yX2_letAnswerArrive yX2_letAnswerArrive, Cond.code yX2_letAnswerArrive cX2_letAnswerArrive 4 none, Cond.fieldLink RX2 167 "FourPhases$Link" "answerAtBeginning" "I", Cond.methodLink RX2 103 yX2_letOneGo, Cond.instanceMethod yX2_letOneGo, Cond.selects RX2 yX2_letOneGo yX2_letOneGo, Cond.code yX2_letOneGo cX2_letOneGo 4 (some .int), Cond.methodLink RX2 173 yX2_chosenSender, Cond.instanceMethod yX2_chosenSender, Cond.selects RX2 yX2_chosenSender yX2_chosenSender, Cond.code yX2_chosenSender cX2_chosenSender 1 (some .int), Cond.fieldLink RX2 72 "FourPhases$Row" "count" "I", Cond.methodLink RX2 176 yX5_removeFirst, Cond.instanceMethod yX5_removeFirst, Cond.selects RX5 yX5_removeFirst yX5_removeFirst, Cond.code yX5_removeFirst cX5_removeFirst 3 (some .int)]
def wsX7_settleTrialWithLead : List Cond := .code yX7_settleTrialWithLead cX7_settleTrialWithLead 2 none :: ((wsX7_settleTrialWithLead_r1 ++ (wsX7_settleTrialWithLead_r2 ++ (wsX7_settleTrialWithLead_r3 ++ (wsX7_settleTrialWithLead_r4 ++ (wsX7_settleTrialWithLead_r5 ++ (wsX7_settleTrialWithLead_r6 ++ wsX7_settleTrialWithLead_r7)))))) ++ wsX70 ++ wsX20 ++ wsX30 ++ wsX50 ++ wsX00 ++ wsX40)
def wsX7_wrongInTrial : List Cond := .code yX7_wrongInTrial cX7_wrongInTrial 1 (some .int) :: ([.fieldLink RX7 16 "FourPhases" "trial" "LFourPhases$Line;", .fieldLink RX7 141 "FourPhases$Line" "notes" "LFourPhases$Notes;", .fieldLink RX7 12 "FourPhases" "now" "LFourPhases$Line;", .methodLink RX7 189 yX4_wrongWords, .instanceMethod yX4_wrongWords, .selects RX4 yX4_wrongWords yX4_wrongWords, .initialized RX4, .code yX4_wrongWords cX4_wrongWords 1 (some .int), .fieldLink RX4 21 "FourPhases$Notes" "count" "I", .fieldLink RX4 25 "FourPhases$Notes" "rightCount" "I"] ++ wsX70 ++ wsX20 ++ wsX40)
def wsX7_ifLead_r1 : List Cond := [Cond.fieldLink RX7 16 "FourPhases" "trial" "LFourPhases$Line;", Cond.fieldLink RX7 74 "FourPhases$Line" "time" "I", Cond.fieldLink RX7 12 "FourPhases" "now" "LFourPhases$Line;", Cond.fieldLink RX7 141 "FourPhases$Line" "notes" "LFourPhases$Notes;", Cond.fieldLink RX7 160 "FourPhases$Notes" "count" "I", Cond.methodLink RX7 174 yX7_settleTrialWithLead, Cond.instanceMethod yX7_settleTrialWithLead, Cond.selects RX7 yX7_settleTrialWithLead yX7_settleTrialWithLead, Cond.initialized RX7, Cond.code yX7_settleTrialWithLead cX7_settleTrialWithLead 2 none, Cond.fieldLink RX7 83 "FourPhases$Line" "settings" "[I", Cond.constant RX7 70 (2000000000), Cond.methodLink RX7 40 yX2_copyFrom, Cond.instanceMethod yX2_copyFrom, Cond.selects RX2 yX2_copyFrom yX2_copyFrom, Cond.initialized RX2, Cond.code yX2_copyFrom cX2_copyFrom 3 none, Cond.fieldLink RX2 53 "FourPhases$Line" "stages" "I", Cond.fieldLink RX2 57 "FourPhases$Line" "time" "I", Cond.fieldLink RX2 60 "FourPhases$Line" "latestSender" "I", Cond.fieldLink RX2 63 "FourPhases$Line" "offeredWords" "I", Cond.fieldLink RX2 66 "FourPhases$Line" "arrivedChanges" "I", Cond.fieldLink RX2 9 "FourPhases$Line" "settings" "[I", Cond.methodLink RX2 77 arraycopyName]
def wsX7_ifLead_r2 : List Cond := [Cond.native arraycopyName, Cond.static arraycopyName, Cond.initialized "java/lang/System", Cond.fieldLink RX2 17 "FourPhases$Line" "links" "[LFourPhases$Link;", Cond.fieldLink RX2 21 "FourPhases$Line" "held" "[I", Cond.fieldLink RX2 26 "FourPhases$Line" "rows" "[LFourPhases$Row;", Cond.fieldLink RX2 33 "FourPhases$Line" "underWay" "LFourPhases$Changes;", Cond.fieldLink RX2 40 "FourPhases$Line" "notes" "LFourPhases$Notes;", Cond.fieldLink RX2 44 "FourPhases$Line" "offered" "[I", Cond.methodLink RX2 83 yX3_copyFrom, Cond.instanceMethod yX3_copyFrom, Cond.selects RX3 yX3_copyFrom yX3_copyFrom, Cond.initialized RX3, Cond.code yX3_copyFrom cX3_copyFrom 2 none, Cond.fieldLink RX3 9 "FourPhases$Link" "delays" "[I", Cond.methodLink RX3 44 arraycopyName, Cond.fieldLink RX3 15 "FourPhases$Link" "requestAtBeginning" "I", Cond.fieldLink RX3 19 "FourPhases$Link" "requestAtEnd" "I", Cond.fieldLink RX3 22 "FourPhases$Link" "answerAtEnd" "I", Cond.fieldLink RX3 25 "FourPhases$Link" "answerAtBeginning" "I", Cond.fieldLink RX3 28 "FourPhases$Link" "dataAtBeginning" "I", Cond.fieldLink RX3 31 "FourPhases$Link" "dataAtEnd" "I", Cond.fieldLink RX3 34 "FourPhases$Link" "atRest" "Z", Cond.fieldLink RX3 38 "FourPhases$Link" "requestWaits" "Z"]
def wsX7_ifLead_r3 : List Cond := [Cond.fieldLink RX3 41 "FourPhases$Link" "offeredWords" "I", Cond.methodLink RX2 87 yX5_copyFrom, Cond.instanceMethod yX5_copyFrom, Cond.selects RX5 yX5_copyFrom yX5_copyFrom, Cond.initialized RX5, Cond.code yX5_copyFrom cX5_copyFrom 2 none, Cond.fieldLink RX5 15 "FourPhases$Row" "count" "I", Cond.fieldLink RX5 9 "FourPhases$Row" "words" "[I", Cond.methodLink RX5 19 arraycopyName, Cond.methodLink RX2 90 yX0_copyFrom, Cond.instanceMethod yX0_copyFrom, Cond.selects RX0 yX0_copyFrom yX0_copyFrom, Cond.initialized RX0, Cond.code yX0_copyFrom cX0_copyFrom 2 none, Cond.fieldLink RX0 18 "FourPhases$Changes" "head" "I", Cond.fieldLink RX0 22 "FourPhases$Changes" "count" "I", Cond.fieldLink RX0 9 "FourPhases$Changes" "times" "[I", Cond.methodLink RX0 25 arraycopyName, Cond.fieldLink RX0 15 "FourPhases$Changes" "signals" "[I", Cond.methodLink RX2 93 yX4_copyFrom, Cond.instanceMethod yX4_copyFrom, Cond.selects RX4 yX4_copyFrom yX4_copyFrom, Cond.initialized RX4, Cond.code yX4_copyFrom cX4_copyFrom 2 none]
def wsX7_ifLead_r4 : List Cond := [Cond.fieldLink RX4 9 "FourPhases$Notes" "words" "[I", Cond.methodLink RX4 28 arraycopyName, Cond.fieldLink RX4 15 "FourPhases$Notes" "times" "[I", Cond.fieldLink RX4 18 "FourPhases$Notes" "rights" "[I", Cond.fieldLink RX4 21 "FourPhases$Notes" "count" "I", Cond.fieldLink RX4 25 "FourPhases$Notes" "rightCount" "I", Cond.methodLink RX7 71 yX2_letArriveUpTo, Cond.instanceMethod yX2_letArriveUpTo, Cond.selects RX2 yX2_letArriveUpTo yX2_letArriveUpTo, Cond.code yX2_letArriveUpTo cX2_letArriveUpTo 6 none, Cond.constant RX2 118 (1000000), Cond.fieldLink RX2 148 "FourPhases$Link" "dataAtEnd" "I", Cond.methodLink RX2 123 yX2_isQuiet, Cond.instanceMethod yX2_isQuiet, Cond.selects RX2 yX2_isQuiet yX2_isQuiet, Cond.code yX2_isQuiet cX2_isQuiet 1 (some .boolean), Cond.fieldLink RX2 75 "FourPhases$Changes" "count" "I", Cond.methodLink RX2 127 yX0_firstTime, Cond.instanceMethod yX0_firstTime, Cond.selects RX0 yX0_firstTime yX0_firstTime, Cond.code yX0_firstTime cX0_firstTime 1 (some .int), Cond.methodLink RX2 130 yX0_firstLink, Cond.instanceMethod yX0_firstLink, Cond.selects RX0 yX0_firstLink yX0_firstLink]
def wsX7_ifLead_r5 : List Cond := [Cond.code yX0_firstLink cX0_firstLink 1 (some .int), Cond.methodLink RX2 133 yX0_firstWire, Cond.instanceMethod yX0_firstWire, Cond.selects RX0 yX0_firstWire yX0_firstWire, Cond.code yX0_firstWire cX0_firstWire 1 (some .int), Cond.methodLink RX2 136 yX0_firstValue, Cond.instanceMethod yX0_firstValue, Cond.selects RX0 yX0_firstValue yX0_firstValue, Cond.code yX0_firstValue cX0_firstValue 1 (some .int), Cond.methodLink RX2 139 yX0_removeFirst, Cond.instanceMethod yX0_removeFirst, Cond.selects RX0 yX0_removeFirst yX0_removeFirst, Cond.code yX0_removeFirst cX0_removeFirst 1 none, Cond.methodLink RX2 111 yX2_hasLink, Cond.instanceMethod yX2_hasLink, Cond.selects RX2 yX2_hasLink yX2_hasLink, Cond.code yX2_hasLink cX2_hasLink 2 (some .boolean), Cond.methodLink RX2 142 yX2_letRequestArrive, Cond.instanceMethod yX2_letRequestArrive, Cond.selects RX2 yX2_letRequestArrive yX2_letRequestArrive, Cond.code yX2_letRequestArrive cX2_letRequestArrive 3 none, Cond.fieldLink RX2 151 "FourPhases$Link" "requestAtEnd" "I", Cond.fieldLink RX2 161 "FourPhases$Link" "requestWaits" "Z", Cond.fieldLink RX2 99 "FourPhases$Link" "atRest" "Z"]
def wsX7_ifLead_r6 : List Cond := [Cond.methodLink RX2 154 yX2_makeAnswer, Cond.instanceMethod yX2_makeAnswer, Cond.selects RX2 yX2_makeAnswer yX2_makeAnswer, Cond.code yX2_makeAnswer cX2_makeAnswer 4 none, Cond.fieldLink RX2 191 "FourPhases$Link" "answerAtEnd" "I", Cond.fieldLink RX2 115 "FourPhases$Link" "delays" "[I", Cond.methodLink RX2 183 yX0_insert, Cond.instanceMethod yX0_insert, Cond.selects RX0 yX0_insert yX0_insert, Cond.code yX0_insert cX0_insert 8 none, Cond.methodLink RX2 158 yX2_noteWord, Cond.instanceMethod yX2_noteWord, Cond.selects RX2 yX2_noteWord yX2_noteWord, Cond.code yX2_noteWord cX2_noteWord 3 none, Cond.fieldLink RX2 119 "FourPhases$Notes" "count" "I", Cond.methodLink RX2 178 yX4_append, Cond.instanceMethod yX4_append, Cond.selects RX4 yX4_append yX4_append, Cond.code yX4_append cX4_append 5 none, Cond.methodLink RX2 164 yX2_takeWord, Cond.instanceMethod yX2_takeWord, Cond.selects RX2 yX2_takeWord yX2_takeWord, Cond.code yX2_takeWord cX2_takeWord 2 none, Cond.methodLink RX2 107 yX2_offer]
def wsX7_ifLead_r7 : List Cond := [Cond.instanceMethod yX2_offer, Cond.selects RX2 yX2_offer yX2_offer, Cond.code yX2_offer cX2_offer 4 none, Cond.fieldLink RX2 180 "FourPhases$Link" "dataAtBeginning" "I", Cond.fieldLink RX2 187 "FourPhases$Link" "offeredWords" "I", Cond.methodLink RX2 170 yX2_makeRequest, Cond.instanceMethod yX2_makeRequest, Cond.selects RX2 yX2_makeRequest yX2_makeRequest, Cond.code yX2_makeRequest cX2_makeRequest 4 none, Cond.fieldLink RX2 188 "FourPhases$Link" "requestAtBeginning" "I", Cond.methodLink RX2 145 yX2_letAnswerArrive, Cond.instanceMethod yX2_letAnswerArrive, Cond.selects RX2 yX2_letAnswerArrive yX2_letAnswerArrive, Cond.code yX2_letAnswerArrive cX2_letAnswerArrive 4 none, Cond.fieldLink RX2 167 "FourPhases$Link" "answerAtBeginning" "I", Cond.methodLink RX2 103 yX2_letOneGo, Cond.instanceMethod yX2_letOneGo, Cond.selects RX2 yX2_letOneGo yX2_letOneGo, Cond.code yX2_letOneGo cX2_letOneGo 4 (some .int), Cond.methodLink RX2 173 yX2_chosenSender, Cond.instanceMethod yX2_chosenSender, Cond.selects RX2 yX2_chosenSender yX2_chosenSender, Cond.code yX2_chosenSender cX2_chosenSender 1 (some .int), Cond.fieldLink RX2 72 "FourPhases$Row" "count" "I"]
def wsX7_ifLead_r8 : List Cond := [Cond.methodLink RX2 176 yX5_removeFirst, Cond.instanceMethod yX5_removeFirst, Cond.selects RX5 yX5_removeFirst yX5_removeFirst, Cond.code yX5_removeFirst cX5_removeFirst 3 (some .int), Cond.methodLink RX7 177 yX7_wrongInTrial, Cond.instanceMethod yX7_wrongInTrial, Cond.selects RX7 yX7_wrongInTrial yX7_wrongInTrial, Cond.code yX7_wrongInTrial cX7_wrongInTrial 1 (some .int), Cond.methodLink RX7 189 yX4_wrongWords, Cond.instanceMethod yX4_wrongWords, Cond.selects RX4 yX4_wrongWords yX4_wrongWords, Cond.code yX4_wrongWords cX4_wrongWords 1 (some .int)]
def wsX7_ifLead : List Cond := .code yX7_ifLead cX7_ifLead 3 (some .int) :: ((wsX7_ifLead_r1 ++ (wsX7_ifLead_r2 ++ (wsX7_ifLead_r3 ++ (wsX7_ifLead_r4 ++ (wsX7_ifLead_r5 ++ (wsX7_ifLead_r6 ++ (wsX7_ifLead_r7 ++ wsX7_ifLead_r8))))))) ++ wsX70 ++ wsX20 ++ wsX40 ++ wsX30 ++ wsX50 ++ wsX00)
def wsX7_leastLead_r1 : List Cond := [Cond.methodLink RX7 174 yX7_settleTrialWithLead, Cond.instanceMethod yX7_settleTrialWithLead, Cond.selects RX7 yX7_settleTrialWithLead yX7_settleTrialWithLead, Cond.initialized RX7, Cond.code yX7_settleTrialWithLead cX7_settleTrialWithLead 2 none, Cond.fieldLink RX7 16 "FourPhases" "trial" "LFourPhases$Line;", Cond.fieldLink RX7 12 "FourPhases" "now" "LFourPhases$Line;", Cond.fieldLink RX7 83 "FourPhases$Line" "settings" "[I", Cond.constant RX7 70 (2000000000), Cond.methodLink RX7 40 yX2_copyFrom, Cond.instanceMethod yX2_copyFrom, Cond.selects RX2 yX2_copyFrom yX2_copyFrom, Cond.initialized RX2, Cond.code yX2_copyFrom cX2_copyFrom 3 none, Cond.fieldLink RX2 53 "FourPhases$Line" "stages" "I", Cond.fieldLink RX2 57 "FourPhases$Line" "time" "I", Cond.fieldLink RX2 60 "FourPhases$Line" "latestSender" "I", Cond.fieldLink RX2 63 "FourPhases$Line" "offeredWords" "I", Cond.fieldLink RX2 66 "FourPhases$Line" "arrivedChanges" "I", Cond.fieldLink RX2 9 "FourPhases$Line" "settings" "[I", Cond.methodLink RX2 77 arraycopyName, Cond.native arraycopyName, Cond.static arraycopyName, Cond.initialized "java/lang/System"]
def wsX7_leastLead_r2 : List Cond := [Cond.fieldLink RX2 17 "FourPhases$Line" "links" "[LFourPhases$Link;", Cond.fieldLink RX2 21 "FourPhases$Line" "held" "[I", Cond.fieldLink RX2 26 "FourPhases$Line" "rows" "[LFourPhases$Row;", Cond.fieldLink RX2 33 "FourPhases$Line" "underWay" "LFourPhases$Changes;", Cond.fieldLink RX2 40 "FourPhases$Line" "notes" "LFourPhases$Notes;", Cond.fieldLink RX2 44 "FourPhases$Line" "offered" "[I", Cond.methodLink RX2 83 yX3_copyFrom, Cond.instanceMethod yX3_copyFrom, Cond.selects RX3 yX3_copyFrom yX3_copyFrom, Cond.initialized RX3, Cond.code yX3_copyFrom cX3_copyFrom 2 none, Cond.fieldLink RX3 9 "FourPhases$Link" "delays" "[I", Cond.methodLink RX3 44 arraycopyName, Cond.fieldLink RX3 15 "FourPhases$Link" "requestAtBeginning" "I", Cond.fieldLink RX3 19 "FourPhases$Link" "requestAtEnd" "I", Cond.fieldLink RX3 22 "FourPhases$Link" "answerAtEnd" "I", Cond.fieldLink RX3 25 "FourPhases$Link" "answerAtBeginning" "I", Cond.fieldLink RX3 28 "FourPhases$Link" "dataAtBeginning" "I", Cond.fieldLink RX3 31 "FourPhases$Link" "dataAtEnd" "I", Cond.fieldLink RX3 34 "FourPhases$Link" "atRest" "Z", Cond.fieldLink RX3 38 "FourPhases$Link" "requestWaits" "Z", Cond.fieldLink RX3 41 "FourPhases$Link" "offeredWords" "I", Cond.methodLink RX2 87 yX5_copyFrom, Cond.instanceMethod yX5_copyFrom]
def wsX7_leastLead_r3 : List Cond := [Cond.selects RX5 yX5_copyFrom yX5_copyFrom, Cond.initialized RX5, Cond.code yX5_copyFrom cX5_copyFrom 2 none, Cond.fieldLink RX5 15 "FourPhases$Row" "count" "I", Cond.fieldLink RX5 9 "FourPhases$Row" "words" "[I", Cond.methodLink RX5 19 arraycopyName, Cond.methodLink RX2 90 yX0_copyFrom, Cond.instanceMethod yX0_copyFrom, Cond.selects RX0 yX0_copyFrom yX0_copyFrom, Cond.initialized RX0, Cond.code yX0_copyFrom cX0_copyFrom 2 none, Cond.fieldLink RX0 18 "FourPhases$Changes" "head" "I", Cond.fieldLink RX0 22 "FourPhases$Changes" "count" "I", Cond.fieldLink RX0 9 "FourPhases$Changes" "times" "[I", Cond.methodLink RX0 25 arraycopyName, Cond.fieldLink RX0 15 "FourPhases$Changes" "signals" "[I", Cond.methodLink RX2 93 yX4_copyFrom, Cond.instanceMethod yX4_copyFrom, Cond.selects RX4 yX4_copyFrom yX4_copyFrom, Cond.initialized RX4, Cond.code yX4_copyFrom cX4_copyFrom 2 none, Cond.fieldLink RX4 9 "FourPhases$Notes" "words" "[I", Cond.methodLink RX4 28 arraycopyName, Cond.fieldLink RX4 15 "FourPhases$Notes" "times" "[I"]
def wsX7_leastLead_r4 : List Cond := [Cond.fieldLink RX4 18 "FourPhases$Notes" "rights" "[I", Cond.fieldLink RX4 21 "FourPhases$Notes" "count" "I", Cond.fieldLink RX4 25 "FourPhases$Notes" "rightCount" "I", Cond.methodLink RX7 71 yX2_letArriveUpTo, Cond.instanceMethod yX2_letArriveUpTo, Cond.selects RX2 yX2_letArriveUpTo yX2_letArriveUpTo, Cond.code yX2_letArriveUpTo cX2_letArriveUpTo 6 none, Cond.constant RX2 118 (1000000), Cond.fieldLink RX2 148 "FourPhases$Link" "dataAtEnd" "I", Cond.methodLink RX2 123 yX2_isQuiet, Cond.instanceMethod yX2_isQuiet, Cond.selects RX2 yX2_isQuiet yX2_isQuiet, Cond.code yX2_isQuiet cX2_isQuiet 1 (some .boolean), Cond.fieldLink RX2 75 "FourPhases$Changes" "count" "I", Cond.methodLink RX2 127 yX0_firstTime, Cond.instanceMethod yX0_firstTime, Cond.selects RX0 yX0_firstTime yX0_firstTime, Cond.code yX0_firstTime cX0_firstTime 1 (some .int), Cond.methodLink RX2 130 yX0_firstLink, Cond.instanceMethod yX0_firstLink, Cond.selects RX0 yX0_firstLink yX0_firstLink, Cond.code yX0_firstLink cX0_firstLink 1 (some .int), Cond.methodLink RX2 133 yX0_firstWire, Cond.instanceMethod yX0_firstWire]
def wsX7_leastLead_r5 : List Cond := [Cond.selects RX0 yX0_firstWire yX0_firstWire, Cond.code yX0_firstWire cX0_firstWire 1 (some .int), Cond.methodLink RX2 136 yX0_firstValue, Cond.instanceMethod yX0_firstValue, Cond.selects RX0 yX0_firstValue yX0_firstValue, Cond.code yX0_firstValue cX0_firstValue 1 (some .int), Cond.methodLink RX2 139 yX0_removeFirst, Cond.instanceMethod yX0_removeFirst, Cond.selects RX0 yX0_removeFirst yX0_removeFirst, Cond.code yX0_removeFirst cX0_removeFirst 1 none, Cond.methodLink RX2 111 yX2_hasLink, Cond.instanceMethod yX2_hasLink, Cond.selects RX2 yX2_hasLink yX2_hasLink, Cond.code yX2_hasLink cX2_hasLink 2 (some .boolean), Cond.methodLink RX2 142 yX2_letRequestArrive, Cond.instanceMethod yX2_letRequestArrive, Cond.selects RX2 yX2_letRequestArrive yX2_letRequestArrive, Cond.code yX2_letRequestArrive cX2_letRequestArrive 3 none, Cond.fieldLink RX2 151 "FourPhases$Link" "requestAtEnd" "I", Cond.fieldLink RX2 161 "FourPhases$Link" "requestWaits" "Z", Cond.fieldLink RX2 99 "FourPhases$Link" "atRest" "Z", Cond.methodLink RX2 154 yX2_makeAnswer, Cond.instanceMethod yX2_makeAnswer, Cond.selects RX2 yX2_makeAnswer yX2_makeAnswer]
def wsX7_leastLead_r6 : List Cond := [Cond.code yX2_makeAnswer cX2_makeAnswer 4 none, Cond.fieldLink RX2 191 "FourPhases$Link" "answerAtEnd" "I", Cond.fieldLink RX2 115 "FourPhases$Link" "delays" "[I", Cond.methodLink RX2 183 yX0_insert, Cond.instanceMethod yX0_insert, Cond.selects RX0 yX0_insert yX0_insert, Cond.code yX0_insert cX0_insert 8 none, Cond.methodLink RX2 158 yX2_noteWord, Cond.instanceMethod yX2_noteWord, Cond.selects RX2 yX2_noteWord yX2_noteWord, Cond.code yX2_noteWord cX2_noteWord 3 none, Cond.fieldLink RX2 119 "FourPhases$Notes" "count" "I", Cond.methodLink RX2 178 yX4_append, Cond.instanceMethod yX4_append, Cond.selects RX4 yX4_append yX4_append, Cond.code yX4_append cX4_append 5 none, Cond.methodLink RX2 164 yX2_takeWord, Cond.instanceMethod yX2_takeWord, Cond.selects RX2 yX2_takeWord yX2_takeWord, Cond.code yX2_takeWord cX2_takeWord 2 none, Cond.methodLink RX2 107 yX2_offer, Cond.instanceMethod yX2_offer, Cond.selects RX2 yX2_offer yX2_offer, Cond.code yX2_offer cX2_offer 4 none]
def wsX7_leastLead_r7 : List Cond := [Cond.fieldLink RX2 180 "FourPhases$Link" "dataAtBeginning" "I", Cond.fieldLink RX2 187 "FourPhases$Link" "offeredWords" "I", Cond.methodLink RX2 170 yX2_makeRequest, Cond.instanceMethod yX2_makeRequest, Cond.selects RX2 yX2_makeRequest yX2_makeRequest, Cond.code yX2_makeRequest cX2_makeRequest 4 none, Cond.fieldLink RX2 188 "FourPhases$Link" "requestAtBeginning" "I", Cond.methodLink RX2 145 yX2_letAnswerArrive, Cond.instanceMethod yX2_letAnswerArrive, Cond.selects RX2 yX2_letAnswerArrive yX2_letAnswerArrive, Cond.code yX2_letAnswerArrive cX2_letAnswerArrive 4 none, Cond.fieldLink RX2 167 "FourPhases$Link" "answerAtBeginning" "I", Cond.methodLink RX2 103 yX2_letOneGo, Cond.instanceMethod yX2_letOneGo, Cond.selects RX2 yX2_letOneGo yX2_letOneGo, Cond.code yX2_letOneGo cX2_letOneGo 4 (some .int), Cond.methodLink RX2 173 yX2_chosenSender, Cond.instanceMethod yX2_chosenSender, Cond.selects RX2 yX2_chosenSender yX2_chosenSender, Cond.code yX2_chosenSender cX2_chosenSender 1 (some .int), Cond.fieldLink RX2 72 "FourPhases$Row" "count" "I", Cond.methodLink RX2 176 yX5_removeFirst, Cond.instanceMethod yX5_removeFirst, Cond.selects RX5 yX5_removeFirst yX5_removeFirst]
def wsX7_leastLead_r8 : List Cond := [Cond.code yX5_removeFirst cX5_removeFirst 3 (some .int), Cond.methodLink RX7 177 yX7_wrongInTrial, Cond.instanceMethod yX7_wrongInTrial, Cond.selects RX7 yX7_wrongInTrial yX7_wrongInTrial, Cond.code yX7_wrongInTrial cX7_wrongInTrial 1 (some .int), Cond.fieldLink RX7 141 "FourPhases$Line" "notes" "LFourPhases$Notes;", Cond.methodLink RX7 189 yX4_wrongWords, Cond.instanceMethod yX4_wrongWords, Cond.selects RX4 yX4_wrongWords yX4_wrongWords, Cond.code yX4_wrongWords cX4_wrongWords 1 (some .int)]
def wsX7_leastLead : List Cond := .code yX7_leastLead cX7_leastLead 2 (some .int) :: ((wsX7_leastLead_r1 ++ (wsX7_leastLead_r2 ++ (wsX7_leastLead_r3 ++ (wsX7_leastLead_r4 ++ (wsX7_leastLead_r5 ++ (wsX7_leastLead_r6 ++ (wsX7_leastLead_r7 ++ wsX7_leastLead_r8))))))) ++ wsX70 ++ wsX20 ++ wsX30 ++ wsX50 ++ wsX00 ++ wsX40)
def wsX7_quietTimeWithLess_r1 : List Cond := [Cond.fieldLink RX7 16 "FourPhases" "trial" "LFourPhases$Line;", Cond.fieldLink RX7 12 "FourPhases" "now" "LFourPhases$Line;", Cond.fieldLink RX7 117 "FourPhases$Line" "links" "[LFourPhases$Link;", Cond.fieldLink RX7 180 "FourPhases$Link" "delays" "[I", Cond.constant RX7 70 (2000000000), Cond.fieldLink RX7 74 "FourPhases$Line" "time" "I", Cond.methodLink RX7 40 yX2_copyFrom, Cond.instanceMethod yX2_copyFrom, Cond.selects RX2 yX2_copyFrom yX2_copyFrom, Cond.initialized RX2, Cond.code yX2_copyFrom cX2_copyFrom 3 none, Cond.fieldLink RX2 53 "FourPhases$Line" "stages" "I", Cond.fieldLink RX2 57 "FourPhases$Line" "time" "I", Cond.fieldLink RX2 60 "FourPhases$Line" "latestSender" "I", Cond.fieldLink RX2 63 "FourPhases$Line" "offeredWords" "I", Cond.fieldLink RX2 66 "FourPhases$Line" "arrivedChanges" "I", Cond.fieldLink RX2 9 "FourPhases$Line" "settings" "[I", Cond.methodLink RX2 77 arraycopyName, Cond.native arraycopyName, Cond.static arraycopyName, Cond.initialized "java/lang/System", Cond.fieldLink RX2 17 "FourPhases$Line" "links" "[LFourPhases$Link;", Cond.fieldLink RX2 21 "FourPhases$Line" "held" "[I", Cond.fieldLink RX2 26 "FourPhases$Line" "rows" "[LFourPhases$Row;"]
def wsX7_quietTimeWithLess_r2 : List Cond := [Cond.fieldLink RX2 33 "FourPhases$Line" "underWay" "LFourPhases$Changes;", Cond.fieldLink RX2 40 "FourPhases$Line" "notes" "LFourPhases$Notes;", Cond.fieldLink RX2 44 "FourPhases$Line" "offered" "[I", Cond.methodLink RX2 83 yX3_copyFrom, Cond.instanceMethod yX3_copyFrom, Cond.selects RX3 yX3_copyFrom yX3_copyFrom, Cond.initialized RX3, Cond.code yX3_copyFrom cX3_copyFrom 2 none, Cond.fieldLink RX3 9 "FourPhases$Link" "delays" "[I", Cond.methodLink RX3 44 arraycopyName, Cond.fieldLink RX3 15 "FourPhases$Link" "requestAtBeginning" "I", Cond.fieldLink RX3 19 "FourPhases$Link" "requestAtEnd" "I", Cond.fieldLink RX3 22 "FourPhases$Link" "answerAtEnd" "I", Cond.fieldLink RX3 25 "FourPhases$Link" "answerAtBeginning" "I", Cond.fieldLink RX3 28 "FourPhases$Link" "dataAtBeginning" "I", Cond.fieldLink RX3 31 "FourPhases$Link" "dataAtEnd" "I", Cond.fieldLink RX3 34 "FourPhases$Link" "atRest" "Z", Cond.fieldLink RX3 38 "FourPhases$Link" "requestWaits" "Z", Cond.fieldLink RX3 41 "FourPhases$Link" "offeredWords" "I", Cond.methodLink RX2 87 yX5_copyFrom, Cond.instanceMethod yX5_copyFrom, Cond.selects RX5 yX5_copyFrom yX5_copyFrom, Cond.initialized RX5, Cond.code yX5_copyFrom cX5_copyFrom 2 none]
def wsX7_quietTimeWithLess_r3 : List Cond := [Cond.fieldLink RX5 15 "FourPhases$Row" "count" "I", Cond.fieldLink RX5 9 "FourPhases$Row" "words" "[I", Cond.methodLink RX5 19 arraycopyName, Cond.methodLink RX2 90 yX0_copyFrom, Cond.instanceMethod yX0_copyFrom, Cond.selects RX0 yX0_copyFrom yX0_copyFrom, Cond.initialized RX0, Cond.code yX0_copyFrom cX0_copyFrom 2 none, Cond.fieldLink RX0 18 "FourPhases$Changes" "head" "I", Cond.fieldLink RX0 22 "FourPhases$Changes" "count" "I", Cond.fieldLink RX0 9 "FourPhases$Changes" "times" "[I", Cond.methodLink RX0 25 arraycopyName, Cond.fieldLink RX0 15 "FourPhases$Changes" "signals" "[I", Cond.methodLink RX2 93 yX4_copyFrom, Cond.instanceMethod yX4_copyFrom, Cond.selects RX4 yX4_copyFrom yX4_copyFrom, Cond.initialized RX4, Cond.code yX4_copyFrom cX4_copyFrom 2 none, Cond.fieldLink RX4 9 "FourPhases$Notes" "words" "[I", Cond.methodLink RX4 28 arraycopyName, Cond.fieldLink RX4 15 "FourPhases$Notes" "times" "[I", Cond.fieldLink RX4 18 "FourPhases$Notes" "rights" "[I", Cond.fieldLink RX4 21 "FourPhases$Notes" "count" "I", Cond.fieldLink RX4 25 "FourPhases$Notes" "rightCount" "I"]
def wsX7_quietTimeWithLess_r4 : List Cond := [Cond.methodLink RX7 71 yX2_letArriveUpTo, Cond.instanceMethod yX2_letArriveUpTo, Cond.selects RX2 yX2_letArriveUpTo yX2_letArriveUpTo, Cond.code yX2_letArriveUpTo cX2_letArriveUpTo 6 none, Cond.constant RX2 118 (1000000), Cond.fieldLink RX2 148 "FourPhases$Link" "dataAtEnd" "I", Cond.methodLink RX2 123 yX2_isQuiet, Cond.instanceMethod yX2_isQuiet, Cond.selects RX2 yX2_isQuiet yX2_isQuiet, Cond.code yX2_isQuiet cX2_isQuiet 1 (some .boolean), Cond.fieldLink RX2 75 "FourPhases$Changes" "count" "I", Cond.methodLink RX2 127 yX0_firstTime, Cond.instanceMethod yX0_firstTime, Cond.selects RX0 yX0_firstTime yX0_firstTime, Cond.code yX0_firstTime cX0_firstTime 1 (some .int), Cond.methodLink RX2 130 yX0_firstLink, Cond.instanceMethod yX0_firstLink, Cond.selects RX0 yX0_firstLink yX0_firstLink, Cond.code yX0_firstLink cX0_firstLink 1 (some .int), Cond.methodLink RX2 133 yX0_firstWire, Cond.instanceMethod yX0_firstWire, Cond.selects RX0 yX0_firstWire yX0_firstWire, Cond.code yX0_firstWire cX0_firstWire 1 (some .int), Cond.methodLink RX2 136 yX0_firstValue]
def wsX7_quietTimeWithLess_r5 : List Cond := [Cond.instanceMethod yX0_firstValue, Cond.selects RX0 yX0_firstValue yX0_firstValue, Cond.code yX0_firstValue cX0_firstValue 1 (some .int), Cond.methodLink RX2 139 yX0_removeFirst, Cond.instanceMethod yX0_removeFirst, Cond.selects RX0 yX0_removeFirst yX0_removeFirst, Cond.code yX0_removeFirst cX0_removeFirst 1 none, Cond.methodLink RX2 111 yX2_hasLink, Cond.instanceMethod yX2_hasLink, Cond.selects RX2 yX2_hasLink yX2_hasLink, Cond.code yX2_hasLink cX2_hasLink 2 (some .boolean), Cond.methodLink RX2 142 yX2_letRequestArrive, Cond.instanceMethod yX2_letRequestArrive, Cond.selects RX2 yX2_letRequestArrive yX2_letRequestArrive, Cond.code yX2_letRequestArrive cX2_letRequestArrive 3 none, Cond.fieldLink RX2 151 "FourPhases$Link" "requestAtEnd" "I", Cond.fieldLink RX2 161 "FourPhases$Link" "requestWaits" "Z", Cond.fieldLink RX2 99 "FourPhases$Link" "atRest" "Z", Cond.methodLink RX2 154 yX2_makeAnswer, Cond.instanceMethod yX2_makeAnswer, Cond.selects RX2 yX2_makeAnswer yX2_makeAnswer, Cond.code yX2_makeAnswer cX2_makeAnswer 4 none, Cond.fieldLink RX2 191 "FourPhases$Link" "answerAtEnd" "I", Cond.fieldLink RX2 115 "FourPhases$Link" "delays" "[I"]
def wsX7_quietTimeWithLess_r6 : List Cond := [Cond.methodLink RX2 183 yX0_insert, Cond.instanceMethod yX0_insert, Cond.selects RX0 yX0_insert yX0_insert, Cond.code yX0_insert cX0_insert 8 none, Cond.methodLink RX2 158 yX2_noteWord, Cond.instanceMethod yX2_noteWord, Cond.selects RX2 yX2_noteWord yX2_noteWord, Cond.code yX2_noteWord cX2_noteWord 3 none, Cond.fieldLink RX2 119 "FourPhases$Notes" "count" "I", Cond.methodLink RX2 178 yX4_append, Cond.instanceMethod yX4_append, Cond.selects RX4 yX4_append yX4_append, Cond.code yX4_append cX4_append 5 none, Cond.methodLink RX2 164 yX2_takeWord, Cond.instanceMethod yX2_takeWord, Cond.selects RX2 yX2_takeWord yX2_takeWord, Cond.code yX2_takeWord cX2_takeWord 2 none, Cond.methodLink RX2 107 yX2_offer, Cond.instanceMethod yX2_offer, Cond.selects RX2 yX2_offer yX2_offer, Cond.code yX2_offer cX2_offer 4 none, Cond.fieldLink RX2 180 "FourPhases$Link" "dataAtBeginning" "I", Cond.fieldLink RX2 187 "FourPhases$Link" "offeredWords" "I", Cond.methodLink RX2 170 yX2_makeRequest]
def wsX7_quietTimeWithLess_r7 : List Cond := [Cond.instanceMethod yX2_makeRequest, Cond.selects RX2 yX2_makeRequest yX2_makeRequest, Cond.code yX2_makeRequest cX2_makeRequest 4 none, Cond.fieldLink RX2 188 "FourPhases$Link" "requestAtBeginning" "I", Cond.methodLink RX2 145 yX2_letAnswerArrive, Cond.instanceMethod yX2_letAnswerArrive, Cond.selects RX2 yX2_letAnswerArrive yX2_letAnswerArrive, Cond.code yX2_letAnswerArrive cX2_letAnswerArrive 4 none, Cond.fieldLink RX2 167 "FourPhases$Link" "answerAtBeginning" "I", Cond.methodLink RX2 103 yX2_letOneGo, Cond.instanceMethod yX2_letOneGo, Cond.selects RX2 yX2_letOneGo yX2_letOneGo, Cond.code yX2_letOneGo cX2_letOneGo 4 (some .int), Cond.methodLink RX2 173 yX2_chosenSender, Cond.instanceMethod yX2_chosenSender, Cond.selects RX2 yX2_chosenSender yX2_chosenSender, Cond.code yX2_chosenSender cX2_chosenSender 1 (some .int), Cond.fieldLink RX2 72 "FourPhases$Row" "count" "I", Cond.methodLink RX2 176 yX5_removeFirst, Cond.instanceMethod yX5_removeFirst, Cond.selects RX5 yX5_removeFirst yX5_removeFirst, Cond.code yX5_removeFirst cX5_removeFirst 3 (some .int)]
def wsX7_quietTimeWithLess : List Cond := .code yX7_quietTimeWithLess cX7_quietTimeWithLess 3 (some .int) :: ((wsX7_quietTimeWithLess_r1 ++ (wsX7_quietTimeWithLess_r2 ++ (wsX7_quietTimeWithLess_r3 ++ (wsX7_quietTimeWithLess_r4 ++ (wsX7_quietTimeWithLess_r5 ++ (wsX7_quietTimeWithLess_r6 ++ wsX7_quietTimeWithLess_r7)))))) ++ wsX70 ++ wsX20 ++ wsX30 ++ wsX50 ++ wsX00 ++ wsX40)
def wsX7_dearest_r1 : List Cond := [Cond.fieldLink RX7 12 "FourPhases" "now" "LFourPhases$Line;", Cond.fieldLink RX7 126 "FourPhases$Line" "stages" "I", Cond.fieldLink RX7 117 "FourPhases$Line" "links" "[LFourPhases$Link;", Cond.fieldLink RX7 180 "FourPhases$Link" "delays" "[I", Cond.methodLink RX7 183 yX7_quietTimeWithLess, Cond.instanceMethod yX7_quietTimeWithLess, Cond.selects RX7 yX7_quietTimeWithLess yX7_quietTimeWithLess, Cond.initialized RX7, Cond.code yX7_quietTimeWithLess cX7_quietTimeWithLess 3 (some .int), Cond.fieldLink RX7 16 "FourPhases" "trial" "LFourPhases$Line;", Cond.constant RX7 70 (2000000000), Cond.fieldLink RX7 74 "FourPhases$Line" "time" "I", Cond.methodLink RX7 40 yX2_copyFrom, Cond.instanceMethod yX2_copyFrom, Cond.selects RX2 yX2_copyFrom yX2_copyFrom, Cond.initialized RX2, Cond.code yX2_copyFrom cX2_copyFrom 3 none, Cond.fieldLink RX2 53 "FourPhases$Line" "stages" "I", Cond.fieldLink RX2 57 "FourPhases$Line" "time" "I", Cond.fieldLink RX2 60 "FourPhases$Line" "latestSender" "I", Cond.fieldLink RX2 63 "FourPhases$Line" "offeredWords" "I", Cond.fieldLink RX2 66 "FourPhases$Line" "arrivedChanges" "I", Cond.fieldLink RX2 9 "FourPhases$Line" "settings" "[I", Cond.methodLink RX2 77 arraycopyName]
def wsX7_dearest_r2 : List Cond := [Cond.native arraycopyName, Cond.static arraycopyName, Cond.initialized "java/lang/System", Cond.fieldLink RX2 17 "FourPhases$Line" "links" "[LFourPhases$Link;", Cond.fieldLink RX2 21 "FourPhases$Line" "held" "[I", Cond.fieldLink RX2 26 "FourPhases$Line" "rows" "[LFourPhases$Row;", Cond.fieldLink RX2 33 "FourPhases$Line" "underWay" "LFourPhases$Changes;", Cond.fieldLink RX2 40 "FourPhases$Line" "notes" "LFourPhases$Notes;", Cond.fieldLink RX2 44 "FourPhases$Line" "offered" "[I", Cond.methodLink RX2 83 yX3_copyFrom, Cond.instanceMethod yX3_copyFrom, Cond.selects RX3 yX3_copyFrom yX3_copyFrom, Cond.initialized RX3, Cond.code yX3_copyFrom cX3_copyFrom 2 none, Cond.fieldLink RX3 9 "FourPhases$Link" "delays" "[I", Cond.methodLink RX3 44 arraycopyName, Cond.fieldLink RX3 15 "FourPhases$Link" "requestAtBeginning" "I", Cond.fieldLink RX3 19 "FourPhases$Link" "requestAtEnd" "I", Cond.fieldLink RX3 22 "FourPhases$Link" "answerAtEnd" "I", Cond.fieldLink RX3 25 "FourPhases$Link" "answerAtBeginning" "I", Cond.fieldLink RX3 28 "FourPhases$Link" "dataAtBeginning" "I", Cond.fieldLink RX3 31 "FourPhases$Link" "dataAtEnd" "I", Cond.fieldLink RX3 34 "FourPhases$Link" "atRest" "Z", Cond.fieldLink RX3 38 "FourPhases$Link" "requestWaits" "Z"]
def wsX7_dearest_r3 : List Cond := [Cond.fieldLink RX3 41 "FourPhases$Link" "offeredWords" "I", Cond.methodLink RX2 87 yX5_copyFrom, Cond.instanceMethod yX5_copyFrom, Cond.selects RX5 yX5_copyFrom yX5_copyFrom, Cond.initialized RX5, Cond.code yX5_copyFrom cX5_copyFrom 2 none, Cond.fieldLink RX5 15 "FourPhases$Row" "count" "I", Cond.fieldLink RX5 9 "FourPhases$Row" "words" "[I", Cond.methodLink RX5 19 arraycopyName, Cond.methodLink RX2 90 yX0_copyFrom, Cond.instanceMethod yX0_copyFrom, Cond.selects RX0 yX0_copyFrom yX0_copyFrom, Cond.initialized RX0, Cond.code yX0_copyFrom cX0_copyFrom 2 none, Cond.fieldLink RX0 18 "FourPhases$Changes" "head" "I", Cond.fieldLink RX0 22 "FourPhases$Changes" "count" "I", Cond.fieldLink RX0 9 "FourPhases$Changes" "times" "[I", Cond.methodLink RX0 25 arraycopyName, Cond.fieldLink RX0 15 "FourPhases$Changes" "signals" "[I", Cond.methodLink RX2 93 yX4_copyFrom, Cond.instanceMethod yX4_copyFrom, Cond.selects RX4 yX4_copyFrom yX4_copyFrom, Cond.initialized RX4, Cond.code yX4_copyFrom cX4_copyFrom 2 none]
def wsX7_dearest_r4 : List Cond := [Cond.fieldLink RX4 9 "FourPhases$Notes" "words" "[I", Cond.methodLink RX4 28 arraycopyName, Cond.fieldLink RX4 15 "FourPhases$Notes" "times" "[I", Cond.fieldLink RX4 18 "FourPhases$Notes" "rights" "[I", Cond.fieldLink RX4 21 "FourPhases$Notes" "count" "I", Cond.fieldLink RX4 25 "FourPhases$Notes" "rightCount" "I", Cond.methodLink RX7 71 yX2_letArriveUpTo, Cond.instanceMethod yX2_letArriveUpTo, Cond.selects RX2 yX2_letArriveUpTo yX2_letArriveUpTo, Cond.code yX2_letArriveUpTo cX2_letArriveUpTo 6 none, Cond.constant RX2 118 (1000000), Cond.fieldLink RX2 148 "FourPhases$Link" "dataAtEnd" "I", Cond.methodLink RX2 123 yX2_isQuiet, Cond.instanceMethod yX2_isQuiet, Cond.selects RX2 yX2_isQuiet yX2_isQuiet, Cond.code yX2_isQuiet cX2_isQuiet 1 (some .boolean), Cond.fieldLink RX2 75 "FourPhases$Changes" "count" "I", Cond.methodLink RX2 127 yX0_firstTime, Cond.instanceMethod yX0_firstTime, Cond.selects RX0 yX0_firstTime yX0_firstTime, Cond.code yX0_firstTime cX0_firstTime 1 (some .int), Cond.methodLink RX2 130 yX0_firstLink, Cond.instanceMethod yX0_firstLink, Cond.selects RX0 yX0_firstLink yX0_firstLink]
def wsX7_dearest_r5 : List Cond := [Cond.code yX0_firstLink cX0_firstLink 1 (some .int), Cond.methodLink RX2 133 yX0_firstWire, Cond.instanceMethod yX0_firstWire, Cond.selects RX0 yX0_firstWire yX0_firstWire, Cond.code yX0_firstWire cX0_firstWire 1 (some .int), Cond.methodLink RX2 136 yX0_firstValue, Cond.instanceMethod yX0_firstValue, Cond.selects RX0 yX0_firstValue yX0_firstValue, Cond.code yX0_firstValue cX0_firstValue 1 (some .int), Cond.methodLink RX2 139 yX0_removeFirst, Cond.instanceMethod yX0_removeFirst, Cond.selects RX0 yX0_removeFirst yX0_removeFirst, Cond.code yX0_removeFirst cX0_removeFirst 1 none, Cond.methodLink RX2 111 yX2_hasLink, Cond.instanceMethod yX2_hasLink, Cond.selects RX2 yX2_hasLink yX2_hasLink, Cond.code yX2_hasLink cX2_hasLink 2 (some .boolean), Cond.methodLink RX2 142 yX2_letRequestArrive, Cond.instanceMethod yX2_letRequestArrive, Cond.selects RX2 yX2_letRequestArrive yX2_letRequestArrive, Cond.code yX2_letRequestArrive cX2_letRequestArrive 3 none, Cond.fieldLink RX2 151 "FourPhases$Link" "requestAtEnd" "I", Cond.fieldLink RX2 161 "FourPhases$Link" "requestWaits" "Z", Cond.fieldLink RX2 99 "FourPhases$Link" "atRest" "Z"]
def wsX7_dearest_r6 : List Cond := [Cond.methodLink RX2 154 yX2_makeAnswer, Cond.instanceMethod yX2_makeAnswer, Cond.selects RX2 yX2_makeAnswer yX2_makeAnswer, Cond.code yX2_makeAnswer cX2_makeAnswer 4 none, Cond.fieldLink RX2 191 "FourPhases$Link" "answerAtEnd" "I", Cond.fieldLink RX2 115 "FourPhases$Link" "delays" "[I", Cond.methodLink RX2 183 yX0_insert, Cond.instanceMethod yX0_insert, Cond.selects RX0 yX0_insert yX0_insert, Cond.code yX0_insert cX0_insert 8 none, Cond.methodLink RX2 158 yX2_noteWord, Cond.instanceMethod yX2_noteWord, Cond.selects RX2 yX2_noteWord yX2_noteWord, Cond.code yX2_noteWord cX2_noteWord 3 none, Cond.fieldLink RX2 119 "FourPhases$Notes" "count" "I", Cond.methodLink RX2 178 yX4_append, Cond.instanceMethod yX4_append, Cond.selects RX4 yX4_append yX4_append, Cond.code yX4_append cX4_append 5 none, Cond.methodLink RX2 164 yX2_takeWord, Cond.instanceMethod yX2_takeWord, Cond.selects RX2 yX2_takeWord yX2_takeWord, Cond.code yX2_takeWord cX2_takeWord 2 none, Cond.methodLink RX2 107 yX2_offer]
def wsX7_dearest_r7 : List Cond := [Cond.instanceMethod yX2_offer, Cond.selects RX2 yX2_offer yX2_offer, Cond.code yX2_offer cX2_offer 4 none, Cond.fieldLink RX2 180 "FourPhases$Link" "dataAtBeginning" "I", Cond.fieldLink RX2 187 "FourPhases$Link" "offeredWords" "I", Cond.methodLink RX2 170 yX2_makeRequest, Cond.instanceMethod yX2_makeRequest, Cond.selects RX2 yX2_makeRequest yX2_makeRequest, Cond.code yX2_makeRequest cX2_makeRequest 4 none, Cond.fieldLink RX2 188 "FourPhases$Link" "requestAtBeginning" "I", Cond.methodLink RX2 145 yX2_letAnswerArrive, Cond.instanceMethod yX2_letAnswerArrive, Cond.selects RX2 yX2_letAnswerArrive yX2_letAnswerArrive, Cond.code yX2_letAnswerArrive cX2_letAnswerArrive 4 none, Cond.fieldLink RX2 167 "FourPhases$Link" "answerAtBeginning" "I", Cond.methodLink RX2 103 yX2_letOneGo, Cond.instanceMethod yX2_letOneGo, Cond.selects RX2 yX2_letOneGo yX2_letOneGo, Cond.code yX2_letOneGo cX2_letOneGo 4 (some .int), Cond.methodLink RX2 173 yX2_chosenSender, Cond.instanceMethod yX2_chosenSender, Cond.selects RX2 yX2_chosenSender yX2_chosenSender, Cond.code yX2_chosenSender cX2_chosenSender 1 (some .int), Cond.fieldLink RX2 72 "FourPhases$Row" "count" "I"]
def wsX7_dearest_r8 : List Cond := [Cond.methodLink RX2 176 yX5_removeFirst, Cond.instanceMethod yX5_removeFirst, Cond.selects RX5 yX5_removeFirst yX5_removeFirst, Cond.code yX5_removeFirst cX5_removeFirst 3 (some .int)]
def wsX7_dearest : List Cond := .code yX7_dearest cX7_dearest 6 (some .int) :: ((wsX7_dearest_r1 ++ (wsX7_dearest_r2 ++ (wsX7_dearest_r3 ++ (wsX7_dearest_r4 ++ (wsX7_dearest_r5 ++ (wsX7_dearest_r6 ++ (wsX7_dearest_r7 ++ wsX7_dearest_r8))))))) ++ wsX70 ++ wsX20 ++ wsX30 ++ wsX50 ++ wsX00 ++ wsX40)
def wsX8_clean : List Cond := .code yX8_clean cX8_clean 4 none :: ([.fieldLink RX8 7 "FourPhasesModel" "state" "[I"] ++ wsX80)
def wsX8_init : List Cond := .code yX8_init cX8_init 1 none :: ([.methodLink RX8 1 objectInit, .instanceMethod objectInit, .code objectInit ⟨#[0xb1]⟩ 1 none, .arrayClass .int, .fieldLink RX8 7 "FourPhasesModel" "state" "[I", .fieldLink RX8 13 "FourPhasesModel" "spare" "[I", .fieldLink RX8 16 "FourPhasesModel" "history" "[I", .fieldLink RX8 19 "FourPhasesModel" "snapshot" "[I", .fieldLink RX8 22 "FourPhasesModel" "text" "[I", .methodLink RX8 25 yX8_clean, .instanceMethod yX8_clean, .selects RX8 yX8_clean yX8_clean, .initialized RX8, .code yX8_clean cX8_clean 4 none] ++ wsX80)
def wsX8_within : List Cond := .code yX8_within cX8_within 3 (some .boolean) :: ([])
def wsX8_isLink : List Cond := .code yX8_isLink cX8_isLink 2 (some .boolean) :: ([.fieldLink RX8 7 "FourPhasesModel" "state" "[I", .methodLink RX8 29 yX8_within, .static yX8_within, .initialized RX8, .code yX8_within cX8_within 3 (some .boolean)] ++ wsX80)
def wsX8_isWire : List Cond := .code yX8_isWire cX8_isWire 1 (some .boolean) :: ([.methodLink RX8 29 yX8_within, .static yX8_within, .initialized RX8, .code yX8_within cX8_within 3 (some .boolean)])
def wsX8_isSender : List Cond := .code yX8_isSender cX8_isSender 1 (some .boolean) :: ([.methodLink RX8 29 yX8_within, .static yX8_within, .initialized RX8, .code yX8_within cX8_within 3 (some .boolean)])
def wsX8_end : List Cond := .code yX8_end cX8_end 3 (some .int) :: ([.fieldLink RX8 7 "FourPhasesModel" "state" "[I"] ++ wsX80)
def wsX8_setEnd : List Cond := .code yX8_setEnd cX8_setEnd 4 none :: ([.fieldLink RX8 7 "FourPhasesModel" "state" "[I"] ++ wsX80)
def wsX8_putAside : List Cond := .code yX8_putAside cX8_putAside 2 none :: ([.fieldLink RX8 13 "FourPhasesModel" "spare" "[I", .fieldLink RX8 7 "FourPhasesModel" "state" "[I"] ++ wsX80)
def wsX8_takeBack : List Cond := .code yX8_takeBack cX8_takeBack 2 none :: ([.fieldLink RX8 7 "FourPhasesModel" "state" "[I", .fieldLink RX8 13 "FourPhasesModel" "spare" "[I"] ++ wsX80)
def wsX8_push : List Cond := .code yX8_push cX8_push 2 none :: ([.fieldLink RX8 33 "FourPhasesModel" "states" "I", .fieldLink RX8 16 "FourPhasesModel" "history" "[I", .fieldLink RX8 13 "FourPhasesModel" "spare" "[I"] ++ wsX80)
def wsX8_record : List Cond := .code yX8_record cX8_record 1 none :: ([.methodLink RX8 37 yX8_putAside, .instanceMethod yX8_putAside, .selects RX8 yX8_putAside yX8_putAside, .initialized RX8, .code yX8_putAside cX8_putAside 2 none, .fieldLink RX8 13 "FourPhasesModel" "spare" "[I", .fieldLink RX8 7 "FourPhasesModel" "state" "[I", .methodLink RX8 40 yX8_push, .instanceMethod yX8_push, .selects RX8 yX8_push yX8_push, .code yX8_push cX8_push 2 none, .fieldLink RX8 33 "FourPhasesModel" "states" "I", .fieldLink RX8 16 "FourPhasesModel" "history" "[I"] ++ wsX80)
def wsX8_undo : List Cond := .code yX8_undo cX8_undo 2 (some .int) :: ([.fieldLink RX8 33 "FourPhasesModel" "states" "I", .fieldLink RX8 7 "FourPhasesModel" "state" "[I", .fieldLink RX8 16 "FourPhasesModel" "history" "[I"] ++ wsX80)
def wsX8_keep : List Cond := .code yX8_keep cX8_keep 2 (some .int) :: ([.fieldLink RX8 19 "FourPhasesModel" "snapshot" "[I", .fieldLink RX8 7 "FourPhasesModel" "state" "[I", .fieldLink RX8 43 "FourPhasesModel" "hasSnapshot" "Z"] ++ wsX80)
def wsX8_restore : List Cond := .code yX8_restore cX8_restore 2 (some .int) :: ([.fieldLink RX8 43 "FourPhasesModel" "hasSnapshot" "Z", .fieldLink RX8 7 "FourPhasesModel" "state" "[I", .fieldLink RX8 19 "FourPhasesModel" "snapshot" "[I", .methodLink RX8 47 yX8_record, .instanceMethod yX8_record, .selects RX8 yX8_record yX8_record, .initialized RX8, .code yX8_record cX8_record 1 none, .methodLink RX8 37 yX8_putAside, .instanceMethod yX8_putAside, .selects RX8 yX8_putAside yX8_putAside, .code yX8_putAside cX8_putAside 2 none, .fieldLink RX8 13 "FourPhasesModel" "spare" "[I", .methodLink RX8 40 yX8_push, .instanceMethod yX8_push, .selects RX8 yX8_push yX8_push, .code yX8_push cX8_push 2 none, .fieldLink RX8 33 "FourPhasesModel" "states" "I", .fieldLink RX8 16 "FourPhasesModel" "history" "[I"] ++ wsX80)
def wsX8_make : List Cond := .code yX8_make cX8_make 6 none :: ([.fieldLink RX8 7 "FourPhasesModel" "state" "[I"] ++ wsX80)
def wsX8_offer : List Cond := .code yX8_offer cX8_offer 3 none :: ([.fieldLink RX8 7 "FourPhasesModel" "state" "[I", .methodLink RX8 50 yX8_setEnd, .instanceMethod yX8_setEnd, .selects RX8 yX8_setEnd yX8_setEnd, .initialized RX8, .code yX8_setEnd cX8_setEnd 4 none, .methodLink RX8 54 yX8_make, .instanceMethod yX8_make, .selects RX8 yX8_make yX8_make, .code yX8_make cX8_make 6 none] ++ wsX80)
def wsX8_answer : List Cond := .code yX8_answer cX8_answer 4 none :: ([.methodLink RX8 50 yX8_setEnd, .instanceMethod yX8_setEnd, .selects RX8 yX8_setEnd yX8_setEnd, .initialized RX8, .code yX8_setEnd cX8_setEnd 4 none, .fieldLink RX8 7 "FourPhasesModel" "state" "[I", .methodLink RX8 54 yX8_make, .instanceMethod yX8_make, .selects RX8 yX8_make yX8_make, .code yX8_make cX8_make 6 none] ++ wsX80)
def wsX8_take : List Cond := .code yX8_take cX8_take 2 none :: ([.fieldLink RX8 7 "FourPhasesModel" "state" "[I", .methodLink RX8 58 yX8_end, .instanceMethod yX8_end, .selects RX8 yX8_end yX8_end, .initialized RX8, .code yX8_end cX8_end 3 (some .int), .methodLink RX8 62 yX8_answer, .instanceMethod yX8_answer, .selects RX8 yX8_answer yX8_answer, .code yX8_answer cX8_answer 4 none, .methodLink RX8 50 yX8_setEnd, .instanceMethod yX8_setEnd, .selects RX8 yX8_setEnd yX8_setEnd, .code yX8_setEnd cX8_setEnd 4 none, .methodLink RX8 54 yX8_make, .instanceMethod yX8_make, .selects RX8 yX8_make yX8_make, .code yX8_make cX8_make 6 none, .methodLink RX8 65 yX8_offer, .instanceMethod yX8_offer, .selects RX8 yX8_offer yX8_offer, .code yX8_offer cX8_offer 3 none] ++ wsX80)
def wsX8_note : List Cond := .code yX8_note cX8_note 4 none :: ([.fieldLink RX8 7 "FourPhasesModel" "state" "[I", .methodLink RX8 58 yX8_end, .instanceMethod yX8_end, .selects RX8 yX8_end yX8_end, .initialized RX8, .code yX8_end cX8_end 3 (some .int), .methodLink RX8 62 yX8_answer, .instanceMethod yX8_answer, .selects RX8 yX8_answer yX8_answer, .code yX8_answer cX8_answer 4 none, .methodLink RX8 50 yX8_setEnd, .instanceMethod yX8_setEnd, .selects RX8 yX8_setEnd yX8_setEnd, .code yX8_setEnd cX8_setEnd 4 none, .methodLink RX8 54 yX8_make, .instanceMethod yX8_make, .selects RX8 yX8_make yX8_make, .code yX8_make cX8_make 6 none] ++ wsX80)
def wsX8_letGo : List Cond := .code yX8_letGo cX8_letGo 8 none :: ([.fieldLink RX8 7 "FourPhasesModel" "state" "[I", .methodLink RX8 65 yX8_offer, .instanceMethod yX8_offer, .selects RX8 yX8_offer yX8_offer, .initialized RX8, .code yX8_offer cX8_offer 3 none, .methodLink RX8 50 yX8_setEnd, .instanceMethod yX8_setEnd, .selects RX8 yX8_setEnd yX8_setEnd, .code yX8_setEnd cX8_setEnd 4 none, .methodLink RX8 54 yX8_make, .instanceMethod yX8_make, .selects RX8 yX8_make yX8_make, .code yX8_make cX8_make 6 none] ++ wsX80)
def wsX8_requestArrives_r1 : List Cond := [Cond.fieldLink RX8 7 "FourPhasesModel" "state" "[I", Cond.methodLink RX8 50 yX8_setEnd, Cond.instanceMethod yX8_setEnd, Cond.selects RX8 yX8_setEnd yX8_setEnd, Cond.initialized RX8, Cond.code yX8_setEnd cX8_setEnd 4 none, Cond.methodLink RX8 62 yX8_answer, Cond.instanceMethod yX8_answer, Cond.selects RX8 yX8_answer yX8_answer, Cond.code yX8_answer cX8_answer 4 none, Cond.methodLink RX8 54 yX8_make, Cond.instanceMethod yX8_make, Cond.selects RX8 yX8_make yX8_make, Cond.code yX8_make cX8_make 6 none, Cond.methodLink RX8 69 yX8_note, Cond.instanceMethod yX8_note, Cond.selects RX8 yX8_note yX8_note, Cond.code yX8_note cX8_note 4 none, Cond.methodLink RX8 58 yX8_end, Cond.instanceMethod yX8_end, Cond.selects RX8 yX8_end yX8_end, Cond.code yX8_end cX8_end 3 (some .int), Cond.methodLink RX8 72 yX8_take, Cond.instanceMethod yX8_take]
def wsX8_requestArrives_r2 : List Cond := [Cond.selects RX8 yX8_take yX8_take, Cond.code yX8_take cX8_take 2 none, Cond.methodLink RX8 65 yX8_offer, Cond.instanceMethod yX8_offer, Cond.selects RX8 yX8_offer yX8_offer, Cond.code yX8_offer cX8_offer 3 none]
def wsX8_requestArrives : List Cond := .code yX8_requestArrives cX8_requestArrives 3 none :: ((wsX8_requestArrives_r1 ++ wsX8_requestArrives_r2) ++ wsX80)
def wsX8_answerArrives_r1 : List Cond := [Cond.fieldLink RX8 7 "FourPhasesModel" "state" "[I", Cond.methodLink RX8 50 yX8_setEnd, Cond.instanceMethod yX8_setEnd, Cond.selects RX8 yX8_setEnd yX8_setEnd, Cond.initialized RX8, Cond.code yX8_setEnd cX8_setEnd 4 none, Cond.methodLink RX8 54 yX8_make, Cond.instanceMethod yX8_make, Cond.selects RX8 yX8_make yX8_make, Cond.code yX8_make cX8_make 6 none, Cond.methodLink RX8 72 yX8_take, Cond.instanceMethod yX8_take, Cond.selects RX8 yX8_take yX8_take, Cond.code yX8_take cX8_take 2 none, Cond.methodLink RX8 58 yX8_end, Cond.instanceMethod yX8_end, Cond.selects RX8 yX8_end yX8_end, Cond.code yX8_end cX8_end 3 (some .int), Cond.methodLink RX8 62 yX8_answer, Cond.instanceMethod yX8_answer, Cond.selects RX8 yX8_answer yX8_answer, Cond.code yX8_answer cX8_answer 4 none, Cond.methodLink RX8 65 yX8_offer, Cond.instanceMethod yX8_offer]
def wsX8_answerArrives_r2 : List Cond := [Cond.selects RX8 yX8_offer yX8_offer, Cond.code yX8_offer cX8_offer 3 none, Cond.methodLink RX8 75 yX8_letGo, Cond.instanceMethod yX8_letGo, Cond.selects RX8 yX8_letGo yX8_letGo, Cond.code yX8_letGo cX8_letGo 8 none]
def wsX8_answerArrives : List Cond := .code yX8_answerArrives cX8_answerArrives 3 none :: ((wsX8_answerArrives_r1 ++ wsX8_answerArrives_r2) ++ wsX80)
def wsX8_whenOf : List Cond := .code yX8_whenOf cX8_whenOf 2 (some .int) :: ([.fieldLink RX8 7 "FourPhasesModel" "state" "[I"] ++ wsX80)
def wsX8_nextChange : List Cond := .code yX8_nextChange cX8_nextChange 3 (some .int) :: ([.fieldLink RX8 7 "FourPhasesModel" "state" "[I", .methodLink RX8 78 yX8_whenOf, .instanceMethod yX8_whenOf, .selects RX8 yX8_whenOf yX8_whenOf, .initialized RX8, .code yX8_whenOf cX8_whenOf 2 (some .int)] ++ wsX80)
def wsX8_arrive_r1 : List Cond := [Cond.fieldLink RX8 7 "FourPhasesModel" "state" "[I", Cond.methodLink RX8 82 yX8_requestArrives, Cond.instanceMethod yX8_requestArrives, Cond.selects RX8 yX8_requestArrives yX8_requestArrives, Cond.initialized RX8, Cond.code yX8_requestArrives cX8_requestArrives 3 none, Cond.methodLink RX8 50 yX8_setEnd, Cond.instanceMethod yX8_setEnd, Cond.selects RX8 yX8_setEnd yX8_setEnd, Cond.code yX8_setEnd cX8_setEnd 4 none, Cond.methodLink RX8 62 yX8_answer, Cond.instanceMethod yX8_answer, Cond.selects RX8 yX8_answer yX8_answer, Cond.code yX8_answer cX8_answer 4 none, Cond.methodLink RX8 54 yX8_make, Cond.instanceMethod yX8_make, Cond.selects RX8 yX8_make yX8_make, Cond.code yX8_make cX8_make 6 none, Cond.methodLink RX8 69 yX8_note, Cond.instanceMethod yX8_note, Cond.selects RX8 yX8_note yX8_note, Cond.code yX8_note cX8_note 4 none, Cond.methodLink RX8 58 yX8_end, Cond.instanceMethod yX8_end]
def wsX8_arrive_r2 : List Cond := [Cond.selects RX8 yX8_end yX8_end, Cond.code yX8_end cX8_end 3 (some .int), Cond.methodLink RX8 72 yX8_take, Cond.instanceMethod yX8_take, Cond.selects RX8 yX8_take yX8_take, Cond.code yX8_take cX8_take 2 none, Cond.methodLink RX8 65 yX8_offer, Cond.instanceMethod yX8_offer, Cond.selects RX8 yX8_offer yX8_offer, Cond.code yX8_offer cX8_offer 3 none, Cond.methodLink RX8 85 yX8_answerArrives, Cond.instanceMethod yX8_answerArrives, Cond.selects RX8 yX8_answerArrives yX8_answerArrives, Cond.code yX8_answerArrives cX8_answerArrives 3 none, Cond.methodLink RX8 75 yX8_letGo, Cond.instanceMethod yX8_letGo, Cond.selects RX8 yX8_letGo yX8_letGo, Cond.code yX8_letGo cX8_letGo 8 none]
def wsX8_arrive : List Cond := .code yX8_arrive cX8_arrive 7 none :: ((wsX8_arrive_r1 ++ wsX8_arrive_r2) ++ wsX80)
def wsX8_goTo_r1 : List Cond := [Cond.fieldLink RX8 7 "FourPhasesModel" "state" "[I", Cond.methodLink RX8 88 yX8_nextChange, Cond.instanceMethod yX8_nextChange, Cond.selects RX8 yX8_nextChange yX8_nextChange, Cond.initialized RX8, Cond.code yX8_nextChange cX8_nextChange 3 (some .int), Cond.methodLink RX8 78 yX8_whenOf, Cond.instanceMethod yX8_whenOf, Cond.selects RX8 yX8_whenOf yX8_whenOf, Cond.code yX8_whenOf cX8_whenOf 2 (some .int), Cond.methodLink RX8 92 yX8_arrive, Cond.instanceMethod yX8_arrive, Cond.selects RX8 yX8_arrive yX8_arrive, Cond.code yX8_arrive cX8_arrive 7 none, Cond.methodLink RX8 82 yX8_requestArrives, Cond.instanceMethod yX8_requestArrives, Cond.selects RX8 yX8_requestArrives yX8_requestArrives, Cond.code yX8_requestArrives cX8_requestArrives 3 none, Cond.methodLink RX8 50 yX8_setEnd, Cond.instanceMethod yX8_setEnd, Cond.selects RX8 yX8_setEnd yX8_setEnd, Cond.code yX8_setEnd cX8_setEnd 4 none, Cond.methodLink RX8 62 yX8_answer, Cond.instanceMethod yX8_answer]
def wsX8_goTo_r2 : List Cond := [Cond.selects RX8 yX8_answer yX8_answer, Cond.code yX8_answer cX8_answer 4 none, Cond.methodLink RX8 54 yX8_make, Cond.instanceMethod yX8_make, Cond.selects RX8 yX8_make yX8_make, Cond.code yX8_make cX8_make 6 none, Cond.methodLink RX8 69 yX8_note, Cond.instanceMethod yX8_note, Cond.selects RX8 yX8_note yX8_note, Cond.code yX8_note cX8_note 4 none, Cond.methodLink RX8 58 yX8_end, Cond.instanceMethod yX8_end, Cond.selects RX8 yX8_end yX8_end, Cond.code yX8_end cX8_end 3 (some .int), Cond.methodLink RX8 72 yX8_take, Cond.instanceMethod yX8_take, Cond.selects RX8 yX8_take yX8_take, Cond.code yX8_take cX8_take 2 none, Cond.methodLink RX8 65 yX8_offer, Cond.instanceMethod yX8_offer, Cond.selects RX8 yX8_offer yX8_offer, Cond.code yX8_offer cX8_offer 3 none, Cond.methodLink RX8 85 yX8_answerArrives, Cond.instanceMethod yX8_answerArrives]
def wsX8_goTo_r3 : List Cond := [Cond.selects RX8 yX8_answerArrives yX8_answerArrives, Cond.code yX8_answerArrives cX8_answerArrives 3 none, Cond.methodLink RX8 75 yX8_letGo, Cond.instanceMethod yX8_letGo, Cond.selects RX8 yX8_letGo yX8_letGo, Cond.code yX8_letGo cX8_letGo 8 none]
def wsX8_goTo : List Cond := .code yX8_goTo cX8_goTo 3 none :: ((wsX8_goTo_r1 ++ (wsX8_goTo_r2 ++ wsX8_goTo_r3)) ++ wsX80)
def wsX8_settle_r1 : List Cond := [Cond.fieldLink RX8 7 "FourPhasesModel" "state" "[I", Cond.methodLink RX8 88 yX8_nextChange, Cond.instanceMethod yX8_nextChange, Cond.selects RX8 yX8_nextChange yX8_nextChange, Cond.initialized RX8, Cond.code yX8_nextChange cX8_nextChange 3 (some .int), Cond.methodLink RX8 78 yX8_whenOf, Cond.instanceMethod yX8_whenOf, Cond.selects RX8 yX8_whenOf yX8_whenOf, Cond.code yX8_whenOf cX8_whenOf 2 (some .int), Cond.methodLink RX8 92 yX8_arrive, Cond.instanceMethod yX8_arrive, Cond.selects RX8 yX8_arrive yX8_arrive, Cond.code yX8_arrive cX8_arrive 7 none, Cond.methodLink RX8 82 yX8_requestArrives, Cond.instanceMethod yX8_requestArrives, Cond.selects RX8 yX8_requestArrives yX8_requestArrives, Cond.code yX8_requestArrives cX8_requestArrives 3 none, Cond.methodLink RX8 50 yX8_setEnd, Cond.instanceMethod yX8_setEnd, Cond.selects RX8 yX8_setEnd yX8_setEnd, Cond.code yX8_setEnd cX8_setEnd 4 none, Cond.methodLink RX8 62 yX8_answer, Cond.instanceMethod yX8_answer]
def wsX8_settle_r2 : List Cond := [Cond.selects RX8 yX8_answer yX8_answer, Cond.code yX8_answer cX8_answer 4 none, Cond.methodLink RX8 54 yX8_make, Cond.instanceMethod yX8_make, Cond.selects RX8 yX8_make yX8_make, Cond.code yX8_make cX8_make 6 none, Cond.methodLink RX8 69 yX8_note, Cond.instanceMethod yX8_note, Cond.selects RX8 yX8_note yX8_note, Cond.code yX8_note cX8_note 4 none, Cond.methodLink RX8 58 yX8_end, Cond.instanceMethod yX8_end, Cond.selects RX8 yX8_end yX8_end, Cond.code yX8_end cX8_end 3 (some .int), Cond.methodLink RX8 72 yX8_take, Cond.instanceMethod yX8_take, Cond.selects RX8 yX8_take yX8_take, Cond.code yX8_take cX8_take 2 none, Cond.methodLink RX8 65 yX8_offer, Cond.instanceMethod yX8_offer, Cond.selects RX8 yX8_offer yX8_offer, Cond.code yX8_offer cX8_offer 3 none, Cond.methodLink RX8 85 yX8_answerArrives, Cond.instanceMethod yX8_answerArrives]
def wsX8_settle_r3 : List Cond := [Cond.selects RX8 yX8_answerArrives yX8_answerArrives, Cond.code yX8_answerArrives cX8_answerArrives 3 none, Cond.methodLink RX8 75 yX8_letGo, Cond.instanceMethod yX8_letGo, Cond.selects RX8 yX8_letGo yX8_letGo, Cond.code yX8_letGo cX8_letGo 8 none]
def wsX8_settle : List Cond := .code yX8_settle cX8_settle 3 (some .int) :: ((wsX8_settle_r1 ++ (wsX8_settle_r2 ++ wsX8_settle_r3)) ++ wsX80)
def wsX8_adds : List Cond := .code yX8_adds cX8_adds 3 (some .int) :: ([.fieldLink RX8 7 "FourPhasesModel" "state" "[I", .methodLink RX8 95 yX8_isSender, .static yX8_isSender, .initialized RX8, .code yX8_isSender cX8_isSender 1 (some .boolean), .methodLink RX8 29 yX8_within, .static yX8_within, .code yX8_within cX8_within 3 (some .boolean), .methodLink RX8 75 yX8_letGo, .instanceMethod yX8_letGo, .selects RX8 yX8_letGo yX8_letGo, .code yX8_letGo cX8_letGo 8 none, .methodLink RX8 65 yX8_offer, .instanceMethod yX8_offer, .selects RX8 yX8_offer yX8_offer, .code yX8_offer cX8_offer 3 none, .methodLink RX8 50 yX8_setEnd, .instanceMethod yX8_setEnd, .selects RX8 yX8_setEnd yX8_setEnd, .code yX8_setEnd cX8_setEnd 4 none, .methodLink RX8 54 yX8_make, .instanceMethod yX8_make, .selects RX8 yX8_make yX8_make, .code yX8_make cX8_make 6 none] ++ wsX80)
def wsX8_runs_r1 : List Cond := [Cond.fieldLink RX8 7 "FourPhasesModel" "state" "[I", Cond.constant RX8 99 (1000000), Cond.methodLink RX8 29 yX8_within, Cond.static yX8_within, Cond.initialized RX8, Cond.code yX8_within cX8_within 3 (some .boolean), Cond.methodLink RX8 100 yX8_goTo, Cond.instanceMethod yX8_goTo, Cond.selects RX8 yX8_goTo yX8_goTo, Cond.code yX8_goTo cX8_goTo 3 none, Cond.methodLink RX8 88 yX8_nextChange, Cond.instanceMethod yX8_nextChange, Cond.selects RX8 yX8_nextChange yX8_nextChange, Cond.code yX8_nextChange cX8_nextChange 3 (some .int), Cond.methodLink RX8 78 yX8_whenOf, Cond.instanceMethod yX8_whenOf, Cond.selects RX8 yX8_whenOf yX8_whenOf, Cond.code yX8_whenOf cX8_whenOf 2 (some .int), Cond.methodLink RX8 92 yX8_arrive, Cond.instanceMethod yX8_arrive, Cond.selects RX8 yX8_arrive yX8_arrive, Cond.code yX8_arrive cX8_arrive 7 none, Cond.methodLink RX8 82 yX8_requestArrives, Cond.instanceMethod yX8_requestArrives]
def wsX8_runs_r2 : List Cond := [Cond.selects RX8 yX8_requestArrives yX8_requestArrives, Cond.code yX8_requestArrives cX8_requestArrives 3 none, Cond.methodLink RX8 50 yX8_setEnd, Cond.instanceMethod yX8_setEnd, Cond.selects RX8 yX8_setEnd yX8_setEnd, Cond.code yX8_setEnd cX8_setEnd 4 none, Cond.methodLink RX8 62 yX8_answer, Cond.instanceMethod yX8_answer, Cond.selects RX8 yX8_answer yX8_answer, Cond.code yX8_answer cX8_answer 4 none, Cond.methodLink RX8 54 yX8_make, Cond.instanceMethod yX8_make, Cond.selects RX8 yX8_make yX8_make, Cond.code yX8_make cX8_make 6 none, Cond.methodLink RX8 69 yX8_note, Cond.instanceMethod yX8_note, Cond.selects RX8 yX8_note yX8_note, Cond.code yX8_note cX8_note 4 none, Cond.methodLink RX8 58 yX8_end, Cond.instanceMethod yX8_end, Cond.selects RX8 yX8_end yX8_end, Cond.code yX8_end cX8_end 3 (some .int), Cond.methodLink RX8 72 yX8_take, Cond.instanceMethod yX8_take]
def wsX8_runs_r3 : List Cond := [Cond.selects RX8 yX8_take yX8_take, Cond.code yX8_take cX8_take 2 none, Cond.methodLink RX8 65 yX8_offer, Cond.instanceMethod yX8_offer, Cond.selects RX8 yX8_offer yX8_offer, Cond.code yX8_offer cX8_offer 3 none, Cond.methodLink RX8 85 yX8_answerArrives, Cond.instanceMethod yX8_answerArrives, Cond.selects RX8 yX8_answerArrives yX8_answerArrives, Cond.code yX8_answerArrives cX8_answerArrives 3 none, Cond.methodLink RX8 75 yX8_letGo, Cond.instanceMethod yX8_letGo, Cond.selects RX8 yX8_letGo yX8_letGo, Cond.code yX8_letGo cX8_letGo 8 none]
def wsX8_runs : List Cond := .code yX8_runs cX8_runs 3 (some .int) :: ((wsX8_runs_r1 ++ (wsX8_runs_r2 ++ wsX8_runs_r3)) ++ wsX80)
def wsX8_setsDelay : List Cond := .code yX8_setsDelay cX8_setsDelay 6 (some .int) :: ([.fieldLink RX8 7 "FourPhasesModel" "state" "[I", .methodLink RX8 103 yX8_isLink, .instanceMethod yX8_isLink, .selects RX8 yX8_isLink yX8_isLink, .initialized RX8, .code yX8_isLink cX8_isLink 2 (some .boolean), .methodLink RX8 29 yX8_within, .static yX8_within, .code yX8_within cX8_within 3 (some .boolean), .methodLink RX8 106 yX8_isWire, .static yX8_isWire, .code yX8_isWire cX8_isWire 1 (some .boolean)] ++ wsX80)
def wsX8_fullStages : List Cond := .code yX8_fullStages cX8_fullStages 3 (some .int) :: ([.fieldLink RX8 7 "FourPhasesModel" "state" "[I"] ++ wsX80)
def wsX8_build_r1 : List Cond := [Cond.fieldLink RX8 7 "FourPhasesModel" "state" "[I", Cond.methodLink RX8 29 yX8_within, Cond.static yX8_within, Cond.initialized RX8, Cond.code yX8_within cX8_within 3 (some .boolean), Cond.methodLink RX8 47 yX8_record, Cond.instanceMethod yX8_record, Cond.selects RX8 yX8_record yX8_record, Cond.code yX8_record cX8_record 1 none, Cond.methodLink RX8 37 yX8_putAside, Cond.instanceMethod yX8_putAside, Cond.selects RX8 yX8_putAside yX8_putAside, Cond.code yX8_putAside cX8_putAside 2 none, Cond.fieldLink RX8 13 "FourPhasesModel" "spare" "[I", Cond.methodLink RX8 40 yX8_push, Cond.instanceMethod yX8_push, Cond.selects RX8 yX8_push yX8_push, Cond.code yX8_push cX8_push 2 none, Cond.fieldLink RX8 33 "FourPhasesModel" "states" "I", Cond.fieldLink RX8 16 "FourPhasesModel" "history" "[I", Cond.methodLink RX8 109 yX8_fullStages, Cond.instanceMethod yX8_fullStages, Cond.selects RX8 yX8_fullStages yX8_fullStages, Cond.code yX8_fullStages cX8_fullStages 3 (some .int)]
def wsX8_build_r2 : List Cond := [Cond.methodLink RX8 25 yX8_clean, Cond.instanceMethod yX8_clean, Cond.selects RX8 yX8_clean yX8_clean, Cond.code yX8_clean cX8_clean 4 none]
def wsX8_build : List Cond := .code yX8_build cX8_build 3 (some .int) :: ((wsX8_build_r1 ++ wsX8_build_r2) ++ wsX80)
def wsX8_recorded : List Cond := .code yX8_recorded cX8_recorded 2 (some .int) :: ([.methodLink RX8 40 yX8_push, .instanceMethod yX8_push, .selects RX8 yX8_push yX8_push, .initialized RX8, .code yX8_push cX8_push 2 none, .fieldLink RX8 33 "FourPhasesModel" "states" "I", .fieldLink RX8 16 "FourPhasesModel" "history" "[I", .fieldLink RX8 13 "FourPhasesModel" "spare" "[I"] ++ wsX80)
def wsX8_add_r1 : List Cond := [Cond.methodLink RX8 37 yX8_putAside, Cond.instanceMethod yX8_putAside, Cond.selects RX8 yX8_putAside yX8_putAside, Cond.initialized RX8, Cond.code yX8_putAside cX8_putAside 2 none, Cond.fieldLink RX8 13 "FourPhasesModel" "spare" "[I", Cond.fieldLink RX8 7 "FourPhasesModel" "state" "[I", Cond.methodLink RX8 112 yX8_adds, Cond.instanceMethod yX8_adds, Cond.selects RX8 yX8_adds yX8_adds, Cond.code yX8_adds cX8_adds 3 (some .int), Cond.methodLink RX8 95 yX8_isSender, Cond.static yX8_isSender, Cond.code yX8_isSender cX8_isSender 1 (some .boolean), Cond.methodLink RX8 29 yX8_within, Cond.static yX8_within, Cond.code yX8_within cX8_within 3 (some .boolean), Cond.methodLink RX8 75 yX8_letGo, Cond.instanceMethod yX8_letGo, Cond.selects RX8 yX8_letGo yX8_letGo, Cond.code yX8_letGo cX8_letGo 8 none, Cond.methodLink RX8 65 yX8_offer, Cond.instanceMethod yX8_offer, Cond.selects RX8 yX8_offer yX8_offer]
def wsX8_add_r2 : List Cond := [Cond.code yX8_offer cX8_offer 3 none, Cond.methodLink RX8 50 yX8_setEnd, Cond.instanceMethod yX8_setEnd, Cond.selects RX8 yX8_setEnd yX8_setEnd, Cond.code yX8_setEnd cX8_setEnd 4 none, Cond.methodLink RX8 54 yX8_make, Cond.instanceMethod yX8_make, Cond.selects RX8 yX8_make yX8_make, Cond.code yX8_make cX8_make 6 none, Cond.methodLink RX8 115 yX8_recorded, Cond.instanceMethod yX8_recorded, Cond.selects RX8 yX8_recorded yX8_recorded, Cond.code yX8_recorded cX8_recorded 2 (some .int), Cond.methodLink RX8 40 yX8_push, Cond.instanceMethod yX8_push, Cond.selects RX8 yX8_push yX8_push, Cond.code yX8_push cX8_push 2 none, Cond.fieldLink RX8 33 "FourPhasesModel" "states" "I", Cond.fieldLink RX8 16 "FourPhasesModel" "history" "[I"]
def wsX8_add : List Cond := .code yX8_add cX8_add 3 (some .int) :: ((wsX8_add_r1 ++ wsX8_add_r2) ++ wsX80)
def wsX8_run_r1 : List Cond := [Cond.methodLink RX8 37 yX8_putAside, Cond.instanceMethod yX8_putAside, Cond.selects RX8 yX8_putAside yX8_putAside, Cond.initialized RX8, Cond.code yX8_putAside cX8_putAside 2 none, Cond.fieldLink RX8 13 "FourPhasesModel" "spare" "[I", Cond.fieldLink RX8 7 "FourPhasesModel" "state" "[I", Cond.methodLink RX8 118 yX8_runs, Cond.instanceMethod yX8_runs, Cond.selects RX8 yX8_runs yX8_runs, Cond.code yX8_runs cX8_runs 3 (some .int), Cond.constant RX8 99 (1000000), Cond.methodLink RX8 29 yX8_within, Cond.static yX8_within, Cond.code yX8_within cX8_within 3 (some .boolean), Cond.methodLink RX8 100 yX8_goTo, Cond.instanceMethod yX8_goTo, Cond.selects RX8 yX8_goTo yX8_goTo, Cond.code yX8_goTo cX8_goTo 3 none, Cond.methodLink RX8 88 yX8_nextChange, Cond.instanceMethod yX8_nextChange, Cond.selects RX8 yX8_nextChange yX8_nextChange, Cond.code yX8_nextChange cX8_nextChange 3 (some .int), Cond.methodLink RX8 78 yX8_whenOf]
def wsX8_run_r2 : List Cond := [Cond.instanceMethod yX8_whenOf, Cond.selects RX8 yX8_whenOf yX8_whenOf, Cond.code yX8_whenOf cX8_whenOf 2 (some .int), Cond.methodLink RX8 92 yX8_arrive, Cond.instanceMethod yX8_arrive, Cond.selects RX8 yX8_arrive yX8_arrive, Cond.code yX8_arrive cX8_arrive 7 none, Cond.methodLink RX8 82 yX8_requestArrives, Cond.instanceMethod yX8_requestArrives, Cond.selects RX8 yX8_requestArrives yX8_requestArrives, Cond.code yX8_requestArrives cX8_requestArrives 3 none, Cond.methodLink RX8 50 yX8_setEnd, Cond.instanceMethod yX8_setEnd, Cond.selects RX8 yX8_setEnd yX8_setEnd, Cond.code yX8_setEnd cX8_setEnd 4 none, Cond.methodLink RX8 62 yX8_answer, Cond.instanceMethod yX8_answer, Cond.selects RX8 yX8_answer yX8_answer, Cond.code yX8_answer cX8_answer 4 none, Cond.methodLink RX8 54 yX8_make, Cond.instanceMethod yX8_make, Cond.selects RX8 yX8_make yX8_make, Cond.code yX8_make cX8_make 6 none, Cond.methodLink RX8 69 yX8_note]
def wsX8_run_r3 : List Cond := [Cond.instanceMethod yX8_note, Cond.selects RX8 yX8_note yX8_note, Cond.code yX8_note cX8_note 4 none, Cond.methodLink RX8 58 yX8_end, Cond.instanceMethod yX8_end, Cond.selects RX8 yX8_end yX8_end, Cond.code yX8_end cX8_end 3 (some .int), Cond.methodLink RX8 72 yX8_take, Cond.instanceMethod yX8_take, Cond.selects RX8 yX8_take yX8_take, Cond.code yX8_take cX8_take 2 none, Cond.methodLink RX8 65 yX8_offer, Cond.instanceMethod yX8_offer, Cond.selects RX8 yX8_offer yX8_offer, Cond.code yX8_offer cX8_offer 3 none, Cond.methodLink RX8 85 yX8_answerArrives, Cond.instanceMethod yX8_answerArrives, Cond.selects RX8 yX8_answerArrives yX8_answerArrives, Cond.code yX8_answerArrives cX8_answerArrives 3 none, Cond.methodLink RX8 75 yX8_letGo, Cond.instanceMethod yX8_letGo, Cond.selects RX8 yX8_letGo yX8_letGo, Cond.code yX8_letGo cX8_letGo 8 none, Cond.methodLink RX8 115 yX8_recorded]
def wsX8_run_r4 : List Cond := [Cond.instanceMethod yX8_recorded, Cond.selects RX8 yX8_recorded yX8_recorded, Cond.code yX8_recorded cX8_recorded 2 (some .int), Cond.methodLink RX8 40 yX8_push, Cond.instanceMethod yX8_push, Cond.selects RX8 yX8_push yX8_push, Cond.code yX8_push cX8_push 2 none, Cond.fieldLink RX8 33 "FourPhasesModel" "states" "I", Cond.fieldLink RX8 16 "FourPhasesModel" "history" "[I"]
def wsX8_run : List Cond := .code yX8_run cX8_run 2 (some .int) :: ((wsX8_run_r1 ++ (wsX8_run_r2 ++ (wsX8_run_r3 ++ wsX8_run_r4))) ++ wsX80)
def wsX8_finish_r1 : List Cond := [Cond.fieldLink RX8 7 "FourPhasesModel" "state" "[I", Cond.constant RX8 99 (1000000), Cond.methodLink RX8 37 yX8_putAside, Cond.instanceMethod yX8_putAside, Cond.selects RX8 yX8_putAside yX8_putAside, Cond.initialized RX8, Cond.code yX8_putAside cX8_putAside 2 none, Cond.fieldLink RX8 13 "FourPhasesModel" "spare" "[I", Cond.methodLink RX8 121 yX8_settle, Cond.instanceMethod yX8_settle, Cond.selects RX8 yX8_settle yX8_settle, Cond.code yX8_settle cX8_settle 3 (some .int), Cond.methodLink RX8 88 yX8_nextChange, Cond.instanceMethod yX8_nextChange, Cond.selects RX8 yX8_nextChange yX8_nextChange, Cond.code yX8_nextChange cX8_nextChange 3 (some .int), Cond.methodLink RX8 78 yX8_whenOf, Cond.instanceMethod yX8_whenOf, Cond.selects RX8 yX8_whenOf yX8_whenOf, Cond.code yX8_whenOf cX8_whenOf 2 (some .int), Cond.methodLink RX8 92 yX8_arrive, Cond.instanceMethod yX8_arrive, Cond.selects RX8 yX8_arrive yX8_arrive, Cond.code yX8_arrive cX8_arrive 7 none]
def wsX8_finish_r2 : List Cond := [Cond.methodLink RX8 82 yX8_requestArrives, Cond.instanceMethod yX8_requestArrives, Cond.selects RX8 yX8_requestArrives yX8_requestArrives, Cond.code yX8_requestArrives cX8_requestArrives 3 none, Cond.methodLink RX8 50 yX8_setEnd, Cond.instanceMethod yX8_setEnd, Cond.selects RX8 yX8_setEnd yX8_setEnd, Cond.code yX8_setEnd cX8_setEnd 4 none, Cond.methodLink RX8 62 yX8_answer, Cond.instanceMethod yX8_answer, Cond.selects RX8 yX8_answer yX8_answer, Cond.code yX8_answer cX8_answer 4 none, Cond.methodLink RX8 54 yX8_make, Cond.instanceMethod yX8_make, Cond.selects RX8 yX8_make yX8_make, Cond.code yX8_make cX8_make 6 none, Cond.methodLink RX8 69 yX8_note, Cond.instanceMethod yX8_note, Cond.selects RX8 yX8_note yX8_note, Cond.code yX8_note cX8_note 4 none, Cond.methodLink RX8 58 yX8_end, Cond.instanceMethod yX8_end, Cond.selects RX8 yX8_end yX8_end, Cond.code yX8_end cX8_end 3 (some .int)]
def wsX8_finish_r3 : List Cond := [Cond.methodLink RX8 72 yX8_take, Cond.instanceMethod yX8_take, Cond.selects RX8 yX8_take yX8_take, Cond.code yX8_take cX8_take 2 none, Cond.methodLink RX8 65 yX8_offer, Cond.instanceMethod yX8_offer, Cond.selects RX8 yX8_offer yX8_offer, Cond.code yX8_offer cX8_offer 3 none, Cond.methodLink RX8 85 yX8_answerArrives, Cond.instanceMethod yX8_answerArrives, Cond.selects RX8 yX8_answerArrives yX8_answerArrives, Cond.code yX8_answerArrives cX8_answerArrives 3 none, Cond.methodLink RX8 75 yX8_letGo, Cond.instanceMethod yX8_letGo, Cond.selects RX8 yX8_letGo yX8_letGo, Cond.code yX8_letGo cX8_letGo 8 none, Cond.methodLink RX8 124 yX8_takeBack, Cond.instanceMethod yX8_takeBack, Cond.selects RX8 yX8_takeBack yX8_takeBack, Cond.code yX8_takeBack cX8_takeBack 2 none, Cond.methodLink RX8 40 yX8_push, Cond.instanceMethod yX8_push, Cond.selects RX8 yX8_push yX8_push, Cond.code yX8_push cX8_push 2 none]
def wsX8_finish_r4 : List Cond := [Cond.fieldLink RX8 33 "FourPhasesModel" "states" "I", Cond.fieldLink RX8 16 "FourPhasesModel" "history" "[I"]
def wsX8_finish : List Cond := .code yX8_finish cX8_finish 2 (some .int) :: ((wsX8_finish_r1 ++ (wsX8_finish_r2 ++ (wsX8_finish_r3 ++ wsX8_finish_r4))) ++ wsX80)
def wsX8_setDelay_r1 : List Cond := [Cond.methodLink RX8 37 yX8_putAside, Cond.instanceMethod yX8_putAside, Cond.selects RX8 yX8_putAside yX8_putAside, Cond.initialized RX8, Cond.code yX8_putAside cX8_putAside 2 none, Cond.fieldLink RX8 13 "FourPhasesModel" "spare" "[I", Cond.fieldLink RX8 7 "FourPhasesModel" "state" "[I", Cond.methodLink RX8 127 yX8_setsDelay, Cond.instanceMethod yX8_setsDelay, Cond.selects RX8 yX8_setsDelay yX8_setsDelay, Cond.code yX8_setsDelay cX8_setsDelay 6 (some .int), Cond.methodLink RX8 103 yX8_isLink, Cond.instanceMethod yX8_isLink, Cond.selects RX8 yX8_isLink yX8_isLink, Cond.code yX8_isLink cX8_isLink 2 (some .boolean), Cond.methodLink RX8 29 yX8_within, Cond.static yX8_within, Cond.code yX8_within cX8_within 3 (some .boolean), Cond.methodLink RX8 106 yX8_isWire, Cond.static yX8_isWire, Cond.code yX8_isWire cX8_isWire 1 (some .boolean), Cond.methodLink RX8 115 yX8_recorded, Cond.instanceMethod yX8_recorded, Cond.selects RX8 yX8_recorded yX8_recorded]
def wsX8_setDelay_r2 : List Cond := [Cond.code yX8_recorded cX8_recorded 2 (some .int), Cond.methodLink RX8 40 yX8_push, Cond.instanceMethod yX8_push, Cond.selects RX8 yX8_push yX8_push, Cond.code yX8_push cX8_push 2 none, Cond.fieldLink RX8 33 "FourPhasesModel" "states" "I", Cond.fieldLink RX8 16 "FourPhasesModel" "history" "[I"]
def wsX8_setDelay : List Cond := .code yX8_setDelay cX8_setDelay 4 (some .int) :: ((wsX8_setDelay_r1 ++ wsX8_setDelay_r2) ++ wsX80)
def wsX8_set : List Cond := .code yX8_set cX8_set 4 (some .int) :: ([.fieldLink RX8 7 "FourPhasesModel" "state" "[I", .methodLink RX8 29 yX8_within, .static yX8_within, .initialized RX8, .code yX8_within cX8_within 3 (some .boolean), .methodLink RX8 47 yX8_record, .instanceMethod yX8_record, .selects RX8 yX8_record yX8_record, .code yX8_record cX8_record 1 none, .methodLink RX8 37 yX8_putAside, .instanceMethod yX8_putAside, .selects RX8 yX8_putAside yX8_putAside, .code yX8_putAside cX8_putAside 2 none, .fieldLink RX8 13 "FourPhasesModel" "spare" "[I", .methodLink RX8 40 yX8_push, .instanceMethod yX8_push, .selects RX8 yX8_push yX8_push, .code yX8_push cX8_push 2 none, .fieldLink RX8 33 "FourPhasesModel" "states" "I", .fieldLink RX8 16 "FourPhasesModel" "history" "[I"] ++ wsX80)
def wsX8_type : List Cond := .code yX8_type cX8_type 2 (some .int) :: ([.fieldLink RX8 131 "FourPhasesModel" "length" "I", .fieldLink RX8 22 "FourPhasesModel" "text" "[I"] ++ wsX80)
def wsX8_clearText : List Cond := .code yX8_clearText cX8_clearText 2 (some .int) :: ([.fieldLink RX8 131 "FourPhasesModel" "length" "I"] ++ wsX80)
def wsX8_code : List Cond := .code yX8_code cX8_code 1 (some .int) :: ([.fieldLink RX8 134 "FourPhasesModel" "at" "I", .fieldLink RX8 131 "FourPhasesModel" "length" "I", .fieldLink RX8 22 "FourPhasesModel" "text" "[I"] ++ wsX80)
def wsX8_hex : List Cond := .code yX8_hex cX8_hex 1 (some .int) :: ([.methodLink RX8 29 yX8_within, .static yX8_within, .initialized RX8, .code yX8_within cX8_within 3 (some .boolean)])
def wsX8_readsNumber : List Cond := .code yX8_readsNumber cX8_readsNumber 3 (some .boolean) :: ([.fieldLink RX8 140 "FourPhasesModel" "second" "I", .fieldLink RX8 134 "FourPhasesModel" "at" "I", .methodLink RX8 137 yX8_code, .instanceMethod yX8_code, .selects RX8 yX8_code yX8_code, .initialized RX8, .code yX8_code cX8_code 1 (some .int), .fieldLink RX8 131 "FourPhasesModel" "length" "I", .fieldLink RX8 22 "FourPhasesModel" "text" "[I", .methodLink RX8 29 yX8_within, .static yX8_within, .code yX8_within cX8_within 3 (some .boolean)] ++ wsX80)
def wsX8_readsDelay : List Cond := .code yX8_readsDelay cX8_readsDelay 1 (some .boolean) :: ([.fieldLink RX8 143 "FourPhasesModel" "first" "I", .fieldLink RX8 134 "FourPhasesModel" "at" "I", .methodLink RX8 137 yX8_code, .instanceMethod yX8_code, .selects RX8 yX8_code yX8_code, .initialized RX8, .code yX8_code cX8_code 1 (some .int), .fieldLink RX8 131 "FourPhasesModel" "length" "I", .fieldLink RX8 22 "FourPhasesModel" "text" "[I", .methodLink RX8 29 yX8_within, .static yX8_within, .code yX8_within cX8_within 3 (some .boolean), .methodLink RX8 146 yX8_readsNumber, .instanceMethod yX8_readsNumber, .selects RX8 yX8_readsNumber yX8_readsNumber, .code yX8_readsNumber cX8_readsNumber 3 (some .boolean), .fieldLink RX8 140 "FourPhasesModel" "second" "I"] ++ wsX80)
def wsX8_readsOrder_r1 : List Cond := [Cond.fieldLink RX8 149 "FourPhasesModel" "sign" "I", Cond.fieldLink RX8 134 "FourPhasesModel" "at" "I", Cond.fieldLink RX8 140 "FourPhasesModel" "second" "I", Cond.methodLink RX8 137 yX8_code, Cond.instanceMethod yX8_code, Cond.selects RX8 yX8_code yX8_code, Cond.initialized RX8, Cond.code yX8_code cX8_code 1 (some .int), Cond.fieldLink RX8 131 "FourPhasesModel" "length" "I", Cond.fieldLink RX8 22 "FourPhasesModel" "text" "[I", Cond.methodLink RX8 152 yX8_hex, Cond.static yX8_hex, Cond.code yX8_hex cX8_hex 1 (some .int), Cond.methodLink RX8 29 yX8_within, Cond.static yX8_within, Cond.code yX8_within cX8_within 3 (some .boolean), Cond.methodLink RX8 146 yX8_readsNumber, Cond.instanceMethod yX8_readsNumber, Cond.selects RX8 yX8_readsNumber yX8_readsNumber, Cond.code yX8_readsNumber cX8_readsNumber 3 (some .boolean), Cond.methodLink RX8 155 yX8_readsDelay, Cond.instanceMethod yX8_readsDelay, Cond.selects RX8 yX8_readsDelay yX8_readsDelay, Cond.code yX8_readsDelay cX8_readsDelay 1 (some .boolean)]
def wsX8_readsOrder_r2 : List Cond := [Cond.fieldLink RX8 143 "FourPhasesModel" "first" "I"]
def wsX8_readsOrder : List Cond := .code yX8_readsOrder cX8_readsOrder 1 (some .boolean) :: ((wsX8_readsOrder_r1 ++ wsX8_readsOrder_r2) ++ wsX80)
def wsX8_findFault_r1 : List Cond := [Cond.fieldLink RX8 134 "FourPhasesModel" "at" "I", Cond.fieldLink RX8 131 "FourPhasesModel" "length" "I", Cond.methodLink RX8 159 yX8_readsOrder, Cond.instanceMethod yX8_readsOrder, Cond.selects RX8 yX8_readsOrder yX8_readsOrder, Cond.initialized RX8, Cond.code yX8_readsOrder cX8_readsOrder 1 (some .boolean), Cond.fieldLink RX8 149 "FourPhasesModel" "sign" "I", Cond.fieldLink RX8 140 "FourPhasesModel" "second" "I", Cond.methodLink RX8 137 yX8_code, Cond.instanceMethod yX8_code, Cond.selects RX8 yX8_code yX8_code, Cond.code yX8_code cX8_code 1 (some .int), Cond.fieldLink RX8 22 "FourPhasesModel" "text" "[I", Cond.methodLink RX8 152 yX8_hex, Cond.static yX8_hex, Cond.code yX8_hex cX8_hex 1 (some .int), Cond.methodLink RX8 29 yX8_within, Cond.static yX8_within, Cond.code yX8_within cX8_within 3 (some .boolean), Cond.methodLink RX8 146 yX8_readsNumber, Cond.instanceMethod yX8_readsNumber, Cond.selects RX8 yX8_readsNumber yX8_readsNumber, Cond.code yX8_readsNumber cX8_readsNumber 3 (some .boolean)]
def wsX8_findFault_r2 : List Cond := [Cond.methodLink RX8 155 yX8_readsDelay, Cond.instanceMethod yX8_readsDelay, Cond.selects RX8 yX8_readsDelay yX8_readsDelay, Cond.code yX8_readsDelay cX8_readsDelay 1 (some .boolean), Cond.fieldLink RX8 143 "FourPhasesModel" "first" "I"]
def wsX8_findFault : List Cond := .code yX8_findFault cX8_findFault 1 (some .int) :: ((wsX8_findFault_r1 ++ wsX8_findFault_r2) ++ wsX80)
def wsX8_doesOrder_r1 : List Cond := [Cond.fieldLink RX8 149 "FourPhasesModel" "sign" "I", Cond.fieldLink RX8 140 "FourPhasesModel" "second" "I", Cond.fieldLink RX8 143 "FourPhasesModel" "first" "I", Cond.methodLink RX8 112 yX8_adds, Cond.instanceMethod yX8_adds, Cond.selects RX8 yX8_adds yX8_adds, Cond.initialized RX8, Cond.code yX8_adds cX8_adds 3 (some .int), Cond.fieldLink RX8 7 "FourPhasesModel" "state" "[I", Cond.methodLink RX8 95 yX8_isSender, Cond.static yX8_isSender, Cond.code yX8_isSender cX8_isSender 1 (some .boolean), Cond.methodLink RX8 29 yX8_within, Cond.static yX8_within, Cond.code yX8_within cX8_within 3 (some .boolean), Cond.methodLink RX8 75 yX8_letGo, Cond.instanceMethod yX8_letGo, Cond.selects RX8 yX8_letGo yX8_letGo, Cond.code yX8_letGo cX8_letGo 8 none, Cond.methodLink RX8 65 yX8_offer, Cond.instanceMethod yX8_offer, Cond.selects RX8 yX8_offer yX8_offer, Cond.code yX8_offer cX8_offer 3 none, Cond.methodLink RX8 50 yX8_setEnd]
def wsX8_doesOrder_r2 : List Cond := [Cond.instanceMethod yX8_setEnd, Cond.selects RX8 yX8_setEnd yX8_setEnd, Cond.code yX8_setEnd cX8_setEnd 4 none, Cond.methodLink RX8 54 yX8_make, Cond.instanceMethod yX8_make, Cond.selects RX8 yX8_make yX8_make, Cond.code yX8_make cX8_make 6 none, Cond.methodLink RX8 118 yX8_runs, Cond.instanceMethod yX8_runs, Cond.selects RX8 yX8_runs yX8_runs, Cond.code yX8_runs cX8_runs 3 (some .int), Cond.constant RX8 99 (1000000), Cond.methodLink RX8 100 yX8_goTo, Cond.instanceMethod yX8_goTo, Cond.selects RX8 yX8_goTo yX8_goTo, Cond.code yX8_goTo cX8_goTo 3 none, Cond.methodLink RX8 88 yX8_nextChange, Cond.instanceMethod yX8_nextChange, Cond.selects RX8 yX8_nextChange yX8_nextChange, Cond.code yX8_nextChange cX8_nextChange 3 (some .int), Cond.methodLink RX8 78 yX8_whenOf, Cond.instanceMethod yX8_whenOf, Cond.selects RX8 yX8_whenOf yX8_whenOf, Cond.code yX8_whenOf cX8_whenOf 2 (some .int)]
def wsX8_doesOrder_r3 : List Cond := [Cond.methodLink RX8 92 yX8_arrive, Cond.instanceMethod yX8_arrive, Cond.selects RX8 yX8_arrive yX8_arrive, Cond.code yX8_arrive cX8_arrive 7 none, Cond.methodLink RX8 82 yX8_requestArrives, Cond.instanceMethod yX8_requestArrives, Cond.selects RX8 yX8_requestArrives yX8_requestArrives, Cond.code yX8_requestArrives cX8_requestArrives 3 none, Cond.methodLink RX8 62 yX8_answer, Cond.instanceMethod yX8_answer, Cond.selects RX8 yX8_answer yX8_answer, Cond.code yX8_answer cX8_answer 4 none, Cond.methodLink RX8 69 yX8_note, Cond.instanceMethod yX8_note, Cond.selects RX8 yX8_note yX8_note, Cond.code yX8_note cX8_note 4 none, Cond.methodLink RX8 58 yX8_end, Cond.instanceMethod yX8_end, Cond.selects RX8 yX8_end yX8_end, Cond.code yX8_end cX8_end 3 (some .int), Cond.methodLink RX8 72 yX8_take, Cond.instanceMethod yX8_take, Cond.selects RX8 yX8_take yX8_take, Cond.code yX8_take cX8_take 2 none]
def wsX8_doesOrder_r4 : List Cond := [Cond.methodLink RX8 85 yX8_answerArrives, Cond.instanceMethod yX8_answerArrives, Cond.selects RX8 yX8_answerArrives yX8_answerArrives, Cond.code yX8_answerArrives cX8_answerArrives 3 none, Cond.methodLink RX8 127 yX8_setsDelay, Cond.instanceMethod yX8_setsDelay, Cond.selects RX8 yX8_setsDelay yX8_setsDelay, Cond.code yX8_setsDelay cX8_setsDelay 6 (some .int), Cond.methodLink RX8 103 yX8_isLink, Cond.instanceMethod yX8_isLink, Cond.selects RX8 yX8_isLink yX8_isLink, Cond.code yX8_isLink cX8_isLink 2 (some .boolean), Cond.methodLink RX8 106 yX8_isWire, Cond.static yX8_isWire, Cond.code yX8_isWire cX8_isWire 1 (some .boolean)]
def wsX8_doesOrder : List Cond := .code yX8_doesOrder cX8_doesOrder 1 (some .int) :: ((wsX8_doesOrder_r1 ++ (wsX8_doesOrder_r2 ++ (wsX8_doesOrder_r3 ++ wsX8_doesOrder_r4))) ++ wsX80)
def wsX8_perform_r1 : List Cond := [Cond.fieldLink RX8 134 "FourPhasesModel" "at" "I", Cond.fieldLink RX8 131 "FourPhasesModel" "length" "I", Cond.methodLink RX8 162 yX8_findFault, Cond.instanceMethod yX8_findFault, Cond.selects RX8 yX8_findFault yX8_findFault, Cond.initialized RX8, Cond.code yX8_findFault cX8_findFault 1 (some .int), Cond.methodLink RX8 159 yX8_readsOrder, Cond.instanceMethod yX8_readsOrder, Cond.selects RX8 yX8_readsOrder yX8_readsOrder, Cond.code yX8_readsOrder cX8_readsOrder 1 (some .boolean), Cond.fieldLink RX8 149 "FourPhasesModel" "sign" "I", Cond.fieldLink RX8 140 "FourPhasesModel" "second" "I", Cond.methodLink RX8 137 yX8_code, Cond.instanceMethod yX8_code, Cond.selects RX8 yX8_code yX8_code, Cond.code yX8_code cX8_code 1 (some .int), Cond.fieldLink RX8 22 "FourPhasesModel" "text" "[I", Cond.methodLink RX8 152 yX8_hex, Cond.static yX8_hex, Cond.code yX8_hex cX8_hex 1 (some .int), Cond.methodLink RX8 29 yX8_within, Cond.static yX8_within, Cond.code yX8_within cX8_within 3 (some .boolean)]
def wsX8_perform_r2 : List Cond := [Cond.methodLink RX8 146 yX8_readsNumber, Cond.instanceMethod yX8_readsNumber, Cond.selects RX8 yX8_readsNumber yX8_readsNumber, Cond.code yX8_readsNumber cX8_readsNumber 3 (some .boolean), Cond.methodLink RX8 155 yX8_readsDelay, Cond.instanceMethod yX8_readsDelay, Cond.selects RX8 yX8_readsDelay yX8_readsDelay, Cond.code yX8_readsDelay cX8_readsDelay 1 (some .boolean), Cond.fieldLink RX8 143 "FourPhasesModel" "first" "I", Cond.methodLink RX8 37 yX8_putAside, Cond.instanceMethod yX8_putAside, Cond.selects RX8 yX8_putAside yX8_putAside, Cond.code yX8_putAside cX8_putAside 2 none, Cond.fieldLink RX8 13 "FourPhasesModel" "spare" "[I", Cond.fieldLink RX8 7 "FourPhasesModel" "state" "[I", Cond.methodLink RX8 165 yX8_doesOrder, Cond.instanceMethod yX8_doesOrder, Cond.selects RX8 yX8_doesOrder yX8_doesOrder, Cond.code yX8_doesOrder cX8_doesOrder 1 (some .int), Cond.methodLink RX8 112 yX8_adds, Cond.instanceMethod yX8_adds, Cond.selects RX8 yX8_adds yX8_adds, Cond.code yX8_adds cX8_adds 3 (some .int), Cond.methodLink RX8 95 yX8_isSender]
def wsX8_perform_r3 : List Cond := [Cond.static yX8_isSender, Cond.code yX8_isSender cX8_isSender 1 (some .boolean), Cond.methodLink RX8 75 yX8_letGo, Cond.instanceMethod yX8_letGo, Cond.selects RX8 yX8_letGo yX8_letGo, Cond.code yX8_letGo cX8_letGo 8 none, Cond.methodLink RX8 65 yX8_offer, Cond.instanceMethod yX8_offer, Cond.selects RX8 yX8_offer yX8_offer, Cond.code yX8_offer cX8_offer 3 none, Cond.methodLink RX8 50 yX8_setEnd, Cond.instanceMethod yX8_setEnd, Cond.selects RX8 yX8_setEnd yX8_setEnd, Cond.code yX8_setEnd cX8_setEnd 4 none, Cond.methodLink RX8 54 yX8_make, Cond.instanceMethod yX8_make, Cond.selects RX8 yX8_make yX8_make, Cond.code yX8_make cX8_make 6 none, Cond.methodLink RX8 118 yX8_runs, Cond.instanceMethod yX8_runs, Cond.selects RX8 yX8_runs yX8_runs, Cond.code yX8_runs cX8_runs 3 (some .int), Cond.constant RX8 99 (1000000), Cond.methodLink RX8 100 yX8_goTo]
def wsX8_perform_r4 : List Cond := [Cond.instanceMethod yX8_goTo, Cond.selects RX8 yX8_goTo yX8_goTo, Cond.code yX8_goTo cX8_goTo 3 none, Cond.methodLink RX8 88 yX8_nextChange, Cond.instanceMethod yX8_nextChange, Cond.selects RX8 yX8_nextChange yX8_nextChange, Cond.code yX8_nextChange cX8_nextChange 3 (some .int), Cond.methodLink RX8 78 yX8_whenOf, Cond.instanceMethod yX8_whenOf, Cond.selects RX8 yX8_whenOf yX8_whenOf, Cond.code yX8_whenOf cX8_whenOf 2 (some .int), Cond.methodLink RX8 92 yX8_arrive, Cond.instanceMethod yX8_arrive, Cond.selects RX8 yX8_arrive yX8_arrive, Cond.code yX8_arrive cX8_arrive 7 none, Cond.methodLink RX8 82 yX8_requestArrives, Cond.instanceMethod yX8_requestArrives, Cond.selects RX8 yX8_requestArrives yX8_requestArrives, Cond.code yX8_requestArrives cX8_requestArrives 3 none, Cond.methodLink RX8 62 yX8_answer, Cond.instanceMethod yX8_answer, Cond.selects RX8 yX8_answer yX8_answer, Cond.code yX8_answer cX8_answer 4 none, Cond.methodLink RX8 69 yX8_note]
def wsX8_perform_r5 : List Cond := [Cond.instanceMethod yX8_note, Cond.selects RX8 yX8_note yX8_note, Cond.code yX8_note cX8_note 4 none, Cond.methodLink RX8 58 yX8_end, Cond.instanceMethod yX8_end, Cond.selects RX8 yX8_end yX8_end, Cond.code yX8_end cX8_end 3 (some .int), Cond.methodLink RX8 72 yX8_take, Cond.instanceMethod yX8_take, Cond.selects RX8 yX8_take yX8_take, Cond.code yX8_take cX8_take 2 none, Cond.methodLink RX8 85 yX8_answerArrives, Cond.instanceMethod yX8_answerArrives, Cond.selects RX8 yX8_answerArrives yX8_answerArrives, Cond.code yX8_answerArrives cX8_answerArrives 3 none, Cond.methodLink RX8 127 yX8_setsDelay, Cond.instanceMethod yX8_setsDelay, Cond.selects RX8 yX8_setsDelay yX8_setsDelay, Cond.code yX8_setsDelay cX8_setsDelay 6 (some .int), Cond.methodLink RX8 103 yX8_isLink, Cond.instanceMethod yX8_isLink, Cond.selects RX8 yX8_isLink yX8_isLink, Cond.code yX8_isLink cX8_isLink 2 (some .boolean), Cond.methodLink RX8 106 yX8_isWire]
def wsX8_perform_r6 : List Cond := [Cond.static yX8_isWire, Cond.code yX8_isWire cX8_isWire 1 (some .boolean), Cond.methodLink RX8 124 yX8_takeBack, Cond.instanceMethod yX8_takeBack, Cond.selects RX8 yX8_takeBack yX8_takeBack, Cond.code yX8_takeBack cX8_takeBack 2 none, Cond.methodLink RX8 40 yX8_push, Cond.instanceMethod yX8_push, Cond.selects RX8 yX8_push yX8_push, Cond.code yX8_push cX8_push 2 none, Cond.fieldLink RX8 33 "FourPhasesModel" "states" "I", Cond.fieldLink RX8 16 "FourPhasesModel" "history" "[I"]
def wsX8_perform : List Cond := .code yX8_perform cX8_perform 4 (some .int) :: ((wsX8_perform_r1 ++ (wsX8_perform_r2 ++ (wsX8_perform_r3 ++ (wsX8_perform_r4 ++ (wsX8_perform_r5 ++ wsX8_perform_r6))))) ++ wsX80)
def wsX8_tellsLink : List Cond := .code yX8_tellsLink cX8_tellsLink 4 (some .int) :: ([.fieldLink RX8 7 "FourPhasesModel" "state" "[I", .methodLink RX8 58 yX8_end, .instanceMethod yX8_end, .selects RX8 yX8_end yX8_end, .initialized RX8, .code yX8_end cX8_end 3 (some .int)] ++ wsX80)
def wsX8_link : List Cond := .code yX8_link cX8_link 3 (some .int) :: ([.methodLink RX8 103 yX8_isLink, .instanceMethod yX8_isLink, .selects RX8 yX8_isLink yX8_isLink, .initialized RX8, .code yX8_isLink cX8_isLink 2 (some .boolean), .fieldLink RX8 7 "FourPhasesModel" "state" "[I", .methodLink RX8 29 yX8_within, .static yX8_within, .code yX8_within cX8_within 3 (some .boolean), .methodLink RX8 168 yX8_tellsLink, .instanceMethod yX8_tellsLink, .selects RX8 yX8_tellsLink yX8_tellsLink, .code yX8_tellsLink cX8_tellsLink 4 (some .int), .methodLink RX8 58 yX8_end, .instanceMethod yX8_end, .selects RX8 yX8_end yX8_end, .code yX8_end cX8_end 3 (some .int)] ++ wsX80)
def wsX8_stage : List Cond := .code yX8_stage cX8_stage 2 (some .int) :: ([.fieldLink RX8 7 "FourPhasesModel" "state" "[I", .methodLink RX8 29 yX8_within, .static yX8_within, .initialized RX8, .code yX8_within cX8_within 3 (some .boolean)] ++ wsX80)
def wsX8_waiting : List Cond := .code yX8_waiting cX8_waiting 3 (some .int) :: ([.fieldLink RX8 7 "FourPhasesModel" "state" "[I", .methodLink RX8 95 yX8_isSender, .static yX8_isSender, .initialized RX8, .code yX8_isSender cX8_isSender 1 (some .boolean), .methodLink RX8 29 yX8_within, .static yX8_within, .code yX8_within cX8_within 3 (some .boolean)] ++ wsX80)
def wsX8_noted : List Cond := .code yX8_noted cX8_noted 3 (some .int) :: ([.fieldLink RX8 7 "FourPhasesModel" "state" "[I", .methodLink RX8 29 yX8_within, .static yX8_within, .initialized RX8, .code yX8_within cX8_within 3 (some .boolean)] ++ wsX80)
def wsX8_total : List Cond := .code yX8_total cX8_total 2 (some .int) :: ([.fieldLink RX8 7 "FourPhasesModel" "state" "[I", .fieldLink RX8 33 "FourPhasesModel" "states" "I", .fieldLink RX8 131 "FourPhasesModel" "length" "I", .methodLink RX8 109 yX8_fullStages, .instanceMethod yX8_fullStages, .selects RX8 yX8_fullStages yX8_fullStages, .initialized RX8, .code yX8_fullStages cX8_fullStages 3 (some .int)] ++ wsX80)
def wsX8_next : List Cond := .code yX8_next cX8_next 2 (some .int) :: ([.methodLink RX8 88 yX8_nextChange, .instanceMethod yX8_nextChange, .selects RX8 yX8_nextChange yX8_nextChange, .initialized RX8, .code yX8_nextChange cX8_nextChange 3 (some .int), .fieldLink RX8 7 "FourPhasesModel" "state" "[I", .methodLink RX8 78 yX8_whenOf, .instanceMethod yX8_whenOf, .selects RX8 yX8_whenOf yX8_whenOf, .code yX8_whenOf cX8_whenOf 2 (some .int)] ++ wsX80)
def wsX8_quietIn_r1 : List Cond := [Cond.methodLink RX8 37 yX8_putAside, Cond.instanceMethod yX8_putAside, Cond.selects RX8 yX8_putAside yX8_putAside, Cond.initialized RX8, Cond.code yX8_putAside cX8_putAside 2 none, Cond.fieldLink RX8 13 "FourPhasesModel" "spare" "[I", Cond.fieldLink RX8 7 "FourPhasesModel" "state" "[I", Cond.methodLink RX8 121 yX8_settle, Cond.instanceMethod yX8_settle, Cond.selects RX8 yX8_settle yX8_settle, Cond.code yX8_settle cX8_settle 3 (some .int), Cond.methodLink RX8 88 yX8_nextChange, Cond.instanceMethod yX8_nextChange, Cond.selects RX8 yX8_nextChange yX8_nextChange, Cond.code yX8_nextChange cX8_nextChange 3 (some .int), Cond.methodLink RX8 78 yX8_whenOf, Cond.instanceMethod yX8_whenOf, Cond.selects RX8 yX8_whenOf yX8_whenOf, Cond.code yX8_whenOf cX8_whenOf 2 (some .int), Cond.methodLink RX8 92 yX8_arrive, Cond.instanceMethod yX8_arrive, Cond.selects RX8 yX8_arrive yX8_arrive, Cond.code yX8_arrive cX8_arrive 7 none, Cond.methodLink RX8 82 yX8_requestArrives]
def wsX8_quietIn_r2 : List Cond := [Cond.instanceMethod yX8_requestArrives, Cond.selects RX8 yX8_requestArrives yX8_requestArrives, Cond.code yX8_requestArrives cX8_requestArrives 3 none, Cond.methodLink RX8 50 yX8_setEnd, Cond.instanceMethod yX8_setEnd, Cond.selects RX8 yX8_setEnd yX8_setEnd, Cond.code yX8_setEnd cX8_setEnd 4 none, Cond.methodLink RX8 62 yX8_answer, Cond.instanceMethod yX8_answer, Cond.selects RX8 yX8_answer yX8_answer, Cond.code yX8_answer cX8_answer 4 none, Cond.methodLink RX8 54 yX8_make, Cond.instanceMethod yX8_make, Cond.selects RX8 yX8_make yX8_make, Cond.code yX8_make cX8_make 6 none, Cond.methodLink RX8 69 yX8_note, Cond.instanceMethod yX8_note, Cond.selects RX8 yX8_note yX8_note, Cond.code yX8_note cX8_note 4 none, Cond.methodLink RX8 58 yX8_end, Cond.instanceMethod yX8_end, Cond.selects RX8 yX8_end yX8_end, Cond.code yX8_end cX8_end 3 (some .int), Cond.methodLink RX8 72 yX8_take]
def wsX8_quietIn_r3 : List Cond := [Cond.instanceMethod yX8_take, Cond.selects RX8 yX8_take yX8_take, Cond.code yX8_take cX8_take 2 none, Cond.methodLink RX8 65 yX8_offer, Cond.instanceMethod yX8_offer, Cond.selects RX8 yX8_offer yX8_offer, Cond.code yX8_offer cX8_offer 3 none, Cond.methodLink RX8 85 yX8_answerArrives, Cond.instanceMethod yX8_answerArrives, Cond.selects RX8 yX8_answerArrives yX8_answerArrives, Cond.code yX8_answerArrives cX8_answerArrives 3 none, Cond.methodLink RX8 75 yX8_letGo, Cond.instanceMethod yX8_letGo, Cond.selects RX8 yX8_letGo yX8_letGo, Cond.code yX8_letGo cX8_letGo 8 none, Cond.methodLink RX8 124 yX8_takeBack, Cond.instanceMethod yX8_takeBack, Cond.selects RX8 yX8_takeBack yX8_takeBack, Cond.code yX8_takeBack cX8_takeBack 2 none]
def wsX8_quietIn : List Cond := .code yX8_quietIn cX8_quietIn 2 (some .int) :: ((wsX8_quietIn_r1 ++ (wsX8_quietIn_r2 ++ wsX8_quietIn_r3)) ++ wsX80)
def wsX8_withLead_r1 : List Cond := [Cond.fieldLink RX8 7 "FourPhasesModel" "state" "[I", Cond.fieldLink RX8 13 "FourPhasesModel" "spare" "[I", Cond.methodLink RX8 37 yX8_putAside, Cond.instanceMethod yX8_putAside, Cond.selects RX8 yX8_putAside yX8_putAside, Cond.initialized RX8, Cond.code yX8_putAside cX8_putAside 2 none, Cond.methodLink RX8 121 yX8_settle, Cond.instanceMethod yX8_settle, Cond.selects RX8 yX8_settle yX8_settle, Cond.code yX8_settle cX8_settle 3 (some .int), Cond.methodLink RX8 88 yX8_nextChange, Cond.instanceMethod yX8_nextChange, Cond.selects RX8 yX8_nextChange yX8_nextChange, Cond.code yX8_nextChange cX8_nextChange 3 (some .int), Cond.methodLink RX8 78 yX8_whenOf, Cond.instanceMethod yX8_whenOf, Cond.selects RX8 yX8_whenOf yX8_whenOf, Cond.code yX8_whenOf cX8_whenOf 2 (some .int), Cond.methodLink RX8 92 yX8_arrive, Cond.instanceMethod yX8_arrive, Cond.selects RX8 yX8_arrive yX8_arrive, Cond.code yX8_arrive cX8_arrive 7 none, Cond.methodLink RX8 82 yX8_requestArrives]
def wsX8_withLead_r2 : List Cond := [Cond.instanceMethod yX8_requestArrives, Cond.selects RX8 yX8_requestArrives yX8_requestArrives, Cond.code yX8_requestArrives cX8_requestArrives 3 none, Cond.methodLink RX8 50 yX8_setEnd, Cond.instanceMethod yX8_setEnd, Cond.selects RX8 yX8_setEnd yX8_setEnd, Cond.code yX8_setEnd cX8_setEnd 4 none, Cond.methodLink RX8 62 yX8_answer, Cond.instanceMethod yX8_answer, Cond.selects RX8 yX8_answer yX8_answer, Cond.code yX8_answer cX8_answer 4 none, Cond.methodLink RX8 54 yX8_make, Cond.instanceMethod yX8_make, Cond.selects RX8 yX8_make yX8_make, Cond.code yX8_make cX8_make 6 none, Cond.methodLink RX8 69 yX8_note, Cond.instanceMethod yX8_note, Cond.selects RX8 yX8_note yX8_note, Cond.code yX8_note cX8_note 4 none, Cond.methodLink RX8 58 yX8_end, Cond.instanceMethod yX8_end, Cond.selects RX8 yX8_end yX8_end, Cond.code yX8_end cX8_end 3 (some .int), Cond.methodLink RX8 72 yX8_take]
def wsX8_withLead_r3 : List Cond := [Cond.instanceMethod yX8_take, Cond.selects RX8 yX8_take yX8_take, Cond.code yX8_take cX8_take 2 none, Cond.methodLink RX8 65 yX8_offer, Cond.instanceMethod yX8_offer, Cond.selects RX8 yX8_offer yX8_offer, Cond.code yX8_offer cX8_offer 3 none, Cond.methodLink RX8 85 yX8_answerArrives, Cond.instanceMethod yX8_answerArrives, Cond.selects RX8 yX8_answerArrives yX8_answerArrives, Cond.code yX8_answerArrives cX8_answerArrives 3 none, Cond.methodLink RX8 75 yX8_letGo, Cond.instanceMethod yX8_letGo, Cond.selects RX8 yX8_letGo yX8_letGo, Cond.code yX8_letGo cX8_letGo 8 none, Cond.methodLink RX8 124 yX8_takeBack, Cond.instanceMethod yX8_takeBack, Cond.selects RX8 yX8_takeBack yX8_takeBack, Cond.code yX8_takeBack cX8_takeBack 2 none]
def wsX8_withLead : List Cond := .code yX8_withLead cX8_withLead 6 (some .int) :: ((wsX8_withLead_r1 ++ (wsX8_withLead_r2 ++ wsX8_withLead_r3)) ++ wsX80)
def wsX8_ifLead_r1 : List Cond := [Cond.methodLink RX8 29 yX8_within, Cond.static yX8_within, Cond.initialized RX8, Cond.code yX8_within cX8_within 3 (some .boolean), Cond.methodLink RX8 171 yX8_withLead, Cond.instanceMethod yX8_withLead, Cond.selects RX8 yX8_withLead yX8_withLead, Cond.code yX8_withLead cX8_withLead 6 (some .int), Cond.fieldLink RX8 7 "FourPhasesModel" "state" "[I", Cond.fieldLink RX8 13 "FourPhasesModel" "spare" "[I", Cond.methodLink RX8 37 yX8_putAside, Cond.instanceMethod yX8_putAside, Cond.selects RX8 yX8_putAside yX8_putAside, Cond.code yX8_putAside cX8_putAside 2 none, Cond.methodLink RX8 121 yX8_settle, Cond.instanceMethod yX8_settle, Cond.selects RX8 yX8_settle yX8_settle, Cond.code yX8_settle cX8_settle 3 (some .int), Cond.methodLink RX8 88 yX8_nextChange, Cond.instanceMethod yX8_nextChange, Cond.selects RX8 yX8_nextChange yX8_nextChange, Cond.code yX8_nextChange cX8_nextChange 3 (some .int), Cond.methodLink RX8 78 yX8_whenOf, Cond.instanceMethod yX8_whenOf]
def wsX8_ifLead_r2 : List Cond := [Cond.selects RX8 yX8_whenOf yX8_whenOf, Cond.code yX8_whenOf cX8_whenOf 2 (some .int), Cond.methodLink RX8 92 yX8_arrive, Cond.instanceMethod yX8_arrive, Cond.selects RX8 yX8_arrive yX8_arrive, Cond.code yX8_arrive cX8_arrive 7 none, Cond.methodLink RX8 82 yX8_requestArrives, Cond.instanceMethod yX8_requestArrives, Cond.selects RX8 yX8_requestArrives yX8_requestArrives, Cond.code yX8_requestArrives cX8_requestArrives 3 none, Cond.methodLink RX8 50 yX8_setEnd, Cond.instanceMethod yX8_setEnd, Cond.selects RX8 yX8_setEnd yX8_setEnd, Cond.code yX8_setEnd cX8_setEnd 4 none, Cond.methodLink RX8 62 yX8_answer, Cond.instanceMethod yX8_answer, Cond.selects RX8 yX8_answer yX8_answer, Cond.code yX8_answer cX8_answer 4 none, Cond.methodLink RX8 54 yX8_make, Cond.instanceMethod yX8_make, Cond.selects RX8 yX8_make yX8_make, Cond.code yX8_make cX8_make 6 none, Cond.methodLink RX8 69 yX8_note, Cond.instanceMethod yX8_note]
def wsX8_ifLead_r3 : List Cond := [Cond.selects RX8 yX8_note yX8_note, Cond.code yX8_note cX8_note 4 none, Cond.methodLink RX8 58 yX8_end, Cond.instanceMethod yX8_end, Cond.selects RX8 yX8_end yX8_end, Cond.code yX8_end cX8_end 3 (some .int), Cond.methodLink RX8 72 yX8_take, Cond.instanceMethod yX8_take, Cond.selects RX8 yX8_take yX8_take, Cond.code yX8_take cX8_take 2 none, Cond.methodLink RX8 65 yX8_offer, Cond.instanceMethod yX8_offer, Cond.selects RX8 yX8_offer yX8_offer, Cond.code yX8_offer cX8_offer 3 none, Cond.methodLink RX8 85 yX8_answerArrives, Cond.instanceMethod yX8_answerArrives, Cond.selects RX8 yX8_answerArrives yX8_answerArrives, Cond.code yX8_answerArrives cX8_answerArrives 3 none, Cond.methodLink RX8 75 yX8_letGo, Cond.instanceMethod yX8_letGo, Cond.selects RX8 yX8_letGo yX8_letGo, Cond.code yX8_letGo cX8_letGo 8 none, Cond.methodLink RX8 124 yX8_takeBack, Cond.instanceMethod yX8_takeBack]
def wsX8_ifLead_r4 : List Cond := [Cond.selects RX8 yX8_takeBack yX8_takeBack, Cond.code yX8_takeBack cX8_takeBack 2 none]
def wsX8_ifLead : List Cond := .code yX8_ifLead cX8_ifLead 3 (some .int) :: ((wsX8_ifLead_r1 ++ (wsX8_ifLead_r2 ++ (wsX8_ifLead_r3 ++ wsX8_ifLead_r4))) ++ wsX80)
def wsX8_leastLead_r1 : List Cond := [Cond.methodLink RX8 171 yX8_withLead, Cond.instanceMethod yX8_withLead, Cond.selects RX8 yX8_withLead yX8_withLead, Cond.initialized RX8, Cond.code yX8_withLead cX8_withLead 6 (some .int), Cond.fieldLink RX8 7 "FourPhasesModel" "state" "[I", Cond.fieldLink RX8 13 "FourPhasesModel" "spare" "[I", Cond.methodLink RX8 37 yX8_putAside, Cond.instanceMethod yX8_putAside, Cond.selects RX8 yX8_putAside yX8_putAside, Cond.code yX8_putAside cX8_putAside 2 none, Cond.methodLink RX8 121 yX8_settle, Cond.instanceMethod yX8_settle, Cond.selects RX8 yX8_settle yX8_settle, Cond.code yX8_settle cX8_settle 3 (some .int), Cond.methodLink RX8 88 yX8_nextChange, Cond.instanceMethod yX8_nextChange, Cond.selects RX8 yX8_nextChange yX8_nextChange, Cond.code yX8_nextChange cX8_nextChange 3 (some .int), Cond.methodLink RX8 78 yX8_whenOf, Cond.instanceMethod yX8_whenOf, Cond.selects RX8 yX8_whenOf yX8_whenOf, Cond.code yX8_whenOf cX8_whenOf 2 (some .int), Cond.methodLink RX8 92 yX8_arrive]
def wsX8_leastLead_r2 : List Cond := [Cond.instanceMethod yX8_arrive, Cond.selects RX8 yX8_arrive yX8_arrive, Cond.code yX8_arrive cX8_arrive 7 none, Cond.methodLink RX8 82 yX8_requestArrives, Cond.instanceMethod yX8_requestArrives, Cond.selects RX8 yX8_requestArrives yX8_requestArrives, Cond.code yX8_requestArrives cX8_requestArrives 3 none, Cond.methodLink RX8 50 yX8_setEnd, Cond.instanceMethod yX8_setEnd, Cond.selects RX8 yX8_setEnd yX8_setEnd, Cond.code yX8_setEnd cX8_setEnd 4 none, Cond.methodLink RX8 62 yX8_answer, Cond.instanceMethod yX8_answer, Cond.selects RX8 yX8_answer yX8_answer, Cond.code yX8_answer cX8_answer 4 none, Cond.methodLink RX8 54 yX8_make, Cond.instanceMethod yX8_make, Cond.selects RX8 yX8_make yX8_make, Cond.code yX8_make cX8_make 6 none, Cond.methodLink RX8 69 yX8_note, Cond.instanceMethod yX8_note, Cond.selects RX8 yX8_note yX8_note, Cond.code yX8_note cX8_note 4 none, Cond.methodLink RX8 58 yX8_end]
def wsX8_leastLead_r3 : List Cond := [Cond.instanceMethod yX8_end, Cond.selects RX8 yX8_end yX8_end, Cond.code yX8_end cX8_end 3 (some .int), Cond.methodLink RX8 72 yX8_take, Cond.instanceMethod yX8_take, Cond.selects RX8 yX8_take yX8_take, Cond.code yX8_take cX8_take 2 none, Cond.methodLink RX8 65 yX8_offer, Cond.instanceMethod yX8_offer, Cond.selects RX8 yX8_offer yX8_offer, Cond.code yX8_offer cX8_offer 3 none, Cond.methodLink RX8 85 yX8_answerArrives, Cond.instanceMethod yX8_answerArrives, Cond.selects RX8 yX8_answerArrives yX8_answerArrives, Cond.code yX8_answerArrives cX8_answerArrives 3 none, Cond.methodLink RX8 75 yX8_letGo, Cond.instanceMethod yX8_letGo, Cond.selects RX8 yX8_letGo yX8_letGo, Cond.code yX8_letGo cX8_letGo 8 none, Cond.methodLink RX8 124 yX8_takeBack, Cond.instanceMethod yX8_takeBack, Cond.selects RX8 yX8_takeBack yX8_takeBack, Cond.code yX8_takeBack cX8_takeBack 2 none]
def wsX8_leastLead : List Cond := .code yX8_leastLead cX8_leastLead 2 (some .int) :: ((wsX8_leastLead_r1 ++ (wsX8_leastLead_r2 ++ wsX8_leastLead_r3)) ++ wsX80)
def wsX8_dearest_r1 : List Cond := [Cond.fieldLink RX8 7 "FourPhasesModel" "state" "[I", Cond.methodLink RX8 37 yX8_putAside, Cond.instanceMethod yX8_putAside, Cond.selects RX8 yX8_putAside yX8_putAside, Cond.initialized RX8, Cond.code yX8_putAside cX8_putAside 2 none, Cond.fieldLink RX8 13 "FourPhasesModel" "spare" "[I", Cond.methodLink RX8 121 yX8_settle, Cond.instanceMethod yX8_settle, Cond.selects RX8 yX8_settle yX8_settle, Cond.code yX8_settle cX8_settle 3 (some .int), Cond.methodLink RX8 88 yX8_nextChange, Cond.instanceMethod yX8_nextChange, Cond.selects RX8 yX8_nextChange yX8_nextChange, Cond.code yX8_nextChange cX8_nextChange 3 (some .int), Cond.methodLink RX8 78 yX8_whenOf, Cond.instanceMethod yX8_whenOf, Cond.selects RX8 yX8_whenOf yX8_whenOf, Cond.code yX8_whenOf cX8_whenOf 2 (some .int), Cond.methodLink RX8 92 yX8_arrive, Cond.instanceMethod yX8_arrive, Cond.selects RX8 yX8_arrive yX8_arrive, Cond.code yX8_arrive cX8_arrive 7 none, Cond.methodLink RX8 82 yX8_requestArrives]
def wsX8_dearest_r2 : List Cond := [Cond.instanceMethod yX8_requestArrives, Cond.selects RX8 yX8_requestArrives yX8_requestArrives, Cond.code yX8_requestArrives cX8_requestArrives 3 none, Cond.methodLink RX8 50 yX8_setEnd, Cond.instanceMethod yX8_setEnd, Cond.selects RX8 yX8_setEnd yX8_setEnd, Cond.code yX8_setEnd cX8_setEnd 4 none, Cond.methodLink RX8 62 yX8_answer, Cond.instanceMethod yX8_answer, Cond.selects RX8 yX8_answer yX8_answer, Cond.code yX8_answer cX8_answer 4 none, Cond.methodLink RX8 54 yX8_make, Cond.instanceMethod yX8_make, Cond.selects RX8 yX8_make yX8_make, Cond.code yX8_make cX8_make 6 none, Cond.methodLink RX8 69 yX8_note, Cond.instanceMethod yX8_note, Cond.selects RX8 yX8_note yX8_note, Cond.code yX8_note cX8_note 4 none, Cond.methodLink RX8 58 yX8_end, Cond.instanceMethod yX8_end, Cond.selects RX8 yX8_end yX8_end, Cond.code yX8_end cX8_end 3 (some .int), Cond.methodLink RX8 72 yX8_take]
def wsX8_dearest_r3 : List Cond := [Cond.instanceMethod yX8_take, Cond.selects RX8 yX8_take yX8_take, Cond.code yX8_take cX8_take 2 none, Cond.methodLink RX8 65 yX8_offer, Cond.instanceMethod yX8_offer, Cond.selects RX8 yX8_offer yX8_offer, Cond.code yX8_offer cX8_offer 3 none, Cond.methodLink RX8 85 yX8_answerArrives, Cond.instanceMethod yX8_answerArrives, Cond.selects RX8 yX8_answerArrives yX8_answerArrives, Cond.code yX8_answerArrives cX8_answerArrives 3 none, Cond.methodLink RX8 75 yX8_letGo, Cond.instanceMethod yX8_letGo, Cond.selects RX8 yX8_letGo yX8_letGo, Cond.code yX8_letGo cX8_letGo 8 none, Cond.methodLink RX8 124 yX8_takeBack, Cond.instanceMethod yX8_takeBack, Cond.selects RX8 yX8_takeBack yX8_takeBack, Cond.code yX8_takeBack cX8_takeBack 2 none]
def wsX8_dearest : List Cond := .code yX8_dearest cX8_dearest 6 (some .int) :: ((wsX8_dearest_r1 ++ (wsX8_dearest_r2 ++ wsX8_dearest_r3)) ++ wsX80)
def wsL_law_r1 : List Cond := [Cond.classLink RL 7 RX7, Cond.instantiable RX7 6, Cond.initialized RX7, Cond.classLink RL 10 RX8, Cond.instantiable RX8 12, Cond.initialized RX8, Cond.methodLink RL 9 yX7_init, Cond.instanceMethod yX7_init, Cond.code yX7_init cX7_init 1 none, Cond.methodLink RX7 3 objectInit, Cond.instanceMethod objectInit, Cond.code objectInit ⟨#[0xb1]⟩ 1 none, Cond.classLink RX7 9 RX2, Cond.instantiable RX2 12, Cond.initialized RX2, Cond.fieldLink RX7 12 "FourPhases" "now" "LFourPhases$Line;", Cond.fieldLink RX7 16 "FourPhases" "trial" "LFourPhases$Line;", Cond.fieldLink RX7 19 "FourPhases" "snapshot" "LFourPhases$Line;", Cond.fieldLink RX7 22 "FourPhases" "hasSnapshot" "Z", Cond.classLink RX7 26 RX1, Cond.instantiable RX1 2, Cond.initialized RX1, Cond.fieldLink RX7 29 "FourPhases" "history" "LFourPhases$History;", Cond.classLink RX7 33 RX6]
def wsL_law_r2 : List Cond := [Cond.instantiable RX6 7, Cond.initialized RX6, Cond.fieldLink RX7 36 "FourPhases" "text" "LFourPhases$Text;", Cond.methodLink RX7 11 yX2_init, Cond.instanceMethod yX2_init, Cond.code yX2_init cX2_init 2 none, Cond.methodLink RX2 3 objectInit, Cond.arrayClass .int, Cond.fieldLink RX2 9 "FourPhases$Line" "settings" "[I", Cond.classLink RX2 15 RX3, Cond.fieldLink RX2 17 "FourPhases$Line" "links" "[LFourPhases$Link;", Cond.fieldLink RX2 21 "FourPhases$Line" "held" "[I", Cond.classLink RX2 24 RX5, Cond.fieldLink RX2 26 "FourPhases$Line" "rows" "[LFourPhases$Row;", Cond.classLink RX2 30 RX0, Cond.instantiable RX0 4, Cond.initialized RX0, Cond.fieldLink RX2 33 "FourPhases$Line" "underWay" "LFourPhases$Changes;", Cond.classLink RX2 37 RX4, Cond.instantiable RX4 5, Cond.initialized RX4, Cond.fieldLink RX2 40 "FourPhases$Line" "notes" "LFourPhases$Notes;", Cond.fieldLink RX2 44 "FourPhases$Line" "offered" "[I", Cond.instantiable RX3 10]
def wsL_law_r3 : List Cond := [Cond.initialized RX3, Cond.instantiable RX5 2, Cond.initialized RX5, Cond.instanceMethod yX0_init, Cond.code yX0_init cX0_init 1 none, Cond.methodLink RX0 3 objectInit, Cond.fieldLink RX0 9 "FourPhases$Changes" "times" "[I", Cond.fieldLink RX0 15 "FourPhases$Changes" "signals" "[I", Cond.instanceMethod yX4_init, Cond.code yX4_init cX4_init 1 none, Cond.methodLink RX4 3 objectInit, Cond.fieldLink RX4 9 "FourPhases$Notes" "words" "[I", Cond.fieldLink RX4 15 "FourPhases$Notes" "times" "[I", Cond.fieldLink RX4 18 "FourPhases$Notes" "rights" "[I", Cond.instanceMethod yX3_init, Cond.code yX3_init cX3_init 1 none, Cond.methodLink RX3 3 objectInit, Cond.fieldLink RX3 9 "FourPhases$Link" "delays" "[I", Cond.instanceMethod yX5_init, Cond.code yX5_init cX5_init 1 none, Cond.methodLink RX5 3 objectInit, Cond.fieldLink RX5 9 "FourPhases$Row" "words" "[I", Cond.methodLink RX2 49 yX2_clearTo, Cond.instanceMethod yX2_clearTo]
def wsL_law_r4 : List Cond := [Cond.selects RX2 yX2_clearTo yX2_clearTo, Cond.code yX2_clearTo cX2_clearTo 3 none, Cond.fieldLink RX2 53 "FourPhases$Line" "stages" "I", Cond.fieldLink RX2 57 "FourPhases$Line" "time" "I", Cond.fieldLink RX2 60 "FourPhases$Line" "latestSender" "I", Cond.fieldLink RX2 63 "FourPhases$Line" "offeredWords" "I", Cond.fieldLink RX2 66 "FourPhases$Line" "arrivedChanges" "I", Cond.fieldLink RX2 72 "FourPhases$Row" "count" "I", Cond.fieldLink RX2 75 "FourPhases$Changes" "count" "I", Cond.methodLink RX2 69 yX3_clear, Cond.instanceMethod yX3_clear, Cond.selects RX3 yX3_clear yX3_clear, Cond.code yX3_clear cX3_clear 2 none, Cond.fieldLink RX3 15 "FourPhases$Link" "requestAtBeginning" "I", Cond.fieldLink RX3 19 "FourPhases$Link" "requestAtEnd" "I", Cond.fieldLink RX3 22 "FourPhases$Link" "answerAtEnd" "I", Cond.fieldLink RX3 25 "FourPhases$Link" "answerAtBeginning" "I", Cond.fieldLink RX3 28 "FourPhases$Link" "dataAtBeginning" "I", Cond.fieldLink RX3 31 "FourPhases$Link" "dataAtEnd" "I", Cond.fieldLink RX3 34 "FourPhases$Link" "atRest" "Z", Cond.fieldLink RX3 38 "FourPhases$Link" "requestWaits" "Z", Cond.fieldLink RX3 41 "FourPhases$Link" "offeredWords" "I", Cond.methodLink RX2 76 yX4_clear, Cond.instanceMethod yX4_clear]
def wsL_law_r5 : List Cond := [Cond.selects RX4 yX4_clear yX4_clear, Cond.code yX4_clear cX4_clear 1 none, Cond.fieldLink RX4 21 "FourPhases$Notes" "count" "I", Cond.fieldLink RX4 25 "FourPhases$Notes" "rightCount" "I", Cond.methodLink RX7 28 yX1_init, Cond.instanceMethod yX1_init, Cond.code yX1_init cX1_init 2 none, Cond.methodLink RX1 3 objectInit, Cond.classLink RX1 9 RX2, Cond.fieldLink RX1 11 "FourPhases$History" "states" "[LFourPhases$Line;", Cond.methodLink RX1 17 yX2_init, Cond.instanceMethod yX6_init, Cond.code yX6_init cX6_init 1 none, Cond.methodLink RX6 3 objectInit, Cond.arrayClass .char, Cond.fieldLink RX6 9 "FourPhases$Text" "characters" "[C", Cond.fieldLink RX6 15 "FourPhases$Text" "letters" "[I", Cond.fieldLink RX6 19 "FourPhases$Text" "targets" "[I", Cond.fieldLink RX6 22 "FourPhases$Text" "values" "[I", Cond.methodLink RL 12 yX8_init, Cond.instanceMethod yX8_init, Cond.code yX8_init cX8_init 1 none, Cond.methodLink RX8 1 objectInit, Cond.fieldLink RX8 7 "FourPhasesModel" "state" "[I"]
def wsL_law_r6 : List Cond := [Cond.fieldLink RX8 13 "FourPhasesModel" "spare" "[I", Cond.fieldLink RX8 16 "FourPhasesModel" "history" "[I", Cond.fieldLink RX8 19 "FourPhasesModel" "snapshot" "[I", Cond.fieldLink RX8 22 "FourPhasesModel" "text" "[I", Cond.methodLink RX8 25 yX8_clean, Cond.instanceMethod yX8_clean, Cond.selects RX8 yX8_clean yX8_clean, Cond.code yX8_clean cX8_clean 4 none, Cond.methodLink RL 13 yX7_build, Cond.instanceMethod yX7_build, Cond.selects RX7 yX7_build yX7_build, Cond.code yX7_build cX7_build 2 (some .int), Cond.methodLink RX7 40 yX2_copyFrom, Cond.instanceMethod yX2_copyFrom, Cond.selects RX2 yX2_copyFrom yX2_copyFrom, Cond.code yX2_copyFrom cX2_copyFrom 3 none, Cond.methodLink RX2 77 arraycopyName, Cond.native arraycopyName, Cond.static arraycopyName, Cond.initialized "java/lang/System", Cond.methodLink RX2 83 yX3_copyFrom, Cond.instanceMethod yX3_copyFrom, Cond.selects RX3 yX3_copyFrom yX3_copyFrom, Cond.code yX3_copyFrom cX3_copyFrom 2 none]
def wsL_law_r7 : List Cond := [Cond.methodLink RX3 44 arraycopyName, Cond.methodLink RX2 87 yX5_copyFrom, Cond.instanceMethod yX5_copyFrom, Cond.selects RX5 yX5_copyFrom yX5_copyFrom, Cond.code yX5_copyFrom cX5_copyFrom 2 none, Cond.fieldLink RX5 15 "FourPhases$Row" "count" "I", Cond.methodLink RX5 19 arraycopyName, Cond.methodLink RX2 90 yX0_copyFrom, Cond.instanceMethod yX0_copyFrom, Cond.selects RX0 yX0_copyFrom yX0_copyFrom, Cond.code yX0_copyFrom cX0_copyFrom 2 none, Cond.fieldLink RX0 18 "FourPhases$Changes" "head" "I", Cond.fieldLink RX0 22 "FourPhases$Changes" "count" "I", Cond.methodLink RX0 25 arraycopyName, Cond.methodLink RX2 93 yX4_copyFrom, Cond.instanceMethod yX4_copyFrom, Cond.selects RX4 yX4_copyFrom yX4_copyFrom, Cond.code yX4_copyFrom cX4_copyFrom 2 none, Cond.methodLink RX4 28 arraycopyName, Cond.methodLink RX7 44 yX2_clearTo, Cond.methodLink RX7 48 yX2_fullStages, Cond.instanceMethod yX2_fullStages, Cond.selects RX2 yX2_fullStages yX2_fullStages, Cond.code yX2_fullStages cX2_fullStages 3 (some .int)]
def wsL_law_r8 : List Cond := [Cond.methodLink RX7 52 yX2_waitingWords, Cond.instanceMethod yX2_waitingWords, Cond.selects RX2 yX2_waitingWords yX2_waitingWords, Cond.code yX2_waitingWords cX2_waitingWords 1 (some .int), Cond.methodLink RX7 55 yX7_accept, Cond.instanceMethod yX7_accept, Cond.selects RX7 yX7_accept yX7_accept, Cond.code yX7_accept cX7_accept 2 (some .int), Cond.methodLink RX7 186 yX1_record, Cond.instanceMethod yX1_record, Cond.selects RX1 yX1_record yX1_record, Cond.code yX1_record cX1_record 2 none, Cond.fieldLink RX1 18 "FourPhases$History" "count" "I", Cond.methodLink RX1 22 yX1_dropOldest, Cond.instanceMethod yX1_dropOldest, Cond.selects RX1 yX1_dropOldest yX1_dropOldest, Cond.code yX1_dropOldest cX1_dropOldest 3 none, Cond.methodLink RX1 25 yX2_copyFrom, Cond.methodLink RL 17 yX8_build, Cond.instanceMethod yX8_build, Cond.selects RX8 yX8_build yX8_build, Cond.code yX8_build cX8_build 3 (some .int), Cond.methodLink RX8 29 yX8_within, Cond.static yX8_within]
def wsL_law_r9 : List Cond := [Cond.code yX8_within cX8_within 3 (some .boolean), Cond.methodLink RX8 47 yX8_record, Cond.instanceMethod yX8_record, Cond.selects RX8 yX8_record yX8_record, Cond.code yX8_record cX8_record 1 none, Cond.methodLink RX8 37 yX8_putAside, Cond.instanceMethod yX8_putAside, Cond.selects RX8 yX8_putAside yX8_putAside, Cond.code yX8_putAside cX8_putAside 2 none, Cond.methodLink RX8 40 yX8_push, Cond.instanceMethod yX8_push, Cond.selects RX8 yX8_push yX8_push, Cond.code yX8_push cX8_push 2 none, Cond.fieldLink RX8 33 "FourPhasesModel" "states" "I", Cond.methodLink RX8 109 yX8_fullStages, Cond.instanceMethod yX8_fullStages, Cond.selects RX8 yX8_fullStages yX8_fullStages, Cond.code yX8_fullStages cX8_fullStages 3 (some .int), Cond.methodLink RL 18 yX7_add, Cond.instanceMethod yX7_add, Cond.selects RX7 yX7_add yX7_add, Cond.code yX7_add cX7_add 3 (some .int), Cond.methodLink RX7 59 yX2_addWord, Cond.instanceMethod yX2_addWord]
def wsL_law_r10 : List Cond := [Cond.selects RX2 yX2_addWord yX2_addWord, Cond.code yX2_addWord cX2_addWord 4 (some .int), Cond.fieldLink RX2 99 "FourPhases$Link" "atRest" "Z", Cond.methodLink RX2 96 yX5_append, Cond.instanceMethod yX5_append, Cond.selects RX5 yX5_append yX5_append, Cond.code yX5_append cX5_append 2 none, Cond.methodLink RX2 103 yX2_letOneGo, Cond.instanceMethod yX2_letOneGo, Cond.selects RX2 yX2_letOneGo yX2_letOneGo, Cond.code yX2_letOneGo cX2_letOneGo 4 (some .int), Cond.methodLink RX2 173 yX2_chosenSender, Cond.instanceMethod yX2_chosenSender, Cond.selects RX2 yX2_chosenSender yX2_chosenSender, Cond.code yX2_chosenSender cX2_chosenSender 1 (some .int), Cond.methodLink RX2 176 yX5_removeFirst, Cond.instanceMethod yX5_removeFirst, Cond.selects RX5 yX5_removeFirst yX5_removeFirst, Cond.code yX5_removeFirst cX5_removeFirst 3 (some .int), Cond.methodLink RX2 107 yX2_offer, Cond.instanceMethod yX2_offer, Cond.selects RX2 yX2_offer yX2_offer, Cond.code yX2_offer cX2_offer 4 none, Cond.fieldLink RX2 180 "FourPhases$Link" "dataAtBeginning" "I"]
def wsL_law_r11 : List Cond := [Cond.fieldLink RX2 115 "FourPhases$Link" "delays" "[I", Cond.fieldLink RX2 187 "FourPhases$Link" "offeredWords" "I", Cond.methodLink RX2 183 yX0_insert, Cond.instanceMethod yX0_insert, Cond.selects RX0 yX0_insert yX0_insert, Cond.code yX0_insert cX0_insert 8 none, Cond.methodLink RX2 170 yX2_makeRequest, Cond.instanceMethod yX2_makeRequest, Cond.selects RX2 yX2_makeRequest yX2_makeRequest, Cond.code yX2_makeRequest cX2_makeRequest 4 none, Cond.fieldLink RX2 188 "FourPhases$Link" "requestAtBeginning" "I", Cond.methodLink RL 22 yX8_add, Cond.instanceMethod yX8_add, Cond.selects RX8 yX8_add yX8_add, Cond.code yX8_add cX8_add 3 (some .int), Cond.methodLink RX8 112 yX8_adds, Cond.instanceMethod yX8_adds, Cond.selects RX8 yX8_adds yX8_adds, Cond.code yX8_adds cX8_adds 3 (some .int), Cond.methodLink RX8 95 yX8_isSender, Cond.static yX8_isSender, Cond.code yX8_isSender cX8_isSender 1 (some .boolean), Cond.methodLink RX8 75 yX8_letGo, Cond.instanceMethod yX8_letGo]
def wsL_law_r12 : List Cond := [Cond.selects RX8 yX8_letGo yX8_letGo, Cond.code yX8_letGo cX8_letGo 8 none, Cond.methodLink RX8 65 yX8_offer, Cond.instanceMethod yX8_offer, Cond.selects RX8 yX8_offer yX8_offer, Cond.code yX8_offer cX8_offer 3 none, Cond.methodLink RX8 50 yX8_setEnd, Cond.instanceMethod yX8_setEnd, Cond.selects RX8 yX8_setEnd yX8_setEnd, Cond.code yX8_setEnd cX8_setEnd 4 none, Cond.methodLink RX8 54 yX8_make, Cond.instanceMethod yX8_make, Cond.selects RX8 yX8_make yX8_make, Cond.code yX8_make cX8_make 6 none, Cond.methodLink RX8 115 yX8_recorded, Cond.instanceMethod yX8_recorded, Cond.selects RX8 yX8_recorded yX8_recorded, Cond.code yX8_recorded cX8_recorded 2 (some .int), Cond.methodLink RL 23 yX7_run, Cond.instanceMethod yX7_run, Cond.selects RX7 yX7_run yX7_run, Cond.code yX7_run cX7_run 2 (some .int), Cond.methodLink RX7 63 yX2_passTicks, Cond.instanceMethod yX2_passTicks]
def wsL_law_r13 : List Cond := [Cond.selects RX2 yX2_passTicks yX2_passTicks, Cond.code yX2_passTicks cX2_passTicks 4 (some .int), Cond.constant RX2 118 (1000000), Cond.fieldLink RX2 119 "FourPhases$Notes" "count" "I", Cond.methodLink RX2 120 yX2_letArriveUpTo, Cond.instanceMethod yX2_letArriveUpTo, Cond.selects RX2 yX2_letArriveUpTo yX2_letArriveUpTo, Cond.code yX2_letArriveUpTo cX2_letArriveUpTo 6 none, Cond.fieldLink RX2 148 "FourPhases$Link" "dataAtEnd" "I", Cond.methodLink RX2 123 yX2_isQuiet, Cond.instanceMethod yX2_isQuiet, Cond.selects RX2 yX2_isQuiet yX2_isQuiet, Cond.code yX2_isQuiet cX2_isQuiet 1 (some .boolean), Cond.methodLink RX2 127 yX0_firstTime, Cond.instanceMethod yX0_firstTime, Cond.selects RX0 yX0_firstTime yX0_firstTime, Cond.code yX0_firstTime cX0_firstTime 1 (some .int), Cond.methodLink RX2 130 yX0_firstLink, Cond.instanceMethod yX0_firstLink, Cond.selects RX0 yX0_firstLink yX0_firstLink, Cond.code yX0_firstLink cX0_firstLink 1 (some .int), Cond.methodLink RX2 133 yX0_firstWire, Cond.instanceMethod yX0_firstWire, Cond.selects RX0 yX0_firstWire yX0_firstWire]
def wsL_law_r14 : List Cond := [Cond.code yX0_firstWire cX0_firstWire 1 (some .int), Cond.methodLink RX2 136 yX0_firstValue, Cond.instanceMethod yX0_firstValue, Cond.selects RX0 yX0_firstValue yX0_firstValue, Cond.code yX0_firstValue cX0_firstValue 1 (some .int), Cond.methodLink RX2 139 yX0_removeFirst, Cond.instanceMethod yX0_removeFirst, Cond.selects RX0 yX0_removeFirst yX0_removeFirst, Cond.code yX0_removeFirst cX0_removeFirst 1 none, Cond.methodLink RX2 111 yX2_hasLink, Cond.instanceMethod yX2_hasLink, Cond.selects RX2 yX2_hasLink yX2_hasLink, Cond.code yX2_hasLink cX2_hasLink 2 (some .boolean), Cond.methodLink RX2 142 yX2_letRequestArrive, Cond.instanceMethod yX2_letRequestArrive, Cond.selects RX2 yX2_letRequestArrive yX2_letRequestArrive, Cond.code yX2_letRequestArrive cX2_letRequestArrive 3 none, Cond.fieldLink RX2 151 "FourPhases$Link" "requestAtEnd" "I", Cond.fieldLink RX2 161 "FourPhases$Link" "requestWaits" "Z", Cond.methodLink RX2 154 yX2_makeAnswer, Cond.instanceMethod yX2_makeAnswer, Cond.selects RX2 yX2_makeAnswer yX2_makeAnswer, Cond.code yX2_makeAnswer cX2_makeAnswer 4 none, Cond.fieldLink RX2 191 "FourPhases$Link" "answerAtEnd" "I"]
def wsL_law_r15 : List Cond := [Cond.methodLink RX2 158 yX2_noteWord, Cond.instanceMethod yX2_noteWord, Cond.selects RX2 yX2_noteWord yX2_noteWord, Cond.code yX2_noteWord cX2_noteWord 3 none, Cond.methodLink RX2 178 yX4_append, Cond.instanceMethod yX4_append, Cond.selects RX4 yX4_append yX4_append, Cond.code yX4_append cX4_append 5 none, Cond.methodLink RX2 164 yX2_takeWord, Cond.instanceMethod yX2_takeWord, Cond.selects RX2 yX2_takeWord yX2_takeWord, Cond.code yX2_takeWord cX2_takeWord 2 none, Cond.methodLink RX2 145 yX2_letAnswerArrive, Cond.instanceMethod yX2_letAnswerArrive, Cond.selects RX2 yX2_letAnswerArrive yX2_letAnswerArrive, Cond.code yX2_letAnswerArrive cX2_letAnswerArrive 4 none, Cond.fieldLink RX2 167 "FourPhases$Link" "answerAtBeginning" "I", Cond.methodLink RL 26 yX8_run, Cond.instanceMethod yX8_run, Cond.selects RX8 yX8_run yX8_run, Cond.code yX8_run cX8_run 2 (some .int), Cond.methodLink RX8 118 yX8_runs, Cond.instanceMethod yX8_runs, Cond.selects RX8 yX8_runs yX8_runs]
def wsL_law_r16 : List Cond := [Cond.code yX8_runs cX8_runs 3 (some .int), Cond.constant RX8 99 (1000000), Cond.methodLink RX8 100 yX8_goTo, Cond.instanceMethod yX8_goTo, Cond.selects RX8 yX8_goTo yX8_goTo, Cond.code yX8_goTo cX8_goTo 3 none, Cond.methodLink RX8 88 yX8_nextChange, Cond.instanceMethod yX8_nextChange, Cond.selects RX8 yX8_nextChange yX8_nextChange, Cond.code yX8_nextChange cX8_nextChange 3 (some .int), Cond.methodLink RX8 78 yX8_whenOf, Cond.instanceMethod yX8_whenOf, Cond.selects RX8 yX8_whenOf yX8_whenOf, Cond.code yX8_whenOf cX8_whenOf 2 (some .int), Cond.methodLink RX8 92 yX8_arrive, Cond.instanceMethod yX8_arrive, Cond.selects RX8 yX8_arrive yX8_arrive, Cond.code yX8_arrive cX8_arrive 7 none, Cond.methodLink RX8 82 yX8_requestArrives, Cond.instanceMethod yX8_requestArrives, Cond.selects RX8 yX8_requestArrives yX8_requestArrives, Cond.code yX8_requestArrives cX8_requestArrives 3 none, Cond.methodLink RX8 62 yX8_answer, Cond.instanceMethod yX8_answer]
def wsL_law_r17 : List Cond := [Cond.selects RX8 yX8_answer yX8_answer, Cond.code yX8_answer cX8_answer 4 none, Cond.methodLink RX8 69 yX8_note, Cond.instanceMethod yX8_note, Cond.selects RX8 yX8_note yX8_note, Cond.code yX8_note cX8_note 4 none, Cond.methodLink RX8 58 yX8_end, Cond.instanceMethod yX8_end, Cond.selects RX8 yX8_end yX8_end, Cond.code yX8_end cX8_end 3 (some .int), Cond.methodLink RX8 72 yX8_take, Cond.instanceMethod yX8_take, Cond.selects RX8 yX8_take yX8_take, Cond.code yX8_take cX8_take 2 none, Cond.methodLink RX8 85 yX8_answerArrives, Cond.instanceMethod yX8_answerArrives, Cond.selects RX8 yX8_answerArrives yX8_answerArrives, Cond.code yX8_answerArrives cX8_answerArrives 3 none, Cond.methodLink RL 27 yX7_finish, Cond.instanceMethod yX7_finish, Cond.selects RX7 yX7_finish yX7_finish, Cond.code yX7_finish cX7_finish 1 (some .int), Cond.constant RX7 70 (2000000000), Cond.fieldLink RX7 74 "FourPhases$Line" "time" "I"]
def wsL_law_r18 : List Cond := [Cond.constant RX7 78 (1000000), Cond.methodLink RX7 66 yX2_isQuiet, Cond.methodLink RX7 71 yX2_letArriveUpTo, Cond.methodLink RL 31 yX8_finish, Cond.instanceMethod yX8_finish, Cond.selects RX8 yX8_finish yX8_finish, Cond.code yX8_finish cX8_finish 2 (some .int), Cond.methodLink RX8 121 yX8_settle, Cond.instanceMethod yX8_settle, Cond.selects RX8 yX8_settle yX8_settle, Cond.code yX8_settle cX8_settle 3 (some .int), Cond.methodLink RX8 124 yX8_takeBack, Cond.instanceMethod yX8_takeBack, Cond.selects RX8 yX8_takeBack yX8_takeBack, Cond.code yX8_takeBack cX8_takeBack 2 none, Cond.methodLink RL 32 yX7_setDelay, Cond.instanceMethod yX7_setDelay, Cond.selects RX7 yX7_setDelay yX7_setDelay, Cond.code yX7_setDelay cX7_setDelay 4 (some .int), Cond.methodLink RX7 79 yX2_changeDelay, Cond.instanceMethod yX2_changeDelay, Cond.selects RX2 yX2_changeDelay yX2_changeDelay, Cond.code yX2_changeDelay cX2_changeDelay 5 (some .int), Cond.methodLink RL 36 yX8_setDelay]
def wsL_law_r19 : List Cond := [Cond.instanceMethod yX8_setDelay, Cond.selects RX8 yX8_setDelay yX8_setDelay, Cond.code yX8_setDelay cX8_setDelay 4 (some .int), Cond.methodLink RX8 127 yX8_setsDelay, Cond.instanceMethod yX8_setsDelay, Cond.selects RX8 yX8_setsDelay yX8_setsDelay, Cond.code yX8_setsDelay cX8_setsDelay 6 (some .int), Cond.methodLink RX8 103 yX8_isLink, Cond.instanceMethod yX8_isLink, Cond.selects RX8 yX8_isLink yX8_isLink, Cond.code yX8_isLink cX8_isLink 2 (some .boolean), Cond.methodLink RX8 106 yX8_isWire, Cond.static yX8_isWire, Cond.code yX8_isWire cX8_isWire 1 (some .boolean), Cond.methodLink RL 37 yX7_set, Cond.instanceMethod yX7_set, Cond.selects RX7 yX7_set yX7_set, Cond.code yX7_set cX7_set 5 (some .int), Cond.fieldLink RX7 83 "FourPhases$Line" "settings" "[I", Cond.methodLink RL 40 yX8_set, Cond.instanceMethod yX8_set, Cond.selects RX8 yX8_set yX8_set, Cond.code yX8_set cX8_set 4 (some .int), Cond.methodLink RL 41 yX7_type]
def wsL_law_r20 : List Cond := [Cond.instanceMethod yX7_type, Cond.selects RX7 yX7_type yX7_type, Cond.code yX7_type cX7_type 2 (some .int), Cond.methodLink RX7 87 yX6_append, Cond.instanceMethod yX6_append, Cond.selects RX6 yX6_append yX6_append, Cond.code yX6_append cX6_append 2 (some .int), Cond.fieldLink RX6 25 "FourPhases$Text" "length" "I", Cond.methodLink RL 45 yX8_type, Cond.instanceMethod yX8_type, Cond.selects RX8 yX8_type yX8_type, Cond.code yX8_type cX8_type 2 (some .int), Cond.fieldLink RX8 131 "FourPhasesModel" "length" "I", Cond.methodLink RL 46 yX7_clearText, Cond.instanceMethod yX7_clearText, Cond.selects RX7 yX7_clearText yX7_clearText, Cond.code yX7_clearText cX7_clearText 2 (some .int), Cond.fieldLink RX7 91 "FourPhases$Text" "length" "I", Cond.methodLink RL 49 yX8_clearText, Cond.instanceMethod yX8_clearText, Cond.selects RX8 yX8_clearText yX8_clearText, Cond.code yX8_clearText cX8_clearText 2 (some .int), Cond.methodLink RL 50 yX7_perform, Cond.instanceMethod yX7_perform]
def wsL_law_r21 : List Cond := [Cond.selects RX7 yX7_perform yX7_perform, Cond.code yX7_perform cX7_perform 4 (some .int), Cond.fieldLink RX7 97 "FourPhases$Text" "orders" "I", Cond.fieldLink RX7 100 "FourPhases$Text" "letters" "[I", Cond.fieldLink RX7 103 "FourPhases$Text" "values" "[I", Cond.fieldLink RX7 106 "FourPhases$Text" "targets" "[I", Cond.methodLink RX7 94 yX6_readOrders, Cond.instanceMethod yX6_readOrders, Cond.selects RX6 yX6_readOrders yX6_readOrders, Cond.code yX6_readOrders cX6_readOrders 2 (some .int), Cond.fieldLink RX6 29 "FourPhases$Text" "place" "I", Cond.fieldLink RX6 32 "FourPhases$Text" "orders" "I", Cond.methodLink RX6 35 yX6_readOrder, Cond.instanceMethod yX6_readOrder, Cond.selects RX6 yX6_readOrder yX6_readOrder, Cond.code yX6_readOrder cX6_readOrder 2 (some .boolean), Cond.methodLink RX6 43 yX6_current, Cond.instanceMethod yX6_current, Cond.selects RX6 yX6_current yX6_current, Cond.code yX6_current cX6_current 1 (some .int), Cond.methodLink RX6 47 yX6_readDigit, Cond.instanceMethod yX6_readDigit, Cond.selects RX6 yX6_readDigit yX6_readDigit, Cond.code yX6_readDigit cX6_readDigit 3 (some .int)]
def wsL_law_r22 : List Cond := [Cond.methodLink RX6 61 yX6_digitOf, Cond.instanceMethod yX6_digitOf, Cond.selects RX6 yX6_digitOf yX6_digitOf, Cond.code yX6_digitOf cX6_digitOf 2 (some .int), Cond.methodLink RX6 51 yX6_store, Cond.instanceMethod yX6_store, Cond.selects RX6 yX6_store yX6_store, Cond.code yX6_store cX6_store 5 (some .boolean), Cond.methodLink RX6 55 yX6_readNumber, Cond.instanceMethod yX6_readNumber, Cond.selects RX6 yX6_readNumber yX6_readNumber, Cond.code yX6_readNumber cX6_readNumber 6 (some .int), Cond.methodLink RX6 58 yX6_readDelay, Cond.instanceMethod yX6_readDelay, Cond.selects RX6 yX6_readDelay yX6_readDelay, Cond.code yX6_readDelay cX6_readDelay 3 (some .boolean), Cond.methodLink RX6 39 yX6_readSign, Cond.instanceMethod yX6_readSign, Cond.selects RX6 yX6_readSign yX6_readSign, Cond.code yX6_readSign cX6_readSign 2 (some .boolean), Cond.methodLink RL 53 yX8_perform, Cond.instanceMethod yX8_perform, Cond.selects RX8 yX8_perform yX8_perform, Cond.code yX8_perform cX8_perform 4 (some .int)]
def wsL_law_r23 : List Cond := [Cond.fieldLink RX8 134 "FourPhasesModel" "at" "I", Cond.methodLink RX8 162 yX8_findFault, Cond.instanceMethod yX8_findFault, Cond.selects RX8 yX8_findFault yX8_findFault, Cond.code yX8_findFault cX8_findFault 1 (some .int), Cond.methodLink RX8 159 yX8_readsOrder, Cond.instanceMethod yX8_readsOrder, Cond.selects RX8 yX8_readsOrder yX8_readsOrder, Cond.code yX8_readsOrder cX8_readsOrder 1 (some .boolean), Cond.fieldLink RX8 149 "FourPhasesModel" "sign" "I", Cond.fieldLink RX8 140 "FourPhasesModel" "second" "I", Cond.methodLink RX8 137 yX8_code, Cond.instanceMethod yX8_code, Cond.selects RX8 yX8_code yX8_code, Cond.code yX8_code cX8_code 1 (some .int), Cond.methodLink RX8 152 yX8_hex, Cond.static yX8_hex, Cond.code yX8_hex cX8_hex 1 (some .int), Cond.methodLink RX8 146 yX8_readsNumber, Cond.instanceMethod yX8_readsNumber, Cond.selects RX8 yX8_readsNumber yX8_readsNumber, Cond.code yX8_readsNumber cX8_readsNumber 3 (some .boolean), Cond.methodLink RX8 155 yX8_readsDelay, Cond.instanceMethod yX8_readsDelay]
def wsL_law_r24 : List Cond := [Cond.selects RX8 yX8_readsDelay yX8_readsDelay, Cond.code yX8_readsDelay cX8_readsDelay 1 (some .boolean), Cond.fieldLink RX8 143 "FourPhasesModel" "first" "I", Cond.methodLink RX8 165 yX8_doesOrder, Cond.instanceMethod yX8_doesOrder, Cond.selects RX8 yX8_doesOrder yX8_doesOrder, Cond.code yX8_doesOrder cX8_doesOrder 1 (some .int), Cond.methodLink RL 54 yX7_undo, Cond.instanceMethod yX7_undo, Cond.selects RX7 yX7_undo yX7_undo, Cond.code yX7_undo cX7_undo 1 (some .int), Cond.methodLink RX7 109 yX1_giveBack, Cond.instanceMethod yX1_giveBack, Cond.selects RX1 yX1_giveBack yX1_giveBack, Cond.code yX1_giveBack cX1_giveBack 2 (some .int), Cond.methodLink RL 57 yX8_undo, Cond.instanceMethod yX8_undo, Cond.selects RX8 yX8_undo yX8_undo, Cond.code yX8_undo cX8_undo 2 (some .int), Cond.methodLink RL 58 yX7_keep, Cond.instanceMethod yX7_keep, Cond.selects RX7 yX7_keep yX7_keep, Cond.code yX7_keep cX7_keep 1 (some .int), Cond.methodLink RL 61 yX8_keep]
def wsL_law_r25 : List Cond := [Cond.instanceMethod yX8_keep, Cond.selects RX8 yX8_keep yX8_keep, Cond.code yX8_keep cX8_keep 2 (some .int), Cond.fieldLink RX8 43 "FourPhasesModel" "hasSnapshot" "Z", Cond.methodLink RL 62 yX7_restore, Cond.instanceMethod yX7_restore, Cond.selects RX7 yX7_restore yX7_restore, Cond.code yX7_restore cX7_restore 1 (some .int), Cond.methodLink RL 65 yX8_restore, Cond.instanceMethod yX8_restore, Cond.selects RX8 yX8_restore yX8_restore, Cond.code yX8_restore cX8_restore 2 (some .int), Cond.methodLink RL 66 yX7_link, Cond.instanceMethod yX7_link, Cond.selects RX7 yX7_link yX7_link, Cond.code yX7_link cX7_link 3 (some .int), Cond.fieldLink RX7 117 "FourPhases$Line" "links" "[LFourPhases$Link;", Cond.methodLink RX7 113 yX2_hasLink, Cond.methodLink RX7 121 yX3_tell, Cond.instanceMethod yX3_tell, Cond.selects RX3 yX3_tell yX3_tell, Cond.code yX3_tell cX3_tell 3 (some .int), Cond.methodLink RL 69 yX8_link, Cond.instanceMethod yX8_link]
def wsL_law_r26 : List Cond := [Cond.selects RX8 yX8_link yX8_link, Cond.code yX8_link cX8_link 3 (some .int), Cond.methodLink RX8 168 yX8_tellsLink, Cond.instanceMethod yX8_tellsLink, Cond.selects RX8 yX8_tellsLink yX8_tellsLink, Cond.code yX8_tellsLink cX8_tellsLink 4 (some .int), Cond.methodLink RL 70 yX7_stage, Cond.instanceMethod yX7_stage, Cond.selects RX7 yX7_stage yX7_stage, Cond.code yX7_stage cX7_stage 3 (some .int), Cond.fieldLink RX7 126 "FourPhases$Line" "stages" "I", Cond.fieldLink RX7 129 "FourPhases$Line" "held" "[I", Cond.methodLink RL 73 yX8_stage, Cond.instanceMethod yX8_stage, Cond.selects RX8 yX8_stage yX8_stage, Cond.code yX8_stage cX8_stage 2 (some .int), Cond.methodLink RL 74 yX7_waiting, Cond.instanceMethod yX7_waiting, Cond.selects RX7 yX7_waiting yX7_waiting, Cond.code yX7_waiting cX7_waiting 4 (some .int), Cond.fieldLink RX7 132 "FourPhases$Line" "rows" "[LFourPhases$Row;", Cond.methodLink RX7 136 yX5_wordAt, Cond.instanceMethod yX5_wordAt, Cond.selects RX5 yX5_wordAt yX5_wordAt]
def wsL_law_r27 : List Cond := [Cond.code yX5_wordAt cX5_wordAt 2 (some .int), Cond.methodLink RL 77 yX8_waiting, Cond.instanceMethod yX8_waiting, Cond.selects RX8 yX8_waiting yX8_waiting, Cond.code yX8_waiting cX8_waiting 3 (some .int), Cond.methodLink RL 78 yX7_noted, Cond.instanceMethod yX7_noted, Cond.selects RX7 yX7_noted yX7_noted, Cond.code yX7_noted cX7_noted 3 (some .int), Cond.fieldLink RX7 141 "FourPhases$Line" "notes" "LFourPhases$Notes;", Cond.methodLink RX7 145 yX4_tell, Cond.instanceMethod yX4_tell, Cond.selects RX4 yX4_tell yX4_tell, Cond.code yX4_tell cX4_tell 4 (some .int), Cond.methodLink RL 81 yX8_noted, Cond.instanceMethod yX8_noted, Cond.selects RX8 yX8_noted yX8_noted, Cond.code yX8_noted cX8_noted 3 (some .int), Cond.methodLink RL 82 yX7_total, Cond.instanceMethod yX7_total, Cond.selects RX7 yX7_total yX7_total, Cond.code yX7_total cX7_total 2 (some .int), Cond.fieldLink RX7 148 "FourPhases$Line" "underWay" "LFourPhases$Changes;", Cond.fieldLink RX7 152 "FourPhases$Changes" "count" "I"]
def wsL_law_r28 : List Cond := [Cond.fieldLink RX7 157 "FourPhases$Line" "offeredWords" "I", Cond.fieldLink RX7 160 "FourPhases$Notes" "count" "I", Cond.fieldLink RX7 161 "FourPhases$Notes" "rightCount" "I", Cond.fieldLink RX7 164 "FourPhases$Line" "arrivedChanges" "I", Cond.fieldLink RX7 167 "FourPhases$Line" "latestSender" "I", Cond.fieldLink RX7 170 "FourPhases$History" "count" "I", Cond.methodLink RL 85 yX8_total, Cond.instanceMethod yX8_total, Cond.selects RX8 yX8_total yX8_total, Cond.code yX8_total cX8_total 2 (some .int), Cond.methodLink RL 86 yX7_next, Cond.instanceMethod yX7_next, Cond.selects RX7 yX7_next yX7_next, Cond.code yX7_next cX7_next 1 (some .int), Cond.methodLink RX7 171 yX0_firstTime, Cond.methodLink RL 89 yX8_next, Cond.instanceMethod yX8_next, Cond.selects RX8 yX8_next yX8_next, Cond.code yX8_next cX8_next 2 (some .int), Cond.methodLink RL 90 yX7_quietIn, Cond.instanceMethod yX7_quietIn, Cond.selects RX7 yX7_quietIn yX7_quietIn, Cond.code yX7_quietIn cX7_quietIn 1 (some .int), Cond.methodLink RL 93 yX8_quietIn]
def wsL_law_r29 : List Cond := [Cond.instanceMethod yX8_quietIn, Cond.selects RX8 yX8_quietIn yX8_quietIn, Cond.code yX8_quietIn cX8_quietIn 2 (some .int), Cond.methodLink RL 94 yX7_ifLead, Cond.instanceMethod yX7_ifLead, Cond.selects RX7 yX7_ifLead yX7_ifLead, Cond.code yX7_ifLead cX7_ifLead 3 (some .int), Cond.methodLink RX7 174 yX7_settleTrialWithLead, Cond.instanceMethod yX7_settleTrialWithLead, Cond.selects RX7 yX7_settleTrialWithLead yX7_settleTrialWithLead, Cond.code yX7_settleTrialWithLead cX7_settleTrialWithLead 2 none, Cond.methodLink RX7 177 yX7_wrongInTrial, Cond.instanceMethod yX7_wrongInTrial, Cond.selects RX7 yX7_wrongInTrial yX7_wrongInTrial, Cond.code yX7_wrongInTrial cX7_wrongInTrial 1 (some .int), Cond.methodLink RX7 189 yX4_wrongWords, Cond.instanceMethod yX4_wrongWords, Cond.selects RX4 yX4_wrongWords yX4_wrongWords, Cond.code yX4_wrongWords cX4_wrongWords 1 (some .int), Cond.methodLink RL 97 yX8_ifLead, Cond.instanceMethod yX8_ifLead, Cond.selects RX8 yX8_ifLead yX8_ifLead, Cond.code yX8_ifLead cX8_ifLead 3 (some .int), Cond.methodLink RX8 171 yX8_withLead]
def wsL_law_r30 : List Cond := [Cond.instanceMethod yX8_withLead, Cond.selects RX8 yX8_withLead yX8_withLead, Cond.code yX8_withLead cX8_withLead 6 (some .int), Cond.methodLink RL 98 yX7_leastLead, Cond.instanceMethod yX7_leastLead, Cond.selects RX7 yX7_leastLead yX7_leastLead, Cond.code yX7_leastLead cX7_leastLead 2 (some .int), Cond.methodLink RL 101 yX8_leastLead, Cond.instanceMethod yX8_leastLead, Cond.selects RX8 yX8_leastLead yX8_leastLead, Cond.code yX8_leastLead cX8_leastLead 2 (some .int), Cond.methodLink RL 102 yX7_dearest, Cond.instanceMethod yX7_dearest, Cond.selects RX7 yX7_dearest yX7_dearest, Cond.code yX7_dearest cX7_dearest 6 (some .int), Cond.fieldLink RX7 180 "FourPhases$Link" "delays" "[I", Cond.methodLink RX7 183 yX7_quietTimeWithLess, Cond.instanceMethod yX7_quietTimeWithLess, Cond.selects RX7 yX7_quietTimeWithLess yX7_quietTimeWithLess, Cond.code yX7_quietTimeWithLess cX7_quietTimeWithLess 3 (some .int), Cond.methodLink RL 105 yX8_dearest, Cond.instanceMethod yX8_dearest, Cond.selects RX8 yX8_dearest yX8_dearest, Cond.code yX8_dearest cX8_dearest 6 (some .int)]
def wsL_law : List Cond := (wsL_law_r1 ++ (wsL_law_r2 ++ (wsL_law_r3 ++ (wsL_law_r4 ++ (wsL_law_r5 ++ (wsL_law_r6 ++ (wsL_law_r7 ++ (wsL_law_r8 ++ (wsL_law_r9 ++ (wsL_law_r10 ++ (wsL_law_r11 ++ (wsL_law_r12 ++ (wsL_law_r13 ++ (wsL_law_r14 ++ (wsL_law_r15 ++ (wsL_law_r16 ++ (wsL_law_r17 ++ (wsL_law_r18 ++ (wsL_law_r19 ++ (wsL_law_r20 ++ (wsL_law_r21 ++ (wsL_law_r22 ++ (wsL_law_r23 ++ (wsL_law_r24 ++ (wsL_law_r25 ++ (wsL_law_r26 ++ (wsL_law_r27 ++ (wsL_law_r28 ++ (wsL_law_r29 ++ wsL_law_r30))))))))))))))))))))))))))))) ++ wsX70 ++ wsX80 ++ wsX20 ++ wsX10 ++ wsX60 ++ wsX00 ++ wsX40 ++ wsX30 ++ wsX50 ++ ([] : List Cond)
abbrev vwCl : List vw_C := [(RX0, TX0, 4), (RX1, TX1, 2), (RX2, TX2, 12), (RX3, TX3, 10), (RX4, TX4, 5), (RX5, TX5, 2), (RX6, TX6, 7), (RX7, TX7, 6), (RX8, TX8, 12)]
end
section
theorem dX0_init_0 : decode cX0_init 0 = .ok (.aload_n 0, 1) := by decide +kernel
theorem dX0_init_1 : decode cX0_init 1 = .ok (.invokespecial 3, 3) := by decide +kernel
theorem dX0_init_4 : decode cX0_init 4 = .ok (.aload_n 0, 1) := by decide +kernel
theorem dX0_init_5 : decode cX0_init 5 = .ok (.bipush 64, 2) := by decide +kernel
theorem dX0_init_7 : decode cX0_init 7 = .ok (.newarray .int, 2) := by decide +kernel
theorem dX0_init_9 : decode cX0_init 9 = .ok (.putfield 9, 3) := by decide +kernel
theorem dX0_init_12 : decode cX0_init 12 = .ok (.aload_n 0, 1) := by decide +kernel
theorem dX0_init_13 : decode cX0_init 13 = .ok (.bipush 64, 2) := by decide +kernel
theorem dX0_init_15 : decode cX0_init 15 = .ok (.newarray .int, 2) := by decide +kernel
theorem dX0_init_17 : decode cX0_init 17 = .ok (.putfield 15, 3) := by decide +kernel
theorem dX0_init_20 : decode cX0_init 20 = .ok (.return_, 1) := by decide +kernel
theorem dX0_copyFrom_0 : decode cX0_copyFrom 0 = .ok (.aload_n 0, 1) := by decide +kernel
theorem dX0_copyFrom_1 : decode cX0_copyFrom 1 = .ok (.aload_n 1, 1) := by decide +kernel
theorem dX0_copyFrom_2 : decode cX0_copyFrom 2 = .ok (.getfield 18, 3) := by decide +kernel
theorem dX0_copyFrom_5 : decode cX0_copyFrom 5 = .ok (.putfield 18, 3) := by decide +kernel
theorem dX0_copyFrom_8 : decode cX0_copyFrom 8 = .ok (.aload_n 0, 1) := by decide +kernel
theorem dX0_copyFrom_9 : decode cX0_copyFrom 9 = .ok (.aload_n 1, 1) := by decide +kernel
theorem dX0_copyFrom_10 : decode cX0_copyFrom 10 = .ok (.getfield 22, 3) := by decide +kernel
theorem dX0_copyFrom_13 : decode cX0_copyFrom 13 = .ok (.putfield 22, 3) := by decide +kernel
theorem dX0_copyFrom_16 : decode cX0_copyFrom 16 = .ok (.aload_n 1, 1) := by decide +kernel
theorem dX0_copyFrom_17 : decode cX0_copyFrom 17 = .ok (.getfield 9, 3) := by decide +kernel
theorem dX0_copyFrom_20 : decode cX0_copyFrom 20 = .ok (.iconst 0, 1) := by decide +kernel
theorem dX0_copyFrom_21 : decode cX0_copyFrom 21 = .ok (.aload_n 0, 1) := by decide +kernel
theorem dX0_copyFrom_22 : decode cX0_copyFrom 22 = .ok (.getfield 9, 3) := by decide +kernel
theorem dX0_copyFrom_25 : decode cX0_copyFrom 25 = .ok (.iconst 0, 1) := by decide +kernel
theorem dX0_copyFrom_26 : decode cX0_copyFrom 26 = .ok (.bipush 64, 2) := by decide +kernel
theorem dX0_copyFrom_28 : decode cX0_copyFrom 28 = .ok (.invokestatic 25, 3) := by decide +kernel
theorem dX0_copyFrom_31 : decode cX0_copyFrom 31 = .ok (.aload_n 1, 1) := by decide +kernel
theorem dX0_copyFrom_32 : decode cX0_copyFrom 32 = .ok (.getfield 15, 3) := by decide +kernel
theorem dX0_copyFrom_35 : decode cX0_copyFrom 35 = .ok (.iconst 0, 1) := by decide +kernel
theorem dX0_copyFrom_36 : decode cX0_copyFrom 36 = .ok (.aload_n 0, 1) := by decide +kernel
theorem dX0_copyFrom_37 : decode cX0_copyFrom 37 = .ok (.getfield 15, 3) := by decide +kernel
theorem dX0_copyFrom_40 : decode cX0_copyFrom 40 = .ok (.iconst 0, 1) := by decide +kernel
theorem dX0_copyFrom_41 : decode cX0_copyFrom 41 = .ok (.bipush 64, 2) := by decide +kernel
theorem dX0_copyFrom_43 : decode cX0_copyFrom 43 = .ok (.invokestatic 25, 3) := by decide +kernel
theorem dX0_copyFrom_46 : decode cX0_copyFrom 46 = .ok (.return_, 1) := by decide +kernel
theorem dX0_insert_0 : decode cX0_insert 0 = .ok (.aload_n 0, 1) := by decide +kernel
theorem dX0_insert_1 : decode cX0_insert 1 = .ok (.getfield 22, 3) := by decide +kernel
theorem dX0_insert_4 : decode cX0_insert 4 = .ok (.bipush 64, 2) := by decide +kernel
theorem dX0_insert_6 : decode cX0_insert 6 = .ok (.if_icmp .lt 4, 3) := by decide +kernel
theorem dX0_insert_9 : decode cX0_insert 9 = .ok (.return_, 1) := by decide +kernel
theorem dX0_insert_10 : decode cX0_insert 10 = .ok (.aload_n 0, 1) := by decide +kernel
theorem dX0_insert_11 : decode cX0_insert 11 = .ok (.getfield 22, 3) := by decide +kernel
theorem dX0_insert_14 : decode cX0_insert 14 = .ok (.istore 5, 2) := by decide +kernel
theorem dX0_insert_16 : decode cX0_insert 16 = .ok (.iload 5, 2) := by decide +kernel
theorem dX0_insert_18 : decode cX0_insert 18 = .ok (.ifCond .le 84, 3) := by decide +kernel
theorem dX0_insert_21 : decode cX0_insert 21 = .ok (.aload_n 0, 1) := by decide +kernel
theorem dX0_insert_22 : decode cX0_insert 22 = .ok (.getfield 9, 3) := by decide +kernel
theorem dX0_insert_25 : decode cX0_insert 25 = .ok (.aload_n 0, 1) := by decide +kernel
theorem dX0_insert_26 : decode cX0_insert 26 = .ok (.getfield 18, 3) := by decide +kernel
theorem dX0_insert_29 : decode cX0_insert 29 = .ok (.iload 5, 2) := by decide +kernel
theorem dX0_insert_31 : decode cX0_insert 31 = .ok (.iadd, 1) := by decide +kernel
theorem dX0_insert_32 : decode cX0_insert 32 = .ok (.iconst 1, 1) := by decide +kernel
theorem dX0_insert_33 : decode cX0_insert 33 = .ok (.isub, 1) := by decide +kernel
theorem dX0_insert_34 : decode cX0_insert 34 = .ok (.bipush 64, 2) := by decide +kernel
theorem dX0_insert_36 : decode cX0_insert 36 = .ok (.irem, 1) := by decide +kernel
theorem dX0_insert_37 : decode cX0_insert 37 = .ok (.iaload, 1) := by decide +kernel
theorem dX0_insert_38 : decode cX0_insert 38 = .ok (.iload_n 1, 1) := by decide +kernel
theorem dX0_insert_39 : decode cX0_insert 39 = .ok (.if_icmp .le 63, 3) := by decide +kernel
theorem dX0_insert_42 : decode cX0_insert 42 = .ok (.aload_n 0, 1) := by decide +kernel
theorem dX0_insert_43 : decode cX0_insert 43 = .ok (.getfield 18, 3) := by decide +kernel
theorem dX0_insert_46 : decode cX0_insert 46 = .ok (.iload 5, 2) := by decide +kernel
theorem dX0_insert_48 : decode cX0_insert 48 = .ok (.iadd, 1) := by decide +kernel
theorem dX0_insert_49 : decode cX0_insert 49 = .ok (.iconst 1, 1) := by decide +kernel
theorem dX0_insert_50 : decode cX0_insert 50 = .ok (.isub, 1) := by decide +kernel
theorem dX0_insert_51 : decode cX0_insert 51 = .ok (.bipush 64, 2) := by decide +kernel
theorem dX0_insert_53 : decode cX0_insert 53 = .ok (.irem, 1) := by decide +kernel
theorem dX0_insert_54 : decode cX0_insert 54 = .ok (.istore 6, 2) := by decide +kernel
theorem dX0_insert_56 : decode cX0_insert 56 = .ok (.aload_n 0, 1) := by decide +kernel
theorem dX0_insert_57 : decode cX0_insert 57 = .ok (.getfield 18, 3) := by decide +kernel
theorem dX0_insert_60 : decode cX0_insert 60 = .ok (.iload 5, 2) := by decide +kernel
theorem dX0_insert_62 : decode cX0_insert 62 = .ok (.iadd, 1) := by decide +kernel
theorem dX0_insert_63 : decode cX0_insert 63 = .ok (.bipush 64, 2) := by decide +kernel
theorem dX0_insert_65 : decode cX0_insert 65 = .ok (.irem, 1) := by decide +kernel
theorem dX0_insert_66 : decode cX0_insert 66 = .ok (.istore 7, 2) := by decide +kernel
theorem dX0_insert_68 : decode cX0_insert 68 = .ok (.aload_n 0, 1) := by decide +kernel
theorem dX0_insert_69 : decode cX0_insert 69 = .ok (.getfield 9, 3) := by decide +kernel
theorem dX0_insert_72 : decode cX0_insert 72 = .ok (.iload 7, 2) := by decide +kernel
theorem dX0_insert_74 : decode cX0_insert 74 = .ok (.aload_n 0, 1) := by decide +kernel
theorem dX0_insert_75 : decode cX0_insert 75 = .ok (.getfield 9, 3) := by decide +kernel
theorem dX0_insert_78 : decode cX0_insert 78 = .ok (.iload 6, 2) := by decide +kernel
theorem dX0_insert_80 : decode cX0_insert 80 = .ok (.iaload, 1) := by decide +kernel
theorem dX0_insert_81 : decode cX0_insert 81 = .ok (.iastore, 1) := by decide +kernel
theorem dX0_insert_82 : decode cX0_insert 82 = .ok (.aload_n 0, 1) := by decide +kernel
theorem dX0_insert_83 : decode cX0_insert 83 = .ok (.getfield 15, 3) := by decide +kernel
theorem dX0_insert_86 : decode cX0_insert 86 = .ok (.iload 7, 2) := by decide +kernel
theorem dX0_insert_88 : decode cX0_insert 88 = .ok (.aload_n 0, 1) := by decide +kernel
theorem dX0_insert_89 : decode cX0_insert 89 = .ok (.getfield 15, 3) := by decide +kernel
theorem dX0_insert_92 : decode cX0_insert 92 = .ok (.iload 6, 2) := by decide +kernel
theorem dX0_insert_94 : decode cX0_insert 94 = .ok (.iaload, 1) := by decide +kernel
theorem dX0_insert_95 : decode cX0_insert 95 = .ok (.iastore, 1) := by decide +kernel
theorem dX0_insert_96 : decode cX0_insert 96 = .ok (.iinc 5 (-1), 3) := by decide +kernel
theorem dX0_insert_99 : decode cX0_insert 99 = .ok (.goto (-83), 3) := by decide +kernel
theorem dX0_insert_102 : decode cX0_insert 102 = .ok (.aload_n 0, 1) := by decide +kernel
theorem dX0_insert_103 : decode cX0_insert 103 = .ok (.getfield 18, 3) := by decide +kernel
theorem dX0_insert_106 : decode cX0_insert 106 = .ok (.iload 5, 2) := by decide +kernel
theorem dX0_insert_108 : decode cX0_insert 108 = .ok (.iadd, 1) := by decide +kernel
theorem dX0_insert_109 : decode cX0_insert 109 = .ok (.bipush 64, 2) := by decide +kernel
theorem dX0_insert_111 : decode cX0_insert 111 = .ok (.irem, 1) := by decide +kernel
theorem dX0_insert_112 : decode cX0_insert 112 = .ok (.istore 6, 2) := by decide +kernel
theorem dX0_insert_114 : decode cX0_insert 114 = .ok (.aload_n 0, 1) := by decide +kernel
theorem dX0_insert_115 : decode cX0_insert 115 = .ok (.getfield 9, 3) := by decide +kernel
theorem dX0_insert_118 : decode cX0_insert 118 = .ok (.iload 6, 2) := by decide +kernel
theorem dX0_insert_120 : decode cX0_insert 120 = .ok (.iload_n 1, 1) := by decide +kernel
theorem dX0_insert_121 : decode cX0_insert 121 = .ok (.iastore, 1) := by decide +kernel
theorem dX0_insert_122 : decode cX0_insert 122 = .ok (.aload_n 0, 1) := by decide +kernel
theorem dX0_insert_123 : decode cX0_insert 123 = .ok (.getfield 15, 3) := by decide +kernel
theorem dX0_insert_126 : decode cX0_insert 126 = .ok (.iload 6, 2) := by decide +kernel
theorem dX0_insert_128 : decode cX0_insert 128 = .ok (.iload_n 2, 1) := by decide +kernel
theorem dX0_insert_129 : decode cX0_insert 129 = .ok (.iconst 3, 1) := by decide +kernel
theorem dX0_insert_130 : decode cX0_insert 130 = .ok (.imul, 1) := by decide +kernel
theorem dX0_insert_131 : decode cX0_insert 131 = .ok (.iload_n 3, 1) := by decide +kernel
theorem dX0_insert_132 : decode cX0_insert 132 = .ok (.iadd, 1) := by decide +kernel
theorem dX0_insert_133 : decode cX0_insert 133 = .ok (.bipush 32, 2) := by decide +kernel
theorem dX0_insert_135 : decode cX0_insert 135 = .ok (.imul, 1) := by decide +kernel
theorem dX0_insert_136 : decode cX0_insert 136 = .ok (.iload 4, 2) := by decide +kernel
theorem dX0_insert_138 : decode cX0_insert 138 = .ok (.iadd, 1) := by decide +kernel
theorem dX0_insert_139 : decode cX0_insert 139 = .ok (.iastore, 1) := by decide +kernel
theorem dX0_insert_140 : decode cX0_insert 140 = .ok (.aload_n 0, 1) := by decide +kernel
theorem dX0_insert_141 : decode cX0_insert 141 = .ok (.dup, 1) := by decide +kernel
theorem dX0_insert_142 : decode cX0_insert 142 = .ok (.getfield 22, 3) := by decide +kernel
theorem dX0_insert_145 : decode cX0_insert 145 = .ok (.iconst 1, 1) := by decide +kernel
theorem dX0_insert_146 : decode cX0_insert 146 = .ok (.iadd, 1) := by decide +kernel
theorem dX0_insert_147 : decode cX0_insert 147 = .ok (.putfield 22, 3) := by decide +kernel
theorem dX0_insert_150 : decode cX0_insert 150 = .ok (.return_, 1) := by decide +kernel
theorem dX0_firstTime_0 : decode cX0_firstTime 0 = .ok (.aload_n 0, 1) := by decide +kernel
theorem dX0_firstTime_1 : decode cX0_firstTime 1 = .ok (.getfield 9, 3) := by decide +kernel
theorem dX0_firstTime_4 : decode cX0_firstTime 4 = .ok (.aload_n 0, 1) := by decide +kernel
theorem dX0_firstTime_5 : decode cX0_firstTime 5 = .ok (.getfield 18, 3) := by decide +kernel
theorem dX0_firstTime_8 : decode cX0_firstTime 8 = .ok (.iaload, 1) := by decide +kernel
theorem dX0_firstTime_9 : decode cX0_firstTime 9 = .ok (.ireturn, 1) := by decide +kernel
theorem dX0_firstLink_0 : decode cX0_firstLink 0 = .ok (.aload_n 0, 1) := by decide +kernel
theorem dX0_firstLink_1 : decode cX0_firstLink 1 = .ok (.getfield 15, 3) := by decide +kernel
theorem dX0_firstLink_4 : decode cX0_firstLink 4 = .ok (.aload_n 0, 1) := by decide +kernel
theorem dX0_firstLink_5 : decode cX0_firstLink 5 = .ok (.getfield 18, 3) := by decide +kernel
theorem dX0_firstLink_8 : decode cX0_firstLink 8 = .ok (.iaload, 1) := by decide +kernel
theorem dX0_firstLink_9 : decode cX0_firstLink 9 = .ok (.bipush 32, 2) := by decide +kernel
theorem dX0_firstLink_11 : decode cX0_firstLink 11 = .ok (.idiv, 1) := by decide +kernel
theorem dX0_firstLink_12 : decode cX0_firstLink 12 = .ok (.iconst 3, 1) := by decide +kernel
theorem dX0_firstLink_13 : decode cX0_firstLink 13 = .ok (.idiv, 1) := by decide +kernel
theorem dX0_firstLink_14 : decode cX0_firstLink 14 = .ok (.ireturn, 1) := by decide +kernel
theorem dX0_firstWire_0 : decode cX0_firstWire 0 = .ok (.aload_n 0, 1) := by decide +kernel
theorem dX0_firstWire_1 : decode cX0_firstWire 1 = .ok (.getfield 15, 3) := by decide +kernel
theorem dX0_firstWire_4 : decode cX0_firstWire 4 = .ok (.aload_n 0, 1) := by decide +kernel
theorem dX0_firstWire_5 : decode cX0_firstWire 5 = .ok (.getfield 18, 3) := by decide +kernel
theorem dX0_firstWire_8 : decode cX0_firstWire 8 = .ok (.iaload, 1) := by decide +kernel
theorem dX0_firstWire_9 : decode cX0_firstWire 9 = .ok (.bipush 32, 2) := by decide +kernel
theorem dX0_firstWire_11 : decode cX0_firstWire 11 = .ok (.idiv, 1) := by decide +kernel
theorem dX0_firstWire_12 : decode cX0_firstWire 12 = .ok (.iconst 3, 1) := by decide +kernel
theorem dX0_firstWire_13 : decode cX0_firstWire 13 = .ok (.irem, 1) := by decide +kernel
theorem dX0_firstWire_14 : decode cX0_firstWire 14 = .ok (.ireturn, 1) := by decide +kernel
theorem dX0_firstValue_0 : decode cX0_firstValue 0 = .ok (.aload_n 0, 1) := by decide +kernel
theorem dX0_firstValue_1 : decode cX0_firstValue 1 = .ok (.getfield 15, 3) := by decide +kernel
theorem dX0_firstValue_4 : decode cX0_firstValue 4 = .ok (.aload_n 0, 1) := by decide +kernel
theorem dX0_firstValue_5 : decode cX0_firstValue 5 = .ok (.getfield 18, 3) := by decide +kernel
theorem dX0_firstValue_8 : decode cX0_firstValue 8 = .ok (.iaload, 1) := by decide +kernel
theorem dX0_firstValue_9 : decode cX0_firstValue 9 = .ok (.bipush 32, 2) := by decide +kernel
theorem dX0_firstValue_11 : decode cX0_firstValue 11 = .ok (.irem, 1) := by decide +kernel
theorem dX0_firstValue_12 : decode cX0_firstValue 12 = .ok (.ireturn, 1) := by decide +kernel
theorem dX0_removeFirst_0 : decode cX0_removeFirst 0 = .ok (.aload_n 0, 1) := by decide +kernel
theorem dX0_removeFirst_1 : decode cX0_removeFirst 1 = .ok (.getfield 22, 3) := by decide +kernel
theorem dX0_removeFirst_4 : decode cX0_removeFirst 4 = .ok (.ifCond .le 26, 3) := by decide +kernel
theorem dX0_removeFirst_7 : decode cX0_removeFirst 7 = .ok (.aload_n 0, 1) := by decide +kernel
theorem dX0_removeFirst_8 : decode cX0_removeFirst 8 = .ok (.aload_n 0, 1) := by decide +kernel
theorem dX0_removeFirst_9 : decode cX0_removeFirst 9 = .ok (.getfield 18, 3) := by decide +kernel
theorem dX0_removeFirst_12 : decode cX0_removeFirst 12 = .ok (.iconst 1, 1) := by decide +kernel
theorem dX0_removeFirst_13 : decode cX0_removeFirst 13 = .ok (.iadd, 1) := by decide +kernel
theorem dX0_removeFirst_14 : decode cX0_removeFirst 14 = .ok (.bipush 64, 2) := by decide +kernel
theorem dX0_removeFirst_16 : decode cX0_removeFirst 16 = .ok (.irem, 1) := by decide +kernel
theorem dX0_removeFirst_17 : decode cX0_removeFirst 17 = .ok (.putfield 18, 3) := by decide +kernel
theorem dX0_removeFirst_20 : decode cX0_removeFirst 20 = .ok (.aload_n 0, 1) := by decide +kernel
theorem dX0_removeFirst_21 : decode cX0_removeFirst 21 = .ok (.dup, 1) := by decide +kernel
theorem dX0_removeFirst_22 : decode cX0_removeFirst 22 = .ok (.getfield 22, 3) := by decide +kernel
theorem dX0_removeFirst_25 : decode cX0_removeFirst 25 = .ok (.iconst 1, 1) := by decide +kernel
theorem dX0_removeFirst_26 : decode cX0_removeFirst 26 = .ok (.isub, 1) := by decide +kernel
theorem dX0_removeFirst_27 : decode cX0_removeFirst 27 = .ok (.putfield 22, 3) := by decide +kernel
theorem dX0_removeFirst_30 : decode cX0_removeFirst 30 = .ok (.return_, 1) := by decide +kernel
set_option maxRecDepth 20000 in
theorem ggX1_init_X2_init : GoodIn wsX1_init wsX2_init := goodIn_r _ [10, 11, 2, 3, 12, 13, 14, 15, 16, 17, 18, 19, 20, 21, 22, 23, 24, 25, 26, 27, 28, 29, 30, 31, 32, 33, 34, 35, 36, 37, 38, 39, 40, 41, 42, 43, 44, 45, 46, 47, 48, 49, 50, 51, 52, 53, 7, 54, 55, 56, 57, 58, 59, 60, 61, 62, 63, 64, 65, 66, 67, 68, 69, 70, 71, 72, 73, 74, 75, 76, 77, 78, 79, 80, 83, 84, 85, 86, 87, 88, 89, 90, 91, 92, 93, 94, 95, 96, 97, 98, 99, 100, 101, 102, 103, 104, 105, 106, 107, 108, 109, 110, 111, 112, 113, 114, 115] (by decide +kernel) (by decide +kernel)
set_option maxRecDepth 20000 in
theorem gX1_init_X2_init : GoodIn wsX1_init (wsX2_init) := ggX1_init_X2_init
theorem dX1_init_0 : decode cX1_init 0 = .ok (.aload_n 0, 1) := by decide +kernel
theorem dX1_init_1 : decode cX1_init 1 = .ok (.invokespecial 3, 3) := by decide +kernel
theorem dX1_init_4 : decode cX1_init 4 = .ok (.aload_n 0, 1) := by decide +kernel
theorem dX1_init_5 : decode cX1_init 5 = .ok (.iconst 4, 1) := by decide +kernel
theorem dX1_init_6 : decode cX1_init 6 = .ok (.anewarray 9, 3) := by decide +kernel
theorem dX1_init_9 : decode cX1_init 9 = .ok (.putfield 11, 3) := by decide +kernel
theorem dX1_init_12 : decode cX1_init 12 = .ok (.iconst 0, 1) := by decide +kernel
theorem dX1_init_13 : decode cX1_init 13 = .ok (.istore_n 1, 1) := by decide +kernel
theorem dX1_init_14 : decode cX1_init 14 = .ok (.iload_n 1, 1) := by decide +kernel
theorem dX1_init_15 : decode cX1_init 15 = .ok (.iconst 4, 1) := by decide +kernel
theorem dX1_init_16 : decode cX1_init 16 = .ok (.if_icmp .ge 22, 3) := by decide +kernel
theorem dX1_init_19 : decode cX1_init 19 = .ok (.aload_n 0, 1) := by decide +kernel
theorem dX1_init_20 : decode cX1_init 20 = .ok (.getfield 11, 3) := by decide +kernel
theorem dX1_init_23 : decode cX1_init 23 = .ok (.iload_n 1, 1) := by decide +kernel
theorem dX1_init_24 : decode cX1_init 24 = .ok (.new 9, 3) := by decide +kernel
theorem dX1_init_27 : decode cX1_init 27 = .ok (.dup, 1) := by decide +kernel
theorem dX1_init_28 : decode cX1_init 28 = .ok (.invokespecial 17, 3) := by decide +kernel
theorem dX1_init_31 : decode cX1_init 31 = .ok (.aastore, 1) := by decide +kernel
theorem dX1_init_32 : decode cX1_init 32 = .ok (.iinc 1 1, 3) := by decide +kernel
theorem dX1_init_35 : decode cX1_init 35 = .ok (.goto (-21), 3) := by decide +kernel
theorem dX1_init_38 : decode cX1_init 38 = .ok (.return_, 1) := by decide +kernel
set_option maxRecDepth 20000 in
theorem ggX1_record_X1_dropOldest : GoodIn wsX1_record wsX1_dropOldest := goodIn_r _ [7, 2, 1, 74, 75] (by decide +kernel) (by decide +kernel)
set_option maxRecDepth 20000 in
theorem gX1_record_X1_dropOldest : GoodIn wsX1_record (wsV RX1 22 RX1 yX1_dropOldest wsX1_dropOldest) := goodIn_app (goodIn_of _ (by decide +kernel)) ggX1_record_X1_dropOldest
set_option maxRecDepth 20000 in
theorem ggX1_record_X2_copyFrom : GoodIn wsX1_record wsX2_copyFrom := goodIn_r _ [12, 13, 14, 15, 16, 17, 18, 19, 20, 21, 22, 23, 24, 25, 26, 27, 28, 29, 30, 31, 32, 33, 34, 35, 36, 37, 38, 39, 40, 41, 42, 43, 44, 45, 46, 47, 48, 49, 50, 51, 52, 53, 54, 55, 56, 57, 58, 59, 60, 61, 62, 63, 64, 65, 66, 67, 68, 69, 70, 71, 72, 73, 76, 77, 78, 79, 80, 81, 82, 83, 84, 85, 86, 87, 88, 89, 90, 91, 92, 93, 94, 95, 96, 97, 98, 99, 100, 101, 102, 103, 104, 105, 106, 107, 108] (by decide +kernel) (by decide +kernel)
set_option maxRecDepth 20000 in
theorem gX1_record_X2_copyFrom : GoodIn wsX1_record (wsV RX1 25 RX2 yX2_copyFrom wsX2_copyFrom) := goodIn_app (goodIn_of _ (by decide +kernel)) ggX1_record_X2_copyFrom
theorem dX1_record_0 : decode cX1_record 0 = .ok (.aload_n 0, 1) := by decide +kernel
theorem dX1_record_1 : decode cX1_record 1 = .ok (.getfield 18, 3) := by decide +kernel
theorem dX1_record_4 : decode cX1_record 4 = .ok (.iconst 4, 1) := by decide +kernel
theorem dX1_record_5 : decode cX1_record 5 = .ok (.if_icmp .lt 7, 3) := by decide +kernel
theorem dX1_record_8 : decode cX1_record 8 = .ok (.aload_n 0, 1) := by decide +kernel
theorem dX1_record_9 : decode cX1_record 9 = .ok (.invokevirtual 22, 3) := by decide +kernel
theorem dX1_record_12 : decode cX1_record 12 = .ok (.aload_n 0, 1) := by decide +kernel
theorem dX1_record_13 : decode cX1_record 13 = .ok (.getfield 11, 3) := by decide +kernel
theorem dX1_record_16 : decode cX1_record 16 = .ok (.aload_n 0, 1) := by decide +kernel
theorem dX1_record_17 : decode cX1_record 17 = .ok (.getfield 18, 3) := by decide +kernel
theorem dX1_record_20 : decode cX1_record 20 = .ok (.aaload, 1) := by decide +kernel
theorem dX1_record_21 : decode cX1_record 21 = .ok (.aload_n 1, 1) := by decide +kernel
theorem dX1_record_22 : decode cX1_record 22 = .ok (.invokevirtual 25, 3) := by decide +kernel
theorem dX1_record_25 : decode cX1_record 25 = .ok (.aload_n 0, 1) := by decide +kernel
theorem dX1_record_26 : decode cX1_record 26 = .ok (.dup, 1) := by decide +kernel
theorem dX1_record_27 : decode cX1_record 27 = .ok (.getfield 18, 3) := by decide +kernel
theorem dX1_record_30 : decode cX1_record 30 = .ok (.iconst 1, 1) := by decide +kernel
theorem dX1_record_31 : decode cX1_record 31 = .ok (.iadd, 1) := by decide +kernel
theorem dX1_record_32 : decode cX1_record 32 = .ok (.putfield 18, 3) := by decide +kernel
theorem dX1_record_35 : decode cX1_record 35 = .ok (.return_, 1) := by decide +kernel
theorem dX1_dropOldest_0 : decode cX1_dropOldest 0 = .ok (.aload_n 0, 1) := by decide +kernel
theorem dX1_dropOldest_1 : decode cX1_dropOldest 1 = .ok (.getfield 11, 3) := by decide +kernel
theorem dX1_dropOldest_4 : decode cX1_dropOldest 4 = .ok (.iconst 0, 1) := by decide +kernel
theorem dX1_dropOldest_5 : decode cX1_dropOldest 5 = .ok (.aaload, 1) := by decide +kernel
theorem dX1_dropOldest_6 : decode cX1_dropOldest 6 = .ok (.astore_n 1, 1) := by decide +kernel
theorem dX1_dropOldest_7 : decode cX1_dropOldest 7 = .ok (.iconst 1, 1) := by decide +kernel
theorem dX1_dropOldest_8 : decode cX1_dropOldest 8 = .ok (.istore_n 2, 1) := by decide +kernel
theorem dX1_dropOldest_9 : decode cX1_dropOldest 9 = .ok (.iload_n 2, 1) := by decide +kernel
theorem dX1_dropOldest_10 : decode cX1_dropOldest 10 = .ok (.iconst 4, 1) := by decide +kernel
theorem dX1_dropOldest_11 : decode cX1_dropOldest 11 = .ok (.if_icmp .ge 23, 3) := by decide +kernel
theorem dX1_dropOldest_14 : decode cX1_dropOldest 14 = .ok (.aload_n 0, 1) := by decide +kernel
theorem dX1_dropOldest_15 : decode cX1_dropOldest 15 = .ok (.getfield 11, 3) := by decide +kernel
theorem dX1_dropOldest_18 : decode cX1_dropOldest 18 = .ok (.iload_n 2, 1) := by decide +kernel
theorem dX1_dropOldest_19 : decode cX1_dropOldest 19 = .ok (.iconst 1, 1) := by decide +kernel
theorem dX1_dropOldest_20 : decode cX1_dropOldest 20 = .ok (.isub, 1) := by decide +kernel
theorem dX1_dropOldest_21 : decode cX1_dropOldest 21 = .ok (.aload_n 0, 1) := by decide +kernel
theorem dX1_dropOldest_22 : decode cX1_dropOldest 22 = .ok (.getfield 11, 3) := by decide +kernel
theorem dX1_dropOldest_25 : decode cX1_dropOldest 25 = .ok (.iload_n 2, 1) := by decide +kernel
theorem dX1_dropOldest_26 : decode cX1_dropOldest 26 = .ok (.aaload, 1) := by decide +kernel
theorem dX1_dropOldest_27 : decode cX1_dropOldest 27 = .ok (.aastore, 1) := by decide +kernel
theorem dX1_dropOldest_28 : decode cX1_dropOldest 28 = .ok (.iinc 2 1, 3) := by decide +kernel
theorem dX1_dropOldest_31 : decode cX1_dropOldest 31 = .ok (.goto (-22), 3) := by decide +kernel
theorem dX1_dropOldest_34 : decode cX1_dropOldest 34 = .ok (.aload_n 0, 1) := by decide +kernel
theorem dX1_dropOldest_35 : decode cX1_dropOldest 35 = .ok (.getfield 11, 3) := by decide +kernel
theorem dX1_dropOldest_38 : decode cX1_dropOldest 38 = .ok (.iconst 3, 1) := by decide +kernel
theorem dX1_dropOldest_39 : decode cX1_dropOldest 39 = .ok (.aload_n 1, 1) := by decide +kernel
theorem dX1_dropOldest_40 : decode cX1_dropOldest 40 = .ok (.aastore, 1) := by decide +kernel
theorem dX1_dropOldest_41 : decode cX1_dropOldest 41 = .ok (.aload_n 0, 1) := by decide +kernel
theorem dX1_dropOldest_42 : decode cX1_dropOldest 42 = .ok (.iconst 3, 1) := by decide +kernel
theorem dX1_dropOldest_43 : decode cX1_dropOldest 43 = .ok (.putfield 18, 3) := by decide +kernel
theorem dX1_dropOldest_46 : decode cX1_dropOldest 46 = .ok (.return_, 1) := by decide +kernel
set_option maxRecDepth 20000 in
theorem ggX1_giveBack_X2_copyFrom : GoodIn wsX1_giveBack wsX2_copyFrom := goodIn_r _ [7, 8, 9, 10, 11, 12, 13, 14, 15, 16, 17, 18, 19, 20, 21, 22, 23, 24, 25, 26, 27, 28, 29, 30, 31, 32, 33, 34, 35, 36, 37, 38, 39, 40, 41, 42, 43, 44, 45, 46, 47, 48, 49, 50, 51, 52, 53, 54, 55, 56, 57, 58, 59, 60, 61, 62, 63, 64, 65, 66, 67, 68, 71, 72, 73, 74, 75, 76, 77, 78, 79, 80, 81, 82, 83, 84, 85, 86, 87, 88, 89, 90, 91, 92, 93, 94, 95, 96, 97, 98, 99, 100, 101, 102, 103] (by decide +kernel) (by decide +kernel)
set_option maxRecDepth 20000 in
theorem gX1_giveBack_X2_copyFrom : GoodIn wsX1_giveBack (wsV RX1 25 RX2 yX2_copyFrom wsX2_copyFrom) := goodIn_app (goodIn_of _ (by decide +kernel)) ggX1_giveBack_X2_copyFrom
theorem dX1_giveBack_0 : decode cX1_giveBack 0 = .ok (.aload_n 0, 1) := by decide +kernel
theorem dX1_giveBack_1 : decode cX1_giveBack 1 = .ok (.getfield 18, 3) := by decide +kernel
theorem dX1_giveBack_4 : decode cX1_giveBack 4 = .ok (.ifCond .gt 6, 3) := by decide +kernel
theorem dX1_giveBack_7 : decode cX1_giveBack 7 = .ok (.bipush (-5), 2) := by decide +kernel
theorem dX1_giveBack_9 : decode cX1_giveBack 9 = .ok (.ireturn, 1) := by decide +kernel
theorem dX1_giveBack_10 : decode cX1_giveBack 10 = .ok (.aload_n 0, 1) := by decide +kernel
theorem dX1_giveBack_11 : decode cX1_giveBack 11 = .ok (.dup, 1) := by decide +kernel
theorem dX1_giveBack_12 : decode cX1_giveBack 12 = .ok (.getfield 18, 3) := by decide +kernel
theorem dX1_giveBack_15 : decode cX1_giveBack 15 = .ok (.iconst 1, 1) := by decide +kernel
theorem dX1_giveBack_16 : decode cX1_giveBack 16 = .ok (.isub, 1) := by decide +kernel
theorem dX1_giveBack_17 : decode cX1_giveBack 17 = .ok (.putfield 18, 3) := by decide +kernel
theorem dX1_giveBack_20 : decode cX1_giveBack 20 = .ok (.aload_n 1, 1) := by decide +kernel
theorem dX1_giveBack_21 : decode cX1_giveBack 21 = .ok (.aload_n 0, 1) := by decide +kernel
theorem dX1_giveBack_22 : decode cX1_giveBack 22 = .ok (.getfield 11, 3) := by decide +kernel
theorem dX1_giveBack_25 : decode cX1_giveBack 25 = .ok (.aload_n 0, 1) := by decide +kernel
theorem dX1_giveBack_26 : decode cX1_giveBack 26 = .ok (.getfield 18, 3) := by decide +kernel
theorem dX1_giveBack_29 : decode cX1_giveBack 29 = .ok (.aaload, 1) := by decide +kernel
theorem dX1_giveBack_30 : decode cX1_giveBack 30 = .ok (.invokevirtual 25, 3) := by decide +kernel
theorem dX1_giveBack_33 : decode cX1_giveBack 33 = .ok (.aload_n 0, 1) := by decide +kernel
theorem dX1_giveBack_34 : decode cX1_giveBack 34 = .ok (.getfield 18, 3) := by decide +kernel
theorem dX1_giveBack_37 : decode cX1_giveBack 37 = .ok (.ireturn, 1) := by decide +kernel
set_option maxRecDepth 20000 in
theorem ggX2_init_X0_init : GoodIn wsX2_init wsX0_init := goodIn_r _ [25, 26, 2, 3, 4, 27, 28, 86, 87, 88, 89] (by decide +kernel) (by decide +kernel)
set_option maxRecDepth 20000 in
theorem gX2_init_X0_init_n32 : GoodIn wsX2_init (wsX0_init) := ggX2_init_X0_init
set_option maxRecDepth 20000 in
theorem ggX2_init_X4_init : GoodIn wsX2_init wsX4_init := goodIn_r _ [30, 31, 2, 3, 4, 32, 33, 34, 90, 91, 92, 93, 94] (by decide +kernel) (by decide +kernel)
set_option maxRecDepth 20000 in
theorem gX2_init_X4_init_n39 : GoodIn wsX2_init (wsX4_init) := ggX2_init_X4_init
set_option maxRecDepth 20000 in
theorem ggX2_init_X3_init : GoodIn wsX2_init wsX3_init := goodIn_r _ [36, 37, 2, 3, 4, 38, 95, 96, 97, 98, 99, 100, 101, 102, 103, 104] (by decide +kernel) (by decide +kernel)
set_option maxRecDepth 20000 in
theorem gX2_init_X3_init_n47 : GoodIn wsX2_init (wsX3_init) := ggX2_init_X3_init
set_option maxRecDepth 20000 in
theorem ggX2_init_X5_init : GoodIn wsX2_init wsX5_init := goodIn_r _ [40, 41, 2, 3, 4, 42, 105, 106] (by decide +kernel) (by decide +kernel)
set_option maxRecDepth 20000 in
theorem gX2_init_X5_init_n48 : GoodIn wsX2_init (wsX5_init) := ggX2_init_X5_init
set_option maxRecDepth 20000 in
theorem ggX2_init_X2_clearTo : GoodIn wsX2_init wsX2_clearTo := goodIn_r _ [47, 48, 49, 50, 51, 52, 7, 8, 10, 53, 14, 54, 18, 55, 56, 57, 21, 58, 38, 59, 60, 61, 62, 63, 64, 65, 66, 67, 68, 69, 70, 17, 71, 72, 73, 74, 75, 76, 77, 78, 79, 80, 81, 82, 83, 84, 85, 105, 106, 86, 87, 88, 89, 95, 96, 97, 98, 99, 100, 101, 102, 103, 104, 90, 91, 92, 93, 94] (by decide +kernel) (by decide +kernel)
set_option maxRecDepth 20000 in
theorem gX2_init_X2_clearTo : GoodIn wsX2_init (wsV RX2 49 RX2 yX2_clearTo wsX2_clearTo) := goodIn_app (goodIn_of _ (by decide +kernel)) ggX2_init_X2_clearTo
theorem dX2_init_0 : decode cX2_init 0 = .ok (.aload_n 0, 1) := by decide +kernel
theorem dX2_init_1 : decode cX2_init 1 = .ok (.invokespecial 3, 3) := by decide +kernel
theorem dX2_init_4 : decode cX2_init 4 = .ok (.aload_n 0, 1) := by decide +kernel
theorem dX2_init_5 : decode cX2_init 5 = .ok (.iconst 3, 1) := by decide +kernel
theorem dX2_init_6 : decode cX2_init 6 = .ok (.newarray .int, 2) := by decide +kernel
theorem dX2_init_8 : decode cX2_init 8 = .ok (.putfield 9, 3) := by decide +kernel
theorem dX2_init_11 : decode cX2_init 11 = .ok (.aload_n 0, 1) := by decide +kernel
theorem dX2_init_12 : decode cX2_init 12 = .ok (.bipush 7, 2) := by decide +kernel
theorem dX2_init_14 : decode cX2_init 14 = .ok (.anewarray 15, 3) := by decide +kernel
theorem dX2_init_17 : decode cX2_init 17 = .ok (.putfield 17, 3) := by decide +kernel
theorem dX2_init_20 : decode cX2_init 20 = .ok (.aload_n 0, 1) := by decide +kernel
theorem dX2_init_21 : decode cX2_init 21 = .ok (.bipush 6, 2) := by decide +kernel
theorem dX2_init_23 : decode cX2_init 23 = .ok (.newarray .int, 2) := by decide +kernel
theorem dX2_init_25 : decode cX2_init 25 = .ok (.putfield 21, 3) := by decide +kernel
theorem dX2_init_28 : decode cX2_init 28 = .ok (.aload_n 0, 1) := by decide +kernel
theorem dX2_init_29 : decode cX2_init 29 = .ok (.iconst 2, 1) := by decide +kernel
theorem dX2_init_30 : decode cX2_init 30 = .ok (.anewarray 24, 3) := by decide +kernel
theorem dX2_init_33 : decode cX2_init 33 = .ok (.putfield 26, 3) := by decide +kernel
theorem dX2_init_36 : decode cX2_init 36 = .ok (.aload_n 0, 1) := by decide +kernel
theorem dX2_init_37 : decode cX2_init 37 = .ok (.new 30, 3) := by decide +kernel
theorem dX2_init_40 : decode cX2_init 40 = .ok (.dup, 1) := by decide +kernel
theorem dX2_init_41 : decode cX2_init 41 = .ok (.invokespecial 32, 3) := by decide +kernel
theorem dX2_init_44 : decode cX2_init 44 = .ok (.putfield 33, 3) := by decide +kernel
theorem dX2_init_47 : decode cX2_init 47 = .ok (.aload_n 0, 1) := by decide +kernel
theorem dX2_init_48 : decode cX2_init 48 = .ok (.new 37, 3) := by decide +kernel
theorem dX2_init_51 : decode cX2_init 51 = .ok (.dup, 1) := by decide +kernel
theorem dX2_init_52 : decode cX2_init 52 = .ok (.invokespecial 39, 3) := by decide +kernel
theorem dX2_init_55 : decode cX2_init 55 = .ok (.putfield 40, 3) := by decide +kernel
theorem dX2_init_58 : decode cX2_init 58 = .ok (.aload_n 0, 1) := by decide +kernel
theorem dX2_init_59 : decode cX2_init 59 = .ok (.bipush 8, 2) := by decide +kernel
theorem dX2_init_61 : decode cX2_init 61 = .ok (.newarray .int, 2) := by decide +kernel
theorem dX2_init_63 : decode cX2_init 63 = .ok (.putfield 44, 3) := by decide +kernel
theorem dX2_init_66 : decode cX2_init 66 = .ok (.iconst 0, 1) := by decide +kernel
theorem dX2_init_67 : decode cX2_init 67 = .ok (.istore_n 1, 1) := by decide +kernel
theorem dX2_init_68 : decode cX2_init 68 = .ok (.iload_n 1, 1) := by decide +kernel
theorem dX2_init_69 : decode cX2_init 69 = .ok (.bipush 7, 2) := by decide +kernel
theorem dX2_init_71 : decode cX2_init 71 = .ok (.if_icmp .ge 22, 3) := by decide +kernel
theorem dX2_init_74 : decode cX2_init 74 = .ok (.aload_n 0, 1) := by decide +kernel
theorem dX2_init_75 : decode cX2_init 75 = .ok (.getfield 17, 3) := by decide +kernel
theorem dX2_init_78 : decode cX2_init 78 = .ok (.iload_n 1, 1) := by decide +kernel
theorem dX2_init_79 : decode cX2_init 79 = .ok (.new 15, 3) := by decide +kernel
theorem dX2_init_82 : decode cX2_init 82 = .ok (.dup, 1) := by decide +kernel
theorem dX2_init_83 : decode cX2_init 83 = .ok (.invokespecial 47, 3) := by decide +kernel
theorem dX2_init_86 : decode cX2_init 86 = .ok (.aastore, 1) := by decide +kernel
theorem dX2_init_87 : decode cX2_init 87 = .ok (.iinc 1 1, 3) := by decide +kernel
theorem dX2_init_90 : decode cX2_init 90 = .ok (.goto (-22), 3) := by decide +kernel
theorem dX2_init_93 : decode cX2_init 93 = .ok (.iconst 0, 1) := by decide +kernel
theorem dX2_init_94 : decode cX2_init 94 = .ok (.istore_n 1, 1) := by decide +kernel
theorem dX2_init_95 : decode cX2_init 95 = .ok (.iload_n 1, 1) := by decide +kernel
theorem dX2_init_96 : decode cX2_init 96 = .ok (.iconst 2, 1) := by decide +kernel
theorem dX2_init_97 : decode cX2_init 97 = .ok (.if_icmp .ge 22, 3) := by decide +kernel
theorem dX2_init_100 : decode cX2_init 100 = .ok (.aload_n 0, 1) := by decide +kernel
theorem dX2_init_101 : decode cX2_init 101 = .ok (.getfield 26, 3) := by decide +kernel
theorem dX2_init_104 : decode cX2_init 104 = .ok (.iload_n 1, 1) := by decide +kernel
theorem dX2_init_105 : decode cX2_init 105 = .ok (.new 24, 3) := by decide +kernel
theorem dX2_init_108 : decode cX2_init 108 = .ok (.dup, 1) := by decide +kernel
theorem dX2_init_109 : decode cX2_init 109 = .ok (.invokespecial 48, 3) := by decide +kernel
theorem dX2_init_112 : decode cX2_init 112 = .ok (.aastore, 1) := by decide +kernel
theorem dX2_init_113 : decode cX2_init 113 = .ok (.iinc 1 1, 3) := by decide +kernel
theorem dX2_init_116 : decode cX2_init 116 = .ok (.goto (-21), 3) := by decide +kernel
theorem dX2_init_119 : decode cX2_init 119 = .ok (.aload_n 0, 1) := by decide +kernel
theorem dX2_init_120 : decode cX2_init 120 = .ok (.getfield 9, 3) := by decide +kernel
theorem dX2_init_123 : decode cX2_init 123 = .ok (.iconst 0, 1) := by decide +kernel
theorem dX2_init_124 : decode cX2_init 124 = .ok (.iconst 1, 1) := by decide +kernel
theorem dX2_init_125 : decode cX2_init 125 = .ok (.iastore, 1) := by decide +kernel
theorem dX2_init_126 : decode cX2_init 126 = .ok (.aload_n 0, 1) := by decide +kernel
theorem dX2_init_127 : decode cX2_init 127 = .ok (.iconst 3, 1) := by decide +kernel
theorem dX2_init_128 : decode cX2_init 128 = .ok (.invokevirtual 49, 3) := by decide +kernel
theorem dX2_init_131 : decode cX2_init 131 = .ok (.return_, 1) := by decide +kernel
set_option maxRecDepth 20000 in
theorem ggX2_clearTo_X3_clear : GoodIn wsX2_clearTo wsX3_clear := goodIn_r _ [17, 18, 19, 20, 21, 22, 23, 24, 25, 26, 27, 53, 54, 55, 56, 57, 58, 59, 60, 61, 62] (by decide +kernel) (by decide +kernel)
set_option maxRecDepth 20000 in
theorem gX2_clearTo_X3_clear : GoodIn wsX2_clearTo (wsV RX2 69 RX3 yX3_clear wsX3_clear) := goodIn_app (goodIn_of _ (by decide +kernel)) ggX2_clearTo_X3_clear
set_option maxRecDepth 20000 in
theorem ggX2_clearTo_X4_clear : GoodIn wsX2_clearTo wsX4_clear := goodIn_r _ [32, 33, 34, 63, 64, 65, 66, 67] (by decide +kernel) (by decide +kernel)
set_option maxRecDepth 20000 in
theorem gX2_clearTo_X4_clear : GoodIn wsX2_clearTo (wsV RX2 76 RX4 yX4_clear wsX4_clear) := goodIn_app (goodIn_of _ (by decide +kernel)) ggX2_clearTo_X4_clear
theorem dX2_clearTo_0 : decode cX2_clearTo 0 = .ok (.aload_n 0, 1) := by decide +kernel
theorem dX2_clearTo_1 : decode cX2_clearTo 1 = .ok (.iload_n 1, 1) := by decide +kernel
theorem dX2_clearTo_2 : decode cX2_clearTo 2 = .ok (.putfield 53, 3) := by decide +kernel
theorem dX2_clearTo_5 : decode cX2_clearTo 5 = .ok (.aload_n 0, 1) := by decide +kernel
theorem dX2_clearTo_6 : decode cX2_clearTo 6 = .ok (.iconst 0, 1) := by decide +kernel
theorem dX2_clearTo_7 : decode cX2_clearTo 7 = .ok (.putfield 57, 3) := by decide +kernel
theorem dX2_clearTo_10 : decode cX2_clearTo 10 = .ok (.aload_n 0, 1) := by decide +kernel
theorem dX2_clearTo_11 : decode cX2_clearTo 11 = .ok (.bipush (-5), 2) := by decide +kernel
theorem dX2_clearTo_13 : decode cX2_clearTo 13 = .ok (.putfield 60, 3) := by decide +kernel
theorem dX2_clearTo_16 : decode cX2_clearTo 16 = .ok (.aload_n 0, 1) := by decide +kernel
theorem dX2_clearTo_17 : decode cX2_clearTo 17 = .ok (.iconst 0, 1) := by decide +kernel
theorem dX2_clearTo_18 : decode cX2_clearTo 18 = .ok (.putfield 63, 3) := by decide +kernel
theorem dX2_clearTo_21 : decode cX2_clearTo 21 = .ok (.aload_n 0, 1) := by decide +kernel
theorem dX2_clearTo_22 : decode cX2_clearTo 22 = .ok (.iconst 0, 1) := by decide +kernel
theorem dX2_clearTo_23 : decode cX2_clearTo 23 = .ok (.putfield 66, 3) := by decide +kernel
theorem dX2_clearTo_26 : decode cX2_clearTo 26 = .ok (.iconst 0, 1) := by decide +kernel
theorem dX2_clearTo_27 : decode cX2_clearTo 27 = .ok (.istore_n 2, 1) := by decide +kernel
theorem dX2_clearTo_28 : decode cX2_clearTo 28 = .ok (.iload_n 2, 1) := by decide +kernel
theorem dX2_clearTo_29 : decode cX2_clearTo 29 = .ok (.bipush 7, 2) := by decide +kernel
theorem dX2_clearTo_31 : decode cX2_clearTo 31 = .ok (.if_icmp .ge 18, 3) := by decide +kernel
theorem dX2_clearTo_34 : decode cX2_clearTo 34 = .ok (.aload_n 0, 1) := by decide +kernel
theorem dX2_clearTo_35 : decode cX2_clearTo 35 = .ok (.getfield 17, 3) := by decide +kernel
theorem dX2_clearTo_38 : decode cX2_clearTo 38 = .ok (.iload_n 2, 1) := by decide +kernel
theorem dX2_clearTo_39 : decode cX2_clearTo 39 = .ok (.aaload, 1) := by decide +kernel
theorem dX2_clearTo_40 : decode cX2_clearTo 40 = .ok (.invokevirtual 69, 3) := by decide +kernel
theorem dX2_clearTo_43 : decode cX2_clearTo 43 = .ok (.iinc 2 1, 3) := by decide +kernel
theorem dX2_clearTo_46 : decode cX2_clearTo 46 = .ok (.goto (-18), 3) := by decide +kernel
theorem dX2_clearTo_49 : decode cX2_clearTo 49 = .ok (.iconst 0, 1) := by decide +kernel
theorem dX2_clearTo_50 : decode cX2_clearTo 50 = .ok (.istore_n 2, 1) := by decide +kernel
theorem dX2_clearTo_51 : decode cX2_clearTo 51 = .ok (.iload_n 2, 1) := by decide +kernel
theorem dX2_clearTo_52 : decode cX2_clearTo 52 = .ok (.bipush 6, 2) := by decide +kernel
theorem dX2_clearTo_54 : decode cX2_clearTo 54 = .ok (.if_icmp .ge 16, 3) := by decide +kernel
theorem dX2_clearTo_57 : decode cX2_clearTo 57 = .ok (.aload_n 0, 1) := by decide +kernel
theorem dX2_clearTo_58 : decode cX2_clearTo 58 = .ok (.getfield 21, 3) := by decide +kernel
theorem dX2_clearTo_61 : decode cX2_clearTo 61 = .ok (.iload_n 2, 1) := by decide +kernel
theorem dX2_clearTo_62 : decode cX2_clearTo 62 = .ok (.iconst (-1), 1) := by decide +kernel
theorem dX2_clearTo_63 : decode cX2_clearTo 63 = .ok (.iastore, 1) := by decide +kernel
theorem dX2_clearTo_64 : decode cX2_clearTo 64 = .ok (.iinc 2 1, 3) := by decide +kernel
theorem dX2_clearTo_67 : decode cX2_clearTo 67 = .ok (.goto (-16), 3) := by decide +kernel
theorem dX2_clearTo_70 : decode cX2_clearTo 70 = .ok (.iconst 0, 1) := by decide +kernel
theorem dX2_clearTo_71 : decode cX2_clearTo 71 = .ok (.istore_n 2, 1) := by decide +kernel
theorem dX2_clearTo_72 : decode cX2_clearTo 72 = .ok (.iload_n 2, 1) := by decide +kernel
theorem dX2_clearTo_73 : decode cX2_clearTo 73 = .ok (.iconst 2, 1) := by decide +kernel
theorem dX2_clearTo_74 : decode cX2_clearTo 74 = .ok (.if_icmp .ge 19, 3) := by decide +kernel
theorem dX2_clearTo_77 : decode cX2_clearTo 77 = .ok (.aload_n 0, 1) := by decide +kernel
theorem dX2_clearTo_78 : decode cX2_clearTo 78 = .ok (.getfield 26, 3) := by decide +kernel
theorem dX2_clearTo_81 : decode cX2_clearTo 81 = .ok (.iload_n 2, 1) := by decide +kernel
theorem dX2_clearTo_82 : decode cX2_clearTo 82 = .ok (.aaload, 1) := by decide +kernel
theorem dX2_clearTo_83 : decode cX2_clearTo 83 = .ok (.iconst 0, 1) := by decide +kernel
theorem dX2_clearTo_84 : decode cX2_clearTo 84 = .ok (.putfield 72, 3) := by decide +kernel
theorem dX2_clearTo_87 : decode cX2_clearTo 87 = .ok (.iinc 2 1, 3) := by decide +kernel
theorem dX2_clearTo_90 : decode cX2_clearTo 90 = .ok (.goto (-18), 3) := by decide +kernel
theorem dX2_clearTo_93 : decode cX2_clearTo 93 = .ok (.aload_n 0, 1) := by decide +kernel
theorem dX2_clearTo_94 : decode cX2_clearTo 94 = .ok (.getfield 33, 3) := by decide +kernel
theorem dX2_clearTo_97 : decode cX2_clearTo 97 = .ok (.iconst 0, 1) := by decide +kernel
theorem dX2_clearTo_98 : decode cX2_clearTo 98 = .ok (.putfield 75, 3) := by decide +kernel
theorem dX2_clearTo_101 : decode cX2_clearTo 101 = .ok (.aload_n 0, 1) := by decide +kernel
theorem dX2_clearTo_102 : decode cX2_clearTo 102 = .ok (.getfield 40, 3) := by decide +kernel
theorem dX2_clearTo_105 : decode cX2_clearTo 105 = .ok (.invokevirtual 76, 3) := by decide +kernel
theorem dX2_clearTo_108 : decode cX2_clearTo 108 = .ok (.return_, 1) := by decide +kernel
set_option maxRecDepth 20000 in
theorem ggX2_copyFrom_X3_copyFrom : GoodIn wsX2_copyFrom wsX3_copyFrom := goodIn_r _ [21, 22, 23, 8, 9, 10, 24, 25, 26, 27, 28, 29, 30, 31, 32, 74, 75, 76, 77, 78, 79, 80, 81, 82, 83] (by decide +kernel) (by decide +kernel)
set_option maxRecDepth 20000 in
theorem gX2_copyFrom_X3_copyFrom : GoodIn wsX2_copyFrom (wsV RX2 83 RX3 yX3_copyFrom wsX3_copyFrom) := goodIn_app (goodIn_of _ (by decide +kernel)) ggX2_copyFrom_X3_copyFrom
set_option maxRecDepth 20000 in
theorem ggX2_copyFrom_X5_copyFrom : GoodIn wsX2_copyFrom wsX5_copyFrom := goodIn_r _ [37, 38, 39, 40, 8, 9, 10, 84, 85] (by decide +kernel) (by decide +kernel)
set_option maxRecDepth 20000 in
theorem gX2_copyFrom_X5_copyFrom : GoodIn wsX2_copyFrom (wsV RX2 87 RX5 yX5_copyFrom wsX5_copyFrom) := goodIn_app (goodIn_of _ (by decide +kernel)) ggX2_copyFrom_X5_copyFrom
set_option maxRecDepth 20000 in
theorem ggX2_copyFrom_X0_copyFrom : GoodIn wsX2_copyFrom wsX0_copyFrom := goodIn_r _ [45, 46, 47, 48, 49, 8, 9, 10, 50, 86, 87, 88, 89] (by decide +kernel) (by decide +kernel)
set_option maxRecDepth 20000 in
theorem gX2_copyFrom_X0_copyFrom : GoodIn wsX2_copyFrom (wsV RX2 90 RX0 yX0_copyFrom wsX0_copyFrom) := goodIn_app (goodIn_of _ (by decide +kernel)) ggX2_copyFrom_X0_copyFrom
set_option maxRecDepth 20000 in
theorem ggX2_copyFrom_X4_copyFrom : GoodIn wsX2_copyFrom wsX4_copyFrom := goodIn_r _ [55, 56, 57, 8, 9, 10, 58, 59, 60, 61, 90, 91, 92, 93, 94] (by decide +kernel) (by decide +kernel)
set_option maxRecDepth 20000 in
theorem gX2_copyFrom_X4_copyFrom : GoodIn wsX2_copyFrom (wsV RX2 93 RX4 yX4_copyFrom wsX4_copyFrom) := goodIn_app (goodIn_of _ (by decide +kernel)) ggX2_copyFrom_X4_copyFrom
theorem dX2_copyFrom_0 : decode cX2_copyFrom 0 = .ok (.aload_n 0, 1) := by decide +kernel
theorem dX2_copyFrom_1 : decode cX2_copyFrom 1 = .ok (.aload_n 1, 1) := by decide +kernel
theorem dX2_copyFrom_2 : decode cX2_copyFrom 2 = .ok (.getfield 53, 3) := by decide +kernel
theorem dX2_copyFrom_5 : decode cX2_copyFrom 5 = .ok (.putfield 53, 3) := by decide +kernel
theorem dX2_copyFrom_8 : decode cX2_copyFrom 8 = .ok (.aload_n 0, 1) := by decide +kernel
theorem dX2_copyFrom_9 : decode cX2_copyFrom 9 = .ok (.aload_n 1, 1) := by decide +kernel
theorem dX2_copyFrom_10 : decode cX2_copyFrom 10 = .ok (.getfield 57, 3) := by decide +kernel
theorem dX2_copyFrom_13 : decode cX2_copyFrom 13 = .ok (.putfield 57, 3) := by decide +kernel
theorem dX2_copyFrom_16 : decode cX2_copyFrom 16 = .ok (.aload_n 0, 1) := by decide +kernel
theorem dX2_copyFrom_17 : decode cX2_copyFrom 17 = .ok (.aload_n 1, 1) := by decide +kernel
theorem dX2_copyFrom_18 : decode cX2_copyFrom 18 = .ok (.getfield 60, 3) := by decide +kernel
theorem dX2_copyFrom_21 : decode cX2_copyFrom 21 = .ok (.putfield 60, 3) := by decide +kernel
theorem dX2_copyFrom_24 : decode cX2_copyFrom 24 = .ok (.aload_n 0, 1) := by decide +kernel
theorem dX2_copyFrom_25 : decode cX2_copyFrom 25 = .ok (.aload_n 1, 1) := by decide +kernel
theorem dX2_copyFrom_26 : decode cX2_copyFrom 26 = .ok (.getfield 63, 3) := by decide +kernel
theorem dX2_copyFrom_29 : decode cX2_copyFrom 29 = .ok (.putfield 63, 3) := by decide +kernel
theorem dX2_copyFrom_32 : decode cX2_copyFrom 32 = .ok (.aload_n 0, 1) := by decide +kernel
theorem dX2_copyFrom_33 : decode cX2_copyFrom 33 = .ok (.aload_n 1, 1) := by decide +kernel
theorem dX2_copyFrom_34 : decode cX2_copyFrom 34 = .ok (.getfield 66, 3) := by decide +kernel
theorem dX2_copyFrom_37 : decode cX2_copyFrom 37 = .ok (.putfield 66, 3) := by decide +kernel
theorem dX2_copyFrom_40 : decode cX2_copyFrom 40 = .ok (.aload_n 1, 1) := by decide +kernel
theorem dX2_copyFrom_41 : decode cX2_copyFrom 41 = .ok (.getfield 9, 3) := by decide +kernel
theorem dX2_copyFrom_44 : decode cX2_copyFrom 44 = .ok (.iconst 0, 1) := by decide +kernel
theorem dX2_copyFrom_45 : decode cX2_copyFrom 45 = .ok (.aload_n 0, 1) := by decide +kernel
theorem dX2_copyFrom_46 : decode cX2_copyFrom 46 = .ok (.getfield 9, 3) := by decide +kernel
theorem dX2_copyFrom_49 : decode cX2_copyFrom 49 = .ok (.iconst 0, 1) := by decide +kernel
theorem dX2_copyFrom_50 : decode cX2_copyFrom 50 = .ok (.iconst 3, 1) := by decide +kernel
theorem dX2_copyFrom_51 : decode cX2_copyFrom 51 = .ok (.invokestatic 77, 3) := by decide +kernel
theorem dX2_copyFrom_54 : decode cX2_copyFrom 54 = .ok (.iconst 0, 1) := by decide +kernel
theorem dX2_copyFrom_55 : decode cX2_copyFrom 55 = .ok (.istore_n 2, 1) := by decide +kernel
theorem dX2_copyFrom_56 : decode cX2_copyFrom 56 = .ok (.iload_n 2, 1) := by decide +kernel
theorem dX2_copyFrom_57 : decode cX2_copyFrom 57 = .ok (.bipush 7, 2) := by decide +kernel
theorem dX2_copyFrom_59 : decode cX2_copyFrom 59 = .ok (.if_icmp .ge 24, 3) := by decide +kernel
theorem dX2_copyFrom_62 : decode cX2_copyFrom 62 = .ok (.aload_n 0, 1) := by decide +kernel
theorem dX2_copyFrom_63 : decode cX2_copyFrom 63 = .ok (.getfield 17, 3) := by decide +kernel
theorem dX2_copyFrom_66 : decode cX2_copyFrom 66 = .ok (.iload_n 2, 1) := by decide +kernel
theorem dX2_copyFrom_67 : decode cX2_copyFrom 67 = .ok (.aaload, 1) := by decide +kernel
theorem dX2_copyFrom_68 : decode cX2_copyFrom 68 = .ok (.aload_n 1, 1) := by decide +kernel
theorem dX2_copyFrom_69 : decode cX2_copyFrom 69 = .ok (.getfield 17, 3) := by decide +kernel
theorem dX2_copyFrom_72 : decode cX2_copyFrom 72 = .ok (.iload_n 2, 1) := by decide +kernel
theorem dX2_copyFrom_73 : decode cX2_copyFrom 73 = .ok (.aaload, 1) := by decide +kernel
theorem dX2_copyFrom_74 : decode cX2_copyFrom 74 = .ok (.invokevirtual 83, 3) := by decide +kernel
theorem dX2_copyFrom_77 : decode cX2_copyFrom 77 = .ok (.iinc 2 1, 3) := by decide +kernel
theorem dX2_copyFrom_80 : decode cX2_copyFrom 80 = .ok (.goto (-24), 3) := by decide +kernel
theorem dX2_copyFrom_83 : decode cX2_copyFrom 83 = .ok (.aload_n 1, 1) := by decide +kernel
theorem dX2_copyFrom_84 : decode cX2_copyFrom 84 = .ok (.getfield 21, 3) := by decide +kernel
theorem dX2_copyFrom_87 : decode cX2_copyFrom 87 = .ok (.iconst 0, 1) := by decide +kernel
theorem dX2_copyFrom_88 : decode cX2_copyFrom 88 = .ok (.aload_n 0, 1) := by decide +kernel
theorem dX2_copyFrom_89 : decode cX2_copyFrom 89 = .ok (.getfield 21, 3) := by decide +kernel
theorem dX2_copyFrom_92 : decode cX2_copyFrom 92 = .ok (.iconst 0, 1) := by decide +kernel
theorem dX2_copyFrom_93 : decode cX2_copyFrom 93 = .ok (.bipush 6, 2) := by decide +kernel
theorem dX2_copyFrom_95 : decode cX2_copyFrom 95 = .ok (.invokestatic 77, 3) := by decide +kernel
theorem dX2_copyFrom_98 : decode cX2_copyFrom 98 = .ok (.iconst 0, 1) := by decide +kernel
theorem dX2_copyFrom_99 : decode cX2_copyFrom 99 = .ok (.istore_n 2, 1) := by decide +kernel
theorem dX2_copyFrom_100 : decode cX2_copyFrom 100 = .ok (.iload_n 2, 1) := by decide +kernel
theorem dX2_copyFrom_101 : decode cX2_copyFrom 101 = .ok (.iconst 2, 1) := by decide +kernel
theorem dX2_copyFrom_102 : decode cX2_copyFrom 102 = .ok (.if_icmp .ge 24, 3) := by decide +kernel
theorem dX2_copyFrom_105 : decode cX2_copyFrom 105 = .ok (.aload_n 0, 1) := by decide +kernel
theorem dX2_copyFrom_106 : decode cX2_copyFrom 106 = .ok (.getfield 26, 3) := by decide +kernel
theorem dX2_copyFrom_109 : decode cX2_copyFrom 109 = .ok (.iload_n 2, 1) := by decide +kernel
theorem dX2_copyFrom_110 : decode cX2_copyFrom 110 = .ok (.aaload, 1) := by decide +kernel
theorem dX2_copyFrom_111 : decode cX2_copyFrom 111 = .ok (.aload_n 1, 1) := by decide +kernel
theorem dX2_copyFrom_112 : decode cX2_copyFrom 112 = .ok (.getfield 26, 3) := by decide +kernel
theorem dX2_copyFrom_115 : decode cX2_copyFrom 115 = .ok (.iload_n 2, 1) := by decide +kernel
theorem dX2_copyFrom_116 : decode cX2_copyFrom 116 = .ok (.aaload, 1) := by decide +kernel
theorem dX2_copyFrom_117 : decode cX2_copyFrom 117 = .ok (.invokevirtual 87, 3) := by decide +kernel
theorem dX2_copyFrom_120 : decode cX2_copyFrom 120 = .ok (.iinc 2 1, 3) := by decide +kernel
theorem dX2_copyFrom_123 : decode cX2_copyFrom 123 = .ok (.goto (-23), 3) := by decide +kernel
theorem dX2_copyFrom_126 : decode cX2_copyFrom 126 = .ok (.aload_n 0, 1) := by decide +kernel
theorem dX2_copyFrom_127 : decode cX2_copyFrom 127 = .ok (.getfield 33, 3) := by decide +kernel
theorem dX2_copyFrom_130 : decode cX2_copyFrom 130 = .ok (.aload_n 1, 1) := by decide +kernel
theorem dX2_copyFrom_131 : decode cX2_copyFrom 131 = .ok (.getfield 33, 3) := by decide +kernel
theorem dX2_copyFrom_134 : decode cX2_copyFrom 134 = .ok (.invokevirtual 90, 3) := by decide +kernel
theorem dX2_copyFrom_137 : decode cX2_copyFrom 137 = .ok (.aload_n 0, 1) := by decide +kernel
theorem dX2_copyFrom_138 : decode cX2_copyFrom 138 = .ok (.getfield 40, 3) := by decide +kernel
theorem dX2_copyFrom_141 : decode cX2_copyFrom 141 = .ok (.aload_n 1, 1) := by decide +kernel
theorem dX2_copyFrom_142 : decode cX2_copyFrom 142 = .ok (.getfield 40, 3) := by decide +kernel
theorem dX2_copyFrom_145 : decode cX2_copyFrom 145 = .ok (.invokevirtual 93, 3) := by decide +kernel
theorem dX2_copyFrom_148 : decode cX2_copyFrom 148 = .ok (.aload_n 1, 1) := by decide +kernel
theorem dX2_copyFrom_149 : decode cX2_copyFrom 149 = .ok (.getfield 44, 3) := by decide +kernel
theorem dX2_copyFrom_152 : decode cX2_copyFrom 152 = .ok (.iconst 0, 1) := by decide +kernel
theorem dX2_copyFrom_153 : decode cX2_copyFrom 153 = .ok (.aload_n 0, 1) := by decide +kernel
theorem dX2_copyFrom_154 : decode cX2_copyFrom 154 = .ok (.getfield 44, 3) := by decide +kernel
theorem dX2_copyFrom_157 : decode cX2_copyFrom 157 = .ok (.iconst 0, 1) := by decide +kernel
theorem dX2_copyFrom_158 : decode cX2_copyFrom 158 = .ok (.bipush 8, 2) := by decide +kernel
theorem dX2_copyFrom_160 : decode cX2_copyFrom 160 = .ok (.invokestatic 77, 3) := by decide +kernel
theorem dX2_copyFrom_163 : decode cX2_copyFrom 163 = .ok (.return_, 1) := by decide +kernel
theorem dX2_hasLink_0 : decode cX2_hasLink 0 = .ok (.iload_n 1, 1) := by decide +kernel
theorem dX2_hasLink_1 : decode cX2_hasLink 1 = .ok (.ifCond .lt 15, 3) := by decide +kernel
theorem dX2_hasLink_4 : decode cX2_hasLink 4 = .ok (.iload_n 1, 1) := by decide +kernel
theorem dX2_hasLink_5 : decode cX2_hasLink 5 = .ok (.aload_n 0, 1) := by decide +kernel
theorem dX2_hasLink_6 : decode cX2_hasLink 6 = .ok (.getfield 53, 3) := by decide +kernel
theorem dX2_hasLink_9 : decode cX2_hasLink 9 = .ok (.if_icmp .gt 7, 3) := by decide +kernel
theorem dX2_hasLink_12 : decode cX2_hasLink 12 = .ok (.iconst 1, 1) := by decide +kernel
theorem dX2_hasLink_13 : decode cX2_hasLink 13 = .ok (.goto 4, 3) := by decide +kernel
theorem dX2_hasLink_16 : decode cX2_hasLink 16 = .ok (.iconst 0, 1) := by decide +kernel
theorem dX2_hasLink_17 : decode cX2_hasLink 17 = .ok (.ireturn, 1) := by decide +kernel
theorem dX2_isQuiet_0 : decode cX2_isQuiet 0 = .ok (.aload_n 0, 1) := by decide +kernel
theorem dX2_isQuiet_1 : decode cX2_isQuiet 1 = .ok (.getfield 33, 3) := by decide +kernel
theorem dX2_isQuiet_4 : decode cX2_isQuiet 4 = .ok (.getfield 75, 3) := by decide +kernel
theorem dX2_isQuiet_7 : decode cX2_isQuiet 7 = .ok (.ifCond .ne 7, 3) := by decide +kernel
theorem dX2_isQuiet_10 : decode cX2_isQuiet 10 = .ok (.iconst 1, 1) := by decide +kernel
theorem dX2_isQuiet_11 : decode cX2_isQuiet 11 = .ok (.goto 4, 3) := by decide +kernel
theorem dX2_isQuiet_14 : decode cX2_isQuiet 14 = .ok (.iconst 0, 1) := by decide +kernel
theorem dX2_isQuiet_15 : decode cX2_isQuiet 15 = .ok (.ireturn, 1) := by decide +kernel
theorem dX2_fullStages_0 : decode cX2_fullStages 0 = .ok (.iconst 0, 1) := by decide +kernel
theorem dX2_fullStages_1 : decode cX2_fullStages 1 = .ok (.istore_n 1, 1) := by decide +kernel
theorem dX2_fullStages_2 : decode cX2_fullStages 2 = .ok (.iconst 0, 1) := by decide +kernel
theorem dX2_fullStages_3 : decode cX2_fullStages 3 = .ok (.istore_n 2, 1) := by decide +kernel
theorem dX2_fullStages_4 : decode cX2_fullStages 4 = .ok (.iload_n 2, 1) := by decide +kernel
theorem dX2_fullStages_5 : decode cX2_fullStages 5 = .ok (.aload_n 0, 1) := by decide +kernel
theorem dX2_fullStages_6 : decode cX2_fullStages 6 = .ok (.getfield 53, 3) := by decide +kernel
theorem dX2_fullStages_9 : decode cX2_fullStages 9 = .ok (.if_icmp .ge 22, 3) := by decide +kernel
theorem dX2_fullStages_12 : decode cX2_fullStages 12 = .ok (.aload_n 0, 1) := by decide +kernel
theorem dX2_fullStages_13 : decode cX2_fullStages 13 = .ok (.getfield 21, 3) := by decide +kernel
theorem dX2_fullStages_16 : decode cX2_fullStages 16 = .ok (.iload_n 2, 1) := by decide +kernel
theorem dX2_fullStages_17 : decode cX2_fullStages 17 = .ok (.iaload, 1) := by decide +kernel
theorem dX2_fullStages_18 : decode cX2_fullStages 18 = .ok (.iconst (-1), 1) := by decide +kernel
theorem dX2_fullStages_19 : decode cX2_fullStages 19 = .ok (.if_icmp .eq 6, 3) := by decide +kernel
theorem dX2_fullStages_22 : decode cX2_fullStages 22 = .ok (.iinc 1 1, 3) := by decide +kernel
theorem dX2_fullStages_25 : decode cX2_fullStages 25 = .ok (.iinc 2 1, 3) := by decide +kernel
theorem dX2_fullStages_28 : decode cX2_fullStages 28 = .ok (.goto (-24), 3) := by decide +kernel
theorem dX2_fullStages_31 : decode cX2_fullStages 31 = .ok (.iload_n 1, 1) := by decide +kernel
theorem dX2_fullStages_32 : decode cX2_fullStages 32 = .ok (.ireturn, 1) := by decide +kernel
theorem dX2_waitingWords_0 : decode cX2_waitingWords 0 = .ok (.aload_n 0, 1) := by decide +kernel
theorem dX2_waitingWords_1 : decode cX2_waitingWords 1 = .ok (.getfield 26, 3) := by decide +kernel
theorem dX2_waitingWords_4 : decode cX2_waitingWords 4 = .ok (.iconst 0, 1) := by decide +kernel
theorem dX2_waitingWords_5 : decode cX2_waitingWords 5 = .ok (.aaload, 1) := by decide +kernel
theorem dX2_waitingWords_6 : decode cX2_waitingWords 6 = .ok (.getfield 72, 3) := by decide +kernel
theorem dX2_waitingWords_9 : decode cX2_waitingWords 9 = .ok (.aload_n 0, 1) := by decide +kernel
theorem dX2_waitingWords_10 : decode cX2_waitingWords 10 = .ok (.getfield 26, 3) := by decide +kernel
theorem dX2_waitingWords_13 : decode cX2_waitingWords 13 = .ok (.iconst 1, 1) := by decide +kernel
theorem dX2_waitingWords_14 : decode cX2_waitingWords 14 = .ok (.aaload, 1) := by decide +kernel
theorem dX2_waitingWords_15 : decode cX2_waitingWords 15 = .ok (.getfield 72, 3) := by decide +kernel
theorem dX2_waitingWords_18 : decode cX2_waitingWords 18 = .ok (.iadd, 1) := by decide +kernel
theorem dX2_waitingWords_19 : decode cX2_waitingWords 19 = .ok (.ireturn, 1) := by decide +kernel
set_option maxRecDepth 20000 in
theorem ggX2_addWord_X5_append : GoodIn wsX2_addWord wsX5_append := goodIn_r _ [9, 10, 11, 64, 65] (by decide +kernel) (by decide +kernel)
set_option maxRecDepth 20000 in
theorem gX2_addWord_X5_append : GoodIn wsX2_addWord (wsV RX2 96 RX5 yX5_append wsX5_append) := goodIn_app (goodIn_of _ (by decide +kernel)) ggX2_addWord_X5_append
set_option maxRecDepth 20000 in
theorem ggX2_addWord_X2_letOneGo : GoodIn wsX2_addWord wsX2_letOneGo := goodIn_r _ [16, 1, 17, 18, 19, 20, 21, 22, 15, 23, 2, 24, 25, 26, 27, 8, 28, 10, 11, 52, 53, 54, 55, 56, 57, 58, 59, 60, 61, 62, 63, 64, 65] (by decide +kernel) (by decide +kernel)
set_option maxRecDepth 20000 in
theorem gX2_addWord_X2_letOneGo : GoodIn wsX2_addWord (wsV RX2 103 RX2 yX2_letOneGo wsX2_letOneGo) := goodIn_app (goodIn_of _ (by decide +kernel)) ggX2_addWord_X2_letOneGo
set_option maxRecDepth 20000 in
theorem ggX2_addWord_X2_offer : GoodIn wsX2_addWord wsX2_offer := goodIn_r _ [32, 3, 33, 34, 35, 36, 24, 4, 37, 38, 39, 40, 41, 42, 43, 44, 45, 46, 47, 48, 49, 15, 50, 51, 52, 53, 54, 55, 56, 57, 58, 59, 60, 61, 62, 63, 66, 67, 68, 69, 70, 71, 72, 73, 74, 75, 76, 77, 78, 79] (by decide +kernel) (by decide +kernel)
set_option maxRecDepth 20000 in
theorem gX2_addWord_X2_offer : GoodIn wsX2_addWord (wsV RX2 107 RX2 yX2_offer wsX2_offer) := goodIn_app (goodIn_of _ (by decide +kernel)) ggX2_addWord_X2_offer
theorem dX2_addWord_0 : decode cX2_addWord 0 = .ok (.iload_n 1, 1) := by decide +kernel
theorem dX2_addWord_1 : decode cX2_addWord 1 = .ok (.ifCond .lt 8, 3) := by decide +kernel
theorem dX2_addWord_4 : decode cX2_addWord 4 = .ok (.iload_n 1, 1) := by decide +kernel
theorem dX2_addWord_5 : decode cX2_addWord 5 = .ok (.iconst 2, 1) := by decide +kernel
theorem dX2_addWord_6 : decode cX2_addWord 6 = .ok (.if_icmp .lt 5, 3) := by decide +kernel
theorem dX2_addWord_9 : decode cX2_addWord 9 = .ok (.iconst (-1), 1) := by decide +kernel
theorem dX2_addWord_10 : decode cX2_addWord 10 = .ok (.ireturn, 1) := by decide +kernel
theorem dX2_addWord_11 : decode cX2_addWord 11 = .ok (.iload_n 2, 1) := by decide +kernel
theorem dX2_addWord_12 : decode cX2_addWord 12 = .ok (.ifCond .lt 9, 3) := by decide +kernel
theorem dX2_addWord_15 : decode cX2_addWord 15 = .ok (.iload_n 2, 1) := by decide +kernel
theorem dX2_addWord_16 : decode cX2_addWord 16 = .ok (.bipush 15, 2) := by decide +kernel
theorem dX2_addWord_18 : decode cX2_addWord 18 = .ok (.if_icmp .le 6, 3) := by decide +kernel
theorem dX2_addWord_21 : decode cX2_addWord 21 = .ok (.bipush (-2), 2) := by decide +kernel
theorem dX2_addWord_23 : decode cX2_addWord 23 = .ok (.ireturn, 1) := by decide +kernel
theorem dX2_addWord_24 : decode cX2_addWord 24 = .ok (.aload_n 0, 1) := by decide +kernel
theorem dX2_addWord_25 : decode cX2_addWord 25 = .ok (.getfield 26, 3) := by decide +kernel
theorem dX2_addWord_28 : decode cX2_addWord 28 = .ok (.iload_n 1, 1) := by decide +kernel
theorem dX2_addWord_29 : decode cX2_addWord 29 = .ok (.aaload, 1) := by decide +kernel
theorem dX2_addWord_30 : decode cX2_addWord 30 = .ok (.astore_n 3, 1) := by decide +kernel
theorem dX2_addWord_31 : decode cX2_addWord 31 = .ok (.aload_n 3, 1) := by decide +kernel
theorem dX2_addWord_32 : decode cX2_addWord 32 = .ok (.getfield 72, 3) := by decide +kernel
theorem dX2_addWord_35 : decode cX2_addWord 35 = .ok (.bipush 20, 2) := by decide +kernel
theorem dX2_addWord_37 : decode cX2_addWord 37 = .ok (.if_icmp .lt 6, 3) := by decide +kernel
theorem dX2_addWord_40 : decode cX2_addWord 40 = .ok (.bipush (-3), 2) := by decide +kernel
theorem dX2_addWord_42 : decode cX2_addWord 42 = .ok (.ireturn, 1) := by decide +kernel
theorem dX2_addWord_43 : decode cX2_addWord 43 = .ok (.aload_n 3, 1) := by decide +kernel
theorem dX2_addWord_44 : decode cX2_addWord 44 = .ok (.iload_n 2, 1) := by decide +kernel
theorem dX2_addWord_45 : decode cX2_addWord 45 = .ok (.invokevirtual 96, 3) := by decide +kernel
theorem dX2_addWord_48 : decode cX2_addWord 48 = .ok (.aload_n 0, 1) := by decide +kernel
theorem dX2_addWord_49 : decode cX2_addWord 49 = .ok (.getfield 17, 3) := by decide +kernel
theorem dX2_addWord_52 : decode cX2_addWord 52 = .ok (.iconst 0, 1) := by decide +kernel
theorem dX2_addWord_53 : decode cX2_addWord 53 = .ok (.aaload, 1) := by decide +kernel
theorem dX2_addWord_54 : decode cX2_addWord 54 = .ok (.getfield 99, 3) := by decide +kernel
theorem dX2_addWord_57 : decode cX2_addWord 57 = .ok (.ifCond .eq 12, 3) := by decide +kernel
theorem dX2_addWord_60 : decode cX2_addWord 60 = .ok (.aload_n 0, 1) := by decide +kernel
theorem dX2_addWord_61 : decode cX2_addWord 61 = .ok (.iconst 0, 1) := by decide +kernel
theorem dX2_addWord_62 : decode cX2_addWord 62 = .ok (.aload_n 0, 1) := by decide +kernel
theorem dX2_addWord_63 : decode cX2_addWord 63 = .ok (.invokevirtual 103, 3) := by decide +kernel
theorem dX2_addWord_66 : decode cX2_addWord 66 = .ok (.invokevirtual 107, 3) := by decide +kernel
theorem dX2_addWord_69 : decode cX2_addWord 69 = .ok (.aload_n 3, 1) := by decide +kernel
theorem dX2_addWord_70 : decode cX2_addWord 70 = .ok (.getfield 72, 3) := by decide +kernel
theorem dX2_addWord_73 : decode cX2_addWord 73 = .ok (.ireturn, 1) := by decide +kernel
set_option maxRecDepth 20000 in
theorem ggX2_changeDelay_X2_hasLink : GoodIn wsX2_changeDelay wsX2_hasLink := goodIn_r _ [7, 8, 9, 10, 11, 12, 13, 14, 15, 16, 17, 18, 19, 20] (by decide +kernel) (by decide +kernel)
set_option maxRecDepth 20000 in
theorem gX2_changeDelay_X2_hasLink : GoodIn wsX2_changeDelay (wsV RX2 111 RX2 yX2_hasLink wsX2_hasLink) := goodIn_app (goodIn_of _ (by decide +kernel)) ggX2_changeDelay_X2_hasLink
theorem dX2_changeDelay_0 : decode cX2_changeDelay 0 = .ok (.aload_n 0, 1) := by decide +kernel
theorem dX2_changeDelay_1 : decode cX2_changeDelay 1 = .ok (.iload_n 1, 1) := by decide +kernel
theorem dX2_changeDelay_2 : decode cX2_changeDelay 2 = .ok (.invokevirtual 111, 3) := by decide +kernel
theorem dX2_changeDelay_5 : decode cX2_changeDelay 5 = .ok (.ifCond .eq 12, 3) := by decide +kernel
theorem dX2_changeDelay_8 : decode cX2_changeDelay 8 = .ok (.iload_n 2, 1) := by decide +kernel
theorem dX2_changeDelay_9 : decode cX2_changeDelay 9 = .ok (.ifCond .lt 8, 3) := by decide +kernel
theorem dX2_changeDelay_12 : decode cX2_changeDelay 12 = .ok (.iload_n 2, 1) := by decide +kernel
theorem dX2_changeDelay_13 : decode cX2_changeDelay 13 = .ok (.iconst 3, 1) := by decide +kernel
theorem dX2_changeDelay_14 : decode cX2_changeDelay 14 = .ok (.if_icmp .lt 5, 3) := by decide +kernel
theorem dX2_changeDelay_17 : decode cX2_changeDelay 17 = .ok (.iconst (-1), 1) := by decide +kernel
theorem dX2_changeDelay_18 : decode cX2_changeDelay 18 = .ok (.ireturn, 1) := by decide +kernel
theorem dX2_changeDelay_19 : decode cX2_changeDelay 19 = .ok (.iload_n 3, 1) := by decide +kernel
theorem dX2_changeDelay_20 : decode cX2_changeDelay 20 = .ok (.iconst 1, 1) := by decide +kernel
theorem dX2_changeDelay_21 : decode cX2_changeDelay 21 = .ok (.if_icmp .lt 9, 3) := by decide +kernel
theorem dX2_changeDelay_24 : decode cX2_changeDelay 24 = .ok (.iload_n 3, 1) := by decide +kernel
theorem dX2_changeDelay_25 : decode cX2_changeDelay 25 = .ok (.bipush 20, 2) := by decide +kernel
theorem dX2_changeDelay_27 : decode cX2_changeDelay 27 = .ok (.if_icmp .le 6, 3) := by decide +kernel
theorem dX2_changeDelay_30 : decode cX2_changeDelay 30 = .ok (.bipush (-2), 2) := by decide +kernel
theorem dX2_changeDelay_32 : decode cX2_changeDelay 32 = .ok (.ireturn, 1) := by decide +kernel
theorem dX2_changeDelay_33 : decode cX2_changeDelay 33 = .ok (.aload_n 0, 1) := by decide +kernel
theorem dX2_changeDelay_34 : decode cX2_changeDelay 34 = .ok (.getfield 17, 3) := by decide +kernel
theorem dX2_changeDelay_37 : decode cX2_changeDelay 37 = .ok (.iload_n 1, 1) := by decide +kernel
theorem dX2_changeDelay_38 : decode cX2_changeDelay 38 = .ok (.aaload, 1) := by decide +kernel
theorem dX2_changeDelay_39 : decode cX2_changeDelay 39 = .ok (.getfield 115, 3) := by decide +kernel
theorem dX2_changeDelay_42 : decode cX2_changeDelay 42 = .ok (.iload_n 2, 1) := by decide +kernel
theorem dX2_changeDelay_43 : decode cX2_changeDelay 43 = .ok (.iaload, 1) := by decide +kernel
theorem dX2_changeDelay_44 : decode cX2_changeDelay 44 = .ok (.istore 4, 2) := by decide +kernel
theorem dX2_changeDelay_46 : decode cX2_changeDelay 46 = .ok (.iload 4, 2) := by decide +kernel
theorem dX2_changeDelay_48 : decode cX2_changeDelay 48 = .ok (.iload_n 3, 1) := by decide +kernel
theorem dX2_changeDelay_49 : decode cX2_changeDelay 49 = .ok (.if_icmp .ne 6, 3) := by decide +kernel
theorem dX2_changeDelay_52 : decode cX2_changeDelay 52 = .ok (.bipush (-5), 2) := by decide +kernel
theorem dX2_changeDelay_54 : decode cX2_changeDelay 54 = .ok (.ireturn, 1) := by decide +kernel
theorem dX2_changeDelay_55 : decode cX2_changeDelay 55 = .ok (.aload_n 0, 1) := by decide +kernel
theorem dX2_changeDelay_56 : decode cX2_changeDelay 56 = .ok (.getfield 17, 3) := by decide +kernel
theorem dX2_changeDelay_59 : decode cX2_changeDelay 59 = .ok (.iload_n 1, 1) := by decide +kernel
theorem dX2_changeDelay_60 : decode cX2_changeDelay 60 = .ok (.aaload, 1) := by decide +kernel
theorem dX2_changeDelay_61 : decode cX2_changeDelay 61 = .ok (.getfield 115, 3) := by decide +kernel
theorem dX2_changeDelay_64 : decode cX2_changeDelay 64 = .ok (.iload_n 2, 1) := by decide +kernel
theorem dX2_changeDelay_65 : decode cX2_changeDelay 65 = .ok (.iload_n 3, 1) := by decide +kernel
theorem dX2_changeDelay_66 : decode cX2_changeDelay 66 = .ok (.iastore, 1) := by decide +kernel
theorem dX2_changeDelay_67 : decode cX2_changeDelay 67 = .ok (.iload 4, 2) := by decide +kernel
theorem dX2_changeDelay_69 : decode cX2_changeDelay 69 = .ok (.ireturn, 1) := by decide +kernel
set_option maxRecDepth 20000 in
theorem ggX2_passTicks_X2_letArriveUpTo : GoodIn wsX2_passTicks wsX2_letArriveUpTo := goodIn_r _ [9, 2, 10, 1, 11, 12, 13, 14, 15, 16, 8, 17, 18, 19, 20, 21, 22, 23, 24, 25, 26, 27, 28, 29, 30, 31, 32, 33, 34, 35, 36, 37, 38, 39, 40, 41, 42, 43, 44, 45, 46, 47, 48, 49, 50, 51, 52, 53, 54, 55, 56, 57, 58, 59, 60, 61, 62, 63, 64, 65, 66, 67, 68, 69, 70, 71, 72, 3, 4, 73, 74, 75, 76, 77, 78, 79, 80, 81, 82, 83, 84, 85, 86, 87, 88, 89, 90, 91, 92, 93, 94, 95, 96, 97, 98, 99, 100, 101, 102, 103, 104, 105, 106, 107, 108, 109, 110, 111, 112, 113, 114, 115, 116, 117, 118, 119, 120, 121, 122, 123, 124, 125, 126, 127, 128, 129, 130, 131, 132, 133, 139, 140, 141, 142, 143, 144, 145, 146, 147, 148, 149, 150, 151, 152, 134, 135, 136, 137, 138, 153, 154] (by decide +kernel) (by decide +kernel)
set_option maxRecDepth 20000 in
theorem gX2_passTicks_X2_letArriveUpTo : GoodIn wsX2_passTicks (wsV RX2 120 RX2 yX2_letArriveUpTo wsX2_letArriveUpTo) := goodIn_app (goodIn_of _ (by decide +kernel)) ggX2_passTicks_X2_letArriveUpTo
theorem dX2_passTicks_0 : decode cX2_passTicks 0 = .ok (.iload_n 1, 1) := by decide +kernel
theorem dX2_passTicks_1 : decode cX2_passTicks 1 = .ok (.iconst 1, 1) := by decide +kernel
theorem dX2_passTicks_2 : decode cX2_passTicks 2 = .ok (.if_icmp .lt 10, 3) := by decide +kernel
theorem dX2_passTicks_5 : decode cX2_passTicks 5 = .ok (.iload_n 1, 1) := by decide +kernel
theorem dX2_passTicks_6 : decode cX2_passTicks 6 = .ok (.sipush 1000, 3) := by decide +kernel
theorem dX2_passTicks_9 : decode cX2_passTicks 9 = .ok (.if_icmp .le 6, 3) := by decide +kernel
theorem dX2_passTicks_12 : decode cX2_passTicks 12 = .ok (.bipush (-2), 2) := by decide +kernel
theorem dX2_passTicks_14 : decode cX2_passTicks 14 = .ok (.ireturn, 1) := by decide +kernel
theorem dX2_passTicks_15 : decode cX2_passTicks 15 = .ok (.aload_n 0, 1) := by decide +kernel
theorem dX2_passTicks_16 : decode cX2_passTicks 16 = .ok (.getfield 57, 3) := by decide +kernel
theorem dX2_passTicks_19 : decode cX2_passTicks 19 = .ok (.iload_n 1, 1) := by decide +kernel
theorem dX2_passTicks_20 : decode cX2_passTicks 20 = .ok (.iadd, 1) := by decide +kernel
theorem dX2_passTicks_21 : decode cX2_passTicks 21 = .ok (.istore_n 2, 1) := by decide +kernel
theorem dX2_passTicks_22 : decode cX2_passTicks 22 = .ok (.iload_n 2, 1) := by decide +kernel
theorem dX2_passTicks_23 : decode cX2_passTicks 23 = .ok (.ldc 118, 2) := by decide +kernel
theorem dX2_passTicks_25 : decode cX2_passTicks 25 = .ok (.if_icmp .le 6, 3) := by decide +kernel
theorem dX2_passTicks_28 : decode cX2_passTicks 28 = .ok (.bipush (-3), 2) := by decide +kernel
theorem dX2_passTicks_30 : decode cX2_passTicks 30 = .ok (.ireturn, 1) := by decide +kernel
theorem dX2_passTicks_31 : decode cX2_passTicks 31 = .ok (.aload_n 0, 1) := by decide +kernel
theorem dX2_passTicks_32 : decode cX2_passTicks 32 = .ok (.getfield 40, 3) := by decide +kernel
theorem dX2_passTicks_35 : decode cX2_passTicks 35 = .ok (.getfield 119, 3) := by decide +kernel
theorem dX2_passTicks_38 : decode cX2_passTicks 38 = .ok (.istore_n 3, 1) := by decide +kernel
theorem dX2_passTicks_39 : decode cX2_passTicks 39 = .ok (.aload_n 0, 1) := by decide +kernel
theorem dX2_passTicks_40 : decode cX2_passTicks 40 = .ok (.iload_n 2, 1) := by decide +kernel
theorem dX2_passTicks_41 : decode cX2_passTicks 41 = .ok (.invokevirtual 120, 3) := by decide +kernel
theorem dX2_passTicks_44 : decode cX2_passTicks 44 = .ok (.aload_n 0, 1) := by decide +kernel
theorem dX2_passTicks_45 : decode cX2_passTicks 45 = .ok (.iload_n 2, 1) := by decide +kernel
theorem dX2_passTicks_46 : decode cX2_passTicks 46 = .ok (.putfield 57, 3) := by decide +kernel
theorem dX2_passTicks_49 : decode cX2_passTicks 49 = .ok (.aload_n 0, 1) := by decide +kernel
theorem dX2_passTicks_50 : decode cX2_passTicks 50 = .ok (.getfield 40, 3) := by decide +kernel
theorem dX2_passTicks_53 : decode cX2_passTicks 53 = .ok (.getfield 119, 3) := by decide +kernel
theorem dX2_passTicks_56 : decode cX2_passTicks 56 = .ok (.iload_n 3, 1) := by decide +kernel
theorem dX2_passTicks_57 : decode cX2_passTicks 57 = .ok (.isub, 1) := by decide +kernel
theorem dX2_passTicks_58 : decode cX2_passTicks 58 = .ok (.ireturn, 1) := by decide +kernel
set_option maxRecDepth 20000 in
theorem ggX2_letArriveUpTo_X2_isQuiet : GoodIn wsX2_letArriveUpTo wsX2_isQuiet := goodIn_r _ [11, 2, 12, 118, 119, 120, 121, 122, 123, 124, 125, 126, 127, 128, 129, 140, 141, 142, 143] (by decide +kernel) (by decide +kernel)
set_option maxRecDepth 20000 in
theorem gX2_letArriveUpTo_X2_isQuiet : GoodIn wsX2_letArriveUpTo (wsV RX2 123 RX2 yX2_isQuiet wsX2_isQuiet) := goodIn_app (goodIn_of _ (by decide +kernel)) ggX2_letArriveUpTo_X2_isQuiet
set_option maxRecDepth 20000 in
theorem ggX2_letArriveUpTo_X0_firstTime : GoodIn wsX2_letArriveUpTo wsX0_firstTime := goodIn_r _ [17, 18, 19, 140, 141, 142, 143] (by decide +kernel) (by decide +kernel)
set_option maxRecDepth 20000 in
theorem gX2_letArriveUpTo_X0_firstTime : GoodIn wsX2_letArriveUpTo (wsV RX2 127 RX0 yX0_firstTime wsX0_firstTime) := goodIn_app (goodIn_of _ (by decide +kernel)) ggX2_letArriveUpTo_X0_firstTime
set_option maxRecDepth 20000 in
theorem ggX2_letArriveUpTo_X0_firstLink : GoodIn wsX2_letArriveUpTo wsX0_firstLink := goodIn_r _ [23, 24, 19, 140, 141, 142, 143] (by decide +kernel) (by decide +kernel)
set_option maxRecDepth 20000 in
theorem gX2_letArriveUpTo_X0_firstLink : GoodIn wsX2_letArriveUpTo (wsV RX2 130 RX0 yX0_firstLink wsX0_firstLink) := goodIn_app (goodIn_of _ (by decide +kernel)) ggX2_letArriveUpTo_X0_firstLink
set_option maxRecDepth 20000 in
theorem ggX2_letArriveUpTo_X0_firstWire : GoodIn wsX2_letArriveUpTo wsX0_firstWire := goodIn_r _ [28, 24, 19, 140, 141, 142, 143] (by decide +kernel) (by decide +kernel)
set_option maxRecDepth 20000 in
theorem gX2_letArriveUpTo_X0_firstWire : GoodIn wsX2_letArriveUpTo (wsV RX2 133 RX0 yX0_firstWire wsX0_firstWire) := goodIn_app (goodIn_of _ (by decide +kernel)) ggX2_letArriveUpTo_X0_firstWire
set_option maxRecDepth 20000 in
theorem ggX2_letArriveUpTo_X0_firstValue : GoodIn wsX2_letArriveUpTo wsX0_firstValue := goodIn_r _ [32, 24, 19, 140, 141, 142, 143] (by decide +kernel) (by decide +kernel)
set_option maxRecDepth 20000 in
theorem gX2_letArriveUpTo_X0_firstValue : GoodIn wsX2_letArriveUpTo (wsV RX2 136 RX0 yX0_firstValue wsX0_firstValue) := goodIn_app (goodIn_of _ (by decide +kernel)) ggX2_letArriveUpTo_X0_firstValue
set_option maxRecDepth 20000 in
theorem ggX2_letArriveUpTo_X0_removeFirst : GoodIn wsX2_letArriveUpTo wsX0_removeFirst := goodIn_r _ [36, 37, 19, 140, 141, 142, 143] (by decide +kernel) (by decide +kernel)
set_option maxRecDepth 20000 in
theorem gX2_letArriveUpTo_X0_removeFirst : GoodIn wsX2_letArriveUpTo (wsV RX2 139 RX0 yX0_removeFirst wsX0_removeFirst) := goodIn_app (goodIn_of _ (by decide +kernel)) ggX2_letArriveUpTo_X0_removeFirst
set_option maxRecDepth 20000 in
theorem ggX2_letArriveUpTo_X2_hasLink : GoodIn wsX2_letArriveUpTo wsX2_hasLink := goodIn_r _ [41, 42, 118, 119, 120, 121, 122, 123, 124, 125, 126, 127, 128, 129] (by decide +kernel) (by decide +kernel)
set_option maxRecDepth 20000 in
theorem gX2_letArriveUpTo_X2_hasLink : GoodIn wsX2_letArriveUpTo (wsV RX2 111 RX2 yX2_hasLink wsX2_hasLink) := goodIn_app (goodIn_of _ (by decide +kernel)) ggX2_letArriveUpTo_X2_hasLink
set_option maxRecDepth 20000 in
theorem ggX2_letArriveUpTo_X2_letRequestArrive : GoodIn wsX2_letArriveUpTo wsX2_letRequestArrive := goodIn_r _ [46, 5, 47, 42, 6, 48, 49, 50, 51, 52, 53, 54, 10, 55, 56, 2, 3, 57, 58, 59, 60, 16, 61, 37, 18, 19, 24, 62, 63, 64, 65, 66, 67, 68, 69, 70, 71, 72, 73, 74, 75, 76, 77, 78, 79, 80, 81, 82, 83, 84, 85, 86, 87, 88, 89, 90, 91, 92, 93, 118, 119, 120, 121, 122, 123, 124, 125, 126, 127, 128, 129, 130, 131, 132, 133, 134, 135, 136, 137, 138, 139, 140, 141, 142, 143, 144, 145, 146, 147, 148] (by decide +kernel) (by decide +kernel)
set_option maxRecDepth 20000 in
theorem gX2_letArriveUpTo_X2_letRequestArrive : GoodIn wsX2_letArriveUpTo (wsV RX2 142 RX2 yX2_letRequestArrive wsX2_letRequestArrive) := goodIn_app (goodIn_of _ (by decide +kernel)) ggX2_letArriveUpTo_X2_letRequestArrive
set_option maxRecDepth 20000 in
theorem ggX2_letArriveUpTo_X2_letAnswerArrive : GoodIn wsX2_letArriveUpTo wsX2_letAnswerArrive := goodIn_r _ [97, 5, 98, 51, 49, 50, 99, 100, 101, 10, 102, 103, 104, 66, 105, 106, 107, 108, 109, 110, 48, 111, 112, 113, 114, 115, 116, 117, 83, 84, 85, 86, 87, 2, 3, 57, 88, 58, 59, 60, 16, 61, 37, 18, 19, 24, 89, 90, 91, 92, 93, 79, 80, 81, 82, 6, 52, 53, 54, 55, 56, 118, 119, 120, 121, 122, 123, 124, 125, 126, 127, 128, 129, 130, 131, 132, 133, 134, 135, 136, 137, 138, 139, 149, 150, 140, 141, 142, 143] (by decide +kernel) (by decide +kernel)
set_option maxRecDepth 20000 in
theorem gX2_letArriveUpTo_X2_letAnswerArrive : GoodIn wsX2_letArriveUpTo (wsV RX2 145 RX2 yX2_letAnswerArrive wsX2_letAnswerArrive) := goodIn_app (goodIn_of _ (by decide +kernel)) ggX2_letArriveUpTo_X2_letAnswerArrive
theorem dX2_letArriveUpTo_0 : decode cX2_letArriveUpTo 0 = .ok (.iconst 0, 1) := by decide +kernel
theorem dX2_letArriveUpTo_1 : decode cX2_letArriveUpTo 1 = .ok (.istore_n 2, 1) := by decide +kernel
theorem dX2_letArriveUpTo_2 : decode cX2_letArriveUpTo 2 = .ok (.iload_n 2, 1) := by decide +kernel
theorem dX2_letArriveUpTo_3 : decode cX2_letArriveUpTo 3 = .ok (.ldc 118, 2) := by decide +kernel
theorem dX2_letArriveUpTo_5 : decode cX2_letArriveUpTo 5 = .ok (.if_icmp .ge 134, 3) := by decide +kernel
theorem dX2_letArriveUpTo_8 : decode cX2_letArriveUpTo 8 = .ok (.aload_n 0, 1) := by decide +kernel
theorem dX2_letArriveUpTo_9 : decode cX2_letArriveUpTo 9 = .ok (.invokevirtual 123, 3) := by decide +kernel
theorem dX2_letArriveUpTo_12 : decode cX2_letArriveUpTo 12 = .ok (.ifCond .ne 127, 3) := by decide +kernel
theorem dX2_letArriveUpTo_15 : decode cX2_letArriveUpTo 15 = .ok (.aload_n 0, 1) := by decide +kernel
theorem dX2_letArriveUpTo_16 : decode cX2_letArriveUpTo 16 = .ok (.getfield 33, 3) := by decide +kernel
theorem dX2_letArriveUpTo_19 : decode cX2_letArriveUpTo 19 = .ok (.invokevirtual 127, 3) := by decide +kernel
theorem dX2_letArriveUpTo_22 : decode cX2_letArriveUpTo 22 = .ok (.iload_n 1, 1) := by decide +kernel
theorem dX2_letArriveUpTo_23 : decode cX2_letArriveUpTo 23 = .ok (.if_icmp .gt 116, 3) := by decide +kernel
theorem dX2_letArriveUpTo_26 : decode cX2_letArriveUpTo 26 = .ok (.aload_n 0, 1) := by decide +kernel
theorem dX2_letArriveUpTo_27 : decode cX2_letArriveUpTo 27 = .ok (.aload_n 0, 1) := by decide +kernel
theorem dX2_letArriveUpTo_28 : decode cX2_letArriveUpTo 28 = .ok (.getfield 33, 3) := by decide +kernel
theorem dX2_letArriveUpTo_31 : decode cX2_letArriveUpTo 31 = .ok (.invokevirtual 127, 3) := by decide +kernel
theorem dX2_letArriveUpTo_34 : decode cX2_letArriveUpTo 34 = .ok (.putfield 57, 3) := by decide +kernel
theorem dX2_letArriveUpTo_37 : decode cX2_letArriveUpTo 37 = .ok (.aload_n 0, 1) := by decide +kernel
theorem dX2_letArriveUpTo_38 : decode cX2_letArriveUpTo 38 = .ok (.getfield 33, 3) := by decide +kernel
theorem dX2_letArriveUpTo_41 : decode cX2_letArriveUpTo 41 = .ok (.invokevirtual 130, 3) := by decide +kernel
theorem dX2_letArriveUpTo_44 : decode cX2_letArriveUpTo 44 = .ok (.istore_n 3, 1) := by decide +kernel
theorem dX2_letArriveUpTo_45 : decode cX2_letArriveUpTo 45 = .ok (.aload_n 0, 1) := by decide +kernel
theorem dX2_letArriveUpTo_46 : decode cX2_letArriveUpTo 46 = .ok (.getfield 33, 3) := by decide +kernel
theorem dX2_letArriveUpTo_49 : decode cX2_letArriveUpTo 49 = .ok (.invokevirtual 133, 3) := by decide +kernel
theorem dX2_letArriveUpTo_52 : decode cX2_letArriveUpTo 52 = .ok (.istore 4, 2) := by decide +kernel
theorem dX2_letArriveUpTo_54 : decode cX2_letArriveUpTo 54 = .ok (.aload_n 0, 1) := by decide +kernel
theorem dX2_letArriveUpTo_55 : decode cX2_letArriveUpTo 55 = .ok (.getfield 33, 3) := by decide +kernel
theorem dX2_letArriveUpTo_58 : decode cX2_letArriveUpTo 58 = .ok (.invokevirtual 136, 3) := by decide +kernel
theorem dX2_letArriveUpTo_61 : decode cX2_letArriveUpTo 61 = .ok (.istore 5, 2) := by decide +kernel
theorem dX2_letArriveUpTo_63 : decode cX2_letArriveUpTo 63 = .ok (.aload_n 0, 1) := by decide +kernel
theorem dX2_letArriveUpTo_64 : decode cX2_letArriveUpTo 64 = .ok (.getfield 33, 3) := by decide +kernel
theorem dX2_letArriveUpTo_67 : decode cX2_letArriveUpTo 67 = .ok (.invokevirtual 139, 3) := by decide +kernel
theorem dX2_letArriveUpTo_70 : decode cX2_letArriveUpTo 70 = .ok (.aload_n 0, 1) := by decide +kernel
theorem dX2_letArriveUpTo_71 : decode cX2_letArriveUpTo 71 = .ok (.dup, 1) := by decide +kernel
theorem dX2_letArriveUpTo_72 : decode cX2_letArriveUpTo 72 = .ok (.getfield 66, 3) := by decide +kernel
theorem dX2_letArriveUpTo_75 : decode cX2_letArriveUpTo 75 = .ok (.iconst 1, 1) := by decide +kernel
theorem dX2_letArriveUpTo_76 : decode cX2_letArriveUpTo 76 = .ok (.iadd, 1) := by decide +kernel
theorem dX2_letArriveUpTo_77 : decode cX2_letArriveUpTo 77 = .ok (.putfield 66, 3) := by decide +kernel
theorem dX2_letArriveUpTo_80 : decode cX2_letArriveUpTo 80 = .ok (.aload_n 0, 1) := by decide +kernel
theorem dX2_letArriveUpTo_81 : decode cX2_letArriveUpTo 81 = .ok (.iload_n 3, 1) := by decide +kernel
theorem dX2_letArriveUpTo_82 : decode cX2_letArriveUpTo 82 = .ok (.invokevirtual 111, 3) := by decide +kernel
theorem dX2_letArriveUpTo_85 : decode cX2_letArriveUpTo 85 = .ok (.ifCond .ne 6, 3) := by decide +kernel
theorem dX2_letArriveUpTo_88 : decode cX2_letArriveUpTo 88 = .ok (.goto 45, 3) := by decide +kernel
theorem dX2_letArriveUpTo_91 : decode cX2_letArriveUpTo 91 = .ok (.iload 4, 2) := by decide +kernel
theorem dX2_letArriveUpTo_93 : decode cX2_letArriveUpTo 93 = .ok (.ifCond .ne 13, 3) := by decide +kernel
theorem dX2_letArriveUpTo_96 : decode cX2_letArriveUpTo 96 = .ok (.aload_n 0, 1) := by decide +kernel
theorem dX2_letArriveUpTo_97 : decode cX2_letArriveUpTo 97 = .ok (.iload_n 3, 1) := by decide +kernel
theorem dX2_letArriveUpTo_98 : decode cX2_letArriveUpTo 98 = .ok (.iload 5, 2) := by decide +kernel
theorem dX2_letArriveUpTo_100 : decode cX2_letArriveUpTo 100 = .ok (.invokevirtual 142, 3) := by decide +kernel
theorem dX2_letArriveUpTo_103 : decode cX2_letArriveUpTo 103 = .ok (.goto 30, 3) := by decide +kernel
theorem dX2_letArriveUpTo_106 : decode cX2_letArriveUpTo 106 = .ok (.iload 4, 2) := by decide +kernel
theorem dX2_letArriveUpTo_108 : decode cX2_letArriveUpTo 108 = .ok (.iconst 1, 1) := by decide +kernel
theorem dX2_letArriveUpTo_109 : decode cX2_letArriveUpTo 109 = .ok (.if_icmp .ne 13, 3) := by decide +kernel
theorem dX2_letArriveUpTo_112 : decode cX2_letArriveUpTo 112 = .ok (.aload_n 0, 1) := by decide +kernel
theorem dX2_letArriveUpTo_113 : decode cX2_letArriveUpTo 113 = .ok (.iload_n 3, 1) := by decide +kernel
theorem dX2_letArriveUpTo_114 : decode cX2_letArriveUpTo 114 = .ok (.iload 5, 2) := by decide +kernel
theorem dX2_letArriveUpTo_116 : decode cX2_letArriveUpTo 116 = .ok (.invokevirtual 145, 3) := by decide +kernel
theorem dX2_letArriveUpTo_119 : decode cX2_letArriveUpTo 119 = .ok (.goto 14, 3) := by decide +kernel
theorem dX2_letArriveUpTo_122 : decode cX2_letArriveUpTo 122 = .ok (.aload_n 0, 1) := by decide +kernel
theorem dX2_letArriveUpTo_123 : decode cX2_letArriveUpTo 123 = .ok (.getfield 17, 3) := by decide +kernel
theorem dX2_letArriveUpTo_126 : decode cX2_letArriveUpTo 126 = .ok (.iload_n 3, 1) := by decide +kernel
theorem dX2_letArriveUpTo_127 : decode cX2_letArriveUpTo 127 = .ok (.aaload, 1) := by decide +kernel
theorem dX2_letArriveUpTo_128 : decode cX2_letArriveUpTo 128 = .ok (.iload 5, 2) := by decide +kernel
theorem dX2_letArriveUpTo_130 : decode cX2_letArriveUpTo 130 = .ok (.putfield 148, 3) := by decide +kernel
theorem dX2_letArriveUpTo_133 : decode cX2_letArriveUpTo 133 = .ok (.iinc 2 1, 3) := by decide +kernel
theorem dX2_letArriveUpTo_136 : decode cX2_letArriveUpTo 136 = .ok (.goto (-134), 3) := by decide +kernel
theorem dX2_letArriveUpTo_139 : decode cX2_letArriveUpTo 139 = .ok (.return_, 1) := by decide +kernel
set_option maxRecDepth 20000 in
theorem ggX2_letRequestArrive_X2_makeAnswer : GoodIn wsX2_letRequestArrive wsX2_makeAnswer := goodIn_r _ [13, 1, 14, 15, 16, 17, 18, 19, 20, 21, 22, 23, 24, 25, 26, 59, 60, 61, 62, 63, 64, 65, 66, 67, 68, 69, 70, 71, 72, 73, 74, 75, 76, 77, 78, 79, 80, 81, 82, 83, 84] (by decide +kernel) (by decide +kernel)
set_option maxRecDepth 20000 in
theorem gX2_letRequestArrive_X2_makeAnswer : GoodIn wsX2_letRequestArrive (wsV RX2 154 RX2 yX2_makeAnswer wsX2_makeAnswer) := goodIn_app (goodIn_of _ (by decide +kernel)) ggX2_letRequestArrive_X2_makeAnswer
set_option maxRecDepth 20000 in
theorem ggX2_letRequestArrive_X2_noteWord : GoodIn wsX2_letRequestArrive wsX2_noteWord := goodIn_r _ [30, 31, 32, 33, 16, 34, 35, 36, 37, 38, 39, 40, 41, 42, 43, 59, 60, 61, 62, 63, 64, 65, 66, 67, 68, 69, 70, 85, 86, 87, 88, 89] (by decide +kernel) (by decide +kernel)
set_option maxRecDepth 20000 in
theorem gX2_letRequestArrive_X2_noteWord : GoodIn wsX2_letRequestArrive (wsV RX2 158 RX2 yX2_noteWord wsX2_noteWord) := goodIn_app (goodIn_of _ (by decide +kernel)) ggX2_letRequestArrive_X2_noteWord
set_option maxRecDepth 20000 in
theorem ggX2_letRequestArrive_X2_takeWord : GoodIn wsX2_letRequestArrive wsX2_takeWord := goodIn_r _ [47, 1, 7, 6, 4, 9, 10, 11, 12, 13, 14, 15, 16, 17, 18, 19, 20, 21, 22, 23, 24, 25, 26, 59, 60, 61, 62, 63, 64, 65, 66, 67, 68, 69, 70, 71, 72, 73, 74, 75, 76, 77, 78, 79, 80, 81, 82, 83, 84] (by decide +kernel) (by decide +kernel)
set_option maxRecDepth 20000 in
theorem gX2_letRequestArrive_X2_takeWord : GoodIn wsX2_letRequestArrive (wsV RX2 164 RX2 yX2_takeWord wsX2_takeWord) := goodIn_app (goodIn_of _ (by decide +kernel)) ggX2_letRequestArrive_X2_takeWord
set_option maxRecDepth 20000 in
theorem ggX2_letRequestArrive_X2_offer : GoodIn wsX2_letRequestArrive wsX2_offer := goodIn_r _ [51, 1, 52, 15, 16, 17, 5, 8, 53, 18, 19, 20, 21, 22, 23, 24, 25, 26, 54, 55, 56, 12, 57, 58, 59, 60, 61, 62, 63, 64, 65, 66, 67, 68, 69, 70, 71, 72, 73, 74, 75, 76, 77, 78, 79, 80, 81, 82, 83, 84] (by decide +kernel) (by decide +kernel)
set_option maxRecDepth 20000 in
theorem gX2_letRequestArrive_X2_offer : GoodIn wsX2_letRequestArrive (wsV RX2 107 RX2 yX2_offer wsX2_offer) := goodIn_app (goodIn_of _ (by decide +kernel)) ggX2_letRequestArrive_X2_offer
theorem dX2_letRequestArrive_0 : decode cX2_letRequestArrive 0 = .ok (.aload_n 0, 1) := by decide +kernel
theorem dX2_letRequestArrive_1 : decode cX2_letRequestArrive 1 = .ok (.getfield 17, 3) := by decide +kernel
theorem dX2_letRequestArrive_4 : decode cX2_letRequestArrive 4 = .ok (.iload_n 1, 1) := by decide +kernel
theorem dX2_letRequestArrive_5 : decode cX2_letRequestArrive 5 = .ok (.aaload, 1) := by decide +kernel
theorem dX2_letRequestArrive_6 : decode cX2_letRequestArrive 6 = .ok (.iload_n 2, 1) := by decide +kernel
theorem dX2_letRequestArrive_7 : decode cX2_letRequestArrive 7 = .ok (.putfield 151, 3) := by decide +kernel
theorem dX2_letRequestArrive_10 : decode cX2_letRequestArrive 10 = .ok (.iload_n 2, 1) := by decide +kernel
theorem dX2_letRequestArrive_11 : decode cX2_letRequestArrive 11 = .ok (.ifCond .ne 13, 3) := by decide +kernel
theorem dX2_letRequestArrive_14 : decode cX2_letRequestArrive 14 = .ok (.aload_n 0, 1) := by decide +kernel
theorem dX2_letRequestArrive_15 : decode cX2_letRequestArrive 15 = .ok (.iload_n 1, 1) := by decide +kernel
theorem dX2_letRequestArrive_16 : decode cX2_letRequestArrive 16 = .ok (.iconst 0, 1) := by decide +kernel
theorem dX2_letRequestArrive_17 : decode cX2_letRequestArrive 17 = .ok (.iconst 0, 1) := by decide +kernel
theorem dX2_letRequestArrive_18 : decode cX2_letRequestArrive 18 = .ok (.invokevirtual 154, 3) := by decide +kernel
theorem dX2_letRequestArrive_21 : decode cX2_letRequestArrive 21 = .ok (.goto 94, 3) := by decide +kernel
theorem dX2_letRequestArrive_24 : decode cX2_letRequestArrive 24 = .ok (.iload_n 1, 1) := by decide +kernel
theorem dX2_letRequestArrive_25 : decode cX2_letRequestArrive 25 = .ok (.aload_n 0, 1) := by decide +kernel
theorem dX2_letRequestArrive_26 : decode cX2_letRequestArrive 26 = .ok (.getfield 53, 3) := by decide +kernel
theorem dX2_letRequestArrive_29 : decode cX2_letRequestArrive 29 = .ok (.if_icmp .ne 31, 3) := by decide +kernel
theorem dX2_letRequestArrive_32 : decode cX2_letRequestArrive 32 = .ok (.aload_n 0, 1) := by decide +kernel
theorem dX2_letRequestArrive_33 : decode cX2_letRequestArrive 33 = .ok (.aload_n 0, 1) := by decide +kernel
theorem dX2_letRequestArrive_34 : decode cX2_letRequestArrive 34 = .ok (.getfield 17, 3) := by decide +kernel
theorem dX2_letRequestArrive_37 : decode cX2_letRequestArrive 37 = .ok (.iload_n 1, 1) := by decide +kernel
theorem dX2_letRequestArrive_38 : decode cX2_letRequestArrive 38 = .ok (.aaload, 1) := by decide +kernel
theorem dX2_letRequestArrive_39 : decode cX2_letRequestArrive 39 = .ok (.getfield 148, 3) := by decide +kernel
theorem dX2_letRequestArrive_42 : decode cX2_letRequestArrive 42 = .ok (.invokevirtual 158, 3) := by decide +kernel
theorem dX2_letRequestArrive_45 : decode cX2_letRequestArrive 45 = .ok (.aload_n 0, 1) := by decide +kernel
theorem dX2_letRequestArrive_46 : decode cX2_letRequestArrive 46 = .ok (.iload_n 1, 1) := by decide +kernel
theorem dX2_letRequestArrive_47 : decode cX2_letRequestArrive 47 = .ok (.iconst 1, 1) := by decide +kernel
theorem dX2_letRequestArrive_48 : decode cX2_letRequestArrive 48 = .ok (.aload_n 0, 1) := by decide +kernel
theorem dX2_letRequestArrive_49 : decode cX2_letRequestArrive 49 = .ok (.getfield 9, 3) := by decide +kernel
theorem dX2_letRequestArrive_52 : decode cX2_letRequestArrive 52 = .ok (.iconst 1, 1) := by decide +kernel
theorem dX2_letRequestArrive_53 : decode cX2_letRequestArrive 53 = .ok (.iaload, 1) := by decide +kernel
theorem dX2_letRequestArrive_54 : decode cX2_letRequestArrive 54 = .ok (.invokevirtual 154, 3) := by decide +kernel
theorem dX2_letRequestArrive_57 : decode cX2_letRequestArrive 57 = .ok (.goto 58, 3) := by decide +kernel
theorem dX2_letRequestArrive_60 : decode cX2_letRequestArrive 60 = .ok (.aload_n 0, 1) := by decide +kernel
theorem dX2_letRequestArrive_61 : decode cX2_letRequestArrive 61 = .ok (.getfield 21, 3) := by decide +kernel
theorem dX2_letRequestArrive_64 : decode cX2_letRequestArrive 64 = .ok (.iload_n 1, 1) := by decide +kernel
theorem dX2_letRequestArrive_65 : decode cX2_letRequestArrive 65 = .ok (.iaload, 1) := by decide +kernel
theorem dX2_letRequestArrive_66 : decode cX2_letRequestArrive 66 = .ok (.iconst (-1), 1) := by decide +kernel
theorem dX2_letRequestArrive_67 : decode cX2_letRequestArrive 67 = .ok (.if_icmp .eq 16, 3) := by decide +kernel
theorem dX2_letRequestArrive_70 : decode cX2_letRequestArrive 70 = .ok (.aload_n 0, 1) := by decide +kernel
theorem dX2_letRequestArrive_71 : decode cX2_letRequestArrive 71 = .ok (.getfield 17, 3) := by decide +kernel
theorem dX2_letRequestArrive_74 : decode cX2_letRequestArrive 74 = .ok (.iload_n 1, 1) := by decide +kernel
theorem dX2_letRequestArrive_75 : decode cX2_letRequestArrive 75 = .ok (.aaload, 1) := by decide +kernel
theorem dX2_letRequestArrive_76 : decode cX2_letRequestArrive 76 = .ok (.iconst 1, 1) := by decide +kernel
theorem dX2_letRequestArrive_77 : decode cX2_letRequestArrive 77 = .ok (.putfield 161, 3) := by decide +kernel
theorem dX2_letRequestArrive_80 : decode cX2_letRequestArrive 80 = .ok (.goto 35, 3) := by decide +kernel
theorem dX2_letRequestArrive_83 : decode cX2_letRequestArrive 83 = .ok (.aload_n 0, 1) := by decide +kernel
theorem dX2_letRequestArrive_84 : decode cX2_letRequestArrive 84 = .ok (.iload_n 1, 1) := by decide +kernel
theorem dX2_letRequestArrive_85 : decode cX2_letRequestArrive 85 = .ok (.invokevirtual 164, 3) := by decide +kernel
theorem dX2_letRequestArrive_88 : decode cX2_letRequestArrive 88 = .ok (.aload_n 0, 1) := by decide +kernel
theorem dX2_letRequestArrive_89 : decode cX2_letRequestArrive 89 = .ok (.getfield 17, 3) := by decide +kernel
theorem dX2_letRequestArrive_92 : decode cX2_letRequestArrive 92 = .ok (.iload_n 1, 1) := by decide +kernel
theorem dX2_letRequestArrive_93 : decode cX2_letRequestArrive 93 = .ok (.iconst 1, 1) := by decide +kernel
theorem dX2_letRequestArrive_94 : decode cX2_letRequestArrive 94 = .ok (.iadd, 1) := by decide +kernel
theorem dX2_letRequestArrive_95 : decode cX2_letRequestArrive 95 = .ok (.aaload, 1) := by decide +kernel
theorem dX2_letRequestArrive_96 : decode cX2_letRequestArrive 96 = .ok (.getfield 99, 3) := by decide +kernel
theorem dX2_letRequestArrive_99 : decode cX2_letRequestArrive 99 = .ok (.ifCond .eq 16, 3) := by decide +kernel
theorem dX2_letRequestArrive_102 : decode cX2_letRequestArrive 102 = .ok (.aload_n 0, 1) := by decide +kernel
theorem dX2_letRequestArrive_103 : decode cX2_letRequestArrive 103 = .ok (.iload_n 1, 1) := by decide +kernel
theorem dX2_letRequestArrive_104 : decode cX2_letRequestArrive 104 = .ok (.iconst 1, 1) := by decide +kernel
theorem dX2_letRequestArrive_105 : decode cX2_letRequestArrive 105 = .ok (.iadd, 1) := by decide +kernel
theorem dX2_letRequestArrive_106 : decode cX2_letRequestArrive 106 = .ok (.aload_n 0, 1) := by decide +kernel
theorem dX2_letRequestArrive_107 : decode cX2_letRequestArrive 107 = .ok (.getfield 21, 3) := by decide +kernel
theorem dX2_letRequestArrive_110 : decode cX2_letRequestArrive 110 = .ok (.iload_n 1, 1) := by decide +kernel
theorem dX2_letRequestArrive_111 : decode cX2_letRequestArrive 111 = .ok (.iaload, 1) := by decide +kernel
theorem dX2_letRequestArrive_112 : decode cX2_letRequestArrive 112 = .ok (.invokevirtual 107, 3) := by decide +kernel
theorem dX2_letRequestArrive_115 : decode cX2_letRequestArrive 115 = .ok (.return_, 1) := by decide +kernel
set_option maxRecDepth 20000 in
theorem ggX2_letAnswerArrive_X2_letOneGo : GoodIn wsX2_letAnswerArrive wsX2_letOneGo := goodIn_r _ [10, 11, 12, 13, 14, 15, 16, 17, 9, 18, 19, 20, 21, 22, 23, 24, 25, 26, 27, 61, 62, 63, 64, 65, 66, 67, 68, 69, 70, 71, 72, 83, 84] (by decide +kernel) (by decide +kernel)
set_option maxRecDepth 20000 in
theorem gX2_letAnswerArrive_X2_letOneGo : GoodIn wsX2_letAnswerArrive (wsV RX2 103 RX2 yX2_letOneGo wsX2_letOneGo) := goodIn_app (goodIn_of _ (by decide +kernel)) ggX2_letAnswerArrive_X2_letOneGo
set_option maxRecDepth 20000 in
theorem ggX2_letAnswerArrive_X2_offer : GoodIn wsX2_letAnswerArrive wsX2_offer := goodIn_r _ [31, 1, 32, 33, 34, 35, 20, 3, 36, 37, 38, 39, 40, 41, 42, 43, 44, 45, 46, 47, 48, 9, 49, 50, 61, 62, 63, 64, 65, 66, 67, 68, 69, 70, 71, 72, 73, 74, 75, 76, 77, 78, 79, 80, 81, 82, 85, 86, 87, 88] (by decide +kernel) (by decide +kernel)
set_option maxRecDepth 20000 in
theorem gX2_letAnswerArrive_X2_offer : GoodIn wsX2_letAnswerArrive (wsV RX2 107 RX2 yX2_offer wsX2_offer) := goodIn_app (goodIn_of _ (by decide +kernel)) ggX2_letAnswerArrive_X2_offer
set_option maxRecDepth 20000 in
theorem ggX2_letAnswerArrive_X2_makeRequest : GoodIn wsX2_letAnswerArrive wsX2_makeRequest := goodIn_r _ [49, 1, 50, 33, 34, 35, 37, 38, 39, 40, 41, 42, 43, 44, 45, 61, 62, 63, 64, 65, 66, 67, 68, 69, 70, 71, 72, 73, 74, 75, 76, 77, 78, 79, 80, 81, 82, 85, 86, 87, 88] (by decide +kernel) (by decide +kernel)
set_option maxRecDepth 20000 in
theorem gX2_letAnswerArrive_X2_makeRequest : GoodIn wsX2_letAnswerArrive (wsV RX2 170 RX2 yX2_makeRequest wsX2_makeRequest) := goodIn_app (goodIn_of _ (by decide +kernel)) ggX2_letAnswerArrive_X2_makeRequest
set_option maxRecDepth 20000 in
theorem ggX2_letAnswerArrive_X2_takeWord : GoodIn wsX2_letAnswerArrive wsX2_takeWord := goodIn_r _ [54, 1, 5, 4, 55, 56, 57, 58, 9, 59, 60, 33, 34, 35, 37, 38, 39, 40, 41, 42, 43, 44, 45, 61, 62, 63, 64, 65, 66, 67, 68, 69, 70, 71, 72, 73, 74, 75, 76, 77, 78, 79, 80, 81, 82, 85, 86, 87, 88] (by decide +kernel) (by decide +kernel)
set_option maxRecDepth 20000 in
theorem gX2_letAnswerArrive_X2_takeWord : GoodIn wsX2_letAnswerArrive (wsV RX2 164 RX2 yX2_takeWord wsX2_takeWord) := goodIn_app (goodIn_of _ (by decide +kernel)) ggX2_letAnswerArrive_X2_takeWord
theorem dX2_letAnswerArrive_0 : decode cX2_letAnswerArrive 0 = .ok (.aload_n 0, 1) := by decide +kernel
theorem dX2_letAnswerArrive_1 : decode cX2_letAnswerArrive 1 = .ok (.getfield 17, 3) := by decide +kernel
theorem dX2_letAnswerArrive_4 : decode cX2_letAnswerArrive 4 = .ok (.iload_n 1, 1) := by decide +kernel
theorem dX2_letAnswerArrive_5 : decode cX2_letAnswerArrive 5 = .ok (.aaload, 1) := by decide +kernel
theorem dX2_letAnswerArrive_6 : decode cX2_letAnswerArrive 6 = .ok (.iload_n 2, 1) := by decide +kernel
theorem dX2_letAnswerArrive_7 : decode cX2_letAnswerArrive 7 = .ok (.putfield 167, 3) := by decide +kernel
theorem dX2_letAnswerArrive_10 : decode cX2_letAnswerArrive 10 = .ok (.iload_n 2, 1) := by decide +kernel
theorem dX2_letAnswerArrive_11 : decode cX2_letAnswerArrive 11 = .ok (.ifCond .ne 45, 3) := by decide +kernel
theorem dX2_letAnswerArrive_14 : decode cX2_letAnswerArrive 14 = .ok (.aload_n 0, 1) := by decide +kernel
theorem dX2_letAnswerArrive_15 : decode cX2_letAnswerArrive 15 = .ok (.getfield 17, 3) := by decide +kernel
theorem dX2_letAnswerArrive_18 : decode cX2_letAnswerArrive 18 = .ok (.iload_n 1, 1) := by decide +kernel
theorem dX2_letAnswerArrive_19 : decode cX2_letAnswerArrive 19 = .ok (.aaload, 1) := by decide +kernel
theorem dX2_letAnswerArrive_20 : decode cX2_letAnswerArrive 20 = .ok (.iconst 1, 1) := by decide +kernel
theorem dX2_letAnswerArrive_21 : decode cX2_letAnswerArrive 21 = .ok (.putfield 99, 3) := by decide +kernel
theorem dX2_letAnswerArrive_24 : decode cX2_letAnswerArrive 24 = .ok (.iload_n 1, 1) := by decide +kernel
theorem dX2_letAnswerArrive_25 : decode cX2_letAnswerArrive 25 = .ok (.ifCond .ne 10, 3) := by decide +kernel
theorem dX2_letAnswerArrive_28 : decode cX2_letAnswerArrive 28 = .ok (.aload_n 0, 1) := by decide +kernel
theorem dX2_letAnswerArrive_29 : decode cX2_letAnswerArrive 29 = .ok (.invokevirtual 103, 3) := by decide +kernel
theorem dX2_letAnswerArrive_32 : decode cX2_letAnswerArrive 32 = .ok (.goto 11, 3) := by decide +kernel
theorem dX2_letAnswerArrive_35 : decode cX2_letAnswerArrive 35 = .ok (.aload_n 0, 1) := by decide +kernel
theorem dX2_letAnswerArrive_36 : decode cX2_letAnswerArrive 36 = .ok (.getfield 21, 3) := by decide +kernel
theorem dX2_letAnswerArrive_39 : decode cX2_letAnswerArrive 39 = .ok (.iload_n 1, 1) := by decide +kernel
theorem dX2_letAnswerArrive_40 : decode cX2_letAnswerArrive 40 = .ok (.iconst 1, 1) := by decide +kernel
theorem dX2_letAnswerArrive_41 : decode cX2_letAnswerArrive 41 = .ok (.isub, 1) := by decide +kernel
theorem dX2_letAnswerArrive_42 : decode cX2_letAnswerArrive 42 = .ok (.iaload, 1) := by decide +kernel
theorem dX2_letAnswerArrive_43 : decode cX2_letAnswerArrive 43 = .ok (.istore_n 3, 1) := by decide +kernel
theorem dX2_letAnswerArrive_44 : decode cX2_letAnswerArrive 44 = .ok (.iload_n 3, 1) := by decide +kernel
theorem dX2_letAnswerArrive_45 : decode cX2_letAnswerArrive 45 = .ok (.iconst (-1), 1) := by decide +kernel
theorem dX2_letAnswerArrive_46 : decode cX2_letAnswerArrive 46 = .ok (.if_icmp .eq 9, 3) := by decide +kernel
theorem dX2_letAnswerArrive_49 : decode cX2_letAnswerArrive 49 = .ok (.aload_n 0, 1) := by decide +kernel
theorem dX2_letAnswerArrive_50 : decode cX2_letAnswerArrive 50 = .ok (.iload_n 1, 1) := by decide +kernel
theorem dX2_letAnswerArrive_51 : decode cX2_letAnswerArrive 51 = .ok (.iload_n 3, 1) := by decide +kernel
theorem dX2_letAnswerArrive_52 : decode cX2_letAnswerArrive 52 = .ok (.invokevirtual 107, 3) := by decide +kernel
theorem dX2_letAnswerArrive_55 : decode cX2_letAnswerArrive 55 = .ok (.return_, 1) := by decide +kernel
theorem dX2_letAnswerArrive_56 : decode cX2_letAnswerArrive 56 = .ok (.aload_n 0, 1) := by decide +kernel
theorem dX2_letAnswerArrive_57 : decode cX2_letAnswerArrive 57 = .ok (.iload_n 1, 1) := by decide +kernel
theorem dX2_letAnswerArrive_58 : decode cX2_letAnswerArrive 58 = .ok (.iconst 0, 1) := by decide +kernel
theorem dX2_letAnswerArrive_59 : decode cX2_letAnswerArrive 59 = .ok (.iconst 0, 1) := by decide +kernel
theorem dX2_letAnswerArrive_60 : decode cX2_letAnswerArrive 60 = .ok (.invokevirtual 170, 3) := by decide +kernel
theorem dX2_letAnswerArrive_63 : decode cX2_letAnswerArrive 63 = .ok (.iload_n 1, 1) := by decide +kernel
theorem dX2_letAnswerArrive_64 : decode cX2_letAnswerArrive 64 = .ok (.ifCond .le 33, 3) := by decide +kernel
theorem dX2_letAnswerArrive_67 : decode cX2_letAnswerArrive 67 = .ok (.aload_n 0, 1) := by decide +kernel
theorem dX2_letAnswerArrive_68 : decode cX2_letAnswerArrive 68 = .ok (.getfield 21, 3) := by decide +kernel
theorem dX2_letAnswerArrive_71 : decode cX2_letAnswerArrive 71 = .ok (.iload_n 1, 1) := by decide +kernel
theorem dX2_letAnswerArrive_72 : decode cX2_letAnswerArrive 72 = .ok (.iconst 1, 1) := by decide +kernel
theorem dX2_letAnswerArrive_73 : decode cX2_letAnswerArrive 73 = .ok (.isub, 1) := by decide +kernel
theorem dX2_letAnswerArrive_74 : decode cX2_letAnswerArrive 74 = .ok (.iconst (-1), 1) := by decide +kernel
theorem dX2_letAnswerArrive_75 : decode cX2_letAnswerArrive 75 = .ok (.iastore, 1) := by decide +kernel
theorem dX2_letAnswerArrive_76 : decode cX2_letAnswerArrive 76 = .ok (.aload_n 0, 1) := by decide +kernel
theorem dX2_letAnswerArrive_77 : decode cX2_letAnswerArrive 77 = .ok (.getfield 17, 3) := by decide +kernel
theorem dX2_letAnswerArrive_80 : decode cX2_letAnswerArrive 80 = .ok (.iload_n 1, 1) := by decide +kernel
theorem dX2_letAnswerArrive_81 : decode cX2_letAnswerArrive 81 = .ok (.iconst 1, 1) := by decide +kernel
theorem dX2_letAnswerArrive_82 : decode cX2_letAnswerArrive 82 = .ok (.isub, 1) := by decide +kernel
theorem dX2_letAnswerArrive_83 : decode cX2_letAnswerArrive 83 = .ok (.aaload, 1) := by decide +kernel
theorem dX2_letAnswerArrive_84 : decode cX2_letAnswerArrive 84 = .ok (.getfield 161, 3) := by decide +kernel
theorem dX2_letAnswerArrive_87 : decode cX2_letAnswerArrive 87 = .ok (.ifCond .eq 10, 3) := by decide +kernel
theorem dX2_letAnswerArrive_90 : decode cX2_letAnswerArrive 90 = .ok (.aload_n 0, 1) := by decide +kernel
end
section
theorem dX2_letAnswerArrive_91 : decode cX2_letAnswerArrive 91 = .ok (.iload_n 1, 1) := by decide +kernel
theorem dX2_letAnswerArrive_92 : decode cX2_letAnswerArrive 92 = .ok (.iconst 1, 1) := by decide +kernel
theorem dX2_letAnswerArrive_93 : decode cX2_letAnswerArrive 93 = .ok (.isub, 1) := by decide +kernel
theorem dX2_letAnswerArrive_94 : decode cX2_letAnswerArrive 94 = .ok (.invokevirtual 164, 3) := by decide +kernel
theorem dX2_letAnswerArrive_97 : decode cX2_letAnswerArrive 97 = .ok (.return_, 1) := by decide +kernel
set_option maxRecDepth 20000 in
theorem ggX2_takeWord_X2_makeAnswer : GoodIn wsX2_takeWord wsX2_makeAnswer := goodIn_r _ [9, 1, 10, 11, 12, 13, 14, 15, 16, 17, 18, 19, 20, 21, 22, 23, 24, 25, 26, 27, 28, 29, 30, 31, 32, 33, 34, 35, 36, 37, 38, 39, 40, 41, 42, 43, 44, 45, 46, 47, 48] (by decide +kernel) (by decide +kernel)
set_option maxRecDepth 20000 in
theorem gX2_takeWord_X2_makeAnswer : GoodIn wsX2_takeWord (wsV RX2 154 RX2 yX2_makeAnswer wsX2_makeAnswer) := goodIn_app (goodIn_of _ (by decide +kernel)) ggX2_takeWord_X2_makeAnswer
theorem dX2_takeWord_0 : decode cX2_takeWord 0 = .ok (.aload_n 0, 1) := by decide +kernel
theorem dX2_takeWord_1 : decode cX2_takeWord 1 = .ok (.getfield 17, 3) := by decide +kernel
theorem dX2_takeWord_4 : decode cX2_takeWord 4 = .ok (.iload_n 1, 1) := by decide +kernel
theorem dX2_takeWord_5 : decode cX2_takeWord 5 = .ok (.aaload, 1) := by decide +kernel
theorem dX2_takeWord_6 : decode cX2_takeWord 6 = .ok (.iconst 0, 1) := by decide +kernel
theorem dX2_takeWord_7 : decode cX2_takeWord 7 = .ok (.putfield 161, 3) := by decide +kernel
theorem dX2_takeWord_10 : decode cX2_takeWord 10 = .ok (.aload_n 0, 1) := by decide +kernel
theorem dX2_takeWord_11 : decode cX2_takeWord 11 = .ok (.getfield 21, 3) := by decide +kernel
theorem dX2_takeWord_14 : decode cX2_takeWord 14 = .ok (.iload_n 1, 1) := by decide +kernel
theorem dX2_takeWord_15 : decode cX2_takeWord 15 = .ok (.aload_n 0, 1) := by decide +kernel
theorem dX2_takeWord_16 : decode cX2_takeWord 16 = .ok (.getfield 17, 3) := by decide +kernel
theorem dX2_takeWord_19 : decode cX2_takeWord 19 = .ok (.iload_n 1, 1) := by decide +kernel
theorem dX2_takeWord_20 : decode cX2_takeWord 20 = .ok (.aaload, 1) := by decide +kernel
theorem dX2_takeWord_21 : decode cX2_takeWord 21 = .ok (.getfield 148, 3) := by decide +kernel
theorem dX2_takeWord_24 : decode cX2_takeWord 24 = .ok (.iastore, 1) := by decide +kernel
theorem dX2_takeWord_25 : decode cX2_takeWord 25 = .ok (.aload_n 0, 1) := by decide +kernel
theorem dX2_takeWord_26 : decode cX2_takeWord 26 = .ok (.iload_n 1, 1) := by decide +kernel
theorem dX2_takeWord_27 : decode cX2_takeWord 27 = .ok (.iconst 1, 1) := by decide +kernel
theorem dX2_takeWord_28 : decode cX2_takeWord 28 = .ok (.iconst 0, 1) := by decide +kernel
theorem dX2_takeWord_29 : decode cX2_takeWord 29 = .ok (.invokevirtual 154, 3) := by decide +kernel
theorem dX2_takeWord_32 : decode cX2_takeWord 32 = .ok (.return_, 1) := by decide +kernel
set_option maxRecDepth 20000 in
theorem ggX2_letOneGo_X2_chosenSender : GoodIn wsX2_letOneGo wsX2_chosenSender := goodIn_r _ [9, 1, 10, 11, 2, 19, 20, 21, 22, 23, 24, 25, 26, 27, 28, 29, 30, 31, 32] (by decide +kernel) (by decide +kernel)
set_option maxRecDepth 20000 in
theorem gX2_letOneGo_X2_chosenSender : GoodIn wsX2_letOneGo (wsV RX2 173 RX2 yX2_chosenSender wsX2_chosenSender) := goodIn_app (goodIn_of _ (by decide +kernel)) ggX2_letOneGo_X2_chosenSender
set_option maxRecDepth 20000 in
theorem ggX2_letOneGo_X5_removeFirst : GoodIn wsX2_letOneGo wsX5_removeFirst := goodIn_r _ [16, 17, 18, 31, 32] (by decide +kernel) (by decide +kernel)
set_option maxRecDepth 20000 in
theorem gX2_letOneGo_X5_removeFirst : GoodIn wsX2_letOneGo (wsV RX2 176 RX5 yX5_removeFirst wsX5_removeFirst) := goodIn_app (goodIn_of _ (by decide +kernel)) ggX2_letOneGo_X5_removeFirst
theorem dX2_letOneGo_0 : decode cX2_letOneGo 0 = .ok (.aload_n 0, 1) := by decide +kernel
theorem dX2_letOneGo_1 : decode cX2_letOneGo 1 = .ok (.invokevirtual 173, 3) := by decide +kernel
theorem dX2_letOneGo_4 : decode cX2_letOneGo 4 = .ok (.istore_n 1, 1) := by decide +kernel
theorem dX2_letOneGo_5 : decode cX2_letOneGo 5 = .ok (.aload_n 0, 1) := by decide +kernel
theorem dX2_letOneGo_6 : decode cX2_letOneGo 6 = .ok (.getfield 26, 3) := by decide +kernel
theorem dX2_letOneGo_9 : decode cX2_letOneGo 9 = .ok (.iload_n 1, 1) := by decide +kernel
theorem dX2_letOneGo_10 : decode cX2_letOneGo 10 = .ok (.aaload, 1) := by decide +kernel
theorem dX2_letOneGo_11 : decode cX2_letOneGo 11 = .ok (.invokevirtual 176, 3) := by decide +kernel
theorem dX2_letOneGo_14 : decode cX2_letOneGo 14 = .ok (.istore_n 2, 1) := by decide +kernel
theorem dX2_letOneGo_15 : decode cX2_letOneGo 15 = .ok (.iload_n 2, 1) := by decide +kernel
theorem dX2_letOneGo_16 : decode cX2_letOneGo 16 = .ok (.iconst (-1), 1) := by decide +kernel
theorem dX2_letOneGo_17 : decode cX2_letOneGo 17 = .ok (.if_icmp .ne 5, 3) := by decide +kernel
theorem dX2_letOneGo_20 : decode cX2_letOneGo 20 = .ok (.iconst (-1), 1) := by decide +kernel
theorem dX2_letOneGo_21 : decode cX2_letOneGo 21 = .ok (.ireturn, 1) := by decide +kernel
theorem dX2_letOneGo_22 : decode cX2_letOneGo 22 = .ok (.iload_n 1, 1) := by decide +kernel
theorem dX2_letOneGo_23 : decode cX2_letOneGo 23 = .ok (.bipush 16, 2) := by decide +kernel
theorem dX2_letOneGo_25 : decode cX2_letOneGo 25 = .ok (.imul, 1) := by decide +kernel
theorem dX2_letOneGo_26 : decode cX2_letOneGo 26 = .ok (.iload_n 2, 1) := by decide +kernel
theorem dX2_letOneGo_27 : decode cX2_letOneGo 27 = .ok (.iadd, 1) := by decide +kernel
theorem dX2_letOneGo_28 : decode cX2_letOneGo 28 = .ok (.istore_n 3, 1) := by decide +kernel
theorem dX2_letOneGo_29 : decode cX2_letOneGo 29 = .ok (.aload_n 0, 1) := by decide +kernel
theorem dX2_letOneGo_30 : decode cX2_letOneGo 30 = .ok (.iload_n 1, 1) := by decide +kernel
theorem dX2_letOneGo_31 : decode cX2_letOneGo 31 = .ok (.putfield 60, 3) := by decide +kernel
theorem dX2_letOneGo_34 : decode cX2_letOneGo 34 = .ok (.aload_n 0, 1) := by decide +kernel
theorem dX2_letOneGo_35 : decode cX2_letOneGo 35 = .ok (.getfield 44, 3) := by decide +kernel
theorem dX2_letOneGo_38 : decode cX2_letOneGo 38 = .ok (.aload_n 0, 1) := by decide +kernel
theorem dX2_letOneGo_39 : decode cX2_letOneGo 39 = .ok (.getfield 63, 3) := by decide +kernel
theorem dX2_letOneGo_42 : decode cX2_letOneGo 42 = .ok (.bipush 8, 2) := by decide +kernel
theorem dX2_letOneGo_44 : decode cX2_letOneGo 44 = .ok (.irem, 1) := by decide +kernel
theorem dX2_letOneGo_45 : decode cX2_letOneGo 45 = .ok (.iload_n 3, 1) := by decide +kernel
theorem dX2_letOneGo_46 : decode cX2_letOneGo 46 = .ok (.iastore, 1) := by decide +kernel
theorem dX2_letOneGo_47 : decode cX2_letOneGo 47 = .ok (.aload_n 0, 1) := by decide +kernel
theorem dX2_letOneGo_48 : decode cX2_letOneGo 48 = .ok (.dup, 1) := by decide +kernel
theorem dX2_letOneGo_49 : decode cX2_letOneGo 49 = .ok (.getfield 63, 3) := by decide +kernel
theorem dX2_letOneGo_52 : decode cX2_letOneGo 52 = .ok (.iconst 1, 1) := by decide +kernel
theorem dX2_letOneGo_53 : decode cX2_letOneGo 53 = .ok (.iadd, 1) := by decide +kernel
theorem dX2_letOneGo_54 : decode cX2_letOneGo 54 = .ok (.putfield 63, 3) := by decide +kernel
theorem dX2_letOneGo_57 : decode cX2_letOneGo 57 = .ok (.iload_n 3, 1) := by decide +kernel
theorem dX2_letOneGo_58 : decode cX2_letOneGo 58 = .ok (.ireturn, 1) := by decide +kernel
theorem dX2_chosenSender_0 : decode cX2_chosenSender 0 = .ok (.aload_n 0, 1) := by decide +kernel
theorem dX2_chosenSender_1 : decode cX2_chosenSender 1 = .ok (.getfield 26, 3) := by decide +kernel
theorem dX2_chosenSender_4 : decode cX2_chosenSender 4 = .ok (.iconst 1, 1) := by decide +kernel
theorem dX2_chosenSender_5 : decode cX2_chosenSender 5 = .ok (.aaload, 1) := by decide +kernel
theorem dX2_chosenSender_6 : decode cX2_chosenSender 6 = .ok (.getfield 72, 3) := by decide +kernel
theorem dX2_chosenSender_9 : decode cX2_chosenSender 9 = .ok (.ifCond .ne 5, 3) := by decide +kernel
theorem dX2_chosenSender_12 : decode cX2_chosenSender 12 = .ok (.iconst 0, 1) := by decide +kernel
theorem dX2_chosenSender_13 : decode cX2_chosenSender 13 = .ok (.ireturn, 1) := by decide +kernel
theorem dX2_chosenSender_14 : decode cX2_chosenSender 14 = .ok (.aload_n 0, 1) := by decide +kernel
theorem dX2_chosenSender_15 : decode cX2_chosenSender 15 = .ok (.getfield 26, 3) := by decide +kernel
theorem dX2_chosenSender_18 : decode cX2_chosenSender 18 = .ok (.iconst 0, 1) := by decide +kernel
theorem dX2_chosenSender_19 : decode cX2_chosenSender 19 = .ok (.aaload, 1) := by decide +kernel
theorem dX2_chosenSender_20 : decode cX2_chosenSender 20 = .ok (.getfield 72, 3) := by decide +kernel
theorem dX2_chosenSender_23 : decode cX2_chosenSender 23 = .ok (.ifCond .ne 5, 3) := by decide +kernel
theorem dX2_chosenSender_26 : decode cX2_chosenSender 26 = .ok (.iconst 1, 1) := by decide +kernel
theorem dX2_chosenSender_27 : decode cX2_chosenSender 27 = .ok (.ireturn, 1) := by decide +kernel
theorem dX2_chosenSender_28 : decode cX2_chosenSender 28 = .ok (.aload_n 0, 1) := by decide +kernel
theorem dX2_chosenSender_29 : decode cX2_chosenSender 29 = .ok (.getfield 9, 3) := by decide +kernel
theorem dX2_chosenSender_32 : decode cX2_chosenSender 32 = .ok (.iconst 2, 1) := by decide +kernel
theorem dX2_chosenSender_33 : decode cX2_chosenSender 33 = .ok (.iaload, 1) := by decide +kernel
theorem dX2_chosenSender_34 : decode cX2_chosenSender 34 = .ok (.ifCond .ne 14, 3) := by decide +kernel
theorem dX2_chosenSender_37 : decode cX2_chosenSender 37 = .ok (.aload_n 0, 1) := by decide +kernel
theorem dX2_chosenSender_38 : decode cX2_chosenSender 38 = .ok (.getfield 60, 3) := by decide +kernel
theorem dX2_chosenSender_41 : decode cX2_chosenSender 41 = .ok (.ifCond .ne 7, 3) := by decide +kernel
theorem dX2_chosenSender_44 : decode cX2_chosenSender 44 = .ok (.iconst 1, 1) := by decide +kernel
theorem dX2_chosenSender_45 : decode cX2_chosenSender 45 = .ok (.goto 4, 3) := by decide +kernel
theorem dX2_chosenSender_48 : decode cX2_chosenSender 48 = .ok (.iconst 0, 1) := by decide +kernel
theorem dX2_chosenSender_49 : decode cX2_chosenSender 49 = .ok (.ireturn, 1) := by decide +kernel
set_option maxRecDepth 20000 in
theorem ggX2_noteWord_X4_append : GoodIn wsX2_noteWord wsX4_append := goodIn_r _ [9, 10, 11, 12, 13, 14, 27, 28, 29, 30, 31] (by decide +kernel) (by decide +kernel)
set_option maxRecDepth 20000 in
theorem gX2_noteWord_X4_append : GoodIn wsX2_noteWord (wsV RX2 178 RX4 yX4_append wsX4_append) := goodIn_app (goodIn_of _ (by decide +kernel)) ggX2_noteWord_X4_append
theorem dX2_noteWord_0 : decode cX2_noteWord 0 = .ok (.iload_n 1, 1) := by decide +kernel
theorem dX2_noteWord_1 : decode cX2_noteWord 1 = .ok (.aload_n 0, 1) := by decide +kernel
theorem dX2_noteWord_2 : decode cX2_noteWord 2 = .ok (.getfield 44, 3) := by decide +kernel
theorem dX2_noteWord_5 : decode cX2_noteWord 5 = .ok (.aload_n 0, 1) := by decide +kernel
theorem dX2_noteWord_6 : decode cX2_noteWord 6 = .ok (.getfield 40, 3) := by decide +kernel
theorem dX2_noteWord_9 : decode cX2_noteWord 9 = .ok (.getfield 119, 3) := by decide +kernel
theorem dX2_noteWord_12 : decode cX2_noteWord 12 = .ok (.bipush 8, 2) := by decide +kernel
theorem dX2_noteWord_14 : decode cX2_noteWord 14 = .ok (.irem, 1) := by decide +kernel
theorem dX2_noteWord_15 : decode cX2_noteWord 15 = .ok (.iaload, 1) := by decide +kernel
theorem dX2_noteWord_16 : decode cX2_noteWord 16 = .ok (.if_icmp .ne 7, 3) := by decide +kernel
theorem dX2_noteWord_19 : decode cX2_noteWord 19 = .ok (.iconst 1, 1) := by decide +kernel
theorem dX2_noteWord_20 : decode cX2_noteWord 20 = .ok (.goto 4, 3) := by decide +kernel
theorem dX2_noteWord_23 : decode cX2_noteWord 23 = .ok (.iconst 0, 1) := by decide +kernel
theorem dX2_noteWord_24 : decode cX2_noteWord 24 = .ok (.istore_n 2, 1) := by decide +kernel
theorem dX2_noteWord_25 : decode cX2_noteWord 25 = .ok (.aload_n 0, 1) := by decide +kernel
theorem dX2_noteWord_26 : decode cX2_noteWord 26 = .ok (.getfield 40, 3) := by decide +kernel
theorem dX2_noteWord_29 : decode cX2_noteWord 29 = .ok (.iload_n 1, 1) := by decide +kernel
theorem dX2_noteWord_30 : decode cX2_noteWord 30 = .ok (.aload_n 0, 1) := by decide +kernel
theorem dX2_noteWord_31 : decode cX2_noteWord 31 = .ok (.getfield 57, 3) := by decide +kernel
theorem dX2_noteWord_34 : decode cX2_noteWord 34 = .ok (.iload_n 2, 1) := by decide +kernel
theorem dX2_noteWord_35 : decode cX2_noteWord 35 = .ok (.ifCond .eq 7, 3) := by decide +kernel
theorem dX2_noteWord_38 : decode cX2_noteWord 38 = .ok (.iconst 1, 1) := by decide +kernel
theorem dX2_noteWord_39 : decode cX2_noteWord 39 = .ok (.goto 4, 3) := by decide +kernel
theorem dX2_noteWord_42 : decode cX2_noteWord 42 = .ok (.iconst 0, 1) := by decide +kernel
theorem dX2_noteWord_43 : decode cX2_noteWord 43 = .ok (.invokevirtual 178, 3) := by decide +kernel
theorem dX2_noteWord_46 : decode cX2_noteWord 46 = .ok (.return_, 1) := by decide +kernel
set_option maxRecDepth 20000 in
theorem ggX2_offer_X0_insert : GoodIn wsX2_offer wsX0_insert := goodIn_r _ [13, 14, 15, 16, 17, 46, 47, 48, 49] (by decide +kernel) (by decide +kernel)
set_option maxRecDepth 20000 in
theorem gX2_offer_X0_insert : GoodIn wsX2_offer (wsV RX2 183 RX0 yX0_insert wsX0_insert) := goodIn_app (goodIn_of _ (by decide +kernel)) ggX2_offer_X0_insert
set_option maxRecDepth 20000 in
theorem ggX2_offer_X2_makeRequest : GoodIn wsX2_offer wsX2_makeRequest := goodIn_r _ [22, 1, 23, 3, 4, 5, 9, 10, 11, 12, 13, 14, 15, 16, 17, 24, 25, 26, 27, 28, 29, 30, 31, 32, 33, 34, 35, 36, 37, 38, 39, 40, 41, 42, 43, 44, 45, 46, 47, 48, 49] (by decide +kernel) (by decide +kernel)
set_option maxRecDepth 20000 in
theorem gX2_offer_X2_makeRequest : GoodIn wsX2_offer (wsV RX2 170 RX2 yX2_makeRequest wsX2_makeRequest) := goodIn_app (goodIn_of _ (by decide +kernel)) ggX2_offer_X2_makeRequest
theorem dX2_offer_0 : decode cX2_offer 0 = .ok (.aload_n 0, 1) := by decide +kernel
theorem dX2_offer_1 : decode cX2_offer 1 = .ok (.getfield 17, 3) := by decide +kernel
theorem dX2_offer_4 : decode cX2_offer 4 = .ok (.iload_n 1, 1) := by decide +kernel
theorem dX2_offer_5 : decode cX2_offer 5 = .ok (.aaload, 1) := by decide +kernel
theorem dX2_offer_6 : decode cX2_offer 6 = .ok (.astore_n 3, 1) := by decide +kernel
theorem dX2_offer_7 : decode cX2_offer 7 = .ok (.aload_n 3, 1) := by decide +kernel
theorem dX2_offer_8 : decode cX2_offer 8 = .ok (.iload_n 2, 1) := by decide +kernel
theorem dX2_offer_9 : decode cX2_offer 9 = .ok (.putfield 180, 3) := by decide +kernel
theorem dX2_offer_12 : decode cX2_offer 12 = .ok (.aload_n 0, 1) := by decide +kernel
theorem dX2_offer_13 : decode cX2_offer 13 = .ok (.getfield 33, 3) := by decide +kernel
theorem dX2_offer_16 : decode cX2_offer 16 = .ok (.aload_n 0, 1) := by decide +kernel
theorem dX2_offer_17 : decode cX2_offer 17 = .ok (.getfield 57, 3) := by decide +kernel
theorem dX2_offer_20 : decode cX2_offer 20 = .ok (.aload_n 3, 1) := by decide +kernel
theorem dX2_offer_21 : decode cX2_offer 21 = .ok (.getfield 115, 3) := by decide +kernel
theorem dX2_offer_24 : decode cX2_offer 24 = .ok (.iconst 2, 1) := by decide +kernel
theorem dX2_offer_25 : decode cX2_offer 25 = .ok (.iaload, 1) := by decide +kernel
theorem dX2_offer_26 : decode cX2_offer 26 = .ok (.iadd, 1) := by decide +kernel
theorem dX2_offer_27 : decode cX2_offer 27 = .ok (.iload_n 1, 1) := by decide +kernel
theorem dX2_offer_28 : decode cX2_offer 28 = .ok (.iconst 2, 1) := by decide +kernel
theorem dX2_offer_29 : decode cX2_offer 29 = .ok (.iload_n 2, 1) := by decide +kernel
theorem dX2_offer_30 : decode cX2_offer 30 = .ok (.invokevirtual 183, 3) := by decide +kernel
theorem dX2_offer_33 : decode cX2_offer 33 = .ok (.aload_n 0, 1) := by decide +kernel
theorem dX2_offer_34 : decode cX2_offer 34 = .ok (.iload_n 1, 1) := by decide +kernel
theorem dX2_offer_35 : decode cX2_offer 35 = .ok (.iconst 1, 1) := by decide +kernel
theorem dX2_offer_36 : decode cX2_offer 36 = .ok (.aload_n 0, 1) := by decide +kernel
theorem dX2_offer_37 : decode cX2_offer 37 = .ok (.getfield 9, 3) := by decide +kernel
theorem dX2_offer_40 : decode cX2_offer 40 = .ok (.iconst 0, 1) := by decide +kernel
theorem dX2_offer_41 : decode cX2_offer 41 = .ok (.iaload, 1) := by decide +kernel
theorem dX2_offer_42 : decode cX2_offer 42 = .ok (.invokevirtual 170, 3) := by decide +kernel
theorem dX2_offer_45 : decode cX2_offer 45 = .ok (.aload_n 3, 1) := by decide +kernel
theorem dX2_offer_46 : decode cX2_offer 46 = .ok (.iconst 0, 1) := by decide +kernel
theorem dX2_offer_47 : decode cX2_offer 47 = .ok (.putfield 99, 3) := by decide +kernel
theorem dX2_offer_50 : decode cX2_offer 50 = .ok (.aload_n 3, 1) := by decide +kernel
theorem dX2_offer_51 : decode cX2_offer 51 = .ok (.dup, 1) := by decide +kernel
theorem dX2_offer_52 : decode cX2_offer 52 = .ok (.getfield 187, 3) := by decide +kernel
theorem dX2_offer_55 : decode cX2_offer 55 = .ok (.iconst 1, 1) := by decide +kernel
theorem dX2_offer_56 : decode cX2_offer 56 = .ok (.iadd, 1) := by decide +kernel
theorem dX2_offer_57 : decode cX2_offer 57 = .ok (.putfield 187, 3) := by decide +kernel
theorem dX2_offer_60 : decode cX2_offer 60 = .ok (.return_, 1) := by decide +kernel
set_option maxRecDepth 20000 in
theorem ggX2_makeRequest_X0_insert : GoodIn wsX2_makeRequest wsX0_insert := goodIn_r _ [10, 11, 12, 13, 14, 37, 38, 39, 40] (by decide +kernel) (by decide +kernel)
set_option maxRecDepth 20000 in
theorem gX2_makeRequest_X0_insert : GoodIn wsX2_makeRequest (wsV RX2 183 RX0 yX0_insert wsX0_insert) := goodIn_app (goodIn_of _ (by decide +kernel)) ggX2_makeRequest_X0_insert
theorem dX2_makeRequest_0 : decode cX2_makeRequest 0 = .ok (.aload_n 0, 1) := by decide +kernel
theorem dX2_makeRequest_1 : decode cX2_makeRequest 1 = .ok (.getfield 17, 3) := by decide +kernel
theorem dX2_makeRequest_4 : decode cX2_makeRequest 4 = .ok (.iload_n 1, 1) := by decide +kernel
theorem dX2_makeRequest_5 : decode cX2_makeRequest 5 = .ok (.aaload, 1) := by decide +kernel
theorem dX2_makeRequest_6 : decode cX2_makeRequest 6 = .ok (.iload_n 2, 1) := by decide +kernel
theorem dX2_makeRequest_7 : decode cX2_makeRequest 7 = .ok (.putfield 188, 3) := by decide +kernel
theorem dX2_makeRequest_10 : decode cX2_makeRequest 10 = .ok (.aload_n 0, 1) := by decide +kernel
theorem dX2_makeRequest_11 : decode cX2_makeRequest 11 = .ok (.getfield 33, 3) := by decide +kernel
theorem dX2_makeRequest_14 : decode cX2_makeRequest 14 = .ok (.aload_n 0, 1) := by decide +kernel
theorem dX2_makeRequest_15 : decode cX2_makeRequest 15 = .ok (.getfield 57, 3) := by decide +kernel
theorem dX2_makeRequest_18 : decode cX2_makeRequest 18 = .ok (.aload_n 0, 1) := by decide +kernel
theorem dX2_makeRequest_19 : decode cX2_makeRequest 19 = .ok (.getfield 17, 3) := by decide +kernel
theorem dX2_makeRequest_22 : decode cX2_makeRequest 22 = .ok (.iload_n 1, 1) := by decide +kernel
theorem dX2_makeRequest_23 : decode cX2_makeRequest 23 = .ok (.aaload, 1) := by decide +kernel
theorem dX2_makeRequest_24 : decode cX2_makeRequest 24 = .ok (.getfield 115, 3) := by decide +kernel
theorem dX2_makeRequest_27 : decode cX2_makeRequest 27 = .ok (.iconst 0, 1) := by decide +kernel
theorem dX2_makeRequest_28 : decode cX2_makeRequest 28 = .ok (.iaload, 1) := by decide +kernel
theorem dX2_makeRequest_29 : decode cX2_makeRequest 29 = .ok (.iadd, 1) := by decide +kernel
theorem dX2_makeRequest_30 : decode cX2_makeRequest 30 = .ok (.iload_n 3, 1) := by decide +kernel
theorem dX2_makeRequest_31 : decode cX2_makeRequest 31 = .ok (.iadd, 1) := by decide +kernel
theorem dX2_makeRequest_32 : decode cX2_makeRequest 32 = .ok (.iload_n 1, 1) := by decide +kernel
theorem dX2_makeRequest_33 : decode cX2_makeRequest 33 = .ok (.iconst 0, 1) := by decide +kernel
theorem dX2_makeRequest_34 : decode cX2_makeRequest 34 = .ok (.iload_n 2, 1) := by decide +kernel
theorem dX2_makeRequest_35 : decode cX2_makeRequest 35 = .ok (.invokevirtual 183, 3) := by decide +kernel
theorem dX2_makeRequest_38 : decode cX2_makeRequest 38 = .ok (.return_, 1) := by decide +kernel
set_option maxRecDepth 20000 in
theorem ggX2_makeAnswer_X0_insert : GoodIn wsX2_makeAnswer wsX0_insert := goodIn_r _ [10, 11, 12, 13, 14, 37, 38, 39, 40] (by decide +kernel) (by decide +kernel)
set_option maxRecDepth 20000 in
theorem gX2_makeAnswer_X0_insert : GoodIn wsX2_makeAnswer (wsV RX2 183 RX0 yX0_insert wsX0_insert) := goodIn_app (goodIn_of _ (by decide +kernel)) ggX2_makeAnswer_X0_insert
theorem dX2_makeAnswer_0 : decode cX2_makeAnswer 0 = .ok (.aload_n 0, 1) := by decide +kernel
theorem dX2_makeAnswer_1 : decode cX2_makeAnswer 1 = .ok (.getfield 17, 3) := by decide +kernel
theorem dX2_makeAnswer_4 : decode cX2_makeAnswer 4 = .ok (.iload_n 1, 1) := by decide +kernel
theorem dX2_makeAnswer_5 : decode cX2_makeAnswer 5 = .ok (.aaload, 1) := by decide +kernel
theorem dX2_makeAnswer_6 : decode cX2_makeAnswer 6 = .ok (.iload_n 2, 1) := by decide +kernel
theorem dX2_makeAnswer_7 : decode cX2_makeAnswer 7 = .ok (.putfield 191, 3) := by decide +kernel
theorem dX2_makeAnswer_10 : decode cX2_makeAnswer 10 = .ok (.aload_n 0, 1) := by decide +kernel
theorem dX2_makeAnswer_11 : decode cX2_makeAnswer 11 = .ok (.getfield 33, 3) := by decide +kernel
theorem dX2_makeAnswer_14 : decode cX2_makeAnswer 14 = .ok (.aload_n 0, 1) := by decide +kernel
theorem dX2_makeAnswer_15 : decode cX2_makeAnswer 15 = .ok (.getfield 57, 3) := by decide +kernel
theorem dX2_makeAnswer_18 : decode cX2_makeAnswer 18 = .ok (.aload_n 0, 1) := by decide +kernel
theorem dX2_makeAnswer_19 : decode cX2_makeAnswer 19 = .ok (.getfield 17, 3) := by decide +kernel
theorem dX2_makeAnswer_22 : decode cX2_makeAnswer 22 = .ok (.iload_n 1, 1) := by decide +kernel
theorem dX2_makeAnswer_23 : decode cX2_makeAnswer 23 = .ok (.aaload, 1) := by decide +kernel
theorem dX2_makeAnswer_24 : decode cX2_makeAnswer 24 = .ok (.getfield 115, 3) := by decide +kernel
theorem dX2_makeAnswer_27 : decode cX2_makeAnswer 27 = .ok (.iconst 1, 1) := by decide +kernel
theorem dX2_makeAnswer_28 : decode cX2_makeAnswer 28 = .ok (.iaload, 1) := by decide +kernel
theorem dX2_makeAnswer_29 : decode cX2_makeAnswer 29 = .ok (.iadd, 1) := by decide +kernel
theorem dX2_makeAnswer_30 : decode cX2_makeAnswer 30 = .ok (.iload_n 3, 1) := by decide +kernel
theorem dX2_makeAnswer_31 : decode cX2_makeAnswer 31 = .ok (.iadd, 1) := by decide +kernel
theorem dX2_makeAnswer_32 : decode cX2_makeAnswer 32 = .ok (.iload_n 1, 1) := by decide +kernel
theorem dX2_makeAnswer_33 : decode cX2_makeAnswer 33 = .ok (.iconst 1, 1) := by decide +kernel
theorem dX2_makeAnswer_34 : decode cX2_makeAnswer 34 = .ok (.iload_n 2, 1) := by decide +kernel
theorem dX2_makeAnswer_35 : decode cX2_makeAnswer 35 = .ok (.invokevirtual 183, 3) := by decide +kernel
theorem dX2_makeAnswer_38 : decode cX2_makeAnswer 38 = .ok (.return_, 1) := by decide +kernel
theorem dX3_init_0 : decode cX3_init 0 = .ok (.aload_n 0, 1) := by decide +kernel
theorem dX3_init_1 : decode cX3_init 1 = .ok (.invokespecial 3, 3) := by decide +kernel
theorem dX3_init_4 : decode cX3_init 4 = .ok (.aload_n 0, 1) := by decide +kernel
theorem dX3_init_5 : decode cX3_init 5 = .ok (.iconst 3, 1) := by decide +kernel
theorem dX3_init_6 : decode cX3_init 6 = .ok (.newarray .int, 2) := by decide +kernel
theorem dX3_init_8 : decode cX3_init 8 = .ok (.putfield 9, 3) := by decide +kernel
theorem dX3_init_11 : decode cX3_init 11 = .ok (.return_, 1) := by decide +kernel
theorem dX3_clear_0 : decode cX3_clear 0 = .ok (.iconst 0, 1) := by decide +kernel
theorem dX3_clear_1 : decode cX3_clear 1 = .ok (.istore_n 1, 1) := by decide +kernel
theorem dX3_clear_2 : decode cX3_clear 2 = .ok (.iload_n 1, 1) := by decide +kernel
theorem dX3_clear_3 : decode cX3_clear 3 = .ok (.iconst 3, 1) := by decide +kernel
theorem dX3_clear_4 : decode cX3_clear 4 = .ok (.if_icmp .ge 16, 3) := by decide +kernel
theorem dX3_clear_7 : decode cX3_clear 7 = .ok (.aload_n 0, 1) := by decide +kernel
theorem dX3_clear_8 : decode cX3_clear 8 = .ok (.getfield 9, 3) := by decide +kernel
theorem dX3_clear_11 : decode cX3_clear 11 = .ok (.iload_n 1, 1) := by decide +kernel
theorem dX3_clear_12 : decode cX3_clear 12 = .ok (.iconst 2, 1) := by decide +kernel
theorem dX3_clear_13 : decode cX3_clear 13 = .ok (.iastore, 1) := by decide +kernel
theorem dX3_clear_14 : decode cX3_clear 14 = .ok (.iinc 1 1, 3) := by decide +kernel
theorem dX3_clear_17 : decode cX3_clear 17 = .ok (.goto (-15), 3) := by decide +kernel
theorem dX3_clear_20 : decode cX3_clear 20 = .ok (.aload_n 0, 1) := by decide +kernel
theorem dX3_clear_21 : decode cX3_clear 21 = .ok (.iconst 0, 1) := by decide +kernel
theorem dX3_clear_22 : decode cX3_clear 22 = .ok (.putfield 15, 3) := by decide +kernel
theorem dX3_clear_25 : decode cX3_clear 25 = .ok (.aload_n 0, 1) := by decide +kernel
theorem dX3_clear_26 : decode cX3_clear 26 = .ok (.iconst 0, 1) := by decide +kernel
theorem dX3_clear_27 : decode cX3_clear 27 = .ok (.putfield 19, 3) := by decide +kernel
theorem dX3_clear_30 : decode cX3_clear 30 = .ok (.aload_n 0, 1) := by decide +kernel
theorem dX3_clear_31 : decode cX3_clear 31 = .ok (.iconst 0, 1) := by decide +kernel
theorem dX3_clear_32 : decode cX3_clear 32 = .ok (.putfield 22, 3) := by decide +kernel
theorem dX3_clear_35 : decode cX3_clear 35 = .ok (.aload_n 0, 1) := by decide +kernel
theorem dX3_clear_36 : decode cX3_clear 36 = .ok (.iconst 0, 1) := by decide +kernel
theorem dX3_clear_37 : decode cX3_clear 37 = .ok (.putfield 25, 3) := by decide +kernel
theorem dX3_clear_40 : decode cX3_clear 40 = .ok (.aload_n 0, 1) := by decide +kernel
theorem dX3_clear_41 : decode cX3_clear 41 = .ok (.iconst 0, 1) := by decide +kernel
theorem dX3_clear_42 : decode cX3_clear 42 = .ok (.putfield 28, 3) := by decide +kernel
theorem dX3_clear_45 : decode cX3_clear 45 = .ok (.aload_n 0, 1) := by decide +kernel
theorem dX3_clear_46 : decode cX3_clear 46 = .ok (.iconst 0, 1) := by decide +kernel
theorem dX3_clear_47 : decode cX3_clear 47 = .ok (.putfield 31, 3) := by decide +kernel
theorem dX3_clear_50 : decode cX3_clear 50 = .ok (.aload_n 0, 1) := by decide +kernel
theorem dX3_clear_51 : decode cX3_clear 51 = .ok (.iconst 1, 1) := by decide +kernel
theorem dX3_clear_52 : decode cX3_clear 52 = .ok (.putfield 34, 3) := by decide +kernel
theorem dX3_clear_55 : decode cX3_clear 55 = .ok (.aload_n 0, 1) := by decide +kernel
theorem dX3_clear_56 : decode cX3_clear 56 = .ok (.iconst 0, 1) := by decide +kernel
theorem dX3_clear_57 : decode cX3_clear 57 = .ok (.putfield 38, 3) := by decide +kernel
theorem dX3_clear_60 : decode cX3_clear 60 = .ok (.aload_n 0, 1) := by decide +kernel
theorem dX3_clear_61 : decode cX3_clear 61 = .ok (.iconst 0, 1) := by decide +kernel
theorem dX3_clear_62 : decode cX3_clear 62 = .ok (.putfield 41, 3) := by decide +kernel
theorem dX3_clear_65 : decode cX3_clear 65 = .ok (.return_, 1) := by decide +kernel
theorem dX3_copyFrom_0 : decode cX3_copyFrom 0 = .ok (.aload_n 1, 1) := by decide +kernel
theorem dX3_copyFrom_1 : decode cX3_copyFrom 1 = .ok (.getfield 9, 3) := by decide +kernel
theorem dX3_copyFrom_4 : decode cX3_copyFrom 4 = .ok (.iconst 0, 1) := by decide +kernel
theorem dX3_copyFrom_5 : decode cX3_copyFrom 5 = .ok (.aload_n 0, 1) := by decide +kernel
theorem dX3_copyFrom_6 : decode cX3_copyFrom 6 = .ok (.getfield 9, 3) := by decide +kernel
theorem dX3_copyFrom_9 : decode cX3_copyFrom 9 = .ok (.iconst 0, 1) := by decide +kernel
theorem dX3_copyFrom_10 : decode cX3_copyFrom 10 = .ok (.iconst 3, 1) := by decide +kernel
theorem dX3_copyFrom_11 : decode cX3_copyFrom 11 = .ok (.invokestatic 44, 3) := by decide +kernel
theorem dX3_copyFrom_14 : decode cX3_copyFrom 14 = .ok (.aload_n 0, 1) := by decide +kernel
theorem dX3_copyFrom_15 : decode cX3_copyFrom 15 = .ok (.aload_n 1, 1) := by decide +kernel
theorem dX3_copyFrom_16 : decode cX3_copyFrom 16 = .ok (.getfield 15, 3) := by decide +kernel
theorem dX3_copyFrom_19 : decode cX3_copyFrom 19 = .ok (.putfield 15, 3) := by decide +kernel
theorem dX3_copyFrom_22 : decode cX3_copyFrom 22 = .ok (.aload_n 0, 1) := by decide +kernel
theorem dX3_copyFrom_23 : decode cX3_copyFrom 23 = .ok (.aload_n 1, 1) := by decide +kernel
theorem dX3_copyFrom_24 : decode cX3_copyFrom 24 = .ok (.getfield 19, 3) := by decide +kernel
theorem dX3_copyFrom_27 : decode cX3_copyFrom 27 = .ok (.putfield 19, 3) := by decide +kernel
theorem dX3_copyFrom_30 : decode cX3_copyFrom 30 = .ok (.aload_n 0, 1) := by decide +kernel
theorem dX3_copyFrom_31 : decode cX3_copyFrom 31 = .ok (.aload_n 1, 1) := by decide +kernel
theorem dX3_copyFrom_32 : decode cX3_copyFrom 32 = .ok (.getfield 22, 3) := by decide +kernel
theorem dX3_copyFrom_35 : decode cX3_copyFrom 35 = .ok (.putfield 22, 3) := by decide +kernel
theorem dX3_copyFrom_38 : decode cX3_copyFrom 38 = .ok (.aload_n 0, 1) := by decide +kernel
theorem dX3_copyFrom_39 : decode cX3_copyFrom 39 = .ok (.aload_n 1, 1) := by decide +kernel
theorem dX3_copyFrom_40 : decode cX3_copyFrom 40 = .ok (.getfield 25, 3) := by decide +kernel
theorem dX3_copyFrom_43 : decode cX3_copyFrom 43 = .ok (.putfield 25, 3) := by decide +kernel
theorem dX3_copyFrom_46 : decode cX3_copyFrom 46 = .ok (.aload_n 0, 1) := by decide +kernel
theorem dX3_copyFrom_47 : decode cX3_copyFrom 47 = .ok (.aload_n 1, 1) := by decide +kernel
theorem dX3_copyFrom_48 : decode cX3_copyFrom 48 = .ok (.getfield 28, 3) := by decide +kernel
theorem dX3_copyFrom_51 : decode cX3_copyFrom 51 = .ok (.putfield 28, 3) := by decide +kernel
theorem dX3_copyFrom_54 : decode cX3_copyFrom 54 = .ok (.aload_n 0, 1) := by decide +kernel
theorem dX3_copyFrom_55 : decode cX3_copyFrom 55 = .ok (.aload_n 1, 1) := by decide +kernel
theorem dX3_copyFrom_56 : decode cX3_copyFrom 56 = .ok (.getfield 31, 3) := by decide +kernel
theorem dX3_copyFrom_59 : decode cX3_copyFrom 59 = .ok (.putfield 31, 3) := by decide +kernel
theorem dX3_copyFrom_62 : decode cX3_copyFrom 62 = .ok (.aload_n 0, 1) := by decide +kernel
theorem dX3_copyFrom_63 : decode cX3_copyFrom 63 = .ok (.aload_n 1, 1) := by decide +kernel
theorem dX3_copyFrom_64 : decode cX3_copyFrom 64 = .ok (.getfield 34, 3) := by decide +kernel
theorem dX3_copyFrom_67 : decode cX3_copyFrom 67 = .ok (.putfield 34, 3) := by decide +kernel
theorem dX3_copyFrom_70 : decode cX3_copyFrom 70 = .ok (.aload_n 0, 1) := by decide +kernel
theorem dX3_copyFrom_71 : decode cX3_copyFrom 71 = .ok (.aload_n 1, 1) := by decide +kernel
theorem dX3_copyFrom_72 : decode cX3_copyFrom 72 = .ok (.getfield 38, 3) := by decide +kernel
theorem dX3_copyFrom_75 : decode cX3_copyFrom 75 = .ok (.putfield 38, 3) := by decide +kernel
theorem dX3_copyFrom_78 : decode cX3_copyFrom 78 = .ok (.aload_n 0, 1) := by decide +kernel
theorem dX3_copyFrom_79 : decode cX3_copyFrom 79 = .ok (.aload_n 1, 1) := by decide +kernel
theorem dX3_copyFrom_80 : decode cX3_copyFrom 80 = .ok (.getfield 41, 3) := by decide +kernel
theorem dX3_copyFrom_83 : decode cX3_copyFrom 83 = .ok (.putfield 41, 3) := by decide +kernel
theorem dX3_copyFrom_86 : decode cX3_copyFrom 86 = .ok (.return_, 1) := by decide +kernel
theorem dX3_tell_0 : decode cX3_tell 0 = .ok (.iload_n 1, 1) := by decide +kernel
theorem dX3_tell_1 : decode cX3_tell 1 = .ok (.tableswitch 172 0 12 #[67, 74, 81, 88, 93, 98, 103, 108, 113, 118, 131, 144, 149], 67) := by decide +kernel
theorem dX3_tell_68 : decode cX3_tell 68 = .ok (.aload_n 0, 1) := by decide +kernel
theorem dX3_tell_69 : decode cX3_tell 69 = .ok (.getfield 9, 3) := by decide +kernel
theorem dX3_tell_72 : decode cX3_tell 72 = .ok (.iconst 0, 1) := by decide +kernel
theorem dX3_tell_73 : decode cX3_tell 73 = .ok (.iaload, 1) := by decide +kernel
theorem dX3_tell_74 : decode cX3_tell 74 = .ok (.ireturn, 1) := by decide +kernel
theorem dX3_tell_75 : decode cX3_tell 75 = .ok (.aload_n 0, 1) := by decide +kernel
theorem dX3_tell_76 : decode cX3_tell 76 = .ok (.getfield 9, 3) := by decide +kernel
theorem dX3_tell_79 : decode cX3_tell 79 = .ok (.iconst 1, 1) := by decide +kernel
theorem dX3_tell_80 : decode cX3_tell 80 = .ok (.iaload, 1) := by decide +kernel
theorem dX3_tell_81 : decode cX3_tell 81 = .ok (.ireturn, 1) := by decide +kernel
theorem dX3_tell_82 : decode cX3_tell 82 = .ok (.aload_n 0, 1) := by decide +kernel
theorem dX3_tell_83 : decode cX3_tell 83 = .ok (.getfield 9, 3) := by decide +kernel
theorem dX3_tell_86 : decode cX3_tell 86 = .ok (.iconst 2, 1) := by decide +kernel
theorem dX3_tell_87 : decode cX3_tell 87 = .ok (.iaload, 1) := by decide +kernel
theorem dX3_tell_88 : decode cX3_tell 88 = .ok (.ireturn, 1) := by decide +kernel
theorem dX3_tell_89 : decode cX3_tell 89 = .ok (.aload_n 0, 1) := by decide +kernel
theorem dX3_tell_90 : decode cX3_tell 90 = .ok (.getfield 15, 3) := by decide +kernel
theorem dX3_tell_93 : decode cX3_tell 93 = .ok (.ireturn, 1) := by decide +kernel
theorem dX3_tell_94 : decode cX3_tell 94 = .ok (.aload_n 0, 1) := by decide +kernel
theorem dX3_tell_95 : decode cX3_tell 95 = .ok (.getfield 19, 3) := by decide +kernel
theorem dX3_tell_98 : decode cX3_tell 98 = .ok (.ireturn, 1) := by decide +kernel
theorem dX3_tell_99 : decode cX3_tell 99 = .ok (.aload_n 0, 1) := by decide +kernel
theorem dX3_tell_100 : decode cX3_tell 100 = .ok (.getfield 22, 3) := by decide +kernel
theorem dX3_tell_103 : decode cX3_tell 103 = .ok (.ireturn, 1) := by decide +kernel
theorem dX3_tell_104 : decode cX3_tell 104 = .ok (.aload_n 0, 1) := by decide +kernel
theorem dX3_tell_105 : decode cX3_tell 105 = .ok (.getfield 25, 3) := by decide +kernel
theorem dX3_tell_108 : decode cX3_tell 108 = .ok (.ireturn, 1) := by decide +kernel
theorem dX3_tell_109 : decode cX3_tell 109 = .ok (.aload_n 0, 1) := by decide +kernel
theorem dX3_tell_110 : decode cX3_tell 110 = .ok (.getfield 28, 3) := by decide +kernel
theorem dX3_tell_113 : decode cX3_tell 113 = .ok (.ireturn, 1) := by decide +kernel
theorem dX3_tell_114 : decode cX3_tell 114 = .ok (.aload_n 0, 1) := by decide +kernel
theorem dX3_tell_115 : decode cX3_tell 115 = .ok (.getfield 31, 3) := by decide +kernel
theorem dX3_tell_118 : decode cX3_tell 118 = .ok (.ireturn, 1) := by decide +kernel
theorem dX3_tell_119 : decode cX3_tell 119 = .ok (.aload_n 0, 1) := by decide +kernel
theorem dX3_tell_120 : decode cX3_tell 120 = .ok (.getfield 34, 3) := by decide +kernel
theorem dX3_tell_123 : decode cX3_tell 123 = .ok (.ifCond .eq 7, 3) := by decide +kernel
theorem dX3_tell_126 : decode cX3_tell 126 = .ok (.iconst 1, 1) := by decide +kernel
theorem dX3_tell_127 : decode cX3_tell 127 = .ok (.goto 4, 3) := by decide +kernel
theorem dX3_tell_130 : decode cX3_tell 130 = .ok (.iconst 0, 1) := by decide +kernel
theorem dX3_tell_131 : decode cX3_tell 131 = .ok (.ireturn, 1) := by decide +kernel
theorem dX3_tell_132 : decode cX3_tell 132 = .ok (.aload_n 0, 1) := by decide +kernel
theorem dX3_tell_133 : decode cX3_tell 133 = .ok (.getfield 38, 3) := by decide +kernel
theorem dX3_tell_136 : decode cX3_tell 136 = .ok (.ifCond .eq 7, 3) := by decide +kernel
theorem dX3_tell_139 : decode cX3_tell 139 = .ok (.iconst 1, 1) := by decide +kernel
theorem dX3_tell_140 : decode cX3_tell 140 = .ok (.goto 4, 3) := by decide +kernel
theorem dX3_tell_143 : decode cX3_tell 143 = .ok (.iconst 0, 1) := by decide +kernel
theorem dX3_tell_144 : decode cX3_tell 144 = .ok (.ireturn, 1) := by decide +kernel
theorem dX3_tell_145 : decode cX3_tell 145 = .ok (.aload_n 0, 1) := by decide +kernel
theorem dX3_tell_146 : decode cX3_tell 146 = .ok (.getfield 41, 3) := by decide +kernel
theorem dX3_tell_149 : decode cX3_tell 149 = .ok (.ireturn, 1) := by decide +kernel
theorem dX3_tell_150 : decode cX3_tell 150 = .ok (.aload_n 0, 1) := by decide +kernel
theorem dX3_tell_151 : decode cX3_tell 151 = .ok (.getfield 9, 3) := by decide +kernel
theorem dX3_tell_154 : decode cX3_tell 154 = .ok (.iconst 2, 1) := by decide +kernel
theorem dX3_tell_155 : decode cX3_tell 155 = .ok (.iaload, 1) := by decide +kernel
theorem dX3_tell_156 : decode cX3_tell 156 = .ok (.aload_n 0, 1) := by decide +kernel
theorem dX3_tell_157 : decode cX3_tell 157 = .ok (.getfield 9, 3) := by decide +kernel
theorem dX3_tell_160 : decode cX3_tell 160 = .ok (.iconst 0, 1) := by decide +kernel
theorem dX3_tell_161 : decode cX3_tell 161 = .ok (.iaload, 1) := by decide +kernel
theorem dX3_tell_162 : decode cX3_tell 162 = .ok (.iload_n 2, 1) := by decide +kernel
theorem dX3_tell_163 : decode cX3_tell 163 = .ok (.iadd, 1) := by decide +kernel
theorem dX3_tell_164 : decode cX3_tell 164 = .ok (.if_icmp .gt 7, 3) := by decide +kernel
theorem dX3_tell_167 : decode cX3_tell 167 = .ok (.iconst 1, 1) := by decide +kernel
theorem dX3_tell_168 : decode cX3_tell 168 = .ok (.goto 4, 3) := by decide +kernel
theorem dX3_tell_171 : decode cX3_tell 171 = .ok (.iconst 0, 1) := by decide +kernel
theorem dX3_tell_172 : decode cX3_tell 172 = .ok (.ireturn, 1) := by decide +kernel
theorem dX3_tell_173 : decode cX3_tell 173 = .ok (.bipush (-2), 2) := by decide +kernel
theorem dX3_tell_175 : decode cX3_tell 175 = .ok (.ireturn, 1) := by decide +kernel
theorem dX4_init_0 : decode cX4_init 0 = .ok (.aload_n 0, 1) := by decide +kernel
theorem dX4_init_1 : decode cX4_init 1 = .ok (.invokespecial 3, 3) := by decide +kernel
theorem dX4_init_4 : decode cX4_init 4 = .ok (.aload_n 0, 1) := by decide +kernel
theorem dX4_init_5 : decode cX4_init 5 = .ok (.bipush 50, 2) := by decide +kernel
theorem dX4_init_7 : decode cX4_init 7 = .ok (.newarray .int, 2) := by decide +kernel
theorem dX4_init_9 : decode cX4_init 9 = .ok (.putfield 9, 3) := by decide +kernel
theorem dX4_init_12 : decode cX4_init 12 = .ok (.aload_n 0, 1) := by decide +kernel
theorem dX4_init_13 : decode cX4_init 13 = .ok (.bipush 50, 2) := by decide +kernel
theorem dX4_init_15 : decode cX4_init 15 = .ok (.newarray .int, 2) := by decide +kernel
theorem dX4_init_17 : decode cX4_init 17 = .ok (.putfield 15, 3) := by decide +kernel
theorem dX4_init_20 : decode cX4_init 20 = .ok (.aload_n 0, 1) := by decide +kernel
theorem dX4_init_21 : decode cX4_init 21 = .ok (.bipush 50, 2) := by decide +kernel
theorem dX4_init_23 : decode cX4_init 23 = .ok (.newarray .int, 2) := by decide +kernel
theorem dX4_init_25 : decode cX4_init 25 = .ok (.putfield 18, 3) := by decide +kernel
theorem dX4_init_28 : decode cX4_init 28 = .ok (.return_, 1) := by decide +kernel
theorem dX4_clear_0 : decode cX4_clear 0 = .ok (.aload_n 0, 1) := by decide +kernel
theorem dX4_clear_1 : decode cX4_clear 1 = .ok (.iconst 0, 1) := by decide +kernel
theorem dX4_clear_2 : decode cX4_clear 2 = .ok (.putfield 21, 3) := by decide +kernel
theorem dX4_clear_5 : decode cX4_clear 5 = .ok (.aload_n 0, 1) := by decide +kernel
theorem dX4_clear_6 : decode cX4_clear 6 = .ok (.iconst 0, 1) := by decide +kernel
theorem dX4_clear_7 : decode cX4_clear 7 = .ok (.putfield 25, 3) := by decide +kernel
theorem dX4_clear_10 : decode cX4_clear 10 = .ok (.return_, 1) := by decide +kernel
theorem dX4_copyFrom_0 : decode cX4_copyFrom 0 = .ok (.aload_n 1, 1) := by decide +kernel
theorem dX4_copyFrom_1 : decode cX4_copyFrom 1 = .ok (.getfield 9, 3) := by decide +kernel
theorem dX4_copyFrom_4 : decode cX4_copyFrom 4 = .ok (.iconst 0, 1) := by decide +kernel
theorem dX4_copyFrom_5 : decode cX4_copyFrom 5 = .ok (.aload_n 0, 1) := by decide +kernel
theorem dX4_copyFrom_6 : decode cX4_copyFrom 6 = .ok (.getfield 9, 3) := by decide +kernel
theorem dX4_copyFrom_9 : decode cX4_copyFrom 9 = .ok (.iconst 0, 1) := by decide +kernel
theorem dX4_copyFrom_10 : decode cX4_copyFrom 10 = .ok (.bipush 50, 2) := by decide +kernel
theorem dX4_copyFrom_12 : decode cX4_copyFrom 12 = .ok (.invokestatic 28, 3) := by decide +kernel
theorem dX4_copyFrom_15 : decode cX4_copyFrom 15 = .ok (.aload_n 1, 1) := by decide +kernel
theorem dX4_copyFrom_16 : decode cX4_copyFrom 16 = .ok (.getfield 15, 3) := by decide +kernel
theorem dX4_copyFrom_19 : decode cX4_copyFrom 19 = .ok (.iconst 0, 1) := by decide +kernel
theorem dX4_copyFrom_20 : decode cX4_copyFrom 20 = .ok (.aload_n 0, 1) := by decide +kernel
theorem dX4_copyFrom_21 : decode cX4_copyFrom 21 = .ok (.getfield 15, 3) := by decide +kernel
theorem dX4_copyFrom_24 : decode cX4_copyFrom 24 = .ok (.iconst 0, 1) := by decide +kernel
theorem dX4_copyFrom_25 : decode cX4_copyFrom 25 = .ok (.bipush 50, 2) := by decide +kernel
theorem dX4_copyFrom_27 : decode cX4_copyFrom 27 = .ok (.invokestatic 28, 3) := by decide +kernel
theorem dX4_copyFrom_30 : decode cX4_copyFrom 30 = .ok (.aload_n 1, 1) := by decide +kernel
theorem dX4_copyFrom_31 : decode cX4_copyFrom 31 = .ok (.getfield 18, 3) := by decide +kernel
theorem dX4_copyFrom_34 : decode cX4_copyFrom 34 = .ok (.iconst 0, 1) := by decide +kernel
theorem dX4_copyFrom_35 : decode cX4_copyFrom 35 = .ok (.aload_n 0, 1) := by decide +kernel
theorem dX4_copyFrom_36 : decode cX4_copyFrom 36 = .ok (.getfield 18, 3) := by decide +kernel
theorem dX4_copyFrom_39 : decode cX4_copyFrom 39 = .ok (.iconst 0, 1) := by decide +kernel
theorem dX4_copyFrom_40 : decode cX4_copyFrom 40 = .ok (.bipush 50, 2) := by decide +kernel
theorem dX4_copyFrom_42 : decode cX4_copyFrom 42 = .ok (.invokestatic 28, 3) := by decide +kernel
theorem dX4_copyFrom_45 : decode cX4_copyFrom 45 = .ok (.aload_n 0, 1) := by decide +kernel
theorem dX4_copyFrom_46 : decode cX4_copyFrom 46 = .ok (.aload_n 1, 1) := by decide +kernel
theorem dX4_copyFrom_47 : decode cX4_copyFrom 47 = .ok (.getfield 21, 3) := by decide +kernel
theorem dX4_copyFrom_50 : decode cX4_copyFrom 50 = .ok (.putfield 21, 3) := by decide +kernel
theorem dX4_copyFrom_53 : decode cX4_copyFrom 53 = .ok (.aload_n 0, 1) := by decide +kernel
theorem dX4_copyFrom_54 : decode cX4_copyFrom 54 = .ok (.aload_n 1, 1) := by decide +kernel
theorem dX4_copyFrom_55 : decode cX4_copyFrom 55 = .ok (.getfield 25, 3) := by decide +kernel
theorem dX4_copyFrom_58 : decode cX4_copyFrom 58 = .ok (.putfield 25, 3) := by decide +kernel
theorem dX4_copyFrom_61 : decode cX4_copyFrom 61 = .ok (.return_, 1) := by decide +kernel
theorem dX4_append_0 : decode cX4_append 0 = .ok (.aload_n 0, 1) := by decide +kernel
theorem dX4_append_1 : decode cX4_append 1 = .ok (.getfield 21, 3) := by decide +kernel
theorem dX4_append_4 : decode cX4_append 4 = .ok (.bipush 50, 2) := by decide +kernel
theorem dX4_append_6 : decode cX4_append 6 = .ok (.irem, 1) := by decide +kernel
theorem dX4_append_7 : decode cX4_append 7 = .ok (.istore 4, 2) := by decide +kernel
theorem dX4_append_9 : decode cX4_append 9 = .ok (.aload_n 0, 1) := by decide +kernel
theorem dX4_append_10 : decode cX4_append 10 = .ok (.getfield 9, 3) := by decide +kernel
theorem dX4_append_13 : decode cX4_append 13 = .ok (.iload 4, 2) := by decide +kernel
theorem dX4_append_15 : decode cX4_append 15 = .ok (.iload_n 1, 1) := by decide +kernel
theorem dX4_append_16 : decode cX4_append 16 = .ok (.iastore, 1) := by decide +kernel
theorem dX4_append_17 : decode cX4_append 17 = .ok (.aload_n 0, 1) := by decide +kernel
theorem dX4_append_18 : decode cX4_append 18 = .ok (.getfield 15, 3) := by decide +kernel
theorem dX4_append_21 : decode cX4_append 21 = .ok (.iload 4, 2) := by decide +kernel
theorem dX4_append_23 : decode cX4_append 23 = .ok (.iload_n 2, 1) := by decide +kernel
theorem dX4_append_24 : decode cX4_append 24 = .ok (.iastore, 1) := by decide +kernel
theorem dX4_append_25 : decode cX4_append 25 = .ok (.aload_n 0, 1) := by decide +kernel
theorem dX4_append_26 : decode cX4_append 26 = .ok (.getfield 18, 3) := by decide +kernel
theorem dX4_append_29 : decode cX4_append 29 = .ok (.iload 4, 2) := by decide +kernel
theorem dX4_append_31 : decode cX4_append 31 = .ok (.iload_n 3, 1) := by decide +kernel
theorem dX4_append_32 : decode cX4_append 32 = .ok (.iastore, 1) := by decide +kernel
theorem dX4_append_33 : decode cX4_append 33 = .ok (.aload_n 0, 1) := by decide +kernel
theorem dX4_append_34 : decode cX4_append 34 = .ok (.dup, 1) := by decide +kernel
theorem dX4_append_35 : decode cX4_append 35 = .ok (.getfield 21, 3) := by decide +kernel
theorem dX4_append_38 : decode cX4_append 38 = .ok (.iconst 1, 1) := by decide +kernel
theorem dX4_append_39 : decode cX4_append 39 = .ok (.iadd, 1) := by decide +kernel
theorem dX4_append_40 : decode cX4_append 40 = .ok (.putfield 21, 3) := by decide +kernel
theorem dX4_append_43 : decode cX4_append 43 = .ok (.aload_n 0, 1) := by decide +kernel
theorem dX4_append_44 : decode cX4_append 44 = .ok (.dup, 1) := by decide +kernel
theorem dX4_append_45 : decode cX4_append 45 = .ok (.getfield 25, 3) := by decide +kernel
theorem dX4_append_48 : decode cX4_append 48 = .ok (.iload_n 3, 1) := by decide +kernel
theorem dX4_append_49 : decode cX4_append 49 = .ok (.iadd, 1) := by decide +kernel
theorem dX4_append_50 : decode cX4_append 50 = .ok (.putfield 25, 3) := by decide +kernel
theorem dX4_append_53 : decode cX4_append 53 = .ok (.return_, 1) := by decide +kernel
theorem dX4_wrongWords_0 : decode cX4_wrongWords 0 = .ok (.aload_n 0, 1) := by decide +kernel
theorem dX4_wrongWords_1 : decode cX4_wrongWords 1 = .ok (.getfield 21, 3) := by decide +kernel
theorem dX4_wrongWords_4 : decode cX4_wrongWords 4 = .ok (.aload_n 0, 1) := by decide +kernel
theorem dX4_wrongWords_5 : decode cX4_wrongWords 5 = .ok (.getfield 25, 3) := by decide +kernel
theorem dX4_wrongWords_8 : decode cX4_wrongWords 8 = .ok (.isub, 1) := by decide +kernel
theorem dX4_wrongWords_9 : decode cX4_wrongWords 9 = .ok (.ireturn, 1) := by decide +kernel
theorem dX4_tell_0 : decode cX4_tell 0 = .ok (.iload_n 1, 1) := by decide +kernel
theorem dX4_tell_1 : decode cX4_tell 1 = .ok (.ifCond .lt 17, 3) := by decide +kernel
theorem dX4_tell_4 : decode cX4_tell 4 = .ok (.iload_n 1, 1) := by decide +kernel
theorem dX4_tell_5 : decode cX4_tell 5 = .ok (.aload_n 0, 1) := by decide +kernel
theorem dX4_tell_6 : decode cX4_tell 6 = .ok (.getfield 21, 3) := by decide +kernel
theorem dX4_tell_9 : decode cX4_tell 9 = .ok (.if_icmp .ge 9, 3) := by decide +kernel
theorem dX4_tell_12 : decode cX4_tell 12 = .ok (.iload_n 1, 1) := by decide +kernel
theorem dX4_tell_13 : decode cX4_tell 13 = .ok (.bipush 50, 2) := by decide +kernel
theorem dX4_tell_15 : decode cX4_tell 15 = .ok (.if_icmp .lt 6, 3) := by decide +kernel
theorem dX4_tell_18 : decode cX4_tell 18 = .ok (.bipush (-5), 2) := by decide +kernel
theorem dX4_tell_20 : decode cX4_tell 20 = .ok (.ireturn, 1) := by decide +kernel
theorem dX4_tell_21 : decode cX4_tell 21 = .ok (.aload_n 0, 1) := by decide +kernel
theorem dX4_tell_22 : decode cX4_tell 22 = .ok (.getfield 21, 3) := by decide +kernel
theorem dX4_tell_25 : decode cX4_tell 25 = .ok (.iconst 1, 1) := by decide +kernel
theorem dX4_tell_26 : decode cX4_tell 26 = .ok (.isub, 1) := by decide +kernel
theorem dX4_tell_27 : decode cX4_tell 27 = .ok (.iload_n 1, 1) := by decide +kernel
theorem dX4_tell_28 : decode cX4_tell 28 = .ok (.isub, 1) := by decide +kernel
theorem dX4_tell_29 : decode cX4_tell 29 = .ok (.bipush 50, 2) := by decide +kernel
theorem dX4_tell_31 : decode cX4_tell 31 = .ok (.irem, 1) := by decide +kernel
theorem dX4_tell_32 : decode cX4_tell 32 = .ok (.istore_n 3, 1) := by decide +kernel
theorem dX4_tell_33 : decode cX4_tell 33 = .ok (.iload_n 2, 1) := by decide +kernel
theorem dX4_tell_34 : decode cX4_tell 34 = .ok (.lookupswitch 40 #[(0, 26), (1, 33)], 26) := by decide +kernel
theorem dX4_tell_60 : decode cX4_tell 60 = .ok (.aload_n 0, 1) := by decide +kernel
theorem dX4_tell_61 : decode cX4_tell 61 = .ok (.getfield 9, 3) := by decide +kernel
theorem dX4_tell_64 : decode cX4_tell 64 = .ok (.iload_n 3, 1) := by decide +kernel
theorem dX4_tell_65 : decode cX4_tell 65 = .ok (.iaload, 1) := by decide +kernel
theorem dX4_tell_66 : decode cX4_tell 66 = .ok (.ireturn, 1) := by decide +kernel
theorem dX4_tell_67 : decode cX4_tell 67 = .ok (.aload_n 0, 1) := by decide +kernel
theorem dX4_tell_68 : decode cX4_tell 68 = .ok (.getfield 15, 3) := by decide +kernel
theorem dX4_tell_71 : decode cX4_tell 71 = .ok (.iload_n 3, 1) := by decide +kernel
theorem dX4_tell_72 : decode cX4_tell 72 = .ok (.iaload, 1) := by decide +kernel
theorem dX4_tell_73 : decode cX4_tell 73 = .ok (.ireturn, 1) := by decide +kernel
theorem dX4_tell_74 : decode cX4_tell 74 = .ok (.aload_n 0, 1) := by decide +kernel
theorem dX4_tell_75 : decode cX4_tell 75 = .ok (.getfield 18, 3) := by decide +kernel
theorem dX4_tell_78 : decode cX4_tell 78 = .ok (.iload_n 3, 1) := by decide +kernel
theorem dX4_tell_79 : decode cX4_tell 79 = .ok (.iaload, 1) := by decide +kernel
theorem dX4_tell_80 : decode cX4_tell 80 = .ok (.ireturn, 1) := by decide +kernel
theorem dX5_init_0 : decode cX5_init 0 = .ok (.aload_n 0, 1) := by decide +kernel
theorem dX5_init_1 : decode cX5_init 1 = .ok (.invokespecial 3, 3) := by decide +kernel
theorem dX5_init_4 : decode cX5_init 4 = .ok (.aload_n 0, 1) := by decide +kernel
theorem dX5_init_5 : decode cX5_init 5 = .ok (.bipush 20, 2) := by decide +kernel
theorem dX5_init_7 : decode cX5_init 7 = .ok (.newarray .int, 2) := by decide +kernel
theorem dX5_init_9 : decode cX5_init 9 = .ok (.putfield 9, 3) := by decide +kernel
theorem dX5_init_12 : decode cX5_init 12 = .ok (.return_, 1) := by decide +kernel
theorem dX5_copyFrom_0 : decode cX5_copyFrom 0 = .ok (.aload_n 0, 1) := by decide +kernel
theorem dX5_copyFrom_1 : decode cX5_copyFrom 1 = .ok (.aload_n 1, 1) := by decide +kernel
theorem dX5_copyFrom_2 : decode cX5_copyFrom 2 = .ok (.getfield 15, 3) := by decide +kernel
theorem dX5_copyFrom_5 : decode cX5_copyFrom 5 = .ok (.putfield 15, 3) := by decide +kernel
theorem dX5_copyFrom_8 : decode cX5_copyFrom 8 = .ok (.aload_n 1, 1) := by decide +kernel
theorem dX5_copyFrom_9 : decode cX5_copyFrom 9 = .ok (.getfield 9, 3) := by decide +kernel
theorem dX5_copyFrom_12 : decode cX5_copyFrom 12 = .ok (.iconst 0, 1) := by decide +kernel
theorem dX5_copyFrom_13 : decode cX5_copyFrom 13 = .ok (.aload_n 0, 1) := by decide +kernel
theorem dX5_copyFrom_14 : decode cX5_copyFrom 14 = .ok (.getfield 9, 3) := by decide +kernel
theorem dX5_copyFrom_17 : decode cX5_copyFrom 17 = .ok (.iconst 0, 1) := by decide +kernel
theorem dX5_copyFrom_18 : decode cX5_copyFrom 18 = .ok (.bipush 20, 2) := by decide +kernel
theorem dX5_copyFrom_20 : decode cX5_copyFrom 20 = .ok (.invokestatic 19, 3) := by decide +kernel
theorem dX5_copyFrom_23 : decode cX5_copyFrom 23 = .ok (.return_, 1) := by decide +kernel
theorem dX5_append_0 : decode cX5_append 0 = .ok (.aload_n 0, 1) := by decide +kernel
theorem dX5_append_1 : decode cX5_append 1 = .ok (.getfield 15, 3) := by decide +kernel
theorem dX5_append_4 : decode cX5_append 4 = .ok (.bipush 20, 2) := by decide +kernel
theorem dX5_append_6 : decode cX5_append 6 = .ok (.if_icmp .ge 23, 3) := by decide +kernel
theorem dX5_append_9 : decode cX5_append 9 = .ok (.aload_n 0, 1) := by decide +kernel
theorem dX5_append_10 : decode cX5_append 10 = .ok (.getfield 9, 3) := by decide +kernel
theorem dX5_append_13 : decode cX5_append 13 = .ok (.aload_n 0, 1) := by decide +kernel
theorem dX5_append_14 : decode cX5_append 14 = .ok (.getfield 15, 3) := by decide +kernel
theorem dX5_append_17 : decode cX5_append 17 = .ok (.iload_n 1, 1) := by decide +kernel
theorem dX5_append_18 : decode cX5_append 18 = .ok (.iastore, 1) := by decide +kernel
theorem dX5_append_19 : decode cX5_append 19 = .ok (.aload_n 0, 1) := by decide +kernel
theorem dX5_append_20 : decode cX5_append 20 = .ok (.dup, 1) := by decide +kernel
theorem dX5_append_21 : decode cX5_append 21 = .ok (.getfield 15, 3) := by decide +kernel
theorem dX5_append_24 : decode cX5_append 24 = .ok (.iconst 1, 1) := by decide +kernel
theorem dX5_append_25 : decode cX5_append 25 = .ok (.iadd, 1) := by decide +kernel
theorem dX5_append_26 : decode cX5_append 26 = .ok (.putfield 15, 3) := by decide +kernel
theorem dX5_append_29 : decode cX5_append 29 = .ok (.return_, 1) := by decide +kernel
theorem dX5_wordAt_0 : decode cX5_wordAt 0 = .ok (.iload_n 1, 1) := by decide +kernel
theorem dX5_wordAt_1 : decode cX5_wordAt 1 = .ok (.ifCond .lt 20, 3) := by decide +kernel
theorem dX5_wordAt_4 : decode cX5_wordAt 4 = .ok (.iload_n 1, 1) := by decide +kernel
theorem dX5_wordAt_5 : decode cX5_wordAt 5 = .ok (.aload_n 0, 1) := by decide +kernel
theorem dX5_wordAt_6 : decode cX5_wordAt 6 = .ok (.getfield 15, 3) := by decide +kernel
theorem dX5_wordAt_9 : decode cX5_wordAt 9 = .ok (.if_icmp .ge 12, 3) := by decide +kernel
theorem dX5_wordAt_12 : decode cX5_wordAt 12 = .ok (.aload_n 0, 1) := by decide +kernel
theorem dX5_wordAt_13 : decode cX5_wordAt 13 = .ok (.getfield 9, 3) := by decide +kernel
theorem dX5_wordAt_16 : decode cX5_wordAt 16 = .ok (.iload_n 1, 1) := by decide +kernel
theorem dX5_wordAt_17 : decode cX5_wordAt 17 = .ok (.iaload, 1) := by decide +kernel
theorem dX5_wordAt_18 : decode cX5_wordAt 18 = .ok (.goto 4, 3) := by decide +kernel
theorem dX5_wordAt_21 : decode cX5_wordAt 21 = .ok (.iconst (-1), 1) := by decide +kernel
theorem dX5_wordAt_22 : decode cX5_wordAt 22 = .ok (.ireturn, 1) := by decide +kernel
theorem dX5_removeFirst_0 : decode cX5_removeFirst 0 = .ok (.aload_n 0, 1) := by decide +kernel
theorem dX5_removeFirst_1 : decode cX5_removeFirst 1 = .ok (.getfield 15, 3) := by decide +kernel
theorem dX5_removeFirst_4 : decode cX5_removeFirst 4 = .ok (.ifCond .gt 5, 3) := by decide +kernel
theorem dX5_removeFirst_7 : decode cX5_removeFirst 7 = .ok (.iconst (-1), 1) := by decide +kernel
theorem dX5_removeFirst_8 : decode cX5_removeFirst 8 = .ok (.ireturn, 1) := by decide +kernel
theorem dX5_removeFirst_9 : decode cX5_removeFirst 9 = .ok (.aload_n 0, 1) := by decide +kernel
theorem dX5_removeFirst_10 : decode cX5_removeFirst 10 = .ok (.getfield 9, 3) := by decide +kernel
theorem dX5_removeFirst_13 : decode cX5_removeFirst 13 = .ok (.iconst 0, 1) := by decide +kernel
theorem dX5_removeFirst_14 : decode cX5_removeFirst 14 = .ok (.iaload, 1) := by decide +kernel
theorem dX5_removeFirst_15 : decode cX5_removeFirst 15 = .ok (.istore_n 1, 1) := by decide +kernel
theorem dX5_removeFirst_16 : decode cX5_removeFirst 16 = .ok (.aload_n 0, 1) := by decide +kernel
theorem dX5_removeFirst_17 : decode cX5_removeFirst 17 = .ok (.dup, 1) := by decide +kernel
theorem dX5_removeFirst_18 : decode cX5_removeFirst 18 = .ok (.getfield 15, 3) := by decide +kernel
theorem dX5_removeFirst_21 : decode cX5_removeFirst 21 = .ok (.iconst 1, 1) := by decide +kernel
theorem dX5_removeFirst_22 : decode cX5_removeFirst 22 = .ok (.isub, 1) := by decide +kernel
theorem dX5_removeFirst_23 : decode cX5_removeFirst 23 = .ok (.putfield 15, 3) := by decide +kernel
theorem dX5_removeFirst_26 : decode cX5_removeFirst 26 = .ok (.iconst 0, 1) := by decide +kernel
theorem dX5_removeFirst_27 : decode cX5_removeFirst 27 = .ok (.istore_n 2, 1) := by decide +kernel
theorem dX5_removeFirst_28 : decode cX5_removeFirst 28 = .ok (.iload_n 2, 1) := by decide +kernel
theorem dX5_removeFirst_29 : decode cX5_removeFirst 29 = .ok (.aload_n 0, 1) := by decide +kernel
theorem dX5_removeFirst_30 : decode cX5_removeFirst 30 = .ok (.getfield 15, 3) := by decide +kernel
theorem dX5_removeFirst_33 : decode cX5_removeFirst 33 = .ok (.if_icmp .ge 23, 3) := by decide +kernel
theorem dX5_removeFirst_36 : decode cX5_removeFirst 36 = .ok (.aload_n 0, 1) := by decide +kernel
theorem dX5_removeFirst_37 : decode cX5_removeFirst 37 = .ok (.getfield 9, 3) := by decide +kernel
theorem dX5_removeFirst_40 : decode cX5_removeFirst 40 = .ok (.iload_n 2, 1) := by decide +kernel
theorem dX5_removeFirst_41 : decode cX5_removeFirst 41 = .ok (.aload_n 0, 1) := by decide +kernel
theorem dX5_removeFirst_42 : decode cX5_removeFirst 42 = .ok (.getfield 9, 3) := by decide +kernel
theorem dX5_removeFirst_45 : decode cX5_removeFirst 45 = .ok (.iload_n 2, 1) := by decide +kernel
theorem dX5_removeFirst_46 : decode cX5_removeFirst 46 = .ok (.iconst 1, 1) := by decide +kernel
theorem dX5_removeFirst_47 : decode cX5_removeFirst 47 = .ok (.iadd, 1) := by decide +kernel
theorem dX5_removeFirst_48 : decode cX5_removeFirst 48 = .ok (.iaload, 1) := by decide +kernel
theorem dX5_removeFirst_49 : decode cX5_removeFirst 49 = .ok (.iastore, 1) := by decide +kernel
theorem dX5_removeFirst_50 : decode cX5_removeFirst 50 = .ok (.iinc 2 1, 3) := by decide +kernel
theorem dX5_removeFirst_53 : decode cX5_removeFirst 53 = .ok (.goto (-25), 3) := by decide +kernel
theorem dX5_removeFirst_56 : decode cX5_removeFirst 56 = .ok (.iload_n 1, 1) := by decide +kernel
theorem dX5_removeFirst_57 : decode cX5_removeFirst 57 = .ok (.ireturn, 1) := by decide +kernel
theorem dX6_init_0 : decode cX6_init 0 = .ok (.aload_n 0, 1) := by decide +kernel
theorem dX6_init_1 : decode cX6_init 1 = .ok (.invokespecial 3, 3) := by decide +kernel
theorem dX6_init_4 : decode cX6_init 4 = .ok (.aload_n 0, 1) := by decide +kernel
theorem dX6_init_5 : decode cX6_init 5 = .ok (.bipush 60, 2) := by decide +kernel
theorem dX6_init_7 : decode cX6_init 7 = .ok (.newarray .char, 2) := by decide +kernel
theorem dX6_init_9 : decode cX6_init 9 = .ok (.putfield 9, 3) := by decide +kernel
theorem dX6_init_12 : decode cX6_init 12 = .ok (.aload_n 0, 1) := by decide +kernel
theorem dX6_init_13 : decode cX6_init 13 = .ok (.bipush 20, 2) := by decide +kernel
theorem dX6_init_15 : decode cX6_init 15 = .ok (.newarray .int, 2) := by decide +kernel
theorem dX6_init_17 : decode cX6_init 17 = .ok (.putfield 15, 3) := by decide +kernel
theorem dX6_init_20 : decode cX6_init 20 = .ok (.aload_n 0, 1) := by decide +kernel
theorem dX6_init_21 : decode cX6_init 21 = .ok (.bipush 20, 2) := by decide +kernel
theorem dX6_init_23 : decode cX6_init 23 = .ok (.newarray .int, 2) := by decide +kernel
theorem dX6_init_25 : decode cX6_init 25 = .ok (.putfield 19, 3) := by decide +kernel
theorem dX6_init_28 : decode cX6_init 28 = .ok (.aload_n 0, 1) := by decide +kernel
theorem dX6_init_29 : decode cX6_init 29 = .ok (.bipush 20, 2) := by decide +kernel
theorem dX6_init_31 : decode cX6_init 31 = .ok (.newarray .int, 2) := by decide +kernel
theorem dX6_init_33 : decode cX6_init 33 = .ok (.putfield 22, 3) := by decide +kernel
theorem dX6_init_36 : decode cX6_init 36 = .ok (.return_, 1) := by decide +kernel
theorem dX6_append_0 : decode cX6_append 0 = .ok (.aload_n 0, 1) := by decide +kernel
theorem dX6_append_1 : decode cX6_append 1 = .ok (.getfield 25, 3) := by decide +kernel
theorem dX6_append_4 : decode cX6_append 4 = .ok (.bipush 60, 2) := by decide +kernel
theorem dX6_append_6 : decode cX6_append 6 = .ok (.if_icmp .lt 6, 3) := by decide +kernel
theorem dX6_append_9 : decode cX6_append 9 = .ok (.bipush (-3), 2) := by decide +kernel
theorem dX6_append_11 : decode cX6_append 11 = .ok (.ireturn, 1) := by decide +kernel
theorem dX6_append_12 : decode cX6_append 12 = .ok (.aload_n 0, 1) := by decide +kernel
theorem dX6_append_13 : decode cX6_append 13 = .ok (.getfield 9, 3) := by decide +kernel
theorem dX6_append_16 : decode cX6_append 16 = .ok (.aload_n 0, 1) := by decide +kernel
theorem dX6_append_17 : decode cX6_append 17 = .ok (.getfield 25, 3) := by decide +kernel
theorem dX6_append_20 : decode cX6_append 20 = .ok (.iload_n 1, 1) := by decide +kernel
theorem dX6_append_21 : decode cX6_append 21 = .ok (.castore, 1) := by decide +kernel
theorem dX6_append_22 : decode cX6_append 22 = .ok (.aload_n 0, 1) := by decide +kernel
theorem dX6_append_23 : decode cX6_append 23 = .ok (.dup, 1) := by decide +kernel
theorem dX6_append_24 : decode cX6_append 24 = .ok (.getfield 25, 3) := by decide +kernel
theorem dX6_append_27 : decode cX6_append 27 = .ok (.iconst 1, 1) := by decide +kernel
theorem dX6_append_28 : decode cX6_append 28 = .ok (.iadd, 1) := by decide +kernel
theorem dX6_append_29 : decode cX6_append 29 = .ok (.putfield 25, 3) := by decide +kernel
theorem dX6_append_32 : decode cX6_append 32 = .ok (.aload_n 0, 1) := by decide +kernel
theorem dX6_append_33 : decode cX6_append 33 = .ok (.getfield 25, 3) := by decide +kernel
theorem dX6_append_36 : decode cX6_append 36 = .ok (.ireturn, 1) := by decide +kernel
set_option maxRecDepth 20000 in
theorem ggX6_readOrders_X6_readOrder : GoodIn wsX6_readOrders wsX6_readOrder := goodIn_r _ [8, 1, 9, 10, 11, 7, 12, 3, 13, 14, 15, 16, 17, 18, 19, 20, 21, 22, 23, 24, 25, 2, 26, 27, 28, 29, 30, 31, 32, 33, 34, 35, 36, 37, 38, 39, 40, 41, 42, 43, 44, 45, 46, 47] (by decide +kernel) (by decide +kernel)
set_option maxRecDepth 20000 in
theorem gX6_readOrders_X6_readOrder : GoodIn wsX6_readOrders (wsV RX6 35 RX6 yX6_readOrder wsX6_readOrder) := goodIn_app (goodIn_of _ (by decide +kernel)) ggX6_readOrders_X6_readOrder
set_option maxRecDepth 20000 in
theorem ggX6_readOrders_X6_readSign : GoodIn wsX6_readOrders wsX6_readSign := goodIn_r _ [40, 1, 9, 10, 11, 7, 12, 3, 13, 41, 42, 43, 44, 45, 46, 47] (by decide +kernel) (by decide +kernel)
set_option maxRecDepth 20000 in
theorem gX6_readOrders_X6_readSign : GoodIn wsX6_readOrders (wsV RX6 39 RX6 yX6_readSign wsX6_readSign) := goodIn_app (goodIn_of _ (by decide +kernel)) ggX6_readOrders_X6_readSign
theorem dX6_readOrders_0 : decode cX6_readOrders 0 = .ok (.aload_n 0, 1) := by decide +kernel
theorem dX6_readOrders_1 : decode cX6_readOrders 1 = .ok (.iconst 0, 1) := by decide +kernel
theorem dX6_readOrders_2 : decode cX6_readOrders 2 = .ok (.putfield 29, 3) := by decide +kernel
theorem dX6_readOrders_5 : decode cX6_readOrders 5 = .ok (.aload_n 0, 1) := by decide +kernel
theorem dX6_readOrders_6 : decode cX6_readOrders 6 = .ok (.iconst 0, 1) := by decide +kernel
theorem dX6_readOrders_7 : decode cX6_readOrders 7 = .ok (.putfield 32, 3) := by decide +kernel
theorem dX6_readOrders_10 : decode cX6_readOrders 10 = .ok (.iconst 0, 1) := by decide +kernel
theorem dX6_readOrders_11 : decode cX6_readOrders 11 = .ok (.istore_n 1, 1) := by decide +kernel
theorem dX6_readOrders_12 : decode cX6_readOrders 12 = .ok (.iload_n 1, 1) := by decide +kernel
theorem dX6_readOrders_13 : decode cX6_readOrders 13 = .ok (.bipush 20, 2) := by decide +kernel
theorem dX6_readOrders_15 : decode cX6_readOrders 15 = .ok (.if_icmp .gt 48, 3) := by decide +kernel
theorem dX6_readOrders_18 : decode cX6_readOrders 18 = .ok (.aload_n 0, 1) := by decide +kernel
theorem dX6_readOrders_19 : decode cX6_readOrders 19 = .ok (.invokevirtual 35, 3) := by decide +kernel
theorem dX6_readOrders_22 : decode cX6_readOrders 22 = .ok (.ifCond .ne 8, 3) := by decide +kernel
theorem dX6_readOrders_25 : decode cX6_readOrders 25 = .ok (.aload_n 0, 1) := by decide +kernel
theorem dX6_readOrders_26 : decode cX6_readOrders 26 = .ok (.getfield 29, 3) := by decide +kernel
theorem dX6_readOrders_29 : decode cX6_readOrders 29 = .ok (.ireturn, 1) := by decide +kernel
theorem dX6_readOrders_30 : decode cX6_readOrders 30 = .ok (.aload_n 0, 1) := by decide +kernel
theorem dX6_readOrders_31 : decode cX6_readOrders 31 = .ok (.getfield 29, 3) := by decide +kernel
theorem dX6_readOrders_34 : decode cX6_readOrders 34 = .ok (.aload_n 0, 1) := by decide +kernel
theorem dX6_readOrders_35 : decode cX6_readOrders 35 = .ok (.getfield 25, 3) := by decide +kernel
theorem dX6_readOrders_38 : decode cX6_readOrders 38 = .ok (.if_icmp .lt 5, 3) := by decide +kernel
theorem dX6_readOrders_41 : decode cX6_readOrders 41 = .ok (.iconst (-1), 1) := by decide +kernel
theorem dX6_readOrders_42 : decode cX6_readOrders 42 = .ok (.ireturn, 1) := by decide +kernel
theorem dX6_readOrders_43 : decode cX6_readOrders 43 = .ok (.aload_n 0, 1) := by decide +kernel
theorem dX6_readOrders_44 : decode cX6_readOrders 44 = .ok (.bipush 44, 2) := by decide +kernel
theorem dX6_readOrders_46 : decode cX6_readOrders 46 = .ok (.invokevirtual 39, 3) := by decide +kernel
theorem dX6_readOrders_49 : decode cX6_readOrders 49 = .ok (.ifCond .ne 8, 3) := by decide +kernel
theorem dX6_readOrders_52 : decode cX6_readOrders 52 = .ok (.aload_n 0, 1) := by decide +kernel
theorem dX6_readOrders_53 : decode cX6_readOrders 53 = .ok (.getfield 29, 3) := by decide +kernel
theorem dX6_readOrders_56 : decode cX6_readOrders 56 = .ok (.ireturn, 1) := by decide +kernel
theorem dX6_readOrders_57 : decode cX6_readOrders 57 = .ok (.iinc 1 1, 3) := by decide +kernel
theorem dX6_readOrders_60 : decode cX6_readOrders 60 = .ok (.goto (-48), 3) := by decide +kernel
theorem dX6_readOrders_63 : decode cX6_readOrders 63 = .ok (.aload_n 0, 1) := by decide +kernel
theorem dX6_readOrders_64 : decode cX6_readOrders 64 = .ok (.getfield 29, 3) := by decide +kernel
theorem dX6_readOrders_67 : decode cX6_readOrders 67 = .ok (.ireturn, 1) := by decide +kernel
set_option maxRecDepth 20000 in
theorem ggX6_readOrder_X6_current : GoodIn wsX6_readOrder wsX6_current := goodIn_r _ [6, 1, 7, 8, 37, 38, 39, 40, 41, 42, 43] (by decide +kernel) (by decide +kernel)
set_option maxRecDepth 20000 in
theorem gX6_readOrder_X6_current : GoodIn wsX6_readOrder (wsV RX6 43 RX6 yX6_current wsX6_current) := goodIn_app (goodIn_of _ (by decide +kernel)) ggX6_readOrder_X6_current
set_option maxRecDepth 20000 in
theorem ggX6_readOrder_X6_readDigit : GoodIn wsX6_readOrder wsX6_readDigit := goodIn_r _ [12, 1, 2, 3, 4, 5, 6, 7, 8, 13, 14, 15, 16, 37, 38, 39, 40, 41, 42, 43] (by decide +kernel) (by decide +kernel)
set_option maxRecDepth 20000 in
theorem gX6_readOrder_X6_readDigit : GoodIn wsX6_readOrder (wsV RX6 47 RX6 yX6_readDigit wsX6_readDigit) := goodIn_app (goodIn_of _ (by decide +kernel)) ggX6_readOrder_X6_readDigit
set_option maxRecDepth 20000 in
theorem ggX6_readOrder_X6_store : GoodIn wsX6_readOrder wsX6_store := goodIn_r _ [20, 21, 22, 23, 24, 37, 38, 39, 40, 41, 42, 43] (by decide +kernel) (by decide +kernel)
set_option maxRecDepth 20000 in
theorem gX6_readOrder_X6_store : GoodIn wsX6_readOrder (wsV RX6 51 RX6 yX6_store wsX6_store) := goodIn_app (goodIn_of _ (by decide +kernel)) ggX6_readOrder_X6_store
set_option maxRecDepth 20000 in
theorem ggX6_readOrder_X6_readNumber : GoodIn wsX6_readOrder wsX6_readNumber := goodIn_r _ [28, 1, 2, 3, 4, 5, 6, 7, 8, 13, 14, 15, 16, 37, 38, 39, 40, 41, 42, 43] (by decide +kernel) (by decide +kernel)
set_option maxRecDepth 20000 in
theorem gX6_readOrder_X6_readNumber : GoodIn wsX6_readOrder (wsV RX6 55 RX6 yX6_readNumber wsX6_readNumber) := goodIn_app (goodIn_of _ (by decide +kernel)) ggX6_readOrder_X6_readNumber
set_option maxRecDepth 20000 in
theorem ggX6_readOrder_X6_readDelay : GoodIn wsX6_readOrder wsX6_readDelay := goodIn_r _ [32, 9, 10, 11, 5, 12, 1, 2, 3, 4, 6, 7, 8, 13, 14, 15, 16, 33, 34, 35, 36, 25, 26, 27, 28, 17, 18, 19, 20, 21, 22, 23, 24, 37, 38, 39, 40, 41, 42, 43] (by decide +kernel) (by decide +kernel)
set_option maxRecDepth 20000 in
theorem gX6_readOrder_X6_readDelay : GoodIn wsX6_readOrder (wsV RX6 58 RX6 yX6_readDelay wsX6_readDelay) := goodIn_app (goodIn_of _ (by decide +kernel)) ggX6_readOrder_X6_readDelay
theorem dX6_readOrder_0 : decode cX6_readOrder 0 = .ok (.aload_n 0, 1) := by decide +kernel
theorem dX6_readOrder_1 : decode cX6_readOrder 1 = .ok (.invokevirtual 43, 3) := by decide +kernel
theorem dX6_readOrder_4 : decode cX6_readOrder 4 = .ok (.istore_n 1, 1) := by decide +kernel
theorem dX6_readOrder_5 : decode cX6_readOrder 5 = .ok (.iload_n 1, 1) := by decide +kernel
theorem dX6_readOrder_6 : decode cX6_readOrder 6 = .ok (.lookupswitch 122 #[(46, 82), (97, 58), (98, 58), (100, 106), (107, 106), (114, 106)], 58) := by decide +kernel
theorem dX6_readOrder_64 : decode cX6_readOrder 64 = .ok (.aload_n 0, 1) := by decide +kernel
theorem dX6_readOrder_65 : decode cX6_readOrder 65 = .ok (.dup, 1) := by decide +kernel
theorem dX6_readOrder_66 : decode cX6_readOrder 66 = .ok (.getfield 29, 3) := by decide +kernel
theorem dX6_readOrder_69 : decode cX6_readOrder 69 = .ok (.iconst 1, 1) := by decide +kernel
theorem dX6_readOrder_70 : decode cX6_readOrder 70 = .ok (.iadd, 1) := by decide +kernel
theorem dX6_readOrder_71 : decode cX6_readOrder 71 = .ok (.putfield 29, 3) := by decide +kernel
theorem dX6_readOrder_74 : decode cX6_readOrder 74 = .ok (.aload_n 0, 1) := by decide +kernel
theorem dX6_readOrder_75 : decode cX6_readOrder 75 = .ok (.iload_n 1, 1) := by decide +kernel
theorem dX6_readOrder_76 : decode cX6_readOrder 76 = .ok (.iconst 0, 1) := by decide +kernel
theorem dX6_readOrder_77 : decode cX6_readOrder 77 = .ok (.aload_n 0, 1) := by decide +kernel
theorem dX6_readOrder_78 : decode cX6_readOrder 78 = .ok (.bipush 15, 2) := by decide +kernel
theorem dX6_readOrder_80 : decode cX6_readOrder 80 = .ok (.invokevirtual 47, 3) := by decide +kernel
theorem dX6_readOrder_83 : decode cX6_readOrder 83 = .ok (.iconst 0, 1) := by decide +kernel
theorem dX6_readOrder_84 : decode cX6_readOrder 84 = .ok (.invokevirtual 51, 3) := by decide +kernel
theorem dX6_readOrder_87 : decode cX6_readOrder 87 = .ok (.ireturn, 1) := by decide +kernel
theorem dX6_readOrder_88 : decode cX6_readOrder 88 = .ok (.aload_n 0, 1) := by decide +kernel
theorem dX6_readOrder_89 : decode cX6_readOrder 89 = .ok (.dup, 1) := by decide +kernel
theorem dX6_readOrder_90 : decode cX6_readOrder 90 = .ok (.getfield 29, 3) := by decide +kernel
theorem dX6_readOrder_93 : decode cX6_readOrder 93 = .ok (.iconst 1, 1) := by decide +kernel
theorem dX6_readOrder_94 : decode cX6_readOrder 94 = .ok (.iadd, 1) := by decide +kernel
theorem dX6_readOrder_95 : decode cX6_readOrder 95 = .ok (.putfield 29, 3) := by decide +kernel
theorem dX6_readOrder_98 : decode cX6_readOrder 98 = .ok (.aload_n 0, 1) := by decide +kernel
theorem dX6_readOrder_99 : decode cX6_readOrder 99 = .ok (.iload_n 1, 1) := by decide +kernel
theorem dX6_readOrder_100 : decode cX6_readOrder 100 = .ok (.iconst 0, 1) := by decide +kernel
theorem dX6_readOrder_101 : decode cX6_readOrder 101 = .ok (.aload_n 0, 1) := by decide +kernel
theorem dX6_readOrder_102 : decode cX6_readOrder 102 = .ok (.bipush 99, 2) := by decide +kernel
theorem dX6_readOrder_104 : decode cX6_readOrder 104 = .ok (.invokevirtual 55, 3) := by decide +kernel
theorem dX6_readOrder_107 : decode cX6_readOrder 107 = .ok (.iconst 1, 1) := by decide +kernel
theorem dX6_readOrder_108 : decode cX6_readOrder 108 = .ok (.invokevirtual 51, 3) := by decide +kernel
theorem dX6_readOrder_111 : decode cX6_readOrder 111 = .ok (.ireturn, 1) := by decide +kernel
theorem dX6_readOrder_112 : decode cX6_readOrder 112 = .ok (.aload_n 0, 1) := by decide +kernel
theorem dX6_readOrder_113 : decode cX6_readOrder 113 = .ok (.dup, 1) := by decide +kernel
theorem dX6_readOrder_114 : decode cX6_readOrder 114 = .ok (.getfield 29, 3) := by decide +kernel
theorem dX6_readOrder_117 : decode cX6_readOrder 117 = .ok (.iconst 1, 1) := by decide +kernel
theorem dX6_readOrder_118 : decode cX6_readOrder 118 = .ok (.iadd, 1) := by decide +kernel
theorem dX6_readOrder_119 : decode cX6_readOrder 119 = .ok (.putfield 29, 3) := by decide +kernel
theorem dX6_readOrder_122 : decode cX6_readOrder 122 = .ok (.aload_n 0, 1) := by decide +kernel
theorem dX6_readOrder_123 : decode cX6_readOrder 123 = .ok (.iload_n 1, 1) := by decide +kernel
theorem dX6_readOrder_124 : decode cX6_readOrder 124 = .ok (.invokevirtual 58, 3) := by decide +kernel
theorem dX6_readOrder_127 : decode cX6_readOrder 127 = .ok (.ireturn, 1) := by decide +kernel
theorem dX6_readOrder_128 : decode cX6_readOrder 128 = .ok (.iconst 0, 1) := by decide +kernel
theorem dX6_readOrder_129 : decode cX6_readOrder 129 = .ok (.ireturn, 1) := by decide +kernel
set_option maxRecDepth 20000 in
theorem ggX6_readDelay_X6_readDigit : GoodIn wsX6_readDelay wsX6_readDigit := goodIn_r _ [5, 6, 7, 8, 9, 4, 10, 11, 12, 13, 14, 15, 16, 33, 34, 35, 36, 37, 38, 39] (by decide +kernel) (by decide +kernel)
set_option maxRecDepth 20000 in
theorem gX6_readDelay_X6_readDigit : GoodIn wsX6_readDelay (wsV RX6 47 RX6 yX6_readDigit wsX6_readDigit) := goodIn_app (goodIn_of _ (by decide +kernel)) ggX6_readDelay_X6_readDigit
set_option maxRecDepth 20000 in
theorem ggX6_readDelay_X6_readSign : GoodIn wsX6_readDelay wsX6_readSign := goodIn_r _ [20, 6, 7, 8, 9, 4, 10, 11, 12, 33, 34, 35, 36, 37, 38, 39] (by decide +kernel) (by decide +kernel)
set_option maxRecDepth 20000 in
theorem gX6_readDelay_X6_readSign : GoodIn wsX6_readDelay (wsV RX6 39 RX6 yX6_readSign wsX6_readSign) := goodIn_app (goodIn_of _ (by decide +kernel)) ggX6_readDelay_X6_readSign
set_option maxRecDepth 20000 in
theorem ggX6_readDelay_X6_readNumber : GoodIn wsX6_readDelay wsX6_readNumber := goodIn_r _ [24, 6, 7, 8, 9, 4, 10, 11, 12, 13, 14, 15, 16, 33, 34, 35, 36, 37, 38, 39] (by decide +kernel) (by decide +kernel)
set_option maxRecDepth 20000 in
theorem gX6_readDelay_X6_readNumber : GoodIn wsX6_readDelay (wsV RX6 55 RX6 yX6_readNumber wsX6_readNumber) := goodIn_app (goodIn_of _ (by decide +kernel)) ggX6_readDelay_X6_readNumber
set_option maxRecDepth 20000 in
theorem ggX6_readDelay_X6_store : GoodIn wsX6_readDelay wsX6_store := goodIn_r _ [28, 29, 30, 31, 32, 33, 34, 35, 36, 37, 38, 39] (by decide +kernel) (by decide +kernel)
set_option maxRecDepth 20000 in
theorem gX6_readDelay_X6_store : GoodIn wsX6_readDelay (wsV RX6 51 RX6 yX6_store wsX6_store) := goodIn_app (goodIn_of _ (by decide +kernel)) ggX6_readDelay_X6_store
theorem dX6_readDelay_0 : decode cX6_readDelay 0 = .ok (.aload_n 0, 1) := by decide +kernel
theorem dX6_readDelay_1 : decode cX6_readDelay 1 = .ok (.bipush 6, 2) := by decide +kernel
theorem dX6_readDelay_3 : decode cX6_readDelay 3 = .ok (.invokevirtual 47, 3) := by decide +kernel
theorem dX6_readDelay_6 : decode cX6_readDelay 6 = .ok (.istore_n 2, 1) := by decide +kernel
theorem dX6_readDelay_7 : decode cX6_readDelay 7 = .ok (.iload_n 2, 1) := by decide +kernel
theorem dX6_readDelay_8 : decode cX6_readDelay 8 = .ok (.iconst (-1), 1) := by decide +kernel
theorem dX6_readDelay_9 : decode cX6_readDelay 9 = .ok (.if_icmp .eq 12, 3) := by decide +kernel
theorem dX6_readDelay_12 : decode cX6_readDelay 12 = .ok (.aload_n 0, 1) := by decide +kernel
theorem dX6_readDelay_13 : decode cX6_readDelay 13 = .ok (.bipush 61, 2) := by decide +kernel
theorem dX6_readDelay_15 : decode cX6_readDelay 15 = .ok (.invokevirtual 39, 3) := by decide +kernel
theorem dX6_readDelay_18 : decode cX6_readDelay 18 = .ok (.ifCond .ne 5, 3) := by decide +kernel
theorem dX6_readDelay_21 : decode cX6_readDelay 21 = .ok (.iconst 0, 1) := by decide +kernel
theorem dX6_readDelay_22 : decode cX6_readDelay 22 = .ok (.ireturn, 1) := by decide +kernel
theorem dX6_readDelay_23 : decode cX6_readDelay 23 = .ok (.aload_n 0, 1) := by decide +kernel
theorem dX6_readDelay_24 : decode cX6_readDelay 24 = .ok (.iload_n 1, 1) := by decide +kernel
theorem dX6_readDelay_25 : decode cX6_readDelay 25 = .ok (.iload_n 2, 1) := by decide +kernel
theorem dX6_readDelay_26 : decode cX6_readDelay 26 = .ok (.aload_n 0, 1) := by decide +kernel
theorem dX6_readDelay_27 : decode cX6_readDelay 27 = .ok (.bipush 20, 2) := by decide +kernel
theorem dX6_readDelay_29 : decode cX6_readDelay 29 = .ok (.invokevirtual 55, 3) := by decide +kernel
theorem dX6_readDelay_32 : decode cX6_readDelay 32 = .ok (.iconst 1, 1) := by decide +kernel
theorem dX6_readDelay_33 : decode cX6_readDelay 33 = .ok (.invokevirtual 51, 3) := by decide +kernel
theorem dX6_readDelay_36 : decode cX6_readDelay 36 = .ok (.ireturn, 1) := by decide +kernel
theorem dX6_store_0 : decode cX6_store 0 = .ok (.iload_n 3, 1) := by decide +kernel
theorem dX6_store_1 : decode cX6_store 1 = .ok (.iload 4, 2) := by decide +kernel
theorem dX6_store_3 : decode cX6_store 3 = .ok (.if_icmp .lt 12, 3) := by decide +kernel
theorem dX6_store_6 : decode cX6_store 6 = .ok (.aload_n 0, 1) := by decide +kernel
theorem dX6_store_7 : decode cX6_store 7 = .ok (.getfield 32, 3) := by decide +kernel
theorem dX6_store_10 : decode cX6_store 10 = .ok (.bipush 20, 2) := by decide +kernel
theorem dX6_store_12 : decode cX6_store 12 = .ok (.if_icmp .lt 5, 3) := by decide +kernel
theorem dX6_store_15 : decode cX6_store 15 = .ok (.iconst 0, 1) := by decide +kernel
theorem dX6_store_16 : decode cX6_store 16 = .ok (.ireturn, 1) := by decide +kernel
theorem dX6_store_17 : decode cX6_store 17 = .ok (.aload_n 0, 1) := by decide +kernel
theorem dX6_store_18 : decode cX6_store 18 = .ok (.getfield 15, 3) := by decide +kernel
theorem dX6_store_21 : decode cX6_store 21 = .ok (.aload_n 0, 1) := by decide +kernel
theorem dX6_store_22 : decode cX6_store 22 = .ok (.getfield 32, 3) := by decide +kernel
theorem dX6_store_25 : decode cX6_store 25 = .ok (.iload_n 1, 1) := by decide +kernel
theorem dX6_store_26 : decode cX6_store 26 = .ok (.iastore, 1) := by decide +kernel
theorem dX6_store_27 : decode cX6_store 27 = .ok (.aload_n 0, 1) := by decide +kernel
theorem dX6_store_28 : decode cX6_store 28 = .ok (.getfield 19, 3) := by decide +kernel
theorem dX6_store_31 : decode cX6_store 31 = .ok (.aload_n 0, 1) := by decide +kernel
theorem dX6_store_32 : decode cX6_store 32 = .ok (.getfield 32, 3) := by decide +kernel
theorem dX6_store_35 : decode cX6_store 35 = .ok (.iload_n 2, 1) := by decide +kernel
theorem dX6_store_36 : decode cX6_store 36 = .ok (.iastore, 1) := by decide +kernel
theorem dX6_store_37 : decode cX6_store 37 = .ok (.aload_n 0, 1) := by decide +kernel
theorem dX6_store_38 : decode cX6_store 38 = .ok (.getfield 22, 3) := by decide +kernel
theorem dX6_store_41 : decode cX6_store 41 = .ok (.aload_n 0, 1) := by decide +kernel
theorem dX6_store_42 : decode cX6_store 42 = .ok (.getfield 32, 3) := by decide +kernel
theorem dX6_store_45 : decode cX6_store 45 = .ok (.iload_n 3, 1) := by decide +kernel
theorem dX6_store_46 : decode cX6_store 46 = .ok (.iastore, 1) := by decide +kernel
theorem dX6_store_47 : decode cX6_store 47 = .ok (.aload_n 0, 1) := by decide +kernel
theorem dX6_store_48 : decode cX6_store 48 = .ok (.dup, 1) := by decide +kernel
theorem dX6_store_49 : decode cX6_store 49 = .ok (.getfield 32, 3) := by decide +kernel
theorem dX6_store_52 : decode cX6_store 52 = .ok (.iconst 1, 1) := by decide +kernel
theorem dX6_store_53 : decode cX6_store 53 = .ok (.iadd, 1) := by decide +kernel
theorem dX6_store_54 : decode cX6_store 54 = .ok (.putfield 32, 3) := by decide +kernel
theorem dX6_store_57 : decode cX6_store 57 = .ok (.iconst 1, 1) := by decide +kernel
theorem dX6_store_58 : decode cX6_store 58 = .ok (.ireturn, 1) := by decide +kernel
theorem dX6_current_0 : decode cX6_current 0 = .ok (.aload_n 0, 1) := by decide +kernel
theorem dX6_current_1 : decode cX6_current 1 = .ok (.getfield 29, 3) := by decide +kernel
theorem dX6_current_4 : decode cX6_current 4 = .ok (.ifCond .lt 26, 3) := by decide +kernel
theorem dX6_current_7 : decode cX6_current 7 = .ok (.aload_n 0, 1) := by decide +kernel
theorem dX6_current_8 : decode cX6_current 8 = .ok (.getfield 29, 3) := by decide +kernel
theorem dX6_current_11 : decode cX6_current 11 = .ok (.aload_n 0, 1) := by decide +kernel
theorem dX6_current_12 : decode cX6_current 12 = .ok (.getfield 25, 3) := by decide +kernel
theorem dX6_current_15 : decode cX6_current 15 = .ok (.if_icmp .ge 15, 3) := by decide +kernel
theorem dX6_current_18 : decode cX6_current 18 = .ok (.aload_n 0, 1) := by decide +kernel
theorem dX6_current_19 : decode cX6_current 19 = .ok (.getfield 9, 3) := by decide +kernel
theorem dX6_current_22 : decode cX6_current 22 = .ok (.aload_n 0, 1) := by decide +kernel
theorem dX6_current_23 : decode cX6_current 23 = .ok (.getfield 29, 3) := by decide +kernel
theorem dX6_current_26 : decode cX6_current 26 = .ok (.caload, 1) := by decide +kernel
theorem dX6_current_27 : decode cX6_current 27 = .ok (.goto 4, 3) := by decide +kernel
theorem dX6_current_30 : decode cX6_current 30 = .ok (.iconst (-1), 1) := by decide +kernel
theorem dX6_current_31 : decode cX6_current 31 = .ok (.ireturn, 1) := by decide +kernel
set_option maxRecDepth 20000 in
theorem ggX6_readSign_X6_current : GoodIn wsX6_readSign wsX6_current := goodIn_r _ [6, 1, 7, 8, 9, 10, 11, 12, 13, 14, 15] (by decide +kernel) (by decide +kernel)
set_option maxRecDepth 20000 in
theorem gX6_readSign_X6_current : GoodIn wsX6_readSign (wsV RX6 43 RX6 yX6_current wsX6_current) := goodIn_app (goodIn_of _ (by decide +kernel)) ggX6_readSign_X6_current
theorem dX6_readSign_0 : decode cX6_readSign 0 = .ok (.aload_n 0, 1) := by decide +kernel
theorem dX6_readSign_1 : decode cX6_readSign 1 = .ok (.invokevirtual 43, 3) := by decide +kernel
theorem dX6_readSign_4 : decode cX6_readSign 4 = .ok (.iload_n 1, 1) := by decide +kernel
theorem dX6_readSign_5 : decode cX6_readSign 5 = .ok (.if_icmp .eq 5, 3) := by decide +kernel
theorem dX6_readSign_8 : decode cX6_readSign 8 = .ok (.iconst 0, 1) := by decide +kernel
theorem dX6_readSign_9 : decode cX6_readSign 9 = .ok (.ireturn, 1) := by decide +kernel
theorem dX6_readSign_10 : decode cX6_readSign 10 = .ok (.aload_n 0, 1) := by decide +kernel
theorem dX6_readSign_11 : decode cX6_readSign 11 = .ok (.dup, 1) := by decide +kernel
theorem dX6_readSign_12 : decode cX6_readSign 12 = .ok (.getfield 29, 3) := by decide +kernel
theorem dX6_readSign_15 : decode cX6_readSign 15 = .ok (.iconst 1, 1) := by decide +kernel
theorem dX6_readSign_16 : decode cX6_readSign 16 = .ok (.iadd, 1) := by decide +kernel
theorem dX6_readSign_17 : decode cX6_readSign 17 = .ok (.putfield 29, 3) := by decide +kernel
theorem dX6_readSign_20 : decode cX6_readSign 20 = .ok (.iconst 1, 1) := by decide +kernel
theorem dX6_readSign_21 : decode cX6_readSign 21 = .ok (.ireturn, 1) := by decide +kernel
set_option maxRecDepth 20000 in
theorem ggX6_readDigit_X6_current : GoodIn wsX6_readDigit wsX6_current := goodIn_r _ [6, 1, 7, 8, 13, 14, 15, 16, 17, 18, 19] (by decide +kernel) (by decide +kernel)
set_option maxRecDepth 20000 in
theorem gX6_readDigit_X6_current : GoodIn wsX6_readDigit (wsV RX6 43 RX6 yX6_current wsX6_current) := goodIn_app (goodIn_of _ (by decide +kernel)) ggX6_readDigit_X6_current
set_option maxRecDepth 20000 in
theorem ggX6_readDigit_X6_digitOf : GoodIn wsX6_readDigit wsX6_digitOf := goodIn_r _ [12] (by decide +kernel) (by decide +kernel)
set_option maxRecDepth 20000 in
theorem gX6_readDigit_X6_digitOf : GoodIn wsX6_readDigit (wsV RX6 61 RX6 yX6_digitOf wsX6_digitOf) := goodIn_app (goodIn_of _ (by decide +kernel)) ggX6_readDigit_X6_digitOf
theorem dX6_readDigit_0 : decode cX6_readDigit 0 = .ok (.aload_n 0, 1) := by decide +kernel
theorem dX6_readDigit_1 : decode cX6_readDigit 1 = .ok (.aload_n 0, 1) := by decide +kernel
theorem dX6_readDigit_2 : decode cX6_readDigit 2 = .ok (.invokevirtual 43, 3) := by decide +kernel
theorem dX6_readDigit_5 : decode cX6_readDigit 5 = .ok (.invokevirtual 61, 3) := by decide +kernel
theorem dX6_readDigit_8 : decode cX6_readDigit 8 = .ok (.istore_n 2, 1) := by decide +kernel
theorem dX6_readDigit_9 : decode cX6_readDigit 9 = .ok (.iload_n 2, 1) := by decide +kernel
theorem dX6_readDigit_10 : decode cX6_readDigit 10 = .ok (.iconst (-1), 1) := by decide +kernel
theorem dX6_readDigit_11 : decode cX6_readDigit 11 = .ok (.if_icmp .eq 8, 3) := by decide +kernel
theorem dX6_readDigit_14 : decode cX6_readDigit 14 = .ok (.iload_n 2, 1) := by decide +kernel
theorem dX6_readDigit_15 : decode cX6_readDigit 15 = .ok (.iload_n 1, 1) := by decide +kernel
theorem dX6_readDigit_16 : decode cX6_readDigit 16 = .ok (.if_icmp .le 5, 3) := by decide +kernel
theorem dX6_readDigit_19 : decode cX6_readDigit 19 = .ok (.iconst (-1), 1) := by decide +kernel
theorem dX6_readDigit_20 : decode cX6_readDigit 20 = .ok (.ireturn, 1) := by decide +kernel
theorem dX6_readDigit_21 : decode cX6_readDigit 21 = .ok (.aload_n 0, 1) := by decide +kernel
theorem dX6_readDigit_22 : decode cX6_readDigit 22 = .ok (.dup, 1) := by decide +kernel
theorem dX6_readDigit_23 : decode cX6_readDigit 23 = .ok (.getfield 29, 3) := by decide +kernel
theorem dX6_readDigit_26 : decode cX6_readDigit 26 = .ok (.iconst 1, 1) := by decide +kernel
theorem dX6_readDigit_27 : decode cX6_readDigit 27 = .ok (.iadd, 1) := by decide +kernel
theorem dX6_readDigit_28 : decode cX6_readDigit 28 = .ok (.putfield 29, 3) := by decide +kernel
theorem dX6_readDigit_31 : decode cX6_readDigit 31 = .ok (.iload_n 2, 1) := by decide +kernel
theorem dX6_readDigit_32 : decode cX6_readDigit 32 = .ok (.ireturn, 1) := by decide +kernel
set_option maxRecDepth 20000 in
theorem ggX6_readNumber_X6_current : GoodIn wsX6_readNumber wsX6_current := goodIn_r _ [6, 1, 7, 8, 13, 14, 15, 16, 17, 18, 19] (by decide +kernel) (by decide +kernel)
set_option maxRecDepth 20000 in
theorem gX6_readNumber_X6_current : GoodIn wsX6_readNumber (wsV RX6 43 RX6 yX6_current wsX6_current) := goodIn_app (goodIn_of _ (by decide +kernel)) ggX6_readNumber_X6_current
set_option maxRecDepth 20000 in
theorem ggX6_readNumber_X6_digitOf : GoodIn wsX6_readNumber wsX6_digitOf := goodIn_r _ [12] (by decide +kernel) (by decide +kernel)
set_option maxRecDepth 20000 in
theorem gX6_readNumber_X6_digitOf : GoodIn wsX6_readNumber (wsV RX6 61 RX6 yX6_digitOf wsX6_digitOf) := goodIn_app (goodIn_of _ (by decide +kernel)) ggX6_readNumber_X6_digitOf
theorem dX6_readNumber_0 : decode cX6_readNumber 0 = .ok (.iconst 0, 1) := by decide +kernel
theorem dX6_readNumber_1 : decode cX6_readNumber 1 = .ok (.istore_n 2, 1) := by decide +kernel
theorem dX6_readNumber_2 : decode cX6_readNumber 2 = .ok (.iconst 0, 1) := by decide +kernel
theorem dX6_readNumber_3 : decode cX6_readNumber 3 = .ok (.istore_n 3, 1) := by decide +kernel
theorem dX6_readNumber_4 : decode cX6_readNumber 4 = .ok (.iload_n 3, 1) := by decide +kernel
theorem dX6_readNumber_5 : decode cX6_readNumber 5 = .ok (.bipush 60, 2) := by decide +kernel
theorem dX6_readNumber_7 : decode cX6_readNumber 7 = .ok (.if_icmp .ge 84, 3) := by decide +kernel
theorem dX6_readNumber_10 : decode cX6_readNumber 10 = .ok (.aload_n 0, 1) := by decide +kernel
theorem dX6_readNumber_11 : decode cX6_readNumber 11 = .ok (.aload_n 0, 1) := by decide +kernel
theorem dX6_readNumber_12 : decode cX6_readNumber 12 = .ok (.invokevirtual 43, 3) := by decide +kernel
theorem dX6_readNumber_15 : decode cX6_readNumber 15 = .ok (.invokevirtual 61, 3) := by decide +kernel
theorem dX6_readNumber_18 : decode cX6_readNumber 18 = .ok (.istore 4, 2) := by decide +kernel
theorem dX6_readNumber_20 : decode cX6_readNumber 20 = .ok (.iload_n 2, 1) := by decide +kernel
theorem dX6_readNumber_21 : decode cX6_readNumber 21 = .ok (.ifCond .ne 12, 3) := by decide +kernel
theorem dX6_readNumber_24 : decode cX6_readNumber 24 = .ok (.iload 4, 2) := by decide +kernel
theorem dX6_readNumber_26 : decode cX6_readNumber 26 = .ok (.ifCond .ne 7, 3) := by decide +kernel
theorem dX6_readNumber_29 : decode cX6_readNumber 29 = .ok (.iconst 1, 1) := by decide +kernel
theorem dX6_readNumber_30 : decode cX6_readNumber 30 = .ok (.goto 4, 3) := by decide +kernel
theorem dX6_readNumber_33 : decode cX6_readNumber 33 = .ok (.iconst 0, 1) := by decide +kernel
theorem dX6_readNumber_34 : decode cX6_readNumber 34 = .ok (.istore 5, 2) := by decide +kernel
theorem dX6_readNumber_36 : decode cX6_readNumber 36 = .ok (.iload 4, 2) := by decide +kernel
theorem dX6_readNumber_38 : decode cX6_readNumber 38 = .ok (.iconst (-1), 1) := by decide +kernel
theorem dX6_readNumber_39 : decode cX6_readNumber 39 = .ok (.if_icmp .eq 26, 3) := by decide +kernel
theorem dX6_readNumber_42 : decode cX6_readNumber 42 = .ok (.iload 4, 2) := by decide +kernel
theorem dX6_readNumber_44 : decode cX6_readNumber 44 = .ok (.bipush 9, 2) := by decide +kernel
theorem dX6_readNumber_46 : decode cX6_readNumber 46 = .ok (.if_icmp .gt 19, 3) := by decide +kernel
theorem dX6_readNumber_49 : decode cX6_readNumber 49 = .ok (.iload 5, 2) := by decide +kernel
theorem dX6_readNumber_51 : decode cX6_readNumber 51 = .ok (.ifCond .ne 14, 3) := by decide +kernel
theorem dX6_readNumber_54 : decode cX6_readNumber 54 = .ok (.iload_n 2, 1) := by decide +kernel
theorem dX6_readNumber_55 : decode cX6_readNumber 55 = .ok (.bipush 10, 2) := by decide +kernel
theorem dX6_readNumber_57 : decode cX6_readNumber 57 = .ok (.imul, 1) := by decide +kernel
theorem dX6_readNumber_58 : decode cX6_readNumber 58 = .ok (.iload 4, 2) := by decide +kernel
theorem dX6_readNumber_60 : decode cX6_readNumber 60 = .ok (.iadd, 1) := by decide +kernel
theorem dX6_readNumber_61 : decode cX6_readNumber 61 = .ok (.iload_n 1, 1) := by decide +kernel
theorem dX6_readNumber_62 : decode cX6_readNumber 62 = .ok (.if_icmp .le 5, 3) := by decide +kernel
theorem dX6_readNumber_65 : decode cX6_readNumber 65 = .ok (.iload_n 2, 1) := by decide +kernel
theorem dX6_readNumber_66 : decode cX6_readNumber 66 = .ok (.ireturn, 1) := by decide +kernel
theorem dX6_readNumber_67 : decode cX6_readNumber 67 = .ok (.iload_n 2, 1) := by decide +kernel
theorem dX6_readNumber_68 : decode cX6_readNumber 68 = .ok (.bipush 10, 2) := by decide +kernel
theorem dX6_readNumber_70 : decode cX6_readNumber 70 = .ok (.imul, 1) := by decide +kernel
theorem dX6_readNumber_71 : decode cX6_readNumber 71 = .ok (.iload 4, 2) := by decide +kernel
theorem dX6_readNumber_73 : decode cX6_readNumber 73 = .ok (.iadd, 1) := by decide +kernel
theorem dX6_readNumber_74 : decode cX6_readNumber 74 = .ok (.istore_n 2, 1) := by decide +kernel
theorem dX6_readNumber_75 : decode cX6_readNumber 75 = .ok (.aload_n 0, 1) := by decide +kernel
theorem dX6_readNumber_76 : decode cX6_readNumber 76 = .ok (.dup, 1) := by decide +kernel
theorem dX6_readNumber_77 : decode cX6_readNumber 77 = .ok (.getfield 29, 3) := by decide +kernel
theorem dX6_readNumber_80 : decode cX6_readNumber 80 = .ok (.iconst 1, 1) := by decide +kernel
theorem dX6_readNumber_81 : decode cX6_readNumber 81 = .ok (.iadd, 1) := by decide +kernel
theorem dX6_readNumber_82 : decode cX6_readNumber 82 = .ok (.putfield 29, 3) := by decide +kernel
theorem dX6_readNumber_85 : decode cX6_readNumber 85 = .ok (.iinc 3 1, 3) := by decide +kernel
theorem dX6_readNumber_88 : decode cX6_readNumber 88 = .ok (.goto (-84), 3) := by decide +kernel
theorem dX6_readNumber_91 : decode cX6_readNumber 91 = .ok (.iload_n 2, 1) := by decide +kernel
theorem dX6_readNumber_92 : decode cX6_readNumber 92 = .ok (.ireturn, 1) := by decide +kernel
theorem dX6_digitOf_0 : decode cX6_digitOf 0 = .ok (.iload_n 1, 1) := by decide +kernel
theorem dX6_digitOf_1 : decode cX6_digitOf 1 = .ok (.bipush 48, 2) := by decide +kernel
theorem dX6_digitOf_3 : decode cX6_digitOf 3 = .ok (.if_icmp .lt 14, 3) := by decide +kernel
theorem dX6_digitOf_6 : decode cX6_digitOf 6 = .ok (.iload_n 1, 1) := by decide +kernel
theorem dX6_digitOf_7 : decode cX6_digitOf 7 = .ok (.bipush 57, 2) := by decide +kernel
theorem dX6_digitOf_9 : decode cX6_digitOf 9 = .ok (.if_icmp .gt 8, 3) := by decide +kernel
theorem dX6_digitOf_12 : decode cX6_digitOf 12 = .ok (.iload_n 1, 1) := by decide +kernel
theorem dX6_digitOf_13 : decode cX6_digitOf 13 = .ok (.bipush 48, 2) := by decide +kernel
theorem dX6_digitOf_15 : decode cX6_digitOf 15 = .ok (.isub, 1) := by decide +kernel
theorem dX6_digitOf_16 : decode cX6_digitOf 16 = .ok (.ireturn, 1) := by decide +kernel
theorem dX6_digitOf_17 : decode cX6_digitOf 17 = .ok (.iload_n 1, 1) := by decide +kernel
theorem dX6_digitOf_18 : decode cX6_digitOf 18 = .ok (.bipush 97, 2) := by decide +kernel
theorem dX6_digitOf_20 : decode cX6_digitOf 20 = .ok (.if_icmp .lt 17, 3) := by decide +kernel
theorem dX6_digitOf_23 : decode cX6_digitOf 23 = .ok (.iload_n 1, 1) := by decide +kernel
theorem dX6_digitOf_24 : decode cX6_digitOf 24 = .ok (.bipush 102, 2) := by decide +kernel
theorem dX6_digitOf_26 : decode cX6_digitOf 26 = .ok (.if_icmp .gt 11, 3) := by decide +kernel
theorem dX6_digitOf_29 : decode cX6_digitOf 29 = .ok (.iload_n 1, 1) := by decide +kernel
theorem dX6_digitOf_30 : decode cX6_digitOf 30 = .ok (.bipush 97, 2) := by decide +kernel
theorem dX6_digitOf_32 : decode cX6_digitOf 32 = .ok (.isub, 1) := by decide +kernel
theorem dX6_digitOf_33 : decode cX6_digitOf 33 = .ok (.bipush 10, 2) := by decide +kernel
theorem dX6_digitOf_35 : decode cX6_digitOf 35 = .ok (.iadd, 1) := by decide +kernel
theorem dX6_digitOf_36 : decode cX6_digitOf 36 = .ok (.ireturn, 1) := by decide +kernel
theorem dX6_digitOf_37 : decode cX6_digitOf 37 = .ok (.iconst (-1), 1) := by decide +kernel
theorem dX6_digitOf_38 : decode cX6_digitOf 38 = .ok (.ireturn, 1) := by decide +kernel
set_option maxRecDepth 20000 in
theorem ggX7_init_X2_init : GoodIn wsX7_init wsX2_init := goodIn_r _ [21, 22, 2, 3, 23, 24, 25, 26, 27, 28, 29, 30, 31, 32, 33, 34, 35, 36, 37, 38, 39, 40, 41, 42, 43, 44, 45, 46, 47, 48, 49, 50, 51, 52, 53, 54, 55, 56, 57, 58, 59, 60, 61, 62, 63, 64, 6, 65, 66, 67, 68, 69, 70, 71, 72, 73, 74, 75, 76, 77, 78, 79, 80, 81, 82, 83, 84, 85, 86, 87, 88, 89, 90, 91, 107, 108, 109, 110, 111, 112, 113, 114, 115, 116, 117, 118, 134, 135, 136, 137, 138, 139, 140, 141, 142, 143, 144, 145, 146, 147, 148, 149, 150, 151, 152, 153, 154] (by decide +kernel) (by decide +kernel)
set_option maxRecDepth 20000 in
theorem gX7_init_X2_init : GoodIn wsX7_init (wsX2_init) := ggX7_init_X2_init
set_option maxRecDepth 20000 in
theorem ggX7_init_X1_init : GoodIn wsX7_init wsX1_init := goodIn_r _ [94, 95, 2, 3, 96, 97, 5, 6, 98, 20, 21, 22, 23, 24, 25, 26, 27, 28, 29, 30, 31, 32, 33, 34, 35, 36, 37, 38, 39, 40, 41, 42, 43, 44, 45, 46, 47, 48, 49, 50, 51, 52, 53, 54, 55, 56, 57, 58, 59, 60, 61, 62, 63, 64, 65, 66, 67, 68, 69, 70, 71, 72, 73, 74, 75, 76, 77, 78, 79, 80, 81, 82, 83, 84, 85, 86, 87, 88, 89, 90, 91, 125, 126, 107, 108, 109, 110, 111, 112, 113, 114, 115, 116, 117, 118, 134, 135, 136, 137, 138, 139, 140, 141, 142, 143, 144, 145, 146, 147, 148, 149, 150, 151, 152, 153, 154] (by decide +kernel) (by decide +kernel)
set_option maxRecDepth 20000 in
theorem gX7_init_X1_init : GoodIn wsX7_init (wsX1_init) := ggX7_init_X1_init
set_option maxRecDepth 20000 in
theorem ggX7_init_X6_init : GoodIn wsX7_init wsX6_init := goodIn_r _ [100, 101, 2, 3, 102, 103, 23, 104, 105, 106, 127, 128, 129, 130, 131, 132, 133] (by decide +kernel) (by decide +kernel)
set_option maxRecDepth 20000 in
theorem gX7_init_X6_init_n35 : GoodIn wsX7_init (wsX6_init) := ggX7_init_X6_init
end
section
theorem dX7_init_0 : decode cX7_init 0 = .ok (.aload_n 0, 1) := by decide +kernel
theorem dX7_init_1 : decode cX7_init 1 = .ok (.invokespecial 3, 3) := by decide +kernel
theorem dX7_init_4 : decode cX7_init 4 = .ok (.aload_n 0, 1) := by decide +kernel
theorem dX7_init_5 : decode cX7_init 5 = .ok (.new 9, 3) := by decide +kernel
theorem dX7_init_8 : decode cX7_init 8 = .ok (.dup, 1) := by decide +kernel
theorem dX7_init_9 : decode cX7_init 9 = .ok (.invokespecial 11, 3) := by decide +kernel
theorem dX7_init_12 : decode cX7_init 12 = .ok (.putfield 12, 3) := by decide +kernel
theorem dX7_init_15 : decode cX7_init 15 = .ok (.aload_n 0, 1) := by decide +kernel
theorem dX7_init_16 : decode cX7_init 16 = .ok (.new 9, 3) := by decide +kernel
theorem dX7_init_19 : decode cX7_init 19 = .ok (.dup, 1) := by decide +kernel
theorem dX7_init_20 : decode cX7_init 20 = .ok (.invokespecial 11, 3) := by decide +kernel
theorem dX7_init_23 : decode cX7_init 23 = .ok (.putfield 16, 3) := by decide +kernel
theorem dX7_init_26 : decode cX7_init 26 = .ok (.aload_n 0, 1) := by decide +kernel
theorem dX7_init_27 : decode cX7_init 27 = .ok (.new 9, 3) := by decide +kernel
theorem dX7_init_30 : decode cX7_init 30 = .ok (.dup, 1) := by decide +kernel
theorem dX7_init_31 : decode cX7_init 31 = .ok (.invokespecial 11, 3) := by decide +kernel
theorem dX7_init_34 : decode cX7_init 34 = .ok (.putfield 19, 3) := by decide +kernel
theorem dX7_init_37 : decode cX7_init 37 = .ok (.aload_n 0, 1) := by decide +kernel
theorem dX7_init_38 : decode cX7_init 38 = .ok (.iconst 0, 1) := by decide +kernel
theorem dX7_init_39 : decode cX7_init 39 = .ok (.putfield 22, 3) := by decide +kernel
theorem dX7_init_42 : decode cX7_init 42 = .ok (.aload_n 0, 1) := by decide +kernel
theorem dX7_init_43 : decode cX7_init 43 = .ok (.new 26, 3) := by decide +kernel
theorem dX7_init_46 : decode cX7_init 46 = .ok (.dup, 1) := by decide +kernel
theorem dX7_init_47 : decode cX7_init 47 = .ok (.invokespecial 28, 3) := by decide +kernel
theorem dX7_init_50 : decode cX7_init 50 = .ok (.putfield 29, 3) := by decide +kernel
theorem dX7_init_53 : decode cX7_init 53 = .ok (.aload_n 0, 1) := by decide +kernel
theorem dX7_init_54 : decode cX7_init 54 = .ok (.new 33, 3) := by decide +kernel
theorem dX7_init_57 : decode cX7_init 57 = .ok (.dup, 1) := by decide +kernel
theorem dX7_init_58 : decode cX7_init 58 = .ok (.invokespecial 35, 3) := by decide +kernel
theorem dX7_init_61 : decode cX7_init 61 = .ok (.putfield 36, 3) := by decide +kernel
theorem dX7_init_64 : decode cX7_init 64 = .ok (.return_, 1) := by decide +kernel
set_option maxRecDepth 20000 in
theorem ggX7_build_X2_copyFrom : GoodIn wsX7_build wsX2_copyFrom := goodIn_r _ [7, 8, 9, 10, 11, 12, 13, 14, 15, 16, 17, 18, 19, 20, 21, 22, 23, 24, 25, 26, 27, 28, 29, 30, 31, 32, 33, 34, 35, 36, 37, 38, 39, 40, 41, 42, 43, 44, 45, 46, 47, 48, 49, 50, 51, 52, 53, 54, 55, 56, 57, 58, 59, 60, 61, 62, 63, 64, 65, 66, 67, 68, 115, 116, 117, 118, 119, 120, 121, 122, 123, 124, 125, 126, 127, 128, 129, 130, 131, 132, 133, 134, 135, 136, 137, 138, 139, 140, 141, 142, 143, 144, 145, 146, 147] (by decide +kernel) (by decide +kernel)
set_option maxRecDepth 20000 in
theorem gX7_build_X2_copyFrom : GoodIn wsX7_build (wsV RX7 40 RX2 yX2_copyFrom wsX2_copyFrom) := goodIn_app (goodIn_of _ (by decide +kernel)) ggX7_build_X2_copyFrom
set_option maxRecDepth 20000 in
theorem ggX7_build_X2_clearTo : GoodIn wsX7_build wsX2_clearTo := goodIn_r _ [72, 8, 9, 10, 11, 12, 18, 19, 20, 73, 21, 74, 22, 75, 76, 77, 27, 78, 29, 31, 32, 33, 34, 35, 36, 37, 38, 39, 79, 80, 81, 61, 82, 67, 68, 115, 116, 117, 118, 119, 120, 121, 122, 123, 124, 125, 126, 137, 138, 139, 140, 141, 142, 127, 128, 129, 130, 131, 132, 133, 134, 135, 136, 143, 144, 145, 146, 147] (by decide +kernel) (by decide +kernel)
set_option maxRecDepth 20000 in
theorem gX7_build_X2_clearTo : GoodIn wsX7_build (wsV RX7 44 RX2 yX2_clearTo wsX2_clearTo) := goodIn_app (goodIn_of _ (by decide +kernel)) ggX7_build_X2_clearTo
set_option maxRecDepth 20000 in
theorem ggX7_build_X2_fullStages : GoodIn wsX7_build wsX2_fullStages := goodIn_r _ [86, 8, 19, 115, 116, 117, 118, 119, 120, 121, 122, 123, 124, 125, 126] (by decide +kernel) (by decide +kernel)
set_option maxRecDepth 20000 in
theorem gX7_build_X2_fullStages : GoodIn wsX7_build (wsV RX7 48 RX2 yX2_fullStages wsX2_fullStages) := goodIn_app (goodIn_of _ (by decide +kernel)) ggX7_build_X2_fullStages
set_option maxRecDepth 20000 in
theorem ggX7_build_X2_waitingWords : GoodIn wsX7_build wsX2_waitingWords := goodIn_r _ [90, 20, 73, 115, 116, 117, 118, 119, 120, 121, 122, 123, 124, 125, 126, 137, 138] (by decide +kernel) (by decide +kernel)
set_option maxRecDepth 20000 in
theorem gX7_build_X2_waitingWords : GoodIn wsX7_build (wsV RX7 52 RX2 yX2_waitingWords wsX2_waitingWords) := goodIn_app (goodIn_of _ (by decide +kernel)) ggX7_build_X2_waitingWords
set_option maxRecDepth 20000 in
theorem ggX7_build_X7_accept : GoodIn wsX7_build wsX7_accept := goodIn_r _ [95, 96, 2, 1, 97, 98, 99, 100, 101, 102, 103, 104, 105, 106, 107, 108, 4, 5, 6, 7, 8, 9, 10, 11, 12, 13, 14, 15, 16, 17, 18, 19, 20, 21, 22, 23, 24, 25, 26, 27, 28, 29, 30, 31, 32, 33, 34, 35, 36, 37, 38, 39, 40, 41, 42, 43, 44, 45, 46, 47, 48, 49, 50, 51, 52, 53, 54, 55, 56, 57, 58, 59, 60, 61, 62, 63, 64, 65, 66, 67, 68, 3, 109, 110, 111, 112, 113, 114, 148, 149, 115, 116, 117, 118, 119, 120, 121, 122, 123, 124, 125, 126, 127, 128, 129, 130, 131, 132, 133, 134, 135, 136, 137, 138, 139, 140, 141, 142, 143, 144, 145, 146, 147] (by decide +kernel) (by decide +kernel)
set_option maxRecDepth 20000 in
theorem gX7_build_X7_accept : GoodIn wsX7_build (wsV RX7 55 RX7 yX7_accept wsX7_accept) := goodIn_app (goodIn_of _ (by decide +kernel)) ggX7_build_X7_accept
theorem dX7_build_0 : decode cX7_build 0 = .ok (.iload_n 1, 1) := by decide +kernel
theorem dX7_build_1 : decode cX7_build 1 = .ok (.iconst 1, 1) := by decide +kernel
theorem dX7_build_2 : decode cX7_build 2 = .ok (.if_icmp .lt 9, 3) := by decide +kernel
theorem dX7_build_5 : decode cX7_build 5 = .ok (.iload_n 1, 1) := by decide +kernel
theorem dX7_build_6 : decode cX7_build 6 = .ok (.bipush 6, 2) := by decide +kernel
theorem dX7_build_8 : decode cX7_build 8 = .ok (.if_icmp .le 6, 3) := by decide +kernel
theorem dX7_build_11 : decode cX7_build 11 = .ok (.bipush (-2), 2) := by decide +kernel
theorem dX7_build_13 : decode cX7_build 13 = .ok (.ireturn, 1) := by decide +kernel
theorem dX7_build_14 : decode cX7_build 14 = .ok (.aload_n 0, 1) := by decide +kernel
theorem dX7_build_15 : decode cX7_build 15 = .ok (.getfield 16, 3) := by decide +kernel
theorem dX7_build_18 : decode cX7_build 18 = .ok (.aload_n 0, 1) := by decide +kernel
theorem dX7_build_19 : decode cX7_build 19 = .ok (.getfield 12, 3) := by decide +kernel
theorem dX7_build_22 : decode cX7_build 22 = .ok (.invokevirtual 40, 3) := by decide +kernel
theorem dX7_build_25 : decode cX7_build 25 = .ok (.aload_n 0, 1) := by decide +kernel
theorem dX7_build_26 : decode cX7_build 26 = .ok (.getfield 16, 3) := by decide +kernel
theorem dX7_build_29 : decode cX7_build 29 = .ok (.iload_n 1, 1) := by decide +kernel
theorem dX7_build_30 : decode cX7_build 30 = .ok (.invokevirtual 44, 3) := by decide +kernel
theorem dX7_build_33 : decode cX7_build 33 = .ok (.aload_n 0, 1) := by decide +kernel
theorem dX7_build_34 : decode cX7_build 34 = .ok (.aload_n 0, 1) := by decide +kernel
theorem dX7_build_35 : decode cX7_build 35 = .ok (.getfield 12, 3) := by decide +kernel
theorem dX7_build_38 : decode cX7_build 38 = .ok (.invokevirtual 48, 3) := by decide +kernel
theorem dX7_build_41 : decode cX7_build 41 = .ok (.aload_n 0, 1) := by decide +kernel
theorem dX7_build_42 : decode cX7_build 42 = .ok (.getfield 12, 3) := by decide +kernel
theorem dX7_build_45 : decode cX7_build 45 = .ok (.invokevirtual 52, 3) := by decide +kernel
theorem dX7_build_48 : decode cX7_build 48 = .ok (.iadd, 1) := by decide +kernel
theorem dX7_build_49 : decode cX7_build 49 = .ok (.invokevirtual 55, 3) := by decide +kernel
theorem dX7_build_52 : decode cX7_build 52 = .ok (.ireturn, 1) := by decide +kernel
set_option maxRecDepth 20000 in
theorem ggX7_add_X2_copyFrom : GoodIn wsX7_add wsX2_copyFrom := goodIn_r _ [7, 8, 9, 10, 11, 12, 13, 14, 15, 16, 17, 18, 19, 20, 21, 22, 23, 24, 25, 26, 27, 28, 29, 30, 31, 32, 33, 34, 35, 36, 37, 38, 39, 40, 41, 42, 43, 44, 45, 46, 47, 48, 49, 50, 51, 52, 53, 54, 55, 56, 57, 58, 59, 60, 61, 62, 63, 64, 65, 66, 67, 68, 131, 132, 133, 134, 135, 136, 137, 138, 139, 140, 141, 142, 143, 144, 145, 146, 147, 148, 149, 150, 151, 152, 153, 154, 155, 156, 157, 158, 159, 160, 161, 162, 163] (by decide +kernel) (by decide +kernel)
set_option maxRecDepth 20000 in
theorem gX7_add_X2_copyFrom : GoodIn wsX7_add (wsV RX7 40 RX2 yX2_copyFrom wsX2_copyFrom) := goodIn_app (goodIn_of _ (by decide +kernel)) ggX7_add_X2_copyFrom
set_option maxRecDepth 20000 in
theorem ggX7_add_X2_addWord : GoodIn wsX7_add wsX2_addWord := goodIn_r _ [72, 20, 73, 18, 74, 75, 76, 77, 43, 78, 45, 46, 79, 80, 81, 6, 82, 10, 23, 11, 83, 84, 85, 86, 13, 87, 88, 89, 90, 91, 92, 93, 94, 95, 21, 9, 96, 97, 98, 99, 100, 51, 101, 54, 55, 53, 57, 102, 103, 104, 105, 106, 131, 132, 133, 134, 135, 136, 137, 138, 139, 140, 141, 142, 153, 154, 143, 144, 145, 146, 147, 148, 149, 150, 151, 152, 155, 156, 157, 158] (by decide +kernel) (by decide +kernel)
set_option maxRecDepth 20000 in
theorem gX7_add_X2_addWord : GoodIn wsX7_add (wsV RX7 59 RX2 yX2_addWord wsX2_addWord) := goodIn_app (goodIn_of _ (by decide +kernel)) ggX7_add_X2_addWord
set_option maxRecDepth 20000 in
theorem ggX7_add_X7_accept : GoodIn wsX7_add wsX7_accept := goodIn_r _ [111, 112, 2, 1, 113, 114, 115, 116, 117, 118, 119, 120, 121, 122, 123, 124, 4, 5, 6, 7, 8, 9, 10, 11, 12, 13, 14, 15, 16, 17, 18, 19, 20, 21, 22, 23, 24, 25, 26, 27, 28, 29, 30, 31, 32, 33, 34, 35, 36, 37, 38, 39, 40, 41, 42, 43, 44, 45, 46, 47, 48, 49, 50, 51, 52, 53, 54, 55, 56, 57, 58, 59, 60, 61, 62, 63, 64, 65, 66, 67, 68, 3, 125, 126, 127, 128, 129, 130, 164, 165, 131, 132, 133, 134, 135, 136, 137, 138, 139, 140, 141, 142, 143, 144, 145, 146, 147, 148, 149, 150, 151, 152, 153, 154, 155, 156, 157, 158, 159, 160, 161, 162, 163] (by decide +kernel) (by decide +kernel)
set_option maxRecDepth 20000 in
theorem gX7_add_X7_accept : GoodIn wsX7_add (wsV RX7 55 RX7 yX7_accept wsX7_accept) := goodIn_app (goodIn_of _ (by decide +kernel)) ggX7_add_X7_accept
theorem dX7_add_0 : decode cX7_add 0 = .ok (.aload_n 0, 1) := by decide +kernel
theorem dX7_add_1 : decode cX7_add 1 = .ok (.getfield 16, 3) := by decide +kernel
theorem dX7_add_4 : decode cX7_add 4 = .ok (.aload_n 0, 1) := by decide +kernel
theorem dX7_add_5 : decode cX7_add 5 = .ok (.getfield 12, 3) := by decide +kernel
theorem dX7_add_8 : decode cX7_add 8 = .ok (.invokevirtual 40, 3) := by decide +kernel
theorem dX7_add_11 : decode cX7_add 11 = .ok (.aload_n 0, 1) := by decide +kernel
theorem dX7_add_12 : decode cX7_add 12 = .ok (.aload_n 0, 1) := by decide +kernel
theorem dX7_add_13 : decode cX7_add 13 = .ok (.getfield 16, 3) := by decide +kernel
theorem dX7_add_16 : decode cX7_add 16 = .ok (.iload_n 1, 1) := by decide +kernel
theorem dX7_add_17 : decode cX7_add 17 = .ok (.iload_n 2, 1) := by decide +kernel
theorem dX7_add_18 : decode cX7_add 18 = .ok (.invokevirtual 59, 3) := by decide +kernel
theorem dX7_add_21 : decode cX7_add 21 = .ok (.invokevirtual 55, 3) := by decide +kernel
theorem dX7_add_24 : decode cX7_add 24 = .ok (.ireturn, 1) := by decide +kernel
set_option maxRecDepth 20000 in
theorem ggX7_run_X2_copyFrom : GoodIn wsX7_run wsX2_copyFrom := goodIn_r _ [7, 8, 9, 10, 11, 12, 13, 14, 15, 16, 17, 18, 19, 20, 21, 22, 23, 24, 25, 26, 27, 28, 29, 30, 31, 32, 33, 34, 35, 36, 37, 38, 39, 40, 41, 42, 43, 44, 45, 46, 47, 48, 49, 50, 51, 52, 53, 54, 55, 56, 57, 58, 59, 60, 61, 62, 63, 64, 65, 66, 67, 68, 191, 192, 193, 194, 195, 196, 197, 198, 199, 200, 201, 202, 203, 204, 205, 206, 207, 208, 209, 210, 211, 212, 213, 214, 215, 216, 217, 218, 219, 220, 221, 222, 223] (by decide +kernel) (by decide +kernel)
set_option maxRecDepth 20000 in
theorem gX7_run_X2_copyFrom : GoodIn wsX7_run (wsV RX7 40 RX2 yX2_copyFrom wsX2_copyFrom) := goodIn_app (goodIn_of _ (by decide +kernel)) ggX7_run_X2_copyFrom
set_option maxRecDepth 20000 in
theorem ggX7_run_X2_passTicks : GoodIn wsX7_run wsX2_passTicks := goodIn_r _ [72, 9, 73, 22, 74, 75, 76, 77, 6, 78, 21, 12, 18, 79, 80, 81, 82, 83, 84, 85, 86, 87, 51, 88, 55, 53, 89, 90, 91, 92, 57, 93, 94, 95, 96, 97, 98, 99, 100, 101, 102, 103, 104, 54, 105, 106, 107, 108, 8, 109, 110, 111, 112, 113, 13, 19, 114, 115, 116, 117, 118, 119, 120, 121, 122, 123, 124, 125, 126, 127, 128, 129, 23, 130, 131, 132, 61, 133, 67, 63, 65, 66, 68, 134, 135, 136, 137, 138, 139, 140, 141, 142, 143, 144, 145, 146, 147, 148, 149, 150, 151, 152, 153, 154, 155, 156, 157, 20, 10, 11, 158, 159, 160, 161, 162, 163, 164, 165, 43, 166, 45, 46, 191, 192, 193, 194, 195, 196, 197, 198, 199, 200, 201, 202, 219, 220, 221, 222, 223, 203, 204, 205, 206, 207, 208, 209, 210, 211, 212, 215, 216, 217, 218, 213, 214] (by decide +kernel) (by decide +kernel)
set_option maxRecDepth 20000 in
theorem gX7_run_X2_passTicks : GoodIn wsX7_run (wsV RX7 63 RX2 yX2_passTicks wsX2_passTicks) := goodIn_app (goodIn_of _ (by decide +kernel)) ggX7_run_X2_passTicks
set_option maxRecDepth 20000 in
theorem ggX7_run_X7_accept : GoodIn wsX7_run wsX7_accept := goodIn_r _ [171, 172, 2, 1, 173, 174, 175, 176, 177, 178, 179, 180, 181, 182, 183, 184, 4, 5, 6, 7, 8, 9, 10, 11, 12, 13, 14, 15, 16, 17, 18, 19, 20, 21, 22, 23, 24, 25, 26, 27, 28, 29, 30, 31, 32, 33, 34, 35, 36, 37, 38, 39, 40, 41, 42, 43, 44, 45, 46, 47, 48, 49, 50, 51, 52, 53, 54, 55, 56, 57, 58, 59, 60, 61, 62, 63, 64, 65, 66, 67, 68, 3, 185, 186, 187, 188, 189, 190, 224, 225, 191, 192, 193, 194, 195, 196, 197, 198, 199, 200, 201, 202, 203, 204, 205, 206, 207, 208, 209, 210, 211, 212, 213, 214, 215, 216, 217, 218, 219, 220, 221, 222, 223] (by decide +kernel) (by decide +kernel)
set_option maxRecDepth 20000 in
theorem gX7_run_X7_accept : GoodIn wsX7_run (wsV RX7 55 RX7 yX7_accept wsX7_accept) := goodIn_app (goodIn_of _ (by decide +kernel)) ggX7_run_X7_accept
theorem dX7_run_0 : decode cX7_run 0 = .ok (.aload_n 0, 1) := by decide +kernel
theorem dX7_run_1 : decode cX7_run 1 = .ok (.getfield 16, 3) := by decide +kernel
theorem dX7_run_4 : decode cX7_run 4 = .ok (.aload_n 0, 1) := by decide +kernel
theorem dX7_run_5 : decode cX7_run 5 = .ok (.getfield 12, 3) := by decide +kernel
theorem dX7_run_8 : decode cX7_run 8 = .ok (.invokevirtual 40, 3) := by decide +kernel
theorem dX7_run_11 : decode cX7_run 11 = .ok (.aload_n 0, 1) := by decide +kernel
theorem dX7_run_12 : decode cX7_run 12 = .ok (.aload_n 0, 1) := by decide +kernel
theorem dX7_run_13 : decode cX7_run 13 = .ok (.getfield 16, 3) := by decide +kernel
theorem dX7_run_16 : decode cX7_run 16 = .ok (.iload_n 1, 1) := by decide +kernel
theorem dX7_run_17 : decode cX7_run 17 = .ok (.invokevirtual 63, 3) := by decide +kernel
theorem dX7_run_20 : decode cX7_run 20 = .ok (.invokevirtual 55, 3) := by decide +kernel
theorem dX7_run_23 : decode cX7_run 23 = .ok (.ireturn, 1) := by decide +kernel
set_option maxRecDepth 20000 in
theorem ggX7_finish_X2_isQuiet : GoodIn wsX7_finish wsX2_isQuiet := goodIn_r _ [10, 11, 12, 191, 192, 193, 194, 195, 196, 197, 198, 199, 200, 201, 202, 203, 204, 205, 206] (by decide +kernel) (by decide +kernel)
set_option maxRecDepth 20000 in
theorem gX7_finish_X2_isQuiet : GoodIn wsX7_finish (wsV RX7 66 RX2 yX2_isQuiet wsX2_isQuiet) := goodIn_app (goodIn_of _ (by decide +kernel)) ggX7_finish_X2_isQuiet
set_option maxRecDepth 20000 in
theorem ggX7_finish_X2_copyFrom : GoodIn wsX7_finish wsX2_copyFrom := goodIn_r _ [16, 17, 18, 19, 20, 21, 22, 23, 24, 25, 26, 27, 28, 29, 11, 30, 31, 32, 33, 34, 35, 36, 37, 38, 39, 40, 41, 42, 43, 44, 45, 46, 47, 48, 49, 50, 51, 52, 53, 54, 55, 56, 57, 58, 59, 60, 61, 62, 63, 64, 65, 66, 67, 68, 69, 70, 71, 72, 73, 74, 75, 76, 191, 192, 193, 194, 195, 196, 197, 198, 199, 200, 201, 202, 207, 208, 209, 210, 211, 212, 213, 214, 215, 216, 217, 218, 203, 204, 205, 206, 219, 220, 221, 222, 223] (by decide +kernel) (by decide +kernel)
set_option maxRecDepth 20000 in
theorem gX7_finish_X2_copyFrom : GoodIn wsX7_finish (wsV RX7 40 RX2 yX2_copyFrom wsX2_copyFrom) := goodIn_app (goodIn_of _ (by decide +kernel)) ggX7_finish_X2_copyFrom
set_option maxRecDepth 20000 in
theorem ggX7_finish_X2_letArriveUpTo : GoodIn wsX7_finish wsX2_letArriveUpTo := goodIn_r _ [80, 81, 11, 18, 21, 27, 82, 83, 7, 8, 9, 10, 12, 84, 85, 86, 59, 87, 63, 61, 88, 89, 90, 91, 65, 92, 93, 94, 95, 96, 97, 98, 99, 100, 101, 102, 103, 62, 104, 105, 106, 107, 17, 108, 109, 110, 111, 112, 22, 28, 113, 114, 115, 116, 117, 118, 119, 120, 121, 122, 123, 124, 125, 126, 127, 128, 31, 30, 129, 130, 131, 132, 69, 133, 75, 71, 73, 74, 76, 134, 135, 136, 137, 138, 139, 140, 141, 142, 143, 144, 145, 146, 147, 148, 149, 150, 151, 152, 153, 154, 155, 156, 157, 29, 19, 20, 158, 159, 160, 161, 162, 163, 164, 165, 51, 166, 53, 54, 191, 192, 193, 194, 195, 196, 197, 198, 199, 200, 201, 202, 207, 208, 209, 210, 211, 212, 213, 214, 215, 216, 203, 204, 205, 206, 219, 220, 221, 222, 223, 217, 218] (by decide +kernel) (by decide +kernel)
set_option maxRecDepth 20000 in
theorem gX7_finish_X2_letArriveUpTo : GoodIn wsX7_finish (wsV RX7 71 RX2 yX2_letArriveUpTo wsX2_letArriveUpTo) := goodIn_app (goodIn_of _ (by decide +kernel)) ggX7_finish_X2_letArriveUpTo
set_option maxRecDepth 20000 in
theorem ggX7_finish_X7_accept : GoodIn wsX7_finish wsX7_accept := goodIn_r _ [171, 172, 1, 2, 173, 174, 175, 176, 177, 178, 179, 180, 181, 182, 183, 184, 14, 15, 9, 16, 17, 18, 19, 20, 21, 22, 23, 24, 25, 26, 27, 28, 29, 11, 30, 31, 32, 33, 34, 35, 36, 37, 38, 39, 40, 41, 42, 43, 44, 45, 46, 47, 48, 49, 50, 51, 52, 53, 54, 55, 56, 57, 58, 59, 60, 61, 62, 63, 64, 65, 66, 67, 68, 69, 70, 71, 72, 73, 74, 75, 76, 13, 185, 186, 187, 188, 189, 190, 224, 225, 191, 192, 193, 194, 195, 196, 197, 198, 199, 200, 201, 202, 207, 208, 209, 210, 211, 212, 213, 214, 215, 216, 217, 218, 203, 204, 205, 206, 219, 220, 221, 222, 223] (by decide +kernel) (by decide +kernel)
set_option maxRecDepth 20000 in
theorem gX7_finish_X7_accept : GoodIn wsX7_finish (wsV RX7 55 RX7 yX7_accept wsX7_accept) := goodIn_app (goodIn_of _ (by decide +kernel)) ggX7_finish_X7_accept
theorem dX7_finish_0 : decode cX7_finish 0 = .ok (.aload_n 0, 1) := by decide +kernel
theorem dX7_finish_1 : decode cX7_finish 1 = .ok (.getfield 12, 3) := by decide +kernel
theorem dX7_finish_4 : decode cX7_finish 4 = .ok (.invokevirtual 66, 3) := by decide +kernel
theorem dX7_finish_7 : decode cX7_finish 7 = .ok (.ifCond .eq 6, 3) := by decide +kernel
theorem dX7_finish_10 : decode cX7_finish 10 = .ok (.bipush (-5), 2) := by decide +kernel
theorem dX7_finish_12 : decode cX7_finish 12 = .ok (.ireturn, 1) := by decide +kernel
theorem dX7_finish_13 : decode cX7_finish 13 = .ok (.aload_n 0, 1) := by decide +kernel
theorem dX7_finish_14 : decode cX7_finish 14 = .ok (.getfield 16, 3) := by decide +kernel
theorem dX7_finish_17 : decode cX7_finish 17 = .ok (.aload_n 0, 1) := by decide +kernel
theorem dX7_finish_18 : decode cX7_finish 18 = .ok (.getfield 12, 3) := by decide +kernel
theorem dX7_finish_21 : decode cX7_finish 21 = .ok (.invokevirtual 40, 3) := by decide +kernel
theorem dX7_finish_24 : decode cX7_finish 24 = .ok (.aload_n 0, 1) := by decide +kernel
theorem dX7_finish_25 : decode cX7_finish 25 = .ok (.getfield 16, 3) := by decide +kernel
theorem dX7_finish_28 : decode cX7_finish 28 = .ok (.ldc 70, 2) := by decide +kernel
theorem dX7_finish_30 : decode cX7_finish 30 = .ok (.invokevirtual 71, 3) := by decide +kernel
theorem dX7_finish_33 : decode cX7_finish 33 = .ok (.aload_n 0, 1) := by decide +kernel
theorem dX7_finish_34 : decode cX7_finish 34 = .ok (.getfield 16, 3) := by decide +kernel
theorem dX7_finish_37 : decode cX7_finish 37 = .ok (.getfield 74, 3) := by decide +kernel
theorem dX7_finish_40 : decode cX7_finish 40 = .ok (.ldc 78, 2) := by decide +kernel
theorem dX7_finish_42 : decode cX7_finish 42 = .ok (.if_icmp .le 6, 3) := by decide +kernel
theorem dX7_finish_45 : decode cX7_finish 45 = .ok (.bipush (-3), 2) := by decide +kernel
theorem dX7_finish_47 : decode cX7_finish 47 = .ok (.ireturn, 1) := by decide +kernel
theorem dX7_finish_48 : decode cX7_finish 48 = .ok (.aload_n 0, 1) := by decide +kernel
theorem dX7_finish_49 : decode cX7_finish 49 = .ok (.aload_n 0, 1) := by decide +kernel
theorem dX7_finish_50 : decode cX7_finish 50 = .ok (.getfield 16, 3) := by decide +kernel
theorem dX7_finish_53 : decode cX7_finish 53 = .ok (.getfield 74, 3) := by decide +kernel
theorem dX7_finish_56 : decode cX7_finish 56 = .ok (.aload_n 0, 1) := by decide +kernel
theorem dX7_finish_57 : decode cX7_finish 57 = .ok (.getfield 12, 3) := by decide +kernel
theorem dX7_finish_60 : decode cX7_finish 60 = .ok (.getfield 74, 3) := by decide +kernel
theorem dX7_finish_63 : decode cX7_finish 63 = .ok (.isub, 1) := by decide +kernel
theorem dX7_finish_64 : decode cX7_finish 64 = .ok (.invokevirtual 55, 3) := by decide +kernel
theorem dX7_finish_67 : decode cX7_finish 67 = .ok (.ireturn, 1) := by decide +kernel
set_option maxRecDepth 20000 in
theorem ggX7_setDelay_X2_copyFrom : GoodIn wsX7_setDelay wsX2_copyFrom := goodIn_r _ [7, 8, 9, 10, 11, 12, 13, 14, 15, 16, 17, 18, 19, 20, 21, 22, 23, 24, 25, 26, 27, 28, 29, 30, 31, 32, 33, 34, 35, 36, 37, 38, 39, 40, 41, 42, 43, 44, 45, 46, 47, 48, 49, 50, 51, 52, 53, 54, 55, 56, 57, 58, 59, 60, 61, 62, 63, 64, 65, 66, 67, 68, 102, 103, 104, 105, 106, 107, 108, 109, 110, 111, 112, 113, 114, 115, 116, 117, 118, 119, 120, 121, 122, 123, 124, 125, 126, 127, 128, 129, 130, 131, 132, 133, 134] (by decide +kernel) (by decide +kernel)
set_option maxRecDepth 20000 in
theorem gX7_setDelay_X2_copyFrom : GoodIn wsX7_setDelay (wsV RX7 40 RX2 yX2_copyFrom wsX2_copyFrom) := goodIn_app (goodIn_of _ (by decide +kernel)) ggX7_setDelay_X2_copyFrom
set_option maxRecDepth 20000 in
theorem ggX7_setDelay_X2_changeDelay : GoodIn wsX7_setDelay wsX2_changeDelay := goodIn_r _ [72, 18, 73, 74, 75, 76, 6, 77, 8, 102, 103, 104, 105, 106, 107, 108, 109, 110, 111, 112, 113, 114, 115, 116, 117, 118, 119, 120, 121, 122, 123] (by decide +kernel) (by decide +kernel)
set_option maxRecDepth 20000 in
theorem gX7_setDelay_X2_changeDelay : GoodIn wsX7_setDelay (wsV RX7 79 RX2 yX2_changeDelay wsX2_changeDelay) := goodIn_app (goodIn_of _ (by decide +kernel)) ggX7_setDelay_X2_changeDelay
set_option maxRecDepth 20000 in
theorem ggX7_setDelay_X7_accept : GoodIn wsX7_setDelay wsX7_accept := goodIn_r _ [82, 83, 2, 1, 84, 85, 86, 87, 88, 89, 90, 91, 92, 93, 94, 95, 4, 5, 6, 7, 8, 9, 10, 11, 12, 13, 14, 15, 16, 17, 18, 19, 20, 21, 22, 23, 24, 25, 26, 27, 28, 29, 30, 31, 32, 33, 34, 35, 36, 37, 38, 39, 40, 41, 42, 43, 44, 45, 46, 47, 48, 49, 50, 51, 52, 53, 54, 55, 56, 57, 58, 59, 60, 61, 62, 63, 64, 65, 66, 67, 68, 3, 96, 97, 98, 99, 100, 101, 135, 136, 102, 103, 104, 105, 106, 107, 108, 109, 110, 111, 112, 113, 114, 115, 116, 117, 118, 119, 120, 121, 122, 123, 124, 125, 126, 127, 128, 129, 130, 131, 132, 133, 134] (by decide +kernel) (by decide +kernel)
set_option maxRecDepth 20000 in
theorem gX7_setDelay_X7_accept : GoodIn wsX7_setDelay (wsV RX7 55 RX7 yX7_accept wsX7_accept) := goodIn_app (goodIn_of _ (by decide +kernel)) ggX7_setDelay_X7_accept
theorem dX7_setDelay_0 : decode cX7_setDelay 0 = .ok (.aload_n 0, 1) := by decide +kernel
theorem dX7_setDelay_1 : decode cX7_setDelay 1 = .ok (.getfield 16, 3) := by decide +kernel
theorem dX7_setDelay_4 : decode cX7_setDelay 4 = .ok (.aload_n 0, 1) := by decide +kernel
theorem dX7_setDelay_5 : decode cX7_setDelay 5 = .ok (.getfield 12, 3) := by decide +kernel
theorem dX7_setDelay_8 : decode cX7_setDelay 8 = .ok (.invokevirtual 40, 3) := by decide +kernel
theorem dX7_setDelay_11 : decode cX7_setDelay 11 = .ok (.aload_n 0, 1) := by decide +kernel
theorem dX7_setDelay_12 : decode cX7_setDelay 12 = .ok (.aload_n 0, 1) := by decide +kernel
theorem dX7_setDelay_13 : decode cX7_setDelay 13 = .ok (.getfield 16, 3) := by decide +kernel
theorem dX7_setDelay_16 : decode cX7_setDelay 16 = .ok (.iload_n 1, 1) := by decide +kernel
theorem dX7_setDelay_17 : decode cX7_setDelay 17 = .ok (.iload_n 2, 1) := by decide +kernel
theorem dX7_setDelay_18 : decode cX7_setDelay 18 = .ok (.iload_n 3, 1) := by decide +kernel
theorem dX7_setDelay_19 : decode cX7_setDelay 19 = .ok (.invokevirtual 79, 3) := by decide +kernel
theorem dX7_setDelay_22 : decode cX7_setDelay 22 = .ok (.invokevirtual 55, 3) := by decide +kernel
theorem dX7_setDelay_25 : decode cX7_setDelay 25 = .ok (.ireturn, 1) := by decide +kernel
set_option maxRecDepth 20000 in
theorem ggX7_set_X2_copyFrom : GoodIn wsX7_set wsX2_copyFrom := goodIn_r _ [8, 9, 10, 11, 12, 13, 14, 15, 16, 17, 18, 19, 20, 21, 22, 23, 24, 25, 26, 27, 28, 29, 30, 31, 32, 33, 34, 35, 36, 37, 38, 39, 40, 41, 42, 43, 44, 45, 46, 47, 48, 49, 50, 51, 52, 53, 54, 55, 56, 57, 58, 59, 60, 61, 62, 63, 64, 65, 66, 67, 68, 69, 94, 95, 96, 97, 98, 99, 100, 101, 102, 103, 104, 105, 106, 107, 108, 109, 110, 111, 112, 113, 114, 115, 116, 117, 118, 119, 120, 121, 122, 123, 124, 125, 126] (by decide +kernel) (by decide +kernel)
set_option maxRecDepth 20000 in
theorem gX7_set_X2_copyFrom : GoodIn wsX7_set (wsV RX7 40 RX2 yX2_copyFrom wsX2_copyFrom) := goodIn_app (goodIn_of _ (by decide +kernel)) ggX7_set_X2_copyFrom
set_option maxRecDepth 20000 in
theorem ggX7_set_X7_accept : GoodIn wsX7_set wsX7_accept := goodIn_r _ [74, 75, 1, 3, 76, 77, 78, 79, 80, 81, 82, 83, 84, 85, 86, 87, 5, 6, 7, 8, 9, 10, 11, 12, 13, 14, 15, 16, 17, 18, 19, 20, 21, 22, 23, 24, 25, 26, 27, 28, 29, 30, 31, 32, 33, 34, 35, 36, 37, 38, 39, 40, 41, 42, 43, 44, 45, 46, 47, 48, 49, 50, 51, 52, 53, 54, 55, 56, 57, 58, 59, 60, 61, 62, 63, 64, 65, 66, 67, 68, 69, 4, 88, 89, 90, 91, 92, 93, 127, 128, 94, 95, 96, 97, 98, 99, 100, 101, 102, 103, 104, 105, 106, 107, 108, 109, 110, 111, 112, 113, 114, 115, 116, 117, 118, 119, 120, 121, 122, 123, 124, 125, 126] (by decide +kernel) (by decide +kernel)
set_option maxRecDepth 20000 in
theorem gX7_set_X7_accept : GoodIn wsX7_set (wsV RX7 55 RX7 yX7_accept wsX7_accept) := goodIn_app (goodIn_of _ (by decide +kernel)) ggX7_set_X7_accept
theorem dX7_set_0 : decode cX7_set 0 = .ok (.iload_n 1, 1) := by decide +kernel
theorem dX7_set_1 : decode cX7_set 1 = .ok (.ifCond .lt 8, 3) := by decide +kernel
theorem dX7_set_4 : decode cX7_set 4 = .ok (.iload_n 1, 1) := by decide +kernel
theorem dX7_set_5 : decode cX7_set 5 = .ok (.iconst 3, 1) := by decide +kernel
theorem dX7_set_6 : decode cX7_set 6 = .ok (.if_icmp .lt 5, 3) := by decide +kernel
theorem dX7_set_9 : decode cX7_set 9 = .ok (.iconst (-1), 1) := by decide +kernel
theorem dX7_set_10 : decode cX7_set 10 = .ok (.ireturn, 1) := by decide +kernel
theorem dX7_set_11 : decode cX7_set 11 = .ok (.iload_n 1, 1) := by decide +kernel
theorem dX7_set_12 : decode cX7_set 12 = .ok (.iconst 2, 1) := by decide +kernel
theorem dX7_set_13 : decode cX7_set 13 = .ok (.if_icmp .ne 7, 3) := by decide +kernel
theorem dX7_set_16 : decode cX7_set 16 = .ok (.iconst 1, 1) := by decide +kernel
theorem dX7_set_17 : decode cX7_set 17 = .ok (.goto 5, 3) := by decide +kernel
theorem dX7_set_20 : decode cX7_set 20 = .ok (.bipush 20, 2) := by decide +kernel
theorem dX7_set_22 : decode cX7_set 22 = .ok (.istore_n 3, 1) := by decide +kernel
theorem dX7_set_23 : decode cX7_set 23 = .ok (.iload_n 2, 1) := by decide +kernel
theorem dX7_set_24 : decode cX7_set 24 = .ok (.ifCond .lt 8, 3) := by decide +kernel
theorem dX7_set_27 : decode cX7_set 27 = .ok (.iload_n 2, 1) := by decide +kernel
theorem dX7_set_28 : decode cX7_set 28 = .ok (.iload_n 3, 1) := by decide +kernel
theorem dX7_set_29 : decode cX7_set 29 = .ok (.if_icmp .le 6, 3) := by decide +kernel
theorem dX7_set_32 : decode cX7_set 32 = .ok (.bipush (-2), 2) := by decide +kernel
theorem dX7_set_34 : decode cX7_set 34 = .ok (.ireturn, 1) := by decide +kernel
theorem dX7_set_35 : decode cX7_set 35 = .ok (.aload_n 0, 1) := by decide +kernel
theorem dX7_set_36 : decode cX7_set 36 = .ok (.getfield 12, 3) := by decide +kernel
theorem dX7_set_39 : decode cX7_set 39 = .ok (.getfield 83, 3) := by decide +kernel
theorem dX7_set_42 : decode cX7_set 42 = .ok (.iload_n 1, 1) := by decide +kernel
theorem dX7_set_43 : decode cX7_set 43 = .ok (.iaload, 1) := by decide +kernel
theorem dX7_set_44 : decode cX7_set 44 = .ok (.istore 4, 2) := by decide +kernel
theorem dX7_set_46 : decode cX7_set 46 = .ok (.iload 4, 2) := by decide +kernel
theorem dX7_set_48 : decode cX7_set 48 = .ok (.iload_n 2, 1) := by decide +kernel
theorem dX7_set_49 : decode cX7_set 49 = .ok (.if_icmp .ne 6, 3) := by decide +kernel
theorem dX7_set_52 : decode cX7_set 52 = .ok (.bipush (-5), 2) := by decide +kernel
theorem dX7_set_54 : decode cX7_set 54 = .ok (.ireturn, 1) := by decide +kernel
theorem dX7_set_55 : decode cX7_set 55 = .ok (.aload_n 0, 1) := by decide +kernel
theorem dX7_set_56 : decode cX7_set 56 = .ok (.getfield 16, 3) := by decide +kernel
theorem dX7_set_59 : decode cX7_set 59 = .ok (.aload_n 0, 1) := by decide +kernel
theorem dX7_set_60 : decode cX7_set 60 = .ok (.getfield 12, 3) := by decide +kernel
theorem dX7_set_63 : decode cX7_set 63 = .ok (.invokevirtual 40, 3) := by decide +kernel
theorem dX7_set_66 : decode cX7_set 66 = .ok (.aload_n 0, 1) := by decide +kernel
theorem dX7_set_67 : decode cX7_set 67 = .ok (.getfield 16, 3) := by decide +kernel
theorem dX7_set_70 : decode cX7_set 70 = .ok (.getfield 83, 3) := by decide +kernel
theorem dX7_set_73 : decode cX7_set 73 = .ok (.iload_n 1, 1) := by decide +kernel
theorem dX7_set_74 : decode cX7_set 74 = .ok (.iload_n 2, 1) := by decide +kernel
theorem dX7_set_75 : decode cX7_set 75 = .ok (.iastore, 1) := by decide +kernel
theorem dX7_set_76 : decode cX7_set 76 = .ok (.aload_n 0, 1) := by decide +kernel
theorem dX7_set_77 : decode cX7_set 77 = .ok (.iload 4, 2) := by decide +kernel
theorem dX7_set_79 : decode cX7_set 79 = .ok (.invokevirtual 55, 3) := by decide +kernel
theorem dX7_set_82 : decode cX7_set 82 = .ok (.ireturn, 1) := by decide +kernel
set_option maxRecDepth 20000 in
theorem ggX7_type_X6_append : GoodIn wsX7_type wsX6_append := goodIn_r _ [6, 7, 8, 15, 16, 17, 18, 19, 20, 21] (by decide +kernel) (by decide +kernel)
set_option maxRecDepth 20000 in
theorem gX7_type_X6_append : GoodIn wsX7_type (wsV RX7 87 RX6 yX6_append wsX6_append) := goodIn_app (goodIn_of _ (by decide +kernel)) ggX7_type_X6_append
theorem dX7_type_0 : decode cX7_type 0 = .ok (.aload_n 0, 1) := by decide +kernel
theorem dX7_type_1 : decode cX7_type 1 = .ok (.getfield 36, 3) := by decide +kernel
theorem dX7_type_4 : decode cX7_type 4 = .ok (.iload_n 1, 1) := by decide +kernel
theorem dX7_type_5 : decode cX7_type 5 = .ok (.invokevirtual 87, 3) := by decide +kernel
theorem dX7_type_8 : decode cX7_type 8 = .ok (.ireturn, 1) := by decide +kernel
theorem dX7_clearText_0 : decode cX7_clearText 0 = .ok (.aload_n 0, 1) := by decide +kernel
theorem dX7_clearText_1 : decode cX7_clearText 1 = .ok (.getfield 36, 3) := by decide +kernel
theorem dX7_clearText_4 : decode cX7_clearText 4 = .ok (.getfield 91, 3) := by decide +kernel
theorem dX7_clearText_7 : decode cX7_clearText 7 = .ok (.istore_n 1, 1) := by decide +kernel
theorem dX7_clearText_8 : decode cX7_clearText 8 = .ok (.aload_n 0, 1) := by decide +kernel
theorem dX7_clearText_9 : decode cX7_clearText 9 = .ok (.getfield 36, 3) := by decide +kernel
theorem dX7_clearText_12 : decode cX7_clearText 12 = .ok (.iconst 0, 1) := by decide +kernel
theorem dX7_clearText_13 : decode cX7_clearText 13 = .ok (.putfield 91, 3) := by decide +kernel
theorem dX7_clearText_16 : decode cX7_clearText 16 = .ok (.iload_n 1, 1) := by decide +kernel
theorem dX7_clearText_17 : decode cX7_clearText 17 = .ok (.ireturn, 1) := by decide +kernel
set_option maxRecDepth 20000 in
theorem ggX7_perform_X6_readOrders : GoodIn wsX7_perform wsX6_readOrders := goodIn_r _ [12, 13, 14, 15, 16, 17, 18, 11, 19, 20, 21, 22, 23, 24, 25, 26, 27, 28, 29, 30, 31, 32, 33, 34, 35, 36, 37, 38, 39, 40, 41, 42, 43, 44, 45, 46, 47, 48, 49, 50, 51, 252, 253, 254, 255, 256, 257, 258] (by decide +kernel) (by decide +kernel)
set_option maxRecDepth 20000 in
theorem gX7_perform_X6_readOrders : GoodIn wsX7_perform (wsV RX7 94 RX6 yX6_readOrders wsX6_readOrders) := goodIn_app (goodIn_of _ (by decide +kernel)) ggX7_perform_X6_readOrders
set_option maxRecDepth 20000 in
theorem ggX7_perform_X2_copyFrom : GoodIn wsX7_perform wsX2_copyFrom := goodIn_r _ [56, 57, 58, 59, 60, 61, 62, 63, 64, 65, 66, 67, 68, 69, 70, 71, 72, 73, 74, 75, 76, 77, 78, 79, 80, 81, 82, 83, 84, 85, 86, 87, 88, 89, 90, 91, 92, 93, 94, 95, 96, 97, 98, 99, 100, 101, 102, 103, 104, 105, 106, 107, 108, 109, 110, 111, 112, 113, 114, 115, 116, 117, 259, 260, 261, 262, 263, 264, 265, 266, 267, 268, 269, 270, 271, 272, 273, 274, 275, 276, 277, 278, 279, 280, 281, 282, 283, 284, 285, 286, 287, 288, 289, 290, 291] (by decide +kernel) (by decide +kernel)
set_option maxRecDepth 20000 in
theorem gX7_perform_X2_copyFrom : GoodIn wsX7_perform (wsV RX7 40 RX2 yX2_copyFrom wsX2_copyFrom) := goodIn_app (goodIn_of _ (by decide +kernel)) ggX7_perform_X2_copyFrom
set_option maxRecDepth 20000 in
theorem ggX7_perform_X2_addWord : GoodIn wsX7_perform wsX2_addWord := goodIn_r _ [121, 69, 122, 67, 123, 124, 125, 126, 92, 127, 94, 95, 128, 129, 130, 55, 131, 59, 72, 60, 132, 133, 134, 135, 62, 136, 137, 138, 139, 140, 141, 142, 143, 144, 70, 58, 145, 146, 147, 148, 149, 100, 150, 103, 104, 102, 106, 151, 152, 153, 154, 155, 259, 260, 261, 262, 263, 264, 265, 266, 267, 268, 269, 270, 281, 282, 271, 272, 273, 274, 275, 276, 277, 278, 279, 280, 283, 284, 285, 286] (by decide +kernel) (by decide +kernel)
set_option maxRecDepth 20000 in
theorem gX7_perform_X2_addWord : GoodIn wsX7_perform (wsV RX7 59 RX2 yX2_addWord wsX2_addWord) := goodIn_app (goodIn_of _ (by decide +kernel)) ggX7_perform_X2_addWord
set_option maxRecDepth 20000 in
theorem ggX7_perform_X2_passTicks : GoodIn wsX7_perform wsX2_passTicks := goodIn_r _ [159, 58, 160, 71, 161, 162, 163, 164, 55, 165, 70, 61, 67, 166, 167, 168, 169, 170, 171, 172, 173, 174, 100, 175, 104, 102, 176, 177, 178, 179, 106, 180, 181, 182, 183, 184, 185, 186, 187, 188, 189, 190, 191, 103, 192, 193, 194, 195, 57, 196, 197, 198, 199, 200, 62, 68, 201, 123, 202, 203, 204, 205, 206, 145, 147, 148, 149, 150, 207, 208, 209, 210, 72, 211, 212, 213, 110, 214, 116, 112, 114, 115, 117, 215, 216, 217, 218, 140, 141, 142, 143, 144, 146, 151, 152, 153, 154, 155, 219, 220, 221, 222, 223, 128, 129, 130, 131, 69, 59, 60, 132, 133, 134, 135, 122, 136, 137, 138, 92, 139, 94, 95, 259, 260, 261, 262, 263, 264, 265, 266, 267, 268, 269, 270, 287, 288, 289, 290, 291, 271, 272, 273, 274, 275, 276, 277, 278, 279, 280, 283, 284, 285, 286, 281, 282] (by decide +kernel) (by decide +kernel)
set_option maxRecDepth 20000 in
theorem gX7_perform_X2_passTicks : GoodIn wsX7_perform (wsV RX7 63 RX2 yX2_passTicks wsX2_passTicks) := goodIn_app (goodIn_of _ (by decide +kernel)) ggX7_perform_X2_passTicks
set_option maxRecDepth 20000 in
theorem ggX7_perform_X2_changeDelay : GoodIn wsX7_perform wsX2_changeDelay := goodIn_r _ [227, 67, 145, 192, 193, 194, 55, 195, 57, 259, 260, 261, 262, 263, 264, 265, 266, 267, 268, 269, 270, 271, 272, 273, 274, 275, 276, 277, 278, 279, 280] (by decide +kernel) (by decide +kernel)
set_option maxRecDepth 20000 in
theorem gX7_perform_X2_changeDelay : GoodIn wsX7_perform (wsV RX7 79 RX2 yX2_changeDelay wsX2_changeDelay) := goodIn_app (goodIn_of _ (by decide +kernel)) ggX7_perform_X2_changeDelay
set_option maxRecDepth 20000 in
theorem ggX7_perform_X7_accept : GoodIn wsX7_perform wsX7_accept := goodIn_r _ [232, 233, 3, 2, 234, 235, 236, 237, 238, 239, 240, 241, 242, 243, 244, 245, 53, 54, 55, 56, 57, 58, 59, 60, 61, 62, 63, 64, 65, 66, 67, 68, 69, 70, 71, 72, 73, 74, 75, 76, 77, 78, 79, 80, 81, 82, 83, 84, 85, 86, 87, 88, 89, 90, 91, 92, 93, 94, 95, 96, 97, 98, 99, 100, 101, 102, 103, 104, 105, 106, 107, 108, 109, 110, 111, 112, 113, 114, 115, 116, 117, 52, 246, 247, 248, 249, 250, 251, 292, 293, 259, 260, 261, 262, 263, 264, 265, 266, 267, 268, 269, 270, 271, 272, 273, 274, 275, 276, 277, 278, 279, 280, 281, 282, 283, 284, 285, 286, 287, 288, 289, 290, 291] (by decide +kernel) (by decide +kernel)
set_option maxRecDepth 20000 in
theorem gX7_perform_X7_accept : GoodIn wsX7_perform (wsV RX7 55 RX7 yX7_accept wsX7_accept) := goodIn_app (goodIn_of _ (by decide +kernel)) ggX7_perform_X7_accept
theorem dX7_perform_0 : decode cX7_perform 0 = .ok (.aload_n 0, 1) := by decide +kernel
theorem dX7_perform_1 : decode cX7_perform 1 = .ok (.getfield 36, 3) := by decide +kernel
theorem dX7_perform_4 : decode cX7_perform 4 = .ok (.invokevirtual 94, 3) := by decide +kernel
theorem dX7_perform_7 : decode cX7_perform 7 = .ok (.istore_n 1, 1) := by decide +kernel
theorem dX7_perform_8 : decode cX7_perform 8 = .ok (.iload_n 1, 1) := by decide +kernel
theorem dX7_perform_9 : decode cX7_perform 9 = .ok (.iconst (-1), 1) := by decide +kernel
theorem dX7_perform_10 : decode cX7_perform 10 = .ok (.if_icmp .eq 8, 3) := by decide +kernel
theorem dX7_perform_13 : decode cX7_perform 13 = .ok (.bipush (-100), 2) := by decide +kernel
theorem dX7_perform_15 : decode cX7_perform 15 = .ok (.iload_n 1, 1) := by decide +kernel
theorem dX7_perform_16 : decode cX7_perform 16 = .ok (.isub, 1) := by decide +kernel
theorem dX7_perform_17 : decode cX7_perform 17 = .ok (.ireturn, 1) := by decide +kernel
theorem dX7_perform_18 : decode cX7_perform 18 = .ok (.aload_n 0, 1) := by decide +kernel
theorem dX7_perform_19 : decode cX7_perform 19 = .ok (.getfield 16, 3) := by decide +kernel
theorem dX7_perform_22 : decode cX7_perform 22 = .ok (.aload_n 0, 1) := by decide +kernel
theorem dX7_perform_23 : decode cX7_perform 23 = .ok (.getfield 12, 3) := by decide +kernel
theorem dX7_perform_26 : decode cX7_perform 26 = .ok (.invokevirtual 40, 3) := by decide +kernel
theorem dX7_perform_29 : decode cX7_perform 29 = .ok (.iconst 0, 1) := by decide +kernel
theorem dX7_perform_30 : decode cX7_perform 30 = .ok (.istore_n 2, 1) := by decide +kernel
theorem dX7_perform_31 : decode cX7_perform 31 = .ok (.iload_n 2, 1) := by decide +kernel
theorem dX7_perform_32 : decode cX7_perform 32 = .ok (.aload_n 0, 1) := by decide +kernel
theorem dX7_perform_33 : decode cX7_perform 33 = .ok (.getfield 36, 3) := by decide +kernel
theorem dX7_perform_36 : decode cX7_perform 36 = .ok (.getfield 97, 3) := by decide +kernel
theorem dX7_perform_39 : decode cX7_perform 39 = .ok (.if_icmp .ge 228, 3) := by decide +kernel
theorem dX7_perform_42 : decode cX7_perform 42 = .ok (.aload_n 0, 1) := by decide +kernel
theorem dX7_perform_43 : decode cX7_perform 43 = .ok (.getfield 36, 3) := by decide +kernel
theorem dX7_perform_46 : decode cX7_perform 46 = .ok (.getfield 100, 3) := by decide +kernel
theorem dX7_perform_49 : decode cX7_perform 49 = .ok (.iload_n 2, 1) := by decide +kernel
theorem dX7_perform_50 : decode cX7_perform 50 = .ok (.iaload, 1) := by decide +kernel
theorem dX7_perform_51 : decode cX7_perform 51 = .ok (.lookupswitch 171 #[(46, 91), (97, 49), (98, 70), (107, 141), (114, 111)], 49) := by decide +kernel
theorem dX7_perform_100 : decode cX7_perform 100 = .ok (.aload_n 0, 1) := by decide +kernel
theorem dX7_perform_101 : decode cX7_perform 101 = .ok (.getfield 16, 3) := by decide +kernel
theorem dX7_perform_104 : decode cX7_perform 104 = .ok (.iconst 0, 1) := by decide +kernel
theorem dX7_perform_105 : decode cX7_perform 105 = .ok (.aload_n 0, 1) := by decide +kernel
theorem dX7_perform_106 : decode cX7_perform 106 = .ok (.getfield 36, 3) := by decide +kernel
theorem dX7_perform_109 : decode cX7_perform 109 = .ok (.getfield 103, 3) := by decide +kernel
theorem dX7_perform_112 : decode cX7_perform 112 = .ok (.iload_n 2, 1) := by decide +kernel
theorem dX7_perform_113 : decode cX7_perform 113 = .ok (.iaload, 1) := by decide +kernel
theorem dX7_perform_114 : decode cX7_perform 114 = .ok (.invokevirtual 59, 3) := by decide +kernel
theorem dX7_perform_117 : decode cX7_perform 117 = .ok (.istore_n 3, 1) := by decide +kernel
theorem dX7_perform_118 : decode cX7_perform 118 = .ok (.goto 131, 3) := by decide +kernel
theorem dX7_perform_121 : decode cX7_perform 121 = .ok (.aload_n 0, 1) := by decide +kernel
theorem dX7_perform_122 : decode cX7_perform 122 = .ok (.getfield 16, 3) := by decide +kernel
theorem dX7_perform_125 : decode cX7_perform 125 = .ok (.iconst 1, 1) := by decide +kernel
theorem dX7_perform_126 : decode cX7_perform 126 = .ok (.aload_n 0, 1) := by decide +kernel
theorem dX7_perform_127 : decode cX7_perform 127 = .ok (.getfield 36, 3) := by decide +kernel
theorem dX7_perform_130 : decode cX7_perform 130 = .ok (.getfield 103, 3) := by decide +kernel
theorem dX7_perform_133 : decode cX7_perform 133 = .ok (.iload_n 2, 1) := by decide +kernel
theorem dX7_perform_134 : decode cX7_perform 134 = .ok (.iaload, 1) := by decide +kernel
theorem dX7_perform_135 : decode cX7_perform 135 = .ok (.invokevirtual 59, 3) := by decide +kernel
theorem dX7_perform_138 : decode cX7_perform 138 = .ok (.istore_n 3, 1) := by decide +kernel
theorem dX7_perform_139 : decode cX7_perform 139 = .ok (.goto 110, 3) := by decide +kernel
theorem dX7_perform_142 : decode cX7_perform 142 = .ok (.aload_n 0, 1) := by decide +kernel
theorem dX7_perform_143 : decode cX7_perform 143 = .ok (.getfield 16, 3) := by decide +kernel
theorem dX7_perform_146 : decode cX7_perform 146 = .ok (.aload_n 0, 1) := by decide +kernel
theorem dX7_perform_147 : decode cX7_perform 147 = .ok (.getfield 36, 3) := by decide +kernel
theorem dX7_perform_150 : decode cX7_perform 150 = .ok (.getfield 103, 3) := by decide +kernel
theorem dX7_perform_153 : decode cX7_perform 153 = .ok (.iload_n 2, 1) := by decide +kernel
theorem dX7_perform_154 : decode cX7_perform 154 = .ok (.iaload, 1) := by decide +kernel
theorem dX7_perform_155 : decode cX7_perform 155 = .ok (.invokevirtual 63, 3) := by decide +kernel
theorem dX7_perform_158 : decode cX7_perform 158 = .ok (.istore_n 3, 1) := by decide +kernel
theorem dX7_perform_159 : decode cX7_perform 159 = .ok (.goto 90, 3) := by decide +kernel
theorem dX7_perform_162 : decode cX7_perform 162 = .ok (.aload_n 0, 1) := by decide +kernel
theorem dX7_perform_163 : decode cX7_perform 163 = .ok (.getfield 16, 3) := by decide +kernel
theorem dX7_perform_166 : decode cX7_perform 166 = .ok (.aload_n 0, 1) := by decide +kernel
theorem dX7_perform_167 : decode cX7_perform 167 = .ok (.getfield 36, 3) := by decide +kernel
theorem dX7_perform_170 : decode cX7_perform 170 = .ok (.getfield 106, 3) := by decide +kernel
theorem dX7_perform_173 : decode cX7_perform 173 = .ok (.iload_n 2, 1) := by decide +kernel
theorem dX7_perform_174 : decode cX7_perform 174 = .ok (.iaload, 1) := by decide +kernel
theorem dX7_perform_175 : decode cX7_perform 175 = .ok (.iconst 0, 1) := by decide +kernel
theorem dX7_perform_176 : decode cX7_perform 176 = .ok (.aload_n 0, 1) := by decide +kernel
theorem dX7_perform_177 : decode cX7_perform 177 = .ok (.getfield 36, 3) := by decide +kernel
theorem dX7_perform_180 : decode cX7_perform 180 = .ok (.getfield 103, 3) := by decide +kernel
theorem dX7_perform_183 : decode cX7_perform 183 = .ok (.iload_n 2, 1) := by decide +kernel
theorem dX7_perform_184 : decode cX7_perform 184 = .ok (.iaload, 1) := by decide +kernel
theorem dX7_perform_185 : decode cX7_perform 185 = .ok (.invokevirtual 79, 3) := by decide +kernel
theorem dX7_perform_188 : decode cX7_perform 188 = .ok (.istore_n 3, 1) := by decide +kernel
theorem dX7_perform_189 : decode cX7_perform 189 = .ok (.goto 60, 3) := by decide +kernel
theorem dX7_perform_192 : decode cX7_perform 192 = .ok (.aload_n 0, 1) := by decide +kernel
theorem dX7_perform_193 : decode cX7_perform 193 = .ok (.getfield 16, 3) := by decide +kernel
theorem dX7_perform_196 : decode cX7_perform 196 = .ok (.aload_n 0, 1) := by decide +kernel
theorem dX7_perform_197 : decode cX7_perform 197 = .ok (.getfield 36, 3) := by decide +kernel
theorem dX7_perform_200 : decode cX7_perform 200 = .ok (.getfield 106, 3) := by decide +kernel
theorem dX7_perform_203 : decode cX7_perform 203 = .ok (.iload_n 2, 1) := by decide +kernel
theorem dX7_perform_204 : decode cX7_perform 204 = .ok (.iaload, 1) := by decide +kernel
theorem dX7_perform_205 : decode cX7_perform 205 = .ok (.iconst 1, 1) := by decide +kernel
theorem dX7_perform_206 : decode cX7_perform 206 = .ok (.aload_n 0, 1) := by decide +kernel
theorem dX7_perform_207 : decode cX7_perform 207 = .ok (.getfield 36, 3) := by decide +kernel
theorem dX7_perform_210 : decode cX7_perform 210 = .ok (.getfield 103, 3) := by decide +kernel
theorem dX7_perform_213 : decode cX7_perform 213 = .ok (.iload_n 2, 1) := by decide +kernel
theorem dX7_perform_214 : decode cX7_perform 214 = .ok (.iaload, 1) := by decide +kernel
theorem dX7_perform_215 : decode cX7_perform 215 = .ok (.invokevirtual 79, 3) := by decide +kernel
theorem dX7_perform_218 : decode cX7_perform 218 = .ok (.istore_n 3, 1) := by decide +kernel
theorem dX7_perform_219 : decode cX7_perform 219 = .ok (.goto 30, 3) := by decide +kernel
theorem dX7_perform_222 : decode cX7_perform 222 = .ok (.aload_n 0, 1) := by decide +kernel
theorem dX7_perform_223 : decode cX7_perform 223 = .ok (.getfield 16, 3) := by decide +kernel
theorem dX7_perform_226 : decode cX7_perform 226 = .ok (.aload_n 0, 1) := by decide +kernel
theorem dX7_perform_227 : decode cX7_perform 227 = .ok (.getfield 36, 3) := by decide +kernel
theorem dX7_perform_230 : decode cX7_perform 230 = .ok (.getfield 106, 3) := by decide +kernel
theorem dX7_perform_233 : decode cX7_perform 233 = .ok (.iload_n 2, 1) := by decide +kernel
theorem dX7_perform_234 : decode cX7_perform 234 = .ok (.iaload, 1) := by decide +kernel
theorem dX7_perform_235 : decode cX7_perform 235 = .ok (.iconst 2, 1) := by decide +kernel
theorem dX7_perform_236 : decode cX7_perform 236 = .ok (.aload_n 0, 1) := by decide +kernel
theorem dX7_perform_237 : decode cX7_perform 237 = .ok (.getfield 36, 3) := by decide +kernel
theorem dX7_perform_240 : decode cX7_perform 240 = .ok (.getfield 103, 3) := by decide +kernel
theorem dX7_perform_243 : decode cX7_perform 243 = .ok (.iload_n 2, 1) := by decide +kernel
theorem dX7_perform_244 : decode cX7_perform 244 = .ok (.iaload, 1) := by decide +kernel
theorem dX7_perform_245 : decode cX7_perform 245 = .ok (.invokevirtual 79, 3) := by decide +kernel
theorem dX7_perform_248 : decode cX7_perform 248 = .ok (.istore_n 3, 1) := by decide +kernel
theorem dX7_perform_249 : decode cX7_perform 249 = .ok (.iload_n 3, 1) := by decide +kernel
theorem dX7_perform_250 : decode cX7_perform 250 = .ok (.ifCond .ge 11, 3) := by decide +kernel
theorem dX7_perform_253 : decode cX7_perform 253 = .ok (.iload_n 3, 1) := by decide +kernel
theorem dX7_perform_254 : decode cX7_perform 254 = .ok (.bipush (-5), 2) := by decide +kernel
theorem dX7_perform_256 : decode cX7_perform 256 = .ok (.if_icmp .eq 5, 3) := by decide +kernel
theorem dX7_perform_259 : decode cX7_perform 259 = .ok (.iload_n 3, 1) := by decide +kernel
theorem dX7_perform_260 : decode cX7_perform 260 = .ok (.ireturn, 1) := by decide +kernel
theorem dX7_perform_261 : decode cX7_perform 261 = .ok (.iinc 2 1, 3) := by decide +kernel
theorem dX7_perform_264 : decode cX7_perform 264 = .ok (.goto (-233), 3) := by decide +kernel
theorem dX7_perform_267 : decode cX7_perform 267 = .ok (.aload_n 0, 1) := by decide +kernel
theorem dX7_perform_268 : decode cX7_perform 268 = .ok (.aload_n 0, 1) := by decide +kernel
theorem dX7_perform_269 : decode cX7_perform 269 = .ok (.getfield 36, 3) := by decide +kernel
theorem dX7_perform_272 : decode cX7_perform 272 = .ok (.getfield 97, 3) := by decide +kernel
theorem dX7_perform_275 : decode cX7_perform 275 = .ok (.invokevirtual 55, 3) := by decide +kernel
theorem dX7_perform_278 : decode cX7_perform 278 = .ok (.ireturn, 1) := by decide +kernel
set_option maxRecDepth 20000 in
theorem ggX7_undo_X1_giveBack : GoodIn wsX7_undo wsX1_giveBack := goodIn_r _ [7, 8, 9, 10, 11, 12, 13, 14, 15, 16, 17, 18, 19, 20, 21, 22, 23, 24, 25, 26, 27, 28, 29, 30, 31, 32, 33, 34, 35, 36, 37, 38, 39, 40, 41, 42, 43, 44, 45, 46, 47, 48, 49, 50, 51, 52, 53, 54, 55, 56, 57, 58, 59, 60, 61, 62, 63, 64, 65, 66, 67, 68, 69, 70, 71, 72, 73, 74, 75, 82, 83, 84, 85, 86, 87, 88, 89, 90, 91, 92, 93, 94, 95, 96, 97, 98, 99, 100, 101, 102, 103, 104, 105, 106, 107, 108, 109, 110, 111, 112, 113, 114, 115, 116] (by decide +kernel) (by decide +kernel)
set_option maxRecDepth 20000 in
theorem gX7_undo_X1_giveBack : GoodIn wsX7_undo (wsV RX7 109 RX1 yX1_giveBack wsX1_giveBack) := goodIn_app (goodIn_of _ (by decide +kernel)) ggX7_undo_X1_giveBack
theorem dX7_undo_0 : decode cX7_undo 0 = .ok (.aload_n 0, 1) := by decide +kernel
theorem dX7_undo_1 : decode cX7_undo 1 = .ok (.getfield 29, 3) := by decide +kernel
theorem dX7_undo_4 : decode cX7_undo 4 = .ok (.aload_n 0, 1) := by decide +kernel
theorem dX7_undo_5 : decode cX7_undo 5 = .ok (.getfield 12, 3) := by decide +kernel
theorem dX7_undo_8 : decode cX7_undo 8 = .ok (.invokevirtual 109, 3) := by decide +kernel
theorem dX7_undo_11 : decode cX7_undo 11 = .ok (.ireturn, 1) := by decide +kernel
set_option maxRecDepth 20000 in
theorem ggX7_keep_X2_copyFrom : GoodIn wsX7_keep wsX2_copyFrom := goodIn_r _ [9, 10, 11, 12, 13, 14, 15, 16, 17, 18, 19, 20, 21, 22, 23, 24, 25, 26, 27, 28, 29, 30, 31, 32, 33, 34, 35, 36, 37, 38, 39, 40, 41, 42, 43, 44, 45, 46, 47, 48, 49, 50, 51, 52, 53, 54, 55, 56, 57, 58, 59, 60, 61, 62, 63, 64, 65, 66, 67, 68, 69, 70, 77, 78, 79, 80, 81, 82, 83, 84, 85, 86, 87, 88, 89, 90, 91, 92, 93, 94, 95, 96, 97, 98, 99, 100, 101, 102, 103, 104, 105, 106, 107, 108, 109] (by decide +kernel) (by decide +kernel)
set_option maxRecDepth 20000 in
theorem gX7_keep_X2_copyFrom : GoodIn wsX7_keep (wsV RX7 40 RX2 yX2_copyFrom wsX2_copyFrom) := goodIn_app (goodIn_of _ (by decide +kernel)) ggX7_keep_X2_copyFrom
theorem dX7_keep_0 : decode cX7_keep 0 = .ok (.aload_n 0, 1) := by decide +kernel
theorem dX7_keep_1 : decode cX7_keep 1 = .ok (.getfield 19, 3) := by decide +kernel
theorem dX7_keep_4 : decode cX7_keep 4 = .ok (.aload_n 0, 1) := by decide +kernel
theorem dX7_keep_5 : decode cX7_keep 5 = .ok (.getfield 12, 3) := by decide +kernel
theorem dX7_keep_8 : decode cX7_keep 8 = .ok (.invokevirtual 40, 3) := by decide +kernel
theorem dX7_keep_11 : decode cX7_keep 11 = .ok (.aload_n 0, 1) := by decide +kernel
theorem dX7_keep_12 : decode cX7_keep 12 = .ok (.iconst 1, 1) := by decide +kernel
theorem dX7_keep_13 : decode cX7_keep 13 = .ok (.putfield 22, 3) := by decide +kernel
theorem dX7_keep_16 : decode cX7_keep 16 = .ok (.aload_n 0, 1) := by decide +kernel
theorem dX7_keep_17 : decode cX7_keep 17 = .ok (.getfield 12, 3) := by decide +kernel
theorem dX7_keep_20 : decode cX7_keep 20 = .ok (.getfield 74, 3) := by decide +kernel
theorem dX7_keep_23 : decode cX7_keep 23 = .ok (.ireturn, 1) := by decide +kernel
set_option maxRecDepth 20000 in
theorem ggX7_restore_X2_copyFrom : GoodIn wsX7_restore wsX2_copyFrom := goodIn_r _ [9, 10, 11, 12, 13, 14, 15, 16, 17, 18, 19, 20, 21, 22, 23, 24, 25, 26, 27, 28, 29, 30, 31, 32, 33, 34, 35, 36, 37, 38, 39, 40, 41, 42, 43, 44, 45, 46, 47, 48, 49, 50, 51, 52, 53, 54, 55, 56, 57, 58, 59, 60, 61, 62, 63, 64, 65, 66, 67, 68, 69, 70, 96, 97, 98, 99, 100, 101, 102, 103, 104, 105, 106, 107, 108, 109, 110, 111, 112, 113, 114, 115, 116, 117, 118, 119, 120, 121, 122, 123, 124, 125, 126, 127, 128] (by decide +kernel) (by decide +kernel)
set_option maxRecDepth 20000 in
theorem gX7_restore_X2_copyFrom : GoodIn wsX7_restore (wsV RX7 40 RX2 yX2_copyFrom wsX2_copyFrom) := goodIn_app (goodIn_of _ (by decide +kernel)) ggX7_restore_X2_copyFrom
set_option maxRecDepth 20000 in
theorem ggX7_restore_X7_accept : GoodIn wsX7_restore wsX7_accept := goodIn_r _ [75, 76, 77, 2, 78, 79, 80, 81, 82, 83, 84, 85, 86, 87, 88, 89, 6, 7, 8, 9, 10, 11, 12, 13, 14, 15, 16, 17, 18, 19, 20, 21, 22, 23, 24, 25, 26, 27, 28, 29, 30, 31, 32, 33, 34, 35, 36, 37, 38, 39, 40, 41, 42, 43, 44, 45, 46, 47, 48, 49, 50, 51, 52, 53, 54, 55, 56, 57, 58, 59, 60, 61, 62, 63, 64, 65, 66, 67, 68, 69, 70, 5, 90, 91, 92, 93, 94, 95, 129, 130, 96, 97, 98, 99, 100, 101, 102, 103, 104, 105, 106, 107, 108, 109, 110, 111, 112, 113, 114, 115, 116, 117, 118, 119, 120, 121, 122, 123, 124, 125, 126, 127, 128] (by decide +kernel) (by decide +kernel)
set_option maxRecDepth 20000 in
theorem gX7_restore_X7_accept : GoodIn wsX7_restore (wsV RX7 55 RX7 yX7_accept wsX7_accept) := goodIn_app (goodIn_of _ (by decide +kernel)) ggX7_restore_X7_accept
theorem dX7_restore_0 : decode cX7_restore 0 = .ok (.aload_n 0, 1) := by decide +kernel
theorem dX7_restore_1 : decode cX7_restore 1 = .ok (.getfield 22, 3) := by decide +kernel
theorem dX7_restore_4 : decode cX7_restore 4 = .ok (.ifCond .ne 6, 3) := by decide +kernel
theorem dX7_restore_7 : decode cX7_restore 7 = .ok (.bipush (-5), 2) := by decide +kernel
theorem dX7_restore_9 : decode cX7_restore 9 = .ok (.ireturn, 1) := by decide +kernel
theorem dX7_restore_10 : decode cX7_restore 10 = .ok (.aload_n 0, 1) := by decide +kernel
theorem dX7_restore_11 : decode cX7_restore 11 = .ok (.getfield 16, 3) := by decide +kernel
theorem dX7_restore_14 : decode cX7_restore 14 = .ok (.aload_n 0, 1) := by decide +kernel
theorem dX7_restore_15 : decode cX7_restore 15 = .ok (.getfield 19, 3) := by decide +kernel
theorem dX7_restore_18 : decode cX7_restore 18 = .ok (.invokevirtual 40, 3) := by decide +kernel
theorem dX7_restore_21 : decode cX7_restore 21 = .ok (.aload_n 0, 1) := by decide +kernel
theorem dX7_restore_22 : decode cX7_restore 22 = .ok (.aload_n 0, 1) := by decide +kernel
theorem dX7_restore_23 : decode cX7_restore 23 = .ok (.getfield 19, 3) := by decide +kernel
theorem dX7_restore_26 : decode cX7_restore 26 = .ok (.getfield 74, 3) := by decide +kernel
theorem dX7_restore_29 : decode cX7_restore 29 = .ok (.invokevirtual 55, 3) := by decide +kernel
theorem dX7_restore_32 : decode cX7_restore 32 = .ok (.ireturn, 1) := by decide +kernel
set_option maxRecDepth 20000 in
theorem ggX7_link_X2_hasLink : GoodIn wsX7_link wsX2_hasLink := goodIn_r _ [8, 9, 31, 32, 33, 34, 35, 36, 37, 38, 39, 40, 41, 42] (by decide +kernel) (by decide +kernel)
set_option maxRecDepth 20000 in
theorem gX7_link_X2_hasLink : GoodIn wsX7_link (wsV RX7 113 RX2 yX2_hasLink wsX2_hasLink) := goodIn_app (goodIn_of _ (by decide +kernel)) ggX7_link_X2_hasLink
set_option maxRecDepth 20000 in
theorem ggX7_link_X3_tell : GoodIn wsX7_link wsX3_tell := goodIn_r _ [14, 15, 16, 17, 18, 19, 20, 21, 22, 23, 24, 43, 44, 45, 46, 47, 48, 49, 50, 51, 52] (by decide +kernel) (by decide +kernel)
set_option maxRecDepth 20000 in
theorem gX7_link_X3_tell : GoodIn wsX7_link (wsV RX7 121 RX3 yX3_tell wsX3_tell) := goodIn_app (goodIn_of _ (by decide +kernel)) ggX7_link_X3_tell
theorem dX7_link_0 : decode cX7_link 0 = .ok (.aload_n 0, 1) := by decide +kernel
theorem dX7_link_1 : decode cX7_link 1 = .ok (.getfield 12, 3) := by decide +kernel
theorem dX7_link_4 : decode cX7_link 4 = .ok (.iload_n 1, 1) := by decide +kernel
theorem dX7_link_5 : decode cX7_link 5 = .ok (.invokevirtual 113, 3) := by decide +kernel
theorem dX7_link_8 : decode cX7_link 8 = .ok (.ifCond .ne 5, 3) := by decide +kernel
theorem dX7_link_11 : decode cX7_link 11 = .ok (.iconst (-1), 1) := by decide +kernel
theorem dX7_link_12 : decode cX7_link 12 = .ok (.ireturn, 1) := by decide +kernel
theorem dX7_link_13 : decode cX7_link 13 = .ok (.aload_n 0, 1) := by decide +kernel
theorem dX7_link_14 : decode cX7_link 14 = .ok (.getfield 12, 3) := by decide +kernel
theorem dX7_link_17 : decode cX7_link 17 = .ok (.getfield 117, 3) := by decide +kernel
theorem dX7_link_20 : decode cX7_link 20 = .ok (.iload_n 1, 1) := by decide +kernel
theorem dX7_link_21 : decode cX7_link 21 = .ok (.aaload, 1) := by decide +kernel
theorem dX7_link_22 : decode cX7_link 22 = .ok (.iload_n 2, 1) := by decide +kernel
theorem dX7_link_23 : decode cX7_link 23 = .ok (.aload_n 0, 1) := by decide +kernel
theorem dX7_link_24 : decode cX7_link 24 = .ok (.getfield 12, 3) := by decide +kernel
theorem dX7_link_27 : decode cX7_link 27 = .ok (.getfield 83, 3) := by decide +kernel
theorem dX7_link_30 : decode cX7_link 30 = .ok (.iconst 0, 1) := by decide +kernel
theorem dX7_link_31 : decode cX7_link 31 = .ok (.iaload, 1) := by decide +kernel
theorem dX7_link_32 : decode cX7_link 32 = .ok (.invokevirtual 121, 3) := by decide +kernel
theorem dX7_link_35 : decode cX7_link 35 = .ok (.ireturn, 1) := by decide +kernel
theorem dX7_stage_0 : decode cX7_stage 0 = .ok (.iload_n 1, 1) := by decide +kernel
theorem dX7_stage_1 : decode cX7_stage 1 = .ok (.ifCond .lt 14, 3) := by decide +kernel
theorem dX7_stage_4 : decode cX7_stage 4 = .ok (.iload_n 1, 1) := by decide +kernel
theorem dX7_stage_5 : decode cX7_stage 5 = .ok (.aload_n 0, 1) := by decide +kernel
theorem dX7_stage_6 : decode cX7_stage 6 = .ok (.getfield 12, 3) := by decide +kernel
theorem dX7_stage_9 : decode cX7_stage 9 = .ok (.getfield 126, 3) := by decide +kernel
theorem dX7_stage_12 : decode cX7_stage 12 = .ok (.if_icmp .lt 5, 3) := by decide +kernel
theorem dX7_stage_15 : decode cX7_stage 15 = .ok (.iconst (-1), 1) := by decide +kernel
theorem dX7_stage_16 : decode cX7_stage 16 = .ok (.ireturn, 1) := by decide +kernel
theorem dX7_stage_17 : decode cX7_stage 17 = .ok (.aload_n 0, 1) := by decide +kernel
theorem dX7_stage_18 : decode cX7_stage 18 = .ok (.getfield 12, 3) := by decide +kernel
theorem dX7_stage_21 : decode cX7_stage 21 = .ok (.getfield 129, 3) := by decide +kernel
theorem dX7_stage_24 : decode cX7_stage 24 = .ok (.iload_n 1, 1) := by decide +kernel
theorem dX7_stage_25 : decode cX7_stage 25 = .ok (.iaload, 1) := by decide +kernel
theorem dX7_stage_26 : decode cX7_stage 26 = .ok (.istore_n 2, 1) := by decide +kernel
theorem dX7_stage_27 : decode cX7_stage 27 = .ok (.iload_n 2, 1) := by decide +kernel
theorem dX7_stage_28 : decode cX7_stage 28 = .ok (.iconst (-1), 1) := by decide +kernel
theorem dX7_stage_29 : decode cX7_stage 29 = .ok (.if_icmp .ne 8, 3) := by decide +kernel
theorem dX7_stage_32 : decode cX7_stage 32 = .ok (.bipush (-5), 2) := by decide +kernel
theorem dX7_stage_34 : decode cX7_stage 34 = .ok (.goto 4, 3) := by decide +kernel
theorem dX7_stage_37 : decode cX7_stage 37 = .ok (.iload_n 2, 1) := by decide +kernel
theorem dX7_stage_38 : decode cX7_stage 38 = .ok (.ireturn, 1) := by decide +kernel
set_option maxRecDepth 20000 in
theorem ggX7_waiting_X5_wordAt : GoodIn wsX7_waiting wsX5_wordAt := goodIn_r _ [7, 8, 9, 28, 29] (by decide +kernel) (by decide +kernel)
set_option maxRecDepth 20000 in
theorem gX7_waiting_X5_wordAt : GoodIn wsX7_waiting (wsV RX7 136 RX5 yX5_wordAt wsX5_wordAt) := goodIn_app (goodIn_of _ (by decide +kernel)) ggX7_waiting_X5_wordAt
theorem dX7_waiting_0 : decode cX7_waiting 0 = .ok (.iload_n 1, 1) := by decide +kernel
theorem dX7_waiting_1 : decode cX7_waiting 1 = .ok (.ifCond .lt 8, 3) := by decide +kernel
theorem dX7_waiting_4 : decode cX7_waiting 4 = .ok (.iload_n 1, 1) := by decide +kernel
theorem dX7_waiting_5 : decode cX7_waiting 5 = .ok (.iconst 2, 1) := by decide +kernel
theorem dX7_waiting_6 : decode cX7_waiting 6 = .ok (.if_icmp .lt 5, 3) := by decide +kernel
theorem dX7_waiting_9 : decode cX7_waiting 9 = .ok (.iconst (-1), 1) := by decide +kernel
theorem dX7_waiting_10 : decode cX7_waiting 10 = .ok (.ireturn, 1) := by decide +kernel
theorem dX7_waiting_11 : decode cX7_waiting 11 = .ok (.iload_n 2, 1) := by decide +kernel
theorem dX7_waiting_12 : decode cX7_waiting 12 = .ok (.ifCond .ge 6, 3) := by decide +kernel
theorem dX7_waiting_15 : decode cX7_waiting 15 = .ok (.bipush (-2), 2) := by decide +kernel
theorem dX7_waiting_17 : decode cX7_waiting 17 = .ok (.ireturn, 1) := by decide +kernel
theorem dX7_waiting_18 : decode cX7_waiting 18 = .ok (.aload_n 0, 1) := by decide +kernel
theorem dX7_waiting_19 : decode cX7_waiting 19 = .ok (.getfield 12, 3) := by decide +kernel
theorem dX7_waiting_22 : decode cX7_waiting 22 = .ok (.getfield 132, 3) := by decide +kernel
theorem dX7_waiting_25 : decode cX7_waiting 25 = .ok (.iload_n 1, 1) := by decide +kernel
theorem dX7_waiting_26 : decode cX7_waiting 26 = .ok (.aaload, 1) := by decide +kernel
theorem dX7_waiting_27 : decode cX7_waiting 27 = .ok (.iload_n 2, 1) := by decide +kernel
theorem dX7_waiting_28 : decode cX7_waiting 28 = .ok (.invokevirtual 136, 3) := by decide +kernel
theorem dX7_waiting_31 : decode cX7_waiting 31 = .ok (.istore_n 3, 1) := by decide +kernel
theorem dX7_waiting_32 : decode cX7_waiting 32 = .ok (.iload_n 3, 1) := by decide +kernel
theorem dX7_waiting_33 : decode cX7_waiting 33 = .ok (.iconst (-1), 1) := by decide +kernel
theorem dX7_waiting_34 : decode cX7_waiting 34 = .ok (.if_icmp .ne 8, 3) := by decide +kernel
theorem dX7_waiting_37 : decode cX7_waiting 37 = .ok (.bipush (-5), 2) := by decide +kernel
theorem dX7_waiting_39 : decode cX7_waiting 39 = .ok (.goto 4, 3) := by decide +kernel
theorem dX7_waiting_42 : decode cX7_waiting 42 = .ok (.iload_n 3, 1) := by decide +kernel
theorem dX7_waiting_43 : decode cX7_waiting 43 = .ok (.ireturn, 1) := by decide +kernel
set_option maxRecDepth 20000 in
theorem ggX7_noted_X4_tell : GoodIn wsX7_noted wsX4_tell := goodIn_r _ [7, 8, 9, 10, 11, 30, 31, 32, 33, 34] (by decide +kernel) (by decide +kernel)
set_option maxRecDepth 20000 in
theorem gX7_noted_X4_tell : GoodIn wsX7_noted (wsV RX7 145 RX4 yX4_tell wsX4_tell) := goodIn_app (goodIn_of _ (by decide +kernel)) ggX7_noted_X4_tell
theorem dX7_noted_0 : decode cX7_noted 0 = .ok (.iload_n 1, 1) := by decide +kernel
theorem dX7_noted_1 : decode cX7_noted 1 = .ok (.ifCond .lt 12, 3) := by decide +kernel
theorem dX7_noted_4 : decode cX7_noted 4 = .ok (.iload_n 2, 1) := by decide +kernel
theorem dX7_noted_5 : decode cX7_noted 5 = .ok (.ifCond .lt 8, 3) := by decide +kernel
theorem dX7_noted_8 : decode cX7_noted 8 = .ok (.iload_n 2, 1) := by decide +kernel
theorem dX7_noted_9 : decode cX7_noted 9 = .ok (.iconst 2, 1) := by decide +kernel
theorem dX7_noted_10 : decode cX7_noted 10 = .ok (.if_icmp .le 6, 3) := by decide +kernel
theorem dX7_noted_13 : decode cX7_noted 13 = .ok (.bipush (-2), 2) := by decide +kernel
theorem dX7_noted_15 : decode cX7_noted 15 = .ok (.ireturn, 1) := by decide +kernel
theorem dX7_noted_16 : decode cX7_noted 16 = .ok (.aload_n 0, 1) := by decide +kernel
theorem dX7_noted_17 : decode cX7_noted 17 = .ok (.getfield 12, 3) := by decide +kernel
theorem dX7_noted_20 : decode cX7_noted 20 = .ok (.getfield 141, 3) := by decide +kernel
theorem dX7_noted_23 : decode cX7_noted 23 = .ok (.iload_n 1, 1) := by decide +kernel
theorem dX7_noted_24 : decode cX7_noted 24 = .ok (.iload_n 2, 1) := by decide +kernel
theorem dX7_noted_25 : decode cX7_noted 25 = .ok (.invokevirtual 145, 3) := by decide +kernel
theorem dX7_noted_28 : decode cX7_noted 28 = .ok (.ireturn, 1) := by decide +kernel
set_option maxRecDepth 20000 in
theorem ggX7_total_X2_waitingWords : GoodIn wsX7_total wsX2_waitingWords := goodIn_r _ [21, 22, 23, 36, 37, 38, 39, 40, 41, 42, 43, 44, 45, 46, 47, 66, 67] (by decide +kernel) (by decide +kernel)
set_option maxRecDepth 20000 in
theorem gX7_total_X2_waitingWords : GoodIn wsX7_total (wsV RX7 52 RX2 yX2_waitingWords wsX2_waitingWords) := goodIn_app (goodIn_of _ (by decide +kernel)) ggX7_total_X2_waitingWords
set_option maxRecDepth 20000 in
theorem ggX7_total_X2_fullStages : GoodIn wsX7_total wsX2_fullStages := goodIn_r _ [27, 28, 29, 36, 37, 38, 39, 40, 41, 42, 43, 44, 45, 46, 47] (by decide +kernel) (by decide +kernel)
set_option maxRecDepth 20000 in
theorem gX7_total_X2_fullStages : GoodIn wsX7_total (wsV RX7 48 RX2 yX2_fullStages wsX2_fullStages) := goodIn_app (goodIn_of _ (by decide +kernel)) ggX7_total_X2_fullStages
theorem dX7_total_0 : decode cX7_total 0 = .ok (.iload_n 1, 1) := by decide +kernel
theorem dX7_total_1 : decode cX7_total 1 = .ok (.tableswitch 210 0 14 #[75, 83, 91, 99, 107, 118, 126, 137, 148, 156, 164, 174, 184, 194, 202], 75) := by decide +kernel
theorem dX7_total_76 : decode cX7_total 76 = .ok (.aload_n 0, 1) := by decide +kernel
theorem dX7_total_77 : decode cX7_total 77 = .ok (.getfield 12, 3) := by decide +kernel
theorem dX7_total_80 : decode cX7_total 80 = .ok (.getfield 126, 3) := by decide +kernel
theorem dX7_total_83 : decode cX7_total 83 = .ok (.ireturn, 1) := by decide +kernel
theorem dX7_total_84 : decode cX7_total 84 = .ok (.aload_n 0, 1) := by decide +kernel
theorem dX7_total_85 : decode cX7_total 85 = .ok (.getfield 12, 3) := by decide +kernel
theorem dX7_total_88 : decode cX7_total 88 = .ok (.getfield 74, 3) := by decide +kernel
theorem dX7_total_91 : decode cX7_total 91 = .ok (.ireturn, 1) := by decide +kernel
theorem dX7_total_92 : decode cX7_total 92 = .ok (.aload_n 0, 1) := by decide +kernel
theorem dX7_total_93 : decode cX7_total 93 = .ok (.getfield 12, 3) := by decide +kernel
theorem dX7_total_96 : decode cX7_total 96 = .ok (.invokevirtual 52, 3) := by decide +kernel
theorem dX7_total_99 : decode cX7_total 99 = .ok (.ireturn, 1) := by decide +kernel
theorem dX7_total_100 : decode cX7_total 100 = .ok (.aload_n 0, 1) := by decide +kernel
theorem dX7_total_101 : decode cX7_total 101 = .ok (.getfield 12, 3) := by decide +kernel
theorem dX7_total_104 : decode cX7_total 104 = .ok (.invokevirtual 48, 3) := by decide +kernel
theorem dX7_total_107 : decode cX7_total 107 = .ok (.ireturn, 1) := by decide +kernel
theorem dX7_total_108 : decode cX7_total 108 = .ok (.aload_n 0, 1) := by decide +kernel
theorem dX7_total_109 : decode cX7_total 109 = .ok (.getfield 12, 3) := by decide +kernel
theorem dX7_total_112 : decode cX7_total 112 = .ok (.getfield 148, 3) := by decide +kernel
theorem dX7_total_115 : decode cX7_total 115 = .ok (.getfield 152, 3) := by decide +kernel
theorem dX7_total_118 : decode cX7_total 118 = .ok (.ireturn, 1) := by decide +kernel
theorem dX7_total_119 : decode cX7_total 119 = .ok (.aload_n 0, 1) := by decide +kernel
theorem dX7_total_120 : decode cX7_total 120 = .ok (.getfield 12, 3) := by decide +kernel
theorem dX7_total_123 : decode cX7_total 123 = .ok (.getfield 157, 3) := by decide +kernel
theorem dX7_total_126 : decode cX7_total 126 = .ok (.ireturn, 1) := by decide +kernel
theorem dX7_total_127 : decode cX7_total 127 = .ok (.aload_n 0, 1) := by decide +kernel
theorem dX7_total_128 : decode cX7_total 128 = .ok (.getfield 12, 3) := by decide +kernel
theorem dX7_total_131 : decode cX7_total 131 = .ok (.getfield 141, 3) := by decide +kernel
theorem dX7_total_134 : decode cX7_total 134 = .ok (.getfield 160, 3) := by decide +kernel
theorem dX7_total_137 : decode cX7_total 137 = .ok (.ireturn, 1) := by decide +kernel
theorem dX7_total_138 : decode cX7_total 138 = .ok (.aload_n 0, 1) := by decide +kernel
theorem dX7_total_139 : decode cX7_total 139 = .ok (.getfield 12, 3) := by decide +kernel
theorem dX7_total_142 : decode cX7_total 142 = .ok (.getfield 141, 3) := by decide +kernel
theorem dX7_total_145 : decode cX7_total 145 = .ok (.getfield 161, 3) := by decide +kernel
theorem dX7_total_148 : decode cX7_total 148 = .ok (.ireturn, 1) := by decide +kernel
theorem dX7_total_149 : decode cX7_total 149 = .ok (.aload_n 0, 1) := by decide +kernel
theorem dX7_total_150 : decode cX7_total 150 = .ok (.getfield 12, 3) := by decide +kernel
theorem dX7_total_153 : decode cX7_total 153 = .ok (.getfield 164, 3) := by decide +kernel
theorem dX7_total_156 : decode cX7_total 156 = .ok (.ireturn, 1) := by decide +kernel
theorem dX7_total_157 : decode cX7_total 157 = .ok (.aload_n 0, 1) := by decide +kernel
theorem dX7_total_158 : decode cX7_total 158 = .ok (.getfield 12, 3) := by decide +kernel
theorem dX7_total_161 : decode cX7_total 161 = .ok (.getfield 167, 3) := by decide +kernel
theorem dX7_total_164 : decode cX7_total 164 = .ok (.ireturn, 1) := by decide +kernel
theorem dX7_total_165 : decode cX7_total 165 = .ok (.aload_n 0, 1) := by decide +kernel
theorem dX7_total_166 : decode cX7_total 166 = .ok (.getfield 12, 3) := by decide +kernel
theorem dX7_total_169 : decode cX7_total 169 = .ok (.getfield 83, 3) := by decide +kernel
theorem dX7_total_172 : decode cX7_total 172 = .ok (.iconst 0, 1) := by decide +kernel
theorem dX7_total_173 : decode cX7_total 173 = .ok (.iaload, 1) := by decide +kernel
theorem dX7_total_174 : decode cX7_total 174 = .ok (.ireturn, 1) := by decide +kernel
theorem dX7_total_175 : decode cX7_total 175 = .ok (.aload_n 0, 1) := by decide +kernel
theorem dX7_total_176 : decode cX7_total 176 = .ok (.getfield 12, 3) := by decide +kernel
theorem dX7_total_179 : decode cX7_total 179 = .ok (.getfield 83, 3) := by decide +kernel
theorem dX7_total_182 : decode cX7_total 182 = .ok (.iconst 1, 1) := by decide +kernel
theorem dX7_total_183 : decode cX7_total 183 = .ok (.iaload, 1) := by decide +kernel
theorem dX7_total_184 : decode cX7_total 184 = .ok (.ireturn, 1) := by decide +kernel
theorem dX7_total_185 : decode cX7_total 185 = .ok (.aload_n 0, 1) := by decide +kernel
theorem dX7_total_186 : decode cX7_total 186 = .ok (.getfield 12, 3) := by decide +kernel
theorem dX7_total_189 : decode cX7_total 189 = .ok (.getfield 83, 3) := by decide +kernel
theorem dX7_total_192 : decode cX7_total 192 = .ok (.iconst 2, 1) := by decide +kernel
theorem dX7_total_193 : decode cX7_total 193 = .ok (.iaload, 1) := by decide +kernel
theorem dX7_total_194 : decode cX7_total 194 = .ok (.ireturn, 1) := by decide +kernel
theorem dX7_total_195 : decode cX7_total 195 = .ok (.aload_n 0, 1) := by decide +kernel
theorem dX7_total_196 : decode cX7_total 196 = .ok (.getfield 29, 3) := by decide +kernel
theorem dX7_total_199 : decode cX7_total 199 = .ok (.getfield 170, 3) := by decide +kernel
theorem dX7_total_202 : decode cX7_total 202 = .ok (.ireturn, 1) := by decide +kernel
theorem dX7_total_203 : decode cX7_total 203 = .ok (.aload_n 0, 1) := by decide +kernel
theorem dX7_total_204 : decode cX7_total 204 = .ok (.getfield 36, 3) := by decide +kernel
theorem dX7_total_207 : decode cX7_total 207 = .ok (.getfield 91, 3) := by decide +kernel
theorem dX7_total_210 : decode cX7_total 210 = .ok (.ireturn, 1) := by decide +kernel
theorem dX7_total_211 : decode cX7_total 211 = .ok (.bipush (-2), 2) := by decide +kernel
theorem dX7_total_213 : decode cX7_total 213 = .ok (.ireturn, 1) := by decide +kernel
set_option maxRecDepth 20000 in
theorem ggX7_next_X2_isQuiet : GoodIn wsX7_next wsX2_isQuiet := goodIn_r _ [7, 8, 9, 23, 24, 25, 26, 27, 28, 29, 30, 31, 32, 33, 34, 35, 36, 37, 38] (by decide +kernel) (by decide +kernel)
set_option maxRecDepth 20000 in
theorem gX7_next_X2_isQuiet : GoodIn wsX7_next (wsV RX7 66 RX2 yX2_isQuiet wsX2_isQuiet) := goodIn_app (goodIn_of _ (by decide +kernel)) ggX7_next_X2_isQuiet
set_option maxRecDepth 20000 in
theorem ggX7_next_X0_firstTime : GoodIn wsX7_next wsX0_firstTime := goodIn_r _ [14, 15, 16, 35, 36, 37, 38] (by decide +kernel) (by decide +kernel)
set_option maxRecDepth 20000 in
theorem gX7_next_X0_firstTime : GoodIn wsX7_next (wsV RX7 171 RX0 yX0_firstTime wsX0_firstTime) := goodIn_app (goodIn_of _ (by decide +kernel)) ggX7_next_X0_firstTime
theorem dX7_next_0 : decode cX7_next 0 = .ok (.aload_n 0, 1) := by decide +kernel
theorem dX7_next_1 : decode cX7_next 1 = .ok (.getfield 12, 3) := by decide +kernel
theorem dX7_next_4 : decode cX7_next 4 = .ok (.invokevirtual 66, 3) := by decide +kernel
theorem dX7_next_7 : decode cX7_next 7 = .ok (.ifCond .eq 8, 3) := by decide +kernel
theorem dX7_next_10 : decode cX7_next 10 = .ok (.bipush (-5), 2) := by decide +kernel
theorem dX7_next_12 : decode cX7_next 12 = .ok (.goto 13, 3) := by decide +kernel
theorem dX7_next_15 : decode cX7_next 15 = .ok (.aload_n 0, 1) := by decide +kernel
theorem dX7_next_16 : decode cX7_next 16 = .ok (.getfield 12, 3) := by decide +kernel
theorem dX7_next_19 : decode cX7_next 19 = .ok (.getfield 148, 3) := by decide +kernel
theorem dX7_next_22 : decode cX7_next 22 = .ok (.invokevirtual 171, 3) := by decide +kernel
theorem dX7_next_25 : decode cX7_next 25 = .ok (.ireturn, 1) := by decide +kernel
set_option maxRecDepth 20000 in
theorem ggX7_quietIn_X2_copyFrom : GoodIn wsX7_quietIn wsX2_copyFrom := goodIn_r _ [9, 10, 11, 12, 13, 14, 15, 16, 17, 18, 19, 20, 21, 22, 23, 24, 25, 26, 27, 28, 29, 30, 31, 32, 33, 34, 35, 36, 37, 38, 39, 40, 41, 42, 43, 44, 45, 46, 47, 48, 49, 50, 51, 52, 53, 54, 55, 56, 57, 58, 59, 60, 61, 62, 63, 64, 65, 66, 67, 68, 69, 70, 171, 172, 173, 174, 175, 176, 177, 178, 179, 180, 181, 182, 183, 184, 185, 186, 187, 188, 189, 190, 191, 192, 193, 194, 195, 196, 197, 198, 199, 200, 201, 202, 203] (by decide +kernel) (by decide +kernel)
set_option maxRecDepth 20000 in
theorem gX7_quietIn_X2_copyFrom : GoodIn wsX7_quietIn (wsV RX7 40 RX2 yX2_copyFrom wsX2_copyFrom) := goodIn_app (goodIn_of _ (by decide +kernel)) ggX7_quietIn_X2_copyFrom
set_option maxRecDepth 20000 in
theorem ggX7_quietIn_X2_letArriveUpTo : GoodIn wsX7_quietIn wsX2_letArriveUpTo := goodIn_r _ [74, 75, 23, 11, 14, 20, 76, 77, 78, 79, 8, 80, 81, 82, 83, 84, 53, 85, 57, 55, 86, 87, 88, 89, 59, 90, 91, 92, 93, 94, 95, 96, 97, 98, 99, 100, 101, 56, 102, 103, 104, 105, 10, 106, 107, 108, 109, 110, 15, 21, 111, 112, 113, 114, 115, 116, 117, 118, 119, 120, 121, 122, 123, 124, 125, 126, 25, 24, 127, 128, 129, 130, 63, 131, 69, 65, 67, 68, 70, 132, 133, 134, 135, 136, 137, 138, 139, 140, 141, 142, 143, 144, 145, 146, 147, 148, 149, 150, 151, 152, 153, 154, 155, 22, 12, 13, 156, 157, 158, 159, 160, 161, 162, 163, 45, 164, 47, 48, 171, 172, 173, 174, 175, 176, 177, 178, 179, 180, 181, 182, 183, 184, 185, 186, 187, 188, 189, 190, 191, 192, 195, 196, 197, 198, 199, 200, 201, 202, 203, 193, 194] (by decide +kernel) (by decide +kernel)
set_option maxRecDepth 20000 in
theorem gX7_quietIn_X2_letArriveUpTo : GoodIn wsX7_quietIn (wsV RX7 71 RX2 yX2_letArriveUpTo wsX2_letArriveUpTo) := goodIn_app (goodIn_of _ (by decide +kernel)) ggX7_quietIn_X2_letArriveUpTo
theorem dX7_quietIn_0 : decode cX7_quietIn 0 = .ok (.aload_n 0, 1) := by decide +kernel
theorem dX7_quietIn_1 : decode cX7_quietIn 1 = .ok (.getfield 16, 3) := by decide +kernel
theorem dX7_quietIn_4 : decode cX7_quietIn 4 = .ok (.aload_n 0, 1) := by decide +kernel
theorem dX7_quietIn_5 : decode cX7_quietIn 5 = .ok (.getfield 12, 3) := by decide +kernel
theorem dX7_quietIn_8 : decode cX7_quietIn 8 = .ok (.invokevirtual 40, 3) := by decide +kernel
theorem dX7_quietIn_11 : decode cX7_quietIn 11 = .ok (.aload_n 0, 1) := by decide +kernel
theorem dX7_quietIn_12 : decode cX7_quietIn 12 = .ok (.getfield 16, 3) := by decide +kernel
theorem dX7_quietIn_15 : decode cX7_quietIn 15 = .ok (.ldc 70, 2) := by decide +kernel
theorem dX7_quietIn_17 : decode cX7_quietIn 17 = .ok (.invokevirtual 71, 3) := by decide +kernel
theorem dX7_quietIn_20 : decode cX7_quietIn 20 = .ok (.aload_n 0, 1) := by decide +kernel
theorem dX7_quietIn_21 : decode cX7_quietIn 21 = .ok (.getfield 16, 3) := by decide +kernel
theorem dX7_quietIn_24 : decode cX7_quietIn 24 = .ok (.getfield 74, 3) := by decide +kernel
theorem dX7_quietIn_27 : decode cX7_quietIn 27 = .ok (.aload_n 0, 1) := by decide +kernel
theorem dX7_quietIn_28 : decode cX7_quietIn 28 = .ok (.getfield 12, 3) := by decide +kernel
theorem dX7_quietIn_31 : decode cX7_quietIn 31 = .ok (.getfield 74, 3) := by decide +kernel
theorem dX7_quietIn_34 : decode cX7_quietIn 34 = .ok (.isub, 1) := by decide +kernel
theorem dX7_quietIn_35 : decode cX7_quietIn 35 = .ok (.ireturn, 1) := by decide +kernel
set_option maxRecDepth 20000 in
theorem ggX7_ifLead_X7_settleTrialWithLead : GoodIn wsX7_ifLead wsX7_settleTrialWithLead := goodIn_r _ [10, 1, 3, 11, 12, 13, 14, 15, 16, 17, 18, 19, 20, 21, 22, 23, 24, 25, 26, 27, 28, 29, 30, 31, 32, 33, 34, 35, 36, 37, 38, 39, 40, 41, 42, 43, 44, 45, 46, 47, 48, 49, 50, 51, 52, 53, 54, 55, 56, 57, 58, 59, 60, 61, 62, 63, 64, 65, 66, 67, 68, 69, 70, 71, 72, 73, 74, 75, 76, 77, 78, 79, 80, 81, 82, 83, 84, 85, 86, 87, 88, 89, 90, 91, 92, 93, 94, 95, 96, 97, 98, 99, 100, 101, 102, 103, 104, 105, 106, 107, 108, 109, 110, 111, 112, 113, 114, 115, 116, 117, 118, 119, 120, 121, 122, 123, 124, 125, 126, 127, 128, 129, 130, 131, 132, 133, 134, 135, 136, 137, 138, 139, 140, 141, 142, 143, 144, 145, 146, 147, 148, 149, 150, 151, 152, 153, 154, 155, 156, 157, 158, 159, 160, 161, 162, 163, 164, 165, 166, 167, 168, 169, 170, 171, 172, 181, 182, 183, 184, 185, 186, 187, 188, 189, 190, 191, 192, 193, 194, 195, 196, 197, 198, 204, 205, 206, 207, 208, 209, 210, 211, 212, 213, 214, 215, 216, 217, 218, 219, 199, 200, 201, 202, 203] (by decide +kernel) (by decide +kernel)
set_option maxRecDepth 20000 in
theorem gX7_ifLead_X7_settleTrialWithLead : GoodIn wsX7_ifLead (wsV RX7 174 RX7 yX7_settleTrialWithLead wsX7_settleTrialWithLead) := goodIn_app (goodIn_of _ (by decide +kernel)) ggX7_ifLead_X7_settleTrialWithLead
set_option maxRecDepth 20000 in
theorem ggX7_ifLead_X7_wrongInTrial : GoodIn wsX7_ifLead wsX7_wrongInTrial := goodIn_r _ [176, 1, 4, 3, 177, 178, 179, 71, 180, 77, 78, 181, 182, 183, 184, 185, 186, 187, 188, 189, 190, 191, 192, 193, 194, 195, 196, 197, 198, 199, 200, 201, 202, 203] (by decide +kernel) (by decide +kernel)
set_option maxRecDepth 20000 in
theorem gX7_ifLead_X7_wrongInTrial : GoodIn wsX7_ifLead (wsV RX7 177 RX7 yX7_wrongInTrial wsX7_wrongInTrial) := goodIn_app (goodIn_of _ (by decide +kernel)) ggX7_ifLead_X7_wrongInTrial
theorem dX7_ifLead_0 : decode cX7_ifLead 0 = .ok (.iload_n 1, 1) := by decide +kernel
theorem dX7_ifLead_1 : decode cX7_ifLead 1 = .ok (.ifCond .lt 18, 3) := by decide +kernel
theorem dX7_ifLead_4 : decode cX7_ifLead 4 = .ok (.iload_n 1, 1) := by decide +kernel
theorem dX7_ifLead_5 : decode cX7_ifLead 5 = .ok (.bipush 20, 2) := by decide +kernel
theorem dX7_ifLead_7 : decode cX7_ifLead 7 = .ok (.if_icmp .gt 12, 3) := by decide +kernel
theorem dX7_ifLead_10 : decode cX7_ifLead 10 = .ok (.iload_n 2, 1) := by decide +kernel
theorem dX7_ifLead_11 : decode cX7_ifLead 11 = .ok (.ifCond .lt 8, 3) := by decide +kernel
theorem dX7_ifLead_14 : decode cX7_ifLead 14 = .ok (.iload_n 2, 1) := by decide +kernel
theorem dX7_ifLead_15 : decode cX7_ifLead 15 = .ok (.iconst 2, 1) := by decide +kernel
theorem dX7_ifLead_16 : decode cX7_ifLead 16 = .ok (.if_icmp .le 6, 3) := by decide +kernel
theorem dX7_ifLead_19 : decode cX7_ifLead 19 = .ok (.bipush (-2), 2) := by decide +kernel
theorem dX7_ifLead_21 : decode cX7_ifLead 21 = .ok (.ireturn, 1) := by decide +kernel
theorem dX7_ifLead_22 : decode cX7_ifLead 22 = .ok (.aload_n 0, 1) := by decide +kernel
theorem dX7_ifLead_23 : decode cX7_ifLead 23 = .ok (.iload_n 1, 1) := by decide +kernel
theorem dX7_ifLead_24 : decode cX7_ifLead 24 = .ok (.invokevirtual 174, 3) := by decide +kernel
theorem dX7_ifLead_27 : decode cX7_ifLead 27 = .ok (.iload_n 2, 1) := by decide +kernel
theorem dX7_ifLead_28 : decode cX7_ifLead 28 = .ok (.lookupswitch 66 #[(0, 28), (1, 44)], 28) := by decide +kernel
theorem dX7_ifLead_56 : decode cX7_ifLead 56 = .ok (.aload_n 0, 1) := by decide +kernel
theorem dX7_ifLead_57 : decode cX7_ifLead 57 = .ok (.getfield 16, 3) := by decide +kernel
theorem dX7_ifLead_60 : decode cX7_ifLead 60 = .ok (.getfield 74, 3) := by decide +kernel
theorem dX7_ifLead_63 : decode cX7_ifLead 63 = .ok (.aload_n 0, 1) := by decide +kernel
theorem dX7_ifLead_64 : decode cX7_ifLead 64 = .ok (.getfield 12, 3) := by decide +kernel
theorem dX7_ifLead_67 : decode cX7_ifLead 67 = .ok (.getfield 74, 3) := by decide +kernel
theorem dX7_ifLead_70 : decode cX7_ifLead 70 = .ok (.isub, 1) := by decide +kernel
theorem dX7_ifLead_71 : decode cX7_ifLead 71 = .ok (.ireturn, 1) := by decide +kernel
theorem dX7_ifLead_72 : decode cX7_ifLead 72 = .ok (.aload_n 0, 1) := by decide +kernel
theorem dX7_ifLead_73 : decode cX7_ifLead 73 = .ok (.getfield 16, 3) := by decide +kernel
theorem dX7_ifLead_76 : decode cX7_ifLead 76 = .ok (.getfield 141, 3) := by decide +kernel
theorem dX7_ifLead_79 : decode cX7_ifLead 79 = .ok (.getfield 160, 3) := by decide +kernel
theorem dX7_ifLead_82 : decode cX7_ifLead 82 = .ok (.aload_n 0, 1) := by decide +kernel
theorem dX7_ifLead_83 : decode cX7_ifLead 83 = .ok (.getfield 12, 3) := by decide +kernel
theorem dX7_ifLead_86 : decode cX7_ifLead 86 = .ok (.getfield 141, 3) := by decide +kernel
theorem dX7_ifLead_89 : decode cX7_ifLead 89 = .ok (.getfield 160, 3) := by decide +kernel
theorem dX7_ifLead_92 : decode cX7_ifLead 92 = .ok (.isub, 1) := by decide +kernel
theorem dX7_ifLead_93 : decode cX7_ifLead 93 = .ok (.ireturn, 1) := by decide +kernel
theorem dX7_ifLead_94 : decode cX7_ifLead 94 = .ok (.aload_n 0, 1) := by decide +kernel
theorem dX7_ifLead_95 : decode cX7_ifLead 95 = .ok (.invokevirtual 177, 3) := by decide +kernel
theorem dX7_ifLead_98 : decode cX7_ifLead 98 = .ok (.ireturn, 1) := by decide +kernel
set_option maxRecDepth 20000 in
theorem ggX7_leastLead_X7_settleTrialWithLead : GoodIn wsX7_leastLead wsX7_settleTrialWithLead := goodIn_r _ [5, 6, 7, 8, 9, 10, 11, 12, 13, 14, 15, 16, 17, 18, 19, 20, 21, 22, 23, 24, 25, 26, 27, 28, 29, 30, 31, 32, 33, 34, 35, 36, 37, 38, 39, 40, 41, 42, 43, 44, 45, 46, 47, 48, 49, 50, 51, 52, 53, 54, 55, 56, 57, 58, 59, 60, 61, 62, 63, 64, 65, 66, 67, 68, 69, 70, 71, 72, 73, 74, 75, 76, 77, 78, 79, 80, 81, 82, 83, 84, 85, 86, 87, 88, 89, 90, 91, 92, 93, 94, 95, 96, 97, 98, 99, 100, 101, 102, 103, 104, 105, 106, 107, 108, 109, 110, 111, 112, 113, 114, 115, 116, 117, 118, 119, 120, 121, 122, 123, 124, 125, 126, 127, 128, 129, 130, 131, 132, 133, 134, 135, 136, 137, 138, 139, 140, 141, 142, 143, 144, 145, 146, 147, 148, 149, 150, 151, 152, 153, 154, 155, 156, 157, 158, 159, 160, 161, 162, 163, 164, 165, 166, 167, 168, 169, 179, 180, 181, 182, 183, 184, 185, 186, 187, 188, 189, 190, 191, 192, 193, 194, 195, 196, 197, 198, 199, 200, 201, 202, 203, 204, 205, 206, 207, 208, 209, 210, 211, 212, 213, 214, 215, 216, 217] (by decide +kernel) (by decide +kernel)
set_option maxRecDepth 20000 in
theorem gX7_leastLead_X7_settleTrialWithLead : GoodIn wsX7_leastLead (wsV RX7 174 RX7 yX7_settleTrialWithLead wsX7_settleTrialWithLead) := goodIn_app (goodIn_of _ (by decide +kernel)) ggX7_leastLead_X7_settleTrialWithLead
set_option maxRecDepth 20000 in
theorem ggX7_leastLead_X7_wrongInTrial : GoodIn wsX7_leastLead wsX7_wrongInTrial := goodIn_r _ [173, 6, 174, 7, 175, 176, 177, 68, 178, 74, 75, 179, 180, 181, 182, 183, 184, 185, 186, 187, 188, 189, 190, 191, 192, 193, 194, 195, 196, 213, 214, 215, 216, 217] (by decide +kernel) (by decide +kernel)
set_option maxRecDepth 20000 in
theorem gX7_leastLead_X7_wrongInTrial : GoodIn wsX7_leastLead (wsV RX7 177 RX7 yX7_wrongInTrial wsX7_wrongInTrial) := goodIn_app (goodIn_of _ (by decide +kernel)) ggX7_leastLead_X7_wrongInTrial
theorem dX7_leastLead_0 : decode cX7_leastLead 0 = .ok (.iconst 0, 1) := by decide +kernel
theorem dX7_leastLead_1 : decode cX7_leastLead 1 = .ok (.istore_n 1, 1) := by decide +kernel
theorem dX7_leastLead_2 : decode cX7_leastLead 2 = .ok (.iload_n 1, 1) := by decide +kernel
theorem dX7_leastLead_3 : decode cX7_leastLead 3 = .ok (.bipush 20, 2) := by decide +kernel
theorem dX7_leastLead_5 : decode cX7_leastLead 5 = .ok (.if_icmp .gt 23, 3) := by decide +kernel
theorem dX7_leastLead_8 : decode cX7_leastLead 8 = .ok (.aload_n 0, 1) := by decide +kernel
theorem dX7_leastLead_9 : decode cX7_leastLead 9 = .ok (.iload_n 1, 1) := by decide +kernel
theorem dX7_leastLead_10 : decode cX7_leastLead 10 = .ok (.invokevirtual 174, 3) := by decide +kernel
theorem dX7_leastLead_13 : decode cX7_leastLead 13 = .ok (.aload_n 0, 1) := by decide +kernel
theorem dX7_leastLead_14 : decode cX7_leastLead 14 = .ok (.invokevirtual 177, 3) := by decide +kernel
theorem dX7_leastLead_17 : decode cX7_leastLead 17 = .ok (.ifCond .ne 5, 3) := by decide +kernel
theorem dX7_leastLead_20 : decode cX7_leastLead 20 = .ok (.iload_n 1, 1) := by decide +kernel
theorem dX7_leastLead_21 : decode cX7_leastLead 21 = .ok (.ireturn, 1) := by decide +kernel
theorem dX7_leastLead_22 : decode cX7_leastLead 22 = .ok (.iinc 1 1, 3) := by decide +kernel
theorem dX7_leastLead_25 : decode cX7_leastLead 25 = .ok (.goto (-23), 3) := by decide +kernel
theorem dX7_leastLead_28 : decode cX7_leastLead 28 = .ok (.bipush (-5), 2) := by decide +kernel
theorem dX7_leastLead_30 : decode cX7_leastLead 30 = .ok (.ireturn, 1) := by decide +kernel
set_option maxRecDepth 20000 in
theorem ggX7_dearest_X7_quietTimeWithLess : GoodIn wsX7_dearest wsX7_quietTimeWithLess := goodIn_r _ [9, 10, 1, 3, 4, 11, 12, 13, 14, 15, 16, 17, 18, 19, 20, 21, 22, 23, 24, 25, 26, 27, 28, 29, 30, 31, 32, 33, 34, 35, 36, 37, 38, 39, 40, 41, 42, 43, 44, 45, 46, 47, 48, 49, 50, 51, 52, 53, 54, 55, 56, 57, 58, 59, 60, 61, 62, 63, 64, 65, 66, 67, 68, 69, 70, 71, 72, 73, 74, 75, 76, 77, 78, 79, 80, 81, 82, 83, 84, 85, 86, 87, 88, 89, 90, 91, 92, 93, 94, 95, 96, 97, 98, 99, 100, 101, 102, 103, 104, 105, 106, 107, 108, 109, 110, 111, 112, 113, 114, 115, 116, 117, 118, 119, 120, 121, 122, 123, 124, 125, 126, 127, 128, 129, 130, 131, 132, 133, 134, 135, 136, 137, 138, 139, 140, 141, 142, 143, 144, 145, 146, 147, 148, 149, 150, 151, 152, 153, 154, 155, 156, 157, 158, 159, 160, 161, 162, 163, 164, 165, 166, 167, 168, 169, 170, 171, 172, 173, 174, 175, 176, 177, 178, 179, 180, 181, 182, 183, 184, 185, 186, 187, 188, 189, 190, 191, 192, 193, 194, 195, 196, 197, 198, 199, 200, 201, 202, 203, 204, 205, 206, 207, 208, 209, 210, 211] (by decide +kernel) (by decide +kernel)
set_option maxRecDepth 20000 in
theorem gX7_dearest_X7_quietTimeWithLess : GoodIn wsX7_dearest (wsV RX7 183 RX7 yX7_quietTimeWithLess wsX7_quietTimeWithLess) := goodIn_app (goodIn_of _ (by decide +kernel)) ggX7_dearest_X7_quietTimeWithLess
theorem dX7_dearest_0 : decode cX7_dearest 0 = .ok (.bipush (-5), 2) := by decide +kernel
theorem dX7_dearest_2 : decode cX7_dearest 2 = .ok (.istore_n 1, 1) := by decide +kernel
theorem dX7_dearest_3 : decode cX7_dearest 3 = .ok (.iconst 0, 1) := by decide +kernel
theorem dX7_dearest_4 : decode cX7_dearest 4 = .ok (.istore_n 2, 1) := by decide +kernel
theorem dX7_dearest_5 : decode cX7_dearest 5 = .ok (.iconst 0, 1) := by decide +kernel
theorem dX7_dearest_6 : decode cX7_dearest 6 = .ok (.istore_n 3, 1) := by decide +kernel
theorem dX7_dearest_7 : decode cX7_dearest 7 = .ok (.iload_n 3, 1) := by decide +kernel
theorem dX7_dearest_8 : decode cX7_dearest 8 = .ok (.aload_n 0, 1) := by decide +kernel
theorem dX7_dearest_9 : decode cX7_dearest 9 = .ok (.getfield 12, 3) := by decide +kernel
theorem dX7_dearest_12 : decode cX7_dearest 12 = .ok (.getfield 126, 3) := by decide +kernel
theorem dX7_dearest_15 : decode cX7_dearest 15 = .ok (.if_icmp .gt 75, 3) := by decide +kernel
theorem dX7_dearest_18 : decode cX7_dearest 18 = .ok (.iconst 0, 1) := by decide +kernel
theorem dX7_dearest_19 : decode cX7_dearest 19 = .ok (.istore 4, 2) := by decide +kernel
theorem dX7_dearest_21 : decode cX7_dearest 21 = .ok (.iload 4, 2) := by decide +kernel
theorem dX7_dearest_23 : decode cX7_dearest 23 = .ok (.iconst 3, 1) := by decide +kernel
theorem dX7_dearest_24 : decode cX7_dearest 24 = .ok (.if_icmp .ge 60, 3) := by decide +kernel
theorem dX7_dearest_27 : decode cX7_dearest 27 = .ok (.aload_n 0, 1) := by decide +kernel
theorem dX7_dearest_28 : decode cX7_dearest 28 = .ok (.getfield 12, 3) := by decide +kernel
theorem dX7_dearest_31 : decode cX7_dearest 31 = .ok (.getfield 117, 3) := by decide +kernel
theorem dX7_dearest_34 : decode cX7_dearest 34 = .ok (.iload_n 3, 1) := by decide +kernel
theorem dX7_dearest_35 : decode cX7_dearest 35 = .ok (.aaload, 1) := by decide +kernel
theorem dX7_dearest_36 : decode cX7_dearest 36 = .ok (.getfield 180, 3) := by decide +kernel
theorem dX7_dearest_39 : decode cX7_dearest 39 = .ok (.iload 4, 2) := by decide +kernel
theorem dX7_dearest_41 : decode cX7_dearest 41 = .ok (.iaload, 1) := by decide +kernel
theorem dX7_dearest_42 : decode cX7_dearest 42 = .ok (.iconst 1, 1) := by decide +kernel
theorem dX7_dearest_43 : decode cX7_dearest 43 = .ok (.if_icmp .le 35, 3) := by decide +kernel
theorem dX7_dearest_46 : decode cX7_dearest 46 = .ok (.aload_n 0, 1) := by decide +kernel
theorem dX7_dearest_47 : decode cX7_dearest 47 = .ok (.iload_n 3, 1) := by decide +kernel
theorem dX7_dearest_48 : decode cX7_dearest 48 = .ok (.iload 4, 2) := by decide +kernel
theorem dX7_dearest_50 : decode cX7_dearest 50 = .ok (.invokevirtual 183, 3) := by decide +kernel
theorem dX7_dearest_53 : decode cX7_dearest 53 = .ok (.istore 5, 2) := by decide +kernel
theorem dX7_dearest_55 : decode cX7_dearest 55 = .ok (.iload_n 1, 1) := by decide +kernel
theorem dX7_dearest_56 : decode cX7_dearest 56 = .ok (.bipush (-5), 2) := by decide +kernel
theorem dX7_dearest_58 : decode cX7_dearest 58 = .ok (.if_icmp .eq 9, 3) := by decide +kernel
theorem dX7_dearest_61 : decode cX7_dearest 61 = .ok (.iload 5, 2) := by decide +kernel
theorem dX7_dearest_63 : decode cX7_dearest 63 = .ok (.iload_n 2, 1) := by decide +kernel
theorem dX7_dearest_64 : decode cX7_dearest 64 = .ok (.if_icmp .ge 14, 3) := by decide +kernel
theorem dX7_dearest_67 : decode cX7_dearest 67 = .ok (.bipush 10, 2) := by decide +kernel
theorem dX7_dearest_69 : decode cX7_dearest 69 = .ok (.iload_n 3, 1) := by decide +kernel
theorem dX7_dearest_70 : decode cX7_dearest 70 = .ok (.imul, 1) := by decide +kernel
theorem dX7_dearest_71 : decode cX7_dearest 71 = .ok (.iload 4, 2) := by decide +kernel
theorem dX7_dearest_73 : decode cX7_dearest 73 = .ok (.iadd, 1) := by decide +kernel
theorem dX7_dearest_74 : decode cX7_dearest 74 = .ok (.istore_n 1, 1) := by decide +kernel
theorem dX7_dearest_75 : decode cX7_dearest 75 = .ok (.iload 5, 2) := by decide +kernel
theorem dX7_dearest_77 : decode cX7_dearest 77 = .ok (.istore_n 2, 1) := by decide +kernel
theorem dX7_dearest_78 : decode cX7_dearest 78 = .ok (.iinc 4 1, 3) := by decide +kernel
theorem dX7_dearest_81 : decode cX7_dearest 81 = .ok (.goto (-60), 3) := by decide +kernel
theorem dX7_dearest_84 : decode cX7_dearest 84 = .ok (.iinc 3 1, 3) := by decide +kernel
theorem dX7_dearest_87 : decode cX7_dearest 87 = .ok (.goto (-80), 3) := by decide +kernel
theorem dX7_dearest_90 : decode cX7_dearest 90 = .ok (.iload_n 1, 1) := by decide +kernel
theorem dX7_dearest_91 : decode cX7_dearest 91 = .ok (.ireturn, 1) := by decide +kernel
set_option maxRecDepth 20000 in
theorem ggX7_accept_X1_record : GoodIn wsX7_accept wsX1_record := goodIn_r _ [8, 9, 10, 11, 12, 13, 7, 14, 15, 16, 17, 18, 19, 20, 21, 22, 23, 24, 25, 26, 27, 28, 29, 30, 31, 32, 33, 34, 35, 36, 37, 38, 39, 40, 41, 42, 43, 44, 45, 46, 47, 48, 49, 50, 51, 52, 53, 54, 55, 56, 57, 58, 59, 60, 61, 62, 63, 64, 65, 66, 67, 68, 69, 70, 71, 72, 73, 74, 75, 76, 77, 78, 79, 80, 88, 89, 90, 91, 92, 93, 94, 95, 96, 97, 98, 99, 100, 101, 102, 103, 104, 105, 106, 107, 108, 109, 110, 111, 112, 113, 114, 115, 116, 117, 118, 119, 120, 121, 122] (by decide +kernel) (by decide +kernel)
set_option maxRecDepth 20000 in
theorem gX7_accept_X1_record : GoodIn wsX7_accept (wsV RX7 186 RX1 yX1_record wsX1_record) := goodIn_app (goodIn_of _ (by decide +kernel)) ggX7_accept_X1_record
set_option maxRecDepth 20000 in
theorem ggX7_accept_X2_copyFrom : GoodIn wsX7_accept wsX2_copyFrom := goodIn_r _ [19, 20, 21, 22, 23, 24, 25, 26, 27, 28, 29, 30, 31, 32, 33, 34, 35, 36, 37, 38, 39, 40, 41, 42, 43, 44, 45, 46, 47, 48, 49, 50, 51, 52, 53, 54, 55, 56, 57, 58, 59, 60, 61, 62, 63, 64, 65, 66, 67, 68, 69, 70, 71, 72, 73, 74, 75, 76, 77, 78, 79, 80, 90, 91, 92, 93, 94, 95, 96, 97, 98, 99, 100, 101, 102, 103, 104, 105, 106, 107, 108, 109, 110, 111, 112, 113, 114, 115, 116, 117, 118, 119, 120, 121, 122] (by decide +kernel) (by decide +kernel)
set_option maxRecDepth 20000 in
theorem gX7_accept_X2_copyFrom : GoodIn wsX7_accept (wsV RX7 40 RX2 yX2_copyFrom wsX2_copyFrom) := goodIn_app (goodIn_of _ (by decide +kernel)) ggX7_accept_X2_copyFrom
theorem dX7_accept_0 : decode cX7_accept 0 = .ok (.iload_n 1, 1) := by decide +kernel
theorem dX7_accept_1 : decode cX7_accept 1 = .ok (.ifCond .ge 5, 3) := by decide +kernel
theorem dX7_accept_4 : decode cX7_accept 4 = .ok (.iload_n 1, 1) := by decide +kernel
theorem dX7_accept_5 : decode cX7_accept 5 = .ok (.ireturn, 1) := by decide +kernel
theorem dX7_accept_6 : decode cX7_accept 6 = .ok (.aload_n 0, 1) := by decide +kernel
theorem dX7_accept_7 : decode cX7_accept 7 = .ok (.getfield 29, 3) := by decide +kernel
theorem dX7_accept_10 : decode cX7_accept 10 = .ok (.aload_n 0, 1) := by decide +kernel
theorem dX7_accept_11 : decode cX7_accept 11 = .ok (.getfield 12, 3) := by decide +kernel
theorem dX7_accept_14 : decode cX7_accept 14 = .ok (.invokevirtual 186, 3) := by decide +kernel
theorem dX7_accept_17 : decode cX7_accept 17 = .ok (.aload_n 0, 1) := by decide +kernel
theorem dX7_accept_18 : decode cX7_accept 18 = .ok (.getfield 12, 3) := by decide +kernel
theorem dX7_accept_21 : decode cX7_accept 21 = .ok (.aload_n 0, 1) := by decide +kernel
theorem dX7_accept_22 : decode cX7_accept 22 = .ok (.getfield 16, 3) := by decide +kernel
theorem dX7_accept_25 : decode cX7_accept 25 = .ok (.invokevirtual 40, 3) := by decide +kernel
theorem dX7_accept_28 : decode cX7_accept 28 = .ok (.iload_n 1, 1) := by decide +kernel
theorem dX7_accept_29 : decode cX7_accept 29 = .ok (.ireturn, 1) := by decide +kernel
set_option maxRecDepth 20000 in
theorem ggX7_settleTrialWithLead_X2_copyFrom : GoodIn wsX7_settleTrialWithLead wsX2_copyFrom := goodIn_r _ [9, 10, 11, 12, 13, 14, 15, 16, 17, 18, 19, 20, 21, 22, 23, 24, 25, 26, 27, 28, 29, 30, 31, 32, 33, 34, 35, 36, 37, 38, 39, 40, 41, 42, 43, 44, 45, 46, 47, 48, 49, 50, 51, 52, 53, 54, 55, 56, 57, 58, 59, 60, 61, 62, 63, 64, 65, 66, 67, 68, 69, 70, 171, 172, 173, 174, 175, 176, 177, 178, 179, 180, 181, 182, 183, 184, 185, 186, 187, 188, 189, 190, 191, 192, 193, 194, 195, 196, 197, 198, 199, 200, 201, 202, 203] (by decide +kernel) (by decide +kernel)
set_option maxRecDepth 20000 in
theorem gX7_settleTrialWithLead_X2_copyFrom : GoodIn wsX7_settleTrialWithLead (wsV RX7 40 RX2 yX2_copyFrom wsX2_copyFrom) := goodIn_app (goodIn_of _ (by decide +kernel)) ggX7_settleTrialWithLead_X2_copyFrom
set_option maxRecDepth 20000 in
theorem ggX7_settleTrialWithLead_X2_letArriveUpTo : GoodIn wsX7_settleTrialWithLead wsX2_letArriveUpTo := goodIn_r _ [74, 75, 23, 11, 14, 20, 76, 77, 78, 79, 8, 80, 81, 82, 83, 84, 53, 85, 57, 55, 86, 87, 88, 89, 59, 90, 91, 92, 93, 94, 95, 96, 97, 98, 99, 100, 101, 56, 102, 103, 104, 105, 10, 106, 107, 108, 109, 110, 15, 21, 111, 112, 113, 114, 115, 116, 117, 118, 119, 120, 121, 122, 123, 124, 125, 126, 25, 24, 127, 128, 129, 130, 63, 131, 69, 65, 67, 68, 70, 132, 133, 134, 135, 136, 137, 138, 139, 140, 141, 142, 143, 144, 145, 146, 147, 148, 149, 150, 151, 152, 153, 154, 155, 22, 12, 13, 156, 157, 158, 159, 160, 161, 162, 163, 45, 164, 47, 48, 171, 172, 173, 174, 175, 176, 177, 178, 179, 180, 181, 182, 183, 184, 185, 186, 187, 188, 189, 190, 191, 192, 195, 196, 197, 198, 199, 200, 201, 202, 203, 193, 194] (by decide +kernel) (by decide +kernel)
set_option maxRecDepth 20000 in
theorem gX7_settleTrialWithLead_X2_letArriveUpTo : GoodIn wsX7_settleTrialWithLead (wsV RX7 71 RX2 yX2_letArriveUpTo wsX2_letArriveUpTo) := goodIn_app (goodIn_of _ (by decide +kernel)) ggX7_settleTrialWithLead_X2_letArriveUpTo
theorem dX7_settleTrialWithLead_0 : decode cX7_settleTrialWithLead 0 = .ok (.aload_n 0, 1) := by decide +kernel
theorem dX7_settleTrialWithLead_1 : decode cX7_settleTrialWithLead 1 = .ok (.getfield 16, 3) := by decide +kernel
theorem dX7_settleTrialWithLead_4 : decode cX7_settleTrialWithLead 4 = .ok (.aload_n 0, 1) := by decide +kernel
theorem dX7_settleTrialWithLead_5 : decode cX7_settleTrialWithLead 5 = .ok (.getfield 12, 3) := by decide +kernel
theorem dX7_settleTrialWithLead_8 : decode cX7_settleTrialWithLead 8 = .ok (.invokevirtual 40, 3) := by decide +kernel
theorem dX7_settleTrialWithLead_11 : decode cX7_settleTrialWithLead 11 = .ok (.aload_n 0, 1) := by decide +kernel
theorem dX7_settleTrialWithLead_12 : decode cX7_settleTrialWithLead 12 = .ok (.getfield 16, 3) := by decide +kernel
theorem dX7_settleTrialWithLead_15 : decode cX7_settleTrialWithLead 15 = .ok (.getfield 83, 3) := by decide +kernel
theorem dX7_settleTrialWithLead_18 : decode cX7_settleTrialWithLead 18 = .ok (.iconst 0, 1) := by decide +kernel
theorem dX7_settleTrialWithLead_19 : decode cX7_settleTrialWithLead 19 = .ok (.iload_n 1, 1) := by decide +kernel
theorem dX7_settleTrialWithLead_20 : decode cX7_settleTrialWithLead 20 = .ok (.iastore, 1) := by decide +kernel
theorem dX7_settleTrialWithLead_21 : decode cX7_settleTrialWithLead 21 = .ok (.aload_n 0, 1) := by decide +kernel
theorem dX7_settleTrialWithLead_22 : decode cX7_settleTrialWithLead 22 = .ok (.getfield 16, 3) := by decide +kernel
theorem dX7_settleTrialWithLead_25 : decode cX7_settleTrialWithLead 25 = .ok (.ldc 70, 2) := by decide +kernel
theorem dX7_settleTrialWithLead_27 : decode cX7_settleTrialWithLead 27 = .ok (.invokevirtual 71, 3) := by decide +kernel
theorem dX7_settleTrialWithLead_30 : decode cX7_settleTrialWithLead 30 = .ok (.return_, 1) := by decide +kernel
set_option maxRecDepth 20000 in
theorem ggX7_wrongInTrial_X4_wrongWords : GoodIn wsX7_wrongInTrial wsX4_wrongWords := goodIn_r _ [8, 9, 10, 29, 30, 31, 32, 33] (by decide +kernel) (by decide +kernel)
set_option maxRecDepth 20000 in
theorem gX7_wrongInTrial_X4_wrongWords : GoodIn wsX7_wrongInTrial (wsV RX7 189 RX4 yX4_wrongWords wsX4_wrongWords) := goodIn_app (goodIn_of _ (by decide +kernel)) ggX7_wrongInTrial_X4_wrongWords
theorem dX7_wrongInTrial_0 : decode cX7_wrongInTrial 0 = .ok (.aload_n 0, 1) := by decide +kernel
theorem dX7_wrongInTrial_1 : decode cX7_wrongInTrial 1 = .ok (.getfield 16, 3) := by decide +kernel
theorem dX7_wrongInTrial_4 : decode cX7_wrongInTrial 4 = .ok (.getfield 141, 3) := by decide +kernel
theorem dX7_wrongInTrial_7 : decode cX7_wrongInTrial 7 = .ok (.invokevirtual 189, 3) := by decide +kernel
theorem dX7_wrongInTrial_10 : decode cX7_wrongInTrial 10 = .ok (.aload_n 0, 1) := by decide +kernel
theorem dX7_wrongInTrial_11 : decode cX7_wrongInTrial 11 = .ok (.getfield 12, 3) := by decide +kernel
theorem dX7_wrongInTrial_14 : decode cX7_wrongInTrial 14 = .ok (.getfield 141, 3) := by decide +kernel
theorem dX7_wrongInTrial_17 : decode cX7_wrongInTrial 17 = .ok (.invokevirtual 189, 3) := by decide +kernel
theorem dX7_wrongInTrial_20 : decode cX7_wrongInTrial 20 = .ok (.isub, 1) := by decide +kernel
theorem dX7_wrongInTrial_21 : decode cX7_wrongInTrial 21 = .ok (.ireturn, 1) := by decide +kernel
set_option maxRecDepth 20000 in
theorem ggX7_quietTimeWithLess_X2_copyFrom : GoodIn wsX7_quietTimeWithLess wsX2_copyFrom := goodIn_r _ [11, 12, 13, 14, 15, 16, 17, 18, 19, 20, 21, 22, 23, 24, 25, 26, 27, 28, 29, 30, 31, 32, 33, 34, 35, 36, 37, 38, 39, 40, 41, 42, 43, 44, 45, 46, 47, 48, 49, 50, 51, 52, 53, 54, 55, 56, 57, 58, 59, 60, 61, 62, 63, 64, 65, 66, 67, 68, 69, 70, 71, 72, 173, 174, 175, 176, 177, 178, 179, 180, 181, 182, 183, 184, 185, 186, 187, 188, 189, 190, 191, 192, 193, 194, 195, 196, 197, 198, 199, 200, 201, 202, 203, 204, 205] (by decide +kernel) (by decide +kernel)
set_option maxRecDepth 20000 in
theorem gX7_quietTimeWithLess_X2_copyFrom : GoodIn wsX7_quietTimeWithLess (wsV RX7 40 RX2 yX2_copyFrom wsX2_copyFrom) := goodIn_app (goodIn_of _ (by decide +kernel)) ggX7_quietTimeWithLess_X2_copyFrom
set_option maxRecDepth 20000 in
theorem ggX7_quietTimeWithLess_X2_letArriveUpTo : GoodIn wsX7_quietTimeWithLess wsX2_letArriveUpTo := goodIn_r _ [76, 77, 25, 13, 16, 22, 78, 79, 80, 81, 10, 82, 83, 84, 85, 86, 55, 87, 59, 57, 88, 89, 90, 91, 61, 92, 93, 94, 95, 96, 97, 98, 99, 100, 101, 102, 103, 58, 104, 105, 106, 107, 12, 108, 109, 110, 111, 112, 17, 23, 113, 114, 115, 116, 117, 118, 119, 120, 121, 122, 123, 124, 125, 126, 127, 128, 27, 26, 129, 130, 131, 132, 65, 133, 71, 67, 69, 70, 72, 134, 135, 136, 137, 138, 139, 140, 141, 142, 143, 144, 145, 146, 147, 148, 149, 150, 151, 152, 153, 154, 155, 156, 157, 24, 14, 15, 158, 159, 160, 161, 162, 163, 164, 165, 47, 166, 49, 50, 173, 174, 175, 176, 177, 178, 179, 180, 181, 182, 183, 184, 185, 186, 187, 188, 189, 190, 191, 192, 193, 194, 197, 198, 199, 200, 201, 202, 203, 204, 205, 195, 196] (by decide +kernel) (by decide +kernel)
set_option maxRecDepth 20000 in
theorem gX7_quietTimeWithLess_X2_letArriveUpTo : GoodIn wsX7_quietTimeWithLess (wsV RX7 71 RX2 yX2_letArriveUpTo wsX2_letArriveUpTo) := goodIn_app (goodIn_of _ (by decide +kernel)) ggX7_quietTimeWithLess_X2_letArriveUpTo
theorem dX7_quietTimeWithLess_0 : decode cX7_quietTimeWithLess 0 = .ok (.aload_n 0, 1) := by decide +kernel
theorem dX7_quietTimeWithLess_1 : decode cX7_quietTimeWithLess 1 = .ok (.getfield 16, 3) := by decide +kernel
theorem dX7_quietTimeWithLess_4 : decode cX7_quietTimeWithLess 4 = .ok (.aload_n 0, 1) := by decide +kernel
theorem dX7_quietTimeWithLess_5 : decode cX7_quietTimeWithLess 5 = .ok (.getfield 12, 3) := by decide +kernel
theorem dX7_quietTimeWithLess_8 : decode cX7_quietTimeWithLess 8 = .ok (.invokevirtual 40, 3) := by decide +kernel
theorem dX7_quietTimeWithLess_11 : decode cX7_quietTimeWithLess 11 = .ok (.aload_n 0, 1) := by decide +kernel
theorem dX7_quietTimeWithLess_12 : decode cX7_quietTimeWithLess 12 = .ok (.getfield 16, 3) := by decide +kernel
theorem dX7_quietTimeWithLess_15 : decode cX7_quietTimeWithLess 15 = .ok (.getfield 117, 3) := by decide +kernel
theorem dX7_quietTimeWithLess_18 : decode cX7_quietTimeWithLess 18 = .ok (.iload_n 1, 1) := by decide +kernel
theorem dX7_quietTimeWithLess_19 : decode cX7_quietTimeWithLess 19 = .ok (.aaload, 1) := by decide +kernel
theorem dX7_quietTimeWithLess_20 : decode cX7_quietTimeWithLess 20 = .ok (.getfield 180, 3) := by decide +kernel
theorem dX7_quietTimeWithLess_23 : decode cX7_quietTimeWithLess 23 = .ok (.iload_n 2, 1) := by decide +kernel
theorem dX7_quietTimeWithLess_24 : decode cX7_quietTimeWithLess 24 = .ok (.dup2, 1) := by decide +kernel
theorem dX7_quietTimeWithLess_25 : decode cX7_quietTimeWithLess 25 = .ok (.iaload, 1) := by decide +kernel
theorem dX7_quietTimeWithLess_26 : decode cX7_quietTimeWithLess 26 = .ok (.iconst 1, 1) := by decide +kernel
theorem dX7_quietTimeWithLess_27 : decode cX7_quietTimeWithLess 27 = .ok (.isub, 1) := by decide +kernel
theorem dX7_quietTimeWithLess_28 : decode cX7_quietTimeWithLess 28 = .ok (.iastore, 1) := by decide +kernel
theorem dX7_quietTimeWithLess_29 : decode cX7_quietTimeWithLess 29 = .ok (.aload_n 0, 1) := by decide +kernel
theorem dX7_quietTimeWithLess_30 : decode cX7_quietTimeWithLess 30 = .ok (.getfield 16, 3) := by decide +kernel
theorem dX7_quietTimeWithLess_33 : decode cX7_quietTimeWithLess 33 = .ok (.ldc 70, 2) := by decide +kernel
theorem dX7_quietTimeWithLess_35 : decode cX7_quietTimeWithLess 35 = .ok (.invokevirtual 71, 3) := by decide +kernel
theorem dX7_quietTimeWithLess_38 : decode cX7_quietTimeWithLess 38 = .ok (.aload_n 0, 1) := by decide +kernel
theorem dX7_quietTimeWithLess_39 : decode cX7_quietTimeWithLess 39 = .ok (.getfield 16, 3) := by decide +kernel
theorem dX7_quietTimeWithLess_42 : decode cX7_quietTimeWithLess 42 = .ok (.getfield 74, 3) := by decide +kernel
theorem dX7_quietTimeWithLess_45 : decode cX7_quietTimeWithLess 45 = .ok (.ireturn, 1) := by decide +kernel
set_option maxRecDepth 20000 in
theorem ggX8_init_X8_clean : GoodIn wsX8_init wsX8_clean := goodIn_r _ [14, 5, 15, 16, 17, 18, 19, 20, 21, 22, 23, 24, 25, 26] (by decide +kernel) (by decide +kernel)
set_option maxRecDepth 20000 in
theorem gX8_init_X8_clean : GoodIn wsX8_init (wsV RX8 25 RX8 yX8_clean wsX8_clean) := goodIn_app (goodIn_of _ (by decide +kernel)) ggX8_init_X8_clean
theorem dX8_init_0 : decode cX8_init 0 = .ok (.aload_n 0, 1) := by decide +kernel
theorem dX8_init_1 : decode cX8_init 1 = .ok (.invokespecial 1, 3) := by decide +kernel
theorem dX8_init_4 : decode cX8_init 4 = .ok (.aload_n 0, 1) := by decide +kernel
theorem dX8_init_5 : decode cX8_init 5 = .ok (.sipush 719, 3) := by decide +kernel
theorem dX8_init_8 : decode cX8_init 8 = .ok (.newarray .int, 2) := by decide +kernel
theorem dX8_init_10 : decode cX8_init 10 = .ok (.putfield 7, 3) := by decide +kernel
theorem dX8_init_13 : decode cX8_init 13 = .ok (.aload_n 0, 1) := by decide +kernel
theorem dX8_init_14 : decode cX8_init 14 = .ok (.sipush 719, 3) := by decide +kernel
theorem dX8_init_17 : decode cX8_init 17 = .ok (.newarray .int, 2) := by decide +kernel
theorem dX8_init_19 : decode cX8_init 19 = .ok (.putfield 13, 3) := by decide +kernel
theorem dX8_init_22 : decode cX8_init 22 = .ok (.aload_n 0, 1) := by decide +kernel
theorem dX8_init_23 : decode cX8_init 23 = .ok (.sipush 2876, 3) := by decide +kernel
theorem dX8_init_26 : decode cX8_init 26 = .ok (.newarray .int, 2) := by decide +kernel
theorem dX8_init_28 : decode cX8_init 28 = .ok (.putfield 16, 3) := by decide +kernel
theorem dX8_init_31 : decode cX8_init 31 = .ok (.aload_n 0, 1) := by decide +kernel
theorem dX8_init_32 : decode cX8_init 32 = .ok (.sipush 719, 3) := by decide +kernel
theorem dX8_init_35 : decode cX8_init 35 = .ok (.newarray .int, 2) := by decide +kernel
theorem dX8_init_37 : decode cX8_init 37 = .ok (.putfield 19, 3) := by decide +kernel
theorem dX8_init_40 : decode cX8_init 40 = .ok (.aload_n 0, 1) := by decide +kernel
theorem dX8_init_41 : decode cX8_init 41 = .ok (.bipush 60, 2) := by decide +kernel
theorem dX8_init_43 : decode cX8_init 43 = .ok (.newarray .int, 2) := by decide +kernel
theorem dX8_init_45 : decode cX8_init 45 = .ok (.putfield 22, 3) := by decide +kernel
theorem dX8_init_48 : decode cX8_init 48 = .ok (.aload_n 0, 1) := by decide +kernel
theorem dX8_init_49 : decode cX8_init 49 = .ok (.getfield 7, 3) := by decide +kernel
theorem dX8_init_52 : decode cX8_init 52 = .ok (.iconst 0, 1) := by decide +kernel
theorem dX8_init_53 : decode cX8_init 53 = .ok (.iconst 1, 1) := by decide +kernel
theorem dX8_init_54 : decode cX8_init 54 = .ok (.iastore, 1) := by decide +kernel
theorem dX8_init_55 : decode cX8_init 55 = .ok (.aload_n 0, 1) := by decide +kernel
theorem dX8_init_56 : decode cX8_init 56 = .ok (.iconst 3, 1) := by decide +kernel
theorem dX8_init_57 : decode cX8_init 57 = .ok (.invokevirtual 25, 3) := by decide +kernel
theorem dX8_init_60 : decode cX8_init 60 = .ok (.return_, 1) := by decide +kernel
theorem dX8_within_0 : decode cX8_within 0 = .ok (.iload_n 0, 1) := by decide +kernel
theorem dX8_within_1 : decode cX8_within 1 = .ok (.iload_n 1, 1) := by decide +kernel
theorem dX8_within_2 : decode cX8_within 2 = .ok (.if_icmp .lt 12, 3) := by decide +kernel
theorem dX8_within_5 : decode cX8_within 5 = .ok (.iload_n 0, 1) := by decide +kernel
theorem dX8_within_6 : decode cX8_within 6 = .ok (.iload_n 2, 1) := by decide +kernel
theorem dX8_within_7 : decode cX8_within 7 = .ok (.if_icmp .gt 7, 3) := by decide +kernel
theorem dX8_within_10 : decode cX8_within 10 = .ok (.iconst 1, 1) := by decide +kernel
theorem dX8_within_11 : decode cX8_within 11 = .ok (.goto 4, 3) := by decide +kernel
theorem dX8_within_14 : decode cX8_within 14 = .ok (.iconst 0, 1) := by decide +kernel
theorem dX8_within_15 : decode cX8_within 15 = .ok (.ireturn, 1) := by decide +kernel
set_option maxRecDepth 20000 in
theorem ggX8_isLink_X8_within : GoodIn wsX8_isLink wsX8_within := goodIn_r _ [5] (by decide +kernel) (by decide +kernel)
set_option maxRecDepth 20000 in
theorem gX8_isLink_X8_within : GoodIn wsX8_isLink (va_wsS RX8 29 yX8_within wsX8_within) := goodIn_app (goodIn_of _ (by decide +kernel)) ggX8_isLink_X8_within
theorem dX8_isLink_0 : decode cX8_isLink 0 = .ok (.iload_n 1, 1) := by decide +kernel
theorem dX8_isLink_1 : decode cX8_isLink 1 = .ok (.iconst 0, 1) := by decide +kernel
theorem dX8_isLink_2 : decode cX8_isLink 2 = .ok (.aload_n 0, 1) := by decide +kernel
theorem dX8_isLink_3 : decode cX8_isLink 3 = .ok (.getfield 7, 3) := by decide +kernel
theorem dX8_isLink_6 : decode cX8_isLink 6 = .ok (.iconst 3, 1) := by decide +kernel
theorem dX8_isLink_7 : decode cX8_isLink 7 = .ok (.iaload, 1) := by decide +kernel
theorem dX8_isLink_8 : decode cX8_isLink 8 = .ok (.invokestatic 29, 3) := by decide +kernel
theorem dX8_isLink_11 : decode cX8_isLink 11 = .ok (.ireturn, 1) := by decide +kernel
set_option maxRecDepth 20000 in
theorem ggX8_isWire_X8_within : GoodIn wsX8_isWire wsX8_within := goodIn_r _ [4] (by decide +kernel) (by decide +kernel)
set_option maxRecDepth 20000 in
theorem gX8_isWire_X8_within : GoodIn wsX8_isWire (va_wsS RX8 29 yX8_within wsX8_within) := goodIn_app (goodIn_of _ (by decide +kernel)) ggX8_isWire_X8_within
theorem dX8_isWire_0 : decode cX8_isWire 0 = .ok (.iload_n 0, 1) := by decide +kernel
theorem dX8_isWire_1 : decode cX8_isWire 1 = .ok (.iconst 0, 1) := by decide +kernel
theorem dX8_isWire_2 : decode cX8_isWire 2 = .ok (.iconst 2, 1) := by decide +kernel
theorem dX8_isWire_3 : decode cX8_isWire 3 = .ok (.invokestatic 29, 3) := by decide +kernel
theorem dX8_isWire_6 : decode cX8_isWire 6 = .ok (.ireturn, 1) := by decide +kernel
set_option maxRecDepth 20000 in
theorem ggX8_isSender_X8_within : GoodIn wsX8_isSender wsX8_within := goodIn_r _ [4] (by decide +kernel) (by decide +kernel)
set_option maxRecDepth 20000 in
theorem gX8_isSender_X8_within : GoodIn wsX8_isSender (va_wsS RX8 29 yX8_within wsX8_within) := goodIn_app (goodIn_of _ (by decide +kernel)) ggX8_isSender_X8_within
end
section
theorem dX8_isSender_0 : decode cX8_isSender 0 = .ok (.iload_n 0, 1) := by decide +kernel
theorem dX8_isSender_1 : decode cX8_isSender 1 = .ok (.iconst 0, 1) := by decide +kernel
theorem dX8_isSender_2 : decode cX8_isSender 2 = .ok (.iconst 1, 1) := by decide +kernel
theorem dX8_isSender_3 : decode cX8_isSender 3 = .ok (.invokestatic 29, 3) := by decide +kernel
theorem dX8_isSender_6 : decode cX8_isSender 6 = .ok (.ireturn, 1) := by decide +kernel
theorem dX8_end_0 : decode cX8_end 0 = .ok (.aload_n 0, 1) := by decide +kernel
theorem dX8_end_1 : decode cX8_end 1 = .ok (.getfield 7, 3) := by decide +kernel
theorem dX8_end_4 : decode cX8_end 4 = .ok (.bipush 34, 2) := by decide +kernel
theorem dX8_end_6 : decode cX8_end 6 = .ok (.bipush 6, 2) := by decide +kernel
theorem dX8_end_8 : decode cX8_end 8 = .ok (.iload_n 1, 1) := by decide +kernel
theorem dX8_end_9 : decode cX8_end 9 = .ok (.imul, 1) := by decide +kernel
theorem dX8_end_10 : decode cX8_end 10 = .ok (.iadd, 1) := by decide +kernel
theorem dX8_end_11 : decode cX8_end 11 = .ok (.iload_n 2, 1) := by decide +kernel
theorem dX8_end_12 : decode cX8_end 12 = .ok (.iadd, 1) := by decide +kernel
theorem dX8_end_13 : decode cX8_end 13 = .ok (.iaload, 1) := by decide +kernel
theorem dX8_end_14 : decode cX8_end 14 = .ok (.ireturn, 1) := by decide +kernel
theorem dX8_setEnd_0 : decode cX8_setEnd 0 = .ok (.aload_n 0, 1) := by decide +kernel
theorem dX8_setEnd_1 : decode cX8_setEnd 1 = .ok (.getfield 7, 3) := by decide +kernel
theorem dX8_setEnd_4 : decode cX8_setEnd 4 = .ok (.bipush 34, 2) := by decide +kernel
theorem dX8_setEnd_6 : decode cX8_setEnd 6 = .ok (.bipush 6, 2) := by decide +kernel
theorem dX8_setEnd_8 : decode cX8_setEnd 8 = .ok (.iload_n 1, 1) := by decide +kernel
theorem dX8_setEnd_9 : decode cX8_setEnd 9 = .ok (.imul, 1) := by decide +kernel
theorem dX8_setEnd_10 : decode cX8_setEnd 10 = .ok (.iadd, 1) := by decide +kernel
theorem dX8_setEnd_11 : decode cX8_setEnd 11 = .ok (.iload_n 2, 1) := by decide +kernel
theorem dX8_setEnd_12 : decode cX8_setEnd 12 = .ok (.iadd, 1) := by decide +kernel
theorem dX8_setEnd_13 : decode cX8_setEnd 13 = .ok (.iload_n 3, 1) := by decide +kernel
theorem dX8_setEnd_14 : decode cX8_setEnd 14 = .ok (.iastore, 1) := by decide +kernel
theorem dX8_setEnd_15 : decode cX8_setEnd 15 = .ok (.return_, 1) := by decide +kernel
theorem dX8_clean_0 : decode cX8_clean 0 = .ok (.iconst 3, 1) := by decide +kernel
theorem dX8_clean_1 : decode cX8_clean 1 = .ok (.istore_n 2, 1) := by decide +kernel
theorem dX8_clean_2 : decode cX8_clean 2 = .ok (.iload_n 2, 1) := by decide +kernel
theorem dX8_clean_3 : decode cX8_clean 3 = .ok (.sipush 719, 3) := by decide +kernel
theorem dX8_clean_6 : decode cX8_clean 6 = .ok (.if_icmp .ge 16, 3) := by decide +kernel
theorem dX8_clean_9 : decode cX8_clean 9 = .ok (.aload_n 0, 1) := by decide +kernel
theorem dX8_clean_10 : decode cX8_clean 10 = .ok (.getfield 7, 3) := by decide +kernel
theorem dX8_clean_13 : decode cX8_clean 13 = .ok (.iload_n 2, 1) := by decide +kernel
theorem dX8_clean_14 : decode cX8_clean 14 = .ok (.iconst 0, 1) := by decide +kernel
theorem dX8_clean_15 : decode cX8_clean 15 = .ok (.iastore, 1) := by decide +kernel
theorem dX8_clean_16 : decode cX8_clean 16 = .ok (.iinc 2 1, 3) := by decide +kernel
theorem dX8_clean_19 : decode cX8_clean 19 = .ok (.goto (-17), 3) := by decide +kernel
theorem dX8_clean_22 : decode cX8_clean 22 = .ok (.aload_n 0, 1) := by decide +kernel
theorem dX8_clean_23 : decode cX8_clean 23 = .ok (.getfield 7, 3) := by decide +kernel
theorem dX8_clean_26 : decode cX8_clean 26 = .ok (.iconst 3, 1) := by decide +kernel
theorem dX8_clean_27 : decode cX8_clean 27 = .ok (.iload_n 1, 1) := by decide +kernel
theorem dX8_clean_28 : decode cX8_clean 28 = .ok (.iastore, 1) := by decide +kernel
theorem dX8_clean_29 : decode cX8_clean 29 = .ok (.aload_n 0, 1) := by decide +kernel
theorem dX8_clean_30 : decode cX8_clean 30 = .ok (.getfield 7, 3) := by decide +kernel
theorem dX8_clean_33 : decode cX8_clean 33 = .ok (.bipush 8, 2) := by decide +kernel
theorem dX8_clean_35 : decode cX8_clean 35 = .ok (.bipush (-5), 2) := by decide +kernel
theorem dX8_clean_37 : decode cX8_clean 37 = .ok (.iastore, 1) := by decide +kernel
theorem dX8_clean_38 : decode cX8_clean 38 = .ok (.iconst 0, 1) := by decide +kernel
theorem dX8_clean_39 : decode cX8_clean 39 = .ok (.istore_n 2, 1) := by decide +kernel
theorem dX8_clean_40 : decode cX8_clean 40 = .ok (.iload_n 2, 1) := by decide +kernel
theorem dX8_clean_41 : decode cX8_clean 41 = .ok (.bipush 6, 2) := by decide +kernel
theorem dX8_clean_43 : decode cX8_clean 43 = .ok (.if_icmp .gt 46, 3) := by decide +kernel
theorem dX8_clean_46 : decode cX8_clean 46 = .ok (.aload_n 0, 1) := by decide +kernel
theorem dX8_clean_47 : decode cX8_clean 47 = .ok (.getfield 7, 3) := by decide +kernel
theorem dX8_clean_50 : decode cX8_clean 50 = .ok (.bipush 76, 2) := by decide +kernel
theorem dX8_clean_52 : decode cX8_clean 52 = .ok (.iload_n 2, 1) := by decide +kernel
theorem dX8_clean_53 : decode cX8_clean 53 = .ok (.iadd, 1) := by decide +kernel
theorem dX8_clean_54 : decode cX8_clean 54 = .ok (.iconst 1, 1) := by decide +kernel
theorem dX8_clean_55 : decode cX8_clean 55 = .ok (.iastore, 1) := by decide +kernel
theorem dX8_clean_56 : decode cX8_clean 56 = .ok (.iconst 0, 1) := by decide +kernel
theorem dX8_clean_57 : decode cX8_clean 57 = .ok (.istore_n 3, 1) := by decide +kernel
theorem dX8_clean_58 : decode cX8_clean 58 = .ok (.iload_n 3, 1) := by decide +kernel
theorem dX8_clean_59 : decode cX8_clean 59 = .ok (.iconst 2, 1) := by decide +kernel
theorem dX8_clean_60 : decode cX8_clean 60 = .ok (.if_icmp .gt 23, 3) := by decide +kernel
theorem dX8_clean_63 : decode cX8_clean 63 = .ok (.aload_n 0, 1) := by decide +kernel
theorem dX8_clean_64 : decode cX8_clean 64 = .ok (.getfield 7, 3) := by decide +kernel
theorem dX8_clean_67 : decode cX8_clean 67 = .ok (.bipush 13, 2) := by decide +kernel
theorem dX8_clean_69 : decode cX8_clean 69 = .ok (.iconst 3, 1) := by decide +kernel
theorem dX8_clean_70 : decode cX8_clean 70 = .ok (.iload_n 2, 1) := by decide +kernel
theorem dX8_clean_71 : decode cX8_clean 71 = .ok (.imul, 1) := by decide +kernel
theorem dX8_clean_72 : decode cX8_clean 72 = .ok (.iadd, 1) := by decide +kernel
theorem dX8_clean_73 : decode cX8_clean 73 = .ok (.iload_n 3, 1) := by decide +kernel
theorem dX8_clean_74 : decode cX8_clean 74 = .ok (.iadd, 1) := by decide +kernel
theorem dX8_clean_75 : decode cX8_clean 75 = .ok (.iconst 2, 1) := by decide +kernel
theorem dX8_clean_76 : decode cX8_clean 76 = .ok (.iastore, 1) := by decide +kernel
theorem dX8_clean_77 : decode cX8_clean 77 = .ok (.iinc 3 1, 3) := by decide +kernel
theorem dX8_clean_80 : decode cX8_clean 80 = .ok (.goto (-22), 3) := by decide +kernel
theorem dX8_clean_83 : decode cX8_clean 83 = .ok (.iinc 2 1, 3) := by decide +kernel
theorem dX8_clean_86 : decode cX8_clean 86 = .ok (.goto (-46), 3) := by decide +kernel
theorem dX8_clean_89 : decode cX8_clean 89 = .ok (.return_, 1) := by decide +kernel
theorem dX8_putAside_0 : decode cX8_putAside 0 = .ok (.iconst 0, 1) := by decide +kernel
theorem dX8_putAside_1 : decode cX8_putAside 1 = .ok (.istore_n 1, 1) := by decide +kernel
theorem dX8_putAside_2 : decode cX8_putAside 2 = .ok (.iload_n 1, 1) := by decide +kernel
theorem dX8_putAside_3 : decode cX8_putAside 3 = .ok (.sipush 719, 3) := by decide +kernel
theorem dX8_putAside_6 : decode cX8_putAside 6 = .ok (.if_icmp .ge 21, 3) := by decide +kernel
theorem dX8_putAside_9 : decode cX8_putAside 9 = .ok (.aload_n 0, 1) := by decide +kernel
theorem dX8_putAside_10 : decode cX8_putAside 10 = .ok (.getfield 13, 3) := by decide +kernel
theorem dX8_putAside_13 : decode cX8_putAside 13 = .ok (.iload_n 1, 1) := by decide +kernel
theorem dX8_putAside_14 : decode cX8_putAside 14 = .ok (.aload_n 0, 1) := by decide +kernel
theorem dX8_putAside_15 : decode cX8_putAside 15 = .ok (.getfield 7, 3) := by decide +kernel
theorem dX8_putAside_18 : decode cX8_putAside 18 = .ok (.iload_n 1, 1) := by decide +kernel
theorem dX8_putAside_19 : decode cX8_putAside 19 = .ok (.iaload, 1) := by decide +kernel
theorem dX8_putAside_20 : decode cX8_putAside 20 = .ok (.iastore, 1) := by decide +kernel
theorem dX8_putAside_21 : decode cX8_putAside 21 = .ok (.iinc 1 1, 3) := by decide +kernel
theorem dX8_putAside_24 : decode cX8_putAside 24 = .ok (.goto (-22), 3) := by decide +kernel
theorem dX8_putAside_27 : decode cX8_putAside 27 = .ok (.return_, 1) := by decide +kernel
theorem dX8_takeBack_0 : decode cX8_takeBack 0 = .ok (.iconst 0, 1) := by decide +kernel
theorem dX8_takeBack_1 : decode cX8_takeBack 1 = .ok (.istore_n 1, 1) := by decide +kernel
theorem dX8_takeBack_2 : decode cX8_takeBack 2 = .ok (.iload_n 1, 1) := by decide +kernel
theorem dX8_takeBack_3 : decode cX8_takeBack 3 = .ok (.sipush 719, 3) := by decide +kernel
theorem dX8_takeBack_6 : decode cX8_takeBack 6 = .ok (.if_icmp .ge 21, 3) := by decide +kernel
theorem dX8_takeBack_9 : decode cX8_takeBack 9 = .ok (.aload_n 0, 1) := by decide +kernel
theorem dX8_takeBack_10 : decode cX8_takeBack 10 = .ok (.getfield 7, 3) := by decide +kernel
theorem dX8_takeBack_13 : decode cX8_takeBack 13 = .ok (.iload_n 1, 1) := by decide +kernel
theorem dX8_takeBack_14 : decode cX8_takeBack 14 = .ok (.aload_n 0, 1) := by decide +kernel
theorem dX8_takeBack_15 : decode cX8_takeBack 15 = .ok (.getfield 13, 3) := by decide +kernel
theorem dX8_takeBack_18 : decode cX8_takeBack 18 = .ok (.iload_n 1, 1) := by decide +kernel
theorem dX8_takeBack_19 : decode cX8_takeBack 19 = .ok (.iaload, 1) := by decide +kernel
theorem dX8_takeBack_20 : decode cX8_takeBack 20 = .ok (.iastore, 1) := by decide +kernel
theorem dX8_takeBack_21 : decode cX8_takeBack 21 = .ok (.iinc 1 1, 3) := by decide +kernel
theorem dX8_takeBack_24 : decode cX8_takeBack 24 = .ok (.goto (-22), 3) := by decide +kernel
theorem dX8_takeBack_27 : decode cX8_takeBack 27 = .ok (.return_, 1) := by decide +kernel
theorem dX8_push_0 : decode cX8_push 0 = .ok (.aload_n 0, 1) := by decide +kernel
theorem dX8_push_1 : decode cX8_push 1 = .ok (.getfield 33, 3) := by decide +kernel
theorem dX8_push_4 : decode cX8_push 4 = .ok (.iconst 4, 1) := by decide +kernel
theorem dX8_push_5 : decode cX8_push 5 = .ok (.if_icmp .ne 44, 3) := by decide +kernel
theorem dX8_push_8 : decode cX8_push 8 = .ok (.iconst 0, 1) := by decide +kernel
theorem dX8_push_9 : decode cX8_push 9 = .ok (.istore_n 1, 1) := by decide +kernel
theorem dX8_push_10 : decode cX8_push 10 = .ok (.iload_n 1, 1) := by decide +kernel
theorem dX8_push_11 : decode cX8_push 11 = .ok (.sipush 2157, 3) := by decide +kernel
theorem dX8_push_14 : decode cX8_push 14 = .ok (.if_icmp .ge 25, 3) := by decide +kernel
theorem dX8_push_17 : decode cX8_push 17 = .ok (.aload_n 0, 1) := by decide +kernel
theorem dX8_push_18 : decode cX8_push 18 = .ok (.getfield 16, 3) := by decide +kernel
theorem dX8_push_21 : decode cX8_push 21 = .ok (.iload_n 1, 1) := by decide +kernel
theorem dX8_push_22 : decode cX8_push 22 = .ok (.aload_n 0, 1) := by decide +kernel
theorem dX8_push_23 : decode cX8_push 23 = .ok (.getfield 16, 3) := by decide +kernel
theorem dX8_push_26 : decode cX8_push 26 = .ok (.iload_n 1, 1) := by decide +kernel
theorem dX8_push_27 : decode cX8_push 27 = .ok (.sipush 719, 3) := by decide +kernel
theorem dX8_push_30 : decode cX8_push 30 = .ok (.iadd, 1) := by decide +kernel
theorem dX8_push_31 : decode cX8_push 31 = .ok (.iaload, 1) := by decide +kernel
theorem dX8_push_32 : decode cX8_push 32 = .ok (.iastore, 1) := by decide +kernel
theorem dX8_push_33 : decode cX8_push 33 = .ok (.iinc 1 1, 3) := by decide +kernel
theorem dX8_push_36 : decode cX8_push 36 = .ok (.goto (-26), 3) := by decide +kernel
theorem dX8_push_39 : decode cX8_push 39 = .ok (.aload_n 0, 1) := by decide +kernel
theorem dX8_push_40 : decode cX8_push 40 = .ok (.dup, 1) := by decide +kernel
theorem dX8_push_41 : decode cX8_push 41 = .ok (.getfield 33, 3) := by decide +kernel
theorem dX8_push_44 : decode cX8_push 44 = .ok (.iconst 1, 1) := by decide +kernel
theorem dX8_push_45 : decode cX8_push 45 = .ok (.isub, 1) := by decide +kernel
theorem dX8_push_46 : decode cX8_push 46 = .ok (.putfield 33, 3) := by decide +kernel
theorem dX8_push_49 : decode cX8_push 49 = .ok (.iconst 0, 1) := by decide +kernel
theorem dX8_push_50 : decode cX8_push 50 = .ok (.istore_n 1, 1) := by decide +kernel
theorem dX8_push_51 : decode cX8_push 51 = .ok (.iload_n 1, 1) := by decide +kernel
theorem dX8_push_52 : decode cX8_push 52 = .ok (.sipush 719, 3) := by decide +kernel
theorem dX8_push_55 : decode cX8_push 55 = .ok (.if_icmp .ge 30, 3) := by decide +kernel
theorem dX8_push_58 : decode cX8_push 58 = .ok (.aload_n 0, 1) := by decide +kernel
theorem dX8_push_59 : decode cX8_push 59 = .ok (.getfield 16, 3) := by decide +kernel
theorem dX8_push_62 : decode cX8_push 62 = .ok (.aload_n 0, 1) := by decide +kernel
theorem dX8_push_63 : decode cX8_push 63 = .ok (.getfield 33, 3) := by decide +kernel
theorem dX8_push_66 : decode cX8_push 66 = .ok (.sipush 719, 3) := by decide +kernel
theorem dX8_push_69 : decode cX8_push 69 = .ok (.imul, 1) := by decide +kernel
theorem dX8_push_70 : decode cX8_push 70 = .ok (.iload_n 1, 1) := by decide +kernel
theorem dX8_push_71 : decode cX8_push 71 = .ok (.iadd, 1) := by decide +kernel
theorem dX8_push_72 : decode cX8_push 72 = .ok (.aload_n 0, 1) := by decide +kernel
theorem dX8_push_73 : decode cX8_push 73 = .ok (.getfield 13, 3) := by decide +kernel
theorem dX8_push_76 : decode cX8_push 76 = .ok (.iload_n 1, 1) := by decide +kernel
theorem dX8_push_77 : decode cX8_push 77 = .ok (.iaload, 1) := by decide +kernel
theorem dX8_push_78 : decode cX8_push 78 = .ok (.iastore, 1) := by decide +kernel
theorem dX8_push_79 : decode cX8_push 79 = .ok (.iinc 1 1, 3) := by decide +kernel
theorem dX8_push_82 : decode cX8_push 82 = .ok (.goto (-31), 3) := by decide +kernel
theorem dX8_push_85 : decode cX8_push 85 = .ok (.aload_n 0, 1) := by decide +kernel
theorem dX8_push_86 : decode cX8_push 86 = .ok (.dup, 1) := by decide +kernel
theorem dX8_push_87 : decode cX8_push 87 = .ok (.getfield 33, 3) := by decide +kernel
theorem dX8_push_90 : decode cX8_push 90 = .ok (.iconst 1, 1) := by decide +kernel
theorem dX8_push_91 : decode cX8_push 91 = .ok (.iadd, 1) := by decide +kernel
theorem dX8_push_92 : decode cX8_push 92 = .ok (.putfield 33, 3) := by decide +kernel
theorem dX8_push_95 : decode cX8_push 95 = .ok (.return_, 1) := by decide +kernel
set_option maxRecDepth 20000 in
theorem ggX8_record_X8_putAside : GoodIn wsX8_record wsX8_putAside := goodIn_r _ [5, 6, 7, 14, 15, 16, 17, 18, 19, 20, 21, 22, 23, 24, 25] (by decide +kernel) (by decide +kernel)
set_option maxRecDepth 20000 in
theorem gX8_record_X8_putAside : GoodIn wsX8_record (wsV RX8 37 RX8 yX8_putAside wsX8_putAside) := goodIn_app (goodIn_of _ (by decide +kernel)) ggX8_record_X8_putAside
set_option maxRecDepth 20000 in
theorem ggX8_record_X8_push : GoodIn wsX8_record wsX8_push := goodIn_r _ [11, 12, 13, 6, 14, 15, 16, 17, 18, 19, 20, 21, 22, 23, 24, 25] (by decide +kernel) (by decide +kernel)
set_option maxRecDepth 20000 in
theorem gX8_record_X8_push : GoodIn wsX8_record (wsV RX8 40 RX8 yX8_push wsX8_push) := goodIn_app (goodIn_of _ (by decide +kernel)) ggX8_record_X8_push
theorem dX8_record_0 : decode cX8_record 0 = .ok (.aload_n 0, 1) := by decide +kernel
theorem dX8_record_1 : decode cX8_record 1 = .ok (.invokevirtual 37, 3) := by decide +kernel
theorem dX8_record_4 : decode cX8_record 4 = .ok (.aload_n 0, 1) := by decide +kernel
theorem dX8_record_5 : decode cX8_record 5 = .ok (.invokevirtual 40, 3) := by decide +kernel
theorem dX8_record_8 : decode cX8_record 8 = .ok (.return_, 1) := by decide +kernel
theorem dX8_undo_0 : decode cX8_undo 0 = .ok (.aload_n 0, 1) := by decide +kernel
theorem dX8_undo_1 : decode cX8_undo 1 = .ok (.getfield 33, 3) := by decide +kernel
theorem dX8_undo_4 : decode cX8_undo 4 = .ok (.ifCond .ne 6, 3) := by decide +kernel
theorem dX8_undo_7 : decode cX8_undo 7 = .ok (.bipush (-5), 2) := by decide +kernel
theorem dX8_undo_9 : decode cX8_undo 9 = .ok (.ireturn, 1) := by decide +kernel
theorem dX8_undo_10 : decode cX8_undo 10 = .ok (.aload_n 0, 1) := by decide +kernel
theorem dX8_undo_11 : decode cX8_undo 11 = .ok (.dup, 1) := by decide +kernel
theorem dX8_undo_12 : decode cX8_undo 12 = .ok (.getfield 33, 3) := by decide +kernel
theorem dX8_undo_15 : decode cX8_undo 15 = .ok (.iconst 1, 1) := by decide +kernel
theorem dX8_undo_16 : decode cX8_undo 16 = .ok (.isub, 1) := by decide +kernel
theorem dX8_undo_17 : decode cX8_undo 17 = .ok (.putfield 33, 3) := by decide +kernel
theorem dX8_undo_20 : decode cX8_undo 20 = .ok (.iconst 0, 1) := by decide +kernel
theorem dX8_undo_21 : decode cX8_undo 21 = .ok (.istore_n 1, 1) := by decide +kernel
theorem dX8_undo_22 : decode cX8_undo 22 = .ok (.iload_n 1, 1) := by decide +kernel
theorem dX8_undo_23 : decode cX8_undo 23 = .ok (.sipush 719, 3) := by decide +kernel
theorem dX8_undo_26 : decode cX8_undo 26 = .ok (.if_icmp .ge 30, 3) := by decide +kernel
theorem dX8_undo_29 : decode cX8_undo 29 = .ok (.aload_n 0, 1) := by decide +kernel
theorem dX8_undo_30 : decode cX8_undo 30 = .ok (.getfield 7, 3) := by decide +kernel
theorem dX8_undo_33 : decode cX8_undo 33 = .ok (.iload_n 1, 1) := by decide +kernel
theorem dX8_undo_34 : decode cX8_undo 34 = .ok (.aload_n 0, 1) := by decide +kernel
theorem dX8_undo_35 : decode cX8_undo 35 = .ok (.getfield 16, 3) := by decide +kernel
theorem dX8_undo_38 : decode cX8_undo 38 = .ok (.aload_n 0, 1) := by decide +kernel
theorem dX8_undo_39 : decode cX8_undo 39 = .ok (.getfield 33, 3) := by decide +kernel
theorem dX8_undo_42 : decode cX8_undo 42 = .ok (.sipush 719, 3) := by decide +kernel
theorem dX8_undo_45 : decode cX8_undo 45 = .ok (.imul, 1) := by decide +kernel
theorem dX8_undo_46 : decode cX8_undo 46 = .ok (.iload_n 1, 1) := by decide +kernel
theorem dX8_undo_47 : decode cX8_undo 47 = .ok (.iadd, 1) := by decide +kernel
theorem dX8_undo_48 : decode cX8_undo 48 = .ok (.iaload, 1) := by decide +kernel
theorem dX8_undo_49 : decode cX8_undo 49 = .ok (.iastore, 1) := by decide +kernel
theorem dX8_undo_50 : decode cX8_undo 50 = .ok (.iinc 1 1, 3) := by decide +kernel
theorem dX8_undo_53 : decode cX8_undo 53 = .ok (.goto (-31), 3) := by decide +kernel
theorem dX8_undo_56 : decode cX8_undo 56 = .ok (.aload_n 0, 1) := by decide +kernel
theorem dX8_undo_57 : decode cX8_undo 57 = .ok (.getfield 33, 3) := by decide +kernel
theorem dX8_undo_60 : decode cX8_undo 60 = .ok (.ireturn, 1) := by decide +kernel
theorem dX8_keep_0 : decode cX8_keep 0 = .ok (.iconst 0, 1) := by decide +kernel
theorem dX8_keep_1 : decode cX8_keep 1 = .ok (.istore_n 1, 1) := by decide +kernel
theorem dX8_keep_2 : decode cX8_keep 2 = .ok (.iload_n 1, 1) := by decide +kernel
theorem dX8_keep_3 : decode cX8_keep 3 = .ok (.sipush 719, 3) := by decide +kernel
theorem dX8_keep_6 : decode cX8_keep 6 = .ok (.if_icmp .ge 21, 3) := by decide +kernel
theorem dX8_keep_9 : decode cX8_keep 9 = .ok (.aload_n 0, 1) := by decide +kernel
theorem dX8_keep_10 : decode cX8_keep 10 = .ok (.getfield 19, 3) := by decide +kernel
theorem dX8_keep_13 : decode cX8_keep 13 = .ok (.iload_n 1, 1) := by decide +kernel
theorem dX8_keep_14 : decode cX8_keep 14 = .ok (.aload_n 0, 1) := by decide +kernel
theorem dX8_keep_15 : decode cX8_keep 15 = .ok (.getfield 7, 3) := by decide +kernel
theorem dX8_keep_18 : decode cX8_keep 18 = .ok (.iload_n 1, 1) := by decide +kernel
theorem dX8_keep_19 : decode cX8_keep 19 = .ok (.iaload, 1) := by decide +kernel
theorem dX8_keep_20 : decode cX8_keep 20 = .ok (.iastore, 1) := by decide +kernel
theorem dX8_keep_21 : decode cX8_keep 21 = .ok (.iinc 1 1, 3) := by decide +kernel
theorem dX8_keep_24 : decode cX8_keep 24 = .ok (.goto (-22), 3) := by decide +kernel
theorem dX8_keep_27 : decode cX8_keep 27 = .ok (.aload_n 0, 1) := by decide +kernel
theorem dX8_keep_28 : decode cX8_keep 28 = .ok (.iconst 1, 1) := by decide +kernel
theorem dX8_keep_29 : decode cX8_keep 29 = .ok (.putfield 43, 3) := by decide +kernel
theorem dX8_keep_32 : decode cX8_keep 32 = .ok (.aload_n 0, 1) := by decide +kernel
theorem dX8_keep_33 : decode cX8_keep 33 = .ok (.getfield 7, 3) := by decide +kernel
theorem dX8_keep_36 : decode cX8_keep 36 = .ok (.iconst 4, 1) := by decide +kernel
theorem dX8_keep_37 : decode cX8_keep 37 = .ok (.iaload, 1) := by decide +kernel
theorem dX8_keep_38 : decode cX8_keep 38 = .ok (.ireturn, 1) := by decide +kernel
set_option maxRecDepth 20000 in
theorem ggX8_restore_X8_record : GoodIn wsX8_restore wsX8_record := goodIn_r _ [8, 9, 10, 11, 7, 12, 13, 2, 14, 15, 16, 17, 18, 19, 20, 21, 22, 23, 24, 25, 26, 27, 28, 29, 30, 31] (by decide +kernel) (by decide +kernel)
set_option maxRecDepth 20000 in
theorem gX8_restore_X8_record : GoodIn wsX8_restore (wsV RX8 47 RX8 yX8_record wsX8_record) := goodIn_app (goodIn_of _ (by decide +kernel)) ggX8_restore_X8_record
theorem dX8_restore_0 : decode cX8_restore 0 = .ok (.aload_n 0, 1) := by decide +kernel
theorem dX8_restore_1 : decode cX8_restore 1 = .ok (.getfield 43, 3) := by decide +kernel
theorem dX8_restore_4 : decode cX8_restore 4 = .ok (.ifCond .ne 6, 3) := by decide +kernel
theorem dX8_restore_7 : decode cX8_restore 7 = .ok (.bipush (-5), 2) := by decide +kernel
theorem dX8_restore_9 : decode cX8_restore 9 = .ok (.ireturn, 1) := by decide +kernel
theorem dX8_restore_10 : decode cX8_restore 10 = .ok (.aload_n 0, 1) := by decide +kernel
theorem dX8_restore_11 : decode cX8_restore 11 = .ok (.invokevirtual 47, 3) := by decide +kernel
theorem dX8_restore_14 : decode cX8_restore 14 = .ok (.iconst 0, 1) := by decide +kernel
theorem dX8_restore_15 : decode cX8_restore 15 = .ok (.istore_n 1, 1) := by decide +kernel
theorem dX8_restore_16 : decode cX8_restore 16 = .ok (.iload_n 1, 1) := by decide +kernel
theorem dX8_restore_17 : decode cX8_restore 17 = .ok (.sipush 719, 3) := by decide +kernel
theorem dX8_restore_20 : decode cX8_restore 20 = .ok (.if_icmp .ge 21, 3) := by decide +kernel
theorem dX8_restore_23 : decode cX8_restore 23 = .ok (.aload_n 0, 1) := by decide +kernel
theorem dX8_restore_24 : decode cX8_restore 24 = .ok (.getfield 7, 3) := by decide +kernel
theorem dX8_restore_27 : decode cX8_restore 27 = .ok (.iload_n 1, 1) := by decide +kernel
theorem dX8_restore_28 : decode cX8_restore 28 = .ok (.aload_n 0, 1) := by decide +kernel
theorem dX8_restore_29 : decode cX8_restore 29 = .ok (.getfield 19, 3) := by decide +kernel
theorem dX8_restore_32 : decode cX8_restore 32 = .ok (.iload_n 1, 1) := by decide +kernel
theorem dX8_restore_33 : decode cX8_restore 33 = .ok (.iaload, 1) := by decide +kernel
theorem dX8_restore_34 : decode cX8_restore 34 = .ok (.iastore, 1) := by decide +kernel
theorem dX8_restore_35 : decode cX8_restore 35 = .ok (.iinc 1 1, 3) := by decide +kernel
theorem dX8_restore_38 : decode cX8_restore 38 = .ok (.goto (-22), 3) := by decide +kernel
theorem dX8_restore_41 : decode cX8_restore 41 = .ok (.aload_n 0, 1) := by decide +kernel
theorem dX8_restore_42 : decode cX8_restore 42 = .ok (.getfield 7, 3) := by decide +kernel
theorem dX8_restore_45 : decode cX8_restore 45 = .ok (.iconst 4, 1) := by decide +kernel
theorem dX8_restore_46 : decode cX8_restore 46 = .ok (.iaload, 1) := by decide +kernel
theorem dX8_restore_47 : decode cX8_restore 47 = .ok (.ireturn, 1) := by decide +kernel
theorem dX8_make_0 : decode cX8_make 0 = .ok (.sipush 319, 3) := by decide +kernel
theorem dX8_make_3 : decode cX8_make 3 = .ok (.iconst 4, 1) := by decide +kernel
theorem dX8_make_4 : decode cX8_make 4 = .ok (.aload_n 0, 1) := by decide +kernel
theorem dX8_make_5 : decode cX8_make 5 = .ok (.getfield 7, 3) := by decide +kernel
theorem dX8_make_8 : decode cX8_make 8 = .ok (.bipush 10, 2) := by decide +kernel
theorem dX8_make_10 : decode cX8_make 10 = .ok (.iaload, 1) := by decide +kernel
theorem dX8_make_11 : decode cX8_make 11 = .ok (.imul, 1) := by decide +kernel
theorem dX8_make_12 : decode cX8_make 12 = .ok (.iadd, 1) := by decide +kernel
theorem dX8_make_13 : decode cX8_make 13 = .ok (.istore 5, 2) := by decide +kernel
theorem dX8_make_15 : decode cX8_make 15 = .ok (.aload_n 0, 1) := by decide +kernel
theorem dX8_make_16 : decode cX8_make 16 = .ok (.getfield 7, 3) := by decide +kernel
theorem dX8_make_19 : decode cX8_make 19 = .ok (.iload 5, 2) := by decide +kernel
theorem dX8_make_21 : decode cX8_make 21 = .ok (.iconst 0, 1) := by decide +kernel
theorem dX8_make_22 : decode cX8_make 22 = .ok (.iadd, 1) := by decide +kernel
theorem dX8_make_23 : decode cX8_make 23 = .ok (.aload_n 0, 1) := by decide +kernel
theorem dX8_make_24 : decode cX8_make 24 = .ok (.getfield 7, 3) := by decide +kernel
theorem dX8_make_27 : decode cX8_make 27 = .ok (.iconst 4, 1) := by decide +kernel
theorem dX8_make_28 : decode cX8_make 28 = .ok (.iaload, 1) := by decide +kernel
theorem dX8_make_29 : decode cX8_make 29 = .ok (.aload_n 0, 1) := by decide +kernel
theorem dX8_make_30 : decode cX8_make 30 = .ok (.getfield 7, 3) := by decide +kernel
theorem dX8_make_33 : decode cX8_make 33 = .ok (.bipush 13, 2) := by decide +kernel
theorem dX8_make_35 : decode cX8_make 35 = .ok (.iconst 3, 1) := by decide +kernel
theorem dX8_make_36 : decode cX8_make 36 = .ok (.iload_n 1, 1) := by decide +kernel
theorem dX8_make_37 : decode cX8_make 37 = .ok (.imul, 1) := by decide +kernel
theorem dX8_make_38 : decode cX8_make 38 = .ok (.iadd, 1) := by decide +kernel
theorem dX8_make_39 : decode cX8_make 39 = .ok (.iload_n 2, 1) := by decide +kernel
theorem dX8_make_40 : decode cX8_make 40 = .ok (.iadd, 1) := by decide +kernel
theorem dX8_make_41 : decode cX8_make 41 = .ok (.iaload, 1) := by decide +kernel
theorem dX8_make_42 : decode cX8_make 42 = .ok (.iadd, 1) := by decide +kernel
theorem dX8_make_43 : decode cX8_make 43 = .ok (.iload 4, 2) := by decide +kernel
theorem dX8_make_45 : decode cX8_make 45 = .ok (.iadd, 1) := by decide +kernel
theorem dX8_make_46 : decode cX8_make 46 = .ok (.iastore, 1) := by decide +kernel
theorem dX8_make_47 : decode cX8_make 47 = .ok (.aload_n 0, 1) := by decide +kernel
theorem dX8_make_48 : decode cX8_make 48 = .ok (.getfield 7, 3) := by decide +kernel
theorem dX8_make_51 : decode cX8_make 51 = .ok (.iload 5, 2) := by decide +kernel
theorem dX8_make_53 : decode cX8_make 53 = .ok (.iconst 1, 1) := by decide +kernel
theorem dX8_make_54 : decode cX8_make 54 = .ok (.iadd, 1) := by decide +kernel
theorem dX8_make_55 : decode cX8_make 55 = .ok (.iload_n 1, 1) := by decide +kernel
theorem dX8_make_56 : decode cX8_make 56 = .ok (.iastore, 1) := by decide +kernel
theorem dX8_make_57 : decode cX8_make 57 = .ok (.aload_n 0, 1) := by decide +kernel
theorem dX8_make_58 : decode cX8_make 58 = .ok (.getfield 7, 3) := by decide +kernel
theorem dX8_make_61 : decode cX8_make 61 = .ok (.iload 5, 2) := by decide +kernel
theorem dX8_make_63 : decode cX8_make 63 = .ok (.iconst 2, 1) := by decide +kernel
theorem dX8_make_64 : decode cX8_make 64 = .ok (.iadd, 1) := by decide +kernel
theorem dX8_make_65 : decode cX8_make 65 = .ok (.iload_n 2, 1) := by decide +kernel
theorem dX8_make_66 : decode cX8_make 66 = .ok (.iastore, 1) := by decide +kernel
theorem dX8_make_67 : decode cX8_make 67 = .ok (.aload_n 0, 1) := by decide +kernel
theorem dX8_make_68 : decode cX8_make 68 = .ok (.getfield 7, 3) := by decide +kernel
theorem dX8_make_71 : decode cX8_make 71 = .ok (.iload 5, 2) := by decide +kernel
theorem dX8_make_73 : decode cX8_make 73 = .ok (.iconst 3, 1) := by decide +kernel
theorem dX8_make_74 : decode cX8_make 74 = .ok (.iadd, 1) := by decide +kernel
theorem dX8_make_75 : decode cX8_make 75 = .ok (.iload_n 3, 1) := by decide +kernel
theorem dX8_make_76 : decode cX8_make 76 = .ok (.iastore, 1) := by decide +kernel
theorem dX8_make_77 : decode cX8_make 77 = .ok (.aload_n 0, 1) := by decide +kernel
theorem dX8_make_78 : decode cX8_make 78 = .ok (.getfield 7, 3) := by decide +kernel
theorem dX8_make_81 : decode cX8_make 81 = .ok (.bipush 10, 2) := by decide +kernel
theorem dX8_make_83 : decode cX8_make 83 = .ok (.dup2, 1) := by decide +kernel
theorem dX8_make_84 : decode cX8_make 84 = .ok (.iaload, 1) := by decide +kernel
theorem dX8_make_85 : decode cX8_make 85 = .ok (.iconst 1, 1) := by decide +kernel
theorem dX8_make_86 : decode cX8_make 86 = .ok (.iadd, 1) := by decide +kernel
theorem dX8_make_87 : decode cX8_make 87 = .ok (.iastore, 1) := by decide +kernel
theorem dX8_make_88 : decode cX8_make 88 = .ok (.return_, 1) := by decide +kernel
set_option maxRecDepth 20000 in
theorem ggX8_offer_X8_setEnd : GoodIn wsX8_offer wsX8_setEnd := goodIn_r _ [6, 1, 11, 12, 13, 14, 15, 16, 17, 18, 19, 20, 21, 22] (by decide +kernel) (by decide +kernel)
set_option maxRecDepth 20000 in
theorem gX8_offer_X8_setEnd : GoodIn wsX8_offer (wsV RX8 50 RX8 yX8_setEnd wsX8_setEnd) := goodIn_app (goodIn_of _ (by decide +kernel)) ggX8_offer_X8_setEnd
set_option maxRecDepth 20000 in
theorem ggX8_offer_X8_make : GoodIn wsX8_offer wsX8_make := goodIn_r _ [10, 1, 11, 12, 13, 14, 15, 16, 17, 18, 19, 20, 21, 22] (by decide +kernel) (by decide +kernel)
set_option maxRecDepth 20000 in
theorem gX8_offer_X8_make : GoodIn wsX8_offer (wsV RX8 54 RX8 yX8_make wsX8_make) := goodIn_app (goodIn_of _ (by decide +kernel)) ggX8_offer_X8_make
theorem dX8_offer_0 : decode cX8_offer 0 = .ok (.aload_n 0, 1) := by decide +kernel
theorem dX8_offer_1 : decode cX8_offer 1 = .ok (.iload_n 1, 1) := by decide +kernel
theorem dX8_offer_2 : decode cX8_offer 2 = .ok (.iconst 4, 1) := by decide +kernel
theorem dX8_offer_3 : decode cX8_offer 3 = .ok (.iload_n 2, 1) := by decide +kernel
theorem dX8_offer_4 : decode cX8_offer 4 = .ok (.invokevirtual 50, 3) := by decide +kernel
theorem dX8_offer_7 : decode cX8_offer 7 = .ok (.aload_n 0, 1) := by decide +kernel
theorem dX8_offer_8 : decode cX8_offer 8 = .ok (.iload_n 1, 1) := by decide +kernel
theorem dX8_offer_9 : decode cX8_offer 9 = .ok (.iconst 2, 1) := by decide +kernel
theorem dX8_offer_10 : decode cX8_offer 10 = .ok (.iload_n 2, 1) := by decide +kernel
theorem dX8_offer_11 : decode cX8_offer 11 = .ok (.iconst 0, 1) := by decide +kernel
theorem dX8_offer_12 : decode cX8_offer 12 = .ok (.invokevirtual 54, 3) := by decide +kernel
theorem dX8_offer_15 : decode cX8_offer 15 = .ok (.aload_n 0, 1) := by decide +kernel
theorem dX8_offer_16 : decode cX8_offer 16 = .ok (.iload_n 1, 1) := by decide +kernel
theorem dX8_offer_17 : decode cX8_offer 17 = .ok (.iconst 0, 1) := by decide +kernel
theorem dX8_offer_18 : decode cX8_offer 18 = .ok (.iconst 1, 1) := by decide +kernel
theorem dX8_offer_19 : decode cX8_offer 19 = .ok (.invokevirtual 50, 3) := by decide +kernel
theorem dX8_offer_22 : decode cX8_offer 22 = .ok (.aload_n 0, 1) := by decide +kernel
theorem dX8_offer_23 : decode cX8_offer 23 = .ok (.iload_n 1, 1) := by decide +kernel
theorem dX8_offer_24 : decode cX8_offer 24 = .ok (.iconst 0, 1) := by decide +kernel
theorem dX8_offer_25 : decode cX8_offer 25 = .ok (.iconst 1, 1) := by decide +kernel
theorem dX8_offer_26 : decode cX8_offer 26 = .ok (.aload_n 0, 1) := by decide +kernel
theorem dX8_offer_27 : decode cX8_offer 27 = .ok (.getfield 7, 3) := by decide +kernel
theorem dX8_offer_30 : decode cX8_offer 30 = .ok (.iconst 0, 1) := by decide +kernel
theorem dX8_offer_31 : decode cX8_offer 31 = .ok (.iaload, 1) := by decide +kernel
theorem dX8_offer_32 : decode cX8_offer 32 = .ok (.invokevirtual 54, 3) := by decide +kernel
theorem dX8_offer_35 : decode cX8_offer 35 = .ok (.aload_n 0, 1) := by decide +kernel
theorem dX8_offer_36 : decode cX8_offer 36 = .ok (.getfield 7, 3) := by decide +kernel
theorem dX8_offer_39 : decode cX8_offer 39 = .ok (.bipush 76, 2) := by decide +kernel
theorem dX8_offer_41 : decode cX8_offer 41 = .ok (.iload_n 1, 1) := by decide +kernel
theorem dX8_offer_42 : decode cX8_offer 42 = .ok (.iadd, 1) := by decide +kernel
theorem dX8_offer_43 : decode cX8_offer 43 = .ok (.iconst 0, 1) := by decide +kernel
theorem dX8_offer_44 : decode cX8_offer 44 = .ok (.iastore, 1) := by decide +kernel
theorem dX8_offer_45 : decode cX8_offer 45 = .ok (.aload_n 0, 1) := by decide +kernel
theorem dX8_offer_46 : decode cX8_offer 46 = .ok (.getfield 7, 3) := by decide +kernel
theorem dX8_offer_49 : decode cX8_offer 49 = .ok (.bipush 90, 2) := by decide +kernel
theorem dX8_offer_51 : decode cX8_offer 51 = .ok (.iload_n 1, 1) := by decide +kernel
theorem dX8_offer_52 : decode cX8_offer 52 = .ok (.iadd, 1) := by decide +kernel
theorem dX8_offer_53 : decode cX8_offer 53 = .ok (.dup2, 1) := by decide +kernel
theorem dX8_offer_54 : decode cX8_offer 54 = .ok (.iaload, 1) := by decide +kernel
theorem dX8_offer_55 : decode cX8_offer 55 = .ok (.iconst 1, 1) := by decide +kernel
theorem dX8_offer_56 : decode cX8_offer 56 = .ok (.iadd, 1) := by decide +kernel
theorem dX8_offer_57 : decode cX8_offer 57 = .ok (.iastore, 1) := by decide +kernel
theorem dX8_offer_58 : decode cX8_offer 58 = .ok (.return_, 1) := by decide +kernel
set_option maxRecDepth 20000 in
theorem ggX8_answer_X8_setEnd : GoodIn wsX8_answer wsX8_setEnd := goodIn_r _ [5, 6, 11, 12, 13, 14, 15, 16, 17, 18, 19, 20, 21, 22] (by decide +kernel) (by decide +kernel)
set_option maxRecDepth 20000 in
theorem gX8_answer_X8_setEnd : GoodIn wsX8_answer (wsV RX8 50 RX8 yX8_setEnd wsX8_setEnd) := goodIn_app (goodIn_of _ (by decide +kernel)) ggX8_answer_X8_setEnd
set_option maxRecDepth 20000 in
theorem ggX8_answer_X8_make : GoodIn wsX8_answer wsX8_make := goodIn_r _ [10, 6, 11, 12, 13, 14, 15, 16, 17, 18, 19, 20, 21, 22] (by decide +kernel) (by decide +kernel)
set_option maxRecDepth 20000 in
theorem gX8_answer_X8_make : GoodIn wsX8_answer (wsV RX8 54 RX8 yX8_make wsX8_make) := goodIn_app (goodIn_of _ (by decide +kernel)) ggX8_answer_X8_make
theorem dX8_answer_0 : decode cX8_answer 0 = .ok (.aload_n 0, 1) := by decide +kernel
theorem dX8_answer_1 : decode cX8_answer 1 = .ok (.iload_n 1, 1) := by decide +kernel
theorem dX8_answer_2 : decode cX8_answer 2 = .ok (.iconst 2, 1) := by decide +kernel
theorem dX8_answer_3 : decode cX8_answer 3 = .ok (.iload_n 2, 1) := by decide +kernel
theorem dX8_answer_4 : decode cX8_answer 4 = .ok (.invokevirtual 50, 3) := by decide +kernel
theorem dX8_answer_7 : decode cX8_answer 7 = .ok (.aload_n 0, 1) := by decide +kernel
theorem dX8_answer_8 : decode cX8_answer 8 = .ok (.iload_n 1, 1) := by decide +kernel
theorem dX8_answer_9 : decode cX8_answer 9 = .ok (.iconst 1, 1) := by decide +kernel
theorem dX8_answer_10 : decode cX8_answer 10 = .ok (.iload_n 2, 1) := by decide +kernel
theorem dX8_answer_11 : decode cX8_answer 11 = .ok (.iload_n 3, 1) := by decide +kernel
theorem dX8_answer_12 : decode cX8_answer 12 = .ok (.invokevirtual 54, 3) := by decide +kernel
theorem dX8_answer_15 : decode cX8_answer 15 = .ok (.return_, 1) := by decide +kernel
set_option maxRecDepth 20000 in
theorem ggX8_take_X8_end : GoodIn wsX8_take wsX8_end := goodIn_r _ [6, 1, 23, 24, 25, 26, 27, 28, 29, 30, 31, 32, 33, 34] (by decide +kernel) (by decide +kernel)
set_option maxRecDepth 20000 in
theorem gX8_take_X8_end : GoodIn wsX8_take (wsV RX8 58 RX8 yX8_end wsX8_end) := goodIn_app (goodIn_of _ (by decide +kernel)) ggX8_take_X8_end
set_option maxRecDepth 20000 in
theorem ggX8_take_X8_answer : GoodIn wsX8_take wsX8_answer := goodIn_r _ [10, 11, 12, 13, 5, 14, 1, 15, 16, 17, 18, 23, 24, 25, 26, 27, 28, 29, 30, 31, 32, 33, 34] (by decide +kernel) (by decide +kernel)
set_option maxRecDepth 20000 in
theorem gX8_take_X8_answer : GoodIn wsX8_take (wsV RX8 62 RX8 yX8_answer wsX8_answer) := goodIn_app (goodIn_of _ (by decide +kernel)) ggX8_take_X8_answer
set_option maxRecDepth 20000 in
theorem ggX8_take_X8_offer : GoodIn wsX8_take wsX8_offer := goodIn_r _ [22, 1, 11, 12, 13, 5, 14, 15, 16, 17, 18, 23, 24, 25, 26, 27, 28, 29, 30, 31, 32, 33, 34] (by decide +kernel) (by decide +kernel)
set_option maxRecDepth 20000 in
theorem gX8_take_X8_offer : GoodIn wsX8_take (wsV RX8 65 RX8 yX8_offer wsX8_offer) := goodIn_app (goodIn_of _ (by decide +kernel)) ggX8_take_X8_offer
theorem dX8_take_0 : decode cX8_take 0 = .ok (.aload_n 0, 1) := by decide +kernel
theorem dX8_take_1 : decode cX8_take 1 = .ok (.getfield 7, 3) := by decide +kernel
theorem dX8_take_4 : decode cX8_take 4 = .ok (.bipush 97, 2) := by decide +kernel
theorem dX8_take_6 : decode cX8_take 6 = .ok (.iload_n 1, 1) := by decide +kernel
theorem dX8_take_7 : decode cX8_take 7 = .ok (.iadd, 1) := by decide +kernel
theorem dX8_take_8 : decode cX8_take 8 = .ok (.iconst 1, 1) := by decide +kernel
theorem dX8_take_9 : decode cX8_take 9 = .ok (.iastore, 1) := by decide +kernel
theorem dX8_take_10 : decode cX8_take 10 = .ok (.aload_n 0, 1) := by decide +kernel
theorem dX8_take_11 : decode cX8_take 11 = .ok (.getfield 7, 3) := by decide +kernel
theorem dX8_take_14 : decode cX8_take 14 = .ok (.bipush 103, 2) := by decide +kernel
theorem dX8_take_16 : decode cX8_take 16 = .ok (.iload_n 1, 1) := by decide +kernel
theorem dX8_take_17 : decode cX8_take 17 = .ok (.iadd, 1) := by decide +kernel
theorem dX8_take_18 : decode cX8_take 18 = .ok (.aload_n 0, 1) := by decide +kernel
theorem dX8_take_19 : decode cX8_take 19 = .ok (.iload_n 1, 1) := by decide +kernel
theorem dX8_take_20 : decode cX8_take 20 = .ok (.iconst 5, 1) := by decide +kernel
theorem dX8_take_21 : decode cX8_take 21 = .ok (.invokevirtual 58, 3) := by decide +kernel
theorem dX8_take_24 : decode cX8_take 24 = .ok (.iastore, 1) := by decide +kernel
theorem dX8_take_25 : decode cX8_take 25 = .ok (.aload_n 0, 1) := by decide +kernel
theorem dX8_take_26 : decode cX8_take 26 = .ok (.iload_n 1, 1) := by decide +kernel
theorem dX8_take_27 : decode cX8_take 27 = .ok (.iconst 1, 1) := by decide +kernel
theorem dX8_take_28 : decode cX8_take 28 = .ok (.iconst 0, 1) := by decide +kernel
theorem dX8_take_29 : decode cX8_take 29 = .ok (.invokevirtual 62, 3) := by decide +kernel
theorem dX8_take_32 : decode cX8_take 32 = .ok (.aload_n 0, 1) := by decide +kernel
theorem dX8_take_33 : decode cX8_take 33 = .ok (.getfield 7, 3) := by decide +kernel
theorem dX8_take_36 : decode cX8_take 36 = .ok (.bipush 76, 2) := by decide +kernel
theorem dX8_take_38 : decode cX8_take 38 = .ok (.iload_n 1, 1) := by decide +kernel
theorem dX8_take_39 : decode cX8_take 39 = .ok (.iadd, 1) := by decide +kernel
theorem dX8_take_40 : decode cX8_take 40 = .ok (.iconst 1, 1) := by decide +kernel
theorem dX8_take_41 : decode cX8_take 41 = .ok (.iadd, 1) := by decide +kernel
theorem dX8_take_42 : decode cX8_take 42 = .ok (.iaload, 1) := by decide +kernel
theorem dX8_take_43 : decode cX8_take 43 = .ok (.iconst 1, 1) := by decide +kernel
theorem dX8_take_44 : decode cX8_take 44 = .ok (.if_icmp .ne 19, 3) := by decide +kernel
theorem dX8_take_47 : decode cX8_take 47 = .ok (.aload_n 0, 1) := by decide +kernel
theorem dX8_take_48 : decode cX8_take 48 = .ok (.iload_n 1, 1) := by decide +kernel
theorem dX8_take_49 : decode cX8_take 49 = .ok (.iconst 1, 1) := by decide +kernel
theorem dX8_take_50 : decode cX8_take 50 = .ok (.iadd, 1) := by decide +kernel
theorem dX8_take_51 : decode cX8_take 51 = .ok (.aload_n 0, 1) := by decide +kernel
theorem dX8_take_52 : decode cX8_take 52 = .ok (.getfield 7, 3) := by decide +kernel
theorem dX8_take_55 : decode cX8_take 55 = .ok (.bipush 103, 2) := by decide +kernel
theorem dX8_take_57 : decode cX8_take 57 = .ok (.iload_n 1, 1) := by decide +kernel
theorem dX8_take_58 : decode cX8_take 58 = .ok (.iadd, 1) := by decide +kernel
theorem dX8_take_59 : decode cX8_take 59 = .ok (.iaload, 1) := by decide +kernel
theorem dX8_take_60 : decode cX8_take 60 = .ok (.invokevirtual 65, 3) := by decide +kernel
theorem dX8_take_63 : decode cX8_take 63 = .ok (.return_, 1) := by decide +kernel
set_option maxRecDepth 20000 in
theorem ggX8_note_X8_end : GoodIn wsX8_note wsX8_end := goodIn_r _ [6, 1, 19, 20, 21, 22, 23, 24, 25, 26, 27, 28, 29, 30] (by decide +kernel) (by decide +kernel)
set_option maxRecDepth 20000 in
theorem gX8_note_X8_end : GoodIn wsX8_note (wsV RX8 58 RX8 yX8_end wsX8_end) := goodIn_app (goodIn_of _ (by decide +kernel)) ggX8_note_X8_end
set_option maxRecDepth 20000 in
theorem ggX8_note_X8_answer : GoodIn wsX8_note wsX8_answer := goodIn_r _ [10, 11, 12, 13, 5, 14, 1, 15, 16, 17, 18, 19, 20, 21, 22, 23, 24, 25, 26, 27, 28, 29, 30] (by decide +kernel) (by decide +kernel)
set_option maxRecDepth 20000 in
theorem gX8_note_X8_answer : GoodIn wsX8_note (wsV RX8 62 RX8 yX8_answer wsX8_answer) := goodIn_app (goodIn_of _ (by decide +kernel)) ggX8_note_X8_answer
theorem dX8_note_0 : decode cX8_note 0 = .ok (.aload_n 0, 1) := by decide +kernel
theorem dX8_note_1 : decode cX8_note 1 = .ok (.aload_n 0, 1) := by decide +kernel
theorem dX8_note_2 : decode cX8_note 2 = .ok (.getfield 7, 3) := by decide +kernel
theorem dX8_note_5 : decode cX8_note 5 = .ok (.iconst 3, 1) := by decide +kernel
theorem dX8_note_6 : decode cX8_note 6 = .ok (.iaload, 1) := by decide +kernel
theorem dX8_note_7 : decode cX8_note 7 = .ok (.iconst 5, 1) := by decide +kernel
theorem dX8_note_8 : decode cX8_note 8 = .ok (.invokevirtual 58, 3) := by decide +kernel
theorem dX8_note_11 : decode cX8_note 11 = .ok (.istore_n 1, 1) := by decide +kernel
theorem dX8_note_12 : decode cX8_note 12 = .ok (.iload_n 1, 1) := by decide +kernel
theorem dX8_note_13 : decode cX8_note 13 = .ok (.aload_n 0, 1) := by decide +kernel
theorem dX8_note_14 : decode cX8_note 14 = .ok (.getfield 7, 3) := by decide +kernel
theorem dX8_note_17 : decode cX8_note 17 = .ok (.sipush 149, 3) := by decide +kernel
theorem dX8_note_20 : decode cX8_note 20 = .ok (.iaload, 1) := by decide +kernel
theorem dX8_note_21 : decode cX8_note 21 = .ok (.if_icmp .ne 7, 3) := by decide +kernel
theorem dX8_note_24 : decode cX8_note 24 = .ok (.iconst 1, 1) := by decide +kernel
theorem dX8_note_25 : decode cX8_note 25 = .ok (.goto 4, 3) := by decide +kernel
theorem dX8_note_28 : decode cX8_note 28 = .ok (.iconst 0, 1) := by decide +kernel
theorem dX8_note_29 : decode cX8_note 29 = .ok (.istore_n 2, 1) := by decide +kernel
theorem dX8_note_30 : decode cX8_note 30 = .ok (.iconst 0, 1) := by decide +kernel
theorem dX8_note_31 : decode cX8_note 31 = .ok (.istore_n 3, 1) := by decide +kernel
theorem dX8_note_32 : decode cX8_note 32 = .ok (.iload_n 3, 1) := by decide +kernel
theorem dX8_note_33 : decode cX8_note 33 = .ok (.bipush 19, 2) := by decide +kernel
theorem dX8_note_35 : decode cX8_note 35 = .ok (.if_icmp .ge 31, 3) := by decide +kernel
theorem dX8_note_38 : decode cX8_note 38 = .ok (.aload_n 0, 1) := by decide +kernel
theorem dX8_note_39 : decode cX8_note 39 = .ok (.getfield 7, 3) := by decide +kernel
theorem dX8_note_42 : decode cX8_note 42 = .ok (.sipush 149, 3) := by decide +kernel
theorem dX8_note_45 : decode cX8_note 45 = .ok (.iload_n 3, 1) := by decide +kernel
theorem dX8_note_46 : decode cX8_note 46 = .ok (.iadd, 1) := by decide +kernel
theorem dX8_note_47 : decode cX8_note 47 = .ok (.aload_n 0, 1) := by decide +kernel
theorem dX8_note_48 : decode cX8_note 48 = .ok (.getfield 7, 3) := by decide +kernel
theorem dX8_note_51 : decode cX8_note 51 = .ok (.sipush 149, 3) := by decide +kernel
theorem dX8_note_54 : decode cX8_note 54 = .ok (.iload_n 3, 1) := by decide +kernel
theorem dX8_note_55 : decode cX8_note 55 = .ok (.iadd, 1) := by decide +kernel
theorem dX8_note_56 : decode cX8_note 56 = .ok (.iconst 1, 1) := by decide +kernel
theorem dX8_note_57 : decode cX8_note 57 = .ok (.iadd, 1) := by decide +kernel
theorem dX8_note_58 : decode cX8_note 58 = .ok (.iaload, 1) := by decide +kernel
theorem dX8_note_59 : decode cX8_note 59 = .ok (.iastore, 1) := by decide +kernel
theorem dX8_note_60 : decode cX8_note 60 = .ok (.iinc 3 1, 3) := by decide +kernel
theorem dX8_note_63 : decode cX8_note 63 = .ok (.goto (-31), 3) := by decide +kernel
theorem dX8_note_66 : decode cX8_note 66 = .ok (.aload_n 0, 1) := by decide +kernel
theorem dX8_note_67 : decode cX8_note 67 = .ok (.getfield 7, 3) := by decide +kernel
theorem dX8_note_70 : decode cX8_note 70 = .ok (.bipush 9, 2) := by decide +kernel
theorem dX8_note_72 : decode cX8_note 72 = .ok (.dup2, 1) := by decide +kernel
theorem dX8_note_73 : decode cX8_note 73 = .ok (.iaload, 1) := by decide +kernel
theorem dX8_note_74 : decode cX8_note 74 = .ok (.iconst 1, 1) := by decide +kernel
theorem dX8_note_75 : decode cX8_note 75 = .ok (.isub, 1) := by decide +kernel
theorem dX8_note_76 : decode cX8_note 76 = .ok (.iastore, 1) := by decide +kernel
theorem dX8_note_77 : decode cX8_note 77 = .ok (.sipush 149, 3) := by decide +kernel
theorem dX8_note_80 : decode cX8_note 80 = .ok (.istore_n 3, 1) := by decide +kernel
theorem dX8_note_81 : decode cX8_note 81 = .ok (.iload_n 3, 1) := by decide +kernel
theorem dX8_note_82 : decode cX8_note 82 = .ok (.iconst 2, 1) := by decide +kernel
theorem dX8_note_83 : decode cX8_note 83 = .ok (.if_icmp .le 31, 3) := by decide +kernel
theorem dX8_note_86 : decode cX8_note 86 = .ok (.aload_n 0, 1) := by decide +kernel
theorem dX8_note_87 : decode cX8_note 87 = .ok (.getfield 7, 3) := by decide +kernel
theorem dX8_note_90 : decode cX8_note 90 = .ok (.sipush 169, 3) := by decide +kernel
theorem dX8_note_93 : decode cX8_note 93 = .ok (.iload_n 3, 1) := by decide +kernel
theorem dX8_note_94 : decode cX8_note 94 = .ok (.iadd, 1) := by decide +kernel
theorem dX8_note_95 : decode cX8_note 95 = .ok (.aload_n 0, 1) := by decide +kernel
theorem dX8_note_96 : decode cX8_note 96 = .ok (.getfield 7, 3) := by decide +kernel
theorem dX8_note_99 : decode cX8_note 99 = .ok (.sipush 169, 3) := by decide +kernel
theorem dX8_note_102 : decode cX8_note 102 = .ok (.iload_n 3, 1) := by decide +kernel
theorem dX8_note_103 : decode cX8_note 103 = .ok (.iadd, 1) := by decide +kernel
theorem dX8_note_104 : decode cX8_note 104 = .ok (.iconst 3, 1) := by decide +kernel
theorem dX8_note_105 : decode cX8_note 105 = .ok (.isub, 1) := by decide +kernel
theorem dX8_note_106 : decode cX8_note 106 = .ok (.iaload, 1) := by decide +kernel
theorem dX8_note_107 : decode cX8_note 107 = .ok (.iastore, 1) := by decide +kernel
theorem dX8_note_108 : decode cX8_note 108 = .ok (.iinc 3 (-1), 3) := by decide +kernel
theorem dX8_note_111 : decode cX8_note 111 = .ok (.goto (-30), 3) := by decide +kernel
theorem dX8_note_114 : decode cX8_note 114 = .ok (.aload_n 0, 1) := by decide +kernel
theorem dX8_note_115 : decode cX8_note 115 = .ok (.getfield 7, 3) := by decide +kernel
theorem dX8_note_118 : decode cX8_note 118 = .ok (.sipush 169, 3) := by decide +kernel
theorem dX8_note_121 : decode cX8_note 121 = .ok (.iload_n 1, 1) := by decide +kernel
theorem dX8_note_122 : decode cX8_note 122 = .ok (.iastore, 1) := by decide +kernel
theorem dX8_note_123 : decode cX8_note 123 = .ok (.aload_n 0, 1) := by decide +kernel
theorem dX8_note_124 : decode cX8_note 124 = .ok (.getfield 7, 3) := by decide +kernel
theorem dX8_note_127 : decode cX8_note 127 = .ok (.sipush 170, 3) := by decide +kernel
theorem dX8_note_130 : decode cX8_note 130 = .ok (.aload_n 0, 1) := by decide +kernel
theorem dX8_note_131 : decode cX8_note 131 = .ok (.getfield 7, 3) := by decide +kernel
theorem dX8_note_134 : decode cX8_note 134 = .ok (.iconst 4, 1) := by decide +kernel
theorem dX8_note_135 : decode cX8_note 135 = .ok (.iaload, 1) := by decide +kernel
theorem dX8_note_136 : decode cX8_note 136 = .ok (.iastore, 1) := by decide +kernel
theorem dX8_note_137 : decode cX8_note 137 = .ok (.aload_n 0, 1) := by decide +kernel
theorem dX8_note_138 : decode cX8_note 138 = .ok (.getfield 7, 3) := by decide +kernel
theorem dX8_note_141 : decode cX8_note 141 = .ok (.sipush 171, 3) := by decide +kernel
theorem dX8_note_144 : decode cX8_note 144 = .ok (.iload_n 2, 1) := by decide +kernel
theorem dX8_note_145 : decode cX8_note 145 = .ok (.iastore, 1) := by decide +kernel
theorem dX8_note_146 : decode cX8_note 146 = .ok (.aload_n 0, 1) := by decide +kernel
theorem dX8_note_147 : decode cX8_note 147 = .ok (.getfield 7, 3) := by decide +kernel
theorem dX8_note_150 : decode cX8_note 150 = .ok (.iconst 5, 1) := by decide +kernel
theorem dX8_note_151 : decode cX8_note 151 = .ok (.dup2, 1) := by decide +kernel
theorem dX8_note_152 : decode cX8_note 152 = .ok (.iaload, 1) := by decide +kernel
theorem dX8_note_153 : decode cX8_note 153 = .ok (.iconst 1, 1) := by decide +kernel
theorem dX8_note_154 : decode cX8_note 154 = .ok (.iadd, 1) := by decide +kernel
theorem dX8_note_155 : decode cX8_note 155 = .ok (.iastore, 1) := by decide +kernel
theorem dX8_note_156 : decode cX8_note 156 = .ok (.aload_n 0, 1) := by decide +kernel
theorem dX8_note_157 : decode cX8_note 157 = .ok (.getfield 7, 3) := by decide +kernel
theorem dX8_note_160 : decode cX8_note 160 = .ok (.bipush 6, 2) := by decide +kernel
theorem dX8_note_162 : decode cX8_note 162 = .ok (.dup2, 1) := by decide +kernel
theorem dX8_note_163 : decode cX8_note 163 = .ok (.iaload, 1) := by decide +kernel
theorem dX8_note_164 : decode cX8_note 164 = .ok (.iload_n 2, 1) := by decide +kernel
theorem dX8_note_165 : decode cX8_note 165 = .ok (.iadd, 1) := by decide +kernel
theorem dX8_note_166 : decode cX8_note 166 = .ok (.iastore, 1) := by decide +kernel
theorem dX8_note_167 : decode cX8_note 167 = .ok (.aload_n 0, 1) := by decide +kernel
theorem dX8_note_168 : decode cX8_note 168 = .ok (.aload_n 0, 1) := by decide +kernel
theorem dX8_note_169 : decode cX8_note 169 = .ok (.getfield 7, 3) := by decide +kernel
theorem dX8_note_172 : decode cX8_note 172 = .ok (.iconst 3, 1) := by decide +kernel
theorem dX8_note_173 : decode cX8_note 173 = .ok (.iaload, 1) := by decide +kernel
theorem dX8_note_174 : decode cX8_note 174 = .ok (.iconst 1, 1) := by decide +kernel
theorem dX8_note_175 : decode cX8_note 175 = .ok (.aload_n 0, 1) := by decide +kernel
theorem dX8_note_176 : decode cX8_note 176 = .ok (.getfield 7, 3) := by decide +kernel
theorem dX8_note_179 : decode cX8_note 179 = .ok (.iconst 1, 1) := by decide +kernel
theorem dX8_note_180 : decode cX8_note 180 = .ok (.iaload, 1) := by decide +kernel
theorem dX8_note_181 : decode cX8_note 181 = .ok (.invokevirtual 62, 3) := by decide +kernel
theorem dX8_note_184 : decode cX8_note 184 = .ok (.return_, 1) := by decide +kernel
set_option maxRecDepth 20000 in
theorem ggX8_letGo_X8_offer : GoodIn wsX8_letGo wsX8_offer := goodIn_r _ [6, 1, 7, 8, 9, 5, 10, 11, 12, 13, 14, 15, 16, 17, 18, 19, 20, 21, 22, 23, 24, 25, 26] (by decide +kernel) (by decide +kernel)
set_option maxRecDepth 20000 in
theorem gX8_letGo_X8_offer : GoodIn wsX8_letGo (wsV RX8 65 RX8 yX8_offer wsX8_offer) := goodIn_app (goodIn_of _ (by decide +kernel)) ggX8_letGo_X8_offer
theorem dX8_letGo_0 : decode cX8_letGo 0 = .ok (.aload_n 0, 1) := by decide +kernel
theorem dX8_letGo_1 : decode cX8_letGo 1 = .ok (.getfield 7, 3) := by decide +kernel
theorem dX8_letGo_4 : decode cX8_letGo 4 = .ok (.bipush 11, 2) := by decide +kernel
theorem dX8_letGo_6 : decode cX8_letGo 6 = .ok (.iaload, 1) := by decide +kernel
theorem dX8_letGo_7 : decode cX8_letGo 7 = .ok (.istore_n 1, 1) := by decide +kernel
theorem dX8_letGo_8 : decode cX8_letGo 8 = .ok (.aload_n 0, 1) := by decide +kernel
theorem dX8_letGo_9 : decode cX8_letGo 9 = .ok (.getfield 7, 3) := by decide +kernel
theorem dX8_letGo_12 : decode cX8_letGo 12 = .ok (.bipush 12, 2) := by decide +kernel
theorem dX8_letGo_14 : decode cX8_letGo 14 = .ok (.iaload, 1) := by decide +kernel
theorem dX8_letGo_15 : decode cX8_letGo 15 = .ok (.istore_n 2, 1) := by decide +kernel
theorem dX8_letGo_16 : decode cX8_letGo 16 = .ok (.aload_n 0, 1) := by decide +kernel
theorem dX8_letGo_17 : decode cX8_letGo 17 = .ok (.getfield 7, 3) := by decide +kernel
theorem dX8_letGo_20 : decode cX8_letGo 20 = .ok (.bipush 76, 2) := by decide +kernel
theorem dX8_letGo_22 : decode cX8_letGo 22 = .ok (.iaload, 1) := by decide +kernel
theorem dX8_letGo_23 : decode cX8_letGo 23 = .ok (.ifCond .eq 9, 3) := by decide +kernel
theorem dX8_letGo_26 : decode cX8_letGo 26 = .ok (.iload_n 1, 1) := by decide +kernel
theorem dX8_letGo_27 : decode cX8_letGo 27 = .ok (.iload_n 2, 1) := by decide +kernel
theorem dX8_letGo_28 : decode cX8_letGo 28 = .ok (.iadd, 1) := by decide +kernel
theorem dX8_letGo_29 : decode cX8_letGo 29 = .ok (.ifCond .ne 4, 3) := by decide +kernel
theorem dX8_letGo_32 : decode cX8_letGo 32 = .ok (.return_, 1) := by decide +kernel
theorem dX8_letGo_33 : decode cX8_letGo 33 = .ok (.iload_n 1, 1) := by decide +kernel
theorem dX8_letGo_34 : decode cX8_letGo 34 = .ok (.ifCond .eq 26, 3) := by decide +kernel
theorem dX8_letGo_37 : decode cX8_letGo 37 = .ok (.iload_n 2, 1) := by decide +kernel
theorem dX8_letGo_38 : decode cX8_letGo 38 = .ok (.ifCond .le 26, 3) := by decide +kernel
theorem dX8_letGo_41 : decode cX8_letGo 41 = .ok (.aload_n 0, 1) := by decide +kernel
theorem dX8_letGo_42 : decode cX8_letGo 42 = .ok (.getfield 7, 3) := by decide +kernel
theorem dX8_letGo_45 : decode cX8_letGo 45 = .ok (.iconst 2, 1) := by decide +kernel
theorem dX8_letGo_46 : decode cX8_letGo 46 = .ok (.iaload, 1) := by decide +kernel
theorem dX8_letGo_47 : decode cX8_letGo 47 = .ok (.ifCond .ne 17, 3) := by decide +kernel
theorem dX8_letGo_50 : decode cX8_letGo 50 = .ok (.aload_n 0, 1) := by decide +kernel
theorem dX8_letGo_51 : decode cX8_letGo 51 = .ok (.getfield 7, 3) := by decide +kernel
theorem dX8_letGo_54 : decode cX8_letGo 54 = .ok (.bipush 8, 2) := by decide +kernel
theorem dX8_letGo_56 : decode cX8_letGo 56 = .ok (.iaload, 1) := by decide +kernel
theorem dX8_letGo_57 : decode cX8_letGo 57 = .ok (.ifCond .ne 7, 3) := by decide +kernel
theorem dX8_letGo_60 : decode cX8_letGo 60 = .ok (.iconst 1, 1) := by decide +kernel
theorem dX8_letGo_61 : decode cX8_letGo 61 = .ok (.goto 4, 3) := by decide +kernel
theorem dX8_letGo_64 : decode cX8_letGo 64 = .ok (.iconst 0, 1) := by decide +kernel
theorem dX8_letGo_65 : decode cX8_letGo 65 = .ok (.istore_n 3, 1) := by decide +kernel
theorem dX8_letGo_66 : decode cX8_letGo 66 = .ok (.iload_n 3, 1) := by decide +kernel
theorem dX8_letGo_67 : decode cX8_letGo 67 = .ok (.ifCond .eq 7, 3) := by decide +kernel
theorem dX8_letGo_70 : decode cX8_letGo 70 = .ok (.iconst 1, 1) := by decide +kernel
theorem dX8_letGo_71 : decode cX8_letGo 71 = .ok (.goto 4, 3) := by decide +kernel
theorem dX8_letGo_74 : decode cX8_letGo 74 = .ok (.iconst 0, 1) := by decide +kernel
theorem dX8_letGo_75 : decode cX8_letGo 75 = .ok (.istore 4, 2) := by decide +kernel
theorem dX8_letGo_77 : decode cX8_letGo 77 = .ok (.bipush 109, 2) := by decide +kernel
theorem dX8_letGo_79 : decode cX8_letGo 79 = .ok (.bipush 20, 2) := by decide +kernel
theorem dX8_letGo_81 : decode cX8_letGo 81 = .ok (.iload 4, 2) := by decide +kernel
theorem dX8_letGo_83 : decode cX8_letGo 83 = .ok (.imul, 1) := by decide +kernel
theorem dX8_letGo_84 : decode cX8_letGo 84 = .ok (.iadd, 1) := by decide +kernel
theorem dX8_letGo_85 : decode cX8_letGo 85 = .ok (.istore 5, 2) := by decide +kernel
theorem dX8_letGo_87 : decode cX8_letGo 87 = .ok (.bipush 16, 2) := by decide +kernel
theorem dX8_letGo_89 : decode cX8_letGo 89 = .ok (.iload 4, 2) := by decide +kernel
theorem dX8_letGo_91 : decode cX8_letGo 91 = .ok (.imul, 1) := by decide +kernel
theorem dX8_letGo_92 : decode cX8_letGo 92 = .ok (.aload_n 0, 1) := by decide +kernel
theorem dX8_letGo_93 : decode cX8_letGo 93 = .ok (.getfield 7, 3) := by decide +kernel
theorem dX8_letGo_96 : decode cX8_letGo 96 = .ok (.iload 5, 2) := by decide +kernel
theorem dX8_letGo_98 : decode cX8_letGo 98 = .ok (.iaload, 1) := by decide +kernel
theorem dX8_letGo_99 : decode cX8_letGo 99 = .ok (.iadd, 1) := by decide +kernel
theorem dX8_letGo_100 : decode cX8_letGo 100 = .ok (.istore 6, 2) := by decide +kernel
theorem dX8_letGo_102 : decode cX8_letGo 102 = .ok (.iconst 0, 1) := by decide +kernel
theorem dX8_letGo_103 : decode cX8_letGo 103 = .ok (.istore 7, 2) := by decide +kernel
theorem dX8_letGo_105 : decode cX8_letGo 105 = .ok (.iload 7, 2) := by decide +kernel
theorem dX8_letGo_107 : decode cX8_letGo 107 = .ok (.bipush 19, 2) := by decide +kernel
theorem dX8_letGo_109 : decode cX8_letGo 109 = .ok (.if_icmp .ge 31, 3) := by decide +kernel
theorem dX8_letGo_112 : decode cX8_letGo 112 = .ok (.aload_n 0, 1) := by decide +kernel
theorem dX8_letGo_113 : decode cX8_letGo 113 = .ok (.getfield 7, 3) := by decide +kernel
theorem dX8_letGo_116 : decode cX8_letGo 116 = .ok (.iload 5, 2) := by decide +kernel
theorem dX8_letGo_118 : decode cX8_letGo 118 = .ok (.iload 7, 2) := by decide +kernel
theorem dX8_letGo_120 : decode cX8_letGo 120 = .ok (.iadd, 1) := by decide +kernel
theorem dX8_letGo_121 : decode cX8_letGo 121 = .ok (.aload_n 0, 1) := by decide +kernel
theorem dX8_letGo_122 : decode cX8_letGo 122 = .ok (.getfield 7, 3) := by decide +kernel
theorem dX8_letGo_125 : decode cX8_letGo 125 = .ok (.iload 5, 2) := by decide +kernel
theorem dX8_letGo_127 : decode cX8_letGo 127 = .ok (.iload 7, 2) := by decide +kernel
theorem dX8_letGo_129 : decode cX8_letGo 129 = .ok (.iadd, 1) := by decide +kernel
theorem dX8_letGo_130 : decode cX8_letGo 130 = .ok (.iconst 1, 1) := by decide +kernel
theorem dX8_letGo_131 : decode cX8_letGo 131 = .ok (.iadd, 1) := by decide +kernel
theorem dX8_letGo_132 : decode cX8_letGo 132 = .ok (.iaload, 1) := by decide +kernel
theorem dX8_letGo_133 : decode cX8_letGo 133 = .ok (.iastore, 1) := by decide +kernel
theorem dX8_letGo_134 : decode cX8_letGo 134 = .ok (.iinc 7 1, 3) := by decide +kernel
theorem dX8_letGo_137 : decode cX8_letGo 137 = .ok (.goto (-32), 3) := by decide +kernel
theorem dX8_letGo_140 : decode cX8_letGo 140 = .ok (.aload_n 0, 1) := by decide +kernel
theorem dX8_letGo_141 : decode cX8_letGo 141 = .ok (.getfield 7, 3) := by decide +kernel
theorem dX8_letGo_144 : decode cX8_letGo 144 = .ok (.bipush 11, 2) := by decide +kernel
theorem dX8_letGo_146 : decode cX8_letGo 146 = .ok (.iload 4, 2) := by decide +kernel
theorem dX8_letGo_148 : decode cX8_letGo 148 = .ok (.iadd, 1) := by decide +kernel
theorem dX8_letGo_149 : decode cX8_letGo 149 = .ok (.dup2, 1) := by decide +kernel
theorem dX8_letGo_150 : decode cX8_letGo 150 = .ok (.iaload, 1) := by decide +kernel
theorem dX8_letGo_151 : decode cX8_letGo 151 = .ok (.iconst 1, 1) := by decide +kernel
theorem dX8_letGo_152 : decode cX8_letGo 152 = .ok (.isub, 1) := by decide +kernel
theorem dX8_letGo_153 : decode cX8_letGo 153 = .ok (.iastore, 1) := by decide +kernel
theorem dX8_letGo_154 : decode cX8_letGo 154 = .ok (.aload_n 0, 1) := by decide +kernel
theorem dX8_letGo_155 : decode cX8_letGo 155 = .ok (.getfield 7, 3) := by decide +kernel
theorem dX8_letGo_158 : decode cX8_letGo 158 = .ok (.bipush 8, 2) := by decide +kernel
theorem dX8_letGo_160 : decode cX8_letGo 160 = .ok (.iload 4, 2) := by decide +kernel
theorem dX8_letGo_162 : decode cX8_letGo 162 = .ok (.iastore, 1) := by decide +kernel
theorem dX8_letGo_163 : decode cX8_letGo 163 = .ok (.aload_n 0, 1) := by decide +kernel
theorem dX8_letGo_164 : decode cX8_letGo 164 = .ok (.getfield 7, 3) := by decide +kernel
theorem dX8_letGo_167 : decode cX8_letGo 167 = .ok (.sipush 149, 3) := by decide +kernel
theorem dX8_letGo_170 : decode cX8_letGo 170 = .ok (.aload_n 0, 1) := by decide +kernel
theorem dX8_letGo_171 : decode cX8_letGo 171 = .ok (.getfield 7, 3) := by decide +kernel
theorem dX8_letGo_174 : decode cX8_letGo 174 = .ok (.bipush 9, 2) := by decide +kernel
theorem dX8_letGo_176 : decode cX8_letGo 176 = .ok (.iaload, 1) := by decide +kernel
theorem dX8_letGo_177 : decode cX8_letGo 177 = .ok (.iadd, 1) := by decide +kernel
theorem dX8_letGo_178 : decode cX8_letGo 178 = .ok (.iload 6, 2) := by decide +kernel
theorem dX8_letGo_180 : decode cX8_letGo 180 = .ok (.iastore, 1) := by decide +kernel
theorem dX8_letGo_181 : decode cX8_letGo 181 = .ok (.aload_n 0, 1) := by decide +kernel
theorem dX8_letGo_182 : decode cX8_letGo 182 = .ok (.getfield 7, 3) := by decide +kernel
theorem dX8_letGo_185 : decode cX8_letGo 185 = .ok (.bipush 9, 2) := by decide +kernel
theorem dX8_letGo_187 : decode cX8_letGo 187 = .ok (.dup2, 1) := by decide +kernel
theorem dX8_letGo_188 : decode cX8_letGo 188 = .ok (.iaload, 1) := by decide +kernel
theorem dX8_letGo_189 : decode cX8_letGo 189 = .ok (.iconst 1, 1) := by decide +kernel
theorem dX8_letGo_190 : decode cX8_letGo 190 = .ok (.iadd, 1) := by decide +kernel
theorem dX8_letGo_191 : decode cX8_letGo 191 = .ok (.iastore, 1) := by decide +kernel
theorem dX8_letGo_192 : decode cX8_letGo 192 = .ok (.aload_n 0, 1) := by decide +kernel
theorem dX8_letGo_193 : decode cX8_letGo 193 = .ok (.iconst 0, 1) := by decide +kernel
theorem dX8_letGo_194 : decode cX8_letGo 194 = .ok (.iload 6, 2) := by decide +kernel
theorem dX8_letGo_196 : decode cX8_letGo 196 = .ok (.invokevirtual 65, 3) := by decide +kernel
theorem dX8_letGo_199 : decode cX8_letGo 199 = .ok (.return_, 1) := by decide +kernel
set_option maxRecDepth 20000 in
theorem ggX8_requestArrives_X8_setEnd : GoodIn wsX8_requestArrives wsX8_setEnd := goodIn_r _ [6, 1, 31, 32, 33, 34, 35, 36, 37, 38, 39, 40, 41, 42] (by decide +kernel) (by decide +kernel)
set_option maxRecDepth 20000 in
theorem gX8_requestArrives_X8_setEnd : GoodIn wsX8_requestArrives (wsV RX8 50 RX8 yX8_setEnd wsX8_setEnd) := goodIn_app (goodIn_of _ (by decide +kernel)) ggX8_requestArrives_X8_setEnd
set_option maxRecDepth 20000 in
theorem ggX8_requestArrives_X8_answer : GoodIn wsX8_requestArrives wsX8_answer := goodIn_r _ [10, 2, 3, 4, 5, 6, 1, 11, 12, 13, 14, 31, 32, 33, 34, 35, 36, 37, 38, 39, 40, 41, 42] (by decide +kernel) (by decide +kernel)
set_option maxRecDepth 20000 in
theorem gX8_requestArrives_X8_answer : GoodIn wsX8_requestArrives (wsV RX8 62 RX8 yX8_answer wsX8_answer) := goodIn_app (goodIn_of _ (by decide +kernel)) ggX8_requestArrives_X8_answer
set_option maxRecDepth 20000 in
theorem ggX8_requestArrives_X8_note : GoodIn wsX8_requestArrives wsX8_note := goodIn_r _ [18, 1, 19, 20, 21, 5, 22, 7, 8, 9, 10, 2, 3, 4, 6, 11, 12, 13, 14, 31, 32, 33, 34, 35, 36, 37, 38, 39, 40, 41, 42] (by decide +kernel) (by decide +kernel)
set_option maxRecDepth 20000 in
theorem gX8_requestArrives_X8_note : GoodIn wsX8_requestArrives (wsV RX8 69 RX8 yX8_note wsX8_note) := goodIn_app (goodIn_of _ (by decide +kernel)) ggX8_requestArrives_X8_note
set_option maxRecDepth 20000 in
theorem ggX8_requestArrives_X8_take : GoodIn wsX8_requestArrives wsX8_take := goodIn_r _ [26, 1, 19, 20, 21, 5, 22, 7, 8, 9, 10, 2, 3, 4, 6, 11, 12, 13, 14, 27, 28, 29, 30, 31, 32, 33, 34, 35, 36, 37, 38, 39, 40, 41, 42] (by decide +kernel) (by decide +kernel)
set_option maxRecDepth 20000 in
theorem gX8_requestArrives_X8_take : GoodIn wsX8_requestArrives (wsV RX8 72 RX8 yX8_take wsX8_take) := goodIn_app (goodIn_of _ (by decide +kernel)) ggX8_requestArrives_X8_take
theorem dX8_requestArrives_0 : decode cX8_requestArrives 0 = .ok (.aload_n 0, 1) := by decide +kernel
theorem dX8_requestArrives_1 : decode cX8_requestArrives 1 = .ok (.iload_n 1, 1) := by decide +kernel
theorem dX8_requestArrives_2 : decode cX8_requestArrives 2 = .ok (.iconst 1, 1) := by decide +kernel
theorem dX8_requestArrives_3 : decode cX8_requestArrives 3 = .ok (.iload_n 2, 1) := by decide +kernel
theorem dX8_requestArrives_4 : decode cX8_requestArrives 4 = .ok (.invokevirtual 50, 3) := by decide +kernel
theorem dX8_requestArrives_7 : decode cX8_requestArrives 7 = .ok (.iload_n 2, 1) := by decide +kernel
theorem dX8_requestArrives_8 : decode cX8_requestArrives 8 = .ok (.ifCond .ne 13, 3) := by decide +kernel
theorem dX8_requestArrives_11 : decode cX8_requestArrives 11 = .ok (.aload_n 0, 1) := by decide +kernel
theorem dX8_requestArrives_12 : decode cX8_requestArrives 12 = .ok (.iload_n 1, 1) := by decide +kernel
theorem dX8_requestArrives_13 : decode cX8_requestArrives 13 = .ok (.iconst 0, 1) := by decide +kernel
theorem dX8_requestArrives_14 : decode cX8_requestArrives 14 = .ok (.iconst 0, 1) := by decide +kernel
theorem dX8_requestArrives_15 : decode cX8_requestArrives 15 = .ok (.invokevirtual 62, 3) := by decide +kernel
theorem dX8_requestArrives_18 : decode cX8_requestArrives 18 = .ok (.goto 50, 3) := by decide +kernel
theorem dX8_requestArrives_21 : decode cX8_requestArrives 21 = .ok (.iload_n 1, 1) := by decide +kernel
theorem dX8_requestArrives_22 : decode cX8_requestArrives 22 = .ok (.aload_n 0, 1) := by decide +kernel
theorem dX8_requestArrives_23 : decode cX8_requestArrives 23 = .ok (.getfield 7, 3) := by decide +kernel
theorem dX8_requestArrives_26 : decode cX8_requestArrives 26 = .ok (.iconst 3, 1) := by decide +kernel
theorem dX8_requestArrives_27 : decode cX8_requestArrives 27 = .ok (.iaload, 1) := by decide +kernel
theorem dX8_requestArrives_28 : decode cX8_requestArrives 28 = .ok (.if_icmp .ne 10, 3) := by decide +kernel
theorem dX8_requestArrives_31 : decode cX8_requestArrives 31 = .ok (.aload_n 0, 1) := by decide +kernel
theorem dX8_requestArrives_32 : decode cX8_requestArrives 32 = .ok (.invokevirtual 69, 3) := by decide +kernel
theorem dX8_requestArrives_35 : decode cX8_requestArrives 35 = .ok (.goto 33, 3) := by decide +kernel
theorem dX8_requestArrives_38 : decode cX8_requestArrives 38 = .ok (.aload_n 0, 1) := by decide +kernel
theorem dX8_requestArrives_39 : decode cX8_requestArrives 39 = .ok (.getfield 7, 3) := by decide +kernel
theorem dX8_requestArrives_42 : decode cX8_requestArrives 42 = .ok (.bipush 97, 2) := by decide +kernel
theorem dX8_requestArrives_44 : decode cX8_requestArrives 44 = .ok (.iload_n 1, 1) := by decide +kernel
theorem dX8_requestArrives_45 : decode cX8_requestArrives 45 = .ok (.iadd, 1) := by decide +kernel
theorem dX8_requestArrives_46 : decode cX8_requestArrives 46 = .ok (.iaload, 1) := by decide +kernel
theorem dX8_requestArrives_47 : decode cX8_requestArrives 47 = .ok (.ifCond .ne 11, 3) := by decide +kernel
theorem dX8_requestArrives_50 : decode cX8_requestArrives 50 = .ok (.aload_n 0, 1) := by decide +kernel
theorem dX8_requestArrives_51 : decode cX8_requestArrives 51 = .ok (.iload_n 1, 1) := by decide +kernel
theorem dX8_requestArrives_52 : decode cX8_requestArrives 52 = .ok (.invokevirtual 72, 3) := by decide +kernel
theorem dX8_requestArrives_55 : decode cX8_requestArrives 55 = .ok (.goto 13, 3) := by decide +kernel
theorem dX8_requestArrives_58 : decode cX8_requestArrives 58 = .ok (.aload_n 0, 1) := by decide +kernel
theorem dX8_requestArrives_59 : decode cX8_requestArrives 59 = .ok (.getfield 7, 3) := by decide +kernel
theorem dX8_requestArrives_62 : decode cX8_requestArrives 62 = .ok (.bipush 83, 2) := by decide +kernel
theorem dX8_requestArrives_64 : decode cX8_requestArrives 64 = .ok (.iload_n 1, 1) := by decide +kernel
theorem dX8_requestArrives_65 : decode cX8_requestArrives 65 = .ok (.iadd, 1) := by decide +kernel
theorem dX8_requestArrives_66 : decode cX8_requestArrives 66 = .ok (.iconst 1, 1) := by decide +kernel
theorem dX8_requestArrives_67 : decode cX8_requestArrives 67 = .ok (.iastore, 1) := by decide +kernel
theorem dX8_requestArrives_68 : decode cX8_requestArrives 68 = .ok (.return_, 1) := by decide +kernel
set_option maxRecDepth 20000 in
theorem ggX8_answerArrives_X8_setEnd : GoodIn wsX8_answerArrives wsX8_setEnd := goodIn_r _ [6, 1, 31, 32, 33, 34, 35, 36, 37, 38, 39, 40, 41, 42] (by decide +kernel) (by decide +kernel)
set_option maxRecDepth 20000 in
theorem gX8_answerArrives_X8_setEnd : GoodIn wsX8_answerArrives (wsV RX8 50 RX8 yX8_setEnd wsX8_setEnd) := goodIn_app (goodIn_of _ (by decide +kernel)) ggX8_answerArrives_X8_setEnd
set_option maxRecDepth 20000 in
theorem ggX8_answerArrives_X8_make : GoodIn wsX8_answerArrives wsX8_make := goodIn_r _ [10, 1, 31, 32, 33, 34, 35, 36, 37, 38, 39, 40, 41, 42] (by decide +kernel) (by decide +kernel)
set_option maxRecDepth 20000 in
theorem gX8_answerArrives_X8_make : GoodIn wsX8_answerArrives (wsV RX8 54 RX8 yX8_make wsX8_make) := goodIn_app (goodIn_of _ (by decide +kernel)) ggX8_answerArrives_X8_make
set_option maxRecDepth 20000 in
theorem ggX8_answerArrives_X8_take : GoodIn wsX8_answerArrives wsX8_take := goodIn_r _ [14, 1, 15, 16, 17, 5, 18, 19, 20, 21, 22, 2, 3, 4, 6, 7, 8, 9, 10, 23, 24, 25, 26, 31, 32, 33, 34, 35, 36, 37, 38, 39, 40, 41, 42] (by decide +kernel) (by decide +kernel)
set_option maxRecDepth 20000 in
theorem gX8_answerArrives_X8_take : GoodIn wsX8_answerArrives (wsV RX8 72 RX8 yX8_take wsX8_take) := goodIn_app (goodIn_of _ (by decide +kernel)) ggX8_answerArrives_X8_take
set_option maxRecDepth 20000 in
theorem ggX8_answerArrives_X8_letGo : GoodIn wsX8_answerArrives wsX8_letGo := goodIn_r _ [30, 1, 23, 24, 25, 5, 26, 2, 3, 4, 6, 7, 8, 9, 10, 31, 32, 33, 34, 35, 36, 37, 38, 39, 40, 41, 42] (by decide +kernel) (by decide +kernel)
set_option maxRecDepth 20000 in
theorem gX8_answerArrives_X8_letGo : GoodIn wsX8_answerArrives (wsV RX8 75 RX8 yX8_letGo wsX8_letGo) := goodIn_app (goodIn_of _ (by decide +kernel)) ggX8_answerArrives_X8_letGo
set_option maxRecDepth 20000 in
theorem ggX8_answerArrives_X8_offer : GoodIn wsX8_answerArrives wsX8_offer := goodIn_r _ [26, 1, 2, 3, 4, 5, 6, 7, 8, 9, 10, 31, 32, 33, 34, 35, 36, 37, 38, 39, 40, 41, 42] (by decide +kernel) (by decide +kernel)
set_option maxRecDepth 20000 in
theorem gX8_answerArrives_X8_offer : GoodIn wsX8_answerArrives (wsV RX8 65 RX8 yX8_offer wsX8_offer) := goodIn_app (goodIn_of _ (by decide +kernel)) ggX8_answerArrives_X8_offer
theorem dX8_answerArrives_0 : decode cX8_answerArrives 0 = .ok (.aload_n 0, 1) := by decide +kernel
theorem dX8_answerArrives_1 : decode cX8_answerArrives 1 = .ok (.iload_n 1, 1) := by decide +kernel
theorem dX8_answerArrives_2 : decode cX8_answerArrives 2 = .ok (.iconst 3, 1) := by decide +kernel
theorem dX8_answerArrives_3 : decode cX8_answerArrives 3 = .ok (.iload_n 2, 1) := by decide +kernel
theorem dX8_answerArrives_4 : decode cX8_answerArrives 4 = .ok (.invokevirtual 50, 3) := by decide +kernel
theorem dX8_answerArrives_7 : decode cX8_answerArrives 7 = .ok (.iload_n 2, 1) := by decide +kernel
theorem dX8_answerArrives_8 : decode cX8_answerArrives 8 = .ok (.iconst 1, 1) := by decide +kernel
theorem dX8_answerArrives_9 : decode cX8_answerArrives 9 = .ok (.if_icmp .ne 73, 3) := by decide +kernel
theorem dX8_answerArrives_12 : decode cX8_answerArrives 12 = .ok (.aload_n 0, 1) := by decide +kernel
theorem dX8_answerArrives_13 : decode cX8_answerArrives 13 = .ok (.iload_n 1, 1) := by decide +kernel
theorem dX8_answerArrives_14 : decode cX8_answerArrives 14 = .ok (.iconst 0, 1) := by decide +kernel
theorem dX8_answerArrives_15 : decode cX8_answerArrives 15 = .ok (.iconst 0, 1) := by decide +kernel
theorem dX8_answerArrives_16 : decode cX8_answerArrives 16 = .ok (.invokevirtual 50, 3) := by decide +kernel
theorem dX8_answerArrives_19 : decode cX8_answerArrives 19 = .ok (.aload_n 0, 1) := by decide +kernel
theorem dX8_answerArrives_20 : decode cX8_answerArrives 20 = .ok (.iload_n 1, 1) := by decide +kernel
theorem dX8_answerArrives_21 : decode cX8_answerArrives 21 = .ok (.iconst 0, 1) := by decide +kernel
theorem dX8_answerArrives_22 : decode cX8_answerArrives 22 = .ok (.iconst 0, 1) := by decide +kernel
theorem dX8_answerArrives_23 : decode cX8_answerArrives 23 = .ok (.iconst 0, 1) := by decide +kernel
theorem dX8_answerArrives_24 : decode cX8_answerArrives 24 = .ok (.invokevirtual 54, 3) := by decide +kernel
theorem dX8_answerArrives_27 : decode cX8_answerArrives 27 = .ok (.iload_n 1, 1) := by decide +kernel
theorem dX8_answerArrives_28 : decode cX8_answerArrives 28 = .ok (.ifCond .le 15, 3) := by decide +kernel
theorem dX8_answerArrives_31 : decode cX8_answerArrives 31 = .ok (.aload_n 0, 1) := by decide +kernel
theorem dX8_answerArrives_32 : decode cX8_answerArrives 32 = .ok (.getfield 7, 3) := by decide +kernel
theorem dX8_answerArrives_35 : decode cX8_answerArrives 35 = .ok (.bipush 97, 2) := by decide +kernel
theorem dX8_answerArrives_37 : decode cX8_answerArrives 37 = .ok (.iload_n 1, 1) := by decide +kernel
theorem dX8_answerArrives_38 : decode cX8_answerArrives 38 = .ok (.iadd, 1) := by decide +kernel
theorem dX8_answerArrives_39 : decode cX8_answerArrives 39 = .ok (.iconst 1, 1) := by decide +kernel
theorem dX8_answerArrives_40 : decode cX8_answerArrives 40 = .ok (.isub, 1) := by decide +kernel
theorem dX8_answerArrives_41 : decode cX8_answerArrives 41 = .ok (.iconst 0, 1) := by decide +kernel
theorem dX8_answerArrives_42 : decode cX8_answerArrives 42 = .ok (.iastore, 1) := by decide +kernel
theorem dX8_answerArrives_43 : decode cX8_answerArrives 43 = .ok (.iload_n 1, 1) := by decide +kernel
theorem dX8_answerArrives_44 : decode cX8_answerArrives 44 = .ok (.ifCond .le 37, 3) := by decide +kernel
theorem dX8_answerArrives_47 : decode cX8_answerArrives 47 = .ok (.aload_n 0, 1) := by decide +kernel
theorem dX8_answerArrives_48 : decode cX8_answerArrives 48 = .ok (.getfield 7, 3) := by decide +kernel
theorem dX8_answerArrives_51 : decode cX8_answerArrives 51 = .ok (.bipush 83, 2) := by decide +kernel
theorem dX8_answerArrives_53 : decode cX8_answerArrives 53 = .ok (.iload_n 1, 1) := by decide +kernel
theorem dX8_answerArrives_54 : decode cX8_answerArrives 54 = .ok (.iadd, 1) := by decide +kernel
theorem dX8_answerArrives_55 : decode cX8_answerArrives 55 = .ok (.iconst 1, 1) := by decide +kernel
theorem dX8_answerArrives_56 : decode cX8_answerArrives 56 = .ok (.isub, 1) := by decide +kernel
theorem dX8_answerArrives_57 : decode cX8_answerArrives 57 = .ok (.iaload, 1) := by decide +kernel
theorem dX8_answerArrives_58 : decode cX8_answerArrives 58 = .ok (.iconst 1, 1) := by decide +kernel
theorem dX8_answerArrives_59 : decode cX8_answerArrives 59 = .ok (.if_icmp .ne 22, 3) := by decide +kernel
theorem dX8_answerArrives_62 : decode cX8_answerArrives 62 = .ok (.aload_n 0, 1) := by decide +kernel
theorem dX8_answerArrives_63 : decode cX8_answerArrives 63 = .ok (.getfield 7, 3) := by decide +kernel
theorem dX8_answerArrives_66 : decode cX8_answerArrives 66 = .ok (.bipush 83, 2) := by decide +kernel
theorem dX8_answerArrives_68 : decode cX8_answerArrives 68 = .ok (.iload_n 1, 1) := by decide +kernel
theorem dX8_answerArrives_69 : decode cX8_answerArrives 69 = .ok (.iadd, 1) := by decide +kernel
theorem dX8_answerArrives_70 : decode cX8_answerArrives 70 = .ok (.iconst 1, 1) := by decide +kernel
theorem dX8_answerArrives_71 : decode cX8_answerArrives 71 = .ok (.isub, 1) := by decide +kernel
theorem dX8_answerArrives_72 : decode cX8_answerArrives 72 = .ok (.iconst 0, 1) := by decide +kernel
theorem dX8_answerArrives_73 : decode cX8_answerArrives 73 = .ok (.iastore, 1) := by decide +kernel
theorem dX8_answerArrives_74 : decode cX8_answerArrives 74 = .ok (.aload_n 0, 1) := by decide +kernel
theorem dX8_answerArrives_75 : decode cX8_answerArrives 75 = .ok (.iload_n 1, 1) := by decide +kernel
theorem dX8_answerArrives_76 : decode cX8_answerArrives 76 = .ok (.iconst 1, 1) := by decide +kernel
theorem dX8_answerArrives_77 : decode cX8_answerArrives 77 = .ok (.isub, 1) := by decide +kernel
theorem dX8_answerArrives_78 : decode cX8_answerArrives 78 = .ok (.invokevirtual 72, 3) := by decide +kernel
theorem dX8_answerArrives_81 : decode cX8_answerArrives 81 = .ok (.return_, 1) := by decide +kernel
theorem dX8_answerArrives_82 : decode cX8_answerArrives 82 = .ok (.aload_n 0, 1) := by decide +kernel
theorem dX8_answerArrives_83 : decode cX8_answerArrives 83 = .ok (.getfield 7, 3) := by decide +kernel
theorem dX8_answerArrives_86 : decode cX8_answerArrives 86 = .ok (.bipush 76, 2) := by decide +kernel
theorem dX8_answerArrives_88 : decode cX8_answerArrives 88 = .ok (.iload_n 1, 1) := by decide +kernel
theorem dX8_answerArrives_89 : decode cX8_answerArrives 89 = .ok (.iadd, 1) := by decide +kernel
theorem dX8_answerArrives_90 : decode cX8_answerArrives 90 = .ok (.iconst 1, 1) := by decide +kernel
theorem dX8_answerArrives_91 : decode cX8_answerArrives 91 = .ok (.iastore, 1) := by decide +kernel
theorem dX8_answerArrives_92 : decode cX8_answerArrives 92 = .ok (.iload_n 1, 1) := by decide +kernel
theorem dX8_answerArrives_93 : decode cX8_answerArrives 93 = .ok (.ifCond .ne 10, 3) := by decide +kernel
theorem dX8_answerArrives_96 : decode cX8_answerArrives 96 = .ok (.aload_n 0, 1) := by decide +kernel
theorem dX8_answerArrives_97 : decode cX8_answerArrives 97 = .ok (.invokevirtual 75, 3) := by decide +kernel
theorem dX8_answerArrives_100 : decode cX8_answerArrives 100 = .ok (.goto 34, 3) := by decide +kernel
theorem dX8_answerArrives_103 : decode cX8_answerArrives 103 = .ok (.aload_n 0, 1) := by decide +kernel
theorem dX8_answerArrives_104 : decode cX8_answerArrives 104 = .ok (.getfield 7, 3) := by decide +kernel
theorem dX8_answerArrives_107 : decode cX8_answerArrives 107 = .ok (.bipush 97, 2) := by decide +kernel
theorem dX8_answerArrives_109 : decode cX8_answerArrives 109 = .ok (.iload_n 1, 1) := by decide +kernel
theorem dX8_answerArrives_110 : decode cX8_answerArrives 110 = .ok (.iadd, 1) := by decide +kernel
theorem dX8_answerArrives_111 : decode cX8_answerArrives 111 = .ok (.iconst 1, 1) := by decide +kernel
theorem dX8_answerArrives_112 : decode cX8_answerArrives 112 = .ok (.isub, 1) := by decide +kernel
theorem dX8_answerArrives_113 : decode cX8_answerArrives 113 = .ok (.iaload, 1) := by decide +kernel
theorem dX8_answerArrives_114 : decode cX8_answerArrives 114 = .ok (.iconst 1, 1) := by decide +kernel
theorem dX8_answerArrives_115 : decode cX8_answerArrives 115 = .ok (.if_icmp .ne 19, 3) := by decide +kernel
theorem dX8_answerArrives_118 : decode cX8_answerArrives 118 = .ok (.aload_n 0, 1) := by decide +kernel
theorem dX8_answerArrives_119 : decode cX8_answerArrives 119 = .ok (.iload_n 1, 1) := by decide +kernel
theorem dX8_answerArrives_120 : decode cX8_answerArrives 120 = .ok (.aload_n 0, 1) := by decide +kernel
theorem dX8_answerArrives_121 : decode cX8_answerArrives 121 = .ok (.getfield 7, 3) := by decide +kernel
theorem dX8_answerArrives_124 : decode cX8_answerArrives 124 = .ok (.bipush 103, 2) := by decide +kernel
theorem dX8_answerArrives_126 : decode cX8_answerArrives 126 = .ok (.iload_n 1, 1) := by decide +kernel
theorem dX8_answerArrives_127 : decode cX8_answerArrives 127 = .ok (.iadd, 1) := by decide +kernel
theorem dX8_answerArrives_128 : decode cX8_answerArrives 128 = .ok (.iconst 1, 1) := by decide +kernel
theorem dX8_answerArrives_129 : decode cX8_answerArrives 129 = .ok (.isub, 1) := by decide +kernel
theorem dX8_answerArrives_130 : decode cX8_answerArrives 130 = .ok (.iaload, 1) := by decide +kernel
theorem dX8_answerArrives_131 : decode cX8_answerArrives 131 = .ok (.invokevirtual 65, 3) := by decide +kernel
theorem dX8_answerArrives_134 : decode cX8_answerArrives 134 = .ok (.return_, 1) := by decide +kernel
theorem dX8_whenOf_0 : decode cX8_whenOf 0 = .ok (.aload_n 0, 1) := by decide +kernel
theorem dX8_whenOf_1 : decode cX8_whenOf 1 = .ok (.getfield 7, 3) := by decide +kernel
theorem dX8_whenOf_4 : decode cX8_whenOf 4 = .ok (.sipush 319, 3) := by decide +kernel
theorem dX8_whenOf_7 : decode cX8_whenOf 7 = .ok (.iconst 4, 1) := by decide +kernel
theorem dX8_whenOf_8 : decode cX8_whenOf 8 = .ok (.iload_n 1, 1) := by decide +kernel
theorem dX8_whenOf_9 : decode cX8_whenOf 9 = .ok (.imul, 1) := by decide +kernel
theorem dX8_whenOf_10 : decode cX8_whenOf 10 = .ok (.iadd, 1) := by decide +kernel
theorem dX8_whenOf_11 : decode cX8_whenOf 11 = .ok (.iconst 0, 1) := by decide +kernel
theorem dX8_whenOf_12 : decode cX8_whenOf 12 = .ok (.iadd, 1) := by decide +kernel
theorem dX8_whenOf_13 : decode cX8_whenOf 13 = .ok (.iaload, 1) := by decide +kernel
theorem dX8_whenOf_14 : decode cX8_whenOf 14 = .ok (.ireturn, 1) := by decide +kernel
set_option maxRecDepth 20000 in
theorem ggX8_nextChange_X8_whenOf : GoodIn wsX8_nextChange wsX8_whenOf := goodIn_r _ [6, 1, 7, 8, 9, 10, 11, 12, 13, 14, 15, 16, 17, 18] (by decide +kernel) (by decide +kernel)
set_option maxRecDepth 20000 in
theorem gX8_nextChange_X8_whenOf : GoodIn wsX8_nextChange (wsV RX8 78 RX8 yX8_whenOf wsX8_whenOf) := goodIn_app (goodIn_of _ (by decide +kernel)) ggX8_nextChange_X8_whenOf
theorem dX8_nextChange_0 : decode cX8_nextChange 0 = .ok (.bipush (-5), 2) := by decide +kernel
theorem dX8_nextChange_2 : decode cX8_nextChange 2 = .ok (.istore_n 1, 1) := by decide +kernel
theorem dX8_nextChange_3 : decode cX8_nextChange 3 = .ok (.iconst 0, 1) := by decide +kernel
theorem dX8_nextChange_4 : decode cX8_nextChange 4 = .ok (.istore_n 2, 1) := by decide +kernel
theorem dX8_nextChange_5 : decode cX8_nextChange 5 = .ok (.iload_n 2, 1) := by decide +kernel
theorem dX8_nextChange_6 : decode cX8_nextChange 6 = .ok (.aload_n 0, 1) := by decide +kernel
theorem dX8_nextChange_7 : decode cX8_nextChange 7 = .ok (.getfield 7, 3) := by decide +kernel
theorem dX8_nextChange_10 : decode cX8_nextChange 10 = .ok (.bipush 10, 2) := by decide +kernel
theorem dX8_nextChange_12 : decode cX8_nextChange 12 = .ok (.iaload, 1) := by decide +kernel
theorem dX8_nextChange_13 : decode cX8_nextChange 13 = .ok (.if_icmp .ge 34, 3) := by decide +kernel
theorem dX8_nextChange_16 : decode cX8_nextChange 16 = .ok (.iload_n 1, 1) := by decide +kernel
theorem dX8_nextChange_17 : decode cX8_nextChange 17 = .ok (.bipush (-5), 2) := by decide +kernel
theorem dX8_nextChange_19 : decode cX8_nextChange 19 = .ok (.if_icmp .eq 16, 3) := by decide +kernel
theorem dX8_nextChange_22 : decode cX8_nextChange 22 = .ok (.aload_n 0, 1) := by decide +kernel
theorem dX8_nextChange_23 : decode cX8_nextChange 23 = .ok (.iload_n 2, 1) := by decide +kernel
theorem dX8_nextChange_24 : decode cX8_nextChange 24 = .ok (.invokevirtual 78, 3) := by decide +kernel
theorem dX8_nextChange_27 : decode cX8_nextChange 27 = .ok (.aload_n 0, 1) := by decide +kernel
theorem dX8_nextChange_28 : decode cX8_nextChange 28 = .ok (.iload_n 1, 1) := by decide +kernel
theorem dX8_nextChange_29 : decode cX8_nextChange 29 = .ok (.invokevirtual 78, 3) := by decide +kernel
theorem dX8_nextChange_32 : decode cX8_nextChange 32 = .ok (.if_icmp .ge 7, 3) := by decide +kernel
theorem dX8_nextChange_35 : decode cX8_nextChange 35 = .ok (.iload_n 2, 1) := by decide +kernel
theorem dX8_nextChange_36 : decode cX8_nextChange 36 = .ok (.goto 4, 3) := by decide +kernel
theorem dX8_nextChange_39 : decode cX8_nextChange 39 = .ok (.iload_n 1, 1) := by decide +kernel
theorem dX8_nextChange_40 : decode cX8_nextChange 40 = .ok (.istore_n 1, 1) := by decide +kernel
theorem dX8_nextChange_41 : decode cX8_nextChange 41 = .ok (.iinc 2 1, 3) := by decide +kernel
theorem dX8_nextChange_44 : decode cX8_nextChange 44 = .ok (.goto (-39), 3) := by decide +kernel
theorem dX8_nextChange_47 : decode cX8_nextChange 47 = .ok (.iload_n 1, 1) := by decide +kernel
theorem dX8_nextChange_48 : decode cX8_nextChange 48 = .ok (.ireturn, 1) := by decide +kernel
set_option maxRecDepth 20000 in
theorem ggX8_arrive_X8_requestArrives : GoodIn wsX8_arrive wsX8_requestArrives := goodIn_r _ [6, 1, 7, 8, 9, 5, 10, 11, 12, 13, 14, 15, 16, 17, 18, 19, 20, 21, 22, 23, 24, 25, 26, 27, 28, 29, 30, 31, 32, 33, 34, 43, 44, 45, 46, 47, 48, 49, 50, 51, 52, 53, 54] (by decide +kernel) (by decide +kernel)
set_option maxRecDepth 20000 in
theorem gX8_arrive_X8_requestArrives : GoodIn wsX8_arrive (wsV RX8 82 RX8 yX8_requestArrives wsX8_requestArrives) := goodIn_app (goodIn_of _ (by decide +kernel)) ggX8_arrive_X8_requestArrives
set_option maxRecDepth 20000 in
theorem ggX8_arrive_X8_answerArrives : GoodIn wsX8_arrive wsX8_answerArrives := goodIn_r _ [38, 1, 7, 8, 9, 5, 10, 15, 16, 17, 18, 27, 28, 29, 30, 23, 24, 25, 26, 11, 12, 13, 14, 31, 32, 33, 34, 39, 40, 41, 42, 43, 44, 45, 46, 47, 48, 49, 50, 51, 52, 53, 54] (by decide +kernel) (by decide +kernel)
set_option maxRecDepth 20000 in
theorem gX8_arrive_X8_answerArrives : GoodIn wsX8_arrive (wsV RX8 85 RX8 yX8_answerArrives wsX8_answerArrives) := goodIn_app (goodIn_of _ (by decide +kernel)) ggX8_arrive_X8_answerArrives
set_option maxRecDepth 20000 in
theorem ggX8_arrive_X8_setEnd : GoodIn wsX8_arrive wsX8_setEnd := goodIn_r _ [10, 1, 43, 44, 45, 46, 47, 48, 49, 50, 51, 52, 53, 54] (by decide +kernel) (by decide +kernel)
set_option maxRecDepth 20000 in
theorem gX8_arrive_X8_setEnd : GoodIn wsX8_arrive (wsV RX8 50 RX8 yX8_setEnd wsX8_setEnd) := goodIn_app (goodIn_of _ (by decide +kernel)) ggX8_arrive_X8_setEnd
theorem dX8_arrive_0 : decode cX8_arrive 0 = .ok (.sipush 319, 3) := by decide +kernel
theorem dX8_arrive_3 : decode cX8_arrive 3 = .ok (.iconst 4, 1) := by decide +kernel
theorem dX8_arrive_4 : decode cX8_arrive 4 = .ok (.iload_n 1, 1) := by decide +kernel
theorem dX8_arrive_5 : decode cX8_arrive 5 = .ok (.imul, 1) := by decide +kernel
theorem dX8_arrive_6 : decode cX8_arrive 6 = .ok (.iadd, 1) := by decide +kernel
theorem dX8_arrive_7 : decode cX8_arrive 7 = .ok (.istore_n 2, 1) := by decide +kernel
theorem dX8_arrive_8 : decode cX8_arrive 8 = .ok (.aload_n 0, 1) := by decide +kernel
theorem dX8_arrive_9 : decode cX8_arrive 9 = .ok (.getfield 7, 3) := by decide +kernel
theorem dX8_arrive_12 : decode cX8_arrive 12 = .ok (.iload_n 2, 1) := by decide +kernel
theorem dX8_arrive_13 : decode cX8_arrive 13 = .ok (.iconst 1, 1) := by decide +kernel
theorem dX8_arrive_14 : decode cX8_arrive 14 = .ok (.iadd, 1) := by decide +kernel
theorem dX8_arrive_15 : decode cX8_arrive 15 = .ok (.iaload, 1) := by decide +kernel
theorem dX8_arrive_16 : decode cX8_arrive 16 = .ok (.istore_n 3, 1) := by decide +kernel
theorem dX8_arrive_17 : decode cX8_arrive 17 = .ok (.aload_n 0, 1) := by decide +kernel
theorem dX8_arrive_18 : decode cX8_arrive 18 = .ok (.getfield 7, 3) := by decide +kernel
theorem dX8_arrive_21 : decode cX8_arrive 21 = .ok (.iload_n 2, 1) := by decide +kernel
theorem dX8_arrive_22 : decode cX8_arrive 22 = .ok (.iconst 2, 1) := by decide +kernel
theorem dX8_arrive_23 : decode cX8_arrive 23 = .ok (.iadd, 1) := by decide +kernel
theorem dX8_arrive_24 : decode cX8_arrive 24 = .ok (.iaload, 1) := by decide +kernel
theorem dX8_arrive_25 : decode cX8_arrive 25 = .ok (.istore 4, 2) := by decide +kernel
theorem dX8_arrive_27 : decode cX8_arrive 27 = .ok (.aload_n 0, 1) := by decide +kernel
theorem dX8_arrive_28 : decode cX8_arrive 28 = .ok (.getfield 7, 3) := by decide +kernel
theorem dX8_arrive_31 : decode cX8_arrive 31 = .ok (.iload_n 2, 1) := by decide +kernel
theorem dX8_arrive_32 : decode cX8_arrive 32 = .ok (.iconst 3, 1) := by decide +kernel
theorem dX8_arrive_33 : decode cX8_arrive 33 = .ok (.iadd, 1) := by decide +kernel
theorem dX8_arrive_34 : decode cX8_arrive 34 = .ok (.iaload, 1) := by decide +kernel
theorem dX8_arrive_35 : decode cX8_arrive 35 = .ok (.istore 5, 2) := by decide +kernel
theorem dX8_arrive_37 : decode cX8_arrive 37 = .ok (.aload_n 0, 1) := by decide +kernel
theorem dX8_arrive_38 : decode cX8_arrive 38 = .ok (.getfield 7, 3) := by decide +kernel
theorem dX8_arrive_41 : decode cX8_arrive 41 = .ok (.iconst 4, 1) := by decide +kernel
theorem dX8_arrive_42 : decode cX8_arrive 42 = .ok (.aload_n 0, 1) := by decide +kernel
theorem dX8_arrive_43 : decode cX8_arrive 43 = .ok (.getfield 7, 3) := by decide +kernel
theorem dX8_arrive_46 : decode cX8_arrive 46 = .ok (.iload_n 2, 1) := by decide +kernel
theorem dX8_arrive_47 : decode cX8_arrive 47 = .ok (.iconst 0, 1) := by decide +kernel
theorem dX8_arrive_48 : decode cX8_arrive 48 = .ok (.iadd, 1) := by decide +kernel
theorem dX8_arrive_49 : decode cX8_arrive 49 = .ok (.iaload, 1) := by decide +kernel
theorem dX8_arrive_50 : decode cX8_arrive 50 = .ok (.iastore, 1) := by decide +kernel
theorem dX8_arrive_51 : decode cX8_arrive 51 = .ok (.aload_n 0, 1) := by decide +kernel
theorem dX8_arrive_52 : decode cX8_arrive 52 = .ok (.getfield 7, 3) := by decide +kernel
theorem dX8_arrive_55 : decode cX8_arrive 55 = .ok (.bipush 10, 2) := by decide +kernel
theorem dX8_arrive_57 : decode cX8_arrive 57 = .ok (.dup2, 1) := by decide +kernel
theorem dX8_arrive_58 : decode cX8_arrive 58 = .ok (.iaload, 1) := by decide +kernel
theorem dX8_arrive_59 : decode cX8_arrive 59 = .ok (.iconst 1, 1) := by decide +kernel
theorem dX8_arrive_60 : decode cX8_arrive 60 = .ok (.isub, 1) := by decide +kernel
theorem dX8_arrive_61 : decode cX8_arrive 61 = .ok (.iastore, 1) := by decide +kernel
theorem dX8_arrive_62 : decode cX8_arrive 62 = .ok (.iload_n 2, 1) := by decide +kernel
theorem dX8_arrive_63 : decode cX8_arrive 63 = .ok (.istore 6, 2) := by decide +kernel
theorem dX8_arrive_65 : decode cX8_arrive 65 = .ok (.iload 6, 2) := by decide +kernel
theorem dX8_arrive_67 : decode cX8_arrive 67 = .ok (.sipush 319, 3) := by decide +kernel
theorem dX8_arrive_70 : decode cX8_arrive 70 = .ok (.iconst 4, 1) := by decide +kernel
theorem dX8_arrive_71 : decode cX8_arrive 71 = .ok (.aload_n 0, 1) := by decide +kernel
theorem dX8_arrive_72 : decode cX8_arrive 72 = .ok (.getfield 7, 3) := by decide +kernel
theorem dX8_arrive_75 : decode cX8_arrive 75 = .ok (.bipush 10, 2) := by decide +kernel
theorem dX8_arrive_77 : decode cX8_arrive 77 = .ok (.iaload, 1) := by decide +kernel
theorem dX8_arrive_78 : decode cX8_arrive 78 = .ok (.imul, 1) := by decide +kernel
theorem dX8_arrive_79 : decode cX8_arrive 79 = .ok (.iadd, 1) := by decide +kernel
theorem dX8_arrive_80 : decode cX8_arrive 80 = .ok (.if_icmp .ge 25, 3) := by decide +kernel
theorem dX8_arrive_83 : decode cX8_arrive 83 = .ok (.aload_n 0, 1) := by decide +kernel
theorem dX8_arrive_84 : decode cX8_arrive 84 = .ok (.getfield 7, 3) := by decide +kernel
theorem dX8_arrive_87 : decode cX8_arrive 87 = .ok (.iload 6, 2) := by decide +kernel
theorem dX8_arrive_89 : decode cX8_arrive 89 = .ok (.aload_n 0, 1) := by decide +kernel
theorem dX8_arrive_90 : decode cX8_arrive 90 = .ok (.getfield 7, 3) := by decide +kernel
theorem dX8_arrive_93 : decode cX8_arrive 93 = .ok (.iload 6, 2) := by decide +kernel
theorem dX8_arrive_95 : decode cX8_arrive 95 = .ok (.iconst 4, 1) := by decide +kernel
theorem dX8_arrive_96 : decode cX8_arrive 96 = .ok (.iadd, 1) := by decide +kernel
theorem dX8_arrive_97 : decode cX8_arrive 97 = .ok (.iaload, 1) := by decide +kernel
theorem dX8_arrive_98 : decode cX8_arrive 98 = .ok (.iastore, 1) := by decide +kernel
theorem dX8_arrive_99 : decode cX8_arrive 99 = .ok (.iinc 6 1, 3) := by decide +kernel
end
section
theorem dX8_arrive_102 : decode cX8_arrive 102 = .ok (.goto (-37), 3) := by decide +kernel
theorem dX8_arrive_105 : decode cX8_arrive 105 = .ok (.aload_n 0, 1) := by decide +kernel
theorem dX8_arrive_106 : decode cX8_arrive 106 = .ok (.getfield 7, 3) := by decide +kernel
theorem dX8_arrive_109 : decode cX8_arrive 109 = .ok (.bipush 7, 2) := by decide +kernel
theorem dX8_arrive_111 : decode cX8_arrive 111 = .ok (.dup2, 1) := by decide +kernel
theorem dX8_arrive_112 : decode cX8_arrive 112 = .ok (.iaload, 1) := by decide +kernel
theorem dX8_arrive_113 : decode cX8_arrive 113 = .ok (.iconst 1, 1) := by decide +kernel
theorem dX8_arrive_114 : decode cX8_arrive 114 = .ok (.iadd, 1) := by decide +kernel
theorem dX8_arrive_115 : decode cX8_arrive 115 = .ok (.iastore, 1) := by decide +kernel
theorem dX8_arrive_116 : decode cX8_arrive 116 = .ok (.iload 4, 2) := by decide +kernel
theorem dX8_arrive_118 : decode cX8_arrive 118 = .ok (.ifCond .ne 13, 3) := by decide +kernel
theorem dX8_arrive_121 : decode cX8_arrive 121 = .ok (.aload_n 0, 1) := by decide +kernel
theorem dX8_arrive_122 : decode cX8_arrive 122 = .ok (.iload_n 3, 1) := by decide +kernel
theorem dX8_arrive_123 : decode cX8_arrive 123 = .ok (.iload 5, 2) := by decide +kernel
theorem dX8_arrive_125 : decode cX8_arrive 125 = .ok (.invokevirtual 82, 3) := by decide +kernel
theorem dX8_arrive_128 : decode cX8_arrive 128 = .ok (.goto 27, 3) := by decide +kernel
theorem dX8_arrive_131 : decode cX8_arrive 131 = .ok (.iload 4, 2) := by decide +kernel
theorem dX8_arrive_133 : decode cX8_arrive 133 = .ok (.iconst 1, 1) := by decide +kernel
theorem dX8_arrive_134 : decode cX8_arrive 134 = .ok (.if_icmp .ne 13, 3) := by decide +kernel
theorem dX8_arrive_137 : decode cX8_arrive 137 = .ok (.aload_n 0, 1) := by decide +kernel
theorem dX8_arrive_138 : decode cX8_arrive 138 = .ok (.iload_n 3, 1) := by decide +kernel
theorem dX8_arrive_139 : decode cX8_arrive 139 = .ok (.iload 5, 2) := by decide +kernel
theorem dX8_arrive_141 : decode cX8_arrive 141 = .ok (.invokevirtual 85, 3) := by decide +kernel
theorem dX8_arrive_144 : decode cX8_arrive 144 = .ok (.goto 11, 3) := by decide +kernel
theorem dX8_arrive_147 : decode cX8_arrive 147 = .ok (.aload_n 0, 1) := by decide +kernel
theorem dX8_arrive_148 : decode cX8_arrive 148 = .ok (.iload_n 3, 1) := by decide +kernel
theorem dX8_arrive_149 : decode cX8_arrive 149 = .ok (.iconst 5, 1) := by decide +kernel
theorem dX8_arrive_150 : decode cX8_arrive 150 = .ok (.iload 5, 2) := by decide +kernel
theorem dX8_arrive_152 : decode cX8_arrive 152 = .ok (.invokevirtual 50, 3) := by decide +kernel
theorem dX8_arrive_155 : decode cX8_arrive 155 = .ok (.return_, 1) := by decide +kernel
set_option maxRecDepth 20000 in
theorem ggX8_goTo_X8_nextChange : GoodIn wsX8_goTo wsX8_nextChange := goodIn_r _ [6, 1, 7, 8, 9, 5, 10, 55, 56, 57, 58, 59, 60, 61, 62, 63, 64, 65, 66] (by decide +kernel) (by decide +kernel)
set_option maxRecDepth 20000 in
theorem gX8_goTo_X8_nextChange : GoodIn wsX8_goTo (wsV RX8 88 RX8 yX8_nextChange wsX8_nextChange) := goodIn_app (goodIn_of _ (by decide +kernel)) ggX8_goTo_X8_nextChange
set_option maxRecDepth 20000 in
theorem ggX8_goTo_X8_whenOf : GoodIn wsX8_goTo wsX8_whenOf := goodIn_r _ [10, 1, 55, 56, 57, 58, 59, 60, 61, 62, 63, 64, 65, 66] (by decide +kernel) (by decide +kernel)
set_option maxRecDepth 20000 in
theorem gX8_goTo_X8_whenOf : GoodIn wsX8_goTo (wsV RX8 78 RX8 yX8_whenOf wsX8_whenOf) := goodIn_app (goodIn_of _ (by decide +kernel)) ggX8_goTo_X8_whenOf
set_option maxRecDepth 20000 in
theorem ggX8_goTo_X8_arrive : GoodIn wsX8_goTo wsX8_arrive := goodIn_r _ [14, 1, 15, 16, 17, 5, 18, 19, 20, 21, 22, 23, 24, 25, 26, 27, 28, 29, 30, 31, 32, 33, 34, 35, 36, 37, 38, 39, 40, 41, 42, 43, 44, 45, 46, 47, 48, 49, 50, 51, 52, 53, 54, 55, 56, 57, 58, 59, 60, 61, 62, 63, 64, 65, 66] (by decide +kernel) (by decide +kernel)
set_option maxRecDepth 20000 in
theorem gX8_goTo_X8_arrive : GoodIn wsX8_goTo (wsV RX8 92 RX8 yX8_arrive wsX8_arrive) := goodIn_app (goodIn_of _ (by decide +kernel)) ggX8_goTo_X8_arrive
theorem dX8_goTo_0 : decode cX8_goTo 0 = .ok (.aload_n 0, 1) := by decide +kernel
theorem dX8_goTo_1 : decode cX8_goTo 1 = .ok (.invokevirtual 88, 3) := by decide +kernel
theorem dX8_goTo_4 : decode cX8_goTo 4 = .ok (.istore_n 2, 1) := by decide +kernel
theorem dX8_goTo_5 : decode cX8_goTo 5 = .ok (.iload_n 2, 1) := by decide +kernel
theorem dX8_goTo_6 : decode cX8_goTo 6 = .ok (.bipush (-5), 2) := by decide +kernel
theorem dX8_goTo_8 : decode cX8_goTo 8 = .ok (.if_icmp .eq 25, 3) := by decide +kernel
theorem dX8_goTo_11 : decode cX8_goTo 11 = .ok (.aload_n 0, 1) := by decide +kernel
theorem dX8_goTo_12 : decode cX8_goTo 12 = .ok (.iload_n 2, 1) := by decide +kernel
theorem dX8_goTo_13 : decode cX8_goTo 13 = .ok (.invokevirtual 78, 3) := by decide +kernel
theorem dX8_goTo_16 : decode cX8_goTo 16 = .ok (.iload_n 1, 1) := by decide +kernel
theorem dX8_goTo_17 : decode cX8_goTo 17 = .ok (.if_icmp .gt 16, 3) := by decide +kernel
theorem dX8_goTo_20 : decode cX8_goTo 20 = .ok (.aload_n 0, 1) := by decide +kernel
theorem dX8_goTo_21 : decode cX8_goTo 21 = .ok (.iload_n 2, 1) := by decide +kernel
theorem dX8_goTo_22 : decode cX8_goTo 22 = .ok (.invokevirtual 92, 3) := by decide +kernel
theorem dX8_goTo_25 : decode cX8_goTo 25 = .ok (.aload_n 0, 1) := by decide +kernel
theorem dX8_goTo_26 : decode cX8_goTo 26 = .ok (.invokevirtual 88, 3) := by decide +kernel
theorem dX8_goTo_29 : decode cX8_goTo 29 = .ok (.istore_n 2, 1) := by decide +kernel
theorem dX8_goTo_30 : decode cX8_goTo 30 = .ok (.goto (-25), 3) := by decide +kernel
theorem dX8_goTo_33 : decode cX8_goTo 33 = .ok (.aload_n 0, 1) := by decide +kernel
theorem dX8_goTo_34 : decode cX8_goTo 34 = .ok (.getfield 7, 3) := by decide +kernel
theorem dX8_goTo_37 : decode cX8_goTo 37 = .ok (.iconst 4, 1) := by decide +kernel
theorem dX8_goTo_38 : decode cX8_goTo 38 = .ok (.iload_n 1, 1) := by decide +kernel
theorem dX8_goTo_39 : decode cX8_goTo 39 = .ok (.iastore, 1) := by decide +kernel
theorem dX8_goTo_40 : decode cX8_goTo 40 = .ok (.return_, 1) := by decide +kernel
set_option maxRecDepth 20000 in
theorem ggX8_settle_X8_nextChange : GoodIn wsX8_settle wsX8_nextChange := goodIn_r _ [6, 1, 7, 8, 9, 5, 10, 55, 56, 57, 58, 59, 60, 61, 62, 63, 64, 65, 66] (by decide +kernel) (by decide +kernel)
set_option maxRecDepth 20000 in
theorem gX8_settle_X8_nextChange : GoodIn wsX8_settle (wsV RX8 88 RX8 yX8_nextChange wsX8_nextChange) := goodIn_app (goodIn_of _ (by decide +kernel)) ggX8_settle_X8_nextChange
set_option maxRecDepth 20000 in
theorem ggX8_settle_X8_arrive : GoodIn wsX8_settle wsX8_arrive := goodIn_r _ [14, 1, 15, 16, 17, 5, 18, 19, 20, 21, 22, 23, 24, 25, 26, 27, 28, 29, 30, 31, 32, 33, 34, 35, 36, 37, 38, 39, 40, 41, 42, 43, 44, 45, 46, 47, 48, 49, 50, 51, 52, 53, 54, 55, 56, 57, 58, 59, 60, 61, 62, 63, 64, 65, 66] (by decide +kernel) (by decide +kernel)
set_option maxRecDepth 20000 in
theorem gX8_settle_X8_arrive : GoodIn wsX8_settle (wsV RX8 92 RX8 yX8_arrive wsX8_arrive) := goodIn_app (goodIn_of _ (by decide +kernel)) ggX8_settle_X8_arrive
theorem dX8_settle_0 : decode cX8_settle 0 = .ok (.aload_n 0, 1) := by decide +kernel
theorem dX8_settle_1 : decode cX8_settle 1 = .ok (.getfield 7, 3) := by decide +kernel
theorem dX8_settle_4 : decode cX8_settle 4 = .ok (.iconst 4, 1) := by decide +kernel
theorem dX8_settle_5 : decode cX8_settle 5 = .ok (.iaload, 1) := by decide +kernel
theorem dX8_settle_6 : decode cX8_settle 6 = .ok (.istore_n 1, 1) := by decide +kernel
theorem dX8_settle_7 : decode cX8_settle 7 = .ok (.aload_n 0, 1) := by decide +kernel
theorem dX8_settle_8 : decode cX8_settle 8 = .ok (.invokevirtual 88, 3) := by decide +kernel
theorem dX8_settle_11 : decode cX8_settle 11 = .ok (.istore_n 2, 1) := by decide +kernel
theorem dX8_settle_12 : decode cX8_settle 12 = .ok (.iload_n 2, 1) := by decide +kernel
theorem dX8_settle_13 : decode cX8_settle 13 = .ok (.bipush (-5), 2) := by decide +kernel
theorem dX8_settle_15 : decode cX8_settle 15 = .ok (.if_icmp .eq 16, 3) := by decide +kernel
theorem dX8_settle_18 : decode cX8_settle 18 = .ok (.aload_n 0, 1) := by decide +kernel
theorem dX8_settle_19 : decode cX8_settle 19 = .ok (.iload_n 2, 1) := by decide +kernel
theorem dX8_settle_20 : decode cX8_settle 20 = .ok (.invokevirtual 92, 3) := by decide +kernel
theorem dX8_settle_23 : decode cX8_settle 23 = .ok (.aload_n 0, 1) := by decide +kernel
theorem dX8_settle_24 : decode cX8_settle 24 = .ok (.invokevirtual 88, 3) := by decide +kernel
theorem dX8_settle_27 : decode cX8_settle 27 = .ok (.istore_n 2, 1) := by decide +kernel
theorem dX8_settle_28 : decode cX8_settle 28 = .ok (.goto (-16), 3) := by decide +kernel
theorem dX8_settle_31 : decode cX8_settle 31 = .ok (.aload_n 0, 1) := by decide +kernel
theorem dX8_settle_32 : decode cX8_settle 32 = .ok (.getfield 7, 3) := by decide +kernel
theorem dX8_settle_35 : decode cX8_settle 35 = .ok (.iconst 4, 1) := by decide +kernel
theorem dX8_settle_36 : decode cX8_settle 36 = .ok (.iaload, 1) := by decide +kernel
theorem dX8_settle_37 : decode cX8_settle 37 = .ok (.iload_n 1, 1) := by decide +kernel
theorem dX8_settle_38 : decode cX8_settle 38 = .ok (.isub, 1) := by decide +kernel
theorem dX8_settle_39 : decode cX8_settle 39 = .ok (.ireturn, 1) := by decide +kernel
set_option maxRecDepth 20000 in
theorem ggX8_adds_X8_isSender : GoodIn wsX8_adds wsX8_isSender := goodIn_r _ [5, 6, 7, 4, 8] (by decide +kernel) (by decide +kernel)
set_option maxRecDepth 20000 in
theorem gX8_adds_X8_isSender : GoodIn wsX8_adds (va_wsS RX8 95 yX8_isSender wsX8_isSender) := goodIn_app (goodIn_of _ (by decide +kernel)) ggX8_adds_X8_isSender
set_option maxRecDepth 20000 in
theorem ggX8_adds_X8_within : GoodIn wsX8_adds wsX8_within := goodIn_r _ [8] (by decide +kernel) (by decide +kernel)
set_option maxRecDepth 20000 in
theorem gX8_adds_X8_within : GoodIn wsX8_adds (va_wsS RX8 29 yX8_within wsX8_within) := goodIn_app (goodIn_of _ (by decide +kernel)) ggX8_adds_X8_within
set_option maxRecDepth 20000 in
theorem ggX8_adds_X8_letGo : GoodIn wsX8_adds wsX8_letGo := goodIn_r _ [12, 1, 13, 14, 15, 4, 16, 17, 18, 19, 20, 21, 22, 23, 24, 25, 26, 27, 28, 29, 30, 31, 32, 33, 34, 35, 36] (by decide +kernel) (by decide +kernel)
set_option maxRecDepth 20000 in
theorem gX8_adds_X8_letGo : GoodIn wsX8_adds (wsV RX8 75 RX8 yX8_letGo wsX8_letGo) := goodIn_app (goodIn_of _ (by decide +kernel)) ggX8_adds_X8_letGo
theorem dX8_adds_0 : decode cX8_adds 0 = .ok (.iload_n 1, 1) := by decide +kernel
theorem dX8_adds_1 : decode cX8_adds 1 = .ok (.invokestatic 95, 3) := by decide +kernel
theorem dX8_adds_4 : decode cX8_adds 4 = .ok (.ifCond .ne 5, 3) := by decide +kernel
theorem dX8_adds_7 : decode cX8_adds 7 = .ok (.iconst (-1), 1) := by decide +kernel
theorem dX8_adds_8 : decode cX8_adds 8 = .ok (.ireturn, 1) := by decide +kernel
theorem dX8_adds_9 : decode cX8_adds 9 = .ok (.iload_n 2, 1) := by decide +kernel
theorem dX8_adds_10 : decode cX8_adds 10 = .ok (.iconst 0, 1) := by decide +kernel
theorem dX8_adds_11 : decode cX8_adds 11 = .ok (.bipush 15, 2) := by decide +kernel
theorem dX8_adds_13 : decode cX8_adds 13 = .ok (.invokestatic 29, 3) := by decide +kernel
theorem dX8_adds_16 : decode cX8_adds 16 = .ok (.ifCond .ne 6, 3) := by decide +kernel
theorem dX8_adds_19 : decode cX8_adds 19 = .ok (.bipush (-2), 2) := by decide +kernel
theorem dX8_adds_21 : decode cX8_adds 21 = .ok (.ireturn, 1) := by decide +kernel
theorem dX8_adds_22 : decode cX8_adds 22 = .ok (.aload_n 0, 1) := by decide +kernel
theorem dX8_adds_23 : decode cX8_adds 23 = .ok (.getfield 7, 3) := by decide +kernel
theorem dX8_adds_26 : decode cX8_adds 26 = .ok (.bipush 11, 2) := by decide +kernel
theorem dX8_adds_28 : decode cX8_adds 28 = .ok (.iload_n 1, 1) := by decide +kernel
theorem dX8_adds_29 : decode cX8_adds 29 = .ok (.iadd, 1) := by decide +kernel
theorem dX8_adds_30 : decode cX8_adds 30 = .ok (.iaload, 1) := by decide +kernel
theorem dX8_adds_31 : decode cX8_adds 31 = .ok (.bipush 20, 2) := by decide +kernel
theorem dX8_adds_33 : decode cX8_adds 33 = .ok (.if_icmp .ne 6, 3) := by decide +kernel
theorem dX8_adds_36 : decode cX8_adds 36 = .ok (.bipush (-3), 2) := by decide +kernel
theorem dX8_adds_38 : decode cX8_adds 38 = .ok (.ireturn, 1) := by decide +kernel
theorem dX8_adds_39 : decode cX8_adds 39 = .ok (.aload_n 0, 1) := by decide +kernel
theorem dX8_adds_40 : decode cX8_adds 40 = .ok (.getfield 7, 3) := by decide +kernel
theorem dX8_adds_43 : decode cX8_adds 43 = .ok (.bipush 109, 2) := by decide +kernel
theorem dX8_adds_45 : decode cX8_adds 45 = .ok (.bipush 20, 2) := by decide +kernel
theorem dX8_adds_47 : decode cX8_adds 47 = .ok (.iload_n 1, 1) := by decide +kernel
theorem dX8_adds_48 : decode cX8_adds 48 = .ok (.imul, 1) := by decide +kernel
theorem dX8_adds_49 : decode cX8_adds 49 = .ok (.iadd, 1) := by decide +kernel
theorem dX8_adds_50 : decode cX8_adds 50 = .ok (.aload_n 0, 1) := by decide +kernel
theorem dX8_adds_51 : decode cX8_adds 51 = .ok (.getfield 7, 3) := by decide +kernel
theorem dX8_adds_54 : decode cX8_adds 54 = .ok (.bipush 11, 2) := by decide +kernel
theorem dX8_adds_56 : decode cX8_adds 56 = .ok (.iload_n 1, 1) := by decide +kernel
theorem dX8_adds_57 : decode cX8_adds 57 = .ok (.iadd, 1) := by decide +kernel
theorem dX8_adds_58 : decode cX8_adds 58 = .ok (.iaload, 1) := by decide +kernel
theorem dX8_adds_59 : decode cX8_adds 59 = .ok (.iadd, 1) := by decide +kernel
theorem dX8_adds_60 : decode cX8_adds 60 = .ok (.iload_n 2, 1) := by decide +kernel
theorem dX8_adds_61 : decode cX8_adds 61 = .ok (.iastore, 1) := by decide +kernel
theorem dX8_adds_62 : decode cX8_adds 62 = .ok (.aload_n 0, 1) := by decide +kernel
theorem dX8_adds_63 : decode cX8_adds 63 = .ok (.getfield 7, 3) := by decide +kernel
theorem dX8_adds_66 : decode cX8_adds 66 = .ok (.bipush 11, 2) := by decide +kernel
theorem dX8_adds_68 : decode cX8_adds 68 = .ok (.iload_n 1, 1) := by decide +kernel
theorem dX8_adds_69 : decode cX8_adds 69 = .ok (.iadd, 1) := by decide +kernel
theorem dX8_adds_70 : decode cX8_adds 70 = .ok (.dup2, 1) := by decide +kernel
theorem dX8_adds_71 : decode cX8_adds 71 = .ok (.iaload, 1) := by decide +kernel
theorem dX8_adds_72 : decode cX8_adds 72 = .ok (.iconst 1, 1) := by decide +kernel
theorem dX8_adds_73 : decode cX8_adds 73 = .ok (.iadd, 1) := by decide +kernel
theorem dX8_adds_74 : decode cX8_adds 74 = .ok (.iastore, 1) := by decide +kernel
theorem dX8_adds_75 : decode cX8_adds 75 = .ok (.aload_n 0, 1) := by decide +kernel
theorem dX8_adds_76 : decode cX8_adds 76 = .ok (.invokevirtual 75, 3) := by decide +kernel
theorem dX8_adds_79 : decode cX8_adds 79 = .ok (.aload_n 0, 1) := by decide +kernel
theorem dX8_adds_80 : decode cX8_adds 80 = .ok (.getfield 7, 3) := by decide +kernel
theorem dX8_adds_83 : decode cX8_adds 83 = .ok (.bipush 11, 2) := by decide +kernel
theorem dX8_adds_85 : decode cX8_adds 85 = .ok (.iload_n 1, 1) := by decide +kernel
theorem dX8_adds_86 : decode cX8_adds 86 = .ok (.iadd, 1) := by decide +kernel
theorem dX8_adds_87 : decode cX8_adds 87 = .ok (.iaload, 1) := by decide +kernel
theorem dX8_adds_88 : decode cX8_adds 88 = .ok (.ireturn, 1) := by decide +kernel
set_option maxRecDepth 20000 in
theorem ggX8_runs_X8_within : GoodIn wsX8_runs wsX8_within := goodIn_r _ [6] (by decide +kernel) (by decide +kernel)
set_option maxRecDepth 20000 in
theorem gX8_runs_X8_within : GoodIn wsX8_runs (va_wsS RX8 29 yX8_within wsX8_within) := goodIn_app (goodIn_of _ (by decide +kernel)) ggX8_runs_X8_within
set_option maxRecDepth 20000 in
theorem ggX8_runs_X8_goTo : GoodIn wsX8_runs wsX8_goTo := goodIn_r _ [10, 1, 11, 12, 13, 5, 14, 15, 16, 17, 18, 19, 20, 21, 22, 23, 24, 25, 26, 27, 28, 29, 30, 31, 32, 33, 34, 35, 36, 37, 38, 39, 40, 41, 42, 43, 44, 45, 46, 47, 48, 49, 50, 51, 52, 53, 54, 55, 56, 57, 58, 59, 60, 61, 62, 63, 64, 65, 66, 67, 68, 69, 70, 71, 72, 73, 74] (by decide +kernel) (by decide +kernel)
set_option maxRecDepth 20000 in
theorem gX8_runs_X8_goTo : GoodIn wsX8_runs (wsV RX8 100 RX8 yX8_goTo wsX8_goTo) := goodIn_app (goodIn_of _ (by decide +kernel)) ggX8_runs_X8_goTo
theorem dX8_runs_0 : decode cX8_runs 0 = .ok (.iload_n 1, 1) := by decide +kernel
theorem dX8_runs_1 : decode cX8_runs 1 = .ok (.iconst 1, 1) := by decide +kernel
theorem dX8_runs_2 : decode cX8_runs 2 = .ok (.sipush 1000, 3) := by decide +kernel
theorem dX8_runs_5 : decode cX8_runs 5 = .ok (.invokestatic 29, 3) := by decide +kernel
theorem dX8_runs_8 : decode cX8_runs 8 = .ok (.ifCond .ne 6, 3) := by decide +kernel
theorem dX8_runs_11 : decode cX8_runs 11 = .ok (.bipush (-2), 2) := by decide +kernel
theorem dX8_runs_13 : decode cX8_runs 13 = .ok (.ireturn, 1) := by decide +kernel
theorem dX8_runs_14 : decode cX8_runs 14 = .ok (.aload_n 0, 1) := by decide +kernel
theorem dX8_runs_15 : decode cX8_runs 15 = .ok (.getfield 7, 3) := by decide +kernel
theorem dX8_runs_18 : decode cX8_runs 18 = .ok (.iconst 4, 1) := by decide +kernel
theorem dX8_runs_19 : decode cX8_runs 19 = .ok (.iaload, 1) := by decide +kernel
theorem dX8_runs_20 : decode cX8_runs 20 = .ok (.iload_n 1, 1) := by decide +kernel
theorem dX8_runs_21 : decode cX8_runs 21 = .ok (.iadd, 1) := by decide +kernel
theorem dX8_runs_22 : decode cX8_runs 22 = .ok (.ldc 99, 2) := by decide +kernel
theorem dX8_runs_24 : decode cX8_runs 24 = .ok (.if_icmp .le 6, 3) := by decide +kernel
theorem dX8_runs_27 : decode cX8_runs 27 = .ok (.bipush (-3), 2) := by decide +kernel
theorem dX8_runs_29 : decode cX8_runs 29 = .ok (.ireturn, 1) := by decide +kernel
theorem dX8_runs_30 : decode cX8_runs 30 = .ok (.aload_n 0, 1) := by decide +kernel
theorem dX8_runs_31 : decode cX8_runs 31 = .ok (.getfield 7, 3) := by decide +kernel
theorem dX8_runs_34 : decode cX8_runs 34 = .ok (.iconst 5, 1) := by decide +kernel
theorem dX8_runs_35 : decode cX8_runs 35 = .ok (.iaload, 1) := by decide +kernel
theorem dX8_runs_36 : decode cX8_runs 36 = .ok (.istore_n 2, 1) := by decide +kernel
theorem dX8_runs_37 : decode cX8_runs 37 = .ok (.aload_n 0, 1) := by decide +kernel
theorem dX8_runs_38 : decode cX8_runs 38 = .ok (.aload_n 0, 1) := by decide +kernel
theorem dX8_runs_39 : decode cX8_runs 39 = .ok (.getfield 7, 3) := by decide +kernel
theorem dX8_runs_42 : decode cX8_runs 42 = .ok (.iconst 4, 1) := by decide +kernel
theorem dX8_runs_43 : decode cX8_runs 43 = .ok (.iaload, 1) := by decide +kernel
theorem dX8_runs_44 : decode cX8_runs 44 = .ok (.iload_n 1, 1) := by decide +kernel
theorem dX8_runs_45 : decode cX8_runs 45 = .ok (.iadd, 1) := by decide +kernel
theorem dX8_runs_46 : decode cX8_runs 46 = .ok (.invokevirtual 100, 3) := by decide +kernel
theorem dX8_runs_49 : decode cX8_runs 49 = .ok (.aload_n 0, 1) := by decide +kernel
theorem dX8_runs_50 : decode cX8_runs 50 = .ok (.getfield 7, 3) := by decide +kernel
theorem dX8_runs_53 : decode cX8_runs 53 = .ok (.iconst 5, 1) := by decide +kernel
theorem dX8_runs_54 : decode cX8_runs 54 = .ok (.iaload, 1) := by decide +kernel
theorem dX8_runs_55 : decode cX8_runs 55 = .ok (.iload_n 2, 1) := by decide +kernel
theorem dX8_runs_56 : decode cX8_runs 56 = .ok (.isub, 1) := by decide +kernel
theorem dX8_runs_57 : decode cX8_runs 57 = .ok (.ireturn, 1) := by decide +kernel
set_option maxRecDepth 20000 in
theorem ggX8_setsDelay_X8_isLink : GoodIn wsX8_setsDelay wsX8_isLink := goodIn_r _ [6, 1, 7, 8, 5, 9, 13, 14, 15, 16, 17, 18, 19, 20, 21, 22, 23, 24] (by decide +kernel) (by decide +kernel)
set_option maxRecDepth 20000 in
theorem gX8_setsDelay_X8_isLink : GoodIn wsX8_setsDelay (wsV RX8 103 RX8 yX8_isLink wsX8_isLink) := goodIn_app (goodIn_of _ (by decide +kernel)) ggX8_setsDelay_X8_isLink
set_option maxRecDepth 20000 in
theorem ggX8_setsDelay_X8_isWire : GoodIn wsX8_setsDelay wsX8_isWire := goodIn_r _ [12, 7, 8, 5, 9] (by decide +kernel) (by decide +kernel)
set_option maxRecDepth 20000 in
theorem gX8_setsDelay_X8_isWire : GoodIn wsX8_setsDelay (va_wsS RX8 106 yX8_isWire wsX8_isWire) := goodIn_app (goodIn_of _ (by decide +kernel)) ggX8_setsDelay_X8_isWire
set_option maxRecDepth 20000 in
theorem ggX8_setsDelay_X8_within : GoodIn wsX8_setsDelay wsX8_within := goodIn_r _ [9] (by decide +kernel) (by decide +kernel)
set_option maxRecDepth 20000 in
theorem gX8_setsDelay_X8_within : GoodIn wsX8_setsDelay (va_wsS RX8 29 yX8_within wsX8_within) := goodIn_app (goodIn_of _ (by decide +kernel)) ggX8_setsDelay_X8_within
theorem dX8_setsDelay_0 : decode cX8_setsDelay 0 = .ok (.aload_n 0, 1) := by decide +kernel
theorem dX8_setsDelay_1 : decode cX8_setsDelay 1 = .ok (.iload_n 1, 1) := by decide +kernel
theorem dX8_setsDelay_2 : decode cX8_setsDelay 2 = .ok (.invokevirtual 103, 3) := by decide +kernel
theorem dX8_setsDelay_5 : decode cX8_setsDelay 5 = .ok (.ifCond .eq 10, 3) := by decide +kernel
theorem dX8_setsDelay_8 : decode cX8_setsDelay 8 = .ok (.iload_n 2, 1) := by decide +kernel
theorem dX8_setsDelay_9 : decode cX8_setsDelay 9 = .ok (.invokestatic 106, 3) := by decide +kernel
theorem dX8_setsDelay_12 : decode cX8_setsDelay 12 = .ok (.ifCond .ne 5, 3) := by decide +kernel
theorem dX8_setsDelay_15 : decode cX8_setsDelay 15 = .ok (.iconst (-1), 1) := by decide +kernel
theorem dX8_setsDelay_16 : decode cX8_setsDelay 16 = .ok (.ireturn, 1) := by decide +kernel
theorem dX8_setsDelay_17 : decode cX8_setsDelay 17 = .ok (.iload_n 3, 1) := by decide +kernel
theorem dX8_setsDelay_18 : decode cX8_setsDelay 18 = .ok (.iconst 1, 1) := by decide +kernel
theorem dX8_setsDelay_19 : decode cX8_setsDelay 19 = .ok (.bipush 20, 2) := by decide +kernel
theorem dX8_setsDelay_21 : decode cX8_setsDelay 21 = .ok (.invokestatic 29, 3) := by decide +kernel
theorem dX8_setsDelay_24 : decode cX8_setsDelay 24 = .ok (.ifCond .ne 6, 3) := by decide +kernel
theorem dX8_setsDelay_27 : decode cX8_setsDelay 27 = .ok (.bipush (-2), 2) := by decide +kernel
theorem dX8_setsDelay_29 : decode cX8_setsDelay 29 = .ok (.ireturn, 1) := by decide +kernel
theorem dX8_setsDelay_30 : decode cX8_setsDelay 30 = .ok (.bipush 13, 2) := by decide +kernel
theorem dX8_setsDelay_32 : decode cX8_setsDelay 32 = .ok (.iconst 3, 1) := by decide +kernel
theorem dX8_setsDelay_33 : decode cX8_setsDelay 33 = .ok (.iload_n 1, 1) := by decide +kernel
theorem dX8_setsDelay_34 : decode cX8_setsDelay 34 = .ok (.imul, 1) := by decide +kernel
theorem dX8_setsDelay_35 : decode cX8_setsDelay 35 = .ok (.iadd, 1) := by decide +kernel
theorem dX8_setsDelay_36 : decode cX8_setsDelay 36 = .ok (.iload_n 2, 1) := by decide +kernel
theorem dX8_setsDelay_37 : decode cX8_setsDelay 37 = .ok (.iadd, 1) := by decide +kernel
theorem dX8_setsDelay_38 : decode cX8_setsDelay 38 = .ok (.istore 4, 2) := by decide +kernel
theorem dX8_setsDelay_40 : decode cX8_setsDelay 40 = .ok (.aload_n 0, 1) := by decide +kernel
theorem dX8_setsDelay_41 : decode cX8_setsDelay 41 = .ok (.getfield 7, 3) := by decide +kernel
theorem dX8_setsDelay_44 : decode cX8_setsDelay 44 = .ok (.iload 4, 2) := by decide +kernel
theorem dX8_setsDelay_46 : decode cX8_setsDelay 46 = .ok (.iaload, 1) := by decide +kernel
theorem dX8_setsDelay_47 : decode cX8_setsDelay 47 = .ok (.istore 5, 2) := by decide +kernel
theorem dX8_setsDelay_49 : decode cX8_setsDelay 49 = .ok (.aload_n 0, 1) := by decide +kernel
theorem dX8_setsDelay_50 : decode cX8_setsDelay 50 = .ok (.getfield 7, 3) := by decide +kernel
theorem dX8_setsDelay_53 : decode cX8_setsDelay 53 = .ok (.iload 4, 2) := by decide +kernel
theorem dX8_setsDelay_55 : decode cX8_setsDelay 55 = .ok (.iload_n 3, 1) := by decide +kernel
theorem dX8_setsDelay_56 : decode cX8_setsDelay 56 = .ok (.iastore, 1) := by decide +kernel
theorem dX8_setsDelay_57 : decode cX8_setsDelay 57 = .ok (.iload 5, 2) := by decide +kernel
theorem dX8_setsDelay_59 : decode cX8_setsDelay 59 = .ok (.iload_n 3, 1) := by decide +kernel
theorem dX8_setsDelay_60 : decode cX8_setsDelay 60 = .ok (.if_icmp .ne 8, 3) := by decide +kernel
theorem dX8_setsDelay_63 : decode cX8_setsDelay 63 = .ok (.bipush (-5), 2) := by decide +kernel
theorem dX8_setsDelay_65 : decode cX8_setsDelay 65 = .ok (.goto 5, 3) := by decide +kernel
theorem dX8_setsDelay_68 : decode cX8_setsDelay 68 = .ok (.iload 5, 2) := by decide +kernel
theorem dX8_setsDelay_70 : decode cX8_setsDelay 70 = .ok (.ireturn, 1) := by decide +kernel
set_option maxRecDepth 20000 in
theorem ggX8_build_X8_within : GoodIn wsX8_build wsX8_within := goodIn_r _ [5] (by decide +kernel) (by decide +kernel)
set_option maxRecDepth 20000 in
theorem gX8_build_X8_within : GoodIn wsX8_build (va_wsS RX8 29 yX8_within wsX8_within) := goodIn_app (goodIn_of _ (by decide +kernel)) ggX8_build_X8_within
set_option maxRecDepth 20000 in
theorem ggX8_build_X8_record : GoodIn wsX8_build wsX8_record := goodIn_r _ [9, 10, 11, 12, 4, 13, 14, 1, 15, 16, 17, 18, 19, 20, 29, 30, 31, 32, 33, 34, 35, 36, 37, 38, 39, 40] (by decide +kernel) (by decide +kernel)
set_option maxRecDepth 20000 in
theorem gX8_build_X8_record : GoodIn wsX8_build (wsV RX8 47 RX8 yX8_record wsX8_record) := goodIn_app (goodIn_of _ (by decide +kernel)) ggX8_build_X8_record
set_option maxRecDepth 20000 in
theorem ggX8_build_X8_fullStages : GoodIn wsX8_build wsX8_fullStages := goodIn_r _ [24, 1, 29, 30, 31, 32, 33, 34, 35, 36, 37, 38, 39, 40] (by decide +kernel) (by decide +kernel)
set_option maxRecDepth 20000 in
theorem gX8_build_X8_fullStages : GoodIn wsX8_build (wsV RX8 109 RX8 yX8_fullStages wsX8_fullStages) := goodIn_app (goodIn_of _ (by decide +kernel)) ggX8_build_X8_fullStages
set_option maxRecDepth 20000 in
theorem ggX8_build_X8_clean : GoodIn wsX8_build wsX8_clean := goodIn_r _ [28, 1, 29, 30, 31, 32, 33, 34, 35, 36, 37, 38, 39, 40] (by decide +kernel) (by decide +kernel)
set_option maxRecDepth 20000 in
theorem gX8_build_X8_clean : GoodIn wsX8_build (wsV RX8 25 RX8 yX8_clean wsX8_clean) := goodIn_app (goodIn_of _ (by decide +kernel)) ggX8_build_X8_clean
theorem dX8_build_0 : decode cX8_build 0 = .ok (.iload_n 1, 1) := by decide +kernel
theorem dX8_build_1 : decode cX8_build 1 = .ok (.iconst 1, 1) := by decide +kernel
theorem dX8_build_2 : decode cX8_build 2 = .ok (.bipush 6, 2) := by decide +kernel
theorem dX8_build_4 : decode cX8_build 4 = .ok (.invokestatic 29, 3) := by decide +kernel
theorem dX8_build_7 : decode cX8_build 7 = .ok (.ifCond .ne 6, 3) := by decide +kernel
theorem dX8_build_10 : decode cX8_build 10 = .ok (.bipush (-2), 2) := by decide +kernel
theorem dX8_build_12 : decode cX8_build 12 = .ok (.ireturn, 1) := by decide +kernel
theorem dX8_build_13 : decode cX8_build 13 = .ok (.aload_n 0, 1) := by decide +kernel
theorem dX8_build_14 : decode cX8_build 14 = .ok (.invokevirtual 47, 3) := by decide +kernel
theorem dX8_build_17 : decode cX8_build 17 = .ok (.aload_n 0, 1) := by decide +kernel
theorem dX8_build_18 : decode cX8_build 18 = .ok (.getfield 7, 3) := by decide +kernel
theorem dX8_build_21 : decode cX8_build 21 = .ok (.bipush 11, 2) := by decide +kernel
theorem dX8_build_23 : decode cX8_build 23 = .ok (.iaload, 1) := by decide +kernel
theorem dX8_build_24 : decode cX8_build 24 = .ok (.aload_n 0, 1) := by decide +kernel
theorem dX8_build_25 : decode cX8_build 25 = .ok (.getfield 7, 3) := by decide +kernel
theorem dX8_build_28 : decode cX8_build 28 = .ok (.bipush 12, 2) := by decide +kernel
theorem dX8_build_30 : decode cX8_build 30 = .ok (.iaload, 1) := by decide +kernel
theorem dX8_build_31 : decode cX8_build 31 = .ok (.iadd, 1) := by decide +kernel
theorem dX8_build_32 : decode cX8_build 32 = .ok (.aload_n 0, 1) := by decide +kernel
theorem dX8_build_33 : decode cX8_build 33 = .ok (.invokevirtual 109, 3) := by decide +kernel
theorem dX8_build_36 : decode cX8_build 36 = .ok (.iadd, 1) := by decide +kernel
theorem dX8_build_37 : decode cX8_build 37 = .ok (.istore_n 2, 1) := by decide +kernel
theorem dX8_build_38 : decode cX8_build 38 = .ok (.aload_n 0, 1) := by decide +kernel
theorem dX8_build_39 : decode cX8_build 39 = .ok (.iload_n 1, 1) := by decide +kernel
theorem dX8_build_40 : decode cX8_build 40 = .ok (.invokevirtual 25, 3) := by decide +kernel
theorem dX8_build_43 : decode cX8_build 43 = .ok (.iload_n 2, 1) := by decide +kernel
theorem dX8_build_44 : decode cX8_build 44 = .ok (.ireturn, 1) := by decide +kernel
set_option maxRecDepth 20000 in
theorem ggX8_recorded_X8_push : GoodIn wsX8_recorded wsX8_push := goodIn_r _ [5, 6, 7, 8, 9, 10, 11, 12, 13, 14, 15, 16, 17, 18, 19, 20] (by decide +kernel) (by decide +kernel)
set_option maxRecDepth 20000 in
theorem gX8_recorded_X8_push : GoodIn wsX8_recorded (wsV RX8 40 RX8 yX8_push wsX8_push) := goodIn_app (goodIn_of _ (by decide +kernel)) ggX8_recorded_X8_push
theorem dX8_recorded_0 : decode cX8_recorded 0 = .ok (.iload_n 1, 1) := by decide +kernel
theorem dX8_recorded_1 : decode cX8_recorded 1 = .ok (.ifCond .lt 7, 3) := by decide +kernel
theorem dX8_recorded_4 : decode cX8_recorded 4 = .ok (.aload_n 0, 1) := by decide +kernel
theorem dX8_recorded_5 : decode cX8_recorded 5 = .ok (.invokevirtual 40, 3) := by decide +kernel
theorem dX8_recorded_8 : decode cX8_recorded 8 = .ok (.iload_n 1, 1) := by decide +kernel
theorem dX8_recorded_9 : decode cX8_recorded 9 = .ok (.ireturn, 1) := by decide +kernel
set_option maxRecDepth 20000 in
theorem ggX8_add_X8_putAside : GoodIn wsX8_add wsX8_putAside := goodIn_r _ [5, 6, 7, 44, 45, 46, 47, 48, 49, 50, 51, 52, 53, 54, 55] (by decide +kernel) (by decide +kernel)
set_option maxRecDepth 20000 in
theorem gX8_add_X8_putAside : GoodIn wsX8_add (wsV RX8 37 RX8 yX8_putAside wsX8_putAside) := goodIn_app (goodIn_of _ (by decide +kernel)) ggX8_add_X8_putAside
set_option maxRecDepth 20000 in
theorem ggX8_add_X8_adds : GoodIn wsX8_add wsX8_adds := goodIn_r _ [11, 7, 12, 13, 4, 14, 15, 16, 17, 18, 19, 20, 21, 22, 23, 24, 25, 26, 27, 28, 29, 30, 31, 32, 33, 44, 45, 46, 47, 48, 49, 50, 51, 52, 53, 54, 55] (by decide +kernel) (by decide +kernel)
set_option maxRecDepth 20000 in
theorem gX8_add_X8_adds : GoodIn wsX8_add (wsV RX8 112 RX8 yX8_adds wsX8_adds) := goodIn_app (goodIn_of _ (by decide +kernel)) ggX8_add_X8_adds
set_option maxRecDepth 20000 in
theorem ggX8_add_X8_recorded : GoodIn wsX8_add wsX8_recorded := goodIn_r _ [37, 38, 39, 40, 4, 41, 42, 43, 6, 44, 45, 46, 47, 48, 49, 50, 51, 52, 53, 54, 55] (by decide +kernel) (by decide +kernel)
set_option maxRecDepth 20000 in
theorem gX8_add_X8_recorded : GoodIn wsX8_add (wsV RX8 115 RX8 yX8_recorded wsX8_recorded) := goodIn_app (goodIn_of _ (by decide +kernel)) ggX8_add_X8_recorded
theorem dX8_add_0 : decode cX8_add 0 = .ok (.aload_n 0, 1) := by decide +kernel
theorem dX8_add_1 : decode cX8_add 1 = .ok (.invokevirtual 37, 3) := by decide +kernel
theorem dX8_add_4 : decode cX8_add 4 = .ok (.aload_n 0, 1) := by decide +kernel
theorem dX8_add_5 : decode cX8_add 5 = .ok (.aload_n 0, 1) := by decide +kernel
theorem dX8_add_6 : decode cX8_add 6 = .ok (.iload_n 1, 1) := by decide +kernel
theorem dX8_add_7 : decode cX8_add 7 = .ok (.iload_n 2, 1) := by decide +kernel
theorem dX8_add_8 : decode cX8_add 8 = .ok (.invokevirtual 112, 3) := by decide +kernel
theorem dX8_add_11 : decode cX8_add 11 = .ok (.invokevirtual 115, 3) := by decide +kernel
theorem dX8_add_14 : decode cX8_add 14 = .ok (.ireturn, 1) := by decide +kernel
set_option maxRecDepth 20000 in
theorem ggX8_run_X8_putAside : GoodIn wsX8_run wsX8_putAside := goodIn_r _ [5, 6, 7, 82, 83, 84, 85, 86, 87, 88, 89, 90, 91, 92, 93] (by decide +kernel) (by decide +kernel)
set_option maxRecDepth 20000 in
theorem gX8_run_X8_putAside : GoodIn wsX8_run (wsV RX8 37 RX8 yX8_putAside wsX8_putAside) := goodIn_app (goodIn_of _ (by decide +kernel)) ggX8_run_X8_putAside
set_option maxRecDepth 20000 in
theorem ggX8_run_X8_runs : GoodIn wsX8_run wsX8_runs := goodIn_r _ [11, 7, 12, 13, 14, 4, 15, 16, 17, 18, 19, 20, 21, 22, 23, 24, 25, 26, 27, 28, 29, 30, 31, 32, 33, 34, 35, 36, 37, 38, 39, 40, 41, 42, 43, 44, 45, 46, 47, 48, 49, 50, 51, 52, 53, 54, 55, 56, 57, 58, 59, 60, 61, 62, 63, 64, 65, 66, 67, 68, 69, 70, 71, 82, 83, 84, 85, 86, 87, 88, 89, 90, 91, 92, 93] (by decide +kernel) (by decide +kernel)
set_option maxRecDepth 20000 in
theorem gX8_run_X8_runs : GoodIn wsX8_run (wsV RX8 118 RX8 yX8_runs wsX8_runs) := goodIn_app (goodIn_of _ (by decide +kernel)) ggX8_run_X8_runs
set_option maxRecDepth 20000 in
theorem ggX8_run_X8_recorded : GoodIn wsX8_run wsX8_recorded := goodIn_r _ [75, 76, 77, 78, 4, 79, 80, 81, 6, 82, 83, 84, 85, 86, 87, 88, 89, 90, 91, 92, 93] (by decide +kernel) (by decide +kernel)
set_option maxRecDepth 20000 in
theorem gX8_run_X8_recorded : GoodIn wsX8_run (wsV RX8 115 RX8 yX8_recorded wsX8_recorded) := goodIn_app (goodIn_of _ (by decide +kernel)) ggX8_run_X8_recorded
theorem dX8_run_0 : decode cX8_run 0 = .ok (.aload_n 0, 1) := by decide +kernel
theorem dX8_run_1 : decode cX8_run 1 = .ok (.invokevirtual 37, 3) := by decide +kernel
theorem dX8_run_4 : decode cX8_run 4 = .ok (.aload_n 0, 1) := by decide +kernel
theorem dX8_run_5 : decode cX8_run 5 = .ok (.aload_n 0, 1) := by decide +kernel
theorem dX8_run_6 : decode cX8_run 6 = .ok (.iload_n 1, 1) := by decide +kernel
theorem dX8_run_7 : decode cX8_run 7 = .ok (.invokevirtual 118, 3) := by decide +kernel
theorem dX8_run_10 : decode cX8_run 10 = .ok (.invokevirtual 115, 3) := by decide +kernel
theorem dX8_run_13 : decode cX8_run 13 = .ok (.ireturn, 1) := by decide +kernel
set_option maxRecDepth 20000 in
theorem ggX8_finish_X8_putAside : GoodIn wsX8_finish wsX8_putAside := goodIn_r _ [7, 8, 1, 75, 76, 77, 78, 79, 80, 81, 82, 83, 84, 85, 86] (by decide +kernel) (by decide +kernel)
set_option maxRecDepth 20000 in
theorem gX8_finish_X8_putAside : GoodIn wsX8_finish (wsV RX8 37 RX8 yX8_putAside wsX8_putAside) := goodIn_app (goodIn_of _ (by decide +kernel)) ggX8_finish_X8_putAside
set_option maxRecDepth 20000 in
theorem ggX8_finish_X8_settle : GoodIn wsX8_finish wsX8_settle := goodIn_r _ [12, 1, 13, 14, 15, 6, 16, 17, 18, 19, 20, 21, 22, 23, 24, 25, 26, 27, 28, 29, 30, 31, 32, 33, 34, 35, 36, 37, 38, 39, 40, 41, 42, 43, 44, 45, 46, 47, 48, 49, 50, 51, 52, 53, 54, 55, 56, 57, 58, 59, 60, 61, 62, 63, 64, 75, 76, 77, 78, 79, 80, 81, 82, 83, 84, 85, 86] (by decide +kernel) (by decide +kernel)
set_option maxRecDepth 20000 in
theorem gX8_finish_X8_settle : GoodIn wsX8_finish (wsV RX8 121 RX8 yX8_settle wsX8_settle) := goodIn_app (goodIn_of _ (by decide +kernel)) ggX8_finish_X8_settle
set_option maxRecDepth 20000 in
theorem ggX8_finish_X8_takeBack : GoodIn wsX8_finish wsX8_takeBack := goodIn_r _ [68, 1, 8, 75, 76, 77, 78, 79, 80, 81, 82, 83, 84, 85, 86] (by decide +kernel) (by decide +kernel)
set_option maxRecDepth 20000 in
theorem gX8_finish_X8_takeBack : GoodIn wsX8_finish (wsV RX8 124 RX8 yX8_takeBack wsX8_takeBack) := goodIn_app (goodIn_of _ (by decide +kernel)) ggX8_finish_X8_takeBack
set_option maxRecDepth 20000 in
theorem ggX8_finish_X8_push : GoodIn wsX8_finish wsX8_push := goodIn_r _ [72, 73, 74, 8, 75, 76, 77, 78, 79, 80, 81, 82, 83, 84, 85, 86] (by decide +kernel) (by decide +kernel)
set_option maxRecDepth 20000 in
theorem gX8_finish_X8_push : GoodIn wsX8_finish (wsV RX8 40 RX8 yX8_push wsX8_push) := goodIn_app (goodIn_of _ (by decide +kernel)) ggX8_finish_X8_push
theorem dX8_finish_0 : decode cX8_finish 0 = .ok (.aload_n 0, 1) := by decide +kernel
theorem dX8_finish_1 : decode cX8_finish 1 = .ok (.getfield 7, 3) := by decide +kernel
theorem dX8_finish_4 : decode cX8_finish 4 = .ok (.bipush 10, 2) := by decide +kernel
theorem dX8_finish_6 : decode cX8_finish 6 = .ok (.iaload, 1) := by decide +kernel
theorem dX8_finish_7 : decode cX8_finish 7 = .ok (.ifCond .ne 6, 3) := by decide +kernel
theorem dX8_finish_10 : decode cX8_finish 10 = .ok (.bipush (-5), 2) := by decide +kernel
theorem dX8_finish_12 : decode cX8_finish 12 = .ok (.ireturn, 1) := by decide +kernel
theorem dX8_finish_13 : decode cX8_finish 13 = .ok (.aload_n 0, 1) := by decide +kernel
theorem dX8_finish_14 : decode cX8_finish 14 = .ok (.invokevirtual 37, 3) := by decide +kernel
theorem dX8_finish_17 : decode cX8_finish 17 = .ok (.aload_n 0, 1) := by decide +kernel
theorem dX8_finish_18 : decode cX8_finish 18 = .ok (.invokevirtual 121, 3) := by decide +kernel
theorem dX8_finish_21 : decode cX8_finish 21 = .ok (.istore_n 1, 1) := by decide +kernel
theorem dX8_finish_22 : decode cX8_finish 22 = .ok (.aload_n 0, 1) := by decide +kernel
theorem dX8_finish_23 : decode cX8_finish 23 = .ok (.getfield 7, 3) := by decide +kernel
theorem dX8_finish_26 : decode cX8_finish 26 = .ok (.iconst 4, 1) := by decide +kernel
theorem dX8_finish_27 : decode cX8_finish 27 = .ok (.iaload, 1) := by decide +kernel
theorem dX8_finish_28 : decode cX8_finish 28 = .ok (.ldc 99, 2) := by decide +kernel
theorem dX8_finish_30 : decode cX8_finish 30 = .ok (.if_icmp .le 10, 3) := by decide +kernel
theorem dX8_finish_33 : decode cX8_finish 33 = .ok (.aload_n 0, 1) := by decide +kernel
theorem dX8_finish_34 : decode cX8_finish 34 = .ok (.invokevirtual 124, 3) := by decide +kernel
theorem dX8_finish_37 : decode cX8_finish 37 = .ok (.bipush (-3), 2) := by decide +kernel
theorem dX8_finish_39 : decode cX8_finish 39 = .ok (.ireturn, 1) := by decide +kernel
theorem dX8_finish_40 : decode cX8_finish 40 = .ok (.aload_n 0, 1) := by decide +kernel
theorem dX8_finish_41 : decode cX8_finish 41 = .ok (.invokevirtual 40, 3) := by decide +kernel
theorem dX8_finish_44 : decode cX8_finish 44 = .ok (.iload_n 1, 1) := by decide +kernel
theorem dX8_finish_45 : decode cX8_finish 45 = .ok (.ireturn, 1) := by decide +kernel
set_option maxRecDepth 20000 in
theorem ggX8_setDelay_X8_putAside : GoodIn wsX8_setDelay wsX8_putAside := goodIn_r _ [5, 6, 7, 32, 33, 34, 35, 36, 37, 38, 39, 40, 41, 42, 43] (by decide +kernel) (by decide +kernel)
set_option maxRecDepth 20000 in
theorem gX8_setDelay_X8_putAside : GoodIn wsX8_setDelay (wsV RX8 37 RX8 yX8_putAside wsX8_putAside) := goodIn_app (goodIn_of _ (by decide +kernel)) ggX8_setDelay_X8_putAside
set_option maxRecDepth 20000 in
theorem ggX8_setDelay_X8_setsDelay : GoodIn wsX8_setDelay wsX8_setsDelay := goodIn_r _ [11, 7, 12, 13, 14, 4, 15, 16, 17, 18, 19, 20, 21, 32, 33, 34, 35, 36, 37, 38, 39, 40, 41, 42, 43] (by decide +kernel) (by decide +kernel)
set_option maxRecDepth 20000 in
theorem gX8_setDelay_X8_setsDelay : GoodIn wsX8_setDelay (wsV RX8 127 RX8 yX8_setsDelay wsX8_setsDelay) := goodIn_app (goodIn_of _ (by decide +kernel)) ggX8_setDelay_X8_setsDelay
set_option maxRecDepth 20000 in
theorem ggX8_setDelay_X8_recorded : GoodIn wsX8_setDelay wsX8_recorded := goodIn_r _ [25, 26, 27, 28, 4, 29, 30, 31, 6, 32, 33, 34, 35, 36, 37, 38, 39, 40, 41, 42, 43] (by decide +kernel) (by decide +kernel)
set_option maxRecDepth 20000 in
theorem gX8_setDelay_X8_recorded : GoodIn wsX8_setDelay (wsV RX8 115 RX8 yX8_recorded wsX8_recorded) := goodIn_app (goodIn_of _ (by decide +kernel)) ggX8_setDelay_X8_recorded
theorem dX8_setDelay_0 : decode cX8_setDelay 0 = .ok (.aload_n 0, 1) := by decide +kernel
theorem dX8_setDelay_1 : decode cX8_setDelay 1 = .ok (.invokevirtual 37, 3) := by decide +kernel
theorem dX8_setDelay_4 : decode cX8_setDelay 4 = .ok (.aload_n 0, 1) := by decide +kernel
theorem dX8_setDelay_5 : decode cX8_setDelay 5 = .ok (.aload_n 0, 1) := by decide +kernel
theorem dX8_setDelay_6 : decode cX8_setDelay 6 = .ok (.iload_n 1, 1) := by decide +kernel
theorem dX8_setDelay_7 : decode cX8_setDelay 7 = .ok (.iload_n 2, 1) := by decide +kernel
theorem dX8_setDelay_8 : decode cX8_setDelay 8 = .ok (.iload_n 3, 1) := by decide +kernel
theorem dX8_setDelay_9 : decode cX8_setDelay 9 = .ok (.invokevirtual 127, 3) := by decide +kernel
theorem dX8_setDelay_12 : decode cX8_setDelay 12 = .ok (.invokevirtual 115, 3) := by decide +kernel
theorem dX8_setDelay_15 : decode cX8_setDelay 15 = .ok (.ireturn, 1) := by decide +kernel
set_option maxRecDepth 20000 in
theorem ggX8_set_X8_within : GoodIn wsX8_set wsX8_within := goodIn_r _ [5] (by decide +kernel) (by decide +kernel)
set_option maxRecDepth 20000 in
theorem gX8_set_X8_within : GoodIn wsX8_set (va_wsS RX8 29 yX8_within wsX8_within) := goodIn_app (goodIn_of _ (by decide +kernel)) ggX8_set_X8_within
set_option maxRecDepth 20000 in
theorem ggX8_set_X8_record : GoodIn wsX8_set wsX8_record := goodIn_r _ [9, 10, 11, 12, 4, 13, 14, 1, 15, 16, 17, 18, 19, 20, 21, 22, 23, 24, 25, 26, 27, 28, 29, 30, 31, 32] (by decide +kernel) (by decide +kernel)
set_option maxRecDepth 20000 in
theorem gX8_set_X8_record : GoodIn wsX8_set (wsV RX8 47 RX8 yX8_record wsX8_record) := goodIn_app (goodIn_of _ (by decide +kernel)) ggX8_set_X8_record
theorem dX8_set_0 : decode cX8_set 0 = .ok (.iload_n 1, 1) := by decide +kernel
theorem dX8_set_1 : decode cX8_set 1 = .ok (.iconst 0, 1) := by decide +kernel
theorem dX8_set_2 : decode cX8_set 2 = .ok (.iconst 2, 1) := by decide +kernel
theorem dX8_set_3 : decode cX8_set 3 = .ok (.invokestatic 29, 3) := by decide +kernel
theorem dX8_set_6 : decode cX8_set 6 = .ok (.ifCond .ne 5, 3) := by decide +kernel
theorem dX8_set_9 : decode cX8_set 9 = .ok (.iconst (-1), 1) := by decide +kernel
theorem dX8_set_10 : decode cX8_set 10 = .ok (.ireturn, 1) := by decide +kernel
theorem dX8_set_11 : decode cX8_set 11 = .ok (.iload_n 2, 1) := by decide +kernel
theorem dX8_set_12 : decode cX8_set 12 = .ok (.iconst 0, 1) := by decide +kernel
theorem dX8_set_13 : decode cX8_set 13 = .ok (.iload_n 1, 1) := by decide +kernel
theorem dX8_set_14 : decode cX8_set 14 = .ok (.iconst 2, 1) := by decide +kernel
theorem dX8_set_15 : decode cX8_set 15 = .ok (.if_icmp .ne 7, 3) := by decide +kernel
theorem dX8_set_18 : decode cX8_set 18 = .ok (.iconst 1, 1) := by decide +kernel
theorem dX8_set_19 : decode cX8_set 19 = .ok (.goto 5, 3) := by decide +kernel
theorem dX8_set_22 : decode cX8_set 22 = .ok (.bipush 20, 2) := by decide +kernel
theorem dX8_set_24 : decode cX8_set 24 = .ok (.invokestatic 29, 3) := by decide +kernel
theorem dX8_set_27 : decode cX8_set 27 = .ok (.ifCond .ne 6, 3) := by decide +kernel
theorem dX8_set_30 : decode cX8_set 30 = .ok (.bipush (-2), 2) := by decide +kernel
theorem dX8_set_32 : decode cX8_set 32 = .ok (.ireturn, 1) := by decide +kernel
theorem dX8_set_33 : decode cX8_set 33 = .ok (.aload_n 0, 1) := by decide +kernel
theorem dX8_set_34 : decode cX8_set 34 = .ok (.getfield 7, 3) := by decide +kernel
theorem dX8_set_37 : decode cX8_set 37 = .ok (.iload_n 1, 1) := by decide +kernel
theorem dX8_set_38 : decode cX8_set 38 = .ok (.iaload, 1) := by decide +kernel
theorem dX8_set_39 : decode cX8_set 39 = .ok (.istore_n 3, 1) := by decide +kernel
theorem dX8_set_40 : decode cX8_set 40 = .ok (.iload_n 3, 1) := by decide +kernel
theorem dX8_set_41 : decode cX8_set 41 = .ok (.iload_n 2, 1) := by decide +kernel
theorem dX8_set_42 : decode cX8_set 42 = .ok (.if_icmp .ne 6, 3) := by decide +kernel
theorem dX8_set_45 : decode cX8_set 45 = .ok (.bipush (-5), 2) := by decide +kernel
theorem dX8_set_47 : decode cX8_set 47 = .ok (.ireturn, 1) := by decide +kernel
theorem dX8_set_48 : decode cX8_set 48 = .ok (.aload_n 0, 1) := by decide +kernel
theorem dX8_set_49 : decode cX8_set 49 = .ok (.invokevirtual 47, 3) := by decide +kernel
theorem dX8_set_52 : decode cX8_set 52 = .ok (.aload_n 0, 1) := by decide +kernel
theorem dX8_set_53 : decode cX8_set 53 = .ok (.getfield 7, 3) := by decide +kernel
theorem dX8_set_56 : decode cX8_set 56 = .ok (.iload_n 1, 1) := by decide +kernel
theorem dX8_set_57 : decode cX8_set 57 = .ok (.iload_n 2, 1) := by decide +kernel
theorem dX8_set_58 : decode cX8_set 58 = .ok (.iastore, 1) := by decide +kernel
theorem dX8_set_59 : decode cX8_set 59 = .ok (.iload_n 3, 1) := by decide +kernel
theorem dX8_set_60 : decode cX8_set 60 = .ok (.ireturn, 1) := by decide +kernel
theorem dX8_type_0 : decode cX8_type 0 = .ok (.aload_n 0, 1) := by decide +kernel
theorem dX8_type_1 : decode cX8_type 1 = .ok (.getfield 131, 3) := by decide +kernel
theorem dX8_type_4 : decode cX8_type 4 = .ok (.bipush 60, 2) := by decide +kernel
theorem dX8_type_6 : decode cX8_type 6 = .ok (.if_icmp .ne 6, 3) := by decide +kernel
theorem dX8_type_9 : decode cX8_type 9 = .ok (.bipush (-3), 2) := by decide +kernel
theorem dX8_type_11 : decode cX8_type 11 = .ok (.ireturn, 1) := by decide +kernel
theorem dX8_type_12 : decode cX8_type 12 = .ok (.aload_n 0, 1) := by decide +kernel
theorem dX8_type_13 : decode cX8_type 13 = .ok (.getfield 22, 3) := by decide +kernel
theorem dX8_type_16 : decode cX8_type 16 = .ok (.aload_n 0, 1) := by decide +kernel
theorem dX8_type_17 : decode cX8_type 17 = .ok (.getfield 131, 3) := by decide +kernel
theorem dX8_type_20 : decode cX8_type 20 = .ok (.iload_n 1, 1) := by decide +kernel
theorem dX8_type_21 : decode cX8_type 21 = .ok (.iastore, 1) := by decide +kernel
theorem dX8_type_22 : decode cX8_type 22 = .ok (.aload_n 0, 1) := by decide +kernel
theorem dX8_type_23 : decode cX8_type 23 = .ok (.dup, 1) := by decide +kernel
theorem dX8_type_24 : decode cX8_type 24 = .ok (.getfield 131, 3) := by decide +kernel
theorem dX8_type_27 : decode cX8_type 27 = .ok (.iconst 1, 1) := by decide +kernel
theorem dX8_type_28 : decode cX8_type 28 = .ok (.iadd, 1) := by decide +kernel
theorem dX8_type_29 : decode cX8_type 29 = .ok (.putfield 131, 3) := by decide +kernel
theorem dX8_type_32 : decode cX8_type 32 = .ok (.aload_n 0, 1) := by decide +kernel
theorem dX8_type_33 : decode cX8_type 33 = .ok (.getfield 131, 3) := by decide +kernel
theorem dX8_type_36 : decode cX8_type 36 = .ok (.ireturn, 1) := by decide +kernel
theorem dX8_clearText_0 : decode cX8_clearText 0 = .ok (.aload_n 0, 1) := by decide +kernel
theorem dX8_clearText_1 : decode cX8_clearText 1 = .ok (.getfield 131, 3) := by decide +kernel
theorem dX8_clearText_4 : decode cX8_clearText 4 = .ok (.istore_n 1, 1) := by decide +kernel
theorem dX8_clearText_5 : decode cX8_clearText 5 = .ok (.aload_n 0, 1) := by decide +kernel
theorem dX8_clearText_6 : decode cX8_clearText 6 = .ok (.iconst 0, 1) := by decide +kernel
theorem dX8_clearText_7 : decode cX8_clearText 7 = .ok (.putfield 131, 3) := by decide +kernel
theorem dX8_clearText_10 : decode cX8_clearText 10 = .ok (.iload_n 1, 1) := by decide +kernel
theorem dX8_clearText_11 : decode cX8_clearText 11 = .ok (.ireturn, 1) := by decide +kernel
theorem dX8_code_0 : decode cX8_code 0 = .ok (.aload_n 0, 1) := by decide +kernel
theorem dX8_code_1 : decode cX8_code 1 = .ok (.getfield 134, 3) := by decide +kernel
theorem dX8_code_4 : decode cX8_code 4 = .ok (.aload_n 0, 1) := by decide +kernel
theorem dX8_code_5 : decode cX8_code 5 = .ok (.getfield 131, 3) := by decide +kernel
theorem dX8_code_8 : decode cX8_code 8 = .ok (.if_icmp .ge 15, 3) := by decide +kernel
theorem dX8_code_11 : decode cX8_code 11 = .ok (.aload_n 0, 1) := by decide +kernel
theorem dX8_code_12 : decode cX8_code 12 = .ok (.getfield 22, 3) := by decide +kernel
theorem dX8_code_15 : decode cX8_code 15 = .ok (.aload_n 0, 1) := by decide +kernel
theorem dX8_code_16 : decode cX8_code 16 = .ok (.getfield 134, 3) := by decide +kernel
theorem dX8_code_19 : decode cX8_code 19 = .ok (.iaload, 1) := by decide +kernel
theorem dX8_code_20 : decode cX8_code 20 = .ok (.goto 4, 3) := by decide +kernel
theorem dX8_code_23 : decode cX8_code 23 = .ok (.iconst 0, 1) := by decide +kernel
theorem dX8_code_24 : decode cX8_code 24 = .ok (.ireturn, 1) := by decide +kernel
set_option maxRecDepth 20000 in
theorem ggX8_hex_X8_within : GoodIn wsX8_hex wsX8_within := goodIn_r _ [4] (by decide +kernel) (by decide +kernel)
set_option maxRecDepth 20000 in
theorem gX8_hex_X8_within : GoodIn wsX8_hex (va_wsS RX8 29 yX8_within wsX8_within) := goodIn_app (goodIn_of _ (by decide +kernel)) ggX8_hex_X8_within
theorem dX8_hex_0 : decode cX8_hex 0 = .ok (.iload_n 0, 1) := by decide +kernel
theorem dX8_hex_1 : decode cX8_hex 1 = .ok (.bipush 48, 2) := by decide +kernel
theorem dX8_hex_3 : decode cX8_hex 3 = .ok (.bipush 57, 2) := by decide +kernel
theorem dX8_hex_5 : decode cX8_hex 5 = .ok (.invokestatic 29, 3) := by decide +kernel
theorem dX8_hex_8 : decode cX8_hex 8 = .ok (.ifCond .eq 10, 3) := by decide +kernel
theorem dX8_hex_11 : decode cX8_hex 11 = .ok (.iload_n 0, 1) := by decide +kernel
theorem dX8_hex_12 : decode cX8_hex 12 = .ok (.bipush 48, 2) := by decide +kernel
theorem dX8_hex_14 : decode cX8_hex 14 = .ok (.isub, 1) := by decide +kernel
theorem dX8_hex_15 : decode cX8_hex 15 = .ok (.goto 26, 3) := by decide +kernel
theorem dX8_hex_18 : decode cX8_hex 18 = .ok (.iload_n 0, 1) := by decide +kernel
theorem dX8_hex_19 : decode cX8_hex 19 = .ok (.bipush 97, 2) := by decide +kernel
theorem dX8_hex_21 : decode cX8_hex 21 = .ok (.bipush 102, 2) := by decide +kernel
theorem dX8_hex_23 : decode cX8_hex 23 = .ok (.invokestatic 29, 3) := by decide +kernel
theorem dX8_hex_26 : decode cX8_hex 26 = .ok (.ifCond .eq 13, 3) := by decide +kernel
theorem dX8_hex_29 : decode cX8_hex 29 = .ok (.iload_n 0, 1) := by decide +kernel
theorem dX8_hex_30 : decode cX8_hex 30 = .ok (.bipush 97, 2) := by decide +kernel
theorem dX8_hex_32 : decode cX8_hex 32 = .ok (.isub, 1) := by decide +kernel
theorem dX8_hex_33 : decode cX8_hex 33 = .ok (.bipush 10, 2) := by decide +kernel
theorem dX8_hex_35 : decode cX8_hex 35 = .ok (.iadd, 1) := by decide +kernel
theorem dX8_hex_36 : decode cX8_hex 36 = .ok (.goto 5, 3) := by decide +kernel
theorem dX8_hex_39 : decode cX8_hex 39 = .ok (.bipush (-5), 2) := by decide +kernel
theorem dX8_hex_41 : decode cX8_hex 41 = .ok (.ireturn, 1) := by decide +kernel
set_option maxRecDepth 20000 in
theorem ggX8_readsNumber_X8_code : GoodIn wsX8_readsNumber wsX8_code := goodIn_r _ [7, 2, 8, 9, 13, 14, 15, 16, 17, 18, 19, 20, 21, 22, 23, 24] (by decide +kernel) (by decide +kernel)
set_option maxRecDepth 20000 in
theorem gX8_readsNumber_X8_code : GoodIn wsX8_readsNumber (wsV RX8 137 RX8 yX8_code wsX8_code) := goodIn_app (goodIn_of _ (by decide +kernel)) ggX8_readsNumber_X8_code
set_option maxRecDepth 20000 in
theorem ggX8_readsNumber_X8_within : GoodIn wsX8_readsNumber wsX8_within := goodIn_r _ [12] (by decide +kernel) (by decide +kernel)
set_option maxRecDepth 20000 in
theorem gX8_readsNumber_X8_within : GoodIn wsX8_readsNumber (va_wsS RX8 29 yX8_within wsX8_within) := goodIn_app (goodIn_of _ (by decide +kernel)) ggX8_readsNumber_X8_within
theorem dX8_readsNumber_0 : decode cX8_readsNumber 0 = .ok (.aload_n 0, 1) := by decide +kernel
theorem dX8_readsNumber_1 : decode cX8_readsNumber 1 = .ok (.aload_n 0, 1) := by decide +kernel
theorem dX8_readsNumber_2 : decode cX8_readsNumber 2 = .ok (.invokevirtual 137, 3) := by decide +kernel
theorem dX8_readsNumber_5 : decode cX8_readsNumber 5 = .ok (.bipush 48, 2) := by decide +kernel
theorem dX8_readsNumber_7 : decode cX8_readsNumber 7 = .ok (.isub, 1) := by decide +kernel
theorem dX8_readsNumber_8 : decode cX8_readsNumber 8 = .ok (.putfield 140, 3) := by decide +kernel
theorem dX8_readsNumber_11 : decode cX8_readsNumber 11 = .ok (.aload_n 0, 1) := by decide +kernel
theorem dX8_readsNumber_12 : decode cX8_readsNumber 12 = .ok (.getfield 140, 3) := by decide +kernel
theorem dX8_readsNumber_15 : decode cX8_readsNumber 15 = .ok (.iconst 1, 1) := by decide +kernel
theorem dX8_readsNumber_16 : decode cX8_readsNumber 16 = .ok (.bipush 9, 2) := by decide +kernel
theorem dX8_readsNumber_18 : decode cX8_readsNumber 18 = .ok (.invokestatic 29, 3) := by decide +kernel
theorem dX8_readsNumber_21 : decode cX8_readsNumber 21 = .ok (.ifCond .ne 5, 3) := by decide +kernel
theorem dX8_readsNumber_24 : decode cX8_readsNumber 24 = .ok (.iconst 0, 1) := by decide +kernel
theorem dX8_readsNumber_25 : decode cX8_readsNumber 25 = .ok (.ireturn, 1) := by decide +kernel
theorem dX8_readsNumber_26 : decode cX8_readsNumber 26 = .ok (.aload_n 0, 1) := by decide +kernel
theorem dX8_readsNumber_27 : decode cX8_readsNumber 27 = .ok (.dup, 1) := by decide +kernel
theorem dX8_readsNumber_28 : decode cX8_readsNumber 28 = .ok (.getfield 134, 3) := by decide +kernel
theorem dX8_readsNumber_31 : decode cX8_readsNumber 31 = .ok (.iconst 1, 1) := by decide +kernel
theorem dX8_readsNumber_32 : decode cX8_readsNumber 32 = .ok (.iadd, 1) := by decide +kernel
theorem dX8_readsNumber_33 : decode cX8_readsNumber 33 = .ok (.putfield 134, 3) := by decide +kernel
theorem dX8_readsNumber_36 : decode cX8_readsNumber 36 = .ok (.aload_n 0, 1) := by decide +kernel
theorem dX8_readsNumber_37 : decode cX8_readsNumber 37 = .ok (.invokevirtual 137, 3) := by decide +kernel
theorem dX8_readsNumber_40 : decode cX8_readsNumber 40 = .ok (.bipush 48, 2) := by decide +kernel
theorem dX8_readsNumber_42 : decode cX8_readsNumber 42 = .ok (.isub, 1) := by decide +kernel
theorem dX8_readsNumber_43 : decode cX8_readsNumber 43 = .ok (.istore_n 2, 1) := by decide +kernel
theorem dX8_readsNumber_44 : decode cX8_readsNumber 44 = .ok (.iload_n 2, 1) := by decide +kernel
theorem dX8_readsNumber_45 : decode cX8_readsNumber 45 = .ok (.iconst 0, 1) := by decide +kernel
theorem dX8_readsNumber_46 : decode cX8_readsNumber 46 = .ok (.bipush 9, 2) := by decide +kernel
theorem dX8_readsNumber_48 : decode cX8_readsNumber 48 = .ok (.invokestatic 29, 3) := by decide +kernel
theorem dX8_readsNumber_51 : decode cX8_readsNumber 51 = .ok (.ifCond .eq 39, 3) := by decide +kernel
theorem dX8_readsNumber_54 : decode cX8_readsNumber 54 = .ok (.bipush 10, 2) := by decide +kernel
theorem dX8_readsNumber_56 : decode cX8_readsNumber 56 = .ok (.aload_n 0, 1) := by decide +kernel
theorem dX8_readsNumber_57 : decode cX8_readsNumber 57 = .ok (.getfield 140, 3) := by decide +kernel
theorem dX8_readsNumber_60 : decode cX8_readsNumber 60 = .ok (.imul, 1) := by decide +kernel
theorem dX8_readsNumber_61 : decode cX8_readsNumber 61 = .ok (.iload_n 2, 1) := by decide +kernel
theorem dX8_readsNumber_62 : decode cX8_readsNumber 62 = .ok (.iadd, 1) := by decide +kernel
theorem dX8_readsNumber_63 : decode cX8_readsNumber 63 = .ok (.iload_n 1, 1) := by decide +kernel
theorem dX8_readsNumber_64 : decode cX8_readsNumber 64 = .ok (.if_icmp .gt 26, 3) := by decide +kernel
theorem dX8_readsNumber_67 : decode cX8_readsNumber 67 = .ok (.aload_n 0, 1) := by decide +kernel
theorem dX8_readsNumber_68 : decode cX8_readsNumber 68 = .ok (.bipush 10, 2) := by decide +kernel
theorem dX8_readsNumber_70 : decode cX8_readsNumber 70 = .ok (.aload_n 0, 1) := by decide +kernel
theorem dX8_readsNumber_71 : decode cX8_readsNumber 71 = .ok (.getfield 140, 3) := by decide +kernel
theorem dX8_readsNumber_74 : decode cX8_readsNumber 74 = .ok (.imul, 1) := by decide +kernel
theorem dX8_readsNumber_75 : decode cX8_readsNumber 75 = .ok (.iload_n 2, 1) := by decide +kernel
theorem dX8_readsNumber_76 : decode cX8_readsNumber 76 = .ok (.iadd, 1) := by decide +kernel
theorem dX8_readsNumber_77 : decode cX8_readsNumber 77 = .ok (.putfield 140, 3) := by decide +kernel
theorem dX8_readsNumber_80 : decode cX8_readsNumber 80 = .ok (.aload_n 0, 1) := by decide +kernel
theorem dX8_readsNumber_81 : decode cX8_readsNumber 81 = .ok (.dup, 1) := by decide +kernel
theorem dX8_readsNumber_82 : decode cX8_readsNumber 82 = .ok (.getfield 134, 3) := by decide +kernel
theorem dX8_readsNumber_85 : decode cX8_readsNumber 85 = .ok (.iconst 1, 1) := by decide +kernel
theorem dX8_readsNumber_86 : decode cX8_readsNumber 86 = .ok (.iadd, 1) := by decide +kernel
theorem dX8_readsNumber_87 : decode cX8_readsNumber 87 = .ok (.putfield 134, 3) := by decide +kernel
theorem dX8_readsNumber_90 : decode cX8_readsNumber 90 = .ok (.iconst 1, 1) := by decide +kernel
theorem dX8_readsNumber_91 : decode cX8_readsNumber 91 = .ok (.ireturn, 1) := by decide +kernel
set_option maxRecDepth 20000 in
theorem ggX8_readsDelay_X8_code : GoodIn wsX8_readsDelay wsX8_code := goodIn_r _ [7, 2, 8, 9, 18, 19, 20, 21, 22, 23, 24, 25, 26, 27, 28, 29] (by decide +kernel) (by decide +kernel)
set_option maxRecDepth 20000 in
theorem gX8_readsDelay_X8_code : GoodIn wsX8_readsDelay (wsV RX8 137 RX8 yX8_code wsX8_code) := goodIn_app (goodIn_of _ (by decide +kernel)) ggX8_readsDelay_X8_code
set_option maxRecDepth 20000 in
theorem ggX8_readsDelay_X8_within : GoodIn wsX8_readsDelay wsX8_within := goodIn_r _ [12] (by decide +kernel) (by decide +kernel)
set_option maxRecDepth 20000 in
theorem gX8_readsDelay_X8_within : GoodIn wsX8_readsDelay (va_wsS RX8 29 yX8_within wsX8_within) := goodIn_app (goodIn_of _ (by decide +kernel)) ggX8_readsDelay_X8_within
set_option maxRecDepth 20000 in
theorem ggX8_readsDelay_X8_readsNumber : GoodIn wsX8_readsDelay wsX8_readsNumber := goodIn_r _ [16, 17, 2, 3, 4, 5, 6, 7, 8, 9, 10, 11, 12, 18, 19, 20, 21, 22, 23, 24, 25, 26, 27, 28, 29] (by decide +kernel) (by decide +kernel)
set_option maxRecDepth 20000 in
theorem gX8_readsDelay_X8_readsNumber : GoodIn wsX8_readsDelay (wsV RX8 146 RX8 yX8_readsNumber wsX8_readsNumber) := goodIn_app (goodIn_of _ (by decide +kernel)) ggX8_readsDelay_X8_readsNumber
theorem dX8_readsDelay_0 : decode cX8_readsDelay 0 = .ok (.aload_n 0, 1) := by decide +kernel
theorem dX8_readsDelay_1 : decode cX8_readsDelay 1 = .ok (.aload_n 0, 1) := by decide +kernel
theorem dX8_readsDelay_2 : decode cX8_readsDelay 2 = .ok (.invokevirtual 137, 3) := by decide +kernel
theorem dX8_readsDelay_5 : decode cX8_readsDelay 5 = .ok (.bipush 48, 2) := by decide +kernel
theorem dX8_readsDelay_7 : decode cX8_readsDelay 7 = .ok (.isub, 1) := by decide +kernel
theorem dX8_readsDelay_8 : decode cX8_readsDelay 8 = .ok (.putfield 143, 3) := by decide +kernel
theorem dX8_readsDelay_11 : decode cX8_readsDelay 11 = .ok (.aload_n 0, 1) := by decide +kernel
theorem dX8_readsDelay_12 : decode cX8_readsDelay 12 = .ok (.getfield 143, 3) := by decide +kernel
theorem dX8_readsDelay_15 : decode cX8_readsDelay 15 = .ok (.iconst 0, 1) := by decide +kernel
theorem dX8_readsDelay_16 : decode cX8_readsDelay 16 = .ok (.bipush 6, 2) := by decide +kernel
theorem dX8_readsDelay_18 : decode cX8_readsDelay 18 = .ok (.invokestatic 29, 3) := by decide +kernel
theorem dX8_readsDelay_21 : decode cX8_readsDelay 21 = .ok (.ifCond .ne 5, 3) := by decide +kernel
theorem dX8_readsDelay_24 : decode cX8_readsDelay 24 = .ok (.iconst 0, 1) := by decide +kernel
theorem dX8_readsDelay_25 : decode cX8_readsDelay 25 = .ok (.ireturn, 1) := by decide +kernel
theorem dX8_readsDelay_26 : decode cX8_readsDelay 26 = .ok (.aload_n 0, 1) := by decide +kernel
theorem dX8_readsDelay_27 : decode cX8_readsDelay 27 = .ok (.dup, 1) := by decide +kernel
theorem dX8_readsDelay_28 : decode cX8_readsDelay 28 = .ok (.getfield 134, 3) := by decide +kernel
theorem dX8_readsDelay_31 : decode cX8_readsDelay 31 = .ok (.iconst 1, 1) := by decide +kernel
theorem dX8_readsDelay_32 : decode cX8_readsDelay 32 = .ok (.iadd, 1) := by decide +kernel
theorem dX8_readsDelay_33 : decode cX8_readsDelay 33 = .ok (.putfield 134, 3) := by decide +kernel
theorem dX8_readsDelay_36 : decode cX8_readsDelay 36 = .ok (.aload_n 0, 1) := by decide +kernel
theorem dX8_readsDelay_37 : decode cX8_readsDelay 37 = .ok (.invokevirtual 137, 3) := by decide +kernel
theorem dX8_readsDelay_40 : decode cX8_readsDelay 40 = .ok (.bipush 61, 2) := by decide +kernel
theorem dX8_readsDelay_42 : decode cX8_readsDelay 42 = .ok (.if_icmp .eq 5, 3) := by decide +kernel
theorem dX8_readsDelay_45 : decode cX8_readsDelay 45 = .ok (.iconst 0, 1) := by decide +kernel
theorem dX8_readsDelay_46 : decode cX8_readsDelay 46 = .ok (.ireturn, 1) := by decide +kernel
theorem dX8_readsDelay_47 : decode cX8_readsDelay 47 = .ok (.aload_n 0, 1) := by decide +kernel
theorem dX8_readsDelay_48 : decode cX8_readsDelay 48 = .ok (.dup, 1) := by decide +kernel
theorem dX8_readsDelay_49 : decode cX8_readsDelay 49 = .ok (.getfield 134, 3) := by decide +kernel
theorem dX8_readsDelay_52 : decode cX8_readsDelay 52 = .ok (.iconst 1, 1) := by decide +kernel
theorem dX8_readsDelay_53 : decode cX8_readsDelay 53 = .ok (.iadd, 1) := by decide +kernel
theorem dX8_readsDelay_54 : decode cX8_readsDelay 54 = .ok (.putfield 134, 3) := by decide +kernel
theorem dX8_readsDelay_57 : decode cX8_readsDelay 57 = .ok (.aload_n 0, 1) := by decide +kernel
theorem dX8_readsDelay_58 : decode cX8_readsDelay 58 = .ok (.bipush 20, 2) := by decide +kernel
theorem dX8_readsDelay_60 : decode cX8_readsDelay 60 = .ok (.invokevirtual 146, 3) := by decide +kernel
theorem dX8_readsDelay_63 : decode cX8_readsDelay 63 = .ok (.ireturn, 1) := by decide +kernel
set_option maxRecDepth 20000 in
theorem ggX8_readsOrder_X8_code : GoodIn wsX8_readsOrder wsX8_code := goodIn_r _ [8, 2, 9, 10, 26, 27, 28, 29, 30, 31, 32, 33, 34, 35, 36, 37] (by decide +kernel) (by decide +kernel)
set_option maxRecDepth 20000 in
theorem gX8_readsOrder_X8_code : GoodIn wsX8_readsOrder (wsV RX8 137 RX8 yX8_code wsX8_code) := goodIn_app (goodIn_of _ (by decide +kernel)) ggX8_readsOrder_X8_code
set_option maxRecDepth 20000 in
theorem ggX8_readsOrder_X8_hex : GoodIn wsX8_readsOrder wsX8_hex := goodIn_r _ [13, 14, 15, 7, 16] (by decide +kernel) (by decide +kernel)
set_option maxRecDepth 20000 in
theorem gX8_readsOrder_X8_hex : GoodIn wsX8_readsOrder (va_wsS RX8 152 yX8_hex wsX8_hex) := goodIn_app (goodIn_of _ (by decide +kernel)) ggX8_readsOrder_X8_hex
set_option maxRecDepth 20000 in
theorem ggX8_readsOrder_X8_readsNumber : GoodIn wsX8_readsOrder wsX8_readsNumber := goodIn_r _ [20, 3, 2, 4, 5, 6, 7, 8, 9, 10, 14, 15, 16, 26, 27, 28, 29, 30, 31, 32, 33, 34, 35, 36, 37] (by decide +kernel) (by decide +kernel)
set_option maxRecDepth 20000 in
theorem gX8_readsOrder_X8_readsNumber : GoodIn wsX8_readsOrder (wsV RX8 146 RX8 yX8_readsNumber wsX8_readsNumber) := goodIn_app (goodIn_of _ (by decide +kernel)) ggX8_readsOrder_X8_readsNumber
set_option maxRecDepth 20000 in
theorem ggX8_readsOrder_X8_readsDelay : GoodIn wsX8_readsOrder wsX8_readsDelay := goodIn_r _ [24, 25, 2, 4, 5, 6, 7, 8, 9, 10, 14, 15, 16, 17, 18, 19, 20, 3, 26, 27, 28, 29, 30, 31, 32, 33, 34, 35, 36, 37] (by decide +kernel) (by decide +kernel)
set_option maxRecDepth 20000 in
theorem gX8_readsOrder_X8_readsDelay : GoodIn wsX8_readsOrder (wsV RX8 155 RX8 yX8_readsDelay wsX8_readsDelay) := goodIn_app (goodIn_of _ (by decide +kernel)) ggX8_readsOrder_X8_readsDelay
theorem dX8_readsOrder_0 : decode cX8_readsOrder 0 = .ok (.aload_n 0, 1) := by decide +kernel
theorem dX8_readsOrder_1 : decode cX8_readsOrder 1 = .ok (.aload_n 0, 1) := by decide +kernel
theorem dX8_readsOrder_2 : decode cX8_readsOrder 2 = .ok (.invokevirtual 137, 3) := by decide +kernel
theorem dX8_readsOrder_5 : decode cX8_readsOrder 5 = .ok (.putfield 149, 3) := by decide +kernel
theorem dX8_readsOrder_8 : decode cX8_readsOrder 8 = .ok (.aload_n 0, 1) := by decide +kernel
theorem dX8_readsOrder_9 : decode cX8_readsOrder 9 = .ok (.getfield 149, 3) := by decide +kernel
theorem dX8_readsOrder_12 : decode cX8_readsOrder 12 = .ok (.lookupswitch 151 #[(46, 119), (97, 60), (98, 60), (100, 136), (107, 136), (114, 136)], 60) := by decide +kernel
theorem dX8_readsOrder_72 : decode cX8_readsOrder 72 = .ok (.aload_n 0, 1) := by decide +kernel
theorem dX8_readsOrder_73 : decode cX8_readsOrder 73 = .ok (.dup, 1) := by decide +kernel
theorem dX8_readsOrder_74 : decode cX8_readsOrder 74 = .ok (.getfield 134, 3) := by decide +kernel
theorem dX8_readsOrder_77 : decode cX8_readsOrder 77 = .ok (.iconst 1, 1) := by decide +kernel
theorem dX8_readsOrder_78 : decode cX8_readsOrder 78 = .ok (.iadd, 1) := by decide +kernel
theorem dX8_readsOrder_79 : decode cX8_readsOrder 79 = .ok (.putfield 134, 3) := by decide +kernel
theorem dX8_readsOrder_82 : decode cX8_readsOrder 82 = .ok (.aload_n 0, 1) := by decide +kernel
theorem dX8_readsOrder_83 : decode cX8_readsOrder 83 = .ok (.aload_n 0, 1) := by decide +kernel
theorem dX8_readsOrder_84 : decode cX8_readsOrder 84 = .ok (.invokevirtual 137, 3) := by decide +kernel
theorem dX8_readsOrder_87 : decode cX8_readsOrder 87 = .ok (.invokestatic 152, 3) := by decide +kernel
theorem dX8_readsOrder_90 : decode cX8_readsOrder 90 = .ok (.putfield 140, 3) := by decide +kernel
theorem dX8_readsOrder_93 : decode cX8_readsOrder 93 = .ok (.aload_n 0, 1) := by decide +kernel
theorem dX8_readsOrder_94 : decode cX8_readsOrder 94 = .ok (.dup, 1) := by decide +kernel
theorem dX8_readsOrder_95 : decode cX8_readsOrder 95 = .ok (.getfield 134, 3) := by decide +kernel
theorem dX8_readsOrder_98 : decode cX8_readsOrder 98 = .ok (.aload_n 0, 1) := by decide +kernel
theorem dX8_readsOrder_99 : decode cX8_readsOrder 99 = .ok (.getfield 140, 3) := by decide +kernel
theorem dX8_readsOrder_102 : decode cX8_readsOrder 102 = .ok (.bipush (-5), 2) := by decide +kernel
theorem dX8_readsOrder_104 : decode cX8_readsOrder 104 = .ok (.if_icmp .ne 7, 3) := by decide +kernel
theorem dX8_readsOrder_107 : decode cX8_readsOrder 107 = .ok (.iconst 0, 1) := by decide +kernel
theorem dX8_readsOrder_108 : decode cX8_readsOrder 108 = .ok (.goto 4, 3) := by decide +kernel
theorem dX8_readsOrder_111 : decode cX8_readsOrder 111 = .ok (.iconst 1, 1) := by decide +kernel
theorem dX8_readsOrder_112 : decode cX8_readsOrder 112 = .ok (.iadd, 1) := by decide +kernel
theorem dX8_readsOrder_113 : decode cX8_readsOrder 113 = .ok (.putfield 134, 3) := by decide +kernel
theorem dX8_readsOrder_116 : decode cX8_readsOrder 116 = .ok (.aload_n 0, 1) := by decide +kernel
theorem dX8_readsOrder_117 : decode cX8_readsOrder 117 = .ok (.getfield 140, 3) := by decide +kernel
theorem dX8_readsOrder_120 : decode cX8_readsOrder 120 = .ok (.bipush (-5), 2) := by decide +kernel
theorem dX8_readsOrder_122 : decode cX8_readsOrder 122 = .ok (.if_icmp .eq 7, 3) := by decide +kernel
theorem dX8_readsOrder_125 : decode cX8_readsOrder 125 = .ok (.iconst 1, 1) := by decide +kernel
theorem dX8_readsOrder_126 : decode cX8_readsOrder 126 = .ok (.goto 4, 3) := by decide +kernel
theorem dX8_readsOrder_129 : decode cX8_readsOrder 129 = .ok (.iconst 0, 1) := by decide +kernel
theorem dX8_readsOrder_130 : decode cX8_readsOrder 130 = .ok (.ireturn, 1) := by decide +kernel
theorem dX8_readsOrder_131 : decode cX8_readsOrder 131 = .ok (.aload_n 0, 1) := by decide +kernel
theorem dX8_readsOrder_132 : decode cX8_readsOrder 132 = .ok (.dup, 1) := by decide +kernel
theorem dX8_readsOrder_133 : decode cX8_readsOrder 133 = .ok (.getfield 134, 3) := by decide +kernel
theorem dX8_readsOrder_136 : decode cX8_readsOrder 136 = .ok (.iconst 1, 1) := by decide +kernel
theorem dX8_readsOrder_137 : decode cX8_readsOrder 137 = .ok (.iadd, 1) := by decide +kernel
theorem dX8_readsOrder_138 : decode cX8_readsOrder 138 = .ok (.putfield 134, 3) := by decide +kernel
theorem dX8_readsOrder_141 : decode cX8_readsOrder 141 = .ok (.aload_n 0, 1) := by decide +kernel
theorem dX8_readsOrder_142 : decode cX8_readsOrder 142 = .ok (.bipush 99, 2) := by decide +kernel
theorem dX8_readsOrder_144 : decode cX8_readsOrder 144 = .ok (.invokevirtual 146, 3) := by decide +kernel
theorem dX8_readsOrder_147 : decode cX8_readsOrder 147 = .ok (.ireturn, 1) := by decide +kernel
theorem dX8_readsOrder_148 : decode cX8_readsOrder 148 = .ok (.aload_n 0, 1) := by decide +kernel
theorem dX8_readsOrder_149 : decode cX8_readsOrder 149 = .ok (.dup, 1) := by decide +kernel
theorem dX8_readsOrder_150 : decode cX8_readsOrder 150 = .ok (.getfield 134, 3) := by decide +kernel
theorem dX8_readsOrder_153 : decode cX8_readsOrder 153 = .ok (.iconst 1, 1) := by decide +kernel
theorem dX8_readsOrder_154 : decode cX8_readsOrder 154 = .ok (.iadd, 1) := by decide +kernel
theorem dX8_readsOrder_155 : decode cX8_readsOrder 155 = .ok (.putfield 134, 3) := by decide +kernel
theorem dX8_readsOrder_158 : decode cX8_readsOrder 158 = .ok (.aload_n 0, 1) := by decide +kernel
theorem dX8_readsOrder_159 : decode cX8_readsOrder 159 = .ok (.invokevirtual 155, 3) := by decide +kernel
theorem dX8_readsOrder_162 : decode cX8_readsOrder 162 = .ok (.ireturn, 1) := by decide +kernel
theorem dX8_readsOrder_163 : decode cX8_readsOrder 163 = .ok (.iconst 0, 1) := by decide +kernel
theorem dX8_readsOrder_164 : decode cX8_readsOrder 164 = .ok (.ireturn, 1) := by decide +kernel
set_option maxRecDepth 20000 in
theorem ggX8_findFault_X8_readsOrder : GoodIn wsX8_findFault wsX8_readsOrder := goodIn_r _ [7, 8, 1, 9, 10, 11, 12, 6, 13, 2, 14, 15, 16, 17, 18, 19, 20, 21, 22, 23, 24, 25, 26, 27, 28, 29, 30, 31, 32, 33, 34, 35, 36, 37, 38, 39, 40, 41] (by decide +kernel) (by decide +kernel)
set_option maxRecDepth 20000 in
theorem gX8_findFault_X8_readsOrder : GoodIn wsX8_findFault (wsV RX8 159 RX8 yX8_readsOrder wsX8_readsOrder) := goodIn_app (goodIn_of _ (by decide +kernel)) ggX8_findFault_X8_readsOrder
set_option maxRecDepth 20000 in
theorem ggX8_findFault_X8_code : GoodIn wsX8_findFault wsX8_code := goodIn_r _ [13, 1, 2, 14, 30, 31, 32, 33, 34, 35, 36, 37, 38, 39, 40, 41] (by decide +kernel) (by decide +kernel)
set_option maxRecDepth 20000 in
theorem gX8_findFault_X8_code : GoodIn wsX8_findFault (wsV RX8 137 RX8 yX8_code wsX8_code) := goodIn_app (goodIn_of _ (by decide +kernel)) ggX8_findFault_X8_code
theorem dX8_findFault_0 : decode cX8_findFault 0 = .ok (.aload_n 0, 1) := by decide +kernel
theorem dX8_findFault_1 : decode cX8_findFault 1 = .ok (.iconst 0, 1) := by decide +kernel
theorem dX8_findFault_2 : decode cX8_findFault 2 = .ok (.putfield 134, 3) := by decide +kernel
theorem dX8_findFault_5 : decode cX8_findFault 5 = .ok (.aload_n 0, 1) := by decide +kernel
theorem dX8_findFault_6 : decode cX8_findFault 6 = .ok (.invokevirtual 159, 3) := by decide +kernel
theorem dX8_findFault_9 : decode cX8_findFault 9 = .ok (.ifCond .eq 44, 3) := by decide +kernel
theorem dX8_findFault_12 : decode cX8_findFault 12 = .ok (.aload_n 0, 1) := by decide +kernel
theorem dX8_findFault_13 : decode cX8_findFault 13 = .ok (.getfield 134, 3) := by decide +kernel
theorem dX8_findFault_16 : decode cX8_findFault 16 = .ok (.aload_n 0, 1) := by decide +kernel
theorem dX8_findFault_17 : decode cX8_findFault 17 = .ok (.getfield 131, 3) := by decide +kernel
theorem dX8_findFault_20 : decode cX8_findFault 20 = .ok (.if_icmp .ne 6, 3) := by decide +kernel
theorem dX8_findFault_23 : decode cX8_findFault 23 = .ok (.bipush (-5), 2) := by decide +kernel
theorem dX8_findFault_25 : decode cX8_findFault 25 = .ok (.ireturn, 1) := by decide +kernel
theorem dX8_findFault_26 : decode cX8_findFault 26 = .ok (.aload_n 0, 1) := by decide +kernel
theorem dX8_findFault_27 : decode cX8_findFault 27 = .ok (.invokevirtual 137, 3) := by decide +kernel
theorem dX8_findFault_30 : decode cX8_findFault 30 = .ok (.bipush 44, 2) := by decide +kernel
theorem dX8_findFault_32 : decode cX8_findFault 32 = .ok (.if_icmp .eq 8, 3) := by decide +kernel
theorem dX8_findFault_35 : decode cX8_findFault 35 = .ok (.aload_n 0, 1) := by decide +kernel
theorem dX8_findFault_36 : decode cX8_findFault 36 = .ok (.getfield 134, 3) := by decide +kernel
theorem dX8_findFault_39 : decode cX8_findFault 39 = .ok (.ireturn, 1) := by decide +kernel
theorem dX8_findFault_40 : decode cX8_findFault 40 = .ok (.aload_n 0, 1) := by decide +kernel
theorem dX8_findFault_41 : decode cX8_findFault 41 = .ok (.dup, 1) := by decide +kernel
theorem dX8_findFault_42 : decode cX8_findFault 42 = .ok (.getfield 134, 3) := by decide +kernel
theorem dX8_findFault_45 : decode cX8_findFault 45 = .ok (.iconst 1, 1) := by decide +kernel
theorem dX8_findFault_46 : decode cX8_findFault 46 = .ok (.iadd, 1) := by decide +kernel
theorem dX8_findFault_47 : decode cX8_findFault 47 = .ok (.putfield 134, 3) := by decide +kernel
theorem dX8_findFault_50 : decode cX8_findFault 50 = .ok (.goto (-45), 3) := by decide +kernel
theorem dX8_findFault_53 : decode cX8_findFault 53 = .ok (.aload_n 0, 1) := by decide +kernel
theorem dX8_findFault_54 : decode cX8_findFault 54 = .ok (.getfield 134, 3) := by decide +kernel
theorem dX8_findFault_57 : decode cX8_findFault 57 = .ok (.ireturn, 1) := by decide +kernel
set_option maxRecDepth 20000 in
theorem ggX8_doesOrder_X8_adds : GoodIn wsX8_doesOrder wsX8_adds := goodIn_r _ [8, 9, 10, 11, 7, 12, 13, 14, 15, 16, 17, 18, 19, 20, 21, 22, 23, 24, 25, 26, 27, 28, 29, 30, 31, 88, 89, 90, 91, 92, 93, 94, 95, 96, 97, 98, 99] (by decide +kernel) (by decide +kernel)
set_option maxRecDepth 20000 in
theorem gX8_doesOrder_X8_adds : GoodIn wsX8_doesOrder (wsV RX8 112 RX8 yX8_adds wsX8_adds) := goodIn_app (goodIn_of _ (by decide +kernel)) ggX8_doesOrder_X8_adds
set_option maxRecDepth 20000 in
theorem ggX8_doesOrder_X8_runs : GoodIn wsX8_doesOrder wsX8_runs := goodIn_r _ [35, 9, 36, 13, 14, 7, 15, 37, 38, 39, 40, 41, 42, 43, 44, 45, 46, 47, 48, 49, 50, 51, 52, 53, 54, 55, 56, 24, 25, 26, 27, 57, 58, 59, 60, 28, 29, 30, 31, 61, 62, 63, 64, 65, 66, 67, 68, 69, 70, 71, 72, 20, 21, 22, 23, 73, 74, 75, 76, 16, 17, 18, 19, 88, 89, 90, 91, 92, 93, 94, 95, 96, 97, 98, 99] (by decide +kernel) (by decide +kernel)
set_option maxRecDepth 20000 in
theorem gX8_doesOrder_X8_runs : GoodIn wsX8_doesOrder (wsV RX8 118 RX8 yX8_runs wsX8_runs) := goodIn_app (goodIn_of _ (by decide +kernel)) ggX8_doesOrder_X8_runs
set_option maxRecDepth 20000 in
theorem ggX8_doesOrder_X8_setsDelay : GoodIn wsX8_doesOrder wsX8_setsDelay := goodIn_r _ [80, 9, 81, 82, 83, 7, 84, 13, 14, 15, 85, 86, 87, 88, 89, 90, 91, 92, 93, 94, 95, 96, 97, 98, 99] (by decide +kernel) (by decide +kernel)
set_option maxRecDepth 20000 in
theorem gX8_doesOrder_X8_setsDelay : GoodIn wsX8_doesOrder (wsV RX8 127 RX8 yX8_setsDelay wsX8_setsDelay) := goodIn_app (goodIn_of _ (by decide +kernel)) ggX8_doesOrder_X8_setsDelay
theorem dX8_doesOrder_0 : decode cX8_doesOrder 0 = .ok (.aload_n 0, 1) := by decide +kernel
theorem dX8_doesOrder_1 : decode cX8_doesOrder 1 = .ok (.getfield 149, 3) := by decide +kernel
theorem dX8_doesOrder_4 : decode cX8_doesOrder 4 = .ok (.lookupswitch 61 #[(46, 52), (97, 36), (98, 36)], 36) := by decide +kernel
theorem dX8_doesOrder_40 : decode cX8_doesOrder 40 = .ok (.aload_n 0, 1) := by decide +kernel
theorem dX8_doesOrder_41 : decode cX8_doesOrder 41 = .ok (.aload_n 0, 1) := by decide +kernel
theorem dX8_doesOrder_42 : decode cX8_doesOrder 42 = .ok (.getfield 149, 3) := by decide +kernel
theorem dX8_doesOrder_45 : decode cX8_doesOrder 45 = .ok (.bipush 97, 2) := by decide +kernel
theorem dX8_doesOrder_47 : decode cX8_doesOrder 47 = .ok (.isub, 1) := by decide +kernel
theorem dX8_doesOrder_48 : decode cX8_doesOrder 48 = .ok (.aload_n 0, 1) := by decide +kernel
theorem dX8_doesOrder_49 : decode cX8_doesOrder 49 = .ok (.getfield 140, 3) := by decide +kernel
theorem dX8_doesOrder_52 : decode cX8_doesOrder 52 = .ok (.invokevirtual 112, 3) := by decide +kernel
theorem dX8_doesOrder_55 : decode cX8_doesOrder 55 = .ok (.ireturn, 1) := by decide +kernel
theorem dX8_doesOrder_56 : decode cX8_doesOrder 56 = .ok (.aload_n 0, 1) := by decide +kernel
theorem dX8_doesOrder_57 : decode cX8_doesOrder 57 = .ok (.aload_n 0, 1) := by decide +kernel
theorem dX8_doesOrder_58 : decode cX8_doesOrder 58 = .ok (.getfield 140, 3) := by decide +kernel
theorem dX8_doesOrder_61 : decode cX8_doesOrder 61 = .ok (.invokevirtual 118, 3) := by decide +kernel
theorem dX8_doesOrder_64 : decode cX8_doesOrder 64 = .ok (.ireturn, 1) := by decide +kernel
theorem dX8_doesOrder_65 : decode cX8_doesOrder 65 = .ok (.aload_n 0, 1) := by decide +kernel
theorem dX8_doesOrder_66 : decode cX8_doesOrder 66 = .ok (.aload_n 0, 1) := by decide +kernel
theorem dX8_doesOrder_67 : decode cX8_doesOrder 67 = .ok (.getfield 143, 3) := by decide +kernel
theorem dX8_doesOrder_70 : decode cX8_doesOrder 70 = .ok (.aload_n 0, 1) := by decide +kernel
theorem dX8_doesOrder_71 : decode cX8_doesOrder 71 = .ok (.getfield 149, 3) := by decide +kernel
theorem dX8_doesOrder_74 : decode cX8_doesOrder 74 = .ok (.bipush 114, 2) := by decide +kernel
theorem dX8_doesOrder_76 : decode cX8_doesOrder 76 = .ok (.if_icmp .ne 7, 3) := by decide +kernel
theorem dX8_doesOrder_79 : decode cX8_doesOrder 79 = .ok (.iconst 0, 1) := by decide +kernel
theorem dX8_doesOrder_80 : decode cX8_doesOrder 80 = .ok (.goto 17, 3) := by decide +kernel
theorem dX8_doesOrder_83 : decode cX8_doesOrder 83 = .ok (.aload_n 0, 1) := by decide +kernel
theorem dX8_doesOrder_84 : decode cX8_doesOrder 84 = .ok (.getfield 149, 3) := by decide +kernel
theorem dX8_doesOrder_87 : decode cX8_doesOrder 87 = .ok (.bipush 107, 2) := by decide +kernel
theorem dX8_doesOrder_89 : decode cX8_doesOrder 89 = .ok (.if_icmp .ne 7, 3) := by decide +kernel
theorem dX8_doesOrder_92 : decode cX8_doesOrder 92 = .ok (.iconst 1, 1) := by decide +kernel
theorem dX8_doesOrder_93 : decode cX8_doesOrder 93 = .ok (.goto 4, 3) := by decide +kernel
theorem dX8_doesOrder_96 : decode cX8_doesOrder 96 = .ok (.iconst 2, 1) := by decide +kernel
theorem dX8_doesOrder_97 : decode cX8_doesOrder 97 = .ok (.aload_n 0, 1) := by decide +kernel
theorem dX8_doesOrder_98 : decode cX8_doesOrder 98 = .ok (.getfield 140, 3) := by decide +kernel
theorem dX8_doesOrder_101 : decode cX8_doesOrder 101 = .ok (.invokevirtual 127, 3) := by decide +kernel
theorem dX8_doesOrder_104 : decode cX8_doesOrder 104 = .ok (.ireturn, 1) := by decide +kernel
set_option maxRecDepth 20000 in
theorem ggX8_perform_X8_findFault : GoodIn wsX8_perform wsX8_findFault := goodIn_r _ [7, 1, 2, 8, 9, 10, 6, 11, 12, 13, 14, 15, 16, 17, 18, 19, 20, 21, 22, 23, 24, 25, 26, 27, 28, 29, 30, 31, 32, 33, 133, 134, 135, 136, 137, 138, 139, 140, 141, 142, 143, 144] (by decide +kernel) (by decide +kernel)
set_option maxRecDepth 20000 in
theorem gX8_perform_X8_findFault : GoodIn wsX8_perform (wsV RX8 162 RX8 yX8_findFault wsX8_findFault) := goodIn_app (goodIn_of _ (by decide +kernel)) ggX8_perform_X8_findFault
set_option maxRecDepth 20000 in
theorem ggX8_perform_X8_putAside : GoodIn wsX8_perform wsX8_putAside := goodIn_r _ [37, 38, 39, 133, 134, 135, 136, 137, 138, 139, 140, 141, 142, 143, 144] (by decide +kernel) (by decide +kernel)
set_option maxRecDepth 20000 in
theorem gX8_perform_X8_putAside : GoodIn wsX8_perform (wsV RX8 37 RX8 yX8_putAside wsX8_putAside) := goodIn_app (goodIn_of _ (by decide +kernel)) ggX8_perform_X8_putAside
set_option maxRecDepth 20000 in
theorem ggX8_perform_X8_readsOrder : GoodIn wsX8_perform wsX8_readsOrder := goodIn_r _ [11, 12, 1, 13, 14, 15, 16, 6, 17, 2, 18, 19, 20, 21, 22, 23, 24, 25, 26, 27, 28, 29, 30, 31, 32, 33, 133, 134, 135, 136, 137, 138, 139, 140, 141, 142, 143, 144] (by decide +kernel) (by decide +kernel)
set_option maxRecDepth 20000 in
theorem gX8_perform_X8_readsOrder : GoodIn wsX8_perform (wsV RX8 159 RX8 yX8_readsOrder wsX8_readsOrder) := goodIn_app (goodIn_of _ (by decide +kernel)) ggX8_perform_X8_readsOrder
set_option maxRecDepth 20000 in
theorem ggX8_perform_X8_doesOrder : GoodIn wsX8_perform wsX8_doesOrder := goodIn_r _ [43, 12, 13, 33, 44, 45, 46, 6, 47, 39, 48, 49, 50, 22, 23, 24, 51, 52, 53, 54, 55, 56, 57, 58, 59, 60, 61, 62, 63, 64, 65, 66, 67, 68, 69, 70, 71, 72, 73, 74, 75, 76, 77, 78, 79, 80, 81, 82, 83, 84, 85, 86, 87, 88, 89, 90, 91, 92, 93, 94, 95, 96, 97, 98, 99, 100, 101, 102, 103, 104, 105, 106, 107, 108, 109, 110, 111, 112, 113, 114, 115, 116, 117, 118, 119, 120, 121, 122, 133, 134, 135, 136, 137, 138, 139, 140, 141, 142, 143, 144] (by decide +kernel) (by decide +kernel)
set_option maxRecDepth 20000 in
theorem gX8_perform_X8_doesOrder : GoodIn wsX8_perform (wsV RX8 165 RX8 yX8_doesOrder wsX8_doesOrder) := goodIn_app (goodIn_of _ (by decide +kernel)) ggX8_perform_X8_doesOrder
set_option maxRecDepth 20000 in
theorem ggX8_perform_X8_takeBack : GoodIn wsX8_perform wsX8_takeBack := goodIn_r _ [126, 39, 38, 133, 134, 135, 136, 137, 138, 139, 140, 141, 142, 143, 144] (by decide +kernel) (by decide +kernel)
set_option maxRecDepth 20000 in
theorem gX8_perform_X8_takeBack : GoodIn wsX8_perform (wsV RX8 124 RX8 yX8_takeBack wsX8_takeBack) := goodIn_app (goodIn_of _ (by decide +kernel)) ggX8_perform_X8_takeBack
set_option maxRecDepth 20000 in
theorem ggX8_perform_X8_push : GoodIn wsX8_perform wsX8_push := goodIn_r _ [130, 131, 132, 38, 133, 134, 135, 136, 137, 138, 139, 140, 141, 142, 143, 144] (by decide +kernel) (by decide +kernel)
set_option maxRecDepth 20000 in
theorem gX8_perform_X8_push : GoodIn wsX8_perform (wsV RX8 40 RX8 yX8_push wsX8_push) := goodIn_app (goodIn_of _ (by decide +kernel)) ggX8_perform_X8_push
theorem dX8_perform_0 : decode cX8_perform 0 = .ok (.aload_n 0, 1) := by decide +kernel
theorem dX8_perform_1 : decode cX8_perform 1 = .ok (.invokevirtual 162, 3) := by decide +kernel
theorem dX8_perform_4 : decode cX8_perform 4 = .ok (.istore_n 1, 1) := by decide +kernel
theorem dX8_perform_5 : decode cX8_perform 5 = .ok (.iload_n 1, 1) := by decide +kernel
theorem dX8_perform_6 : decode cX8_perform 6 = .ok (.bipush (-5), 2) := by decide +kernel
theorem dX8_perform_8 : decode cX8_perform 8 = .ok (.if_icmp .eq 8, 3) := by decide +kernel
theorem dX8_perform_11 : decode cX8_perform 11 = .ok (.bipush (-100), 2) := by decide +kernel
theorem dX8_perform_13 : decode cX8_perform 13 = .ok (.iload_n 1, 1) := by decide +kernel
theorem dX8_perform_14 : decode cX8_perform 14 = .ok (.isub, 1) := by decide +kernel
theorem dX8_perform_15 : decode cX8_perform 15 = .ok (.ireturn, 1) := by decide +kernel
theorem dX8_perform_16 : decode cX8_perform 16 = .ok (.aload_n 0, 1) := by decide +kernel
theorem dX8_perform_17 : decode cX8_perform 17 = .ok (.invokevirtual 37, 3) := by decide +kernel
theorem dX8_perform_20 : decode cX8_perform 20 = .ok (.aload_n 0, 1) := by decide +kernel
theorem dX8_perform_21 : decode cX8_perform 21 = .ok (.iconst 0, 1) := by decide +kernel
theorem dX8_perform_22 : decode cX8_perform 22 = .ok (.putfield 134, 3) := by decide +kernel
theorem dX8_perform_25 : decode cX8_perform 25 = .ok (.iconst 0, 1) := by decide +kernel
theorem dX8_perform_26 : decode cX8_perform 26 = .ok (.istore_n 2, 1) := by decide +kernel
theorem dX8_perform_27 : decode cX8_perform 27 = .ok (.aload_n 0, 1) := by decide +kernel
theorem dX8_perform_28 : decode cX8_perform 28 = .ok (.getfield 134, 3) := by decide +kernel
theorem dX8_perform_31 : decode cX8_perform 31 = .ok (.aload_n 0, 1) := by decide +kernel
theorem dX8_perform_32 : decode cX8_perform 32 = .ok (.getfield 131, 3) := by decide +kernel
theorem dX8_perform_35 : decode cX8_perform 35 = .ok (.if_icmp .ge 52, 3) := by decide +kernel
theorem dX8_perform_38 : decode cX8_perform 38 = .ok (.aload_n 0, 1) := by decide +kernel
theorem dX8_perform_39 : decode cX8_perform 39 = .ok (.invokevirtual 159, 3) := by decide +kernel
theorem dX8_perform_42 : decode cX8_perform 42 = .ok (.ifCond .eq 10, 3) := by decide +kernel
theorem dX8_perform_45 : decode cX8_perform 45 = .ok (.aload_n 0, 1) := by decide +kernel
theorem dX8_perform_46 : decode cX8_perform 46 = .ok (.invokevirtual 165, 3) := by decide +kernel
theorem dX8_perform_49 : decode cX8_perform 49 = .ok (.goto 5, 3) := by decide +kernel
theorem dX8_perform_52 : decode cX8_perform 52 = .ok (.bipush (-2), 2) := by decide +kernel
theorem dX8_perform_54 : decode cX8_perform 54 = .ok (.istore_n 3, 1) := by decide +kernel
theorem dX8_perform_55 : decode cX8_perform 55 = .ok (.iload_n 3, 1) := by decide +kernel
theorem dX8_perform_56 : decode cX8_perform 56 = .ok (.ifCond .ge 15, 3) := by decide +kernel
theorem dX8_perform_59 : decode cX8_perform 59 = .ok (.iload_n 3, 1) := by decide +kernel
theorem dX8_perform_60 : decode cX8_perform 60 = .ok (.bipush (-5), 2) := by decide +kernel
theorem dX8_perform_62 : decode cX8_perform 62 = .ok (.if_icmp .eq 9, 3) := by decide +kernel
theorem dX8_perform_65 : decode cX8_perform 65 = .ok (.aload_n 0, 1) := by decide +kernel
theorem dX8_perform_66 : decode cX8_perform 66 = .ok (.invokevirtual 124, 3) := by decide +kernel
theorem dX8_perform_69 : decode cX8_perform 69 = .ok (.iload_n 3, 1) := by decide +kernel
theorem dX8_perform_70 : decode cX8_perform 70 = .ok (.ireturn, 1) := by decide +kernel
theorem dX8_perform_71 : decode cX8_perform 71 = .ok (.iinc 2 1, 3) := by decide +kernel
theorem dX8_perform_74 : decode cX8_perform 74 = .ok (.aload_n 0, 1) := by decide +kernel
theorem dX8_perform_75 : decode cX8_perform 75 = .ok (.dup, 1) := by decide +kernel
theorem dX8_perform_76 : decode cX8_perform 76 = .ok (.getfield 134, 3) := by decide +kernel
theorem dX8_perform_79 : decode cX8_perform 79 = .ok (.iconst 1, 1) := by decide +kernel
theorem dX8_perform_80 : decode cX8_perform 80 = .ok (.iadd, 1) := by decide +kernel
theorem dX8_perform_81 : decode cX8_perform 81 = .ok (.putfield 134, 3) := by decide +kernel
theorem dX8_perform_84 : decode cX8_perform 84 = .ok (.goto (-57), 3) := by decide +kernel
theorem dX8_perform_87 : decode cX8_perform 87 = .ok (.aload_n 0, 1) := by decide +kernel
theorem dX8_perform_88 : decode cX8_perform 88 = .ok (.invokevirtual 40, 3) := by decide +kernel
theorem dX8_perform_91 : decode cX8_perform 91 = .ok (.iload_n 2, 1) := by decide +kernel
theorem dX8_perform_92 : decode cX8_perform 92 = .ok (.ireturn, 1) := by decide +kernel
theorem dX8_fullStages_0 : decode cX8_fullStages 0 = .ok (.iconst 0, 1) := by decide +kernel
theorem dX8_fullStages_1 : decode cX8_fullStages 1 = .ok (.istore_n 1, 1) := by decide +kernel
theorem dX8_fullStages_2 : decode cX8_fullStages 2 = .ok (.iconst 0, 1) := by decide +kernel
theorem dX8_fullStages_3 : decode cX8_fullStages 3 = .ok (.istore_n 2, 1) := by decide +kernel
theorem dX8_fullStages_4 : decode cX8_fullStages 4 = .ok (.iload_n 2, 1) := by decide +kernel
theorem dX8_fullStages_5 : decode cX8_fullStages 5 = .ok (.bipush 6, 2) := by decide +kernel
theorem dX8_fullStages_7 : decode cX8_fullStages 7 = .ok (.if_icmp .ge 21, 3) := by decide +kernel
theorem dX8_fullStages_10 : decode cX8_fullStages 10 = .ok (.iload_n 1, 1) := by decide +kernel
theorem dX8_fullStages_11 : decode cX8_fullStages 11 = .ok (.aload_n 0, 1) := by decide +kernel
theorem dX8_fullStages_12 : decode cX8_fullStages 12 = .ok (.getfield 7, 3) := by decide +kernel
theorem dX8_fullStages_15 : decode cX8_fullStages 15 = .ok (.bipush 97, 2) := by decide +kernel
theorem dX8_fullStages_17 : decode cX8_fullStages 17 = .ok (.iload_n 2, 1) := by decide +kernel
theorem dX8_fullStages_18 : decode cX8_fullStages 18 = .ok (.iadd, 1) := by decide +kernel
theorem dX8_fullStages_19 : decode cX8_fullStages 19 = .ok (.iaload, 1) := by decide +kernel
theorem dX8_fullStages_20 : decode cX8_fullStages 20 = .ok (.iadd, 1) := by decide +kernel
theorem dX8_fullStages_21 : decode cX8_fullStages 21 = .ok (.istore_n 1, 1) := by decide +kernel
theorem dX8_fullStages_22 : decode cX8_fullStages 22 = .ok (.iinc 2 1, 3) := by decide +kernel
theorem dX8_fullStages_25 : decode cX8_fullStages 25 = .ok (.goto (-21), 3) := by decide +kernel
theorem dX8_fullStages_28 : decode cX8_fullStages 28 = .ok (.iload_n 1, 1) := by decide +kernel
theorem dX8_fullStages_29 : decode cX8_fullStages 29 = .ok (.ireturn, 1) := by decide +kernel
set_option maxRecDepth 20000 in
theorem ggX8_tellsLink_X8_end : GoodIn wsX8_tellsLink wsX8_end := goodIn_r _ [6, 1, 7, 8, 9, 10, 11, 12, 13, 14, 15, 16, 17, 18] (by decide +kernel) (by decide +kernel)
set_option maxRecDepth 20000 in
theorem gX8_tellsLink_X8_end : GoodIn wsX8_tellsLink (wsV RX8 58 RX8 yX8_end wsX8_end) := goodIn_app (goodIn_of _ (by decide +kernel)) ggX8_tellsLink_X8_end
theorem dX8_tellsLink_0 : decode cX8_tellsLink 0 = .ok (.iload_n 2, 1) := by decide +kernel
theorem dX8_tellsLink_1 : decode cX8_tellsLink 1 = .ok (.iconst 3, 1) := by decide +kernel
theorem dX8_tellsLink_2 : decode cX8_tellsLink 2 = .ok (.if_icmp .ge 17, 3) := by decide +kernel
theorem dX8_tellsLink_5 : decode cX8_tellsLink 5 = .ok (.aload_n 0, 1) := by decide +kernel
theorem dX8_tellsLink_6 : decode cX8_tellsLink 6 = .ok (.getfield 7, 3) := by decide +kernel
theorem dX8_tellsLink_9 : decode cX8_tellsLink 9 = .ok (.bipush 13, 2) := by decide +kernel
theorem dX8_tellsLink_11 : decode cX8_tellsLink 11 = .ok (.iconst 3, 1) := by decide +kernel
theorem dX8_tellsLink_12 : decode cX8_tellsLink 12 = .ok (.iload_n 1, 1) := by decide +kernel
theorem dX8_tellsLink_13 : decode cX8_tellsLink 13 = .ok (.imul, 1) := by decide +kernel
theorem dX8_tellsLink_14 : decode cX8_tellsLink 14 = .ok (.iadd, 1) := by decide +kernel
theorem dX8_tellsLink_15 : decode cX8_tellsLink 15 = .ok (.iload_n 2, 1) := by decide +kernel
theorem dX8_tellsLink_16 : decode cX8_tellsLink 16 = .ok (.iadd, 1) := by decide +kernel
theorem dX8_tellsLink_17 : decode cX8_tellsLink 17 = .ok (.iaload, 1) := by decide +kernel
theorem dX8_tellsLink_18 : decode cX8_tellsLink 18 = .ok (.ireturn, 1) := by decide +kernel
theorem dX8_tellsLink_19 : decode cX8_tellsLink 19 = .ok (.iload_n 2, 1) := by decide +kernel
theorem dX8_tellsLink_20 : decode cX8_tellsLink 20 = .ok (.bipush 9, 2) := by decide +kernel
theorem dX8_tellsLink_22 : decode cX8_tellsLink 22 = .ok (.if_icmp .ge 12, 3) := by decide +kernel
theorem dX8_tellsLink_25 : decode cX8_tellsLink 25 = .ok (.aload_n 0, 1) := by decide +kernel
theorem dX8_tellsLink_26 : decode cX8_tellsLink 26 = .ok (.iload_n 1, 1) := by decide +kernel
theorem dX8_tellsLink_27 : decode cX8_tellsLink 27 = .ok (.iload_n 2, 1) := by decide +kernel
theorem dX8_tellsLink_28 : decode cX8_tellsLink 28 = .ok (.iconst 3, 1) := by decide +kernel
theorem dX8_tellsLink_29 : decode cX8_tellsLink 29 = .ok (.isub, 1) := by decide +kernel
theorem dX8_tellsLink_30 : decode cX8_tellsLink 30 = .ok (.invokevirtual 58, 3) := by decide +kernel
theorem dX8_tellsLink_33 : decode cX8_tellsLink 33 = .ok (.ireturn, 1) := by decide +kernel
theorem dX8_tellsLink_34 : decode cX8_tellsLink 34 = .ok (.iload_n 2, 1) := by decide +kernel
theorem dX8_tellsLink_35 : decode cX8_tellsLink 35 = .ok (.tableswitch 55 9 11 #[25, 35, 45], 25) := by decide +kernel
theorem dX8_tellsLink_60 : decode cX8_tellsLink 60 = .ok (.aload_n 0, 1) := by decide +kernel
theorem dX8_tellsLink_61 : decode cX8_tellsLink 61 = .ok (.getfield 7, 3) := by decide +kernel
theorem dX8_tellsLink_64 : decode cX8_tellsLink 64 = .ok (.bipush 76, 2) := by decide +kernel
theorem dX8_tellsLink_66 : decode cX8_tellsLink 66 = .ok (.iload_n 1, 1) := by decide +kernel
theorem dX8_tellsLink_67 : decode cX8_tellsLink 67 = .ok (.iadd, 1) := by decide +kernel
theorem dX8_tellsLink_68 : decode cX8_tellsLink 68 = .ok (.iaload, 1) := by decide +kernel
theorem dX8_tellsLink_69 : decode cX8_tellsLink 69 = .ok (.ireturn, 1) := by decide +kernel
theorem dX8_tellsLink_70 : decode cX8_tellsLink 70 = .ok (.aload_n 0, 1) := by decide +kernel
theorem dX8_tellsLink_71 : decode cX8_tellsLink 71 = .ok (.getfield 7, 3) := by decide +kernel
theorem dX8_tellsLink_74 : decode cX8_tellsLink 74 = .ok (.bipush 83, 2) := by decide +kernel
theorem dX8_tellsLink_76 : decode cX8_tellsLink 76 = .ok (.iload_n 1, 1) := by decide +kernel
theorem dX8_tellsLink_77 : decode cX8_tellsLink 77 = .ok (.iadd, 1) := by decide +kernel
theorem dX8_tellsLink_78 : decode cX8_tellsLink 78 = .ok (.iaload, 1) := by decide +kernel
theorem dX8_tellsLink_79 : decode cX8_tellsLink 79 = .ok (.ireturn, 1) := by decide +kernel
theorem dX8_tellsLink_80 : decode cX8_tellsLink 80 = .ok (.aload_n 0, 1) := by decide +kernel
theorem dX8_tellsLink_81 : decode cX8_tellsLink 81 = .ok (.getfield 7, 3) := by decide +kernel
theorem dX8_tellsLink_84 : decode cX8_tellsLink 84 = .ok (.bipush 90, 2) := by decide +kernel
theorem dX8_tellsLink_86 : decode cX8_tellsLink 86 = .ok (.iload_n 1, 1) := by decide +kernel
theorem dX8_tellsLink_87 : decode cX8_tellsLink 87 = .ok (.iadd, 1) := by decide +kernel
theorem dX8_tellsLink_88 : decode cX8_tellsLink 88 = .ok (.iaload, 1) := by decide +kernel
theorem dX8_tellsLink_89 : decode cX8_tellsLink 89 = .ok (.ireturn, 1) := by decide +kernel
theorem dX8_tellsLink_90 : decode cX8_tellsLink 90 = .ok (.aload_n 0, 1) := by decide +kernel
theorem dX8_tellsLink_91 : decode cX8_tellsLink 91 = .ok (.getfield 7, 3) := by decide +kernel
theorem dX8_tellsLink_94 : decode cX8_tellsLink 94 = .ok (.bipush 13, 2) := by decide +kernel
theorem dX8_tellsLink_96 : decode cX8_tellsLink 96 = .ok (.iconst 3, 1) := by decide +kernel
theorem dX8_tellsLink_97 : decode cX8_tellsLink 97 = .ok (.iload_n 1, 1) := by decide +kernel
theorem dX8_tellsLink_98 : decode cX8_tellsLink 98 = .ok (.imul, 1) := by decide +kernel
theorem dX8_tellsLink_99 : decode cX8_tellsLink 99 = .ok (.iadd, 1) := by decide +kernel
theorem dX8_tellsLink_100 : decode cX8_tellsLink 100 = .ok (.iconst 0, 1) := by decide +kernel
theorem dX8_tellsLink_101 : decode cX8_tellsLink 101 = .ok (.iadd, 1) := by decide +kernel
theorem dX8_tellsLink_102 : decode cX8_tellsLink 102 = .ok (.iaload, 1) := by decide +kernel
theorem dX8_tellsLink_103 : decode cX8_tellsLink 103 = .ok (.aload_n 0, 1) := by decide +kernel
theorem dX8_tellsLink_104 : decode cX8_tellsLink 104 = .ok (.getfield 7, 3) := by decide +kernel
theorem dX8_tellsLink_107 : decode cX8_tellsLink 107 = .ok (.iconst 0, 1) := by decide +kernel
theorem dX8_tellsLink_108 : decode cX8_tellsLink 108 = .ok (.iaload, 1) := by decide +kernel
theorem dX8_tellsLink_109 : decode cX8_tellsLink 109 = .ok (.iadd, 1) := by decide +kernel
theorem dX8_tellsLink_110 : decode cX8_tellsLink 110 = .ok (.istore_n 3, 1) := by decide +kernel
theorem dX8_tellsLink_111 : decode cX8_tellsLink 111 = .ok (.aload_n 0, 1) := by decide +kernel
theorem dX8_tellsLink_112 : decode cX8_tellsLink 112 = .ok (.getfield 7, 3) := by decide +kernel
theorem dX8_tellsLink_115 : decode cX8_tellsLink 115 = .ok (.bipush 13, 2) := by decide +kernel
theorem dX8_tellsLink_117 : decode cX8_tellsLink 117 = .ok (.iconst 3, 1) := by decide +kernel
theorem dX8_tellsLink_118 : decode cX8_tellsLink 118 = .ok (.iload_n 1, 1) := by decide +kernel
theorem dX8_tellsLink_119 : decode cX8_tellsLink 119 = .ok (.imul, 1) := by decide +kernel
theorem dX8_tellsLink_120 : decode cX8_tellsLink 120 = .ok (.iadd, 1) := by decide +kernel
theorem dX8_tellsLink_121 : decode cX8_tellsLink 121 = .ok (.iconst 2, 1) := by decide +kernel
theorem dX8_tellsLink_122 : decode cX8_tellsLink 122 = .ok (.iadd, 1) := by decide +kernel
theorem dX8_tellsLink_123 : decode cX8_tellsLink 123 = .ok (.iaload, 1) := by decide +kernel
theorem dX8_tellsLink_124 : decode cX8_tellsLink 124 = .ok (.iload_n 3, 1) := by decide +kernel
theorem dX8_tellsLink_125 : decode cX8_tellsLink 125 = .ok (.if_icmp .gt 7, 3) := by decide +kernel
theorem dX8_tellsLink_128 : decode cX8_tellsLink 128 = .ok (.iconst 1, 1) := by decide +kernel
theorem dX8_tellsLink_129 : decode cX8_tellsLink 129 = .ok (.goto 4, 3) := by decide +kernel
theorem dX8_tellsLink_132 : decode cX8_tellsLink 132 = .ok (.iconst 0, 1) := by decide +kernel
theorem dX8_tellsLink_133 : decode cX8_tellsLink 133 = .ok (.ireturn, 1) := by decide +kernel
set_option maxRecDepth 20000 in
theorem ggX8_link_X8_isLink : GoodIn wsX8_link wsX8_isLink := goodIn_r _ [5, 6, 7, 8, 4, 9, 18, 19, 20, 21, 22, 23, 24, 25, 26, 27, 28, 29] (by decide +kernel) (by decide +kernel)
set_option maxRecDepth 20000 in
theorem gX8_link_X8_isLink : GoodIn wsX8_link (wsV RX8 103 RX8 yX8_isLink wsX8_isLink) := goodIn_app (goodIn_of _ (by decide +kernel)) ggX8_link_X8_isLink
set_option maxRecDepth 20000 in
theorem ggX8_link_X8_within : GoodIn wsX8_link wsX8_within := goodIn_r _ [9] (by decide +kernel) (by decide +kernel)
set_option maxRecDepth 20000 in
theorem gX8_link_X8_within : GoodIn wsX8_link (va_wsS RX8 29 yX8_within wsX8_within) := goodIn_app (goodIn_of _ (by decide +kernel)) ggX8_link_X8_within
set_option maxRecDepth 20000 in
theorem ggX8_link_X8_tellsLink : GoodIn wsX8_link wsX8_tellsLink := goodIn_r _ [13, 6, 14, 15, 16, 4, 17, 18, 19, 20, 21, 22, 23, 24, 25, 26, 27, 28, 29] (by decide +kernel) (by decide +kernel)
set_option maxRecDepth 20000 in
theorem gX8_link_X8_tellsLink : GoodIn wsX8_link (wsV RX8 168 RX8 yX8_tellsLink wsX8_tellsLink) := goodIn_app (goodIn_of _ (by decide +kernel)) ggX8_link_X8_tellsLink
end
section
theorem dX8_link_0 : decode cX8_link 0 = .ok (.aload_n 0, 1) := by decide +kernel
theorem dX8_link_1 : decode cX8_link 1 = .ok (.iload_n 1, 1) := by decide +kernel
theorem dX8_link_2 : decode cX8_link 2 = .ok (.invokevirtual 103, 3) := by decide +kernel
theorem dX8_link_5 : decode cX8_link 5 = .ok (.ifCond .ne 5, 3) := by decide +kernel
theorem dX8_link_8 : decode cX8_link 8 = .ok (.iconst (-1), 1) := by decide +kernel
theorem dX8_link_9 : decode cX8_link 9 = .ok (.ireturn, 1) := by decide +kernel
theorem dX8_link_10 : decode cX8_link 10 = .ok (.iload_n 2, 1) := by decide +kernel
theorem dX8_link_11 : decode cX8_link 11 = .ok (.iconst 0, 1) := by decide +kernel
theorem dX8_link_12 : decode cX8_link 12 = .ok (.bipush 12, 2) := by decide +kernel
theorem dX8_link_14 : decode cX8_link 14 = .ok (.invokestatic 29, 3) := by decide +kernel
theorem dX8_link_17 : decode cX8_link 17 = .ok (.ifCond .eq 12, 3) := by decide +kernel
theorem dX8_link_20 : decode cX8_link 20 = .ok (.aload_n 0, 1) := by decide +kernel
theorem dX8_link_21 : decode cX8_link 21 = .ok (.iload_n 1, 1) := by decide +kernel
theorem dX8_link_22 : decode cX8_link 22 = .ok (.iload_n 2, 1) := by decide +kernel
theorem dX8_link_23 : decode cX8_link 23 = .ok (.invokevirtual 168, 3) := by decide +kernel
theorem dX8_link_26 : decode cX8_link 26 = .ok (.goto 5, 3) := by decide +kernel
theorem dX8_link_29 : decode cX8_link 29 = .ok (.bipush (-2), 2) := by decide +kernel
theorem dX8_link_31 : decode cX8_link 31 = .ok (.ireturn, 1) := by decide +kernel
set_option maxRecDepth 20000 in
theorem ggX8_stage_X8_within : GoodIn wsX8_stage wsX8_within := goodIn_r _ [5] (by decide +kernel) (by decide +kernel)
set_option maxRecDepth 20000 in
theorem gX8_stage_X8_within : GoodIn wsX8_stage (va_wsS RX8 29 yX8_within wsX8_within) := goodIn_app (goodIn_of _ (by decide +kernel)) ggX8_stage_X8_within
theorem dX8_stage_0 : decode cX8_stage 0 = .ok (.iload_n 1, 1) := by decide +kernel
theorem dX8_stage_1 : decode cX8_stage 1 = .ok (.iconst 0, 1) := by decide +kernel
theorem dX8_stage_2 : decode cX8_stage 2 = .ok (.aload_n 0, 1) := by decide +kernel
theorem dX8_stage_3 : decode cX8_stage 3 = .ok (.getfield 7, 3) := by decide +kernel
theorem dX8_stage_6 : decode cX8_stage 6 = .ok (.iconst 3, 1) := by decide +kernel
theorem dX8_stage_7 : decode cX8_stage 7 = .ok (.iaload, 1) := by decide +kernel
theorem dX8_stage_8 : decode cX8_stage 8 = .ok (.iconst 1, 1) := by decide +kernel
theorem dX8_stage_9 : decode cX8_stage 9 = .ok (.isub, 1) := by decide +kernel
theorem dX8_stage_10 : decode cX8_stage 10 = .ok (.invokestatic 29, 3) := by decide +kernel
theorem dX8_stage_13 : decode cX8_stage 13 = .ok (.ifCond .ne 5, 3) := by decide +kernel
theorem dX8_stage_16 : decode cX8_stage 16 = .ok (.iconst (-1), 1) := by decide +kernel
theorem dX8_stage_17 : decode cX8_stage 17 = .ok (.ireturn, 1) := by decide +kernel
theorem dX8_stage_18 : decode cX8_stage 18 = .ok (.aload_n 0, 1) := by decide +kernel
theorem dX8_stage_19 : decode cX8_stage 19 = .ok (.getfield 7, 3) := by decide +kernel
theorem dX8_stage_22 : decode cX8_stage 22 = .ok (.bipush 97, 2) := by decide +kernel
theorem dX8_stage_24 : decode cX8_stage 24 = .ok (.iload_n 1, 1) := by decide +kernel
theorem dX8_stage_25 : decode cX8_stage 25 = .ok (.iadd, 1) := by decide +kernel
theorem dX8_stage_26 : decode cX8_stage 26 = .ok (.iaload, 1) := by decide +kernel
theorem dX8_stage_27 : decode cX8_stage 27 = .ok (.iconst 1, 1) := by decide +kernel
theorem dX8_stage_28 : decode cX8_stage 28 = .ok (.if_icmp .ne 15, 3) := by decide +kernel
theorem dX8_stage_31 : decode cX8_stage 31 = .ok (.aload_n 0, 1) := by decide +kernel
theorem dX8_stage_32 : decode cX8_stage 32 = .ok (.getfield 7, 3) := by decide +kernel
theorem dX8_stage_35 : decode cX8_stage 35 = .ok (.bipush 103, 2) := by decide +kernel
theorem dX8_stage_37 : decode cX8_stage 37 = .ok (.iload_n 1, 1) := by decide +kernel
theorem dX8_stage_38 : decode cX8_stage 38 = .ok (.iadd, 1) := by decide +kernel
theorem dX8_stage_39 : decode cX8_stage 39 = .ok (.iaload, 1) := by decide +kernel
theorem dX8_stage_40 : decode cX8_stage 40 = .ok (.goto 5, 3) := by decide +kernel
theorem dX8_stage_43 : decode cX8_stage 43 = .ok (.bipush (-5), 2) := by decide +kernel
theorem dX8_stage_45 : decode cX8_stage 45 = .ok (.ireturn, 1) := by decide +kernel
set_option maxRecDepth 20000 in
theorem ggX8_waiting_X8_isSender : GoodIn wsX8_waiting wsX8_isSender := goodIn_r _ [5, 6, 7, 4, 8] (by decide +kernel) (by decide +kernel)
set_option maxRecDepth 20000 in
theorem gX8_waiting_X8_isSender : GoodIn wsX8_waiting (va_wsS RX8 95 yX8_isSender wsX8_isSender) := goodIn_app (goodIn_of _ (by decide +kernel)) ggX8_waiting_X8_isSender
theorem dX8_waiting_0 : decode cX8_waiting 0 = .ok (.iload_n 1, 1) := by decide +kernel
theorem dX8_waiting_1 : decode cX8_waiting 1 = .ok (.invokestatic 95, 3) := by decide +kernel
theorem dX8_waiting_4 : decode cX8_waiting 4 = .ok (.ifCond .ne 5, 3) := by decide +kernel
theorem dX8_waiting_7 : decode cX8_waiting 7 = .ok (.iconst (-1), 1) := by decide +kernel
theorem dX8_waiting_8 : decode cX8_waiting 8 = .ok (.ireturn, 1) := by decide +kernel
theorem dX8_waiting_9 : decode cX8_waiting 9 = .ok (.iload_n 2, 1) := by decide +kernel
theorem dX8_waiting_10 : decode cX8_waiting 10 = .ok (.ifCond .ge 6, 3) := by decide +kernel
theorem dX8_waiting_13 : decode cX8_waiting 13 = .ok (.bipush (-2), 2) := by decide +kernel
theorem dX8_waiting_15 : decode cX8_waiting 15 = .ok (.ireturn, 1) := by decide +kernel
theorem dX8_waiting_16 : decode cX8_waiting 16 = .ok (.iload_n 2, 1) := by decide +kernel
theorem dX8_waiting_17 : decode cX8_waiting 17 = .ok (.aload_n 0, 1) := by decide +kernel
theorem dX8_waiting_18 : decode cX8_waiting 18 = .ok (.getfield 7, 3) := by decide +kernel
theorem dX8_waiting_21 : decode cX8_waiting 21 = .ok (.bipush 11, 2) := by decide +kernel
theorem dX8_waiting_23 : decode cX8_waiting 23 = .ok (.iload_n 1, 1) := by decide +kernel
theorem dX8_waiting_24 : decode cX8_waiting 24 = .ok (.iadd, 1) := by decide +kernel
theorem dX8_waiting_25 : decode cX8_waiting 25 = .ok (.iaload, 1) := by decide +kernel
theorem dX8_waiting_26 : decode cX8_waiting 26 = .ok (.if_icmp .ge 20, 3) := by decide +kernel
theorem dX8_waiting_29 : decode cX8_waiting 29 = .ok (.aload_n 0, 1) := by decide +kernel
theorem dX8_waiting_30 : decode cX8_waiting 30 = .ok (.getfield 7, 3) := by decide +kernel
theorem dX8_waiting_33 : decode cX8_waiting 33 = .ok (.bipush 109, 2) := by decide +kernel
theorem dX8_waiting_35 : decode cX8_waiting 35 = .ok (.bipush 20, 2) := by decide +kernel
theorem dX8_waiting_37 : decode cX8_waiting 37 = .ok (.iload_n 1, 1) := by decide +kernel
theorem dX8_waiting_38 : decode cX8_waiting 38 = .ok (.imul, 1) := by decide +kernel
theorem dX8_waiting_39 : decode cX8_waiting 39 = .ok (.iadd, 1) := by decide +kernel
theorem dX8_waiting_40 : decode cX8_waiting 40 = .ok (.iload_n 2, 1) := by decide +kernel
theorem dX8_waiting_41 : decode cX8_waiting 41 = .ok (.iadd, 1) := by decide +kernel
theorem dX8_waiting_42 : decode cX8_waiting 42 = .ok (.iaload, 1) := by decide +kernel
theorem dX8_waiting_43 : decode cX8_waiting 43 = .ok (.goto 5, 3) := by decide +kernel
theorem dX8_waiting_46 : decode cX8_waiting 46 = .ok (.bipush (-5), 2) := by decide +kernel
theorem dX8_waiting_48 : decode cX8_waiting 48 = .ok (.ireturn, 1) := by decide +kernel
set_option maxRecDepth 20000 in
theorem ggX8_noted_X8_within : GoodIn wsX8_noted wsX8_within := goodIn_r _ [5] (by decide +kernel) (by decide +kernel)
set_option maxRecDepth 20000 in
theorem gX8_noted_X8_within : GoodIn wsX8_noted (va_wsS RX8 29 yX8_within wsX8_within) := goodIn_app (goodIn_of _ (by decide +kernel)) ggX8_noted_X8_within
theorem dX8_noted_0 : decode cX8_noted 0 = .ok (.iload_n 1, 1) := by decide +kernel
theorem dX8_noted_1 : decode cX8_noted 1 = .ok (.ifCond .lt 12, 3) := by decide +kernel
theorem dX8_noted_4 : decode cX8_noted 4 = .ok (.iload_n 2, 1) := by decide +kernel
theorem dX8_noted_5 : decode cX8_noted 5 = .ok (.iconst 0, 1) := by decide +kernel
theorem dX8_noted_6 : decode cX8_noted 6 = .ok (.iconst 2, 1) := by decide +kernel
theorem dX8_noted_7 : decode cX8_noted 7 = .ok (.invokestatic 29, 3) := by decide +kernel
theorem dX8_noted_10 : decode cX8_noted 10 = .ok (.ifCond .ne 6, 3) := by decide +kernel
theorem dX8_noted_13 : decode cX8_noted 13 = .ok (.bipush (-2), 2) := by decide +kernel
theorem dX8_noted_15 : decode cX8_noted 15 = .ok (.ireturn, 1) := by decide +kernel
theorem dX8_noted_16 : decode cX8_noted 16 = .ok (.iload_n 1, 1) := by decide +kernel
theorem dX8_noted_17 : decode cX8_noted 17 = .ok (.bipush 50, 2) := by decide +kernel
theorem dX8_noted_19 : decode cX8_noted 19 = .ok (.if_icmp .ge 30, 3) := by decide +kernel
theorem dX8_noted_22 : decode cX8_noted 22 = .ok (.iload_n 1, 1) := by decide +kernel
theorem dX8_noted_23 : decode cX8_noted 23 = .ok (.aload_n 0, 1) := by decide +kernel
theorem dX8_noted_24 : decode cX8_noted 24 = .ok (.getfield 7, 3) := by decide +kernel
theorem dX8_noted_27 : decode cX8_noted 27 = .ok (.iconst 5, 1) := by decide +kernel
theorem dX8_noted_28 : decode cX8_noted 28 = .ok (.iaload, 1) := by decide +kernel
theorem dX8_noted_29 : decode cX8_noted 29 = .ok (.if_icmp .ge 20, 3) := by decide +kernel
theorem dX8_noted_32 : decode cX8_noted 32 = .ok (.aload_n 0, 1) := by decide +kernel
theorem dX8_noted_33 : decode cX8_noted 33 = .ok (.getfield 7, 3) := by decide +kernel
theorem dX8_noted_36 : decode cX8_noted 36 = .ok (.sipush 169, 3) := by decide +kernel
theorem dX8_noted_39 : decode cX8_noted 39 = .ok (.iconst 3, 1) := by decide +kernel
theorem dX8_noted_40 : decode cX8_noted 40 = .ok (.iload_n 1, 1) := by decide +kernel
theorem dX8_noted_41 : decode cX8_noted 41 = .ok (.imul, 1) := by decide +kernel
theorem dX8_noted_42 : decode cX8_noted 42 = .ok (.iadd, 1) := by decide +kernel
theorem dX8_noted_43 : decode cX8_noted 43 = .ok (.iload_n 2, 1) := by decide +kernel
theorem dX8_noted_44 : decode cX8_noted 44 = .ok (.iadd, 1) := by decide +kernel
theorem dX8_noted_45 : decode cX8_noted 45 = .ok (.iaload, 1) := by decide +kernel
theorem dX8_noted_46 : decode cX8_noted 46 = .ok (.goto 5, 3) := by decide +kernel
theorem dX8_noted_49 : decode cX8_noted 49 = .ok (.bipush (-5), 2) := by decide +kernel
theorem dX8_noted_51 : decode cX8_noted 51 = .ok (.ireturn, 1) := by decide +kernel
set_option maxRecDepth 20000 in
theorem ggX8_total_X8_fullStages : GoodIn wsX8_total wsX8_fullStages := goodIn_r _ [8, 1, 9, 10, 11, 12, 13, 14, 15, 16, 17, 18, 19, 20] (by decide +kernel) (by decide +kernel)
set_option maxRecDepth 20000 in
theorem gX8_total_X8_fullStages : GoodIn wsX8_total (wsV RX8 109 RX8 yX8_fullStages wsX8_fullStages) := goodIn_app (goodIn_of _ (by decide +kernel)) ggX8_total_X8_fullStages
theorem dX8_total_0 : decode cX8_total 0 = .ok (.iload_n 1, 1) := by decide +kernel
theorem dX8_total_1 : decode cX8_total 1 = .ok (.tableswitch 177 0 14 #[75, 82, 89, 105, 110, 118, 126, 133, 141, 149, 157, 157, 157, 167, 172], 75) := by decide +kernel
theorem dX8_total_76 : decode cX8_total 76 = .ok (.aload_n 0, 1) := by decide +kernel
theorem dX8_total_77 : decode cX8_total 77 = .ok (.getfield 7, 3) := by decide +kernel
theorem dX8_total_80 : decode cX8_total 80 = .ok (.iconst 3, 1) := by decide +kernel
theorem dX8_total_81 : decode cX8_total 81 = .ok (.iaload, 1) := by decide +kernel
theorem dX8_total_82 : decode cX8_total 82 = .ok (.ireturn, 1) := by decide +kernel
theorem dX8_total_83 : decode cX8_total 83 = .ok (.aload_n 0, 1) := by decide +kernel
theorem dX8_total_84 : decode cX8_total 84 = .ok (.getfield 7, 3) := by decide +kernel
theorem dX8_total_87 : decode cX8_total 87 = .ok (.iconst 4, 1) := by decide +kernel
theorem dX8_total_88 : decode cX8_total 88 = .ok (.iaload, 1) := by decide +kernel
theorem dX8_total_89 : decode cX8_total 89 = .ok (.ireturn, 1) := by decide +kernel
theorem dX8_total_90 : decode cX8_total 90 = .ok (.aload_n 0, 1) := by decide +kernel
theorem dX8_total_91 : decode cX8_total 91 = .ok (.getfield 7, 3) := by decide +kernel
theorem dX8_total_94 : decode cX8_total 94 = .ok (.bipush 11, 2) := by decide +kernel
theorem dX8_total_96 : decode cX8_total 96 = .ok (.iaload, 1) := by decide +kernel
theorem dX8_total_97 : decode cX8_total 97 = .ok (.aload_n 0, 1) := by decide +kernel
theorem dX8_total_98 : decode cX8_total 98 = .ok (.getfield 7, 3) := by decide +kernel
theorem dX8_total_101 : decode cX8_total 101 = .ok (.bipush 12, 2) := by decide +kernel
theorem dX8_total_103 : decode cX8_total 103 = .ok (.iaload, 1) := by decide +kernel
theorem dX8_total_104 : decode cX8_total 104 = .ok (.iadd, 1) := by decide +kernel
theorem dX8_total_105 : decode cX8_total 105 = .ok (.ireturn, 1) := by decide +kernel
theorem dX8_total_106 : decode cX8_total 106 = .ok (.aload_n 0, 1) := by decide +kernel
theorem dX8_total_107 : decode cX8_total 107 = .ok (.invokevirtual 109, 3) := by decide +kernel
theorem dX8_total_110 : decode cX8_total 110 = .ok (.ireturn, 1) := by decide +kernel
theorem dX8_total_111 : decode cX8_total 111 = .ok (.aload_n 0, 1) := by decide +kernel
theorem dX8_total_112 : decode cX8_total 112 = .ok (.getfield 7, 3) := by decide +kernel
theorem dX8_total_115 : decode cX8_total 115 = .ok (.bipush 10, 2) := by decide +kernel
theorem dX8_total_117 : decode cX8_total 117 = .ok (.iaload, 1) := by decide +kernel
theorem dX8_total_118 : decode cX8_total 118 = .ok (.ireturn, 1) := by decide +kernel
theorem dX8_total_119 : decode cX8_total 119 = .ok (.aload_n 0, 1) := by decide +kernel
theorem dX8_total_120 : decode cX8_total 120 = .ok (.getfield 7, 3) := by decide +kernel
theorem dX8_total_123 : decode cX8_total 123 = .ok (.bipush 90, 2) := by decide +kernel
theorem dX8_total_125 : decode cX8_total 125 = .ok (.iaload, 1) := by decide +kernel
theorem dX8_total_126 : decode cX8_total 126 = .ok (.ireturn, 1) := by decide +kernel
theorem dX8_total_127 : decode cX8_total 127 = .ok (.aload_n 0, 1) := by decide +kernel
theorem dX8_total_128 : decode cX8_total 128 = .ok (.getfield 7, 3) := by decide +kernel
theorem dX8_total_131 : decode cX8_total 131 = .ok (.iconst 5, 1) := by decide +kernel
theorem dX8_total_132 : decode cX8_total 132 = .ok (.iaload, 1) := by decide +kernel
theorem dX8_total_133 : decode cX8_total 133 = .ok (.ireturn, 1) := by decide +kernel
theorem dX8_total_134 : decode cX8_total 134 = .ok (.aload_n 0, 1) := by decide +kernel
theorem dX8_total_135 : decode cX8_total 135 = .ok (.getfield 7, 3) := by decide +kernel
theorem dX8_total_138 : decode cX8_total 138 = .ok (.bipush 6, 2) := by decide +kernel
theorem dX8_total_140 : decode cX8_total 140 = .ok (.iaload, 1) := by decide +kernel
theorem dX8_total_141 : decode cX8_total 141 = .ok (.ireturn, 1) := by decide +kernel
theorem dX8_total_142 : decode cX8_total 142 = .ok (.aload_n 0, 1) := by decide +kernel
theorem dX8_total_143 : decode cX8_total 143 = .ok (.getfield 7, 3) := by decide +kernel
theorem dX8_total_146 : decode cX8_total 146 = .ok (.bipush 7, 2) := by decide +kernel
theorem dX8_total_148 : decode cX8_total 148 = .ok (.iaload, 1) := by decide +kernel
theorem dX8_total_149 : decode cX8_total 149 = .ok (.ireturn, 1) := by decide +kernel
theorem dX8_total_150 : decode cX8_total 150 = .ok (.aload_n 0, 1) := by decide +kernel
theorem dX8_total_151 : decode cX8_total 151 = .ok (.getfield 7, 3) := by decide +kernel
theorem dX8_total_154 : decode cX8_total 154 = .ok (.bipush 8, 2) := by decide +kernel
theorem dX8_total_156 : decode cX8_total 156 = .ok (.iaload, 1) := by decide +kernel
theorem dX8_total_157 : decode cX8_total 157 = .ok (.ireturn, 1) := by decide +kernel
theorem dX8_total_158 : decode cX8_total 158 = .ok (.aload_n 0, 1) := by decide +kernel
theorem dX8_total_159 : decode cX8_total 159 = .ok (.getfield 7, 3) := by decide +kernel
theorem dX8_total_162 : decode cX8_total 162 = .ok (.iload_n 1, 1) := by decide +kernel
theorem dX8_total_163 : decode cX8_total 163 = .ok (.bipush 10, 2) := by decide +kernel
theorem dX8_total_165 : decode cX8_total 165 = .ok (.isub, 1) := by decide +kernel
theorem dX8_total_166 : decode cX8_total 166 = .ok (.iaload, 1) := by decide +kernel
theorem dX8_total_167 : decode cX8_total 167 = .ok (.ireturn, 1) := by decide +kernel
theorem dX8_total_168 : decode cX8_total 168 = .ok (.aload_n 0, 1) := by decide +kernel
theorem dX8_total_169 : decode cX8_total 169 = .ok (.getfield 33, 3) := by decide +kernel
theorem dX8_total_172 : decode cX8_total 172 = .ok (.ireturn, 1) := by decide +kernel
theorem dX8_total_173 : decode cX8_total 173 = .ok (.aload_n 0, 1) := by decide +kernel
theorem dX8_total_174 : decode cX8_total 174 = .ok (.getfield 131, 3) := by decide +kernel
theorem dX8_total_177 : decode cX8_total 177 = .ok (.ireturn, 1) := by decide +kernel
theorem dX8_total_178 : decode cX8_total 178 = .ok (.bipush (-2), 2) := by decide +kernel
theorem dX8_total_180 : decode cX8_total 180 = .ok (.ireturn, 1) := by decide +kernel
set_option maxRecDepth 20000 in
theorem ggX8_next_X8_nextChange : GoodIn wsX8_next wsX8_nextChange := goodIn_r _ [5, 6, 7, 8, 9, 4, 10, 11, 12, 13, 14, 15, 16, 17, 18, 19, 20, 21, 22] (by decide +kernel) (by decide +kernel)
set_option maxRecDepth 20000 in
theorem gX8_next_X8_nextChange : GoodIn wsX8_next (wsV RX8 88 RX8 yX8_nextChange wsX8_nextChange) := goodIn_app (goodIn_of _ (by decide +kernel)) ggX8_next_X8_nextChange
set_option maxRecDepth 20000 in
theorem ggX8_next_X8_whenOf : GoodIn wsX8_next wsX8_whenOf := goodIn_r _ [10, 6, 11, 12, 13, 14, 15, 16, 17, 18, 19, 20, 21, 22] (by decide +kernel) (by decide +kernel)
set_option maxRecDepth 20000 in
theorem gX8_next_X8_whenOf : GoodIn wsX8_next (wsV RX8 78 RX8 yX8_whenOf wsX8_whenOf) := goodIn_app (goodIn_of _ (by decide +kernel)) ggX8_next_X8_whenOf
theorem dX8_next_0 : decode cX8_next 0 = .ok (.aload_n 0, 1) := by decide +kernel
theorem dX8_next_1 : decode cX8_next 1 = .ok (.invokevirtual 88, 3) := by decide +kernel
theorem dX8_next_4 : decode cX8_next 4 = .ok (.istore_n 1, 1) := by decide +kernel
theorem dX8_next_5 : decode cX8_next 5 = .ok (.iload_n 1, 1) := by decide +kernel
theorem dX8_next_6 : decode cX8_next 6 = .ok (.bipush (-5), 2) := by decide +kernel
theorem dX8_next_8 : decode cX8_next 8 = .ok (.if_icmp .ne 8, 3) := by decide +kernel
theorem dX8_next_11 : decode cX8_next 11 = .ok (.bipush (-5), 2) := by decide +kernel
theorem dX8_next_13 : decode cX8_next 13 = .ok (.goto 8, 3) := by decide +kernel
theorem dX8_next_16 : decode cX8_next 16 = .ok (.aload_n 0, 1) := by decide +kernel
theorem dX8_next_17 : decode cX8_next 17 = .ok (.iload_n 1, 1) := by decide +kernel
theorem dX8_next_18 : decode cX8_next 18 = .ok (.invokevirtual 78, 3) := by decide +kernel
theorem dX8_next_21 : decode cX8_next 21 = .ok (.ireturn, 1) := by decide +kernel
set_option maxRecDepth 20000 in
theorem ggX8_quietIn_X8_putAside : GoodIn wsX8_quietIn wsX8_putAside := goodIn_r _ [5, 6, 7, 68, 69, 70, 71, 72, 73, 74, 75, 76, 77, 78, 79] (by decide +kernel) (by decide +kernel)
set_option maxRecDepth 20000 in
theorem gX8_quietIn_X8_putAside : GoodIn wsX8_quietIn (wsV RX8 37 RX8 yX8_putAside wsX8_putAside) := goodIn_app (goodIn_of _ (by decide +kernel)) ggX8_quietIn_X8_putAside
set_option maxRecDepth 20000 in
theorem ggX8_quietIn_X8_settle : GoodIn wsX8_quietIn wsX8_settle := goodIn_r _ [11, 7, 12, 13, 14, 4, 15, 16, 17, 18, 19, 20, 21, 22, 23, 24, 25, 26, 27, 28, 29, 30, 31, 32, 33, 34, 35, 36, 37, 38, 39, 40, 41, 42, 43, 44, 45, 46, 47, 48, 49, 50, 51, 52, 53, 54, 55, 56, 57, 58, 59, 60, 61, 62, 63, 68, 69, 70, 71, 72, 73, 74, 75, 76, 77, 78, 79] (by decide +kernel) (by decide +kernel)
set_option maxRecDepth 20000 in
theorem gX8_quietIn_X8_settle : GoodIn wsX8_quietIn (wsV RX8 121 RX8 yX8_settle wsX8_settle) := goodIn_app (goodIn_of _ (by decide +kernel)) ggX8_quietIn_X8_settle
set_option maxRecDepth 20000 in
theorem ggX8_quietIn_X8_takeBack : GoodIn wsX8_quietIn wsX8_takeBack := goodIn_r _ [67, 7, 6, 68, 69, 70, 71, 72, 73, 74, 75, 76, 77, 78, 79] (by decide +kernel) (by decide +kernel)
set_option maxRecDepth 20000 in
theorem gX8_quietIn_X8_takeBack : GoodIn wsX8_quietIn (wsV RX8 124 RX8 yX8_takeBack wsX8_takeBack) := goodIn_app (goodIn_of _ (by decide +kernel)) ggX8_quietIn_X8_takeBack
theorem dX8_quietIn_0 : decode cX8_quietIn 0 = .ok (.aload_n 0, 1) := by decide +kernel
theorem dX8_quietIn_1 : decode cX8_quietIn 1 = .ok (.invokevirtual 37, 3) := by decide +kernel
theorem dX8_quietIn_4 : decode cX8_quietIn 4 = .ok (.aload_n 0, 1) := by decide +kernel
theorem dX8_quietIn_5 : decode cX8_quietIn 5 = .ok (.invokevirtual 121, 3) := by decide +kernel
theorem dX8_quietIn_8 : decode cX8_quietIn 8 = .ok (.istore_n 1, 1) := by decide +kernel
theorem dX8_quietIn_9 : decode cX8_quietIn 9 = .ok (.aload_n 0, 1) := by decide +kernel
theorem dX8_quietIn_10 : decode cX8_quietIn 10 = .ok (.invokevirtual 124, 3) := by decide +kernel
theorem dX8_quietIn_13 : decode cX8_quietIn 13 = .ok (.iload_n 1, 1) := by decide +kernel
theorem dX8_quietIn_14 : decode cX8_quietIn 14 = .ok (.ireturn, 1) := by decide +kernel
set_option maxRecDepth 20000 in
theorem ggX8_withLead_X8_putAside : GoodIn wsX8_withLead wsX8_putAside := goodIn_r _ [7, 2, 1, 68, 69, 70, 71, 72, 73, 74, 75, 76, 77, 78, 79] (by decide +kernel) (by decide +kernel)
set_option maxRecDepth 20000 in
theorem gX8_withLead_X8_putAside : GoodIn wsX8_withLead (wsV RX8 37 RX8 yX8_putAside wsX8_putAside) := goodIn_app (goodIn_of _ (by decide +kernel)) ggX8_withLead_X8_putAside
set_option maxRecDepth 20000 in
theorem ggX8_withLead_X8_settle : GoodIn wsX8_withLead wsX8_settle := goodIn_r _ [11, 1, 12, 13, 14, 6, 15, 16, 17, 18, 19, 20, 21, 22, 23, 24, 25, 26, 27, 28, 29, 30, 31, 32, 33, 34, 35, 36, 37, 38, 39, 40, 41, 42, 43, 44, 45, 46, 47, 48, 49, 50, 51, 52, 53, 54, 55, 56, 57, 58, 59, 60, 61, 62, 63, 68, 69, 70, 71, 72, 73, 74, 75, 76, 77, 78, 79] (by decide +kernel) (by decide +kernel)
set_option maxRecDepth 20000 in
theorem gX8_withLead_X8_settle : GoodIn wsX8_withLead (wsV RX8 121 RX8 yX8_settle wsX8_settle) := goodIn_app (goodIn_of _ (by decide +kernel)) ggX8_withLead_X8_settle
set_option maxRecDepth 20000 in
theorem ggX8_withLead_X8_takeBack : GoodIn wsX8_withLead wsX8_takeBack := goodIn_r _ [67, 1, 2, 68, 69, 70, 71, 72, 73, 74, 75, 76, 77, 78, 79] (by decide +kernel) (by decide +kernel)
set_option maxRecDepth 20000 in
theorem gX8_withLead_X8_takeBack : GoodIn wsX8_withLead (wsV RX8 124 RX8 yX8_takeBack wsX8_takeBack) := goodIn_app (goodIn_of _ (by decide +kernel)) ggX8_withLead_X8_takeBack
theorem dX8_withLead_0 : decode cX8_withLead 0 = .ok (.aload_n 0, 1) := by decide +kernel
theorem dX8_withLead_1 : decode cX8_withLead 1 = .ok (.invokevirtual 37, 3) := by decide +kernel
theorem dX8_withLead_4 : decode cX8_withLead 4 = .ok (.aload_n 0, 1) := by decide +kernel
theorem dX8_withLead_5 : decode cX8_withLead 5 = .ok (.getfield 7, 3) := by decide +kernel
theorem dX8_withLead_8 : decode cX8_withLead 8 = .ok (.iconst 0, 1) := by decide +kernel
theorem dX8_withLead_9 : decode cX8_withLead 9 = .ok (.iload_n 1, 1) := by decide +kernel
theorem dX8_withLead_10 : decode cX8_withLead 10 = .ok (.iastore, 1) := by decide +kernel
theorem dX8_withLead_11 : decode cX8_withLead 11 = .ok (.aload_n 0, 1) := by decide +kernel
theorem dX8_withLead_12 : decode cX8_withLead 12 = .ok (.invokevirtual 121, 3) := by decide +kernel
theorem dX8_withLead_15 : decode cX8_withLead 15 = .ok (.istore_n 3, 1) := by decide +kernel
theorem dX8_withLead_16 : decode cX8_withLead 16 = .ok (.aload_n 0, 1) := by decide +kernel
theorem dX8_withLead_17 : decode cX8_withLead 17 = .ok (.getfield 7, 3) := by decide +kernel
theorem dX8_withLead_20 : decode cX8_withLead 20 = .ok (.iconst 5, 1) := by decide +kernel
theorem dX8_withLead_21 : decode cX8_withLead 21 = .ok (.iaload, 1) := by decide +kernel
theorem dX8_withLead_22 : decode cX8_withLead 22 = .ok (.aload_n 0, 1) := by decide +kernel
theorem dX8_withLead_23 : decode cX8_withLead 23 = .ok (.getfield 13, 3) := by decide +kernel
theorem dX8_withLead_26 : decode cX8_withLead 26 = .ok (.iconst 5, 1) := by decide +kernel
theorem dX8_withLead_27 : decode cX8_withLead 27 = .ok (.iaload, 1) := by decide +kernel
theorem dX8_withLead_28 : decode cX8_withLead 28 = .ok (.isub, 1) := by decide +kernel
theorem dX8_withLead_29 : decode cX8_withLead 29 = .ok (.istore 4, 2) := by decide +kernel
theorem dX8_withLead_31 : decode cX8_withLead 31 = .ok (.iload 4, 2) := by decide +kernel
theorem dX8_withLead_33 : decode cX8_withLead 33 = .ok (.aload_n 0, 1) := by decide +kernel
theorem dX8_withLead_34 : decode cX8_withLead 34 = .ok (.getfield 7, 3) := by decide +kernel
theorem dX8_withLead_37 : decode cX8_withLead 37 = .ok (.bipush 6, 2) := by decide +kernel
theorem dX8_withLead_39 : decode cX8_withLead 39 = .ok (.iaload, 1) := by decide +kernel
theorem dX8_withLead_40 : decode cX8_withLead 40 = .ok (.isub, 1) := by decide +kernel
theorem dX8_withLead_41 : decode cX8_withLead 41 = .ok (.aload_n 0, 1) := by decide +kernel
theorem dX8_withLead_42 : decode cX8_withLead 42 = .ok (.getfield 13, 3) := by decide +kernel
theorem dX8_withLead_45 : decode cX8_withLead 45 = .ok (.bipush 6, 2) := by decide +kernel
theorem dX8_withLead_47 : decode cX8_withLead 47 = .ok (.iaload, 1) := by decide +kernel
theorem dX8_withLead_48 : decode cX8_withLead 48 = .ok (.iadd, 1) := by decide +kernel
theorem dX8_withLead_49 : decode cX8_withLead 49 = .ok (.istore 5, 2) := by decide +kernel
theorem dX8_withLead_51 : decode cX8_withLead 51 = .ok (.aload_n 0, 1) := by decide +kernel
theorem dX8_withLead_52 : decode cX8_withLead 52 = .ok (.invokevirtual 124, 3) := by decide +kernel
theorem dX8_withLead_55 : decode cX8_withLead 55 = .ok (.iload_n 2, 1) := by decide +kernel
theorem dX8_withLead_56 : decode cX8_withLead 56 = .ok (.ifCond .ne 7, 3) := by decide +kernel
theorem dX8_withLead_59 : decode cX8_withLead 59 = .ok (.iload_n 3, 1) := by decide +kernel
theorem dX8_withLead_60 : decode cX8_withLead 60 = .ok (.goto 15, 3) := by decide +kernel
theorem dX8_withLead_63 : decode cX8_withLead 63 = .ok (.iload_n 2, 1) := by decide +kernel
theorem dX8_withLead_64 : decode cX8_withLead 64 = .ok (.iconst 1, 1) := by decide +kernel
theorem dX8_withLead_65 : decode cX8_withLead 65 = .ok (.if_icmp .ne 8, 3) := by decide +kernel
theorem dX8_withLead_68 : decode cX8_withLead 68 = .ok (.iload 4, 2) := by decide +kernel
theorem dX8_withLead_70 : decode cX8_withLead 70 = .ok (.goto 5, 3) := by decide +kernel
theorem dX8_withLead_73 : decode cX8_withLead 73 = .ok (.iload 5, 2) := by decide +kernel
theorem dX8_withLead_75 : decode cX8_withLead 75 = .ok (.ireturn, 1) := by decide +kernel
set_option maxRecDepth 20000 in
theorem ggX8_ifLead_X8_within : GoodIn wsX8_ifLead wsX8_within := goodIn_r _ [4] (by decide +kernel) (by decide +kernel)
set_option maxRecDepth 20000 in
theorem gX8_ifLead_X8_within : GoodIn wsX8_ifLead (va_wsS RX8 29 yX8_within wsX8_within) := goodIn_app (goodIn_of _ (by decide +kernel)) ggX8_ifLead_X8_within
set_option maxRecDepth 20000 in
theorem ggX8_ifLead_X8_withLead : GoodIn wsX8_ifLead wsX8_withLead := goodIn_r _ [8, 9, 10, 11, 12, 13, 3, 14, 15, 16, 17, 18, 19, 20, 21, 22, 23, 24, 25, 26, 27, 28, 29, 30, 31, 32, 33, 34, 35, 36, 37, 38, 39, 40, 41, 42, 43, 44, 45, 46, 47, 48, 49, 50, 51, 52, 53, 54, 55, 56, 57, 58, 59, 60, 61, 62, 63, 64, 65, 66, 67, 68, 69, 70, 71, 72, 73, 74, 75, 76, 77, 78, 79, 80, 81, 82, 83, 84, 85, 86] (by decide +kernel) (by decide +kernel)
set_option maxRecDepth 20000 in
theorem gX8_ifLead_X8_withLead : GoodIn wsX8_ifLead (wsV RX8 171 RX8 yX8_withLead wsX8_withLead) := goodIn_app (goodIn_of _ (by decide +kernel)) ggX8_ifLead_X8_withLead
theorem dX8_ifLead_0 : decode cX8_ifLead 0 = .ok (.iload_n 1, 1) := by decide +kernel
theorem dX8_ifLead_1 : decode cX8_ifLead 1 = .ok (.iconst 0, 1) := by decide +kernel
theorem dX8_ifLead_2 : decode cX8_ifLead 2 = .ok (.bipush 20, 2) := by decide +kernel
theorem dX8_ifLead_4 : decode cX8_ifLead 4 = .ok (.invokestatic 29, 3) := by decide +kernel
theorem dX8_ifLead_7 : decode cX8_ifLead 7 = .ok (.ifCond .eq 21, 3) := by decide +kernel
theorem dX8_ifLead_10 : decode cX8_ifLead 10 = .ok (.iload_n 2, 1) := by decide +kernel
theorem dX8_ifLead_11 : decode cX8_ifLead 11 = .ok (.iconst 0, 1) := by decide +kernel
theorem dX8_ifLead_12 : decode cX8_ifLead 12 = .ok (.iconst 2, 1) := by decide +kernel
theorem dX8_ifLead_13 : decode cX8_ifLead 13 = .ok (.invokestatic 29, 3) := by decide +kernel
theorem dX8_ifLead_16 : decode cX8_ifLead 16 = .ok (.ifCond .eq 12, 3) := by decide +kernel
theorem dX8_ifLead_19 : decode cX8_ifLead 19 = .ok (.aload_n 0, 1) := by decide +kernel
theorem dX8_ifLead_20 : decode cX8_ifLead 20 = .ok (.iload_n 1, 1) := by decide +kernel
theorem dX8_ifLead_21 : decode cX8_ifLead 21 = .ok (.iload_n 2, 1) := by decide +kernel
theorem dX8_ifLead_22 : decode cX8_ifLead 22 = .ok (.invokevirtual 171, 3) := by decide +kernel
theorem dX8_ifLead_25 : decode cX8_ifLead 25 = .ok (.goto 5, 3) := by decide +kernel
theorem dX8_ifLead_28 : decode cX8_ifLead 28 = .ok (.bipush (-2), 2) := by decide +kernel
theorem dX8_ifLead_30 : decode cX8_ifLead 30 = .ok (.ireturn, 1) := by decide +kernel
set_option maxRecDepth 20000 in
theorem ggX8_leastLead_X8_withLead : GoodIn wsX8_leastLead wsX8_withLead := goodIn_r _ [5, 6, 7, 8, 9, 10, 4, 11, 12, 13, 14, 15, 16, 17, 18, 19, 20, 21, 22, 23, 24, 25, 26, 27, 28, 29, 30, 31, 32, 33, 34, 35, 36, 37, 38, 39, 40, 41, 42, 43, 44, 45, 46, 47, 48, 49, 50, 51, 52, 53, 54, 55, 56, 57, 58, 59, 60, 61, 62, 63, 64, 65, 66, 67, 68, 69, 70, 71, 72, 73, 74, 75, 76, 77, 78, 79, 80, 81, 82, 83] (by decide +kernel) (by decide +kernel)
set_option maxRecDepth 20000 in
theorem gX8_leastLead_X8_withLead : GoodIn wsX8_leastLead (wsV RX8 171 RX8 yX8_withLead wsX8_withLead) := goodIn_app (goodIn_of _ (by decide +kernel)) ggX8_leastLead_X8_withLead
theorem dX8_leastLead_0 : decode cX8_leastLead 0 = .ok (.iconst 0, 1) := by decide +kernel
theorem dX8_leastLead_1 : decode cX8_leastLead 1 = .ok (.istore_n 1, 1) := by decide +kernel
theorem dX8_leastLead_2 : decode cX8_leastLead 2 = .ok (.iload_n 1, 1) := by decide +kernel
theorem dX8_leastLead_3 : decode cX8_leastLead 3 = .ok (.bipush 20, 2) := by decide +kernel
theorem dX8_leastLead_5 : decode cX8_leastLead 5 = .ok (.if_icmp .gt 20, 3) := by decide +kernel
theorem dX8_leastLead_8 : decode cX8_leastLead 8 = .ok (.aload_n 0, 1) := by decide +kernel
theorem dX8_leastLead_9 : decode cX8_leastLead 9 = .ok (.iload_n 1, 1) := by decide +kernel
theorem dX8_leastLead_10 : decode cX8_leastLead 10 = .ok (.iconst 2, 1) := by decide +kernel
theorem dX8_leastLead_11 : decode cX8_leastLead 11 = .ok (.invokevirtual 171, 3) := by decide +kernel
theorem dX8_leastLead_14 : decode cX8_leastLead 14 = .ok (.ifCond .ne 5, 3) := by decide +kernel
theorem dX8_leastLead_17 : decode cX8_leastLead 17 = .ok (.iload_n 1, 1) := by decide +kernel
theorem dX8_leastLead_18 : decode cX8_leastLead 18 = .ok (.ireturn, 1) := by decide +kernel
theorem dX8_leastLead_19 : decode cX8_leastLead 19 = .ok (.iinc 1 1, 3) := by decide +kernel
theorem dX8_leastLead_22 : decode cX8_leastLead 22 = .ok (.goto (-20), 3) := by decide +kernel
theorem dX8_leastLead_25 : decode cX8_leastLead 25 = .ok (.bipush (-5), 2) := by decide +kernel
theorem dX8_leastLead_27 : decode cX8_leastLead 27 = .ok (.ireturn, 1) := by decide +kernel
set_option maxRecDepth 20000 in
theorem ggX8_dearest_X8_putAside : GoodIn wsX8_dearest wsX8_putAside := goodIn_r _ [6, 7, 1, 68, 69, 70, 71, 72, 73, 74, 75, 76, 77, 78, 79] (by decide +kernel) (by decide +kernel)
set_option maxRecDepth 20000 in
theorem gX8_dearest_X8_putAside : GoodIn wsX8_dearest (wsV RX8 37 RX8 yX8_putAside wsX8_putAside) := goodIn_app (goodIn_of _ (by decide +kernel)) ggX8_dearest_X8_putAside
set_option maxRecDepth 20000 in
theorem ggX8_dearest_X8_settle : GoodIn wsX8_dearest wsX8_settle := goodIn_r _ [11, 1, 12, 13, 14, 5, 15, 16, 17, 18, 19, 20, 21, 22, 23, 24, 25, 26, 27, 28, 29, 30, 31, 32, 33, 34, 35, 36, 37, 38, 39, 40, 41, 42, 43, 44, 45, 46, 47, 48, 49, 50, 51, 52, 53, 54, 55, 56, 57, 58, 59, 60, 61, 62, 63, 68, 69, 70, 71, 72, 73, 74, 75, 76, 77, 78, 79] (by decide +kernel) (by decide +kernel)
set_option maxRecDepth 20000 in
theorem gX8_dearest_X8_settle : GoodIn wsX8_dearest (wsV RX8 121 RX8 yX8_settle wsX8_settle) := goodIn_app (goodIn_of _ (by decide +kernel)) ggX8_dearest_X8_settle
set_option maxRecDepth 20000 in
theorem ggX8_dearest_X8_takeBack : GoodIn wsX8_dearest wsX8_takeBack := goodIn_r _ [67, 1, 7, 68, 69, 70, 71, 72, 73, 74, 75, 76, 77, 78, 79] (by decide +kernel) (by decide +kernel)
set_option maxRecDepth 20000 in
theorem gX8_dearest_X8_takeBack : GoodIn wsX8_dearest (wsV RX8 124 RX8 yX8_takeBack wsX8_takeBack) := goodIn_app (goodIn_of _ (by decide +kernel)) ggX8_dearest_X8_takeBack
theorem dX8_dearest_0 : decode cX8_dearest 0 = .ok (.bipush (-5), 2) := by decide +kernel
theorem dX8_dearest_2 : decode cX8_dearest 2 = .ok (.istore_n 1, 1) := by decide +kernel
theorem dX8_dearest_3 : decode cX8_dearest 3 = .ok (.iconst 0, 1) := by decide +kernel
theorem dX8_dearest_4 : decode cX8_dearest 4 = .ok (.istore_n 2, 1) := by decide +kernel
theorem dX8_dearest_5 : decode cX8_dearest 5 = .ok (.iconst 0, 1) := by decide +kernel
theorem dX8_dearest_6 : decode cX8_dearest 6 = .ok (.istore_n 3, 1) := by decide +kernel
theorem dX8_dearest_7 : decode cX8_dearest 7 = .ok (.iload_n 3, 1) := by decide +kernel
theorem dX8_dearest_8 : decode cX8_dearest 8 = .ok (.iconst 3, 1) := by decide +kernel
theorem dX8_dearest_9 : decode cX8_dearest 9 = .ok (.aload_n 0, 1) := by decide +kernel
theorem dX8_dearest_10 : decode cX8_dearest 10 = .ok (.getfield 7, 3) := by decide +kernel
theorem dX8_dearest_13 : decode cX8_dearest 13 = .ok (.iconst 3, 1) := by decide +kernel
theorem dX8_dearest_14 : decode cX8_dearest 14 = .ok (.iaload, 1) := by decide +kernel
theorem dX8_dearest_15 : decode cX8_dearest 15 = .ok (.imul, 1) := by decide +kernel
theorem dX8_dearest_16 : decode cX8_dearest 16 = .ok (.iconst 3, 1) := by decide +kernel
theorem dX8_dearest_17 : decode cX8_dearest 17 = .ok (.iadd, 1) := by decide +kernel
theorem dX8_dearest_18 : decode cX8_dearest 18 = .ok (.if_icmp .ge 100, 3) := by decide +kernel
theorem dX8_dearest_21 : decode cX8_dearest 21 = .ok (.aload_n 0, 1) := by decide +kernel
theorem dX8_dearest_22 : decode cX8_dearest 22 = .ok (.getfield 7, 3) := by decide +kernel
theorem dX8_dearest_25 : decode cX8_dearest 25 = .ok (.bipush 13, 2) := by decide +kernel
theorem dX8_dearest_27 : decode cX8_dearest 27 = .ok (.iload_n 3, 1) := by decide +kernel
theorem dX8_dearest_28 : decode cX8_dearest 28 = .ok (.iadd, 1) := by decide +kernel
theorem dX8_dearest_29 : decode cX8_dearest 29 = .ok (.iaload, 1) := by decide +kernel
theorem dX8_dearest_30 : decode cX8_dearest 30 = .ok (.iconst 1, 1) := by decide +kernel
theorem dX8_dearest_31 : decode cX8_dearest 31 = .ok (.if_icmp .le 81, 3) := by decide +kernel
theorem dX8_dearest_34 : decode cX8_dearest 34 = .ok (.aload_n 0, 1) := by decide +kernel
theorem dX8_dearest_35 : decode cX8_dearest 35 = .ok (.invokevirtual 37, 3) := by decide +kernel
theorem dX8_dearest_38 : decode cX8_dearest 38 = .ok (.aload_n 0, 1) := by decide +kernel
theorem dX8_dearest_39 : decode cX8_dearest 39 = .ok (.getfield 7, 3) := by decide +kernel
theorem dX8_dearest_42 : decode cX8_dearest 42 = .ok (.bipush 13, 2) := by decide +kernel
theorem dX8_dearest_44 : decode cX8_dearest 44 = .ok (.iload_n 3, 1) := by decide +kernel
theorem dX8_dearest_45 : decode cX8_dearest 45 = .ok (.iadd, 1) := by decide +kernel
theorem dX8_dearest_46 : decode cX8_dearest 46 = .ok (.dup2, 1) := by decide +kernel
theorem dX8_dearest_47 : decode cX8_dearest 47 = .ok (.iaload, 1) := by decide +kernel
theorem dX8_dearest_48 : decode cX8_dearest 48 = .ok (.iconst 1, 1) := by decide +kernel
theorem dX8_dearest_49 : decode cX8_dearest 49 = .ok (.isub, 1) := by decide +kernel
theorem dX8_dearest_50 : decode cX8_dearest 50 = .ok (.iastore, 1) := by decide +kernel
theorem dX8_dearest_51 : decode cX8_dearest 51 = .ok (.aload_n 0, 1) := by decide +kernel
theorem dX8_dearest_52 : decode cX8_dearest 52 = .ok (.invokevirtual 121, 3) := by decide +kernel
theorem dX8_dearest_55 : decode cX8_dearest 55 = .ok (.istore 4, 2) := by decide +kernel
theorem dX8_dearest_57 : decode cX8_dearest 57 = .ok (.aload_n 0, 1) := by decide +kernel
theorem dX8_dearest_58 : decode cX8_dearest 58 = .ok (.invokevirtual 124, 3) := by decide +kernel
theorem dX8_dearest_61 : decode cX8_dearest 61 = .ok (.iload_n 1, 1) := by decide +kernel
theorem dX8_dearest_62 : decode cX8_dearest 62 = .ok (.bipush (-5), 2) := by decide +kernel
theorem dX8_dearest_64 : decode cX8_dearest 64 = .ok (.if_icmp .eq 9, 3) := by decide +kernel
theorem dX8_dearest_67 : decode cX8_dearest 67 = .ok (.iload 4, 2) := by decide +kernel
theorem dX8_dearest_69 : decode cX8_dearest 69 = .ok (.iload_n 2, 1) := by decide +kernel
theorem dX8_dearest_70 : decode cX8_dearest 70 = .ok (.if_icmp .ge 7, 3) := by decide +kernel
theorem dX8_dearest_73 : decode cX8_dearest 73 = .ok (.iconst 1, 1) := by decide +kernel
theorem dX8_dearest_74 : decode cX8_dearest 74 = .ok (.goto 4, 3) := by decide +kernel
theorem dX8_dearest_77 : decode cX8_dearest 77 = .ok (.iconst 0, 1) := by decide +kernel
theorem dX8_dearest_78 : decode cX8_dearest 78 = .ok (.istore 5, 2) := by decide +kernel
theorem dX8_dearest_80 : decode cX8_dearest 80 = .ok (.iload 5, 2) := by decide +kernel
theorem dX8_dearest_82 : decode cX8_dearest 82 = .ok (.ifCond .eq 16, 3) := by decide +kernel
theorem dX8_dearest_85 : decode cX8_dearest 85 = .ok (.bipush 10, 2) := by decide +kernel
theorem dX8_dearest_87 : decode cX8_dearest 87 = .ok (.iload_n 3, 1) := by decide +kernel
theorem dX8_dearest_88 : decode cX8_dearest 88 = .ok (.iconst 3, 1) := by decide +kernel
theorem dX8_dearest_89 : decode cX8_dearest 89 = .ok (.idiv, 1) := by decide +kernel
theorem dX8_dearest_90 : decode cX8_dearest 90 = .ok (.imul, 1) := by decide +kernel
theorem dX8_dearest_91 : decode cX8_dearest 91 = .ok (.iload_n 3, 1) := by decide +kernel
theorem dX8_dearest_92 : decode cX8_dearest 92 = .ok (.iconst 3, 1) := by decide +kernel
theorem dX8_dearest_93 : decode cX8_dearest 93 = .ok (.irem, 1) := by decide +kernel
theorem dX8_dearest_94 : decode cX8_dearest 94 = .ok (.iadd, 1) := by decide +kernel
theorem dX8_dearest_95 : decode cX8_dearest 95 = .ok (.goto 4, 3) := by decide +kernel
theorem dX8_dearest_98 : decode cX8_dearest 98 = .ok (.iload_n 1, 1) := by decide +kernel
theorem dX8_dearest_99 : decode cX8_dearest 99 = .ok (.istore_n 1, 1) := by decide +kernel
theorem dX8_dearest_100 : decode cX8_dearest 100 = .ok (.iload 5, 2) := by decide +kernel
theorem dX8_dearest_102 : decode cX8_dearest 102 = .ok (.ifCond .eq 8, 3) := by decide +kernel
theorem dX8_dearest_105 : decode cX8_dearest 105 = .ok (.iload 4, 2) := by decide +kernel
theorem dX8_dearest_107 : decode cX8_dearest 107 = .ok (.goto 4, 3) := by decide +kernel
theorem dX8_dearest_110 : decode cX8_dearest 110 = .ok (.iload_n 2, 1) := by decide +kernel
theorem dX8_dearest_111 : decode cX8_dearest 111 = .ok (.istore_n 2, 1) := by decide +kernel
theorem dX8_dearest_112 : decode cX8_dearest 112 = .ok (.iinc 3 1, 3) := by decide +kernel
theorem dX8_dearest_115 : decode cX8_dearest 115 = .ok (.goto (-108), 3) := by decide +kernel
theorem dX8_dearest_118 : decode cX8_dearest 118 = .ok (.iload_n 1, 1) := by decide +kernel
theorem dX8_dearest_119 : decode cX8_dearest 119 = .ok (.ireturn, 1) := by decide +kernel
set_option maxRecDepth 20000 in
theorem ggL_law_X7_init : GoodIn wsL_law wsX7_init := goodIn_r _ [8, 9, 10, 11, 12, 13, 14, 15, 16, 17, 18, 19, 20, 21, 22, 23, 24, 25, 26, 27, 28, 29, 30, 31, 32, 33, 34, 35, 36, 37, 38, 39, 40, 41, 42, 43, 44, 45, 46, 47, 48, 49, 50, 51, 52, 53, 54, 55, 56, 57, 58, 59, 60, 61, 62, 63, 64, 65, 66, 67, 68, 69, 70, 71, 72, 73, 74, 75, 76, 77, 78, 79, 80, 81, 82, 83, 84, 85, 86, 87, 88, 89, 90, 91, 92, 93, 94, 95, 96, 97, 98, 99, 100, 101, 102, 103, 104, 105, 106, 107, 108, 109, 110, 111, 112, 113, 114, 738, 739, 740, 741, 742, 743, 744, 745, 746, 747, 748, 749, 720, 721, 722, 723, 724, 725, 750, 751, 752, 753, 754, 755, 756, 757, 758, 759, 760, 761, 762, 763, 764, 765, 766, 767, 768, 769, 770, 771, 772, 773, 774, 775, 776, 777, 778, 779] (by decide +kernel) (by decide +kernel)
set_option maxRecDepth 20000 in
theorem gL_law_X7_init : GoodIn wsL_law (wsX7_init) := ggL_law_X7_init
set_option maxRecDepth 20000 in
theorem ggL_law_X8_init : GoodIn wsL_law wsX8_init := goodIn_r _ [117, 118, 10, 11, 31, 119, 120, 121, 122, 123, 124, 125, 126, 5, 127, 726, 727, 728, 729, 730, 731, 732, 733, 734, 735, 736, 737] (by decide +kernel) (by decide +kernel)
set_option maxRecDepth 20000 in
theorem gL_law_X8_init : GoodIn wsL_law (wsX8_init) := ggL_law_X8_init
set_option maxRecDepth 20000 in
theorem ggL_law_X7_build : GoodIn wsL_law wsX7_build := goodIn_r _ [131, 16, 15, 132, 133, 134, 14, 135, 74, 75, 76, 77, 78, 32, 136, 137, 138, 139, 34, 35, 37, 41, 45, 46, 140, 141, 142, 48, 143, 65, 144, 85, 86, 87, 88, 89, 90, 91, 92, 93, 145, 146, 147, 50, 148, 149, 69, 150, 151, 152, 153, 40, 154, 155, 156, 54, 157, 55, 158, 159, 160, 44, 161, 59, 162, 60, 61, 98, 99, 163, 71, 72, 73, 79, 80, 81, 82, 83, 84, 94, 95, 96, 97, 164, 165, 166, 167, 168, 169, 170, 171, 172, 173, 174, 2, 175, 22, 176, 177, 178, 21, 179, 180, 105, 181, 182, 183, 184, 185, 720, 721, 722, 723, 724, 725, 738, 739, 740, 741, 742, 743, 744, 745, 746, 747, 748, 749, 768, 769, 770, 771, 772, 773, 774, 775, 776, 777, 778, 779, 759, 760, 761, 762, 763, 764, 765, 766, 767, 750, 751] (by decide +kernel) (by decide +kernel)
set_option maxRecDepth 20000 in
theorem gL_law_X7_build : GoodIn wsL_law (wsV RL 13 RX7 yX7_build wsX7_build) := goodIn_app (goodIn_of _ (by decide +kernel)) ggL_law_X7_build
set_option maxRecDepth 20000 in
theorem ggL_law_X8_build : GoodIn wsL_law wsX8_build := goodIn_r _ [189, 119, 190, 191, 5, 192, 193, 194, 195, 196, 197, 198, 199, 200, 120, 201, 202, 203, 204, 205, 121, 206, 207, 208, 209, 124, 125, 126, 127, 726, 727, 728, 729, 730, 731, 732, 733, 734, 735, 736, 737] (by decide +kernel) (by decide +kernel)
set_option maxRecDepth 20000 in
theorem gL_law_X8_build : GoodIn wsL_law (wsV RL 17 RX8 yX8_build wsX8_build) := goodIn_app (goodIn_of _ (by decide +kernel)) ggL_law_X8_build
set_option maxRecDepth 20000 in
theorem ggL_law_X7_add : GoodIn wsL_law wsX7_add := goodIn_r _ [213, 16, 15, 132, 133, 134, 14, 135, 74, 75, 76, 77, 78, 32, 136, 137, 138, 139, 34, 35, 37, 41, 45, 46, 140, 141, 142, 48, 143, 65, 144, 85, 86, 87, 88, 89, 90, 91, 92, 93, 145, 146, 147, 50, 148, 149, 69, 150, 151, 152, 153, 40, 154, 155, 156, 54, 157, 55, 158, 159, 160, 44, 161, 59, 162, 60, 61, 98, 99, 214, 215, 216, 217, 79, 218, 219, 220, 221, 222, 223, 224, 225, 226, 227, 228, 229, 230, 231, 232, 233, 234, 235, 236, 237, 238, 239, 240, 241, 242, 243, 244, 245, 246, 247, 248, 249, 250, 172, 173, 174, 2, 175, 22, 176, 177, 178, 21, 179, 180, 105, 181, 182, 183, 184, 185, 720, 721, 722, 723, 724, 725, 738, 739, 740, 741, 742, 743, 744, 745, 746, 747, 748, 749, 768, 769, 770, 771, 772, 773, 774, 775, 776, 777, 778, 779, 759, 760, 761, 762, 763, 764, 765, 766, 767, 750, 751] (by decide +kernel) (by decide +kernel)
set_option maxRecDepth 20000 in
theorem gL_law_X7_add : GoodIn wsL_law (wsV RL 18 RX7 yX7_add wsX7_add) := goodIn_app (goodIn_of _ (by decide +kernel)) ggL_law_X7_add
set_option maxRecDepth 20000 in
theorem ggL_law_X8_add : GoodIn wsL_law wsX8_add := goodIn_r _ [254, 197, 198, 199, 5, 200, 120, 119, 255, 256, 257, 258, 259, 260, 261, 190, 191, 192, 262, 263, 264, 265, 266, 267, 268, 269, 270, 271, 272, 273, 274, 275, 276, 277, 278, 279, 280, 281, 201, 202, 203, 204, 205, 121, 726, 727, 728, 729, 730, 731, 732, 733, 734, 735, 736, 737] (by decide +kernel) (by decide +kernel)
set_option maxRecDepth 20000 in
theorem gL_law_X8_add : GoodIn wsL_law (wsV RL 22 RX8 yX8_add wsX8_add) := goodIn_app (goodIn_of _ (by decide +kernel)) ggL_law_X8_add
set_option maxRecDepth 20000 in
theorem ggL_law_X7_run : GoodIn wsL_law wsX7_run := goodIn_r _ [285, 16, 15, 132, 133, 134, 14, 135, 74, 75, 76, 77, 78, 32, 136, 137, 138, 139, 34, 35, 37, 41, 45, 46, 140, 141, 142, 48, 143, 65, 144, 85, 86, 87, 88, 89, 90, 91, 92, 93, 145, 146, 147, 50, 148, 149, 69, 150, 151, 152, 153, 40, 154, 155, 156, 54, 157, 55, 158, 159, 160, 44, 161, 59, 162, 60, 61, 98, 99, 286, 287, 288, 289, 290, 291, 292, 293, 294, 295, 296, 297, 298, 299, 300, 80, 301, 302, 303, 304, 305, 306, 307, 308, 309, 310, 311, 312, 313, 314, 315, 316, 317, 318, 319, 320, 321, 322, 323, 324, 325, 326, 327, 328, 329, 330, 218, 331, 332, 333, 334, 335, 240, 242, 243, 244, 245, 336, 337, 338, 339, 340, 341, 342, 343, 344, 345, 346, 347, 235, 236, 237, 238, 239, 241, 246, 247, 248, 249, 250, 348, 349, 350, 351, 352, 223, 224, 225, 226, 227, 228, 229, 230, 79, 231, 232, 233, 234, 172, 173, 174, 2, 175, 22, 176, 177, 178, 21, 179, 180, 105, 181, 182, 183, 184, 185, 720, 721, 722, 723, 724, 725, 738, 739, 740, 741, 742, 743, 744, 745, 746, 747, 748, 749, 768, 769, 770, 771, 772, 773, 774, 775, 776, 777, 778, 779, 759, 760, 761, 762, 763, 764, 765, 766, 767, 750, 751] (by decide +kernel) (by decide +kernel)
set_option maxRecDepth 20000 in
theorem gL_law_X7_run : GoodIn wsL_law (wsV RL 23 RX7 yX7_run wsX7_run) := goodIn_app (goodIn_of _ (by decide +kernel)) ggL_law_X7_run
set_option maxRecDepth 20000 in
theorem ggL_law_X8_run : GoodIn wsL_law wsX8_run := goodIn_r _ [356, 197, 198, 199, 5, 200, 120, 119, 357, 358, 359, 360, 361, 190, 191, 192, 362, 363, 364, 365, 366, 367, 368, 369, 370, 371, 372, 373, 374, 375, 376, 377, 378, 379, 380, 381, 270, 271, 272, 273, 382, 383, 384, 385, 274, 275, 276, 277, 386, 387, 388, 389, 390, 391, 392, 393, 394, 395, 396, 397, 266, 267, 268, 269, 398, 399, 400, 401, 262, 263, 264, 265, 278, 279, 280, 281, 201, 202, 203, 204, 205, 121, 726, 727, 728, 729, 730, 731, 732, 733, 734, 735, 736, 737] (by decide +kernel) (by decide +kernel)
set_option maxRecDepth 20000 in
theorem gL_law_X8_run : GoodIn wsL_law (wsV RL 26 RX8 yX8_run wsX8_run) := goodIn_app (goodIn_of _ (by decide +kernel)) ggL_law_X8_run
set_option maxRecDepth 20000 in
theorem ggL_law_X7_finish : GoodIn wsL_law wsX7_finish := goodIn_r _ [405, 15, 16, 406, 407, 408, 409, 298, 299, 14, 300, 41, 80, 132, 133, 134, 135, 74, 75, 76, 77, 78, 32, 136, 137, 138, 139, 34, 35, 37, 45, 46, 140, 141, 142, 48, 143, 65, 144, 85, 86, 87, 88, 89, 90, 91, 92, 93, 145, 146, 147, 50, 148, 149, 69, 150, 151, 152, 153, 40, 154, 155, 156, 54, 157, 55, 158, 159, 160, 44, 161, 59, 162, 60, 61, 98, 99, 410, 293, 294, 295, 290, 296, 297, 301, 302, 303, 304, 305, 306, 307, 308, 309, 310, 311, 312, 313, 314, 315, 316, 317, 318, 319, 320, 321, 322, 323, 324, 325, 326, 327, 328, 329, 330, 218, 331, 332, 333, 334, 335, 240, 242, 243, 244, 245, 336, 337, 338, 339, 291, 340, 341, 342, 343, 344, 345, 346, 347, 235, 236, 237, 238, 239, 241, 246, 247, 248, 249, 250, 348, 349, 350, 351, 352, 223, 224, 225, 226, 227, 228, 229, 230, 79, 231, 232, 233, 234, 172, 173, 174, 2, 175, 22, 176, 177, 178, 21, 179, 180, 105, 181, 182, 183, 184, 185, 720, 721, 722, 723, 724, 725, 738, 739, 740, 741, 742, 743, 744, 745, 746, 747, 748, 749, 759, 760, 761, 762, 768, 769, 770, 771, 772, 773, 774, 775, 776, 777, 778, 779, 763, 764, 765, 766, 767, 750, 751] (by decide +kernel) (by decide +kernel)
set_option maxRecDepth 20000 in
theorem gL_law_X7_finish : GoodIn wsL_law (wsV RL 27 RX7 yX7_finish wsX7_finish) := goodIn_app (goodIn_of _ (by decide +kernel)) ggL_law_X7_finish
set_option maxRecDepth 20000 in
theorem ggL_law_X8_finish : GoodIn wsL_law wsX8_finish := goodIn_r _ [414, 119, 361, 197, 198, 199, 5, 200, 120, 415, 416, 417, 418, 366, 367, 368, 369, 370, 371, 372, 373, 374, 375, 376, 377, 378, 379, 380, 381, 270, 271, 272, 273, 382, 383, 384, 385, 274, 275, 276, 277, 386, 387, 388, 389, 390, 391, 392, 393, 394, 395, 396, 397, 266, 267, 268, 269, 398, 399, 400, 401, 262, 263, 264, 265, 419, 420, 421, 422, 201, 202, 203, 204, 205, 121, 726, 727, 728, 729, 730, 731, 732, 733, 734, 735, 736, 737] (by decide +kernel) (by decide +kernel)
set_option maxRecDepth 20000 in
theorem gL_law_X8_finish : GoodIn wsL_law (wsV RL 31 RX8 yX8_finish wsX8_finish) := goodIn_app (goodIn_of _ (by decide +kernel)) ggL_law_X8_finish
set_option maxRecDepth 20000 in
theorem ggL_law_X7_setDelay : GoodIn wsL_law wsX7_setDelay := goodIn_r _ [426, 16, 15, 132, 133, 134, 14, 135, 74, 75, 76, 77, 78, 32, 136, 137, 138, 139, 34, 35, 37, 41, 45, 46, 140, 141, 142, 48, 143, 65, 144, 85, 86, 87, 88, 89, 90, 91, 92, 93, 145, 146, 147, 50, 148, 149, 69, 150, 151, 152, 153, 40, 154, 155, 156, 54, 157, 55, 158, 159, 160, 44, 161, 59, 162, 60, 61, 98, 99, 427, 428, 429, 430, 240, 321, 322, 323, 324, 172, 173, 174, 2, 175, 22, 176, 177, 178, 21, 179, 180, 105, 181, 182, 183, 184, 185, 720, 721, 722, 723, 724, 725, 738, 739, 740, 741, 742, 743, 744, 745, 746, 747, 748, 749, 768, 769, 770, 771, 772, 773, 774, 775, 776, 777, 778, 779, 759, 760, 761, 762, 763, 764, 765, 766, 767, 750, 751] (by decide +kernel) (by decide +kernel)
set_option maxRecDepth 20000 in
theorem gL_law_X7_setDelay : GoodIn wsL_law (wsV RL 32 RX7 yX7_setDelay wsX7_setDelay) := goodIn_app (goodIn_of _ (by decide +kernel)) ggL_law_X7_setDelay
set_option maxRecDepth 20000 in
theorem ggL_law_X8_setDelay : GoodIn wsL_law wsX8_setDelay := goodIn_r _ [434, 197, 198, 199, 5, 200, 120, 119, 435, 436, 437, 438, 439, 440, 441, 442, 190, 191, 192, 443, 444, 445, 278, 279, 280, 281, 201, 202, 203, 204, 205, 121, 726, 727, 728, 729, 730, 731, 732, 733, 734, 735, 736, 737] (by decide +kernel) (by decide +kernel)
set_option maxRecDepth 20000 in
theorem gL_law_X8_setDelay : GoodIn wsL_law (wsV RL 36 RX8 yX8_setDelay wsX8_setDelay) := goodIn_app (goodIn_of _ (by decide +kernel)) ggL_law_X8_setDelay
set_option maxRecDepth 20000 in
theorem ggL_law_X7_set : GoodIn wsL_law wsX7_set := goodIn_r _ [449, 15, 450, 16, 132, 133, 134, 14, 135, 74, 75, 76, 77, 78, 32, 136, 137, 138, 139, 34, 35, 37, 41, 45, 46, 140, 141, 142, 48, 143, 65, 144, 85, 86, 87, 88, 89, 90, 91, 92, 93, 145, 146, 147, 50, 148, 149, 69, 150, 151, 152, 153, 40, 154, 155, 156, 54, 157, 55, 158, 159, 160, 44, 161, 59, 162, 60, 61, 98, 99, 172, 173, 174, 2, 175, 22, 176, 177, 178, 21, 179, 180, 105, 181, 182, 183, 184, 185, 720, 721, 722, 723, 724, 725, 738, 739, 740, 741, 742, 743, 744, 745, 746, 747, 748, 749, 768, 769, 770, 771, 772, 773, 774, 775, 776, 777, 778, 779, 759, 760, 761, 762, 763, 764, 765, 766, 767, 750, 751] (by decide +kernel) (by decide +kernel)
set_option maxRecDepth 20000 in
theorem gL_law_X7_set : GoodIn wsL_law (wsV RL 37 RX7 yX7_set wsX7_set) := goodIn_app (goodIn_of _ (by decide +kernel)) ggL_law_X7_set
set_option maxRecDepth 20000 in
theorem ggL_law_X8_set : GoodIn wsL_law wsX8_set := goodIn_r _ [454, 119, 190, 191, 5, 192, 193, 194, 195, 196, 197, 198, 199, 200, 120, 201, 202, 203, 204, 205, 121, 726, 727, 728, 729, 730, 731, 732, 733, 734, 735, 736, 737] (by decide +kernel) (by decide +kernel)
set_option maxRecDepth 20000 in
theorem gL_law_X8_set : GoodIn wsL_law (wsV RL 40 RX8 yX8_set wsX8_set) := goodIn_app (goodIn_of _ (by decide +kernel)) ggL_law_X8_set
set_option maxRecDepth 20000 in
theorem ggL_law_X7_type : GoodIn wsL_law wsX7_type := goodIn_r _ [458, 26, 459, 460, 461, 25, 462, 463, 111, 720, 721, 722, 723, 724, 725, 752, 753, 754, 755, 756, 757, 758] (by decide +kernel) (by decide +kernel)
set_option maxRecDepth 20000 in
theorem gL_law_X7_type : GoodIn wsL_law (wsV RL 41 RX7 yX7_type wsX7_type) := goodIn_app (goodIn_of _ (by decide +kernel)) ggL_law_X7_type
set_option maxRecDepth 20000 in
theorem ggL_law_X8_type : GoodIn wsL_law wsX8_type := goodIn_r _ [467, 468, 123, 726, 727, 728, 729, 730, 731, 732, 733, 734, 735, 736, 737] (by decide +kernel) (by decide +kernel)
set_option maxRecDepth 20000 in
theorem gL_law_X8_type : GoodIn wsL_law (wsV RL 45 RX8 yX8_type wsX8_type) := goodIn_app (goodIn_of _ (by decide +kernel)) ggL_law_X8_type
set_option maxRecDepth 20000 in
theorem ggL_law_X7_clearText : GoodIn wsL_law wsX7_clearText := goodIn_r _ [472, 26, 473, 720, 721, 722, 723, 724, 725, 752, 753, 754, 755, 756, 757, 758] (by decide +kernel) (by decide +kernel)
set_option maxRecDepth 20000 in
theorem gL_law_X7_clearText : GoodIn wsL_law (wsV RL 46 RX7 yX7_clearText wsX7_clearText) := goodIn_app (goodIn_of _ (by decide +kernel)) ggL_law_X7_clearText
set_option maxRecDepth 20000 in
theorem ggL_law_X8_clearText : GoodIn wsL_law wsX8_clearText := goodIn_r _ [477, 468, 726, 727, 728, 729, 730, 731, 732, 733, 734, 735, 736, 737] (by decide +kernel) (by decide +kernel)
set_option maxRecDepth 20000 in
theorem gL_law_X8_clearText : GoodIn wsL_law (wsV RL 49 RX8 yX8_clearText wsX8_clearText) := goodIn_app (goodIn_of _ (by decide +kernel)) ggL_law_X8_clearText
set_option maxRecDepth 20000 in
theorem ggL_law_X7_perform : GoodIn wsL_law wsX7_perform := goodIn_r _ [481, 26, 16, 15, 482, 483, 484, 485, 486, 487, 488, 25, 489, 490, 491, 463, 492, 493, 494, 495, 496, 497, 498, 499, 111, 500, 501, 502, 503, 504, 505, 506, 507, 508, 509, 510, 511, 112, 113, 114, 512, 513, 514, 515, 516, 517, 518, 519, 520, 521, 522, 523, 132, 133, 134, 14, 135, 74, 75, 76, 77, 78, 32, 136, 137, 138, 139, 34, 35, 37, 41, 45, 46, 140, 141, 142, 48, 143, 65, 144, 85, 86, 87, 88, 89, 90, 91, 92, 93, 145, 146, 147, 50, 148, 149, 69, 150, 151, 152, 153, 40, 154, 155, 156, 54, 157, 55, 158, 159, 160, 44, 161, 59, 162, 60, 61, 98, 99, 214, 215, 216, 217, 79, 218, 219, 220, 221, 222, 223, 224, 225, 226, 227, 228, 229, 230, 231, 232, 233, 234, 235, 236, 237, 238, 239, 240, 241, 242, 243, 244, 245, 246, 247, 248, 249, 250, 286, 287, 288, 289, 290, 291, 292, 293, 294, 295, 296, 297, 298, 299, 300, 80, 301, 302, 303, 304, 305, 306, 307, 308, 309, 310, 311, 312, 313, 314, 315, 316, 317, 318, 319, 320, 321, 322, 323, 324, 325, 326, 327, 328, 329, 330, 331, 332, 333, 334, 335, 336, 337, 338, 339, 340, 341, 342, 343, 344, 345, 346, 347, 348, 349, 350, 351, 352, 427, 428, 429, 430, 172, 173, 174, 2, 175, 22, 176, 177, 178, 21, 179, 180, 105, 181, 182, 183, 184, 185, 720, 721, 722, 723, 724, 725, 752, 753, 754, 755, 756, 757, 758, 738, 739, 740, 741, 742, 743, 744, 745, 746, 747, 748, 749, 768, 769, 770, 771, 772, 773, 774, 775, 776, 777, 778, 779, 759, 760, 761, 762, 763, 764, 765, 766, 767, 750, 751] (by decide +kernel) (by decide +kernel)
set_option maxRecDepth 20000 in
theorem gL_law_X7_perform : GoodIn wsL_law (wsV RL 50 RX7 yX7_perform wsX7_perform) := goodIn_app (goodIn_of _ (by decide +kernel)) ggL_law_X7_perform
set_option maxRecDepth 20000 in
theorem ggL_law_X8_perform : GoodIn wsL_law wsX8_perform := goodIn_r _ [527, 528, 468, 529, 530, 531, 5, 532, 533, 534, 535, 536, 537, 538, 539, 540, 541, 542, 123, 543, 544, 545, 190, 191, 192, 546, 547, 548, 549, 550, 551, 552, 553, 554, 197, 198, 199, 200, 120, 119, 555, 556, 557, 558, 255, 256, 257, 258, 259, 260, 261, 262, 263, 264, 265, 266, 267, 268, 269, 270, 271, 272, 273, 274, 275, 276, 277, 357, 358, 359, 360, 361, 362, 363, 364, 365, 366, 367, 368, 369, 370, 371, 372, 373, 374, 375, 376, 377, 378, 379, 380, 381, 382, 383, 384, 385, 386, 387, 388, 389, 390, 391, 392, 393, 394, 395, 396, 397, 398, 399, 400, 401, 435, 436, 437, 438, 439, 440, 441, 442, 443, 444, 445, 419, 420, 421, 422, 201, 202, 203, 204, 205, 121, 726, 727, 728, 729, 730, 731, 732, 733, 734, 735, 736, 737] (by decide +kernel) (by decide +kernel)
set_option maxRecDepth 20000 in
theorem gL_law_X8_perform : GoodIn wsL_law (wsV RL 53 RX8 yX8_perform wsX8_perform) := goodIn_app (goodIn_of _ (by decide +kernel)) ggL_law_X8_perform
set_option maxRecDepth 20000 in
theorem ggL_law_X7_undo : GoodIn wsL_law wsX7_undo := goodIn_r _ [562, 22, 15, 563, 564, 565, 21, 566, 180, 105, 185, 133, 134, 14, 135, 74, 75, 76, 77, 78, 32, 136, 137, 138, 139, 34, 35, 37, 41, 45, 46, 140, 141, 142, 48, 143, 65, 144, 85, 86, 87, 88, 89, 90, 91, 92, 93, 145, 146, 147, 50, 148, 149, 69, 150, 151, 152, 153, 40, 154, 155, 156, 54, 157, 55, 158, 159, 160, 44, 161, 59, 162, 60, 61, 98, 99, 720, 721, 722, 723, 724, 725, 750, 751, 738, 739, 740, 741, 742, 743, 744, 745, 746, 747, 748, 749, 768, 769, 770, 771, 772, 773, 774, 775, 776, 777, 778, 779, 759, 760, 761, 762, 763, 764, 765, 766, 767] (by decide +kernel) (by decide +kernel)
set_option maxRecDepth 20000 in
theorem gL_law_X7_undo : GoodIn wsL_law (wsV RL 54 RX7 yX7_undo wsX7_undo) := goodIn_app (goodIn_of _ (by decide +kernel)) ggL_law_X7_undo
set_option maxRecDepth 20000 in
theorem ggL_law_X8_undo : GoodIn wsL_law wsX8_undo := goodIn_r _ [570, 205, 119, 121, 726, 727, 728, 729, 730, 731, 732, 733, 734, 735, 736, 737] (by decide +kernel) (by decide +kernel)
set_option maxRecDepth 20000 in
theorem gL_law_X8_undo : GoodIn wsL_law (wsV RL 57 RX8 yX8_undo wsX8_undo) := goodIn_app (goodIn_of _ (by decide +kernel)) ggL_law_X8_undo
set_option maxRecDepth 20000 in
theorem ggL_law_X7_keep : GoodIn wsL_law wsX7_keep := goodIn_r _ [574, 17, 15, 18, 407, 132, 133, 134, 14, 135, 74, 75, 76, 77, 78, 32, 136, 137, 138, 139, 34, 35, 37, 41, 45, 46, 140, 141, 142, 48, 143, 65, 144, 85, 86, 87, 88, 89, 90, 91, 92, 93, 145, 146, 147, 50, 148, 149, 69, 150, 151, 152, 153, 40, 154, 155, 156, 54, 157, 55, 158, 159, 160, 44, 161, 59, 162, 60, 61, 98, 99, 720, 721, 722, 723, 724, 725, 738, 739, 740, 741, 742, 743, 744, 745, 746, 747, 748, 749, 768, 769, 770, 771, 772, 773, 774, 775, 776, 777, 778, 779, 759, 760, 761, 762, 763, 764, 765, 766, 767] (by decide +kernel) (by decide +kernel)
set_option maxRecDepth 20000 in
theorem gL_law_X7_keep : GoodIn wsL_law (wsV RL 58 RX7 yX7_keep wsX7_keep) := goodIn_app (goodIn_of _ (by decide +kernel)) ggL_law_X7_keep
set_option maxRecDepth 20000 in
theorem ggL_law_X8_keep : GoodIn wsL_law wsX8_keep := goodIn_r _ [578, 122, 119, 579, 726, 727, 728, 729, 730, 731, 732, 733, 734, 735, 736, 737] (by decide +kernel) (by decide +kernel)
set_option maxRecDepth 20000 in
theorem gL_law_X8_keep : GoodIn wsL_law (wsV RL 61 RX8 yX8_keep wsX8_keep) := goodIn_app (goodIn_of _ (by decide +kernel)) ggL_law_X8_keep
set_option maxRecDepth 20000 in
theorem ggL_law_X7_restore : GoodIn wsL_law wsX7_restore := goodIn_r _ [583, 18, 16, 17, 407, 132, 133, 134, 14, 135, 74, 75, 76, 77, 78, 32, 136, 137, 138, 139, 34, 35, 37, 41, 45, 46, 140, 141, 142, 48, 143, 65, 144, 85, 86, 87, 88, 89, 90, 91, 92, 93, 145, 146, 147, 50, 148, 149, 69, 150, 151, 152, 153, 40, 154, 155, 156, 54, 157, 55, 158, 159, 160, 44, 161, 59, 162, 60, 61, 98, 99, 172, 173, 174, 2, 175, 22, 15, 176, 177, 178, 21, 179, 180, 105, 181, 182, 183, 184, 185, 720, 721, 722, 723, 724, 725, 738, 739, 740, 741, 742, 743, 744, 745, 746, 747, 748, 749, 768, 769, 770, 771, 772, 773, 774, 775, 776, 777, 778, 779, 759, 760, 761, 762, 763, 764, 765, 766, 767, 750, 751] (by decide +kernel) (by decide +kernel)
set_option maxRecDepth 20000 in
theorem gL_law_X7_restore : GoodIn wsL_law (wsV RL 62 RX7 yX7_restore wsX7_restore) := goodIn_app (goodIn_of _ (by decide +kernel)) ggL_law_X7_restore
set_option maxRecDepth 20000 in
theorem ggL_law_X8_restore : GoodIn wsL_law wsX8_restore := goodIn_r _ [587, 579, 119, 122, 193, 194, 195, 5, 196, 197, 198, 199, 200, 120, 201, 202, 203, 204, 205, 121, 726, 727, 728, 729, 730, 731, 732, 733, 734, 735, 736, 737] (by decide +kernel) (by decide +kernel)
set_option maxRecDepth 20000 in
theorem gL_law_X8_restore : GoodIn wsL_law (wsV RL 65 RX8 yX8_restore wsX8_restore) := goodIn_app (goodIn_of _ (by decide +kernel)) ggL_law_X8_restore
set_option maxRecDepth 20000 in
theorem ggL_law_X7_link : GoodIn wsL_law wsX7_link := goodIn_r _ [591, 15, 592, 450, 593, 322, 323, 14, 324, 74, 594, 595, 596, 48, 597, 65, 85, 86, 87, 88, 89, 90, 91, 92, 93, 720, 721, 722, 723, 724, 725, 738, 739, 740, 741, 742, 743, 744, 745, 746, 747, 748, 749, 768, 769, 770, 771, 772, 773, 774, 775, 776, 777] (by decide +kernel) (by decide +kernel)
set_option maxRecDepth 20000 in
theorem gL_law_X7_link : GoodIn wsL_law (wsV RL 66 RX7 yX7_link wsX7_link) := goodIn_app (goodIn_of _ (by decide +kernel)) ggL_law_X7_link
set_option maxRecDepth 20000 in
theorem ggL_law_X8_link : GoodIn wsL_law wsX8_link := goodIn_r _ [601, 439, 440, 441, 5, 442, 119, 190, 191, 192, 602, 603, 604, 605, 390, 391, 392, 393, 726, 727, 728, 729, 730, 731, 732, 733, 734, 735, 736, 737] (by decide +kernel) (by decide +kernel)
set_option maxRecDepth 20000 in
theorem gL_law_X8_link : GoodIn wsL_law (wsV RL 69 RX8 yX8_link wsX8_link) := goodIn_app (goodIn_of _ (by decide +kernel)) ggL_law_X8_link
set_option maxRecDepth 20000 in
theorem ggL_law_X7_stage : GoodIn wsL_law wsX7_stage := goodIn_r _ [609, 15, 610, 611, 720, 721, 722, 723, 724, 725, 738, 739, 740, 741, 742, 743, 744, 745, 746, 747, 748, 749] (by decide +kernel) (by decide +kernel)
set_option maxRecDepth 20000 in
theorem gL_law_X7_stage : GoodIn wsL_law (wsV RL 70 RX7 yX7_stage wsX7_stage) := goodIn_app (goodIn_of _ (by decide +kernel)) ggL_law_X7_stage
set_option maxRecDepth 20000 in
theorem ggL_law_X8_stage : GoodIn wsL_law wsX8_stage := goodIn_r _ [615, 119, 190, 191, 5, 192, 726, 727, 728, 729, 730, 731, 732, 733, 734, 735, 736, 737] (by decide +kernel) (by decide +kernel)
set_option maxRecDepth 20000 in
theorem gL_law_X8_stage : GoodIn wsL_law (wsV RL 73 RX8 yX8_stage wsX8_stage) := goodIn_app (goodIn_of _ (by decide +kernel)) ggL_law_X8_stage
set_option maxRecDepth 20000 in
theorem ggL_law_X7_waiting : GoodIn wsL_law wsX7_waiting := goodIn_r _ [619, 15, 620, 621, 622, 623, 50, 624, 149, 69, 720, 721, 722, 723, 724, 725, 738, 739, 740, 741, 742, 743, 744, 745, 746, 747, 748, 749, 778, 779] (by decide +kernel) (by decide +kernel)
set_option maxRecDepth 20000 in
theorem gL_law_X7_waiting : GoodIn wsL_law (wsV RL 74 RX7 yX7_waiting wsX7_waiting) := goodIn_app (goodIn_of _ (by decide +kernel)) ggL_law_X7_waiting
set_option maxRecDepth 20000 in
theorem ggL_law_X8_waiting : GoodIn wsL_law wsX8_waiting := goodIn_r _ [628, 119, 259, 260, 5, 261, 190, 191, 192, 726, 727, 728, 729, 730, 731, 732, 733, 734, 735, 736, 737] (by decide +kernel) (by decide +kernel)
set_option maxRecDepth 20000 in
theorem gL_law_X8_waiting : GoodIn wsL_law (wsV RL 77 RX8 yX8_waiting wsX8_waiting) := goodIn_app (goodIn_of _ (by decide +kernel)) ggL_law_X8_waiting
set_option maxRecDepth 20000 in
theorem ggL_law_X7_noted : GoodIn wsL_law wsX7_noted := goodIn_r _ [632, 15, 633, 634, 635, 636, 44, 637, 98, 59, 60, 61, 720, 721, 722, 723, 724, 725, 738, 739, 740, 741, 742, 743, 744, 745, 746, 747, 748, 749, 763, 764, 765, 766, 767] (by decide +kernel) (by decide +kernel)
set_option maxRecDepth 20000 in
theorem gL_law_X7_noted : GoodIn wsL_law (wsV RL 78 RX7 yX7_noted wsX7_noted) := goodIn_app (goodIn_of _ (by decide +kernel)) ggL_law_X7_noted
set_option maxRecDepth 20000 in
theorem ggL_law_X8_noted : GoodIn wsL_law wsX8_noted := goodIn_r _ [641, 119, 190, 191, 5, 192, 726, 727, 728, 729, 730, 731, 732, 733, 734, 735, 736, 737] (by decide +kernel) (by decide +kernel)
set_option maxRecDepth 20000 in
theorem gL_law_X8_noted : GoodIn wsL_law (wsV RL 81 RX8 yX8_noted wsX8_noted) := goodIn_app (goodIn_of _ (by decide +kernel)) ggL_law_X8_noted
set_option maxRecDepth 20000 in
theorem ggL_law_X7_total : GoodIn wsL_law wsX7_total := goodIn_r _ [645, 15, 610, 407, 646, 647, 648, 633, 649, 650, 651, 652, 450, 22, 653, 26, 473, 168, 169, 170, 14, 171, 37, 79, 164, 165, 166, 167, 74, 35, 720, 721, 722, 723, 724, 725, 738, 739, 740, 741, 742, 743, 744, 745, 746, 747, 748, 749, 759, 760, 761, 762, 763, 764, 765, 766, 767, 750, 751, 752, 753, 754, 755, 756, 757, 758, 778, 779] (by decide +kernel) (by decide +kernel)
set_option maxRecDepth 20000 in
theorem gL_law_X7_total : GoodIn wsL_law (wsV RL 82 RX7 yX7_total wsX7_total) := goodIn_app (goodIn_of _ (by decide +kernel)) ggL_law_X7_total
set_option maxRecDepth 20000 in
theorem ggL_law_X8_total : GoodIn wsL_law wsX8_total := goodIn_r _ [657, 119, 205, 468, 206, 207, 208, 5, 209, 726, 727, 728, 729, 730, 731, 732, 733, 734, 735, 736, 737] (by decide +kernel) (by decide +kernel)
set_option maxRecDepth 20000 in
theorem gL_law_X8_total : GoodIn wsL_law (wsV RL 85 RX8 yX8_total wsX8_total) := goodIn_app (goodIn_of _ (by decide +kernel)) ggL_law_X8_total
set_option maxRecDepth 20000 in
theorem ggL_law_X7_next : GoodIn wsL_law wsX7_next := goodIn_r _ [661, 15, 646, 409, 298, 299, 14, 300, 41, 80, 662, 302, 303, 40, 304, 54, 155, 720, 721, 722, 723, 724, 725, 738, 739, 740, 741, 742, 743, 744, 745, 746, 747, 748, 749, 759, 760, 761, 762] (by decide +kernel) (by decide +kernel)
set_option maxRecDepth 20000 in
theorem gL_law_X7_next : GoodIn wsL_law (wsV RL 86 RX7 yX7_next wsX7_next) := goodIn_app (goodIn_of _ (by decide +kernel)) ggL_law_X7_next
set_option maxRecDepth 20000 in
theorem ggL_law_X8_next : GoodIn wsL_law wsX8_next := goodIn_r _ [666, 366, 367, 368, 5, 369, 119, 370, 371, 372, 373, 726, 727, 728, 729, 730, 731, 732, 733, 734, 735, 736, 737] (by decide +kernel) (by decide +kernel)
set_option maxRecDepth 20000 in
theorem gL_law_X8_next : GoodIn wsL_law (wsV RL 89 RX8 yX8_next wsX8_next) := goodIn_app (goodIn_of _ (by decide +kernel)) ggL_law_X8_next
set_option maxRecDepth 20000 in
theorem ggL_law_X7_quietIn : GoodIn wsL_law wsX7_quietIn := goodIn_r _ [670, 16, 15, 406, 407, 132, 133, 134, 14, 135, 74, 75, 76, 77, 78, 32, 136, 137, 138, 139, 34, 35, 37, 41, 45, 46, 140, 141, 142, 48, 143, 65, 144, 85, 86, 87, 88, 89, 90, 91, 92, 93, 145, 146, 147, 50, 148, 149, 69, 150, 151, 152, 153, 40, 154, 155, 156, 54, 157, 55, 158, 159, 160, 44, 161, 59, 162, 60, 61, 98, 99, 410, 293, 294, 295, 290, 296, 297, 298, 299, 300, 80, 301, 302, 303, 304, 305, 306, 307, 308, 309, 310, 311, 312, 313, 314, 315, 316, 317, 318, 319, 320, 321, 322, 323, 324, 325, 326, 327, 328, 329, 330, 218, 331, 332, 333, 334, 335, 240, 242, 243, 244, 245, 336, 337, 338, 339, 291, 340, 341, 342, 343, 344, 345, 346, 347, 235, 236, 237, 238, 239, 241, 246, 247, 248, 249, 250, 348, 349, 350, 351, 352, 223, 224, 225, 226, 227, 228, 229, 230, 79, 231, 232, 233, 234, 720, 721, 722, 723, 724, 725, 738, 739, 740, 741, 742, 743, 744, 745, 746, 747, 748, 749, 768, 769, 770, 771, 772, 773, 774, 775, 776, 777, 778, 779, 759, 760, 761, 762, 763, 764, 765, 766, 767] (by decide +kernel) (by decide +kernel)
set_option maxRecDepth 20000 in
theorem gL_law_X7_quietIn : GoodIn wsL_law (wsV RL 90 RX7 yX7_quietIn wsX7_quietIn) := goodIn_app (goodIn_of _ (by decide +kernel)) ggL_law_X7_quietIn
set_option maxRecDepth 20000 in
theorem ggL_law_X8_quietIn : GoodIn wsL_law wsX8_quietIn := goodIn_r _ [674, 197, 198, 199, 5, 200, 120, 119, 415, 416, 417, 418, 366, 367, 368, 369, 370, 371, 372, 373, 374, 375, 376, 377, 378, 379, 380, 381, 270, 271, 272, 273, 382, 383, 384, 385, 274, 275, 276, 277, 386, 387, 388, 389, 390, 391, 392, 393, 394, 395, 396, 397, 266, 267, 268, 269, 398, 399, 400, 401, 262, 263, 264, 265, 419, 420, 421, 422, 726, 727, 728, 729, 730, 731, 732, 733, 734, 735, 736, 737] (by decide +kernel) (by decide +kernel)
set_option maxRecDepth 20000 in
theorem gL_law_X8_quietIn : GoodIn wsL_law (wsV RL 93 RX8 yX8_quietIn wsX8_quietIn) := goodIn_app (goodIn_of _ (by decide +kernel)) ggL_law_X8_quietIn
set_option maxRecDepth 20000 in
theorem ggL_law_X7_ifLead : GoodIn wsL_law wsX7_ifLead := goodIn_r _ [678, 16, 407, 15, 633, 649, 679, 680, 681, 2, 682, 450, 406, 132, 133, 134, 14, 135, 74, 75, 76, 77, 78, 32, 136, 137, 138, 139, 34, 35, 37, 41, 45, 46, 140, 141, 142, 48, 143, 65, 144, 85, 86, 87, 88, 89, 90, 91, 92, 93, 145, 146, 147, 50, 148, 149, 69, 150, 151, 152, 153, 40, 154, 155, 156, 54, 157, 55, 158, 159, 160, 44, 161, 59, 162, 60, 61, 98, 99, 410, 293, 294, 295, 290, 296, 297, 298, 299, 300, 80, 301, 302, 303, 304, 305, 306, 307, 308, 309, 310, 311, 312, 313, 314, 315, 316, 317, 318, 319, 320, 321, 322, 323, 324, 325, 326, 327, 328, 329, 330, 218, 331, 332, 333, 334, 335, 240, 242, 243, 244, 245, 336, 337, 338, 339, 291, 340, 341, 342, 343, 344, 345, 346, 347, 235, 236, 237, 238, 239, 241, 246, 247, 248, 249, 250, 348, 349, 350, 351, 352, 223, 224, 225, 226, 227, 228, 229, 230, 79, 231, 232, 233, 234, 683, 684, 685, 686, 687, 688, 689, 690, 720, 721, 722, 723, 724, 725, 738, 739, 740, 741, 742, 743, 744, 745, 746, 747, 748, 749, 763, 764, 765, 766, 767, 768, 769, 770, 771, 772, 773, 774, 775, 776, 777, 778, 779, 759, 760, 761, 762] (by decide +kernel) (by decide +kernel)
set_option maxRecDepth 20000 in
theorem gL_law_X7_ifLead : GoodIn wsL_law (wsV RL 94 RX7 yX7_ifLead wsX7_ifLead) := goodIn_app (goodIn_of _ (by decide +kernel)) ggL_law_X7_ifLead
set_option maxRecDepth 20000 in
theorem ggL_law_X8_ifLead : GoodIn wsL_law wsX8_ifLead := goodIn_r _ [694, 190, 191, 5, 192, 695, 696, 697, 698, 119, 120, 197, 198, 199, 200, 415, 416, 417, 418, 366, 367, 368, 369, 370, 371, 372, 373, 374, 375, 376, 377, 378, 379, 380, 381, 270, 271, 272, 273, 382, 383, 384, 385, 274, 275, 276, 277, 386, 387, 388, 389, 390, 391, 392, 393, 394, 395, 396, 397, 266, 267, 268, 269, 398, 399, 400, 401, 262, 263, 264, 265, 419, 420, 421, 422, 726, 727, 728, 729, 730, 731, 732, 733, 734, 735, 736, 737] (by decide +kernel) (by decide +kernel)
set_option maxRecDepth 20000 in
theorem gL_law_X8_ifLead : GoodIn wsL_law (wsV RL 97 RX8 yX8_ifLead wsX8_ifLead) := goodIn_app (goodIn_of _ (by decide +kernel)) ggL_law_X8_ifLead
set_option maxRecDepth 20000 in
theorem ggL_law_X7_leastLead : GoodIn wsL_law wsX7_leastLead := goodIn_r _ [702, 679, 680, 681, 2, 682, 16, 15, 450, 406, 132, 133, 134, 14, 135, 74, 75, 76, 77, 78, 32, 136, 137, 138, 139, 34, 35, 37, 41, 45, 46, 140, 141, 142, 48, 143, 65, 144, 85, 86, 87, 88, 89, 90, 91, 92, 93, 145, 146, 147, 50, 148, 149, 69, 150, 151, 152, 153, 40, 154, 155, 156, 54, 157, 55, 158, 159, 160, 44, 161, 59, 162, 60, 61, 98, 99, 410, 293, 294, 295, 290, 296, 297, 298, 299, 300, 80, 301, 302, 303, 304, 305, 306, 307, 308, 309, 310, 311, 312, 313, 314, 315, 316, 317, 318, 319, 320, 321, 322, 323, 324, 325, 326, 327, 328, 329, 330, 218, 331, 332, 333, 334, 335, 240, 242, 243, 244, 245, 336, 337, 338, 339, 291, 340, 341, 342, 343, 344, 345, 346, 347, 235, 236, 237, 238, 239, 241, 246, 247, 248, 249, 250, 348, 349, 350, 351, 352, 223, 224, 225, 226, 227, 228, 229, 230, 79, 231, 232, 233, 234, 683, 684, 685, 686, 633, 687, 688, 689, 690, 720, 721, 722, 723, 724, 725, 738, 739, 740, 741, 742, 743, 744, 745, 746, 747, 748, 749, 768, 769, 770, 771, 772, 773, 774, 775, 776, 777, 778, 779, 759, 760, 761, 762, 763, 764, 765, 766, 767] (by decide +kernel) (by decide +kernel)
set_option maxRecDepth 20000 in
theorem gL_law_X7_leastLead : GoodIn wsL_law (wsV RL 98 RX7 yX7_leastLead wsX7_leastLead) := goodIn_app (goodIn_of _ (by decide +kernel)) ggL_law_X7_leastLead
set_option maxRecDepth 20000 in
theorem ggL_law_X8_leastLead : GoodIn wsL_law wsX8_leastLead := goodIn_r _ [706, 695, 696, 697, 5, 698, 119, 120, 197, 198, 199, 200, 415, 416, 417, 418, 366, 367, 368, 369, 370, 371, 372, 373, 374, 375, 376, 377, 378, 379, 380, 381, 270, 271, 272, 273, 382, 383, 384, 385, 274, 275, 276, 277, 386, 387, 388, 389, 390, 391, 392, 393, 394, 395, 396, 397, 266, 267, 268, 269, 398, 399, 400, 401, 262, 263, 264, 265, 419, 420, 421, 422, 726, 727, 728, 729, 730, 731, 732, 733, 734, 735, 736, 737] (by decide +kernel) (by decide +kernel)
set_option maxRecDepth 20000 in
theorem gL_law_X8_leastLead : GoodIn wsL_law (wsV RL 101 RX8 yX8_leastLead wsX8_leastLead) := goodIn_app (goodIn_of _ (by decide +kernel)) ggL_law_X8_leastLead
set_option maxRecDepth 20000 in
theorem ggL_law_X7_dearest : GoodIn wsL_law wsX7_dearest := goodIn_r _ [710, 15, 610, 592, 711, 712, 713, 714, 2, 715, 16, 406, 407, 132, 133, 134, 14, 135, 74, 75, 76, 77, 78, 32, 136, 137, 138, 139, 34, 35, 37, 41, 45, 46, 140, 141, 142, 48, 143, 65, 144, 85, 86, 87, 88, 89, 90, 91, 92, 93, 145, 146, 147, 50, 148, 149, 69, 150, 151, 152, 153, 40, 154, 155, 156, 54, 157, 55, 158, 159, 160, 44, 161, 59, 162, 60, 61, 98, 99, 410, 293, 294, 295, 290, 296, 297, 298, 299, 300, 80, 301, 302, 303, 304, 305, 306, 307, 308, 309, 310, 311, 312, 313, 314, 315, 316, 317, 318, 319, 320, 321, 322, 323, 324, 325, 326, 327, 328, 329, 330, 218, 331, 332, 333, 334, 335, 240, 242, 243, 244, 245, 336, 337, 338, 339, 291, 340, 341, 342, 343, 344, 345, 346, 347, 235, 236, 237, 238, 239, 241, 246, 247, 248, 249, 250, 348, 349, 350, 351, 352, 223, 224, 225, 226, 227, 228, 229, 230, 79, 231, 232, 233, 234, 720, 721, 722, 723, 724, 725, 738, 739, 740, 741, 742, 743, 744, 745, 746, 747, 748, 749, 768, 769, 770, 771, 772, 773, 774, 775, 776, 777, 778, 779, 759, 760, 761, 762, 763, 764, 765, 766, 767] (by decide +kernel) (by decide +kernel)
set_option maxRecDepth 20000 in
theorem gL_law_X7_dearest : GoodIn wsL_law (wsV RL 102 RX7 yX7_dearest wsX7_dearest) := goodIn_app (goodIn_of _ (by decide +kernel)) ggL_law_X7_dearest
set_option maxRecDepth 20000 in
theorem ggL_law_X8_dearest : GoodIn wsL_law wsX8_dearest := goodIn_r _ [719, 119, 197, 198, 199, 5, 200, 120, 415, 416, 417, 418, 366, 367, 368, 369, 370, 371, 372, 373, 374, 375, 376, 377, 378, 379, 380, 381, 270, 271, 272, 273, 382, 383, 384, 385, 274, 275, 276, 277, 386, 387, 388, 389, 390, 391, 392, 393, 394, 395, 396, 397, 266, 267, 268, 269, 398, 399, 400, 401, 262, 263, 264, 265, 419, 420, 421, 422, 726, 727, 728, 729, 730, 731, 732, 733, 734, 735, 736, 737] (by decide +kernel) (by decide +kernel)
set_option maxRecDepth 20000 in
theorem gL_law_X8_dearest : GoodIn wsL_law (wsV RL 105 RX8 yX8_dearest wsX8_dearest) := goodIn_app (goodIn_of _ (by decide +kernel)) ggL_law_X8_dearest
theorem dL_law_0 : decode cL_law 0 = .ok (.new 7, 3) := by decide +kernel
theorem dL_law_3 : decode cL_law 3 = .ok (.dup, 1) := by decide +kernel
theorem dL_law_4 : decode cL_law 4 = .ok (.invokespecial 9, 3) := by decide +kernel
theorem dL_law_7 : decode cL_law 7 = .ok (.astore_n 1, 1) := by decide +kernel
theorem dL_law_8 : decode cL_law 8 = .ok (.new 10, 3) := by decide +kernel
theorem dL_law_11 : decode cL_law 11 = .ok (.dup, 1) := by decide +kernel
theorem dL_law_12 : decode cL_law 12 = .ok (.invokespecial 12, 3) := by decide +kernel
theorem dL_law_15 : decode cL_law 15 = .ok (.astore_n 2, 1) := by decide +kernel
theorem dL_law_16 : decode cL_law 16 = .ok (.iconst 0, 1) := by decide +kernel
theorem dL_law_17 : decode cL_law 17 = .ok (.istore_n 3, 1) := by decide +kernel
theorem dL_law_18 : decode cL_law 18 = .ok (.iload_n 3, 1) := by decide +kernel
theorem dL_law_19 : decode cL_law 19 = .ok (.aload_n 0, 1) := by decide +kernel
theorem dL_law_20 : decode cL_law 20 = .ok (.arraylength, 1) := by decide +kernel
theorem dL_law_21 : decode cL_law 21 = .ok (.iconst 4, 1) := by decide +kernel
theorem dL_law_22 : decode cL_law 22 = .ok (.isub, 1) := by decide +kernel
theorem dL_law_23 : decode cL_law 23 = .ok (.if_icmp .gt 607, 3) := by decide +kernel
theorem dL_law_26 : decode cL_law 26 = .ok (.aload_n 0, 1) := by decide +kernel
theorem dL_law_27 : decode cL_law 27 = .ok (.iload_n 3, 1) := by decide +kernel
theorem dL_law_28 : decode cL_law 28 = .ok (.iaload, 1) := by decide +kernel
theorem dL_law_29 : decode cL_law 29 = .ok (.bipush 31, 2) := by decide +kernel
theorem dL_law_31 : decode cL_law 31 = .ok (.iand, 1) := by decide +kernel
theorem dL_law_32 : decode cL_law 32 = .ok (.tableswitch 592 0 21 #[104, 127, 160, 183, 196, 239, 272, 297, 310, 323, 336, 349, 362, 395, 418, 451, 484, 507, 520, 533, 566, 579], 104) := by decide +kernel
theorem dL_law_136 : decode cL_law 136 = .ok (.aload_n 1, 1) := by decide +kernel
theorem dL_law_137 : decode cL_law 137 = .ok (.aload_n 0, 1) := by decide +kernel
theorem dL_law_138 : decode cL_law 138 = .ok (.iload_n 3, 1) := by decide +kernel
theorem dL_law_139 : decode cL_law 139 = .ok (.iconst 1, 1) := by decide +kernel
theorem dL_law_140 : decode cL_law 140 = .ok (.iadd, 1) := by decide +kernel
theorem dL_law_141 : decode cL_law 141 = .ok (.iaload, 1) := by decide +kernel
theorem dL_law_142 : decode cL_law 142 = .ok (.invokevirtual 13, 3) := by decide +kernel
theorem dL_law_145 : decode cL_law 145 = .ok (.aload_n 2, 1) := by decide +kernel
theorem dL_law_146 : decode cL_law 146 = .ok (.aload_n 0, 1) := by decide +kernel
theorem dL_law_147 : decode cL_law 147 = .ok (.iload_n 3, 1) := by decide +kernel
theorem dL_law_148 : decode cL_law 148 = .ok (.iconst 1, 1) := by decide +kernel
theorem dL_law_149 : decode cL_law 149 = .ok (.iadd, 1) := by decide +kernel
theorem dL_law_150 : decode cL_law 150 = .ok (.iaload, 1) := by decide +kernel
theorem dL_law_151 : decode cL_law 151 = .ok (.invokevirtual 17, 3) := by decide +kernel
theorem dL_law_154 : decode cL_law 154 = .ok (.if_icmp .eq 470, 3) := by decide +kernel
theorem dL_law_157 : decode cL_law 157 = .ok (.iconst 0, 1) := by decide +kernel
theorem dL_law_158 : decode cL_law 158 = .ok (.ireturn, 1) := by decide +kernel
theorem dL_law_159 : decode cL_law 159 = .ok (.aload_n 1, 1) := by decide +kernel
theorem dL_law_160 : decode cL_law 160 = .ok (.aload_n 0, 1) := by decide +kernel
theorem dL_law_161 : decode cL_law 161 = .ok (.iload_n 3, 1) := by decide +kernel
theorem dL_law_162 : decode cL_law 162 = .ok (.iconst 1, 1) := by decide +kernel
theorem dL_law_163 : decode cL_law 163 = .ok (.iadd, 1) := by decide +kernel
theorem dL_law_164 : decode cL_law 164 = .ok (.iaload, 1) := by decide +kernel
theorem dL_law_165 : decode cL_law 165 = .ok (.aload_n 0, 1) := by decide +kernel
theorem dL_law_166 : decode cL_law 166 = .ok (.iload_n 3, 1) := by decide +kernel
theorem dL_law_167 : decode cL_law 167 = .ok (.iconst 2, 1) := by decide +kernel
theorem dL_law_168 : decode cL_law 168 = .ok (.iadd, 1) := by decide +kernel
theorem dL_law_169 : decode cL_law 169 = .ok (.iaload, 1) := by decide +kernel
theorem dL_law_170 : decode cL_law 170 = .ok (.invokevirtual 18, 3) := by decide +kernel
theorem dL_law_173 : decode cL_law 173 = .ok (.aload_n 2, 1) := by decide +kernel
theorem dL_law_174 : decode cL_law 174 = .ok (.aload_n 0, 1) := by decide +kernel
theorem dL_law_175 : decode cL_law 175 = .ok (.iload_n 3, 1) := by decide +kernel
theorem dL_law_176 : decode cL_law 176 = .ok (.iconst 1, 1) := by decide +kernel
theorem dL_law_177 : decode cL_law 177 = .ok (.iadd, 1) := by decide +kernel
theorem dL_law_178 : decode cL_law 178 = .ok (.iaload, 1) := by decide +kernel
theorem dL_law_179 : decode cL_law 179 = .ok (.aload_n 0, 1) := by decide +kernel
theorem dL_law_180 : decode cL_law 180 = .ok (.iload_n 3, 1) := by decide +kernel
theorem dL_law_181 : decode cL_law 181 = .ok (.iconst 2, 1) := by decide +kernel
theorem dL_law_182 : decode cL_law 182 = .ok (.iadd, 1) := by decide +kernel
theorem dL_law_183 : decode cL_law 183 = .ok (.iaload, 1) := by decide +kernel
theorem dL_law_184 : decode cL_law 184 = .ok (.invokevirtual 22, 3) := by decide +kernel
theorem dL_law_187 : decode cL_law 187 = .ok (.if_icmp .eq 437, 3) := by decide +kernel
theorem dL_law_190 : decode cL_law 190 = .ok (.iconst 0, 1) := by decide +kernel
theorem dL_law_191 : decode cL_law 191 = .ok (.ireturn, 1) := by decide +kernel
theorem dL_law_192 : decode cL_law 192 = .ok (.aload_n 1, 1) := by decide +kernel
theorem dL_law_193 : decode cL_law 193 = .ok (.aload_n 0, 1) := by decide +kernel
theorem dL_law_194 : decode cL_law 194 = .ok (.iload_n 3, 1) := by decide +kernel
theorem dL_law_195 : decode cL_law 195 = .ok (.iconst 1, 1) := by decide +kernel
theorem dL_law_196 : decode cL_law 196 = .ok (.iadd, 1) := by decide +kernel
theorem dL_law_197 : decode cL_law 197 = .ok (.iaload, 1) := by decide +kernel
theorem dL_law_198 : decode cL_law 198 = .ok (.invokevirtual 23, 3) := by decide +kernel
theorem dL_law_201 : decode cL_law 201 = .ok (.aload_n 2, 1) := by decide +kernel
theorem dL_law_202 : decode cL_law 202 = .ok (.aload_n 0, 1) := by decide +kernel
theorem dL_law_203 : decode cL_law 203 = .ok (.iload_n 3, 1) := by decide +kernel
theorem dL_law_204 : decode cL_law 204 = .ok (.iconst 1, 1) := by decide +kernel
theorem dL_law_205 : decode cL_law 205 = .ok (.iadd, 1) := by decide +kernel
theorem dL_law_206 : decode cL_law 206 = .ok (.iaload, 1) := by decide +kernel
theorem dL_law_207 : decode cL_law 207 = .ok (.invokevirtual 26, 3) := by decide +kernel
theorem dL_law_210 : decode cL_law 210 = .ok (.if_icmp .eq 414, 3) := by decide +kernel
theorem dL_law_213 : decode cL_law 213 = .ok (.iconst 0, 1) := by decide +kernel
theorem dL_law_214 : decode cL_law 214 = .ok (.ireturn, 1) := by decide +kernel
theorem dL_law_215 : decode cL_law 215 = .ok (.aload_n 1, 1) := by decide +kernel
theorem dL_law_216 : decode cL_law 216 = .ok (.invokevirtual 27, 3) := by decide +kernel
theorem dL_law_219 : decode cL_law 219 = .ok (.aload_n 2, 1) := by decide +kernel
theorem dL_law_220 : decode cL_law 220 = .ok (.invokevirtual 31, 3) := by decide +kernel
theorem dL_law_223 : decode cL_law 223 = .ok (.if_icmp .eq 401, 3) := by decide +kernel
theorem dL_law_226 : decode cL_law 226 = .ok (.iconst 0, 1) := by decide +kernel
theorem dL_law_227 : decode cL_law 227 = .ok (.ireturn, 1) := by decide +kernel
theorem dL_law_228 : decode cL_law 228 = .ok (.aload_n 1, 1) := by decide +kernel
theorem dL_law_229 : decode cL_law 229 = .ok (.aload_n 0, 1) := by decide +kernel
theorem dL_law_230 : decode cL_law 230 = .ok (.iload_n 3, 1) := by decide +kernel
theorem dL_law_231 : decode cL_law 231 = .ok (.iconst 1, 1) := by decide +kernel
theorem dL_law_232 : decode cL_law 232 = .ok (.iadd, 1) := by decide +kernel
theorem dL_law_233 : decode cL_law 233 = .ok (.iaload, 1) := by decide +kernel
theorem dL_law_234 : decode cL_law 234 = .ok (.aload_n 0, 1) := by decide +kernel
theorem dL_law_235 : decode cL_law 235 = .ok (.iload_n 3, 1) := by decide +kernel
theorem dL_law_236 : decode cL_law 236 = .ok (.iconst 2, 1) := by decide +kernel
theorem dL_law_237 : decode cL_law 237 = .ok (.iadd, 1) := by decide +kernel
theorem dL_law_238 : decode cL_law 238 = .ok (.iaload, 1) := by decide +kernel
theorem dL_law_239 : decode cL_law 239 = .ok (.aload_n 0, 1) := by decide +kernel
theorem dL_law_240 : decode cL_law 240 = .ok (.iload_n 3, 1) := by decide +kernel
theorem dL_law_241 : decode cL_law 241 = .ok (.iconst 3, 1) := by decide +kernel
theorem dL_law_242 : decode cL_law 242 = .ok (.iadd, 1) := by decide +kernel
theorem dL_law_243 : decode cL_law 243 = .ok (.iaload, 1) := by decide +kernel
theorem dL_law_244 : decode cL_law 244 = .ok (.invokevirtual 32, 3) := by decide +kernel
theorem dL_law_247 : decode cL_law 247 = .ok (.aload_n 2, 1) := by decide +kernel
theorem dL_law_248 : decode cL_law 248 = .ok (.aload_n 0, 1) := by decide +kernel
theorem dL_law_249 : decode cL_law 249 = .ok (.iload_n 3, 1) := by decide +kernel
theorem dL_law_250 : decode cL_law 250 = .ok (.iconst 1, 1) := by decide +kernel
theorem dL_law_251 : decode cL_law 251 = .ok (.iadd, 1) := by decide +kernel
theorem dL_law_252 : decode cL_law 252 = .ok (.iaload, 1) := by decide +kernel
theorem dL_law_253 : decode cL_law 253 = .ok (.aload_n 0, 1) := by decide +kernel
theorem dL_law_254 : decode cL_law 254 = .ok (.iload_n 3, 1) := by decide +kernel
theorem dL_law_255 : decode cL_law 255 = .ok (.iconst 2, 1) := by decide +kernel
theorem dL_law_256 : decode cL_law 256 = .ok (.iadd, 1) := by decide +kernel
theorem dL_law_257 : decode cL_law 257 = .ok (.iaload, 1) := by decide +kernel
theorem dL_law_258 : decode cL_law 258 = .ok (.aload_n 0, 1) := by decide +kernel
theorem dL_law_259 : decode cL_law 259 = .ok (.iload_n 3, 1) := by decide +kernel
theorem dL_law_260 : decode cL_law 260 = .ok (.iconst 3, 1) := by decide +kernel
theorem dL_law_261 : decode cL_law 261 = .ok (.iadd, 1) := by decide +kernel
theorem dL_law_262 : decode cL_law 262 = .ok (.iaload, 1) := by decide +kernel
theorem dL_law_263 : decode cL_law 263 = .ok (.invokevirtual 36, 3) := by decide +kernel
theorem dL_law_266 : decode cL_law 266 = .ok (.if_icmp .eq 358, 3) := by decide +kernel
theorem dL_law_269 : decode cL_law 269 = .ok (.iconst 0, 1) := by decide +kernel
theorem dL_law_270 : decode cL_law 270 = .ok (.ireturn, 1) := by decide +kernel
theorem dL_law_271 : decode cL_law 271 = .ok (.aload_n 1, 1) := by decide +kernel
theorem dL_law_272 : decode cL_law 272 = .ok (.aload_n 0, 1) := by decide +kernel
theorem dL_law_273 : decode cL_law 273 = .ok (.iload_n 3, 1) := by decide +kernel
theorem dL_law_274 : decode cL_law 274 = .ok (.iconst 1, 1) := by decide +kernel
theorem dL_law_275 : decode cL_law 275 = .ok (.iadd, 1) := by decide +kernel
theorem dL_law_276 : decode cL_law 276 = .ok (.iaload, 1) := by decide +kernel
theorem dL_law_277 : decode cL_law 277 = .ok (.aload_n 0, 1) := by decide +kernel
theorem dL_law_278 : decode cL_law 278 = .ok (.iload_n 3, 1) := by decide +kernel
theorem dL_law_279 : decode cL_law 279 = .ok (.iconst 2, 1) := by decide +kernel
theorem dL_law_280 : decode cL_law 280 = .ok (.iadd, 1) := by decide +kernel
theorem dL_law_281 : decode cL_law 281 = .ok (.iaload, 1) := by decide +kernel
theorem dL_law_282 : decode cL_law 282 = .ok (.invokevirtual 37, 3) := by decide +kernel
theorem dL_law_285 : decode cL_law 285 = .ok (.aload_n 2, 1) := by decide +kernel
theorem dL_law_286 : decode cL_law 286 = .ok (.aload_n 0, 1) := by decide +kernel
theorem dL_law_287 : decode cL_law 287 = .ok (.iload_n 3, 1) := by decide +kernel
theorem dL_law_288 : decode cL_law 288 = .ok (.iconst 1, 1) := by decide +kernel
theorem dL_law_289 : decode cL_law 289 = .ok (.iadd, 1) := by decide +kernel
theorem dL_law_290 : decode cL_law 290 = .ok (.iaload, 1) := by decide +kernel
theorem dL_law_291 : decode cL_law 291 = .ok (.aload_n 0, 1) := by decide +kernel
theorem dL_law_292 : decode cL_law 292 = .ok (.iload_n 3, 1) := by decide +kernel
theorem dL_law_293 : decode cL_law 293 = .ok (.iconst 2, 1) := by decide +kernel
theorem dL_law_294 : decode cL_law 294 = .ok (.iadd, 1) := by decide +kernel
theorem dL_law_295 : decode cL_law 295 = .ok (.iaload, 1) := by decide +kernel
theorem dL_law_296 : decode cL_law 296 = .ok (.invokevirtual 40, 3) := by decide +kernel
theorem dL_law_299 : decode cL_law 299 = .ok (.if_icmp .eq 325, 3) := by decide +kernel
theorem dL_law_302 : decode cL_law 302 = .ok (.iconst 0, 1) := by decide +kernel
theorem dL_law_303 : decode cL_law 303 = .ok (.ireturn, 1) := by decide +kernel
theorem dL_law_304 : decode cL_law 304 = .ok (.aload_n 1, 1) := by decide +kernel
theorem dL_law_305 : decode cL_law 305 = .ok (.aload_n 0, 1) := by decide +kernel
theorem dL_law_306 : decode cL_law 306 = .ok (.iload_n 3, 1) := by decide +kernel
theorem dL_law_307 : decode cL_law 307 = .ok (.iconst 1, 1) := by decide +kernel
theorem dL_law_308 : decode cL_law 308 = .ok (.iadd, 1) := by decide +kernel
theorem dL_law_309 : decode cL_law 309 = .ok (.iaload, 1) := by decide +kernel
theorem dL_law_310 : decode cL_law 310 = .ok (.i2c, 1) := by decide +kernel
theorem dL_law_311 : decode cL_law 311 = .ok (.invokevirtual 41, 3) := by decide +kernel
theorem dL_law_314 : decode cL_law 314 = .ok (.aload_n 2, 1) := by decide +kernel
theorem dL_law_315 : decode cL_law 315 = .ok (.aload_n 0, 1) := by decide +kernel
theorem dL_law_316 : decode cL_law 316 = .ok (.iload_n 3, 1) := by decide +kernel
theorem dL_law_317 : decode cL_law 317 = .ok (.iconst 1, 1) := by decide +kernel
theorem dL_law_318 : decode cL_law 318 = .ok (.iadd, 1) := by decide +kernel
theorem dL_law_319 : decode cL_law 319 = .ok (.iaload, 1) := by decide +kernel
theorem dL_law_320 : decode cL_law 320 = .ok (.i2c, 1) := by decide +kernel
theorem dL_law_321 : decode cL_law 321 = .ok (.invokevirtual 45, 3) := by decide +kernel
theorem dL_law_324 : decode cL_law 324 = .ok (.if_icmp .eq 300, 3) := by decide +kernel
theorem dL_law_327 : decode cL_law 327 = .ok (.iconst 0, 1) := by decide +kernel
theorem dL_law_328 : decode cL_law 328 = .ok (.ireturn, 1) := by decide +kernel
theorem dL_law_329 : decode cL_law 329 = .ok (.aload_n 1, 1) := by decide +kernel
theorem dL_law_330 : decode cL_law 330 = .ok (.invokevirtual 46, 3) := by decide +kernel
theorem dL_law_333 : decode cL_law 333 = .ok (.aload_n 2, 1) := by decide +kernel
theorem dL_law_334 : decode cL_law 334 = .ok (.invokevirtual 49, 3) := by decide +kernel
theorem dL_law_337 : decode cL_law 337 = .ok (.if_icmp .eq 287, 3) := by decide +kernel
theorem dL_law_340 : decode cL_law 340 = .ok (.iconst 0, 1) := by decide +kernel
theorem dL_law_341 : decode cL_law 341 = .ok (.ireturn, 1) := by decide +kernel
theorem dL_law_342 : decode cL_law 342 = .ok (.aload_n 1, 1) := by decide +kernel
theorem dL_law_343 : decode cL_law 343 = .ok (.invokevirtual 50, 3) := by decide +kernel
theorem dL_law_346 : decode cL_law 346 = .ok (.aload_n 2, 1) := by decide +kernel
theorem dL_law_347 : decode cL_law 347 = .ok (.invokevirtual 53, 3) := by decide +kernel
theorem dL_law_350 : decode cL_law 350 = .ok (.if_icmp .eq 274, 3) := by decide +kernel
theorem dL_law_353 : decode cL_law 353 = .ok (.iconst 0, 1) := by decide +kernel
theorem dL_law_354 : decode cL_law 354 = .ok (.ireturn, 1) := by decide +kernel
theorem dL_law_355 : decode cL_law 355 = .ok (.aload_n 1, 1) := by decide +kernel
theorem dL_law_356 : decode cL_law 356 = .ok (.invokevirtual 54, 3) := by decide +kernel
theorem dL_law_359 : decode cL_law 359 = .ok (.aload_n 2, 1) := by decide +kernel
theorem dL_law_360 : decode cL_law 360 = .ok (.invokevirtual 57, 3) := by decide +kernel
theorem dL_law_363 : decode cL_law 363 = .ok (.if_icmp .eq 261, 3) := by decide +kernel
theorem dL_law_366 : decode cL_law 366 = .ok (.iconst 0, 1) := by decide +kernel
theorem dL_law_367 : decode cL_law 367 = .ok (.ireturn, 1) := by decide +kernel
theorem dL_law_368 : decode cL_law 368 = .ok (.aload_n 1, 1) := by decide +kernel
theorem dL_law_369 : decode cL_law 369 = .ok (.invokevirtual 58, 3) := by decide +kernel
theorem dL_law_372 : decode cL_law 372 = .ok (.aload_n 2, 1) := by decide +kernel
theorem dL_law_373 : decode cL_law 373 = .ok (.invokevirtual 61, 3) := by decide +kernel
theorem dL_law_376 : decode cL_law 376 = .ok (.if_icmp .eq 248, 3) := by decide +kernel
theorem dL_law_379 : decode cL_law 379 = .ok (.iconst 0, 1) := by decide +kernel
theorem dL_law_380 : decode cL_law 380 = .ok (.ireturn, 1) := by decide +kernel
theorem dL_law_381 : decode cL_law 381 = .ok (.aload_n 1, 1) := by decide +kernel
theorem dL_law_382 : decode cL_law 382 = .ok (.invokevirtual 62, 3) := by decide +kernel
theorem dL_law_385 : decode cL_law 385 = .ok (.aload_n 2, 1) := by decide +kernel
theorem dL_law_386 : decode cL_law 386 = .ok (.invokevirtual 65, 3) := by decide +kernel
theorem dL_law_389 : decode cL_law 389 = .ok (.if_icmp .eq 235, 3) := by decide +kernel
theorem dL_law_392 : decode cL_law 392 = .ok (.iconst 0, 1) := by decide +kernel
theorem dL_law_393 : decode cL_law 393 = .ok (.ireturn, 1) := by decide +kernel
theorem dL_law_394 : decode cL_law 394 = .ok (.aload_n 1, 1) := by decide +kernel
theorem dL_law_395 : decode cL_law 395 = .ok (.aload_n 0, 1) := by decide +kernel
theorem dL_law_396 : decode cL_law 396 = .ok (.iload_n 3, 1) := by decide +kernel
theorem dL_law_397 : decode cL_law 397 = .ok (.iconst 1, 1) := by decide +kernel
theorem dL_law_398 : decode cL_law 398 = .ok (.iadd, 1) := by decide +kernel
theorem dL_law_399 : decode cL_law 399 = .ok (.iaload, 1) := by decide +kernel
theorem dL_law_400 : decode cL_law 400 = .ok (.aload_n 0, 1) := by decide +kernel
theorem dL_law_401 : decode cL_law 401 = .ok (.iload_n 3, 1) := by decide +kernel
theorem dL_law_402 : decode cL_law 402 = .ok (.iconst 2, 1) := by decide +kernel
theorem dL_law_403 : decode cL_law 403 = .ok (.iadd, 1) := by decide +kernel
theorem dL_law_404 : decode cL_law 404 = .ok (.iaload, 1) := by decide +kernel
theorem dL_law_405 : decode cL_law 405 = .ok (.invokevirtual 66, 3) := by decide +kernel
theorem dL_law_408 : decode cL_law 408 = .ok (.aload_n 2, 1) := by decide +kernel
theorem dL_law_409 : decode cL_law 409 = .ok (.aload_n 0, 1) := by decide +kernel
theorem dL_law_410 : decode cL_law 410 = .ok (.iload_n 3, 1) := by decide +kernel
theorem dL_law_411 : decode cL_law 411 = .ok (.iconst 1, 1) := by decide +kernel
theorem dL_law_412 : decode cL_law 412 = .ok (.iadd, 1) := by decide +kernel
theorem dL_law_413 : decode cL_law 413 = .ok (.iaload, 1) := by decide +kernel
theorem dL_law_414 : decode cL_law 414 = .ok (.aload_n 0, 1) := by decide +kernel
theorem dL_law_415 : decode cL_law 415 = .ok (.iload_n 3, 1) := by decide +kernel
theorem dL_law_416 : decode cL_law 416 = .ok (.iconst 2, 1) := by decide +kernel
theorem dL_law_417 : decode cL_law 417 = .ok (.iadd, 1) := by decide +kernel
theorem dL_law_418 : decode cL_law 418 = .ok (.iaload, 1) := by decide +kernel
theorem dL_law_419 : decode cL_law 419 = .ok (.invokevirtual 69, 3) := by decide +kernel
theorem dL_law_422 : decode cL_law 422 = .ok (.if_icmp .eq 202, 3) := by decide +kernel
theorem dL_law_425 : decode cL_law 425 = .ok (.iconst 0, 1) := by decide +kernel
theorem dL_law_426 : decode cL_law 426 = .ok (.ireturn, 1) := by decide +kernel
theorem dL_law_427 : decode cL_law 427 = .ok (.aload_n 1, 1) := by decide +kernel
theorem dL_law_428 : decode cL_law 428 = .ok (.aload_n 0, 1) := by decide +kernel
theorem dL_law_429 : decode cL_law 429 = .ok (.iload_n 3, 1) := by decide +kernel
theorem dL_law_430 : decode cL_law 430 = .ok (.iconst 1, 1) := by decide +kernel
theorem dL_law_431 : decode cL_law 431 = .ok (.iadd, 1) := by decide +kernel
theorem dL_law_432 : decode cL_law 432 = .ok (.iaload, 1) := by decide +kernel
theorem dL_law_433 : decode cL_law 433 = .ok (.invokevirtual 70, 3) := by decide +kernel
theorem dL_law_436 : decode cL_law 436 = .ok (.aload_n 2, 1) := by decide +kernel
theorem dL_law_437 : decode cL_law 437 = .ok (.aload_n 0, 1) := by decide +kernel
theorem dL_law_438 : decode cL_law 438 = .ok (.iload_n 3, 1) := by decide +kernel
theorem dL_law_439 : decode cL_law 439 = .ok (.iconst 1, 1) := by decide +kernel
theorem dL_law_440 : decode cL_law 440 = .ok (.iadd, 1) := by decide +kernel
theorem dL_law_441 : decode cL_law 441 = .ok (.iaload, 1) := by decide +kernel
theorem dL_law_442 : decode cL_law 442 = .ok (.invokevirtual 73, 3) := by decide +kernel
theorem dL_law_445 : decode cL_law 445 = .ok (.if_icmp .eq 179, 3) := by decide +kernel
theorem dL_law_448 : decode cL_law 448 = .ok (.iconst 0, 1) := by decide +kernel
theorem dL_law_449 : decode cL_law 449 = .ok (.ireturn, 1) := by decide +kernel
theorem dL_law_450 : decode cL_law 450 = .ok (.aload_n 1, 1) := by decide +kernel
theorem dL_law_451 : decode cL_law 451 = .ok (.aload_n 0, 1) := by decide +kernel
theorem dL_law_452 : decode cL_law 452 = .ok (.iload_n 3, 1) := by decide +kernel
theorem dL_law_453 : decode cL_law 453 = .ok (.iconst 1, 1) := by decide +kernel
theorem dL_law_454 : decode cL_law 454 = .ok (.iadd, 1) := by decide +kernel
theorem dL_law_455 : decode cL_law 455 = .ok (.iaload, 1) := by decide +kernel
theorem dL_law_456 : decode cL_law 456 = .ok (.aload_n 0, 1) := by decide +kernel
theorem dL_law_457 : decode cL_law 457 = .ok (.iload_n 3, 1) := by decide +kernel
theorem dL_law_458 : decode cL_law 458 = .ok (.iconst 2, 1) := by decide +kernel
theorem dL_law_459 : decode cL_law 459 = .ok (.iadd, 1) := by decide +kernel
theorem dL_law_460 : decode cL_law 460 = .ok (.iaload, 1) := by decide +kernel
theorem dL_law_461 : decode cL_law 461 = .ok (.invokevirtual 74, 3) := by decide +kernel
theorem dL_law_464 : decode cL_law 464 = .ok (.aload_n 2, 1) := by decide +kernel
theorem dL_law_465 : decode cL_law 465 = .ok (.aload_n 0, 1) := by decide +kernel
theorem dL_law_466 : decode cL_law 466 = .ok (.iload_n 3, 1) := by decide +kernel
theorem dL_law_467 : decode cL_law 467 = .ok (.iconst 1, 1) := by decide +kernel
theorem dL_law_468 : decode cL_law 468 = .ok (.iadd, 1) := by decide +kernel
theorem dL_law_469 : decode cL_law 469 = .ok (.iaload, 1) := by decide +kernel
theorem dL_law_470 : decode cL_law 470 = .ok (.aload_n 0, 1) := by decide +kernel
theorem dL_law_471 : decode cL_law 471 = .ok (.iload_n 3, 1) := by decide +kernel
theorem dL_law_472 : decode cL_law 472 = .ok (.iconst 2, 1) := by decide +kernel
theorem dL_law_473 : decode cL_law 473 = .ok (.iadd, 1) := by decide +kernel
theorem dL_law_474 : decode cL_law 474 = .ok (.iaload, 1) := by decide +kernel
theorem dL_law_475 : decode cL_law 475 = .ok (.invokevirtual 77, 3) := by decide +kernel
theorem dL_law_478 : decode cL_law 478 = .ok (.if_icmp .eq 146, 3) := by decide +kernel
theorem dL_law_481 : decode cL_law 481 = .ok (.iconst 0, 1) := by decide +kernel
theorem dL_law_482 : decode cL_law 482 = .ok (.ireturn, 1) := by decide +kernel
theorem dL_law_483 : decode cL_law 483 = .ok (.aload_n 1, 1) := by decide +kernel
theorem dL_law_484 : decode cL_law 484 = .ok (.aload_n 0, 1) := by decide +kernel
theorem dL_law_485 : decode cL_law 485 = .ok (.iload_n 3, 1) := by decide +kernel
theorem dL_law_486 : decode cL_law 486 = .ok (.iconst 1, 1) := by decide +kernel
theorem dL_law_487 : decode cL_law 487 = .ok (.iadd, 1) := by decide +kernel
theorem dL_law_488 : decode cL_law 488 = .ok (.iaload, 1) := by decide +kernel
theorem dL_law_489 : decode cL_law 489 = .ok (.aload_n 0, 1) := by decide +kernel
theorem dL_law_490 : decode cL_law 490 = .ok (.iload_n 3, 1) := by decide +kernel
theorem dL_law_491 : decode cL_law 491 = .ok (.iconst 2, 1) := by decide +kernel
theorem dL_law_492 : decode cL_law 492 = .ok (.iadd, 1) := by decide +kernel
theorem dL_law_493 : decode cL_law 493 = .ok (.iaload, 1) := by decide +kernel
theorem dL_law_494 : decode cL_law 494 = .ok (.invokevirtual 78, 3) := by decide +kernel
theorem dL_law_497 : decode cL_law 497 = .ok (.aload_n 2, 1) := by decide +kernel
theorem dL_law_498 : decode cL_law 498 = .ok (.aload_n 0, 1) := by decide +kernel
theorem dL_law_499 : decode cL_law 499 = .ok (.iload_n 3, 1) := by decide +kernel
theorem dL_law_500 : decode cL_law 500 = .ok (.iconst 1, 1) := by decide +kernel
theorem dL_law_501 : decode cL_law 501 = .ok (.iadd, 1) := by decide +kernel
theorem dL_law_502 : decode cL_law 502 = .ok (.iaload, 1) := by decide +kernel
theorem dL_law_503 : decode cL_law 503 = .ok (.aload_n 0, 1) := by decide +kernel
theorem dL_law_504 : decode cL_law 504 = .ok (.iload_n 3, 1) := by decide +kernel
theorem dL_law_505 : decode cL_law 505 = .ok (.iconst 2, 1) := by decide +kernel
theorem dL_law_506 : decode cL_law 506 = .ok (.iadd, 1) := by decide +kernel
theorem dL_law_507 : decode cL_law 507 = .ok (.iaload, 1) := by decide +kernel
theorem dL_law_508 : decode cL_law 508 = .ok (.invokevirtual 81, 3) := by decide +kernel
theorem dL_law_511 : decode cL_law 511 = .ok (.if_icmp .eq 113, 3) := by decide +kernel
theorem dL_law_514 : decode cL_law 514 = .ok (.iconst 0, 1) := by decide +kernel
theorem dL_law_515 : decode cL_law 515 = .ok (.ireturn, 1) := by decide +kernel
theorem dL_law_516 : decode cL_law 516 = .ok (.aload_n 1, 1) := by decide +kernel
theorem dL_law_517 : decode cL_law 517 = .ok (.aload_n 0, 1) := by decide +kernel
theorem dL_law_518 : decode cL_law 518 = .ok (.iload_n 3, 1) := by decide +kernel
theorem dL_law_519 : decode cL_law 519 = .ok (.iconst 1, 1) := by decide +kernel
theorem dL_law_520 : decode cL_law 520 = .ok (.iadd, 1) := by decide +kernel
theorem dL_law_521 : decode cL_law 521 = .ok (.iaload, 1) := by decide +kernel
theorem dL_law_522 : decode cL_law 522 = .ok (.invokevirtual 82, 3) := by decide +kernel
theorem dL_law_525 : decode cL_law 525 = .ok (.aload_n 2, 1) := by decide +kernel
theorem dL_law_526 : decode cL_law 526 = .ok (.aload_n 0, 1) := by decide +kernel
theorem dL_law_527 : decode cL_law 527 = .ok (.iload_n 3, 1) := by decide +kernel
theorem dL_law_528 : decode cL_law 528 = .ok (.iconst 1, 1) := by decide +kernel
theorem dL_law_529 : decode cL_law 529 = .ok (.iadd, 1) := by decide +kernel
theorem dL_law_530 : decode cL_law 530 = .ok (.iaload, 1) := by decide +kernel
theorem dL_law_531 : decode cL_law 531 = .ok (.invokevirtual 85, 3) := by decide +kernel
theorem dL_law_534 : decode cL_law 534 = .ok (.if_icmp .eq 90, 3) := by decide +kernel
theorem dL_law_537 : decode cL_law 537 = .ok (.iconst 0, 1) := by decide +kernel
theorem dL_law_538 : decode cL_law 538 = .ok (.ireturn, 1) := by decide +kernel
theorem dL_law_539 : decode cL_law 539 = .ok (.aload_n 1, 1) := by decide +kernel
theorem dL_law_540 : decode cL_law 540 = .ok (.invokevirtual 86, 3) := by decide +kernel
theorem dL_law_543 : decode cL_law 543 = .ok (.aload_n 2, 1) := by decide +kernel
theorem dL_law_544 : decode cL_law 544 = .ok (.invokevirtual 89, 3) := by decide +kernel
theorem dL_law_547 : decode cL_law 547 = .ok (.if_icmp .eq 77, 3) := by decide +kernel
theorem dL_law_550 : decode cL_law 550 = .ok (.iconst 0, 1) := by decide +kernel
theorem dL_law_551 : decode cL_law 551 = .ok (.ireturn, 1) := by decide +kernel
theorem dL_law_552 : decode cL_law 552 = .ok (.aload_n 1, 1) := by decide +kernel
theorem dL_law_553 : decode cL_law 553 = .ok (.invokevirtual 90, 3) := by decide +kernel
theorem dL_law_556 : decode cL_law 556 = .ok (.aload_n 2, 1) := by decide +kernel
theorem dL_law_557 : decode cL_law 557 = .ok (.invokevirtual 93, 3) := by decide +kernel
theorem dL_law_560 : decode cL_law 560 = .ok (.if_icmp .eq 64, 3) := by decide +kernel
theorem dL_law_563 : decode cL_law 563 = .ok (.iconst 0, 1) := by decide +kernel
theorem dL_law_564 : decode cL_law 564 = .ok (.ireturn, 1) := by decide +kernel
theorem dL_law_565 : decode cL_law 565 = .ok (.aload_n 1, 1) := by decide +kernel
theorem dL_law_566 : decode cL_law 566 = .ok (.aload_n 0, 1) := by decide +kernel
theorem dL_law_567 : decode cL_law 567 = .ok (.iload_n 3, 1) := by decide +kernel
theorem dL_law_568 : decode cL_law 568 = .ok (.iconst 1, 1) := by decide +kernel
theorem dL_law_569 : decode cL_law 569 = .ok (.iadd, 1) := by decide +kernel
theorem dL_law_570 : decode cL_law 570 = .ok (.iaload, 1) := by decide +kernel
theorem dL_law_571 : decode cL_law 571 = .ok (.aload_n 0, 1) := by decide +kernel
theorem dL_law_572 : decode cL_law 572 = .ok (.iload_n 3, 1) := by decide +kernel
theorem dL_law_573 : decode cL_law 573 = .ok (.iconst 2, 1) := by decide +kernel
theorem dL_law_574 : decode cL_law 574 = .ok (.iadd, 1) := by decide +kernel
theorem dL_law_575 : decode cL_law 575 = .ok (.iaload, 1) := by decide +kernel
theorem dL_law_576 : decode cL_law 576 = .ok (.invokevirtual 94, 3) := by decide +kernel
theorem dL_law_579 : decode cL_law 579 = .ok (.aload_n 2, 1) := by decide +kernel
theorem dL_law_580 : decode cL_law 580 = .ok (.aload_n 0, 1) := by decide +kernel
theorem dL_law_581 : decode cL_law 581 = .ok (.iload_n 3, 1) := by decide +kernel
theorem dL_law_582 : decode cL_law 582 = .ok (.iconst 1, 1) := by decide +kernel
theorem dL_law_583 : decode cL_law 583 = .ok (.iadd, 1) := by decide +kernel
theorem dL_law_584 : decode cL_law 584 = .ok (.iaload, 1) := by decide +kernel
theorem dL_law_585 : decode cL_law 585 = .ok (.aload_n 0, 1) := by decide +kernel
theorem dL_law_586 : decode cL_law 586 = .ok (.iload_n 3, 1) := by decide +kernel
theorem dL_law_587 : decode cL_law 587 = .ok (.iconst 2, 1) := by decide +kernel
theorem dL_law_588 : decode cL_law 588 = .ok (.iadd, 1) := by decide +kernel
theorem dL_law_589 : decode cL_law 589 = .ok (.iaload, 1) := by decide +kernel
theorem dL_law_590 : decode cL_law 590 = .ok (.invokevirtual 97, 3) := by decide +kernel
theorem dL_law_593 : decode cL_law 593 = .ok (.if_icmp .eq 31, 3) := by decide +kernel
theorem dL_law_596 : decode cL_law 596 = .ok (.iconst 0, 1) := by decide +kernel
theorem dL_law_597 : decode cL_law 597 = .ok (.ireturn, 1) := by decide +kernel
theorem dL_law_598 : decode cL_law 598 = .ok (.aload_n 1, 1) := by decide +kernel
theorem dL_law_599 : decode cL_law 599 = .ok (.invokevirtual 98, 3) := by decide +kernel
theorem dL_law_602 : decode cL_law 602 = .ok (.aload_n 2, 1) := by decide +kernel
theorem dL_law_603 : decode cL_law 603 = .ok (.invokevirtual 101, 3) := by decide +kernel
theorem dL_law_606 : decode cL_law 606 = .ok (.if_icmp .eq 18, 3) := by decide +kernel
theorem dL_law_609 : decode cL_law 609 = .ok (.iconst 0, 1) := by decide +kernel
theorem dL_law_610 : decode cL_law 610 = .ok (.ireturn, 1) := by decide +kernel
theorem dL_law_611 : decode cL_law 611 = .ok (.aload_n 1, 1) := by decide +kernel
theorem dL_law_612 : decode cL_law 612 = .ok (.invokevirtual 102, 3) := by decide +kernel
theorem dL_law_615 : decode cL_law 615 = .ok (.aload_n 2, 1) := by decide +kernel
theorem dL_law_616 : decode cL_law 616 = .ok (.invokevirtual 105, 3) := by decide +kernel
theorem dL_law_619 : decode cL_law 619 = .ok (.if_icmp .eq 5, 3) := by decide +kernel
theorem dL_law_622 : decode cL_law 622 = .ok (.iconst 0, 1) := by decide +kernel
theorem dL_law_623 : decode cL_law 623 = .ok (.ireturn, 1) := by decide +kernel
theorem dL_law_624 : decode cL_law 624 = .ok (.iinc 3 4, 3) := by decide +kernel
theorem dL_law_627 : decode cL_law 627 = .ok (.goto (-609), 3) := by decide +kernel
theorem dL_law_630 : decode cL_law 630 = .ok (.iconst 1, 1) := by decide +kernel
theorem dL_law_631 : decode cL_law 631 = .ok (.ireturn, 1) := by decide +kernel
end
section
/-! the world as blocks, a state by its place, locals and stack: J; each of the kit's rows said of J -/
def flE {α : Type} (x y : α) (l l' : List α) (k : Nat) : Prop := l[k]? = some x ∧ l.set k y = l'
theorem fl_pl : ∀ {Bs : List va_W} {i j : Nat} {b : va_W} {x : Nat × va_E}, Bs[i]? = some b → b[j]? = some x → ∃ k : Nat, Bs.flatten[k]? = some x ∧ ∀ y, Bs.flatten.set k y = (Bs.set i (b.set j y)).flatten
  | [], i, j, b, x, h1, _ => by simp at h1
  | b0 :: Bs, 0, j, b, x, h1, h2 => by
    have e : b0 = b := by simpa using h1
    subst e
    have hj : j < b0.length := (List.getElem?_eq_some_iff.mp h2).1
    refine ⟨j, ?_, fun y => ?_⟩
    · rw [List.flatten_cons, List.getElem?_append_left hj]; exact h2
    · rw [List.flatten_cons, List.set_append]; simp [hj]
  | b0 :: Bs, i + 1, j, b, x, h1, h2 => by
    have h1' : Bs[i]? = some b := by simpa using h1
    obtain ⟨k, g1, g2⟩ := fl_pl h1' h2
    refine ⟨b0.length + k, ?_, fun y => ?_⟩
    · rw [List.flatten_cons, List.getElem?_append_right (Nat.le_add_right _ _), Nat.add_sub_cancel_left]; exact g1
    · rw [List.flatten_cons, List.set_append, if_neg (Nat.not_lt.mpr (Nat.le_add_right _ _)), Nat.add_sub_cancel_left, g2 y]
      simp
def bA (Bs : List va_W) : Nat → Prop := fun q => ∃ x ∈ Bs.flatten, x.1 = q
theorem va_P_mem {D : va_G} {cl : List vw_C} {ws : va_W} {H : Heap} : va_P D cl ws H ↔ ∀ x ∈ ws, va_at D cl x H := by
  constructor
  · intro h x hx
    obtain ⟨i, hi⟩ := List.getElem?_of_mem hx
    exact h i x hi
  · intro h k q hk
    exact h q (List.mem_of_getElem? hk)
theorem va_D_iff {A : Nat → Prop} {ws : va_W} : va_D A ws ↔ (ws.map Prod.fst).Nodup ∧ ∀ a ∈ ws.map Prod.fst, A a := by
  constructor
  · intro h
    refine ⟨?_, ?_⟩
    · rw [List.Nodup, List.pairwise_iff_getElem]
      intro i j hi hj hij e
      have hi' : i < ws.length := by simpa using hi
      have hj' : j < ws.length := by simpa using hj
      have := h.1 i j ws[i] ws[j] (List.getElem?_eq_getElem hi') (List.getElem?_eq_getElem hj') (by simpa using e)
      omega
    · intro a ha
      obtain ⟨x, hx, rfl⟩ := List.mem_map.mp ha
      obtain ⟨i, hi⟩ := List.getElem?_of_mem hx
      exact h.2 i x hi
  · intro h
    refine ⟨?_, ?_⟩
    · intro i j x y hx hy e
      have hi := (List.getElem?_eq_some_iff.mp hx)
      have hj := (List.getElem?_eq_some_iff.mp hy)
      obtain ⟨hi, rfl⟩ := hi
      obtain ⟨hj, rfl⟩ := hj
      have hn := List.pairwise_iff_getElem.mp h.1
      rcases Nat.lt_trichotomy i j with q | q | q
      · exact absurd (by rw [List.getElem_map, List.getElem_map]; exact e) (hn i j (by simpa using hi) (by simpa using hj) q)
      · exact q
      · exact absurd (by rw [List.getElem_map, List.getElem_map]; exact e.symm) (hn j i (by simpa using hj) (by simpa using hi) q)
    · intro k q hk
      exact h.2 _ (List.mem_map_of_mem (List.mem_of_getElem? hk))
/-- the blocks of a callee, put back at their places -/
def putL : List va_W → List Nat → List va_W → List va_W
  | Bs, i :: is, b :: bs => putL (Bs.set i b) is bs
  | Bs, _, _ => Bs
def adr (Bs : List va_W) : List (List Nat) := Bs.map (fun b => b.map Prod.fst)
theorem adr_flat (Bs : List va_W) : Bs.flatten.map Prod.fst = (adr Bs).flatten := by
  unfold adr
  rw [List.map_flatten]
theorem putL_adr : ∀ {sel : List Nat} {Bs Bc Bc' : List va_W}, sel.map (fun i => Bs[i]?) = Bc.map some → adr Bc' = adr Bc → va_nd sel = true → adr (putL Bs sel Bc') = adr Bs
  | [], Bs, Bc, Bc', h, e, _ => by cases Bc' <;> rfl
  | i :: is, Bs, [], Bc', h, e, _ => by simp at h
  | i :: is, Bs, b :: bs, [], h, e, _ => by simp [adr] at e
  | i :: is, Bs, b :: bs, b' :: bs', h, e, hn => by
    simp only [List.map_cons, List.cons.injEq] at h
    simp only [adr, List.map_cons, List.cons.injEq] at e
    simp only [va_nd, Bool.and_eq_true, decide_eq_true_eq] at hn
    have hi : i < Bs.length := (List.getElem?_eq_some_iff.mp h.1).1
    have h2 : is.map (fun k => (Bs.set i b')[k]?) = bs.map some := by
      rw [← h.2]
      apply List.map_congr_left
      intro k hk
      have : i ≠ k := fun q => hn.1 (q ▸ hk)
      rw [List.getElem?_set_ne this]
    have := putL_adr (Bs := Bs.set i b') (Bc := bs) (Bc' := bs') h2 e.2 hn.2
    show adr (putL (Bs.set i b') is bs') = adr Bs
    rw [this]
    unfold adr
    rw [List.map_set, e.1]
    apply List.ext_getElem?
    intro k
    by_cases hk : i = k
    · subst hk
      rw [List.getElem?_set_self (by simpa using hi)]
      simp [h.1]
    · rw [List.getElem?_set_ne hk]
theorem putL_mem : ∀ {sel : List Nat} {Bs Bc Bc' : List va_W} {k : Nat} {b : va_W}, sel.map (fun i => Bs[i]?) = Bc.map some → (putL Bs sel Bc')[k]? = some b → va_nd sel = true → b ∈ Bc' ∨ (Bs[k]? = some b ∧ (k ∉ sel ∨ Bc'.length < sel.length))
  | [], Bs, Bc, Bc', k, b, h, hk, _ => by
    have : putL Bs [] Bc' = Bs := by cases Bc' <;> rfl
    rw [this] at hk
    exact Or.inr ⟨hk, Or.inl (by simp)⟩
  | i :: is, Bs, Bc, [], k, b, h, hk, _ => Or.inr ⟨hk, Or.inr (by simp)⟩
  | i :: is, Bs, [], b' :: bs', k, b, h, hk, _ => by simp at h
  | i :: is, Bs, b0 :: bs, b' :: bs', k, b, h, hk, hn => by
    simp only [List.map_cons, List.cons.injEq] at h
    simp only [va_nd, Bool.and_eq_true, decide_eq_true_eq] at hn
    have hi : i < Bs.length := (List.getElem?_eq_some_iff.mp h.1).1
    have h2 : is.map (fun k => (Bs.set i b')[k]?) = bs.map some := by
      rw [← h.2]
      apply List.map_congr_left
      intro k hk
      have : i ≠ k := fun q => hn.1 (q ▸ hk)
      rw [List.getElem?_set_ne this]
    rcases putL_mem (Bs := Bs.set i b') (Bc := bs) (Bc' := bs') h2 hk hn.2 with q | ⟨q1, q2⟩
    · exact Or.inl (List.mem_cons_of_mem _ q)
    · by_cases hik : i = k
      · subst hik
        rw [List.getElem?_set_self hi] at q1
        cases q1
        exact Or.inl List.mem_cons_self
      · rw [List.getElem?_set_ne hik] at q1
        refine Or.inr ⟨q1, ?_⟩
        rcases q2 with q2 | q2
        · exact Or.inl (fun hm => by rcases List.mem_cons.mp hm with e | e; exact hik e.symm; exact q2 e)
        · exact Or.inr (by simpa using q2)
theorem fl_apart {A : Nat → Prop} {Bs : List va_W} (hD : va_D A Bs.flatten) {i j : Nat} {b1 b2 : va_W} (h1 : Bs[i]? = some b1) (h2 : Bs[j]? = some b2) (hij : i ≠ j) {x y : Nat × va_E} (hx : x ∈ b1) (hy : y ∈ b2) : x.1 ≠ y.1 := by
  have hn := (va_D_iff.mp hD).1
  rw [adr_flat, List.Nodup, List.pairwise_flatten] at hn
  have hp := List.pairwise_iff_getElem.mp hn.2
  obtain ⟨hi, e1⟩ := List.getElem?_eq_some_iff.mp h1
  obtain ⟨hj, e2⟩ := List.getElem?_eq_some_iff.mp h2
  have m1 : x.1 ∈ b1.map Prod.fst := List.mem_map_of_mem hx
  have m2 : y.1 ∈ b2.map Prod.fst := List.mem_map_of_mem hy
  rcases Nat.lt_or_gt_of_ne hij with q | q
  · exact hp i j (by simpa [adr] using hi) (by simpa [adr] using hj) q x.1 (by simpa [adr, e1] using m1) y.1 (by simpa [adr, e2] using m2)
  · exact fun e => hp j i (by simpa [adr] using hj) (by simpa [adr] using hi) q y.1 (by simpa [adr, e2] using m2) x.1 (by simpa [adr, e1] using m1) e.symm
theorem sel_mem {Bs Bc : List va_W} {sel : List Nat} (h : sel.map (fun i => Bs[i]?) = Bc.map some) {b : va_W} (hb : b ∈ Bc) : ∃ i ∈ sel, Bs[i]? = some b := by
  have : some b ∈ Bc.map some := List.mem_map_of_mem hb
  rw [← h] at this
  obtain ⟨i, hi, e⟩ := List.mem_map.mp this
  exact ⟨i, hi, e⟩
theorem va_D_adr {A : Nat → Prop} {Bs Bs' : List va_W} (h : va_D A Bs.flatten) (e : adr Bs' = adr Bs) : va_D A Bs'.flatten := by
  rw [va_D_iff, adr_flat, e, ← adr_flat]
  exact va_D_iff.mp h
theorem adr_set {Bs : List va_W} {i j : Nat} {b : va_W} {a : Nat} {e0 e : va_E} (h1 : Bs[i]? = some b) (h2 : b[j]? = some (a, e0)) : adr (Bs.set i (b.set j (a, e))) = adr Bs := by
  have hi : i < Bs.length := (List.getElem?_eq_some_iff.mp h1).1
  have hj : j < b.length := (List.getElem?_eq_some_iff.mp h2).1
  unfold adr
  rw [List.map_set, List.map_set]
  have e1 : (b.map Prod.fst).set j a = b.map Prod.fst := by
    apply List.ext_getElem?
    intro k
    by_cases hk : j = k
    · subst hk
      rw [List.getElem?_set_self (by simpa using hj)]
      simp [h2]
    · rw [List.getElem?_set_ne hk]
  rw [e1]
  apply List.ext_getElem?
  intro k
  by_cases hk : i = k
  · subst hk
    rw [List.getElem?_set_self (by simpa using hi)]
    simp [h1]
  · rw [List.getElem?_set_ne hk]
theorem fl_call {D : va_G} {A : Nat → Prop} {Bs Bc Bc' Bs' : List va_W} {sel : List Nat} {H H1 : Heap} (hP : va_P D vwCl Bs.flatten H) (hD : va_D A Bs.flatten) (hsel : sel.map (fun i => Bs[i]?) = Bc.map some) (hnd : va_nd sel = true) (hB : putL Bs sel Bc' = Bs') (had : adr Bc' = adr Bc)
    (hk : ∀ q : Nat, q < H.size → ¬ bA Bc q → H1[q]? = H[q]?) (hP1 : va_P D vwCl Bc'.flatten H1) : va_P D vwCl Bs'.flatten H1 ∧ va_D A Bs'.flatten := by
  refine ⟨?_, va_D_adr hD (by rw [← hB]; exact putL_adr hsel had hnd)⟩
  subst hB
  rw [va_P_mem] at hP hP1 ⊢
  intro x hx
  obtain ⟨b, hb, hxb⟩ := List.mem_flatten.mp hx
  obtain ⟨k, hkb⟩ := List.getElem?_of_mem hb
  rcases putL_mem hsel hkb hnd with q | ⟨q1, q2⟩
  · exact hP1 x (List.mem_flatten.mpr ⟨b, q, hxb⟩)
  · have hl : Bc'.length = sel.length := by
      have e1 : Bc'.length = Bc.length := by have := congrArg List.length had; simpa [adr] using this
      have e2 : sel.length = Bc.length := by have := congrArg List.length hsel; simpa using this
      omega
    have hks : k ∉ sel := by rcases q2 with q2 | q2; exact q2; omega
    have hat := hP x (List.mem_flatten.mpr ⟨b, List.mem_of_getElem? q1, hxb⟩)
    refine hat.kept (hk x.1 hat.lt ?_)
    rintro ⟨y, hy, e⟩
    obtain ⟨b2, hb2, hyb⟩ := List.mem_flatten.mp hy
    obtain ⟨i, hi, hib⟩ := sel_mem hsel hb2
    exact fl_apart hD hib q1 (fun z => hks (z ▸ hi)) hyb hxb e
theorem fl_sub {D : va_G} {A : Nat → Prop} {Bs Bc : List va_W} {sel : List Nat} {H : Heap} (hP : va_P D vwCl Bs.flatten H) (hD : va_D A Bs.flatten) (hsel : sel.map (fun i => Bs[i]?) = Bc.map some) (hnd : va_nd sel = true) : va_P D vwCl Bc.flatten H ∧ va_D A Bc.flatten ∧ ∀ q, bA Bc q → A q := by
  have hm : ∀ x ∈ Bc.flatten, x ∈ Bs.flatten := by
    intro x hx
    obtain ⟨b, hb, hxb⟩ := List.mem_flatten.mp hx
    obtain ⟨i, -, hi⟩ := sel_mem hsel hb
    exact List.mem_flatten.mpr ⟨b, List.mem_of_getElem? hi, hxb⟩
  have hA : ∀ q, bA Bc q → A q := by
    rintro q ⟨x, hx, rfl⟩
    exact (va_D_iff.mp hD).2 _ (List.mem_map_of_mem (hm x hx))
  refine ⟨va_P_mem.mpr (fun x hx => va_P_mem.mp hP x (hm x hx)), va_D_iff.mpr ⟨?_, ?_⟩, hA⟩
  · have hn := (va_D_iff.mp hD).1
    rw [adr_flat, List.Nodup, List.pairwise_flatten] at hn ⊢
    refine ⟨?_, ?_⟩
    · intro l hl
      obtain ⟨b, hb, rfl⟩ := List.mem_map.mp hl
      obtain ⟨i, -, hi⟩ := sel_mem hsel hb
      exact hn.1 _ (List.mem_map_of_mem (List.mem_of_getElem? hi))
    · have hl : sel.length = Bc.length := by have := congrArg List.length hsel; simpa using this
      rw [List.pairwise_iff_getElem]
      intro i j hi hj hij x hx y hy
      have hi' : i < Bc.length := by simpa [adr] using hi
      have hj' : j < Bc.length := by simpa [adr] using hj
      have at' : ∀ k (hk : k < Bc.length), Bs[sel[k]'(by omega)]? = some Bc[k] := by
        intro k hk
        have := congrArg (fun l => l[k]?) hsel
        simpa [hk, hl] using this
      have hne : sel[i]'(by omega) ≠ sel[j]'(by omega) := by
        intro e
        have := va_nd_inj sel hnd i j (sel[i]'(by omega)) (List.getElem?_eq_getElem (by omega)) (by rw [e]; exact List.getElem?_eq_getElem (by omega))
        omega
      have hx' : x ∈ (Bc[i]).map Prod.fst := by simpa [adr] using hx
      have hy' : y ∈ (Bc[j]).map Prod.fst := by simpa [adr] using hy
      obtain ⟨u, hu, rfl⟩ := List.mem_map.mp hx'
      obtain ⟨v, hv, rfl⟩ := List.mem_map.mp hy'
      exact fl_apart hD (at' i hi') (at' j hj') hne hu hv
  · intro a ha
    obtain ⟨x, hx, rfl⟩ := List.mem_map.mp ha
    exact hA _ ⟨x, hx, rfl⟩
def Cx (p : Program) (s : State) (m : MethodId) (args : Array Value) (meth : Method) (c : Code) (cc : ByteArray) (nL : Nat) (own : String) (Ts : List Cond) (D : va_G) (tys : List (ClassId × FieldType)) : Prop :=
  p.tables.exec = Jvm.exec ∧ c.code = cc ∧ c.maxLocals = nL ∧ s.vm.findClass own = some m.cls ∧ (∀ w ∈ Ts, w.before args s = true) ∧ va_K D vwCl tys s ∧ meth.locks = false
def J (p : Program) (l : Launch) (e : Env) (R : Room) (s : State) (m : MethodId) (args : Array Value) (below : List Frame) (meth : Method) (c : Code) (nL : Nat) (D : va_G) (A : Nat → Prop) (cells slots : Nat) (Q : State → Prop) (Bs : List va_W) (pc : Nat) (lv : List (Nat × Value)) (st : List Value) : Prop :=
  ∀ (H : Heap) (locs : List Loc) (ls : Array Slot), va_P D vwCl Bs.flatten H → va_D A Bs.flatten → va_S A s.heap H locs → lv_has ls nL lv → W p l e R s m args below meth c H locs cells slots Q (F0 m pc ls st)
section JR
variable {p : Program} {l : Launch} {e : Env} {R : Room} {s : State} {m : MethodId} {args : Array Value} {below : List Frame} {meth : Method} {c : Code} {cc : ByteArray} {nL : Nat} {own : String} {Ts : List Cond} {D : va_G} {tys : List (ClassId × FieldType)} {A : Nat → Prop} {cells slots : Nat} {Q : State → Prop} {Bs : List va_W} {lv : List (Nat × Value)} {st : List Value} {pc : Nat}
theorem nI_eq0 {x : Nat} (hx : x < 2 ^ 31) : nI x = 0 ↔ x = 0 := by rw [← nI_0]; exact nI_eq hx (by decide)
theorem nI_le0 {x : Nat} (hx : x < 2 ^ 31) : nI x ≤ 0 ↔ x = 0 := by rw [← nI_0, nI_leI hx (by decide)]; omega
theorem nI_lt0 {x : Nat} (hx : x < 2 ^ 31) : 0 < nI x ↔ 0 < x := by rw [← nI_0, nI_ltI (by decide) hx]
theorem j_top {x y : Int32} (h : x = y) (kk : J p l e R s m args below meth c nL D A cells slots Q Bs pc lv (.int y :: st)) : J p l e R s m args below meth c nL D A cells slots Q Bs pc lv (.int x :: st) := h ▸ kk
theorem j_st {st' : List Value} (h : st = st') (kk : J p l e R s m args below meth c nL D A cells slots Q Bs pc lv st') : J p l e R s m args below meth c nL D A cells slots Q Bs pc lv st := h ▸ kk
theorem j_pc {pc' : Nat} (h : pc = pc') (kk : J p l e R s m args below meth c nL D A cells slots Q Bs pc' lv st) : J p l e R s m args below meth c nL D A cells slots Q Bs pc lv st := h ▸ kk
theorem j_bs {Bs' : List va_W} (h : Bs = Bs') (kk : J p l e R s m args below meth c nL D A cells slots Q Bs' pc lv st) : J p l e R s m args below meth c nL D A cells slots Q Bs pc lv st := h ▸ kk
theorem j_nm {x : Int32} (kk : ∀ y : Int32, y = x → J p l e R s m args below meth c nL D A cells slots Q Bs pc lv (.int y :: st)) : J p l e R s m args below meth c nL D A cells slots Q Bs pc lv (.int x :: st) := kk x rfl
theorem j_lv {lv' : List (Nat × Value)} (ks : List Nat) (h : lv_pick lv ks = lv') (kk : J p l e R s m args below meth c nL D A cells slots Q Bs pc lv' st) : J p l e R s m args below meth c nL D A cells slots Q Bs pc lv st := fun H locs ls hP hD hS hl => kk H locs ls hP hD hS (lv_sub hl ks h)
theorem j_lvm {lv' : List (Nat × Value)} (h : ∀ q ∈ lv', q ∈ lv) (kk : J p l e R s m args below meth c nL D A cells slots Q Bs pc lv' st) : J p l e R s m args below meth c nL D A cells slots Q Bs pc lv st := fun H locs ls hP hD hS hl => kk H locs ls hP hD hS ⟨hl.1, hl.2.1, fun q hq => hl.2.2 q (h q hq)⟩
theorem j_aload_n (cx : Cx p s m args meth c cc nL own Ts D tys) {k : Fin 4} {a : Nat} (dg : decode cc pc = .ok (.aload_n k, 1)) (q : Nat) (hq : lv[q]? = some ((k : Nat), .ref a)) (kk : J p l e R s m args below meth c nL D A cells slots Q Bs (pc + 1) lv (.ref a :: st)) : J p l e R s m args below meth c nL D A cells slots Q Bs pc lv st :=
  fun H locs ls hP hD hS hl => lv_aload_n cx.1 cx.2.1 dg rfl (lv_at hl q hq) (kk H locs ls hP hD hS hl)
theorem j_iload_n (cx : Cx p s m args meth c cc nL own Ts D tys) {k : Fin 4} {x : Int32} (dg : decode cc pc = .ok (.iload_n k, 1)) (q : Nat) (hq : lv[q]? = some ((k : Nat), .int x)) (kk : J p l e R s m args below meth c nL D A cells slots Q Bs (pc + 1) lv (.int x :: st)) : J p l e R s m args below meth c nL D A cells slots Q Bs pc lv st :=
  fun H locs ls hP hD hS hl => lv_iload_n cx.1 cx.2.1 dg rfl (lv_at hl q hq) (kk H locs ls hP hD hS hl)
theorem j_iload (cx : Cx p s m args meth c cc nL own Ts D tys) {i : Nat} {x : Int32} (dg : decode cc pc = .ok (.iload i, 2)) (q : Nat) (hq : lv[q]? = some (i, .int x)) (kk : J p l e R s m args below meth c nL D A cells slots Q Bs (pc + 2) lv (.int x :: st)) : J p l e R s m args below meth c nL D A cells slots Q Bs pc lv st :=
  fun H locs ls hP hD hS hl => lv_iload cx.1 cx.2.1 dg (lv_at hl q hq) (kk H locs ls hP hD hS hl)
theorem j_istore_n (cx : Cx p s m args meth c cc nL own Ts D tys) {k : Fin 4} {x : Int32} {lv' : List (Nat × Value)} (dg : decode cc pc = .ok (.istore_n k, 1)) (hn : (k : Nat) < nL) (hl' : ((k : Nat), Value.int x) :: lv.filter (fun q => !(q.1 == (k : Nat)) && !(q.1 + 1 == (k : Nat) && q.2.category == 2)) = lv') (kk : J p l e R s m args below meth c nL D A cells slots Q Bs (pc + 1) lv' st) : J p l e R s m args below meth c nL D A cells slots Q Bs pc lv (.int x :: st) :=
  fun H locs ls hP hD hS hl => lv_istore_n cx.1 cx.2.1 dg rfl hl hn hl' (fun ls' hl2 => kk H locs ls' hP hD hS hl2)
theorem j_istore (cx : Cx p s m args meth c cc nL own Ts D tys) {i : Nat} {x : Int32} {lv' : List (Nat × Value)} (dg : decode cc pc = .ok (.istore i, 2)) (hn : i < nL) (hl' : (i, Value.int x) :: lv.filter (fun q => !(q.1 == i) && !(q.1 + 1 == i && q.2.category == 2)) = lv') (kk : J p l e R s m args below meth c nL D A cells slots Q Bs (pc + 2) lv' st) : J p l e R s m args below meth c nL D A cells slots Q Bs pc lv (.int x :: st) :=
  fun H locs ls hP hD hS hl => lv_istore cx.1 cx.2.1 dg hl hn hl' (fun ls' hl2 => kk H locs ls' hP hD hS hl2)
theorem j_astore_n (cx : Cx p s m args meth c cc nL own Ts D tys) {k : Fin 4} {x : Nat} {lv' : List (Nat × Value)} (dg : decode cc pc = .ok (.astore_n k, 1)) (hn : (k : Nat) < nL) (hl' : ((k : Nat), Value.ref x) :: lv.filter (fun q => !(q.1 == (k : Nat)) && !(q.1 + 1 == (k : Nat) && q.2.category == 2)) = lv') (kk : J p l e R s m args below meth c nL D A cells slots Q Bs (pc + 1) lv' st) : J p l e R s m args below meth c nL D A cells slots Q Bs pc lv (.ref x :: st) :=
  fun H locs ls hP hD hS hl => lv_astore_n cx.1 cx.2.1 dg rfl hl hn hl' (fun ls' hl2 => kk H locs ls' hP hD hS hl2)
theorem j_iinc (cx : Cx p s m args meth c cc nL own Ts D tys) {i : Nat} {n : Int} {x v : Int32} {lv' : List (Nat × Value)} (dg : decode cc pc = .ok (.iinc i n, 3)) (q : Nat) (hq : lv[q]? = some (i, .int x)) (hv : x + Int32.ofInt n = v) (hn : i < nL) (hl' : (i, Value.int v) :: lv.filter (fun q => !(q.1 == i) && !(q.1 + 1 == i && q.2.category == 2)) = lv') (kk : J p l e R s m args below meth c nL D A cells slots Q Bs (pc + 3) lv' st) : J p l e R s m args below meth c nL D A cells slots Q Bs pc lv st :=
  fun H locs ls hP hD hS hl => lv_iinc cx.1 cx.2.1 dg hl hq hv hn hl' (fun ls' hl2 => kk H locs ls' hP hD hS hl2)
theorem j_iconst (cx : Cx p s m args meth c cc nL own Ts D tys) {n : Int} {v : Int32} (dg : decode cc pc = .ok (.iconst n, 1)) (hv : Int32.ofInt n = v) (kk : J p l e R s m args below meth c nL D A cells slots Q Bs (pc + 1) lv (.int v :: st)) : J p l e R s m args below meth c nL D A cells slots Q Bs pc lv st :=
  fun H locs ls hP hD hS hl => lv_iconst cx.1 cx.2.1 dg hv (kk H locs ls hP hD hS hl)
theorem j_bipush (cx : Cx p s m args meth c cc nL own Ts D tys) {n : Int} {v : Int32} (dg : decode cc pc = .ok (.bipush n, 2)) (hv : (Int8.ofInt n).toInt32 = v) (kk : J p l e R s m args below meth c nL D A cells slots Q Bs (pc + 2) lv (.int v :: st)) : J p l e R s m args below meth c nL D A cells slots Q Bs pc lv st :=
  fun H locs ls hP hD hS hl => lv_bipush cx.1 cx.2.1 dg hv (kk H locs ls hP hD hS hl)
theorem j_sipush (cx : Cx p s m args meth c cc nL own Ts D tys) {n : Int} {v : Int32} (dg : decode cc pc = .ok (.sipush n, 3)) (hv : (Int16.ofInt n).toInt32 = v) (kk : J p l e R s m args below meth c nL D A cells slots Q Bs (pc + 3) lv (.int v :: st)) : J p l e R s m args below meth c nL D A cells slots Q Bs pc lv st :=
  fun H locs ls hP hD hS hl => lv_sipush cx.1 cx.2.1 dg hv (kk H locs ls hP hD hS hl)
theorem j_ldc (cx : Cx p s m args meth c cc nL own Ts D tys) {index : Nat} {v : Int32} (hw : Jvm.Cond.constant own index v ∈ Ts) (dg : decode cc pc = .ok (.ldc index, 2)) (kk : J p l e R s m args below meth c nL D A cells slots Q Bs (pc + 2) lv (.int v :: st)) : J p l e R s m args below meth c nL D A cells slots Q Bs pc lv st :=
  fun H locs ls hP hD hS hl => lv_ldc cx.1 cx.2.1 cx.2.2.2.1 (cx.2.2.2.2.1 _ hw) dg (kk H locs ls hP hD hS hl)
theorem j_iadd (cx : Cx p s m args meth c cc nL own Ts D tys) {x y : Int32} (dg : decode cc pc = .ok (.iadd, 1)) (kk : J p l e R s m args below meth c nL D A cells slots Q Bs (pc + 1) lv (.int (x + y) :: st)) : J p l e R s m args below meth c nL D A cells slots Q Bs pc lv (.int y :: .int x :: st) :=
  fun H locs ls hP hD hS hl => lv_iadd cx.1 cx.2.1 dg (kk H locs ls hP hD hS hl)
theorem j_isub (cx : Cx p s m args meth c cc nL own Ts D tys) {x y : Int32} (dg : decode cc pc = .ok (.isub, 1)) (kk : J p l e R s m args below meth c nL D A cells slots Q Bs (pc + 1) lv (.int (x - y) :: st)) : J p l e R s m args below meth c nL D A cells slots Q Bs pc lv (.int y :: .int x :: st) :=
  fun H locs ls hP hD hS hl => lv_isub cx.1 cx.2.1 dg (kk H locs ls hP hD hS hl)
theorem j_imul (cx : Cx p s m args meth c cc nL own Ts D tys) {x y : Int32} (dg : decode cc pc = .ok (.imul, 1)) (kk : J p l e R s m args below meth c nL D A cells slots Q Bs (pc + 1) lv (.int (x * y) :: st)) : J p l e R s m args below meth c nL D A cells slots Q Bs pc lv (.int y :: .int x :: st) :=
  fun H locs ls hP hD hS hl => lv_imul cx.1 cx.2.1 dg (kk H locs ls hP hD hS hl)
theorem j_iand (cx : Cx p s m args meth c cc nL own Ts D tys) {x y : Int32} (dg : decode cc pc = .ok (.iand, 1)) (kk : J p l e R s m args below meth c nL D A cells slots Q Bs (pc + 1) lv (.int (x &&& y) :: st)) : J p l e R s m args below meth c nL D A cells slots Q Bs pc lv (.int y :: .int x :: st) :=
  fun H locs ls hP hD hS hl => lv_iand cx.1 cx.2.1 dg (kk H locs ls hP hD hS hl)
theorem j_idiv (cx : Cx p s m args meth c cc nL own Ts D tys) {x y : Int32} (hy : ¬ y = 0) (dg : decode cc pc = .ok (.idiv, 1)) (kk : J p l e R s m args below meth c nL D A cells slots Q Bs (pc + 1) lv (.int (x / y) :: st)) : J p l e R s m args below meth c nL D A cells slots Q Bs pc lv (.int y :: .int x :: st) :=
  fun H locs ls hP hD hS hl => lv_idiv cx.1 cx.2.1 dg hy (kk H locs ls hP hD hS hl)
theorem j_irem (cx : Cx p s m args meth c cc nL own Ts D tys) {x y : Int32} (hy : ¬ y = 0) (dg : decode cc pc = .ok (.irem, 1)) (kk : J p l e R s m args below meth c nL D A cells slots Q Bs (pc + 1) lv (.int (x - x / y * y) :: st)) : J p l e R s m args below meth c nL D A cells slots Q Bs pc lv (.int y :: .int x :: st) :=
  fun H locs ls hP hD hS hl => lv_irem cx.1 cx.2.1 dg hy (kk H locs ls hP hD hS hl)
theorem j_i2c (cx : Cx p s m args meth c cc nL own Ts D tys) {x v : Int32} (dg : decode cc pc = .ok (.i2c, 1)) (hv : (x.toUInt32 % 65536).toInt32 = v) (kk : J p l e R s m args below meth c nL D A cells slots Q Bs (pc + 1) lv (.int v :: st)) : J p l e R s m args below meth c nL D A cells slots Q Bs pc lv (.int x :: st) :=
  fun H locs ls hP hD hS hl => lv_i2c cx.1 cx.2.1 dg hv (kk H locs ls hP hD hS hl)
theorem j_dup (cx : Cx p s m args meth c cc nL own Ts D tys) {v : Value} (dg : decode cc pc = .ok (.dup, 1)) (hv : v.category = 1) (kk : J p l e R s m args below meth c nL D A cells slots Q Bs (pc + 1) lv (v :: v :: st)) : J p l e R s m args below meth c nL D A cells slots Q Bs pc lv (v :: st) :=
  fun H locs ls hP hD hS hl => lv_dup cx.1 cx.2.1 dg hv (kk H locs ls hP hD hS hl)
theorem j_dup2 (cx : Cx p s m args meth c cc nL own Ts D tys) {va vb : Value} (dg : decode cc pc = .ok (.dup2, 1)) (hva : va.category = 1) (hvb : vb.category = 1) (kk : J p l e R s m args below meth c nL D A cells slots Q Bs (pc + 1) lv (va :: vb :: va :: vb :: st)) : J p l e R s m args below meth c nL D A cells slots Q Bs pc lv (va :: vb :: st) :=
  fun H locs ls hP hD hS hl => lv_dup2_11 cx.1 cx.2.1 dg hva hvb (kk H locs ls hP hD hS hl)
theorem j_goto (cx : Cx p s m args meth c cc nL own Ts D tys) {off : Int} {tgt : Nat} (dg : decode cc pc = .ok (.goto off, 3)) (ht : (pc : Int) + off = (tgt : Int)) (kk : J p l e R s m args below meth c nL D A cells slots Q Bs tgt lv st) : J p l e R s m args below meth c nL D A cells slots Q Bs pc lv st :=
  fun H locs ls hP hD hS hl => lv_goto cx.1 cx.2.1 dg ht (kk H locs ls hP hD hS hl)
theorem j_if_eq (cx : Cx p s m args meth c cc nL own Ts D tys) {x : Int32} {off : Int} {tgt : Nat} (dg : decode cc pc = .ok (.ifCond .eq off, 3)) (ht : (pc : Int) + off = (tgt : Int)) (kt : x = 0 → J p l e R s m args below meth c nL D A cells slots Q Bs tgt lv st) (kf : ¬ x = 0 → J p l e R s m args below meth c nL D A cells slots Q Bs (pc + 3) lv st) : J p l e R s m args below meth c nL D A cells slots Q Bs pc lv (.int x :: st) :=
  fun H locs ls hP hD hS hl => lv_if_eq cx.1 cx.2.1 dg ht (fun h => kt h H locs ls hP hD hS hl) (fun h => kf h H locs ls hP hD hS hl)
theorem j_if_ne (cx : Cx p s m args meth c cc nL own Ts D tys) {x : Int32} {off : Int} {tgt : Nat} (dg : decode cc pc = .ok (.ifCond .ne off, 3)) (ht : (pc : Int) + off = (tgt : Int)) (kt : ¬ x = 0 → J p l e R s m args below meth c nL D A cells slots Q Bs tgt lv st) (kf : x = 0 → J p l e R s m args below meth c nL D A cells slots Q Bs (pc + 3) lv st) : J p l e R s m args below meth c nL D A cells slots Q Bs pc lv (.int x :: st) :=
  fun H locs ls hP hD hS hl => lv_if_ne cx.1 cx.2.1 dg ht (fun h => kt h H locs ls hP hD hS hl) (fun h => kf h H locs ls hP hD hS hl)
theorem j_if_lt (cx : Cx p s m args meth c cc nL own Ts D tys) {x : Int32} {off : Int} {tgt : Nat} (dg : decode cc pc = .ok (.ifCond .lt off, 3)) (ht : (pc : Int) + off = (tgt : Int)) (kt : x < 0 → J p l e R s m args below meth c nL D A cells slots Q Bs tgt lv st) (kf : ¬ x < 0 → J p l e R s m args below meth c nL D A cells slots Q Bs (pc + 3) lv st) : J p l e R s m args below meth c nL D A cells slots Q Bs pc lv (.int x :: st) :=
  fun H locs ls hP hD hS hl => lv_if_lt cx.1 cx.2.1 dg ht (fun h => kt h H locs ls hP hD hS hl) (fun h => kf h H locs ls hP hD hS hl)
theorem j_if_ge (cx : Cx p s m args meth c cc nL own Ts D tys) {x : Int32} {off : Int} {tgt : Nat} (dg : decode cc pc = .ok (.ifCond .ge off, 3)) (ht : (pc : Int) + off = (tgt : Int)) (kt : 0 ≤ x → J p l e R s m args below meth c nL D A cells slots Q Bs tgt lv st) (kf : ¬ 0 ≤ x → J p l e R s m args below meth c nL D A cells slots Q Bs (pc + 3) lv st) : J p l e R s m args below meth c nL D A cells slots Q Bs pc lv (.int x :: st) :=
  fun H locs ls hP hD hS hl => lv_if_ge cx.1 cx.2.1 dg ht (fun h => kt h H locs ls hP hD hS hl) (fun h => kf h H locs ls hP hD hS hl)
theorem j_if_gt (cx : Cx p s m args meth c cc nL own Ts D tys) {x : Int32} {off : Int} {tgt : Nat} (dg : decode cc pc = .ok (.ifCond .gt off, 3)) (ht : (pc : Int) + off = (tgt : Int)) (kt : 0 < x → J p l e R s m args below meth c nL D A cells slots Q Bs tgt lv st) (kf : ¬ 0 < x → J p l e R s m args below meth c nL D A cells slots Q Bs (pc + 3) lv st) : J p l e R s m args below meth c nL D A cells slots Q Bs pc lv (.int x :: st) :=
  fun H locs ls hP hD hS hl => lv_if_gt cx.1 cx.2.1 dg ht (fun h => kt h H locs ls hP hD hS hl) (fun h => kf h H locs ls hP hD hS hl)
theorem j_if_le (cx : Cx p s m args meth c cc nL own Ts D tys) {x : Int32} {off : Int} {tgt : Nat} (dg : decode cc pc = .ok (.ifCond .le off, 3)) (ht : (pc : Int) + off = (tgt : Int)) (kt : x ≤ 0 → J p l e R s m args below meth c nL D A cells slots Q Bs tgt lv st) (kf : ¬ x ≤ 0 → J p l e R s m args below meth c nL D A cells slots Q Bs (pc + 3) lv st) : J p l e R s m args below meth c nL D A cells slots Q Bs pc lv (.int x :: st) :=
  fun H locs ls hP hD hS hl => lv_if_le cx.1 cx.2.1 dg ht (fun h => kt h H locs ls hP hD hS hl) (fun h => kf h H locs ls hP hD hS hl)
theorem j_icmp_eq (cx : Cx p s m args meth c cc nL own Ts D tys) {x y : Int32} {off : Int} {tgt : Nat} (dg : decode cc pc = .ok (.if_icmp .eq off, 3)) (ht : (pc : Int) + off = (tgt : Int)) (kt : x = y → J p l e R s m args below meth c nL D A cells slots Q Bs tgt lv st) (kf : ¬ x = y → J p l e R s m args below meth c nL D A cells slots Q Bs (pc + 3) lv st) : J p l e R s m args below meth c nL D A cells slots Q Bs pc lv (.int y :: .int x :: st) :=
  fun H locs ls hP hD hS hl => lv_icmp_eq cx.1 cx.2.1 dg ht (fun h => kt h H locs ls hP hD hS hl) (fun h => kf h H locs ls hP hD hS hl)
theorem j_icmp_ne (cx : Cx p s m args meth c cc nL own Ts D tys) {x y : Int32} {off : Int} {tgt : Nat} (dg : decode cc pc = .ok (.if_icmp .ne off, 3)) (ht : (pc : Int) + off = (tgt : Int)) (kt : ¬ x = y → J p l e R s m args below meth c nL D A cells slots Q Bs tgt lv st) (kf : x = y → J p l e R s m args below meth c nL D A cells slots Q Bs (pc + 3) lv st) : J p l e R s m args below meth c nL D A cells slots Q Bs pc lv (.int y :: .int x :: st) :=
  fun H locs ls hP hD hS hl => lv_icmp_ne cx.1 cx.2.1 dg ht (fun h => kt h H locs ls hP hD hS hl) (fun h => kf h H locs ls hP hD hS hl)
theorem j_icmp_lt (cx : Cx p s m args meth c cc nL own Ts D tys) {x y : Int32} {off : Int} {tgt : Nat} (dg : decode cc pc = .ok (.if_icmp .lt off, 3)) (ht : (pc : Int) + off = (tgt : Int)) (kt : x < y → J p l e R s m args below meth c nL D A cells slots Q Bs tgt lv st) (kf : ¬ x < y → J p l e R s m args below meth c nL D A cells slots Q Bs (pc + 3) lv st) : J p l e R s m args below meth c nL D A cells slots Q Bs pc lv (.int y :: .int x :: st) :=
  fun H locs ls hP hD hS hl => lv_icmp_lt cx.1 cx.2.1 dg ht (fun h => kt h H locs ls hP hD hS hl) (fun h => kf h H locs ls hP hD hS hl)
theorem j_icmp_ge (cx : Cx p s m args meth c cc nL own Ts D tys) {x y : Int32} {off : Int} {tgt : Nat} (dg : decode cc pc = .ok (.if_icmp .ge off, 3)) (ht : (pc : Int) + off = (tgt : Int)) (kt : y ≤ x → J p l e R s m args below meth c nL D A cells slots Q Bs tgt lv st) (kf : ¬ y ≤ x → J p l e R s m args below meth c nL D A cells slots Q Bs (pc + 3) lv st) : J p l e R s m args below meth c nL D A cells slots Q Bs pc lv (.int y :: .int x :: st) :=
  fun H locs ls hP hD hS hl => lv_icmp_ge cx.1 cx.2.1 dg ht (fun h => kt h H locs ls hP hD hS hl) (fun h => kf h H locs ls hP hD hS hl)
theorem j_icmp_gt (cx : Cx p s m args meth c cc nL own Ts D tys) {x y : Int32} {off : Int} {tgt : Nat} (dg : decode cc pc = .ok (.if_icmp .gt off, 3)) (ht : (pc : Int) + off = (tgt : Int)) (kt : y < x → J p l e R s m args below meth c nL D A cells slots Q Bs tgt lv st) (kf : ¬ y < x → J p l e R s m args below meth c nL D A cells slots Q Bs (pc + 3) lv st) : J p l e R s m args below meth c nL D A cells slots Q Bs pc lv (.int y :: .int x :: st) :=
  fun H locs ls hP hD hS hl => lv_icmp_gt cx.1 cx.2.1 dg ht (fun h => kt h H locs ls hP hD hS hl) (fun h => kf h H locs ls hP hD hS hl)
theorem j_icmp_le (cx : Cx p s m args meth c cc nL own Ts D tys) {x y : Int32} {off : Int} {tgt : Nat} (dg : decode cc pc = .ok (.if_icmp .le off, 3)) (ht : (pc : Int) + off = (tgt : Int)) (kt : x ≤ y → J p l e R s m args below meth c nL D A cells slots Q Bs tgt lv st) (kf : ¬ x ≤ y → J p l e R s m args below meth c nL D A cells slots Q Bs (pc + 3) lv st) : J p l e R s m args below meth c nL D A cells slots Q Bs pc lv (.int y :: .int x :: st) :=
  fun H locs ls hP hD hS hl => lv_icmp_le cx.1 cx.2.1 dg ht (fun h => kt h H locs ls hP hD hS hl) (fun h => kf h H locs ls hP hD hS hl)
theorem j_iaddN (cx : Cx p s m args meth c cc nL own Ts D tys) {x y : Nat} (dg : decode cc pc = .ok (.iadd, 1)) (kk : J p l e R s m args below meth c nL D A cells slots Q Bs (pc + 1) lv (.int (nI (x + y)) :: st)) : J p l e R s m args below meth c nL D A cells slots Q Bs pc lv (.int (nI y) :: .int (nI x) :: st) := j_iadd cx dg (by rw [nI_add]; exact kk)
theorem j_imulN (cx : Cx p s m args meth c cc nL own Ts D tys) {x y : Nat} (dg : decode cc pc = .ok (.imul, 1)) (kk : J p l e R s m args below meth c nL D A cells slots Q Bs (pc + 1) lv (.int (nI (x * y)) :: st)) : J p l e R s m args below meth c nL D A cells slots Q Bs pc lv (.int (nI y) :: .int (nI x) :: st) := j_imul cx dg (by rw [pk_mul]; exact kk)
theorem j_isubN (cx : Cx p s m args meth c cc nL own Ts D tys) {x y : Nat} (h : y ≤ x) (dg : decode cc pc = .ok (.isub, 1)) (kk : J p l e R s m args below meth c nL D A cells slots Q Bs (pc + 1) lv (.int (nI (x - y)) :: st)) : J p l e R s m args below meth c nL D A cells slots Q Bs pc lv (.int (nI y) :: .int (nI x) :: st) := j_isub cx dg (by rw [pk_sub h]; exact kk)
theorem j_iremN (cx : Cx p s m args meth c cc nL own Ts D tys) {x y : Nat} (hx : x < 2 ^ 31) (h0 : 0 < y) (hy : y < 2 ^ 31) (dg : decode cc pc = .ok (.irem, 1)) (kk : J p l e R s m args below meth c nL D A cells slots Q Bs (pc + 1) lv (.int (nI (x % y)) :: st)) : J p l e R s m args below meth c nL D A cells slots Q Bs pc lv (.int (nI y) :: .int (nI x) :: st) := j_irem cx (nI_ne0 h0 hy) dg (by rw [pk_rem hx h0 hy]; exact kk)
theorem j_idivN (cx : Cx p s m args meth c cc nL own Ts D tys) {x y : Nat} (hx : x < 2 ^ 31) (h0 : 0 < y) (hy : y < 2 ^ 31) (dg : decode cc pc = .ok (.idiv, 1)) (kk : J p l e R s m args below meth c nL D A cells slots Q Bs (pc + 1) lv (.int (nI (x / y)) :: st)) : J p l e R s m args below meth c nL D A cells slots Q Bs pc lv (.int (nI y) :: .int (nI x) :: st) := j_idiv cx (nI_ne0 h0 hy) dg (by rw [pk_div hx h0 hy]; exact kk)
theorem j_ifN_eq (cx : Cx p s m args meth c cc nL own Ts D tys) {x : Nat} (hx : x < 2 ^ 31) {off : Int} {tgt : Nat} (dg : decode cc pc = .ok (.ifCond .eq off, 3)) (ht : (pc : Int) + off = (tgt : Int)) (kt : x = 0 → J p l e R s m args below meth c nL D A cells slots Q Bs tgt lv st) (kf : ¬ x = 0 → J p l e R s m args below meth c nL D A cells slots Q Bs (pc + 3) lv st) : J p l e R s m args below meth c nL D A cells slots Q Bs pc lv (.int (nI x) :: st) := j_if_eq cx dg ht (fun h => kt ((nI_eq0 hx).mp h)) (fun h => kf (fun q => h ((nI_eq0 hx).mpr q)))
theorem j_ifN_ne (cx : Cx p s m args meth c cc nL own Ts D tys) {x : Nat} (hx : x < 2 ^ 31) {off : Int} {tgt : Nat} (dg : decode cc pc = .ok (.ifCond .ne off, 3)) (ht : (pc : Int) + off = (tgt : Int)) (kt : ¬ x = 0 → J p l e R s m args below meth c nL D A cells slots Q Bs tgt lv st) (kf : x = 0 → J p l e R s m args below meth c nL D A cells slots Q Bs (pc + 3) lv st) : J p l e R s m args below meth c nL D A cells slots Q Bs pc lv (.int (nI x) :: st) := j_if_ne cx dg ht (fun h => kt (fun q => h ((nI_eq0 hx).mpr q))) (fun h => kf ((nI_eq0 hx).mp h))
theorem j_ifN_le (cx : Cx p s m args meth c cc nL own Ts D tys) {x : Nat} (hx : x < 2 ^ 31) {off : Int} {tgt : Nat} (dg : decode cc pc = .ok (.ifCond .le off, 3)) (ht : (pc : Int) + off = (tgt : Int)) (kt : x = 0 → J p l e R s m args below meth c nL D A cells slots Q Bs tgt lv st) (kf : 0 < x → J p l e R s m args below meth c nL D A cells slots Q Bs (pc + 3) lv st) : J p l e R s m args below meth c nL D A cells slots Q Bs pc lv (.int (nI x) :: st) := j_if_le cx dg ht (fun h => kt ((nI_le0 hx).mp h)) (fun h => kf (Nat.pos_of_ne_zero (fun q => h ((nI_le0 hx).mpr q))))
theorem j_ifN_gt (cx : Cx p s m args meth c cc nL own Ts D tys) {x : Nat} (hx : x < 2 ^ 31) {off : Int} {tgt : Nat} (dg : decode cc pc = .ok (.ifCond .gt off, 3)) (ht : (pc : Int) + off = (tgt : Int)) (kt : 0 < x → J p l e R s m args below meth c nL D A cells slots Q Bs tgt lv st) (kf : x = 0 → J p l e R s m args below meth c nL D A cells slots Q Bs (pc + 3) lv st) : J p l e R s m args below meth c nL D A cells slots Q Bs pc lv (.int (nI x) :: st) := j_if_gt cx dg ht (fun h => kt ((nI_lt0 hx).mp h)) (fun h => kf (by rcases Nat.eq_zero_or_pos x with q | q; exact q; exact absurd ((nI_lt0 hx).mpr q) h))
theorem j_ifN_lt (cx : Cx p s m args meth c cc nL own Ts D tys) {x : Nat} (hx : x < 2 ^ 31) {off : Int} {tgt : Nat} (dg : decode cc pc = .ok (.ifCond .lt off, 3)) (ht : (pc : Int) + off = (tgt : Int)) (kf : J p l e R s m args below meth c nL D A cells slots Q Bs (pc + 3) lv st) : J p l e R s m args below meth c nL D A cells slots Q Bs pc lv (.int (nI x) :: st) := j_if_lt cx dg ht (fun h => absurd h (nI_pos hx)) (fun _ => kf)
theorem j_ifN_ge (cx : Cx p s m args meth c cc nL own Ts D tys) {x : Nat} (hx : x < 2 ^ 31) {off : Int} {tgt : Nat} (dg : decode cc pc = .ok (.ifCond .ge off, 3)) (ht : (pc : Int) + off = (tgt : Int)) (kt : J p l e R s m args below meth c nL D A cells slots Q Bs tgt lv st) : J p l e R s m args below meth c nL D A cells slots Q Bs pc lv (.int (nI x) :: st) := j_if_ge cx dg ht (fun _ => kt) (fun h => absurd (nI_pos' hx) h)
theorem j_icmpN_eq (cx : Cx p s m args meth c cc nL own Ts D tys) {x y : Nat} (hx : x < 2 ^ 31) (hy : y < 2 ^ 31) {off : Int} {tgt : Nat} (dg : decode cc pc = .ok (.if_icmp .eq off, 3)) (ht : (pc : Int) + off = (tgt : Int)) (kt : x = y → J p l e R s m args below meth c nL D A cells slots Q Bs tgt lv st) (kf : ¬ x = y → J p l e R s m args below meth c nL D A cells slots Q Bs (pc + 3) lv st) : J p l e R s m args below meth c nL D A cells slots Q Bs pc lv (.int (nI y) :: .int (nI x) :: st) := j_icmp_eq cx dg ht (fun h => kt ((nI_eq hx hy).mp h)) (fun h => kf (fun q => h ((nI_eq hx hy).mpr q)))
theorem j_icmpN_ne (cx : Cx p s m args meth c cc nL own Ts D tys) {x y : Nat} (hx : x < 2 ^ 31) (hy : y < 2 ^ 31) {off : Int} {tgt : Nat} (dg : decode cc pc = .ok (.if_icmp .ne off, 3)) (ht : (pc : Int) + off = (tgt : Int)) (kt : ¬ x = y → J p l e R s m args below meth c nL D A cells slots Q Bs tgt lv st) (kf : x = y → J p l e R s m args below meth c nL D A cells slots Q Bs (pc + 3) lv st) : J p l e R s m args below meth c nL D A cells slots Q Bs pc lv (.int (nI y) :: .int (nI x) :: st) := j_icmp_ne cx dg ht (fun h => kt (fun q => h ((nI_eq hx hy).mpr q))) (fun h => kf ((nI_eq hx hy).mp h))
theorem j_icmpN_lt (cx : Cx p s m args meth c cc nL own Ts D tys) {x y : Nat} (hx : x < 2 ^ 31) (hy : y < 2 ^ 31) {off : Int} {tgt : Nat} (dg : decode cc pc = .ok (.if_icmp .lt off, 3)) (ht : (pc : Int) + off = (tgt : Int)) (kt : x < y → J p l e R s m args below meth c nL D A cells slots Q Bs tgt lv st) (kf : y ≤ x → J p l e R s m args below meth c nL D A cells slots Q Bs (pc + 3) lv st) : J p l e R s m args below meth c nL D A cells slots Q Bs pc lv (.int (nI y) :: .int (nI x) :: st) := j_icmp_lt cx dg ht (fun h => kt ((nI_ltI hx hy).mp h)) (fun h => kf (Nat.not_lt.mp (fun q => h ((nI_ltI hx hy).mpr q))))
theorem j_icmpN_ge (cx : Cx p s m args meth c cc nL own Ts D tys) {x y : Nat} (hx : x < 2 ^ 31) (hy : y < 2 ^ 31) {off : Int} {tgt : Nat} (dg : decode cc pc = .ok (.if_icmp .ge off, 3)) (ht : (pc : Int) + off = (tgt : Int)) (kt : y ≤ x → J p l e R s m args below meth c nL D A cells slots Q Bs tgt lv st) (kf : x < y → J p l e R s m args below meth c nL D A cells slots Q Bs (pc + 3) lv st) : J p l e R s m args below meth c nL D A cells slots Q Bs pc lv (.int (nI y) :: .int (nI x) :: st) := j_icmp_ge cx dg ht (fun h => kt ((nI_leI hy hx).mp h)) (fun h => kf (Nat.not_le.mp (fun q => h ((nI_leI hy hx).mpr q))))
theorem j_icmpN_gt (cx : Cx p s m args meth c cc nL own Ts D tys) {x y : Nat} (hx : x < 2 ^ 31) (hy : y < 2 ^ 31) {off : Int} {tgt : Nat} (dg : decode cc pc = .ok (.if_icmp .gt off, 3)) (ht : (pc : Int) + off = (tgt : Int)) (kt : y < x → J p l e R s m args below meth c nL D A cells slots Q Bs tgt lv st) (kf : x ≤ y → J p l e R s m args below meth c nL D A cells slots Q Bs (pc + 3) lv st) : J p l e R s m args below meth c nL D A cells slots Q Bs pc lv (.int (nI y) :: .int (nI x) :: st) := j_icmp_gt cx dg ht (fun h => kt ((nI_ltI hy hx).mp h)) (fun h => kf (Nat.not_lt.mp (fun q => h ((nI_ltI hy hx).mpr q))))
theorem j_icmpN_le (cx : Cx p s m args meth c cc nL own Ts D tys) {x y : Nat} (hx : x < 2 ^ 31) (hy : y < 2 ^ 31) {off : Int} {tgt : Nat} (dg : decode cc pc = .ok (.if_icmp .le off, 3)) (ht : (pc : Int) + off = (tgt : Int)) (kt : x ≤ y → J p l e R s m args below meth c nL D A cells slots Q Bs tgt lv st) (kf : y < x → J p l e R s m args below meth c nL D A cells slots Q Bs (pc + 3) lv st) : J p l e R s m args below meth c nL D A cells slots Q Bs pc lv (.int (nI y) :: .int (nI x) :: st) := j_icmp_le cx dg ht (fun h => kt ((nI_leI hx hy).mp h)) (fun h => kf (Nat.not_le.mp (fun q => h ((nI_leI hx hy).mpr q))))
theorem j_tableIn (cx : Cx p s m args meth c cc nL own Ts D tys) {dflt lo hi : Int} {offs : Array Int} {len : Nat} {x : Int32} {off : Int} {tgt : Nat} (dg : decode cc pc = .ok (.tableswitch dflt lo hi offs, len)) (h1 : ¬ x.toInt < lo) (h2 : ¬ hi < x.toInt) (ho : offs[(x.toInt - lo).toNat]? = some off) (ht : (pc : Int) + off = (tgt : Int)) (kk : J p l e R s m args below meth c nL D A cells slots Q Bs tgt lv st) : J p l e R s m args below meth c nL D A cells slots Q Bs pc lv (.int x :: st) :=
  fun H locs ls hP hD hS hl => lv_tableIn cx.1 cx.2.1 dg h1 h2 ho ht (kk H locs ls hP hD hS hl)
theorem j_tableOut (cx : Cx p s m args meth c cc nL own Ts D tys) {dflt lo hi : Int} {offs : Array Int} {len : Nat} {x : Int32} {tgt : Nat} (dg : decode cc pc = .ok (.tableswitch dflt lo hi offs, len)) (h : x.toInt < lo ∨ hi < x.toInt) (ht : (pc : Int) + dflt = (tgt : Int)) (kk : J p l e R s m args below meth c nL D A cells slots Q Bs tgt lv st) : J p l e R s m args below meth c nL D A cells slots Q Bs pc lv (.int x :: st) :=
  fun H locs ls hP hD hS hl => lv_tableOut cx.1 cx.2.1 dg h ht (kk H locs ls hP hD hS hl)
theorem j_lookup (cx : Cx p s m args meth c cc nL own Ts D tys) {dflt : Int} {ps : Array (Int × Int)} {len : Nat} {x : Int32} {off : Int} {tgt : Nat} (dg : decode cc pc = .ok (.lookupswitch dflt ps, len)) (hp : (ps.toList.zip (ps.toList.drop 1)).all (fun (a, next) => a.1 < next.1) = true) (ho : Op.lookupswitch.offset ps.toList dflt x.toInt = off) (ht : (pc : Int) + off = (tgt : Int)) (kk : J p l e R s m args below meth c nL D A cells slots Q Bs tgt lv st) : J p l e R s m args below meth c nL D A cells slots Q Bs pc lv (.int x :: st) :=
  fun H locs ls hP hD hS hl => lv_lookup cx.1 cx.2.1 dg hp ho ht (kk H locs ls hP hD hS hl)
/-- a field read: block i, place j of it, field k -/
theorem j_get (cx : Cx p s m args meth c cc nL own Ts D tys) {ref C : String} {T : u_T} {N ci index : Nat} (i j : Nat) {b : va_W} {a : Nat} {fs : List Value} (h1 : Bs[i]? = some b) (h2 : b[j]? = some (a, .inr (ci, fs))) (hc : vwCl[ci]? = some (C, T, N)) (hin : ∀ w ∈ u_ws C T N, w ∈ Ts) (k : Nat) (hk : k < N) (hlink : Cond.fieldLink own index ref (T k).2.1 (T k).2.2.1 ∈ Ts) (href : (T k).1 = ref) {v : Value} (hv : fs[k]? = some v) (dg : decode cc pc = .ok (.getfield index, 3)) (kk : J p l e R s m args below meth c nL D A cells slots Q Bs (pc + 3) lv (v :: st)) : J p l e R s m args below meth c nL D A cells slots Q Bs pc lv (.ref a :: st) := by
  intro H locs ls hP hD hS hl
  obtain ⟨k0, g1, -⟩ := fl_pl h1 h2
  refine va_get cx.1 cx.2.1 cx.2.2.2.2.1 hin cx.2.2.2.1 cx.2.2.2.2.2.1 hP k0 g1 hc k hk (cx.2.2.2.2.1 _ hlink) (fun x h9 => href ▸ h9) hv dg (kk H locs ls hP hD hS hl)
theorem j_put (cx : Cx p s m args meth c cc nL own Ts D tys) {ref C : String} {T : u_T} {N ci index : Nat} (i j : Nat) {b : va_W} {a : Nat} {fs : List Value} (h1 : Bs[i]? = some b) (h2 : b[j]? = some (a, .inr (ci, fs))) (hc : vwCl[ci]? = some (C, T, N)) (hin : ∀ w ∈ u_ws C T N, w ∈ Ts) (ty0 : Nat → FieldType) (hty : ∀ k, k < N → parseFieldDescriptor (T k).2.2.1 = some (ty0 k)) (hnm : ∀ a, a < N → ∀ b, b < N → a ≠ b → (T a).2.1 ≠ (T b).2.1) (k : Nat) (hk : k < N) (hlink : Cond.fieldLink own index ref (T k).2.1 (T k).2.2.1 ∈ Ts) (href : (T k).1 = ref) (hfin : (T k).2.2.2 = false) {v : Value} (hn : narrow (ty0 k) v = v) (hfit : fits (ty0 k) v = true) (hl0 : k < fs.length) {Bs' : List va_W} (hB : Bs.set i (b.set j (a, .inr (ci, fs.set k v))) = Bs') (dg : decode cc pc = .ok (.putfield index, 3)) (kk : J p l e R s m args below meth c nL D A cells slots Q Bs' (pc + 3) lv st) : J p l e R s m args below meth c nL D A cells slots Q Bs pc lv (v :: .ref a :: st) := by
  intro H locs ls hP hD hS hl
  obtain ⟨k0, g1, g2⟩ := fl_pl h1 h2
  refine va_put cx.1 cx.2.1 cx.2.2.2.2.1 hin ty0 hty hnm cx.2.2.2.1 cx.2.2.2.2.2.1 hP hD hS k0 g1 hc k hk (cx.2.2.2.2.1 _ hlink) (fun x h9 => href ▸ h9) hfin (hty k hk) hn hfit hl0 dg (fun H1 locs1 hP1 hD1 hS1 => ?_)
  rw [g2, hB] at hP1 hD1
  exact kk H1 locs1 ls hP1 hD1 hS1 hl
theorem j_putF (cx : Cx p s m args meth c cc nL own Ts D tys) (hini : meth.name = "<init>") {C : String} {T : u_T} {N ci index : Nat} (i j : Nat) {b : va_W} {a : Nat} {fs : List Value} (h1 : Bs[i]? = some b) (h2 : b[j]? = some (a, .inr (ci, fs))) (hc : vwCl[ci]? = some (C, T, N)) (hin : ∀ w ∈ u_ws C T N, w ∈ Ts) (ty0 : Nat → FieldType) (hty : ∀ k, k < N → parseFieldDescriptor (T k).2.2.1 = some (ty0 k)) (hnm : ∀ a, a < N → ∀ b, b < N → a ≠ b → (T a).2.1 ≠ (T b).2.1) (k : Nat) (hk : k < N) (hlink : Cond.fieldLink own index own (T k).2.1 (T k).2.2.1 ∈ Ts) (href : (T k).1 = own) (hfin : (T k).2.2.2 = true) {v : Value} (hn : narrow (ty0 k) v = v) (hfit : fits (ty0 k) v = true) (hl0 : k < fs.length) {Bs' : List va_W} (hB : Bs.set i (b.set j (a, .inr (ci, fs.set k v))) = Bs') (dg : decode cc pc = .ok (.putfield index, 3)) (kk : J p l e R s m args below meth c nL D A cells slots Q Bs' (pc + 3) lv st) : J p l e R s m args below meth c nL D A cells slots Q Bs pc lv (v :: .ref a :: st) := by
  intro H locs ls hP hD hS hl
  obtain ⟨k0, g1, g2⟩ := fl_pl h1 h2
  refine va_putF (ref := own) cx.1 cx.2.1 cx.2.2.2.2.1 hin ty0 hty hnm cx.2.2.2.1 cx.2.2.2.2.2.1 hP hD hS k0 g1 hc k hk (cx.2.2.2.2.1 _ hlink) (fun x h9 => href ▸ h9) hfin hini href (hty k hk) hn hfit hl0 dg (fun H1 locs1 hP1 hD1 hS1 => ?_)
  rw [g2, hB] at hP1 hD1
  exact kk H1 locs1 ls hP1 hD1 hS1 hl
theorem j_iald (cx : Cx p s m args meth c cc nL own Ts D tys) (i j t0 : Nat) {b : va_W} {a n : Nat} {cA : ClassId} {f : Nat → Int32} (h1 : Bs[i]? = some b) (h2 : b[j]? = some (a, .inl (cA, n, .inl f))) (ht : tys[t0]? = some (cA, .int)) {k : Nat} (hk : k < n) (hn : n < 2 ^ 31) (dg : decode cc pc = .ok (.iaload, 1)) (kk : J p l e R s m args below meth c nL D A cells slots Q Bs (pc + 1) lv (.int (f k) :: st)) : J p l e R s m args below meth c nL D A cells slots Q Bs pc lv (.int (nI k) :: .ref a :: st) := by
  intro H locs ls hP hD hS hl
  obtain ⟨k0, g1, -⟩ := fl_pl h1 h2
  refine va_iald cx.1 cx.2.1 cx.2.2.2.2.2.1 hP k0 t0 g1 ht (vp_in_nI hk hn) dg ?_
  rw [nI_clamp (Nat.lt_trans hk hn)]
  exact kk H locs ls hP hD hS hl
theorem j_cald (cx : Cx p s m args meth c cc nL own Ts D tys) (i j t0 : Nat) {b : va_W} {a n : Nat} {cA : ClassId} {f : Nat → Int32} (h1 : Bs[i]? = some b) (h2 : b[j]? = some (a, .inl (cA, n, .inl f))) (ht : tys[t0]? = some (cA, .char)) {k : Nat} (hk : k < n) (hn : n < 2 ^ 31) (dg : decode cc pc = .ok (.caload, 1)) (kk : J p l e R s m args below meth c nL D A cells slots Q Bs (pc + 1) lv (.int (f k) :: st)) : J p l e R s m args below meth c nL D A cells slots Q Bs pc lv (.int (nI k) :: .ref a :: st) := by
  intro H locs ls hP hD hS hl
  obtain ⟨k0, g1, -⟩ := fl_pl h1 h2
  refine va_cald cx.1 cx.2.1 cx.2.2.2.2.2.1 hP k0 t0 g1 ht (vp_in_nI hk hn) dg ?_
  rw [nI_clamp (Nat.lt_trans hk hn)]
  exact kk H locs ls hP hD hS hl
theorem j_aald (cx : Cx p s m args meth c cc nL own Ts D tys) (i j t0 : Nat) {b : va_W} {a n : Nat} {cA : ClassId} {C : String} {f : Nat → Option Nat} (h1 : Bs[i]? = some b) (h2 : b[j]? = some (a, .inl (cA, n, .inr (.inr (.inr (.inr f)))))) (ht : tys[t0]? = some (cA, .object C)) {k : Nat} (hk : k < n) (hn : n < 2 ^ 31) {a' : Nat} (hv : f k = some a') (dg : decode cc pc = .ok (.aaload, 1)) (kk : J p l e R s m args below meth c nL D A cells slots Q Bs (pc + 1) lv (.ref a' :: st)) : J p l e R s m args below meth c nL D A cells slots Q Bs pc lv (.int (nI k) :: .ref a :: st) := by
  intro H locs ls hP hD hS hl
  obtain ⟨k0, g1, -⟩ := fl_pl h1 h2
  refine va_aldq cx.1 cx.2.1 cx.2.2.2.2.2.1 hP k0 t0 g1 ht (vp_in_nI hk hn) dg ?_
  rw [nI_clamp (Nat.lt_trans hk hn), hv]
  exact kk H locs ls hP hD hS hl
theorem j_iast (cx : Cx p s m args meth c cc nL own Ts D tys) (i j t0 : Nat) {b : va_W} {a n : Nat} {cA : ClassId} {f : Nat → Int32} (h1 : Bs[i]? = some b) (h2 : b[j]? = some (a, .inl (cA, n, .inl f))) (ht : tys[t0]? = some (cA, .int)) {k : Nat} {x : Int32} (hk : k < n) (hn : n < 2 ^ 31) {Bs' : List va_W} (hB : Bs.set i (b.set j (a, .inl (cA, n, .inl (upd f k x)))) = Bs') (dg : decode cc pc = .ok (.iastore, 1)) (kk : J p l e R s m args below meth c nL D A cells slots Q Bs' (pc + 1) lv st) : J p l e R s m args below meth c nL D A cells slots Q Bs pc lv (.int x :: .int (nI k) :: .ref a :: st) := by
  intro H locs ls hP hD hS hl
  obtain ⟨k0, g1, g2⟩ := fl_pl h1 h2
  refine va_iast cx.1 cx.2.1 cx.2.2.2.2.2.1 hP hD hS k0 t0 g1 ht (vp_in_nI hk hn) dg (fun H1 locs1 hP1 hD1 hS1 => ?_)
  rw [nI_clamp (Nat.lt_trans hk hn), g2, hB] at hP1 hD1
  exact kk H1 locs1 ls hP1 hD1 hS1 hl
theorem j_cast (cx : Cx p s m args meth c cc nL own Ts D tys) (i j t0 : Nat) {b : va_W} {a n : Nat} {cA : ClassId} {f : Nat → Int32} (h1 : Bs[i]? = some b) (h2 : b[j]? = some (a, .inl (cA, n, .inl f))) (ht : tys[t0]? = some (cA, .char)) {k : Nat} {x : Int32} (hk : k < n) (hn : n < 2 ^ 31) (hx : vp_nar .char x = x) {Bs' : List va_W} (hB : Bs.set i (b.set j (a, .inl (cA, n, .inl (upd f k x)))) = Bs') (dg : decode cc pc = .ok (.castore, 1)) (kk : J p l e R s m args below meth c nL D A cells slots Q Bs' (pc + 1) lv st) : J p l e R s m args below meth c nL D A cells slots Q Bs pc lv (.int x :: .int (nI k) :: .ref a :: st) := by
  intro H locs ls hP hD hS hl
  obtain ⟨k0, g1, g2⟩ := fl_pl h1 h2
  refine va_cast cx.1 cx.2.1 cx.2.2.2.2.2.1 hP hD hS k0 t0 g1 ht (vp_in_nI hk hn) dg (fun H1 locs1 hP1 hD1 hS1 => ?_)
  rw [nI_clamp (Nat.lt_trans hk hn), hx, g2, hB] at hP1 hD1
  exact kk H1 locs1 ls hP1 hD1 hS1 hl
theorem j_aast (cx : Cx p s m args meth c cc nL own Ts D tys) (i j i2 j2 t0 ci : Nat) {b b2 : va_W} {a n v : Nat} {cA : ClassId} {r : vw_C} {vs : List Value} {f : Nat → Option Nat} (h1 : Bs[i]? = some b) (h2 : b[j]? = some (a, .inl (cA, n, .inr (.inr (.inr (.inr f)))))) (ht : tys[t0]? = some (cA, .object r.1)) (h3 : Bs[i2]? = some b2) (h4 : b2[j2]? = some (v, .inr (ci, vs))) (hc : vwCl[ci]? = some r) {k : Nat} (hk : k < n) (hn : n < 2 ^ 31) {Bs' : List va_W} (hB : Bs.set i (b.set j (a, .inl (cA, n, .inr (.inr (.inr (.inr (va_up f k (some v)))))))) = Bs') (dg : decode cc pc = .ok (.aastore, 1)) (kk : J p l e R s m args below meth c nL D A cells slots Q Bs' (pc + 1) lv st) : J p l e R s m args below meth c nL D A cells slots Q Bs pc lv (.ref v :: .int (nI k) :: .ref a :: st) := by
  intro H locs ls hP hD hS hl
  obtain ⟨k0, g1, g2⟩ := fl_pl h1 h2
  obtain ⟨k1, g3, -⟩ := fl_pl h3 h4
  refine va_astq cx.1 cx.2.1 cx.2.2.2.2.2.1 hP hD hS k0 t0 k1 ci g1 ht g3 hc (vp_in_nI hk hn) dg (fun H1 locs1 hP1 hD1 hS1 => ?_)
  rw [nI_clamp (Nat.lt_trans hk hn), g2, hB] at hP1 hD1
  exact kk H1 locs1 ls hP1 hD1 hS1 hl
/-- System.arraycopy of whole numbers from place 0 to place 0 -/
theorem j_copy (cx : Cx p s m args meth c cc nL own Ts D tys) {index : Nat} (hlink : Cond.methodLink own index arraycopyName ∈ Ts) (hnat : Cond.native arraycopyName ∈ Ts) (hstat : Cond.static arraycopyName ∈ Ts) (hini : Cond.initialized "java/lang/System" ∈ Ts) (i0 j0 i1 j1 t0 : Nat) {b0 b1 : va_W} {a0 a1 n0 n1 : Nat} {cA : ClassId} {f g : Nat → Int32} (h1 : Bs[i0]? = some b0) (h2 : b0[j0]? = some (a0, .inl (cA, n0, .inl f))) (h3 : Bs[i1]? = some b1) (h4 : b1[j1]? = some (a1, .inl (cA, n1, .inl g))) (ht : tys[t0]? = some (cA, .int)) {k : Nat} (hk0 : k ≤ n0) (hk1 : k ≤ n1) (hkb : k < 2 ^ 31) (hfr : 1 ≤ R.frames) (hlo : (st.map fun v => v.category).sum + (nativeFrameWords "java/lang/System" "arraycopy" 5 + 11) ≤ R.locals) {Bs' : List va_W} (hB : Bs.set i1 (b1.set j1 (a1, .inl (cA, n1, .inl (va_cpy f g 0 0 k)))) = Bs') (dg : decode cc pc = .ok (.invokestatic index, 3)) (kk : J p l e R s m args below meth c nL D A cells slots Q Bs' (pc + 3) lv st) : J p l e R s m args below meth c nL D A cells slots Q Bs pc lv (.int (nI k) :: .int (nI 0) :: .ref a1 :: .int (nI 0) :: .ref a0 :: st) := by
  intro H locs ls hP hD hS hl
  obtain ⟨q0, g1, -⟩ := fl_pl h1 h2
  obtain ⟨q1, g3, g4⟩ := fl_pl h3 h4
  have e0 : (nI 0).toNatClampNeg = 0 := nI_clamp (by decide)
  have ek : (nI k).toNatClampNeg = k := nI_clamp hkb
  refine va_copyi cx.1 cx.2.1 (by rw [cx.2.2.1]; exact hl.1.symm) cx.2.2.2.1 (cx.2.2.2.2.1 _ hlink) (cx.2.2.2.2.1 _ hnat) (cx.2.2.2.2.1 _ hstat) (cx.2.2.2.2.1 _ hini) cx.2.2.2.2.2.1 hP hD hS q0 q1 t0 t0 g1 g3 ht ht rfl (nI_pos (by decide)) (nI_pos (by decide)) (nI_pos hkb) (by rw [e0, ek]; omega) (by rw [e0, ek]; omega) (fun _ _ => rfl) hfr hlo dg (fun H1 locs1 hP1 hD1 hS1 => ?_)
  rw [e0, ek, g4, hB] at hP1 hD1
  exact kk H1 locs1 ls hP1 hD1 hS1 hl
/-- the contract of a method that makes nothing: from the blocks Bs it returns, its answer is r, the blocks are Bs' then -/
def CtI (l : Launch) (y : MethodName) (ws : List Cond) (fr lo : Nat) (D : va_G) (tys : List (ClassId × FieldType)) (Bs : List va_W) (avs : List Value) (r : Int32) (Bs' : List va_W) : Prop :=
  Met l y ws { frames := fr, cells := 0, slots := 0, locals := lo } (va_Pc avs (fun U => va_P D vwCl Bs.flatten U.heap ∧ va_K D vwCl tys U ∧ va_D (fun _ => True) Bs.flatten)) (va_Qi (S := Unit) (fun r' _ => r' = r) (fun _ t => va_P D vwCl Bs'.flatten t.heap) (bA Bs)) 0 0 (bA Bs)
def CtV (l : Launch) (y : MethodName) (ws : List Cond) (fr lo : Nat) (D : va_G) (tys : List (ClassId × FieldType)) (Bs : List va_W) (avs : List Value) (Bs' : List va_W) : Prop :=
  Met l y ws { frames := fr, cells := 0, slots := 0, locals := lo } (va_Pc avs (fun U => va_P D vwCl Bs.flatten U.heap ∧ va_K D vwCl tys U ∧ va_D (fun _ => True) Bs.flatten)) (va_Qv (S := Unit) (fun _ => True) (fun _ t => va_P D vwCl Bs'.flatten t.heap) (bA Bs)) 0 0 (bA Bs)
theorem ct_blind {Bs : List va_W} {avs : List Value} : FrameBlind (va_Pc avs (fun U => va_P D vwCl Bs.flatten U.heap ∧ va_K D vwCl tys U ∧ va_D (fun _ => True) Bs.flatten)) := fun a U g mk q => by
  obtain ⟨q0, qP, qK, qD⟩ := q
  exact ⟨q0, qP, va_K.moved (u := U) (U := U.calling g mk a) (Vm.Alike.refl U.vm) qK, qD⟩
section CALLS
variable {y : MethodName} {ws ws0 : List Cond} {fr lo maxL : Nat} {bytes : ByteArray} {ret : Option FieldType} {Bc Bc' Bs' : List va_W} {As : List Value} {stk : List Value} {C : String} {b index n : Nat}
theorem j_recv (cx : Cx p s m args meth c cc nL own Ts D tys) {H : Heap} (hP : va_P D vwCl Bs.flatten H) (i j : Nat) {bk : va_W} {ci : Nat} {fs : List Value} {T : u_T} {N : Nat} (h1 : Bs[i]? = some bk) (h2 : bk[j]? = some (b, .inr (ci, fs))) (hc : vwCl[ci]? = some (C, T, N)) : ∃ cell : Cell, H[b]? = some cell ∧ cell.vm.isStatics = false ∧ s.vm.findClass C = some cell.cls := by
  obtain ⟨k0, g1, -⟩ := fl_pl h1 h2
  exact va_recv cx.2.2.2.2.2.1 hP hc g1
theorem j_calli (cx : Cx p s m args meth c cc nL own Ts D tys) {r : Int32} (hM : CtI l y ws fr lo D tys Bc (.ref b :: As) r Bc') (hG : GoodIn Ts (wsV own index C y ws)) (hw : ws = Cond.code y bytes maxL ret :: ws0) (hd : y.cls = C ∧ y.cls ≠ "java/lang/invoke/MethodHandle" ∧ y.cls ≠ "java/lang/invoke/VarHandle" ∧ (parseMethodDescriptor y.desc).map (fun d => d.parameters.length) = some As.length) (hR : fr + 1 ≤ R.frames ∧ 8 + (maxL + 11) + lo ≤ R.locals) (sel : List Nat) (hsel : sel.map (fun i => Bs[i]?) = Bc.map some) (hnd : va_nd sel = true) (hB : putL Bs sel Bc' = Bs') (had : adr Bc' = adr Bc) (i j : Nat) {bk : va_W} {ci : Nat} {fs : List Value} {T : u_T} {N : Nat} (h1 : Bs[i]? = some bk) (h2 : bk[j]? = some (b, .inr (ci, fs))) (hc : vwCl[ci]? = some (C, T, N)) (hst : stk = As.reverse ++ .ref b :: st) (hcat : (st.map fun v => v.category).sum ≤ 8) (dg : decode cc pc = .ok (.invokevirtual index, 3)) (hroom : cells ≤ R.cells ∧ slots ≤ R.slots) (kk : J p l e R s m args below meth c nL D A cells slots Q Bs' (pc + 3) lv (.int r :: st)) : J p l e R s m args below meth c nL D A cells slots Q Bs pc lv stk := by
  intro H locs ls hP hD hS hl
  subst hst
  obtain ⟨gP, gD, gA⟩ := fl_sub hP hD hsel hnd
  refine va_calli (va_runV (As := As) (rest := st) ⟨cx.1, cx.2.1, cx.2.2.1, cx.2.2.2.1, cx.2.2.2.2.1⟩ hM (cwV As.length cx.2.2.2.2.1 hG hw rfl rfl hd hR) ⟨ct_blind, j_recv cx hP i j h1 h2 hc, fun U hU hW => ⟨rfl, by rw [hU]; exact gP, va_K.moved hW.alike cx.2.2.2.2.2.1, gD.weaken (fun _ _ _ _ => trivial)⟩⟩ rfl rfl hl.1 rfl (lv_room hcat) dg ⟨hroom.1, hroom.2⟩) hS (fun q _ h => gA q h) gA (fun r' u t H1 locs1 ht hvm hw2 hB2 hz hk hS1 => ?_)
  subst hw2
  rw [ht] at hB2
  obtain ⟨nP, nD⟩ := fl_call hP hD hsel hnd hB had hk hB2
  exact kk H1 locs1 ls nP nD hS1 hl
theorem j_callv (cx : Cx p s m args meth c cc nL own Ts D tys) (hM : CtV l y ws fr lo D tys Bc (.ref b :: As) Bc') (hG : GoodIn Ts (wsV own index C y ws)) (hw : ws = Cond.code y bytes maxL ret :: ws0) (hd : y.cls = C ∧ y.cls ≠ "java/lang/invoke/MethodHandle" ∧ y.cls ≠ "java/lang/invoke/VarHandle" ∧ (parseMethodDescriptor y.desc).map (fun d => d.parameters.length) = some As.length) (hR : fr + 1 ≤ R.frames ∧ 8 + (maxL + 11) + lo ≤ R.locals) (sel : List Nat) (hsel : sel.map (fun i => Bs[i]?) = Bc.map some) (hnd : va_nd sel = true) (hB : putL Bs sel Bc' = Bs') (had : adr Bc' = adr Bc) (i j : Nat) {bk : va_W} {ci : Nat} {fs : List Value} {T : u_T} {N : Nat} (h1 : Bs[i]? = some bk) (h2 : bk[j]? = some (b, .inr (ci, fs))) (hc : vwCl[ci]? = some (C, T, N)) (hst : stk = As.reverse ++ .ref b :: st) (hcat : (st.map fun v => v.category).sum ≤ 8) (dg : decode cc pc = .ok (.invokevirtual index, 3)) (hroom : cells ≤ R.cells ∧ slots ≤ R.slots) (kk : J p l e R s m args below meth c nL D A cells slots Q Bs' (pc + 3) lv st) : J p l e R s m args below meth c nL D A cells slots Q Bs pc lv stk := by
  intro H locs ls hP hD hS hl
  subst hst
  obtain ⟨gP, gD, gA⟩ := fl_sub hP hD hsel hnd
  refine va_callv (va_runV (As := As) (rest := st) ⟨cx.1, cx.2.1, cx.2.2.1, cx.2.2.2.1, cx.2.2.2.2.1⟩ hM (cwV As.length cx.2.2.2.2.1 hG hw rfl rfl hd hR) ⟨ct_blind, j_recv cx hP i j h1 h2 hc, fun U hU hW => ⟨rfl, by rw [hU]; exact gP, va_K.moved hW.alike cx.2.2.2.2.2.1, gD.weaken (fun _ _ _ _ => trivial)⟩⟩ rfl rfl hl.1 rfl (lv_room hcat) dg ⟨hroom.1, hroom.2⟩) hS (fun q _ h => gA q h) gA (fun u t H1 locs1 ht hvm hw2 hB2 hz hk hS1 => ?_)
  rw [ht] at hB2
  obtain ⟨nP, nD⟩ := fl_call hP hD hsel hnd hB had hk hB2
  exact kk H1 locs1 ls nP nD hS1 hl
/-- a static method of whole numbers: no blocks -/
theorem j_calls (cx : Cx p s m args meth c cc nL own Ts D tys) {r : Int32} (hM : CtI l y ws fr lo D tys [] As r []) (hG : GoodIn Ts (va_wsS own index y ws)) (hw : ws = Cond.code y bytes maxL ret :: ws0) (hd : y.cls ≠ "java/lang/invoke/MethodHandle" ∧ y.cls ≠ "java/lang/invoke/VarHandle" ∧ (parseMethodDescriptor y.desc).map (fun d => d.parameters.length) = some As.length) (hR : fr + 1 ≤ R.frames ∧ 8 + (maxL + 11) + lo ≤ R.locals) (hst : stk = As.reverse ++ st) (hcat : (st.map fun v => v.category).sum ≤ 8) (dg : decode cc pc = .ok (.invokestatic index, 3)) (hroom : cells ≤ R.cells ∧ slots ≤ R.slots) (kk : J p l e R s m args below meth c nL D A cells slots Q Bs (pc + 3) lv (.int r :: st)) : J p l e R s m args below meth c nL D A cells slots Q Bs pc lv stk := by
  intro H locs ls hP hD hS hl
  subst hst
  have hsel : ([] : List Nat).map (fun i => Bs[i]?) = ([] : List va_W).map some := rfl
  obtain ⟨gP, gD, gA⟩ := fl_sub hP hD hsel rfl
  refine va_calli (va_runS (As := As) (rest := st) ⟨cx.1, cx.2.1, cx.2.2.1, cx.2.2.2.1, cx.2.2.2.2.1⟩ hM (va_cwS As.length cx.2.2.2.2.1 hG hw rfl rfl hd hR) ⟨ct_blind, fun U hU hW => ⟨rfl, by rw [hU]; exact gP, va_K.moved hW.alike cx.2.2.2.2.2.1, gD.weaken (fun _ _ _ _ => trivial)⟩⟩ rfl rfl hl.1 rfl (lv_room hcat) dg ⟨hroom.1, hroom.2⟩) hS (fun q _ h => gA q h) gA (fun r' u t H1 locs1 ht hvm hw2 hB2 hz hk hS1 => ?_)
  subst hw2
  rw [ht] at hB2
  obtain ⟨nP, nD⟩ := fl_call hP hD hsel rfl (Bs' := Bs) rfl rfl hk hB2
  exact kk H1 locs1 ls nP nD hS1 hl
end CALLS
/-- the end of a method of whole numbers, of one that answers a boolean, of one that answers nothing -/
theorem j_iret {B0 Bs' : List va_W} {x r : Int32} (cx : Cx p s m args meth c cc nL own Ts D tys) (hr : meth.sig.returnType = some .int) (hx : x = r) (hB : Bs = Bs') (hA : A = bA B0) (dg : decode cc pc = .ok (.ireturn, 1)) : J p l e R s m args below meth c nL D A cells slots (MQ below (va_Qi (S := Unit) (fun r' _ => r' = r) (fun _ t => va_P D vwCl Bs'.flatten t.heap) (bA B0)) args s cells slots (bA B0)) Bs pc lv [.int x] := by
  intro H locs ls hP hD hS hl
  subst hB; subst hx; subst hA
  exact W.iret (v := x) cx.1 cx.2.1 hr (fun t ht hW => ⟨⟨x, (), rfl, rfl, by show va_P _ _ _ t.heap; rw [ht]; exact hP⟩, hS.F ht⟩) hS.2.2 dg cx.2.2.2.2.2.2
theorem j_zret {B0 Bs' : List va_W} {x r : Int32} (cx : Cx p s m args meth c cc nL own Ts D tys) (hr : meth.sig.returnType = some .boolean) (hn : narrow .boolean (.int x) = .int x) (hx : x = r) (hB : Bs = Bs') (hA : A = bA B0) (dg : decode cc pc = .ok (.ireturn, 1)) : J p l e R s m args below meth c nL D A cells slots (MQ below (va_Qi (S := Unit) (fun r' _ => r' = r) (fun _ t => va_P D vwCl Bs'.flatten t.heap) (bA B0)) args s cells slots (bA B0)) Bs pc lv [.int x] := by
  intro H locs ls hP hD hS hl
  subst hB; subst hx; subst hA
  exact W.zret (v := x) cx.1 cx.2.1 hr hn (fun t ht hW => ⟨⟨x, (), rfl, rfl, by show va_P _ _ _ t.heap; rw [ht]; exact hP⟩, hS.F ht⟩) hS.2.2 dg cx.2.2.2.2.2.2
theorem j_vret {B0 Bs' : List va_W} (cx : Cx p s m args meth c cc nL own Ts D tys) (hr : meth.sig.returnType = none) (hB : Bs = Bs') (hA : A = bA B0) (dg : decode cc pc = .ok (.return_, 1)) : J p l e R s m args below meth c nL D A cells slots (MQ below (va_Qv (S := Unit) (fun _ => True) (fun _ t => va_P D vwCl Bs'.flatten t.heap) (bA B0)) args s cells slots (bA B0)) Bs pc lv [] := by
  intro H locs ls hP hD hS hl
  subst hB; subst hA
  exact W.vret cx.1 cx.2.1 hr (fun t ht hW => ⟨⟨(), rfl, trivial, by show va_P _ _ _ t.heap; rw [ht]; exact hP⟩, hS.F ht⟩) hS.2.2 dg cx.2.2.2.2.2.2
end JR
theorem CtI.intro {own : String} {l : Launch} {y : MethodName} {ws ws0 : List Cond} {fr lo : Nat} {D : va_G} {tys : List (ClassId × FieldType)} {Bs Bs' : List va_W} {avs : List Value} {r : Int32} {cc : ByteArray} {maxL : Nat} {ret : Option FieldType} (ho : y.cls = own) (hy : plainName own = true) (hw : ws = Cond.code y cc maxL ret :: ws0) (hle : (lg_sl avs).length ≤ maxL)
    (body : ∀ (p : Program) (e : Env) (s : State) (m : MethodId) (below : List Frame) (meth : Method) (c : Code) (A : Nat → Prop), A = bA Bs → Cx p s m avs.toArray meth c cc maxL own ws D tys → meth.sig.returnType = ret → J p l e { frames := fr, cells := 0, slots := 0, locals := lo } s m avs.toArray below meth c maxL D A 0 0 (MQ below (va_Qi (S := Unit) (fun r' _ => r' = r) (fun _ t => va_P D vwCl Bs'.flatten t.heap) (bA Bs)) avs.toArray s 0 0 (bA Bs)) Bs 0 (lv_args 0 avs) []) : CtI l y ws fr lo D tys Bs avs r Bs' := by
  subst ho
  refine Met.ofW (cc := cc) (maxL := maxL) (ret := ret) hy hw ?_
  intro p e s m args below meth c s₁ B hml hv
  obtain ⟨rfl, hP, hK, hD⟩ := hv
  rw [lg_entry_eq]
  refine body p e s m below meth c (bA Bs) rfl ⟨B.exec, B.bytes, hml, findClass_of_methodNamed B.named, atoms_spec (ws := ws) B.pre, hK, B.notSynchronized⟩ B.returns s.heap [] _ hP ?_ va_S.rf (lv_entry avs hle)
  exact hD.weaken (fun k q hk _ => ⟨q, List.mem_of_getElem? hk, rfl⟩)
theorem CtV.intro {own : String} {l : Launch} {y : MethodName} {ws ws0 : List Cond} {fr lo : Nat} {D : va_G} {tys : List (ClassId × FieldType)} {Bs Bs' : List va_W} {avs : List Value} {cc : ByteArray} {maxL : Nat} (ho : y.cls = own) (hy : plainName own = true) (hw : ws = Cond.code y cc maxL none :: ws0) (hle : (lg_sl avs).length ≤ maxL)
    (body : ∀ (p : Program) (e : Env) (s : State) (m : MethodId) (below : List Frame) (meth : Method) (c : Code) (A : Nat → Prop), A = bA Bs → Cx p s m avs.toArray meth c cc maxL own ws D tys → meth.sig.returnType = none → J p l e { frames := fr, cells := 0, slots := 0, locals := lo } s m avs.toArray below meth c maxL D A 0 0 (MQ below (va_Qv (S := Unit) (fun _ => True) (fun _ t => va_P D vwCl Bs'.flatten t.heap) (bA Bs)) avs.toArray s 0 0 (bA Bs)) Bs 0 (lv_args 0 avs) []) : CtV l y ws fr lo D tys Bs avs Bs' := by
  subst ho
  refine Met.ofW (cc := cc) (maxL := maxL) (ret := none) hy hw ?_
  intro p e s m args below meth c s₁ B hml hv
  obtain ⟨rfl, hP, hK, hD⟩ := hv
  rw [lg_entry_eq]
  refine body p e s m below meth c (bA Bs) rfl ⟨B.exec, B.bytes, hml, findClass_of_methodNamed B.named, atoms_spec (ws := ws) B.pre, hK, B.notSynchronized⟩ B.returns s.heap [] _ hP ?_ va_S.rf (lv_entry avs hle)
  exact hD.weaken (fun k q hk _ => ⟨q, List.mem_of_getElem? hk, rfl⟩)
end
section
/-! the system's state in numbers: a line V : Nat → Nat → Int32, by component; its blocks -/
def setC (V : Nat → Nat → Int32) (c : Nat) (g : Nat → Int32) : Nat → Nat → Int32 := fun c' => if c' = c then g else V c'
abbrev up1 (V : Nat → Nat → Int32) (c i : Nat) (x : Int32) : Nat → Nat → Int32 := setC V c (upd (V c) i x)
theorem setC_eq (V : Nat → Nat → Int32) (c : Nat) (g : Nat → Int32) : setC V c g c = g := if_pos rfl
theorem setC_ne {V : Nat → Nat → Int32} {c c' : Nat} {g : Nat → Int32} (h : c' ≠ c) : setC V c g c' = V c' := if_neg h
abbrev tyL (Y : Nat → ClassId) : List (ClassId × FieldType) := [(Y 0, .int), (Y 1, .char), (Y 2, .object "FourPhases$Line"), (Y 3, .object "FourPhases$Link"), (Y 4, .object "FourPhases$Row")]
abbrev ia (cI : ClassId) (n : Nat) (f : Nat → Int32) : va_E := .inl (cI, n, .inl f)
abbrev ra (cR : ClassId) (n : Nat) (f : Nat → Option Nat) : va_E := .inl (cR, n, .inr (.inr (.inr (.inr f))))
abbrev chB (cI : ClassId) (a b c : Nat) (sc t g : Nat → Int32) : va_W := [(a, .inr (0, [.ref b, .ref c, .int (sc 0), .int (sc 1)])), (b, ia cI 64 t), (c, ia cI 64 g)]
abbrev ntB (cI : ClassId) (a b c d : Nat) (sc w t r : Nat → Int32) : va_W := [(a, .inr (4, [.ref b, .ref c, .ref d, .int (sc 0), .int (sc 1)])), (b, ia cI 50 w), (c, ia cI 50 t), (d, ia cI 50 r)]
abbrev lkB (cI : ClassId) (a d : Nat) (F G : Nat → Int32) : va_W := [(a, .inr (3, [.ref d, .int (F 0), .int (F 1), .int (F 2), .int (F 3), .int (F 4), .int (F 5), .int (F 6), .int (F 7), .int (F 8)])), (d, ia cI 3 G)]
abbrev rwB (cI : ClassId) (a w : Nat) (sc W : Nat → Int32) : va_W := [(a, .inr (5, [.ref w, .int (sc 0)])), (w, ia cI 20 W)]
abbrev lnB (Y : Nat → ClassId) (ad : Nat → Nat) (sc se he of : Nat → Int32) : va_W := [(ad 0, .inr (2, [.int (sc 0), .int (sc 1), .int (sc 2), .int (sc 3), .int (sc 4), .ref (ad 1), .ref (ad 2), .ref (ad 3), .ref (ad 4), .ref (ad 5), .ref (ad 8), .ref (ad 12)])), (ad 1, ia (Y 0) 3 se), (ad 2, ra (Y 3) 7 (fun k => some (ad (13 + 2 * k)))), (ad 3, ia (Y 0) 6 he), (ad 4, ra (Y 4) 2 (fun k => some (ad (27 + 2 * k)))), (ad 12, ia (Y 0) 8 of)]
/-- the twelve blocks of a Line: itself, its changes, its notes, seven links, two rows -/
def LB (Y : Nat → ClassId) (ad : Nat → Nat) (V : Nat → Nat → Int32) : List va_W := [lnB Y ad (V 0) (V 1) (V 2) (V 3), chB (Y 0) (ad 5) (ad 6) (ad 7) (V 4) (V 5) (V 6), ntB (Y 0) (ad 8) (ad 9) (ad 10) (ad 11) (V 7) (V 8) (V 9) (V 10),
  lkB (Y 0) (ad 13) (ad 14) (V 11) (V 18), lkB (Y 0) (ad 15) (ad 16) (V 12) (V 19), lkB (Y 0) (ad 17) (ad 18) (V 13) (V 20), lkB (Y 0) (ad 19) (ad 20) (V 14) (V 21), lkB (Y 0) (ad 21) (ad 22) (V 15) (V 22), lkB (Y 0) (ad 23) (ad 24) (V 16) (V 23), lkB (Y 0) (ad 25) (ad 26) (V 17) (V 24),
  rwB (Y 0) (ad 27) (ad 28) (V 27) (V 25), rwB (Y 0) (ad 29) (ad 30) (V 28) (V 26)]
abbrev chU (V : Nat → Nat → Int32) : Nat → Nat → Int32 := fun c => V (4 + c)
abbrev ntU (V : Nat → Nat → Int32) : Nat → Nat → Int32 := fun c => V (7 + c)
abbrev lkU (V : Nat → Nat → Int32) (k : Nat) : Nat → Nat → Int32 := fun c => match c with | 0 => V (11 + k) | _ => V (18 + k)
abbrev rwU (V : Nat → Nat → Int32) (k : Nat) : Nat → Nat → Int32 := fun c => match c with | 0 => V (27 + k) | _ => V (25 + k)
abbrev chS (V U : Nat → Nat → Int32) : Nat → Nat → Int32 := setC (setC (setC V 4 (U 0)) 5 (U 1)) 6 (U 2)
abbrev ntS (V U : Nat → Nat → Int32) : Nat → Nat → Int32 := setC (setC (setC (setC V 7 (U 0)) 8 (U 1)) 9 (U 2)) 10 (U 3)
abbrev lkS (V : Nat → Nat → Int32) (k : Nat) (U : Nat → Nat → Int32) : Nat → Nat → Int32 := setC (setC V (11 + k) (U 0)) (18 + k) (U 1)
abbrev rwS (V : Nat → Nat → Int32) (k : Nat) (U : Nat → Nat → Int32) : Nat → Nat → Int32 := setC (setC V (27 + k) (U 0)) (25 + k) (U 1)
section LBS
variable (Y : Nat → ClassId) (ad : Nat → Nat) (V : Nat → Nat → Int32)
theorem LB_lk {k : Nat} (h : k < 7) : (LB Y ad V)[3 + k]? = some (lkB (Y 0) (ad (13 + 2 * k)) (ad (14 + 2 * k)) (V (11 + k)) (V (18 + k))) := by
  match k, h with
  | 0, _ | 1, _ | 2, _ | 3, _ | 4, _ | 5, _ | 6, _ => rfl
theorem LB_rw {k : Nat} (h : k < 2) : (LB Y ad V)[10 + k]? = some (rwB (Y 0) (ad (27 + 2 * k)) (ad (28 + 2 * k)) (V (27 + k)) (V (25 + k))) := by
  match k, h with
  | 0, _ | 1, _ => rfl
theorem LB_lkF {k : Nat} (h : k < 7) (F : Nat → Int32) : (LB Y ad V).set (3 + k) (lkB (Y 0) (ad (13 + 2 * k)) (ad (14 + 2 * k)) F (V (18 + k))) = LB Y ad (setC V (11 + k) F) := by
  match k, h with
  | 0, _ | 1, _ | 2, _ | 3, _ | 4, _ | 5, _ | 6, _ => rfl
theorem LB_lkG {k : Nat} (h : k < 7) (G : Nat → Int32) : (LB Y ad V).set (3 + k) (lkB (Y 0) (ad (13 + 2 * k)) (ad (14 + 2 * k)) (V (11 + k)) G) = LB Y ad (setC V (18 + k) G) := by
  match k, h with
  | 0, _ | 1, _ | 2, _ | 3, _ | 4, _ | 5, _ | 6, _ => rfl
theorem LB_lkS {k : Nat} (h : k < 7) (U : Nat → Nat → Int32) : (LB Y ad V).set (3 + k) (lkB (Y 0) (ad (13 + 2 * k)) (ad (14 + 2 * k)) (U 0) (U 1)) = LB Y ad (lkS V k U) := by
  match k, h with
  | 0, _ | 1, _ | 2, _ | 3, _ | 4, _ | 5, _ | 6, _ => rfl
theorem LB_rwS {k : Nat} (h : k < 2) (U : Nat → Nat → Int32) : (LB Y ad V).set (10 + k) (rwB (Y 0) (ad (27 + 2 * k)) (ad (28 + 2 * k)) (U 0) (U 1)) = LB Y ad (rwS V k U) := by
  match k, h with
  | 0, _ | 1, _ => rfl
theorem LB_chS (U : Nat → Nat → Int32) : (LB Y ad V).set 1 (chB (Y 0) (ad 5) (ad 6) (ad 7) (U 0) (U 1) (U 2)) = LB Y ad (chS V U) := rfl
theorem LB_ntS (U : Nat → Nat → Int32) : (LB Y ad V).set 2 (ntB (Y 0) (ad 8) (ad 9) (ad 10) (ad 11) (U 0) (U 1) (U 2) (U 3)) = LB Y ad (ntS V U) := rfl
theorem LB_adr (V' : Nat → Nat → Int32) : adr (LB Y ad V') = adr (LB Y ad V) := rfl
end LBS
/-- the text's block, the history's, the class's own, the reference's -/
abbrev txB (Y : Nat → ClassId) (tx : Nat → Nat) (T : Nat → Nat → Int32) : va_W := [(tx 0, .inr (6, [.ref (tx 1), .int (T 0 0), .ref (tx 2), .ref (tx 3), .ref (tx 4), .int (T 0 1), .int (T 0 2)])), (tx 1, ia (Y 1) 60 (T 1)), (tx 2, ia (Y 0) 20 (T 2)), (tx 3, ia (Y 0) 20 (T 3)), (tx 4, ia (Y 0) 20 (T 4))]
abbrev hsB (Y : Nat → ClassId) (h0 h1 : Nat) (hs : Nat → Nat → Nat) (n : Int32) : va_W := [(h0, .inr (1, [.ref h1, .int n])), (h1, ra (Y 2) 4 (fun k => some (hs k 0)))]
abbrev moB (Y : Nat → ClassId) (mo : Nat → Nat) (M : Nat → Nat → Int32) : va_W := [(mo 0, .inr (8, [.ref (mo 1), .ref (mo 2), .ref (mo 3), .int (M 0 0), .ref (mo 4), .int (M 0 1), .ref (mo 5), .int (M 0 2), .int (M 0 3), .int (M 0 4), .int (M 0 5), .int (M 0 6)])), (mo 1, ia (Y 0) 719 (M 1)), (mo 2, ia (Y 0) 719 (M 2)), (mo 3, ia (Y 0) 2876 (M 3)), (mo 4, ia (Y 0) 719 (M 4)), (mo 5, ia (Y 0) 60 (M 5))]
end
