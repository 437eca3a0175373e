section
-- ===== PART A: goes FIRST, ahead of the names: the tables' words, and 'selects' of the private methods out of them =====
/-- a private method of a class that the tables say can be made, by its rows of tables_1 -/
def lw_okq (q : MethodName × Nat) : Prop := (q.1.cls ≠ "java/lang/invoke/MethodHandle" ∧ q.1.cls ≠ "java/lang/invoke/VarHandle") ∧ Cond.instantiable q.1.cls q.2 ∈ tables_1 ∧ Cond.privateMethod q.1 ∈ tables_1 ∧ Cond.instanceMethod q.1 ∈ tables_1
theorem lw_p0 : lw_okq (⟨"LateExcuses$Events", "hasOutcome", "(III)Z"⟩, 2) := ⟨⟨by decide +kernel, by decide +kernel⟩, List.mem_of_getElem? (i := 28) (by decide +kernel), List.mem_of_getElem? (i := 230) (by decide +kernel), List.mem_of_getElem? (i := 231) (by decide +kernel)⟩
theorem lw_p1 : lw_okq (⟨"LateExcuses$Panes", "rowOf", "(I)I"⟩, 3) := ⟨⟨by decide +kernel, by decide +kernel⟩, List.mem_of_getElem? (i := 61) (by decide +kernel), List.mem_of_getElem? (i := 317) (by decide +kernel), List.mem_of_getElem? (i := 318) (by decide +kernel)⟩
theorem lw_p2 : lw_okq (⟨"LateExcuses$Court", "endOf", "(I)I"⟩, 9) := ⟨⟨by decide +kernel, by decide +kernel⟩, List.mem_of_getElem? (i := 22) (by decide +kernel), List.mem_of_getElem? (i := 322) (by decide +kernel), List.mem_of_getElem? (i := 323) (by decide +kernel)⟩
theorem lw_p3 : lw_okq (⟨"LateExcuses$Court", "isAcceptable", "(III)Z"⟩, 9) := ⟨⟨by decide +kernel, by decide +kernel⟩, List.mem_of_getElem? (i := 22) (by decide +kernel), List.mem_of_getElem? (i := 326) (by decide +kernel), List.mem_of_getElem? (i := 327) (by decide +kernel)⟩
theorem lw_p4 : lw_okq (⟨"LateExcuses$Cabinets", "cabinetFor", "(I)I"⟩, 1) := ⟨⟨by decide +kernel, by decide +kernel⟩, List.mem_of_getElem? (i := 100) (by decide +kernel), List.mem_of_getElem? (i := 342) (by decide +kernel), List.mem_of_getElem? (i := 343) (by decide +kernel)⟩
theorem lw_p5 : lw_okq (⟨"LateExcuses$Cabinets", "isFull", "(I)Z"⟩, 1) := ⟨⟨by decide +kernel, by decide +kernel⟩, List.mem_of_getElem? (i := 100) (by decide +kernel), List.mem_of_getElem? (i := 346) (by decide +kernel), List.mem_of_getElem? (i := 347) (by decide +kernel)⟩
theorem lw_p6 : lw_okq (⟨"LateExcuses$Panes", "rowMadeFor", "(I)I"⟩, 3) := ⟨⟨by decide +kernel, by decide +kernel⟩, List.mem_of_getElem? (i := 61) (by decide +kernel), List.mem_of_getElem? (i := 372) (by decide +kernel), List.mem_of_getElem? (i := 373) (by decide +kernel)⟩
theorem lw_p7 : lw_okq (⟨"LateExcuses$Panes", "rowBehind", "(I)I"⟩, 3) := ⟨⟨by decide +kernel, by decide +kernel⟩, List.mem_of_getElem? (i := 61) (by decide +kernel), List.mem_of_getElem? (i := 376) (by decide +kernel), List.mem_of_getElem? (i := 377) (by decide +kernel)⟩
theorem lw_p8 : lw_okq (⟨"LateExcuses$Panes", "takeBack", "(I)V"⟩, 3) := ⟨⟨by decide +kernel, by decide +kernel⟩, List.mem_of_getElem? (i := 61) (by decide +kernel), List.mem_of_getElem? (i := 386) (by decide +kernel), List.mem_of_getElem? (i := 387) (by decide +kernel)⟩
theorem lw_p9 : lw_okq (⟨"LateExcuses$Panes", "isStanding", "(I)Z"⟩, 3) := ⟨⟨by decide +kernel, by decide +kernel⟩, List.mem_of_getElem? (i := 61) (by decide +kernel), List.mem_of_getElem? (i := 390) (by decide +kernel), List.mem_of_getElem? (i := 391) (by decide +kernel)⟩
theorem lw_p10 : lw_okq (⟨"LateExcuses$Court", "raiseWatermark", "(I)V"⟩, 9) := ⟨⟨by decide +kernel, by decide +kernel⟩, List.mem_of_getElem? (i := 22) (by decide +kernel), List.mem_of_getElem? (i := 407) (by decide +kernel), List.mem_of_getElem? (i := 408) (by decide +kernel)⟩
theorem lw_p11 : lw_okq (⟨"LateExcuses$Panes", "tellWord", "(I)V"⟩, 3) := ⟨⟨by decide +kernel, by decide +kernel⟩, List.mem_of_getElem? (i := 61) (by decide +kernel), List.mem_of_getElem? (i := 417) (by decide +kernel), List.mem_of_getElem? (i := 418) (by decide +kernel)⟩
theorem lw_p12 : lw_okq (⟨"LateExcuses$Court", "latestIn", "(III)I"⟩, 9) := ⟨⟨by decide +kernel, by decide +kernel⟩, List.mem_of_getElem? (i := 22) (by decide +kernel), List.mem_of_getElem? (i := 527) (by decide +kernel), List.mem_of_getElem? (i := 528) (by decide +kernel)⟩
theorem lw_p13 : lw_okq (⟨"LateExcuses$Text", "readNumber", "()Z"⟩, 11) := ⟨⟨by decide +kernel, by decide +kernel⟩, List.mem_of_getElem? (i := 158) (by decide +kernel), List.mem_of_getElem? (i := 628) (by decide +kernel), List.mem_of_getElem? (i := 629) (by decide +kernel)⟩
theorem lw_p14 : lw_okq (⟨"LateExcuses$Text", "signHere", "()C"⟩, 11) := ⟨⟨by decide +kernel, by decide +kernel⟩, List.mem_of_getElem? (i := 158) (by decide +kernel), List.mem_of_getElem? (i := 632) (by decide +kernel), List.mem_of_getElem? (i := 633) (by decide +kernel)⟩
theorem lw_p15 : lw_okq (⟨"LateExcuses$Text", "readSign", "(C)Z"⟩, 11) := ⟨⟨by decide +kernel, by decide +kernel⟩, List.mem_of_getElem? (i := 158) (by decide +kernel), List.mem_of_getElem? (i := 637) (by decide +kernel), List.mem_of_getElem? (i := 638) (by decide +kernel)⟩
def lw_privs_1 : List (MethodName × Nat) := [(⟨"LateExcuses$Events", "hasOutcome", "(III)Z"⟩, 2), (⟨"LateExcuses$Panes", "rowOf", "(I)I"⟩, 3), (⟨"LateExcuses$Court", "endOf", "(I)I"⟩, 9), (⟨"LateExcuses$Court", "isAcceptable", "(III)Z"⟩, 9), (⟨"LateExcuses$Cabinets", "cabinetFor", "(I)I"⟩, 1), (⟨"LateExcuses$Cabinets", "isFull", "(I)Z"⟩, 1), (⟨"LateExcuses$Panes", "rowMadeFor", "(I)I"⟩, 3), (⟨"LateExcuses$Panes", "rowBehind", "(I)I"⟩, 3), (⟨"LateExcuses$Panes", "takeBack", "(I)V"⟩, 3), (⟨"LateExcuses$Panes", "isStanding", "(I)Z"⟩, 3), (⟨"LateExcuses$Court", "raiseWatermark", "(I)V"⟩, 9), (⟨"LateExcuses$Panes", "tellWord", "(I)V"⟩, 3), (⟨"LateExcuses$Court", "latestIn", "(III)I"⟩, 9), (⟨"LateExcuses$Text", "readNumber", "()Z"⟩, 11), (⟨"LateExcuses$Text", "signHere", "()C"⟩, 11), (⟨"LateExcuses$Text", "readSign", "(C)Z"⟩, 11)]
theorem lw_r1 : ∀ q ∈ lw_privs_1, lw_okq q := List.forall_mem_cons.mpr ⟨lw_p0, List.forall_mem_cons.mpr ⟨lw_p1, List.forall_mem_cons.mpr ⟨lw_p2, List.forall_mem_cons.mpr ⟨lw_p3, List.forall_mem_cons.mpr ⟨lw_p4, List.forall_mem_cons.mpr ⟨lw_p5, List.forall_mem_cons.mpr ⟨lw_p6, List.forall_mem_cons.mpr ⟨lw_p7, List.forall_mem_cons.mpr ⟨lw_p8, List.forall_mem_cons.mpr ⟨lw_p9, List.forall_mem_cons.mpr ⟨lw_p10, List.forall_mem_cons.mpr ⟨lw_p11, List.forall_mem_cons.mpr ⟨lw_p12, List.forall_mem_cons.mpr ⟨lw_p13, List.forall_mem_cons.mpr ⟨lw_p14, List.forall_mem_cons.mpr ⟨lw_p15, fun _ h => absurd h List.not_mem_nil⟩⟩⟩⟩⟩⟩⟩⟩⟩⟩⟩⟩⟩⟩⟩⟩
theorem lw_p16 : lw_okq (⟨"LateExcuses$Text", "readExcuse", "()I"⟩, 11) := ⟨⟨by decide +kernel, by decide +kernel⟩, List.mem_of_getElem? (i := 158) (by decide +kernel), List.mem_of_getElem? (i := 641) (by decide +kernel), List.mem_of_getElem? (i := 642) (by decide +kernel)⟩
theorem lw_p17 : lw_okq (⟨"LateExcusesModel", "records", "()V"⟩, 8) := ⟨⟨by decide +kernel, by decide +kernel⟩, List.mem_of_getElem? (i := 659) (by decide +kernel), List.mem_of_getElem? (i := 703) (by decide +kernel), List.mem_of_getElem? (i := 704) (by decide +kernel)⟩
theorem lw_p18 : lw_okq (⟨"LateExcusesModel", "comes", "(IIIII)I"⟩, 8) := ⟨⟨by decide +kernel, by decide +kernel⟩, List.mem_of_getElem? (i := 659) (by decide +kernel), List.mem_of_getElem? (i := 714) (by decide +kernel), List.mem_of_getElem? (i := 715) (by decide +kernel)⟩
theorem lw_p19 : lw_okq (⟨"LateExcusesModel", "ofE", "(II)I"⟩, 8) := ⟨⟨by decide +kernel, by decide +kernel⟩, List.mem_of_getElem? (i := 659) (by decide +kernel), List.mem_of_getElem? (i := 718) (by decide +kernel), List.mem_of_getElem? (i := 719) (by decide +kernel)⟩
theorem lw_p20 : lw_okq (⟨"LateExcusesModel", "judgeOf", "(III)I"⟩, 8) := ⟨⟨by decide +kernel, by decide +kernel⟩, List.mem_of_getElem? (i := 659) (by decide +kernel), List.mem_of_getElem? (i := 722) (by decide +kernel), List.mem_of_getElem? (i := 723) (by decide +kernel)⟩
theorem lw_p21 : lw_okq (⟨"LateExcusesModel", "paneAt", "(I)I"⟩, 8) := ⟨⟨by decide +kernel, by decide +kernel⟩, List.mem_of_getElem? (i := 659) (by decide +kernel), List.mem_of_getElem? (i := 726) (by decide +kernel), List.mem_of_getElem? (i := 727) (by decide +kernel)⟩
theorem lw_p22 : lw_okq (⟨"LateExcusesModel", "modeOf", "(I)I"⟩, 8) := ⟨⟨by decide +kernel, by decide +kernel⟩, List.mem_of_getElem? (i := 659) (by decide +kernel), List.mem_of_getElem? (i := 730) (by decide +kernel), List.mem_of_getElem? (i := 731) (by decide +kernel)⟩
theorem lw_p23 : lw_okq (⟨"LateExcusesModel", "find", "(I)I"⟩, 8) := ⟨⟨by decide +kernel, by decide +kernel⟩, List.mem_of_getElem? (i := 659) (by decide +kernel), List.mem_of_getElem? (i := 734) (by decide +kernel), List.mem_of_getElem? (i := 735) (by decide +kernel)⟩
theorem lw_p24 : lw_okq (⟨"LateExcusesModel", "ofP", "(II)I"⟩, 8) := ⟨⟨by decide +kernel, by decide +kernel⟩, List.mem_of_getElem? (i := 659) (by decide +kernel), List.mem_of_getElem? (i := 738) (by decide +kernel), List.mem_of_getElem? (i := 739) (by decide +kernel)⟩
theorem lw_p25 : lw_okq (⟨"LateExcusesModel", "isShut", "(I)Z"⟩, 8) := ⟨⟨by decide +kernel, by decide +kernel⟩, List.mem_of_getElem? (i := 659) (by decide +kernel), List.mem_of_getElem? (i := 742) (by decide +kernel), List.mem_of_getElem? (i := 743) (by decide +kernel)⟩
theorem lw_p26 : lw_okq (⟨"LateExcusesModel", "endOf", "(I)I"⟩, 8) := ⟨⟨by decide +kernel, by decide +kernel⟩, List.mem_of_getElem? (i := 659) (by decide +kernel), List.mem_of_getElem? (i := 746) (by decide +kernel), List.mem_of_getElem? (i := 747) (by decide +kernel)⟩
theorem lw_p27 : lw_okq (⟨"LateExcusesModel", "isExcuse", "(III)Z"⟩, 8) := ⟨⟨by decide +kernel, by decide +kernel⟩, List.mem_of_getElem? (i := 659) (by decide +kernel), List.mem_of_getElem? (i := 750) (by decide +kernel), List.mem_of_getElem? (i := 751) (by decide +kernel)⟩
theorem lw_p28 : lw_okq (⟨"LateExcusesModel", "wasIll", "(I)Z"⟩, 8) := ⟨⟨by decide +kernel, by decide +kernel⟩, List.mem_of_getElem? (i := 659) (by decide +kernel), List.mem_of_getElem? (i := 754) (by decide +kernel), List.mem_of_getElem? (i := 755) (by decide +kernel)⟩
theorem lw_p29 : lw_okq (⟨"LateExcusesModel", "placeFor", "(I)I"⟩, 8) := ⟨⟨by decide +kernel, by decide +kernel⟩, List.mem_of_getElem? (i := 659) (by decide +kernel), List.mem_of_getElem? (i := 758) (by decide +kernel), List.mem_of_getElem? (i := 759) (by decide +kernel)⟩
theorem lw_p30 : lw_okq (⟨"LateExcusesModel", "placeIn", "(I)I"⟩, 8) := ⟨⟨by decide +kernel, by decide +kernel⟩, List.mem_of_getElem? (i := 659) (by decide +kernel), List.mem_of_getElem? (i := 762) (by decide +kernel), List.mem_of_getElem? (i := 763) (by decide +kernel)⟩
theorem lw_p31 : lw_okq (⟨"LateExcusesModel", "keeps", "(I)I"⟩, 8) := ⟨⟨by decide +kernel, by decide +kernel⟩, List.mem_of_getElem? (i := 659) (by decide +kernel), List.mem_of_getElem? (i := 766) (by decide +kernel), List.mem_of_getElem? (i := 767) (by decide +kernel)⟩
def lw_privs_2 : List (MethodName × Nat) := [(⟨"LateExcuses$Text", "readExcuse", "()I"⟩, 11), (⟨"LateExcusesModel", "records", "()V"⟩, 8), (⟨"LateExcusesModel", "comes", "(IIIII)I"⟩, 8), (⟨"LateExcusesModel", "ofE", "(II)I"⟩, 8), (⟨"LateExcusesModel", "judgeOf", "(III)I"⟩, 8), (⟨"LateExcusesModel", "paneAt", "(I)I"⟩, 8), (⟨"LateExcusesModel", "modeOf", "(I)I"⟩, 8), (⟨"LateExcusesModel", "find", "(I)I"⟩, 8), (⟨"LateExcusesModel", "ofP", "(II)I"⟩, 8), (⟨"LateExcusesModel", "isShut", "(I)Z"⟩, 8), (⟨"LateExcusesModel", "endOf", "(I)I"⟩, 8), (⟨"LateExcusesModel", "isExcuse", "(III)Z"⟩, 8), (⟨"LateExcusesModel", "wasIll", "(I)Z"⟩, 8), (⟨"LateExcusesModel", "placeFor", "(I)I"⟩, 8), (⟨"LateExcusesModel", "placeIn", "(I)I"⟩, 8), (⟨"LateExcusesModel", "keeps", "(I)I"⟩, 8)]
theorem lw_r2 : ∀ q ∈ lw_privs_2, lw_okq q := List.forall_mem_cons.mpr ⟨lw_p16, List.forall_mem_cons.mpr ⟨lw_p17, List.forall_mem_cons.mpr ⟨lw_p18, List.forall_mem_cons.mpr ⟨lw_p19, List.forall_mem_cons.mpr ⟨lw_p20, List.forall_mem_cons.mpr ⟨lw_p21, List.forall_mem_cons.mpr ⟨lw_p22, List.forall_mem_cons.mpr ⟨lw_p23, List.forall_mem_cons.mpr ⟨lw_p24, List.forall_mem_cons.mpr ⟨lw_p25, List.forall_mem_cons.mpr ⟨lw_p26, List.forall_mem_cons.mpr ⟨lw_p27, List.forall_mem_cons.mpr ⟨lw_p28, List.forall_mem_cons.mpr ⟨lw_p29, List.forall_mem_cons.mpr ⟨lw_p30, List.forall_mem_cons.mpr ⟨lw_p31, fun _ h => absurd h List.not_mem_nil⟩⟩⟩⟩⟩⟩⟩⟩⟩⟩⟩⟩⟩⟩⟩⟩
theorem lw_p32 : lw_okq (⟨"LateExcusesModel", "setsP", "(III)V"⟩, 8) := ⟨⟨by decide +kernel, by decide +kernel⟩, List.mem_of_getElem? (i := 659) (by decide +kernel), List.mem_of_getElem? (i := 770) (by decide +kernel), List.mem_of_getElem? (i := 771) (by decide +kernel)⟩
theorem lw_p33 : lw_okq (⟨"LateExcusesModel", "takesBack", "(I)V"⟩, 8) := ⟨⟨by decide +kernel, by decide +kernel⟩, List.mem_of_getElem? (i := 659) (by decide +kernel), List.mem_of_getElem? (i := 774) (by decide +kernel), List.mem_of_getElem? (i := 775) (by decide +kernel)⟩
theorem lw_p34 : lw_okq (⟨"LateExcusesModel", "says", "(IIII)V"⟩, 8) := ⟨⟨by decide +kernel, by decide +kernel⟩, List.mem_of_getElem? (i := 659) (by decide +kernel), List.mem_of_getElem? (i := 778) (by decide +kernel), List.mem_of_getElem? (i := 779) (by decide +kernel)⟩
theorem lw_p35 : lw_okq (⟨"LateExcusesModel", "rises", "(I)V"⟩, 8) := ⟨⟨by decide +kernel, by decide +kernel⟩, List.mem_of_getElem? (i := 659) (by decide +kernel), List.mem_of_getElem? (i := 782) (by decide +kernel), List.mem_of_getElem? (i := 783) (by decide +kernel)⟩
theorem lw_p36 : lw_okq (⟨"LateExcusesModel", "nextKept", "(I)I"⟩, 8) := ⟨⟨by decide +kernel, by decide +kernel⟩, List.mem_of_getElem? (i := 659) (by decide +kernel), List.mem_of_getElem? (i := 786) (by decide +kernel), List.mem_of_getElem? (i := 787) (by decide +kernel)⟩
theorem lw_p37 : lw_okq (⟨"LateExcusesModel", "tells", "(I)V"⟩, 8) := ⟨⟨by decide +kernel, by decide +kernel⟩, List.mem_of_getElem? (i := 659) (by decide +kernel), List.mem_of_getElem? (i := 790) (by decide +kernel), List.mem_of_getElem? (i := 791) (by decide +kernel)⟩
theorem lw_p38 : lw_okq (⟨"LateExcusesModel", "sumOf", "(II)I"⟩, 8) := ⟨⟨by decide +kernel, by decide +kernel⟩, List.mem_of_getElem? (i := 659) (by decide +kernel), List.mem_of_getElem? (i := 794) (by decide +kernel), List.mem_of_getElem? (i := 795) (by decide +kernel)⟩
theorem lw_p39 : lw_okq (⟨"LateExcusesModel", "counts", "(I)Z"⟩, 8) := ⟨⟨by decide +kernel, by decide +kernel⟩, List.mem_of_getElem? (i := 659) (by decide +kernel), List.mem_of_getElem? (i := 798) (by decide +kernel), List.mem_of_getElem? (i := 799) (by decide +kernel)⟩
theorem lw_p40 : lw_okq (⟨"LateExcusesModel", "isPane", "(I)Z"⟩, 8) := ⟨⟨by decide +kernel, by decide +kernel⟩, List.mem_of_getElem? (i := 659) (by decide +kernel), List.mem_of_getElem? (i := 810) (by decide +kernel), List.mem_of_getElem? (i := 811) (by decide +kernel)⟩
theorem lw_p41 : lw_okq (⟨"LateExcusesModel", "stateOf", "(I)I"⟩, 8) := ⟨⟨by decide +kernel, by decide +kernel⟩, List.mem_of_getElem? (i := 659) (by decide +kernel), List.mem_of_getElem? (i := 814) (by decide +kernel), List.mem_of_getElem? (i := 815) (by decide +kernel)⟩
theorem lw_p42 : lw_okq (⟨"LateExcusesModel", "results", "(II)I"⟩, 8) := ⟨⟨by decide +kernel, by decide +kernel⟩, List.mem_of_getElem? (i := 659) (by decide +kernel), List.mem_of_getElem? (i := 869) (by decide +kernel), List.mem_of_getElem? (i := 870) (by decide +kernel)⟩
theorem lw_p43 : lw_okq (⟨"LateExcusesModel", "cases", "()I"⟩, 8) := ⟨⟨by decide +kernel, by decide +kernel⟩, List.mem_of_getElem? (i := 659) (by decide +kernel), List.mem_of_getElem? (i := 873) (by decide +kernel), List.mem_of_getElem? (i := 874) (by decide +kernel)⟩
theorem lw_p44 : lw_okq (⟨"LateExcusesModel", "faultOf", "()I"⟩, 8) := ⟨⟨by decide +kernel, by decide +kernel⟩, List.mem_of_getElem? (i := 659) (by decide +kernel), List.mem_of_getElem? (i := 890) (by decide +kernel), List.mem_of_getElem? (i := 891) (by decide +kernel)⟩
theorem lw_p45 : lw_okq (⟨"LateExcusesModel", "passesEvent", "()Z"⟩, 8) := ⟨⟨by decide +kernel, by decide +kernel⟩, List.mem_of_getElem? (i := 659) (by decide +kernel), List.mem_of_getElem? (i := 894) (by decide +kernel), List.mem_of_getElem? (i := 895) (by decide +kernel)⟩
theorem lw_p46 : lw_okq (⟨"LateExcusesModel", "passesNumber", "()Z"⟩, 8) := ⟨⟨by decide +kernel, by decide +kernel⟩, List.mem_of_getElem? (i := 659) (by decide +kernel), List.mem_of_getElem? (i := 898) (by decide +kernel), List.mem_of_getElem? (i := 899) (by decide +kernel)⟩
theorem lw_p47 : lw_okq (⟨"LateExcusesModel", "passes", "(I)Z"⟩, 8) := ⟨⟨by decide +kernel, by decide +kernel⟩, List.mem_of_getElem? (i := 659) (by decide +kernel), List.mem_of_getElem? (i := 902) (by decide +kernel), List.mem_of_getElem? (i := 903) (by decide +kernel)⟩
def lw_privs_3 : List (MethodName × Nat) := [(⟨"LateExcusesModel", "setsP", "(III)V"⟩, 8), (⟨"LateExcusesModel", "takesBack", "(I)V"⟩, 8), (⟨"LateExcusesModel", "says", "(IIII)V"⟩, 8), (⟨"LateExcusesModel", "rises", "(I)V"⟩, 8), (⟨"LateExcusesModel", "nextKept", "(I)I"⟩, 8), (⟨"LateExcusesModel", "tells", "(I)V"⟩, 8), (⟨"LateExcusesModel", "sumOf", "(II)I"⟩, 8), (⟨"LateExcusesModel", "counts", "(I)Z"⟩, 8), (⟨"LateExcusesModel", "isPane", "(I)Z"⟩, 8), (⟨"LateExcusesModel", "stateOf", "(I)I"⟩, 8), (⟨"LateExcusesModel", "results", "(II)I"⟩, 8), (⟨"LateExcusesModel", "cases", "()I"⟩, 8), (⟨"LateExcusesModel", "faultOf", "()I"⟩, 8), (⟨"LateExcusesModel", "passesEvent", "()Z"⟩, 8), (⟨"LateExcusesModel", "passesNumber", "()Z"⟩, 8), (⟨"LateExcusesModel", "passes", "(I)Z"⟩, 8)]
theorem lw_r3 : ∀ q ∈ lw_privs_3, lw_okq q := List.forall_mem_cons.mpr ⟨lw_p32, List.forall_mem_cons.mpr ⟨lw_p33, List.forall_mem_cons.mpr ⟨lw_p34, List.forall_mem_cons.mpr ⟨lw_p35, List.forall_mem_cons.mpr ⟨lw_p36, List.forall_mem_cons.mpr ⟨lw_p37, List.forall_mem_cons.mpr ⟨lw_p38, List.forall_mem_cons.mpr ⟨lw_p39, List.forall_mem_cons.mpr ⟨lw_p40, List.forall_mem_cons.mpr ⟨lw_p41, List.forall_mem_cons.mpr ⟨lw_p42, List.forall_mem_cons.mpr ⟨lw_p43, List.forall_mem_cons.mpr ⟨lw_p44, List.forall_mem_cons.mpr ⟨lw_p45, List.forall_mem_cons.mpr ⟨lw_p46, List.forall_mem_cons.mpr ⟨lw_p47, fun _ h => absurd h List.not_mem_nil⟩⟩⟩⟩⟩⟩⟩⟩⟩⟩⟩⟩⟩⟩⟩⟩
theorem lw_p48 : lw_okq (⟨"LateExcusesModel", "excuseHere", "()I"⟩, 8) := ⟨⟨by decide +kernel, by decide +kernel⟩, List.mem_of_getElem? (i := 659) (by decide +kernel), List.mem_of_getElem? (i := 906) (by decide +kernel), List.mem_of_getElem? (i := 907) (by decide +kernel)⟩
def lw_privs_4 : List (MethodName × Nat) := [(⟨"LateExcusesModel", "excuseHere", "()I"⟩, 8)]
theorem lw_r4 : ∀ q ∈ lw_privs_4, lw_okq q := List.forall_mem_cons.mpr ⟨lw_p48, fun _ h => absurd h List.not_mem_nil⟩
def lw_privs : List (MethodName × Nat) := lw_privs_1 ++ (lw_privs_2 ++ (lw_privs_3 ++ (lw_privs_4)))
def lw_tbl : List Cond := k2_sels lw_privs ++ tables_1
theorem lw_privs_ok : ∀ q ∈ lw_privs, lw_okq q := by
  show ∀ q ∈ lw_privs_1 ++ (lw_privs_2 ++ (lw_privs_3 ++ (lw_privs_4))), lw_okq q
  exact List.forall_mem_append.mpr ⟨lw_r1, List.forall_mem_append.mpr ⟨lw_r2, List.forall_mem_append.mpr ⟨lw_r3, lw_r4⟩⟩⟩
/-- the streams that the claim lets the run draw from -/
abbrev lw_cs : List Choice := [Jvm.Choice.named "NaN.bits"]
theorem lw_bits : nanBits ∈ lw_cs := by first | decide | exact List.mem_cons_self | simp [lw_cs, nanBits]
end
section
/-! ===== BEGIN words of one list among another's, by their places ===== -/
theorem goodIn_r {big : List Cond} (ws : List Cond) (ps : List Nat) (hp : ws = ps.filterMap (fun i => big[i]?)) (h : ws.all goodWord = true) : GoodIn big ws := by
  intro w hw
  have h1 := List.all_eq_true.mp h w hw
  rw [hp] at hw
  obtain ⟨i, -, hi⟩ := List.mem_filterMap.mp hw
  have hm : w ∈ big := by first | exact List.mem_of_getElem? hi | exact List.getElem?_mem hi
  exact ⟨hm, good_of_word h1⟩
theorem goodIn_app {big a b : List Cond} (ha : GoodIn big a) (hb : GoodIn big b) : GoodIn big (a ++ b) := fun w h => (List.mem_append.mp h).elim (ha w) (hb w)
theorem goodIn_ca {big a b : List Cond} {c : Cond} (ha : GoodIn big (c :: a)) (hb : GoodIn big b) : GoodIn big (c :: (a ++ b)) := fun w h => (List.mem_cons.mp h).elim (fun e => ha w (List.mem_cons.mpr (Or.inl e))) (fun h => (List.mem_append.mp h).elim (fun h => ha w (List.mem_cons.mpr (Or.inr h))) (hb w))
theorem goodIn_sub {big ws : List Cond} (hm : ∀ w ∈ ws, w ∈ big) (h : ws.all goodWord = true) : GoodIn big ws := fun w hw => ⟨hm w hw, good_of_word (List.all_eq_true.mp h w hw)⟩
/-! ===== END ===== -/

/-! ===== BEGIN printed: names, fields, word lists, decode rows ===== -/
def RX0 : String := "LateExcuses$Cabinets"
def TX0 : u_T := fun k => match k with
  | _ => ("LateExcuses$Cabinets", "rows", "LLateExcuses$Table;", true)
def tyX0 : Nat → FieldType := fun k => match k with
  | _ => .object "LateExcuses$Table"
abbrev wsX00 : List Cond := u_ws RX0 TX0 1
theorem nmX0 : ∀ a, a < 1 → ∀ b, b < 1 → a ≠ b → (TX0 a).2.1 ≠ (TX0 b).2.1 := by decide +kernel
theorem tyX0_ok : ∀ k, k < 1 → parseFieldDescriptor (TX0 k).2.2.1 = some (tyX0 k) := by decide +kernel
abbrev cX0_init : ByteArray := prog_2_method_1_code
def yX0_init : MethodName := ⟨RX0, "<init>", "()V"⟩
abbrev cX0_copyFrom : ByteArray := prog_2_method_2_code
def yX0_copyFrom : MethodName := ⟨RX0, "copyFrom", "(LLateExcuses$Cabinets;)V"⟩
abbrev cX0_read : ByteArray := prog_2_method_3_code
def yX0_read : MethodName := ⟨RX0, "read", "(II)I"⟩
abbrev cX0_hasPlaceFor : ByteArray := prog_2_method_4_code
def yX0_hasPlaceFor : MethodName := ⟨RX0, "hasPlaceFor", "(I)Z"⟩
abbrev cX0_file : ByteArray := prog_2_method_5_code
def yX0_file : MethodName := ⟨RX0, "file", "(II)V"⟩
abbrev cX0_cabinetFor : ByteArray := prog_2_method_6_code
def yX0_cabinetFor : MethodName := ⟨RX0, "cabinetFor", "(I)I"⟩
abbrev cX0_isFull : ByteArray := prog_2_method_7_code
def yX0_isFull : MethodName := ⟨RX0, "isFull", "(I)Z"⟩
def RX1 : String := "LateExcuses$Court"
def TX1 : u_T := fun k => match k with
  | 0 => ("LateExcuses$Court", "events", "LLateExcuses$Events;", true)
  | 1 => ("LateExcuses$Court", "panes", "LLateExcuses$Panes;", true)
  | 2 => ("LateExcuses$Court", "cabinets", "LLateExcuses$Cabinets;", true)
  | 3 => ("LateExcuses$Court", "size", "I", false)
  | 4 => ("LateExcuses$Court", "lag", "I", false)
  | 5 => ("LateExcuses$Court", "grace", "I", false)
  | 6 => ("LateExcuses$Court", "watermark", "I", false)
  | 7 => ("LateExcuses$Court", "latest", "I", false)
  | _ => ("LateExcuses$Court", "moved", "Z", false)
def tyX1 : Nat → FieldType := fun k => match k with
  | 0 => .object "LateExcuses$Events"
  | 1 => .object "LateExcuses$Panes"
  | 2 => .object "LateExcuses$Cabinets"
  | 3 => .int
  | 4 => .int
  | 5 => .int
  | 6 => .int
  | 7 => .int
  | _ => .boolean
abbrev wsX10 : List Cond := u_ws RX1 TX1 9
theorem nmX1 : ∀ a, a < 9 → ∀ b, b < 9 → a ≠ b → (TX1 a).2.1 ≠ (TX1 b).2.1 := by decide +kernel
theorem tyX1_ok : ∀ k, k < 9 → parseFieldDescriptor (TX1 k).2.2.1 = some (tyX1 k) := by decide +kernel
abbrev cX1_init : ByteArray := prog_3_method_1_code
def yX1_init : MethodName := ⟨RX1, "<init>", "()V"⟩
abbrev cX1_events : ByteArray := prog_3_method_2_code
def yX1_events : MethodName := ⟨RX1, "events", "()LLateExcuses$Events;"⟩
abbrev cX1_panes : ByteArray := prog_3_method_3_code
def yX1_panes : MethodName := ⟨RX1, "panes", "()LLateExcuses$Panes;"⟩
abbrev cX1_cabinets : ByteArray := prog_3_method_4_code
def yX1_cabinets : MethodName := ⟨RX1, "cabinets", "()LLateExcuses$Cabinets;"⟩
abbrev cX1_copyFrom : ByteArray := prog_3_method_5_code
def yX1_copyFrom : MethodName := ⟨RX1, "copyFrom", "(LLateExcuses$Court;)V"⟩
abbrev cX1_setting : ByteArray := prog_3_method_6_code
def yX1_setting : MethodName := ⟨RX1, "setting", "(I)I"⟩
abbrev cX1_changeSetting : ByteArray := prog_3_method_7_code
def yX1_changeSetting : MethodName := ⟨RX1, "changeSetting", "(II)I"⟩
abbrev cX1_hasEvents : ByteArray := prog_3_method_8_code
def yX1_hasEvents : MethodName := ⟨RX1, "hasEvents", "()Z"⟩
abbrev cX1_number : ByteArray := prog_3_method_9_code
def yX1_number : MethodName := ⟨RX1, "number", "(I)I"⟩
abbrev cX1_paneAt : ByteArray := prog_3_method_10_code
def yX1_paneAt : MethodName := ⟨RX1, "paneAt", "(I)I"⟩
abbrev cX1_endOf : ByteArray := prog_3_method_11_code
def yX1_endOf : MethodName := ⟨RX1, "endOf", "(I)I"⟩
abbrev cX1_hasTimes : ByteArray := prog_3_method_12_code
def yX1_hasTimes : MethodName := ⟨RX1, "hasTimes", "(I)Z"⟩
abbrev cX1_stateOf : ByteArray := prog_3_method_13_code
def yX1_stateOf : MethodName := ⟨RX1, "stateOf", "(I)I"⟩
abbrev cX1_lateBy : ByteArray := prog_3_method_14_code
def yX1_lateBy : MethodName := ⟨RX1, "lateBy", "(I)I"⟩
abbrev cX1_verdict : ByteArray := prog_3_method_15_code
def yX1_verdict : MethodName := ⟨RX1, "verdict", "(III)I"⟩
abbrev cX1_isAcceptable : ByteArray := prog_3_method_16_code
def yX1_isAcceptable : MethodName := ⟨RX1, "isAcceptable", "(III)Z"⟩
abbrev cX1_latestAcceptable : ByteArray := prog_3_method_17_code
def yX1_latestAcceptable : MethodName := ⟨RX1, "latestAcceptable", "(II)I"⟩
abbrev cX1_latestIn : ByteArray := prog_3_method_18_code
def yX1_latestIn : MethodName := ⟨RX1, "latestIn", "(III)I"⟩
abbrev cX1_admit : ByteArray := prog_3_method_19_code
def yX1_admit : MethodName := ⟨RX1, "admit", "(IIIII)I"⟩
abbrev cX1_raiseWatermark : ByteArray := prog_3_method_20_code
def yX1_raiseWatermark : MethodName := ⟨RX1, "raiseWatermark", "(I)V"⟩
abbrev cX1_canMoveBack : ByteArray := prog_3_method_21_code
def yX1_canMoveBack : MethodName := ⟨RX1, "canMoveBack", "()Z"⟩
abbrev cX1_moveBack : ByteArray := prog_3_method_22_code
def yX1_moveBack : MethodName := ⟨RX1, "moveBack", "(I)I"⟩
def RX2 : String := "LateExcuses$Events"
def TX2 : u_T := fun k => match k with
  | 0 => ("LateExcuses$Events", "rows", "LLateExcuses$Table;", true)
  | _ => ("LateExcuses$Events", "doubles", "I", false)
def tyX2 : Nat → FieldType := fun k => match k with
  | 0 => .object "LateExcuses$Table"
  | _ => .int
abbrev wsX20 : List Cond := u_ws RX2 TX2 2
theorem nmX2 : ∀ a, a < 2 → ∀ b, b < 2 → a ≠ b → (TX2 a).2.1 ≠ (TX2 b).2.1 := by decide +kernel
theorem tyX2_ok : ∀ k, k < 2 → parseFieldDescriptor (TX2 k).2.2.1 = some (tyX2 k) := by decide +kernel
abbrev cX2_init : ByteArray := prog_4_method_1_code
def yX2_init : MethodName := ⟨RX2, "<init>", "()V"⟩
abbrev cX2_copyFrom : ByteArray := prog_4_method_2_code
def yX2_copyFrom : MethodName := ⟨RX2, "copyFrom", "(LLateExcuses$Events;)V"⟩
abbrev cX2_hasCome : ByteArray := prog_4_method_3_code
def yX2_hasCome : MethodName := ⟨RX2, "hasCome", "(I)Z"⟩
abbrev cX2_read : ByteArray := prog_4_method_4_code
def yX2_read : MethodName := ⟨RX2, "read", "(II)I"⟩
abbrev cX2_enter : ByteArray := prog_4_method_5_code
def yX2_enter : MethodName := ⟨RX2, "enter", "(IIIII)V"⟩
abbrev cX2_conclude : ByteArray := prog_4_method_6_code
def yX2_conclude : MethodName := ⟨RX2, "conclude", "(III)V"⟩
abbrev cX2_addDouble : ByteArray := prog_4_method_7_code
def yX2_addDouble : MethodName := ⟨RX2, "addDouble", "()V"⟩
abbrev cX2_doubles : ByteArray := prog_4_method_8_code
def yX2_doubles : MethodName := ⟨RX2, "doubles", "()I"⟩
abbrev cX2_withOutcome : ByteArray := prog_4_method_9_code
def yX2_withOutcome : MethodName := ⟨RX2, "withOutcome", "(II)I"⟩
abbrev cX2_ofKey : ByteArray := prog_4_method_10_code
def yX2_ofKey : MethodName := ⟨RX2, "ofKey", "(III)I"⟩
abbrev cX2_hadIllness : ByteArray := prog_4_method_11_code
def yX2_hadIllness : MethodName := ⟨RX2, "hadIllness", "(I)Z"⟩
abbrev cX2_hasOutcome : ByteArray := prog_4_method_12_code
def yX2_hasOutcome : MethodName := ⟨RX2, "hasOutcome", "(III)Z"⟩
def RX3 : String := "LateExcuses$History"
def TX3 : u_T := fun k => match k with
  | 0 => ("LateExcuses$History", "past", "[LLateExcuses$Court;", true)
  | 1 => ("LateExcuses$History", "oldest", "I", false)
  | _ => ("LateExcuses$History", "states", "I", false)
def tyX3 : Nat → FieldType := fun k => match k with
  | 0 => .array (.object "LateExcuses$Court")
  | 1 => .int
  | _ => .int
abbrev wsX30 : List Cond := u_ws RX3 TX3 3
theorem nmX3 : ∀ a, a < 3 → ∀ b, b < 3 → a ≠ b → (TX3 a).2.1 ≠ (TX3 b).2.1 := by decide +kernel
theorem tyX3_ok : ∀ k, k < 3 → parseFieldDescriptor (TX3 k).2.2.1 = some (tyX3 k) := by decide +kernel
abbrev cX3_init : ByteArray := prog_5_method_1_code
def yX3_init : MethodName := ⟨RX3, "<init>", "()V"⟩
abbrev cX3_states : ByteArray := prog_5_method_2_code
def yX3_states : MethodName := ⟨RX3, "states", "()I"⟩
abbrev cX3_keep : ByteArray := prog_5_method_3_code
def yX3_keep : MethodName := ⟨RX3, "keep", "(LLateExcuses$Court;)V"⟩
abbrev cX3_restore : ByteArray := prog_5_method_4_code
def yX3_restore : MethodName := ⟨RX3, "restore", "(LLateExcuses$Court;)V"⟩
def RX4 : String := "LateExcuses$Panes"
def TX4 : u_T := fun k => match k with
  | 0 => ("LateExcuses$Panes", "rows", "LLateExcuses$Table;", true)
  | 1 => ("LateExcuses$Panes", "words", "LLateExcuses$Words;", true)
  | _ => ("LateExcuses$Panes", "used", "I", false)
def tyX4 : Nat → FieldType := fun k => match k with
  | 0 => .object "LateExcuses$Table"
  | 1 => .object "LateExcuses$Words"
  | _ => .int
abbrev wsX40 : List Cond := u_ws RX4 TX4 3
theorem nmX4 : ∀ a, a < 3 → ∀ b, b < 3 → a ≠ b → (TX4 a).2.1 ≠ (TX4 b).2.1 := by decide +kernel
theorem tyX4_ok : ∀ k, k < 3 → parseFieldDescriptor (TX4 k).2.2.1 = some (tyX4 k) := by decide +kernel
abbrev cX4_init : ByteArray := prog_6_method_1_code
def yX4_init : MethodName := ⟨RX4, "<init>", "()V"⟩
abbrev cX4_words : ByteArray := prog_6_method_2_code
def yX4_words : MethodName := ⟨RX4, "words", "()LLateExcuses$Words;"⟩
abbrev cX4_copyFrom : ByteArray := prog_6_method_3_code
def yX4_copyFrom : MethodName := ⟨RX4, "copyFrom", "(LLateExcuses$Panes;)V"⟩
abbrev cX4_rowOf : ByteArray := prog_6_method_4_code
def yX4_rowOf : MethodName := ⟨RX4, "rowOf", "(I)I"⟩
abbrev cX4_rowBehind : ByteArray := prog_6_method_5_code
def yX4_rowBehind : MethodName := ⟨RX4, "rowBehind", "(I)I"⟩
abbrev cX4_rowMadeFor : ByteArray := prog_6_method_6_code
def yX4_rowMadeFor : MethodName := ⟨RX4, "rowMadeFor", "(I)I"⟩
abbrev cX4_read : ByteArray := prog_6_method_7_code
def yX4_read : MethodName := ⟨RX4, "read", "(II)I"⟩
abbrev cX4_behind : ByteArray := prog_6_method_8_code
def yX4_behind : MethodName := ⟨RX4, "behind", "(I)I"⟩
abbrev cX4_hasWord : ByteArray := prog_6_method_9_code
def yX4_hasWord : MethodName := ⟨RX4, "hasWord", "(I)Z"⟩
abbrev cX4_isStanding : ByteArray := prog_6_method_10_code
def yX4_isStanding : MethodName := ⟨RX4, "isStanding", "(I)Z"⟩
abbrev cX4_closedCases : ByteArray := prog_6_method_11_code
def yX4_closedCases : MethodName := ⟨RX4, "closedCases", "()I"⟩
abbrev cX4_add : ByteArray := prog_6_method_12_code
def yX4_add : MethodName := ⟨RX4, "add", "(III)V"⟩
abbrev cX4_reopen : ByteArray := prog_6_method_13_code
def yX4_reopen : MethodName := ⟨RX4, "reopen", "(II)V"⟩
abbrev cX4_shutAndClose : ByteArray := prog_6_method_14_code
def yX4_shutAndClose : MethodName := ⟨RX4, "shutAndClose", "(III)V"⟩
abbrev cX4_tellWord : ByteArray := prog_6_method_15_code
def yX4_tellWord : MethodName := ⟨RX4, "tellWord", "(I)V"⟩
abbrev cX4_takeBackWord : ByteArray := prog_6_method_16_code
def yX4_takeBackWord : MethodName := ⟨RX4, "takeBackWord", "(I)V"⟩
abbrev cX4_takeBack : ByteArray := prog_6_method_17_code
def yX4_takeBack : MethodName := ⟨RX4, "takeBack", "(I)V"⟩
def RX5 : String := "LateExcuses$Table"
def TX5 : u_T := fun k => match k with
  | 0 => ("LateExcuses$Table", "rows", "I", true)
  | 1 => ("LateExcuses$Table", "columns", "I", true)
  | _ => ("LateExcuses$Table", "cells", "[I", true)
def tyX5 : Nat → FieldType := fun k => match k with
  | 0 => .int
  | 1 => .int
  | _ => .array .int
abbrev wsX50 : List Cond := u_ws RX5 TX5 3
theorem nmX5 : ∀ a, a < 3 → ∀ b, b < 3 → a ≠ b → (TX5 a).2.1 ≠ (TX5 b).2.1 := by decide +kernel
theorem tyX5_ok : ∀ k, k < 3 → parseFieldDescriptor (TX5 k).2.2.1 = some (tyX5 k) := by decide +kernel
abbrev cX5_init : ByteArray := prog_7_method_1_code
def yX5_init : MethodName := ⟨RX5, "<init>", "(II)V"⟩
abbrev cX5_copyFrom : ByteArray := prog_7_method_2_code
def yX5_copyFrom : MethodName := ⟨RX5, "copyFrom", "(LLateExcuses$Table;)V"⟩
abbrev cX5_get : ByteArray := prog_7_method_3_code
def yX5_get : MethodName := ⟨RX5, "get", "(II)I"⟩
abbrev cX5_put : ByteArray := prog_7_method_4_code
def yX5_put : MethodName := ⟨RX5, "put", "(III)V"⟩
abbrev cX5_openRow : ByteArray := prog_7_method_5_code
def yX5_openRow : MethodName := ⟨RX5, "openRow", "(I)V"⟩
abbrev cX5_dropFirstRow : ByteArray := prog_7_method_6_code
def yX5_dropFirstRow : MethodName := ⟨RX5, "dropFirstRow", "()V"⟩
def RX6 : String := "LateExcuses$Text"
def TX6 : u_T := fun k => match k with
  | 0 => ("LateExcuses$Text", "signs", "[C", true)
  | 1 => ("LateExcuses$Text", "length", "I", false)
  | 2 => ("LateExcuses$Text", "place", "I", false)
  | 3 => ("LateExcuses$Text", "number", "I", false)
  | 4 => ("LateExcuses$Text", "id", "I", false)
  | 5 => ("LateExcuses$Text", "time", "I", false)
  | 6 => ("LateExcuses$Text", "key", "I", false)
  | 7 => ("LateExcuses$Text", "amount", "I", false)
  | 8 => ("LateExcuses$Text", "excuse", "I", false)
  | 9 => ("LateExcuses$Text", "faultPlace", "I", false)
  | _ => ("LateExcuses$Text", "faultReason", "I", false)
def tyX6 : Nat → FieldType := fun k => match k with
  | 0 => .array .char
  | 1 => .int
  | 2 => .int
  | 3 => .int
  | 4 => .int
  | 5 => .int
  | 6 => .int
  | 7 => .int
  | 8 => .int
  | 9 => .int
  | _ => .int
abbrev wsX60 : List Cond := u_ws RX6 TX6 11
theorem nmX6 : ∀ a, a < 11 → ∀ b, b < 11 → a ≠ b → (TX6 a).2.1 ≠ (TX6 b).2.1 := by decide +kernel
theorem tyX6_ok : ∀ k, k < 11 → parseFieldDescriptor (TX6 k).2.2.1 = some (tyX6 k) := by decide +kernel
abbrev cX6_init : ByteArray := prog_8_method_1_code
def yX6_init : MethodName := ⟨RX6, "<init>", "()V"⟩
abbrev cX6_length : ByteArray := prog_8_method_2_code
def yX6_length : MethodName := ⟨RX6, "length", "()I"⟩
abbrev cX6_append : ByteArray := prog_8_method_3_code
def yX6_append : MethodName := ⟨RX6, "append", "(C)Z"⟩
abbrev cX6_empty : ByteArray := prog_8_method_4_code
def yX6_empty : MethodName := ⟨RX6, "empty", "()V"⟩
abbrev cX6_faultPlace : ByteArray := prog_8_method_5_code
def yX6_faultPlace : MethodName := ⟨RX6, "faultPlace", "()I"⟩
abbrev cX6_faultReason : ByteArray := prog_8_method_6_code
def yX6_faultReason : MethodName := ⟨RX6, "faultReason", "()I"⟩
abbrev cX6_hasFault : ByteArray := prog_8_method_7_code
def yX6_hasFault : MethodName := ⟨RX6, "hasFault", "()Z"⟩
abbrev cX6_readEvent : ByteArray := prog_8_method_8_code
def yX6_readEvent : MethodName := ⟨RX6, "readEvent", "(I)I"⟩
abbrev cX6_readNumber : ByteArray := prog_8_method_9_code
def yX6_readNumber : MethodName := ⟨RX6, "readNumber", "()Z"⟩
abbrev cX6_readSign : ByteArray := prog_8_method_10_code
def yX6_readSign : MethodName := ⟨RX6, "readSign", "(C)Z"⟩
abbrev cX6_readExcuse : ByteArray := prog_8_method_11_code
def yX6_readExcuse : MethodName := ⟨RX6, "readExcuse", "()I"⟩
abbrev cX6_signHere : ByteArray := prog_8_method_12_code
def yX6_signHere : MethodName := ⟨RX6, "signHere", "()C"⟩
def RX7 : String := "LateExcuses$Words"
def TX7 : u_T := fun k => match k with
  | 0 => ("LateExcuses$Words", "rows", "LLateExcuses$Table;", true)
  | 1 => ("LateExcuses$Words", "kept", "I", false)
  | 2 => ("LateExcuses$Words", "told", "I", false)
  | _ => ("LateExcuses$Words", "takenBack", "I", false)
def tyX7 : Nat → FieldType := fun k => match k with
  | 0 => .object "LateExcuses$Table"
  | 1 => .int
  | 2 => .int
  | _ => .int
abbrev wsX70 : List Cond := u_ws RX7 TX7 4
theorem nmX7 : ∀ a, a < 4 → ∀ b, b < 4 → a ≠ b → (TX7 a).2.1 ≠ (TX7 b).2.1 := by decide +kernel
theorem tyX7_ok : ∀ k, k < 4 → parseFieldDescriptor (TX7 k).2.2.1 = some (tyX7 k) := by decide +kernel
abbrev cX7_init : ByteArray := prog_9_method_1_code
def yX7_init : MethodName := ⟨RX7, "<init>", "()V"⟩
abbrev cX7_copyFrom : ByteArray := prog_9_method_2_code
def yX7_copyFrom : MethodName := ⟨RX7, "copyFrom", "(LLateExcuses$Words;)V"⟩
abbrev cX7_kept : ByteArray := prog_9_method_3_code
def yX7_kept : MethodName := ⟨RX7, "kept", "()I"⟩
abbrev cX7_told : ByteArray := prog_9_method_4_code
def yX7_told : MethodName := ⟨RX7, "told", "()I"⟩
abbrev cX7_takenBack : ByteArray := prog_9_method_5_code
def yX7_takenBack : MethodName := ⟨RX7, "takenBack", "()I"⟩
abbrev cX7_read : ByteArray := prog_9_method_6_code
def yX7_read : MethodName := ⟨RX7, "read", "(II)I"⟩
abbrev cX7_add : ByteArray := prog_9_method_7_code
def yX7_add : MethodName := ⟨RX7, "add", "(IIII)V"⟩
def RX8 : String := "LateExcuses"
def TX8 : u_T := fun k => match k with
  | 0 => ("LateExcuses", "court", "LLateExcuses$Court;", true)
  | 1 => ("LateExcuses", "history", "LLateExcuses$History;", true)
  | _ => ("LateExcuses", "text", "LLateExcuses$Text;", true)
def tyX8 : Nat → FieldType := fun k => match k with
  | 0 => .object "LateExcuses$Court"
  | 1 => .object "LateExcuses$History"
  | _ => .object "LateExcuses$Text"
abbrev wsX80 : List Cond := u_ws RX8 TX8 3
theorem nmX8 : ∀ a, a < 3 → ∀ b, b < 3 → a ≠ b → (TX8 a).2.1 ≠ (TX8 b).2.1 := by decide +kernel
theorem tyX8_ok : ∀ k, k < 3 → parseFieldDescriptor (TX8 k).2.2.1 = some (tyX8 k) := by decide +kernel
abbrev cX8_init : ByteArray := prog_1_method_1_code
def yX8_init : MethodName := ⟨RX8, "<init>", "()V"⟩
abbrev cX8_set : ByteArray := prog_1_method_2_code
def yX8_set : MethodName := ⟨RX8, "set", "(II)I"⟩
abbrev cX8_event : ByteArray := prog_1_method_3_code
def yX8_event : MethodName := ⟨RX8, "event", "(IIIII)I"⟩
abbrev cX8_move : ByteArray := prog_1_method_4_code
def yX8_move : MethodName := ⟨RX8, "move", "(I)I"⟩
abbrev cX8_paneOf : ByteArray := prog_1_method_5_code
def yX8_paneOf : MethodName := ⟨RX8, "paneOf", "(II)I"⟩
abbrev cX8_mean : ByteArray := prog_1_method_6_code
def yX8_mean : MethodName := ⟨RX8, "mean", "(I)I"⟩
abbrev cX8_standing : ByteArray := prog_1_method_7_code
def yX8_standing : MethodName := ⟨RX8, "standing", "(II)I"⟩
abbrev cX8_nextPane : ByteArray := prog_1_method_8_code
def yX8_nextPane : MethodName := ⟨RX8, "nextPane", "(I)I"⟩
abbrev cX8_wordAt : ByteArray := prog_1_method_9_code
def yX8_wordAt : MethodName := ⟨RX8, "wordAt", "(II)I"⟩
abbrev cX8_eventOf : ByteArray := prog_1_method_10_code
def yX8_eventOf : MethodName := ⟨RX8, "eventOf", "(II)I"⟩
abbrev cX8_judge : ByteArray := prog_1_method_11_code
def yX8_judge : MethodName := ⟨RX8, "judge", "(III)I"⟩
abbrev cX8_lateness : ByteArray := prog_1_method_12_code
def yX8_lateness : MethodName := ⟨RX8, "lateness", "(I)I"⟩
abbrev cX8_latestExcused : ByteArray := prog_1_method_13_code
def yX8_latestExcused : MethodName := ⟨RX8, "latestExcused", "(II)I"⟩
abbrev cX8_filed : ByteArray := prog_1_method_14_code
def yX8_filed : MethodName := ⟨RX8, "filed", "(II)I"⟩
abbrev cX8_trust : ByteArray := prog_1_method_15_code
def yX8_trust : MethodName := ⟨RX8, "trust", "(I)I"⟩
abbrev cX8_count : ByteArray := prog_1_method_16_code
def yX8_count : MethodName := ⟨RX8, "count", "(I)I"⟩
abbrev cX8_undo : ByteArray := prog_1_method_17_code
def yX8_undo : MethodName := ⟨RX8, "undo", "()I"⟩
abbrev cX8_type : ByteArray := prog_1_method_18_code
def yX8_type : MethodName := ⟨RX8, "type", "(I)I"⟩
abbrev cX8_clearText : ByteArray := prog_1_method_19_code
def yX8_clearText : MethodName := ⟨RX8, "clearText", "()I"⟩
abbrev cX8_fault : ByteArray := prog_1_method_20_code
def yX8_fault : MethodName := ⟨RX8, "fault", "(I)I"⟩
abbrev cX8_play : ByteArray := prog_1_method_21_code
def yX8_play : MethodName := ⟨RX8, "play", "()I"⟩
abbrev cX8_isWithin : ByteArray := prog_1_method_22_code
def yX8_isWithin : MethodName := ⟨RX8, "isWithin", "(III)Z"⟩
abbrev cX8_isEvent : ByteArray := prog_1_method_23_code
def yX8_isEvent : MethodName := ⟨RX8, "isEvent", "(IIII)Z"⟩
abbrev cX8_bitsOf : ByteArray := prog_1_method_24_code
def yX8_bitsOf : MethodName := ⟨RX8, "bitsOf", "(F)I"⟩
def RX9 : String := "LateExcusesModel"
def TX9 : u_T := fun k => match k with
  | 0 => ("LateExcusesModel", "now", "[I", true)
  | 1 => ("LateExcusesModel", "kept", "[I", true)
  | 2 => ("LateExcusesModel", "states", "I", false)
  | 3 => ("LateExcusesModel", "text", "[I", true)
  | 4 => ("LateExcusesModel", "length", "I", false)
  | 5 => ("LateExcusesModel", "at", "I", false)
  | 6 => ("LateExcusesModel", "number", "I", false)
  | _ => ("LateExcusesModel", "read", "[I", true)
def tyX9 : Nat → FieldType := fun k => match k with
  | 0 => .array .int
  | 1 => .array .int
  | 2 => .int
  | 3 => .array .int
  | 4 => .int
  | 5 => .int
  | 6 => .int
  | _ => .array .int
abbrev wsX90 : List Cond := u_ws RX9 TX9 8
theorem nmX9 : ∀ a, a < 8 → ∀ b, b < 8 → a ≠ b → (TX9 a).2.1 ≠ (TX9 b).2.1 := by decide +kernel
theorem tyX9_ok : ∀ k, k < 8 → parseFieldDescriptor (TX9 k).2.2.1 = some (tyX9 k) := by decide +kernel
abbrev cX9_init : ByteArray := prog_11_method_1_code
def yX9_init : MethodName := ⟨RX9, "<init>", "()V"⟩
abbrev cX9_isIn : ByteArray := prog_11_method_2_code
def yX9_isIn : MethodName := ⟨RX9, "isIn", "(III)Z"⟩
abbrev cX9_ofE : ByteArray := prog_11_method_3_code
def yX9_ofE : MethodName := ⟨RX9, "ofE", "(II)I"⟩
abbrev cX9_ofP : ByteArray := prog_11_method_4_code
def yX9_ofP : MethodName := ⟨RX9, "ofP", "(II)I"⟩
abbrev cX9_setsP : ByteArray := prog_11_method_5_code
def yX9_setsP : MethodName := ⟨RX9, "setsP", "(III)V"⟩
abbrev cX9_records : ByteArray := prog_11_method_6_code
def yX9_records : MethodName := ⟨RX9, "records", "()V"⟩
abbrev cX9_undo : ByteArray := prog_11_method_7_code
def yX9_undo : MethodName := ⟨RX9, "undo", "()I"⟩
abbrev cX9_set : ByteArray := prog_11_method_8_code
def yX9_set : MethodName := ⟨RX9, "set", "(II)I"⟩
abbrev cX9_paneAt : ByteArray := prog_11_method_9_code
def yX9_paneAt : MethodName := ⟨RX9, "paneAt", "(I)I"⟩
abbrev cX9_endOf : ByteArray := prog_11_method_10_code
def yX9_endOf : MethodName := ⟨RX9, "endOf", "(I)I"⟩
abbrev cX9_find : ByteArray := prog_11_method_11_code
def yX9_find : MethodName := ⟨RX9, "find", "(I)I"⟩
abbrev cX9_modeOf : ByteArray := prog_11_method_12_code
def yX9_modeOf : MethodName := ⟨RX9, "modeOf", "(I)I"⟩
abbrev cX9_keeps : ByteArray := prog_11_method_13_code
def yX9_keeps : MethodName := ⟨RX9, "keeps", "(I)I"⟩
abbrev cX9_isShut : ByteArray := prog_11_method_14_code
def yX9_isShut : MethodName := ⟨RX9, "isShut", "(I)Z"⟩
abbrev cX9_counts : ByteArray := prog_11_method_15_code
def yX9_counts : MethodName := ⟨RX9, "counts", "(I)Z"⟩
abbrev cX9_sumOf : ByteArray := prog_11_method_16_code
def yX9_sumOf : MethodName := ⟨RX9, "sumOf", "(II)I"⟩
abbrev cX9_says : ByteArray := prog_11_method_17_code
def yX9_says : MethodName := ⟨RX9, "says", "(IIII)V"⟩
abbrev cX9_tells : ByteArray := prog_11_method_18_code
def yX9_tells : MethodName := ⟨RX9, "tells", "(I)V"⟩
abbrev cX9_takesBack : ByteArray := prog_11_method_19_code
def yX9_takesBack : MethodName := ⟨RX9, "takesBack", "(I)V"⟩
abbrev cX9_nextKept : ByteArray := prog_11_method_20_code
def yX9_nextKept : MethodName := ⟨RX9, "nextKept", "(I)I"⟩
abbrev cX9_rises : ByteArray := prog_11_method_21_code
def yX9_rises : MethodName := ⟨RX9, "rises", "(I)V"⟩
abbrev cX9_wasIll : ByteArray := prog_11_method_22_code
def yX9_wasIll : MethodName := ⟨RX9, "wasIll", "(I)Z"⟩
abbrev cX9_isExcuse : ByteArray := prog_11_method_23_code
def yX9_isExcuse : MethodName := ⟨RX9, "isExcuse", "(III)Z"⟩
abbrev cX9_placeIn : ByteArray := prog_11_method_24_code
def yX9_placeIn : MethodName := ⟨RX9, "placeIn", "(I)I"⟩
abbrev cX9_placeFor : ByteArray := prog_11_method_25_code
def yX9_placeFor : MethodName := ⟨RX9, "placeFor", "(I)I"⟩
abbrev cX9_judgeOf : ByteArray := prog_11_method_26_code
def yX9_judgeOf : MethodName := ⟨RX9, "judgeOf", "(III)I"⟩
abbrev cX9_comes : ByteArray := prog_11_method_27_code
def yX9_comes : MethodName := ⟨RX9, "comes", "(IIIII)I"⟩
abbrev cX9_isEvent : ByteArray := prog_11_method_28_code
def yX9_isEvent : MethodName := ⟨RX9, "isEvent", "(IIIII)Z"⟩
abbrev cX9_event : ByteArray := prog_11_method_29_code
def yX9_event : MethodName := ⟨RX9, "event", "(IIIII)I"⟩
abbrev cX9_move : ByteArray := prog_11_method_30_code
def yX9_move : MethodName := ⟨RX9, "move", "(I)I"⟩
abbrev cX9_isPane : ByteArray := prog_11_method_31_code
def yX9_isPane : MethodName := ⟨RX9, "isPane", "(I)Z"⟩
abbrev cX9_stateOf : ByteArray := prog_11_method_32_code
def yX9_stateOf : MethodName := ⟨RX9, "stateOf", "(I)I"⟩
abbrev cX9_paneOf : ByteArray := prog_11_method_33_code
def yX9_paneOf : MethodName := ⟨RX9, "paneOf", "(II)I"⟩
abbrev cX9_bitsOf : ByteArray := prog_11_method_34_code
def yX9_bitsOf : MethodName := ⟨RX9, "bitsOf", "(F)I"⟩
abbrev cX9_mean : ByteArray := prog_11_method_35_code
def yX9_mean : MethodName := ⟨RX9, "mean", "(I)I"⟩
abbrev cX9_standing : ByteArray := prog_11_method_36_code
def yX9_standing : MethodName := ⟨RX9, "standing", "(II)I"⟩
abbrev cX9_nextPane : ByteArray := prog_11_method_37_code
def yX9_nextPane : MethodName := ⟨RX9, "nextPane", "(I)I"⟩
abbrev cX9_wordAt : ByteArray := prog_11_method_38_code
def yX9_wordAt : MethodName := ⟨RX9, "wordAt", "(II)I"⟩
abbrev cX9_eventOf : ByteArray := prog_11_method_39_code
def yX9_eventOf : MethodName := ⟨RX9, "eventOf", "(II)I"⟩
abbrev cX9_judge : ByteArray := prog_11_method_40_code
def yX9_judge : MethodName := ⟨RX9, "judge", "(III)I"⟩
abbrev cX9_lateness : ByteArray := prog_11_method_41_code
def yX9_lateness : MethodName := ⟨RX9, "lateness", "(I)I"⟩
abbrev cX9_latestExcused : ByteArray := prog_11_method_42_code
def yX9_latestExcused : MethodName := ⟨RX9, "latestExcused", "(II)I"⟩
abbrev cX9_filed : ByteArray := prog_11_method_43_code
def yX9_filed : MethodName := ⟨RX9, "filed", "(II)I"⟩
abbrev cX9_trust : ByteArray := prog_11_method_44_code
def yX9_trust : MethodName := ⟨RX9, "trust", "(I)I"⟩
abbrev cX9_results : ByteArray := prog_11_method_45_code
def yX9_results : MethodName := ⟨RX9, "results", "(II)I"⟩
abbrev cX9_cases : ByteArray := prog_11_method_46_code
def yX9_cases : MethodName := ⟨RX9, "cases", "()I"⟩
abbrev cX9_count : ByteArray := prog_11_method_47_code
def yX9_count : MethodName := ⟨RX9, "count", "(I)I"⟩
abbrev cX9_type : ByteArray := prog_11_method_48_code
def yX9_type : MethodName := ⟨RX9, "type", "(I)I"⟩
abbrev cX9_clearText : ByteArray := prog_11_method_49_code
def yX9_clearText : MethodName := ⟨RX9, "clearText", "()I"⟩
abbrev cX9_passes : ByteArray := prog_11_method_50_code
def yX9_passes : MethodName := ⟨RX9, "passes", "(I)Z"⟩
abbrev cX9_passesNumber : ByteArray := prog_11_method_51_code
def yX9_passesNumber : MethodName := ⟨RX9, "passesNumber", "()Z"⟩
abbrev cX9_excuseHere : ByteArray := prog_11_method_52_code
def yX9_excuseHere : MethodName := ⟨RX9, "excuseHere", "()I"⟩
abbrev cX9_passesEvent : ByteArray := prog_11_method_53_code
def yX9_passesEvent : MethodName := ⟨RX9, "passesEvent", "()Z"⟩
abbrev cX9_faultOf : ByteArray := prog_11_method_54_code
def yX9_faultOf : MethodName := ⟨RX9, "faultOf", "()I"⟩
abbrev cX9_fault : ByteArray := prog_11_method_55_code
def yX9_fault : MethodName := ⟨RX9, "fault", "(I)I"⟩
abbrev cX9_play : ByteArray := prog_11_method_56_code
def yX9_play : MethodName := ⟨RX9, "play", "()I"⟩
def RJ9 : String := "java/lang/Math"
def TJ9 : u_T := fun k => match k with
  | _ => ("", "", "", false)
def tyJ9 : Nat → FieldType := fun k => match k with
  | _ => .int
abbrev wsJ90 : List Cond := u_ws RJ9 TJ9 0
theorem nmJ9 : ∀ a, a < 0 → ∀ b, b < 0 → a ≠ b → (TJ9 a).2.1 ≠ (TJ9 b).2.1 := by decide +kernel
theorem tyJ9_ok : ∀ k, k < 0 → parseFieldDescriptor (TJ9 k).2.2.1 = some (tyJ9 k) := by decide +kernel
abbrev cJ9_max_7cf53 : ByteArray := prog_12_method_65_code
def yJ9_max_7cf53 : MethodName := ⟨RJ9, "max", "(II)I"⟩
def RJ10 : String := "java/lang/System"
def TJ10 : u_T := fun k => match k with
  | _ => ("", "", "", false)
def tyJ10 : Nat → FieldType := fun k => match k with
  | _ => .int
abbrev wsJ100 : List Cond := u_ws RJ10 TJ10 0
theorem nmJ10 : ∀ a, a < 0 → ∀ b, b < 0 → a ≠ b → (TJ10 a).2.1 ≠ (TJ10 b).2.1 := by decide +kernel
theorem tyJ10_ok : ∀ k, k < 0 → parseFieldDescriptor (TJ10 k).2.2.1 = some (tyJ10 k) := by decide +kernel
def RL : String := "LateExcusesLaw"
abbrev cL_law : ByteArray := code
def yL_law : MethodName := ⟨RL, "law", "([I)Z"⟩
def wsX5_init : List Cond := .code yX5_init cX5_init 3 none :: ([.methodLink RX5 1 objectInit, .instanceMethod objectInit, .code objectInit ⟨#[0xb1]⟩ 1 none, .methodLink RX5 7 Lib.Math.max.name, .static Lib.Math.max.name, .initialized "java/lang/Math", .code Lib.Math.max.name Lib.Math.max.code 2 (some .int), .fieldLink RX5 13 "LateExcuses$Table" "rows" "I", .fieldLink RX5 19 "LateExcuses$Table" "columns" "I", .arrayClass .int, .fieldLink RX5 22 "LateExcuses$Table" "cells" "[I"] ++ wsX50)
def wsX0_init : List Cond := .code yX0_init cX0_init 1 none :: ([.methodLink RX0 5 objectInit, .instanceMethod objectInit, .code objectInit ⟨#[0xb1]⟩ 1 none, .classLink RX0 11 RX5, .instantiable RX5 3, .initialized RX5, .fieldLink RX0 16 "LateExcuses$Cabinets" "rows" "LLateExcuses$Table;", .methodLink RX0 13 yX5_init, .instanceMethod yX5_init, .code yX5_init cX5_init 3 none, .methodLink RX5 1 objectInit, .methodLink RX5 7 Lib.Math.max.name, .static Lib.Math.max.name, .initialized "java/lang/Math", .code Lib.Math.max.name Lib.Math.max.code 2 (some .int), .fieldLink RX5 13 "LateExcuses$Table" "rows" "I", .fieldLink RX5 19 "LateExcuses$Table" "columns" "I", .arrayClass .int, .fieldLink RX5 22 "LateExcuses$Table" "cells" "[I"] ++ wsX50 ++ wsX00)
def wsX5_copyFrom : List Cond := .code yX5_copyFrom cX5_copyFrom 2 none :: ([.fieldLink RX5 22 "LateExcuses$Table" "cells" "[I", .methodLink RX5 26 arraycopyName, .native arraycopyName, .static arraycopyName, .initialized "java/lang/System"] ++ wsX50)
def wsX0_copyFrom : List Cond := .code yX0_copyFrom cX0_copyFrom 2 none :: ([.fieldLink RX0 16 "LateExcuses$Cabinets" "rows" "LLateExcuses$Table;", .methodLink RX0 20 yX5_copyFrom, .instanceMethod yX5_copyFrom, .selects RX5 yX5_copyFrom yX5_copyFrom, .initialized RX5, .code yX5_copyFrom cX5_copyFrom 2 none, .fieldLink RX5 22 "LateExcuses$Table" "cells" "[I", .methodLink RX5 26 arraycopyName, .native arraycopyName, .static arraycopyName, .initialized "java/lang/System"] ++ wsX00 ++ wsX50)
def wsX5_get : List Cond := .code yX5_get cX5_get 4 (some .int) :: ([.fieldLink RX5 13 "LateExcuses$Table" "rows" "I", .fieldLink RX5 19 "LateExcuses$Table" "columns" "I", .fieldLink RX5 22 "LateExcuses$Table" "cells" "[I"] ++ wsX50)
def wsX0_read : List Cond := .code yX0_read cX0_read 3 (some .int) :: ([.fieldLink RX0 16 "LateExcuses$Cabinets" "rows" "LLateExcuses$Table;", .constant RX0 28 (-1000004), .methodLink RX0 24 yX5_get, .instanceMethod yX5_get, .selects RX5 yX5_get yX5_get, .initialized RX5, .code yX5_get cX5_get 4 (some .int), .fieldLink RX5 13 "LateExcuses$Table" "rows" "I", .fieldLink RX5 19 "LateExcuses$Table" "columns" "I", .fieldLink RX5 22 "LateExcuses$Table" "cells" "[I"] ++ wsX00 ++ wsX50)
def wsX0_isFull : List Cond := .code yX0_isFull cX0_isFull 2 (some .boolean) :: ([.fieldLink RX0 16 "LateExcuses$Cabinets" "rows" "LLateExcuses$Table;", .methodLink RX0 24 yX5_get, .instanceMethod yX5_get, .selects RX5 yX5_get yX5_get, .initialized RX5, .code yX5_get cX5_get 4 (some .int), .fieldLink RX5 13 "LateExcuses$Table" "rows" "I", .fieldLink RX5 19 "LateExcuses$Table" "columns" "I", .fieldLink RX5 22 "LateExcuses$Table" "cells" "[I"] ++ wsX00 ++ wsX50)
def wsX0_cabinetFor : List Cond := .code yX0_cabinetFor cX0_cabinetFor 2 (some .int) :: ([.methodLink RX0 33 yX0_isFull, .instanceMethod yX0_isFull, .selects RX0 yX0_isFull yX0_isFull, .initialized RX0, .code yX0_isFull cX0_isFull 2 (some .boolean), .fieldLink RX0 16 "LateExcuses$Cabinets" "rows" "LLateExcuses$Table;", .methodLink RX0 24 yX5_get, .instanceMethod yX5_get, .selects RX5 yX5_get yX5_get, .initialized RX5, .code yX5_get cX5_get 4 (some .int), .fieldLink RX5 13 "LateExcuses$Table" "rows" "I", .fieldLink RX5 19 "LateExcuses$Table" "columns" "I", .fieldLink RX5 22 "LateExcuses$Table" "cells" "[I"] ++ wsX00 ++ wsX50)
def wsX0_hasPlaceFor : List Cond := .code yX0_hasPlaceFor cX0_hasPlaceFor 2 (some .boolean) :: ([.methodLink RX0 29 yX0_cabinetFor, .instanceMethod yX0_cabinetFor, .selects RX0 yX0_cabinetFor yX0_cabinetFor, .initialized RX0, .code yX0_cabinetFor cX0_cabinetFor 2 (some .int), .methodLink RX0 33 yX0_isFull, .instanceMethod yX0_isFull, .selects RX0 yX0_isFull yX0_isFull, .code yX0_isFull cX0_isFull 2 (some .boolean), .fieldLink RX0 16 "LateExcuses$Cabinets" "rows" "LLateExcuses$Table;", .methodLink RX0 24 yX5_get, .instanceMethod yX5_get, .selects RX5 yX5_get yX5_get, .initialized RX5, .code yX5_get cX5_get 4 (some .int), .fieldLink RX5 13 "LateExcuses$Table" "rows" "I", .fieldLink RX5 19 "LateExcuses$Table" "columns" "I", .fieldLink RX5 22 "LateExcuses$Table" "cells" "[I"] ++ wsX00 ++ wsX50)
def wsX5_put : List Cond := .code yX5_put cX5_put 5 none :: ([.fieldLink RX5 13 "LateExcuses$Table" "rows" "I", .fieldLink RX5 19 "LateExcuses$Table" "columns" "I", .fieldLink RX5 22 "LateExcuses$Table" "cells" "[I"] ++ wsX50)
def wsX0_file : List Cond := .code yX0_file cX0_file 5 none :: ([.fieldLink RX0 16 "LateExcuses$Cabinets" "rows" "LLateExcuses$Table;", .methodLink RX0 29 yX0_cabinetFor, .instanceMethod yX0_cabinetFor, .selects RX0 yX0_cabinetFor yX0_cabinetFor, .initialized RX0, .code yX0_cabinetFor cX0_cabinetFor 2 (some .int), .methodLink RX0 33 yX0_isFull, .instanceMethod yX0_isFull, .selects RX0 yX0_isFull yX0_isFull, .code yX0_isFull cX0_isFull 2 (some .boolean), .methodLink RX0 24 yX5_get, .instanceMethod yX5_get, .selects RX5 yX5_get yX5_get, .initialized RX5, .code yX5_get cX5_get 4 (some .int), .fieldLink RX5 13 "LateExcuses$Table" "rows" "I", .fieldLink RX5 19 "LateExcuses$Table" "columns" "I", .fieldLink RX5 22 "LateExcuses$Table" "cells" "[I", .methodLink RX0 37 yX5_put, .instanceMethod yX5_put, .selects RX5 yX5_put yX5_put, .code yX5_put cX5_put 5 none] ++ wsX00 ++ wsX50)
def wsX2_init : List Cond := .code yX2_init cX2_init 1 none :: ([.methodLink RX2 3 objectInit, .instanceMethod objectInit, .code objectInit ⟨#[0xb1]⟩ 1 none, .classLink RX2 9 RX5, .instantiable RX5 3, .initialized RX5, .fieldLink RX2 14 "LateExcuses$Events" "rows" "LLateExcuses$Table;", .methodLink RX2 11 yX5_init, .instanceMethod yX5_init, .code yX5_init cX5_init 3 none, .methodLink RX5 1 objectInit, .methodLink RX5 7 Lib.Math.max.name, .static Lib.Math.max.name, .initialized "java/lang/Math", .code Lib.Math.max.name Lib.Math.max.code 2 (some .int), .fieldLink RX5 13 "LateExcuses$Table" "rows" "I", .fieldLink RX5 19 "LateExcuses$Table" "columns" "I", .arrayClass .int, .fieldLink RX5 22 "LateExcuses$Table" "cells" "[I"] ++ wsX50 ++ wsX20)
def wsX7_init : List Cond := .code yX7_init cX7_init 1 none :: ([.methodLink RX7 3 objectInit, .instanceMethod objectInit, .code objectInit ⟨#[0xb1]⟩ 1 none, .classLink RX7 9 RX5, .instantiable RX5 3, .initialized RX5, .fieldLink RX7 16 "LateExcuses$Words" "rows" "LLateExcuses$Table;", .methodLink RX7 13 yX5_init, .instanceMethod yX5_init, .code yX5_init cX5_init 3 none, .methodLink RX5 1 objectInit, .methodLink RX5 7 Lib.Math.max.name, .static Lib.Math.max.name, .initialized "java/lang/Math", .code Lib.Math.max.name Lib.Math.max.code 2 (some .int), .fieldLink RX5 13 "LateExcuses$Table" "rows" "I", .fieldLink RX5 19 "LateExcuses$Table" "columns" "I", .arrayClass .int, .fieldLink RX5 22 "LateExcuses$Table" "cells" "[I"] ++ wsX50 ++ wsX70)
def wsX4_init_r1 : List Cond := [Cond.methodLink RX4 3 objectInit, Cond.instanceMethod objectInit, Cond.code objectInit ⟨#[0xb1]⟩ 1 none, Cond.classLink RX4 9 RX5, Cond.instantiable RX5 3, Cond.initialized RX5, Cond.fieldLink RX4 16 "LateExcuses$Panes" "rows" "LLateExcuses$Table;", Cond.classLink RX4 20 RX7, Cond.instantiable RX7 4, Cond.initialized RX7, Cond.fieldLink RX4 23 "LateExcuses$Panes" "words" "LLateExcuses$Words;", Cond.methodLink RX4 13 yX5_init, Cond.instanceMethod yX5_init, Cond.code yX5_init cX5_init 3 none, Cond.methodLink RX5 1 objectInit, Cond.methodLink RX5 7 Lib.Math.max.name, Cond.static Lib.Math.max.name, Cond.initialized "java/lang/Math", Cond.code Lib.Math.max.name Lib.Math.max.code 2 (some .int), Cond.fieldLink RX5 13 "LateExcuses$Table" "rows" "I", Cond.fieldLink RX5 19 "LateExcuses$Table" "columns" "I", Cond.arrayClass .int, Cond.fieldLink RX5 22 "LateExcuses$Table" "cells" "[I", Cond.instanceMethod yX7_init]
def wsX4_init_r2 : List Cond := [Cond.code yX7_init cX7_init 1 none, Cond.methodLink RX7 3 objectInit, Cond.classLink RX7 9 RX5, Cond.fieldLink RX7 16 "LateExcuses$Words" "rows" "LLateExcuses$Table;", Cond.methodLink RX7 13 yX5_init]
def wsX4_init : List Cond := .code yX4_init cX4_init 1 none :: ((wsX4_init_r1 ++ wsX4_init_r2) ++ wsX50 ++ wsX40 ++ wsX70)
def wsX1_init_r1 : List Cond := [Cond.methodLink RX1 3 objectInit, Cond.instanceMethod objectInit, Cond.code objectInit ⟨#[0xb1]⟩ 1 none, Cond.classLink RX1 9 RX2, Cond.instantiable RX2 2, Cond.initialized RX2, Cond.fieldLink RX1 12 "LateExcuses$Court" "events" "LLateExcuses$Events;", Cond.classLink RX1 18 RX4, Cond.instantiable RX4 3, Cond.initialized RX4, Cond.fieldLink RX1 21 "LateExcuses$Court" "panes" "LLateExcuses$Panes;", Cond.classLink RX1 25 RX0, Cond.instantiable RX0 1, Cond.initialized RX0, Cond.fieldLink RX1 28 "LateExcuses$Court" "cabinets" "LLateExcuses$Cabinets;", Cond.fieldLink RX1 32 "LateExcuses$Court" "size" "I", Cond.fieldLink RX1 36 "LateExcuses$Court" "lag" "I", Cond.fieldLink RX1 39 "LateExcuses$Court" "grace" "I", Cond.fieldLink RX1 42 "LateExcuses$Court" "watermark" "I", Cond.fieldLink RX1 45 "LateExcuses$Court" "latest" "I", Cond.instanceMethod yX2_init, Cond.code yX2_init cX2_init 1 none, Cond.methodLink RX2 3 objectInit, Cond.classLink RX2 9 RX5]
def wsX1_init_r2 : List Cond := [Cond.instantiable RX5 3, Cond.initialized RX5, Cond.fieldLink RX2 14 "LateExcuses$Events" "rows" "LLateExcuses$Table;", Cond.methodLink RX2 11 yX5_init, Cond.instanceMethod yX5_init, Cond.code yX5_init cX5_init 3 none, Cond.methodLink RX5 1 objectInit, Cond.methodLink RX5 7 Lib.Math.max.name, Cond.static Lib.Math.max.name, Cond.initialized "java/lang/Math", Cond.code Lib.Math.max.name Lib.Math.max.code 2 (some .int), Cond.fieldLink RX5 13 "LateExcuses$Table" "rows" "I", Cond.fieldLink RX5 19 "LateExcuses$Table" "columns" "I", Cond.arrayClass .int, Cond.fieldLink RX5 22 "LateExcuses$Table" "cells" "[I", Cond.instanceMethod yX4_init, Cond.code yX4_init cX4_init 1 none, Cond.methodLink RX4 3 objectInit, Cond.classLink RX4 9 RX5, Cond.fieldLink RX4 16 "LateExcuses$Panes" "rows" "LLateExcuses$Table;", Cond.classLink RX4 20 RX7, Cond.instantiable RX7 4, Cond.initialized RX7, Cond.fieldLink RX4 23 "LateExcuses$Panes" "words" "LLateExcuses$Words;"]
def wsX1_init_r3 : List Cond := [Cond.methodLink RX4 13 yX5_init, Cond.instanceMethod yX7_init, Cond.code yX7_init cX7_init 1 none, Cond.methodLink RX7 3 objectInit, Cond.classLink RX7 9 RX5, Cond.fieldLink RX7 16 "LateExcuses$Words" "rows" "LLateExcuses$Table;", Cond.methodLink RX7 13 yX5_init, Cond.instanceMethod yX0_init, Cond.code yX0_init cX0_init 1 none, Cond.methodLink RX0 5 objectInit, Cond.classLink RX0 11 RX5, Cond.fieldLink RX0 16 "LateExcuses$Cabinets" "rows" "LLateExcuses$Table;", Cond.methodLink RX0 13 yX5_init]
def wsX1_init : List Cond := .code yX1_init cX1_init 1 none :: ((wsX1_init_r1 ++ (wsX1_init_r2 ++ wsX1_init_r3)) ++ wsX20 ++ wsX10 ++ wsX40 ++ wsX00 ++ wsX50 ++ wsX70)
def wsX1_events : List Cond := .code yX1_events cX1_events 1 (some (.object "LateExcuses$Events")) :: ([.fieldLink RX1 12 "LateExcuses$Court" "events" "LLateExcuses$Events;"] ++ wsX10)
def wsX1_panes : List Cond := .code yX1_panes cX1_panes 1 (some (.object "LateExcuses$Panes")) :: ([.fieldLink RX1 21 "LateExcuses$Court" "panes" "LLateExcuses$Panes;"] ++ wsX10)
def wsX1_cabinets : List Cond := .code yX1_cabinets cX1_cabinets 1 (some (.object "LateExcuses$Cabinets")) :: ([.fieldLink RX1 28 "LateExcuses$Court" "cabinets" "LLateExcuses$Cabinets;"] ++ wsX10)
def wsX2_copyFrom : List Cond := .code yX2_copyFrom cX2_copyFrom 2 none :: ([.fieldLink RX2 14 "LateExcuses$Events" "rows" "LLateExcuses$Table;", .fieldLink RX2 24 "LateExcuses$Events" "doubles" "I", .methodLink RX2 20 yX5_copyFrom, .instanceMethod yX5_copyFrom, .selects RX5 yX5_copyFrom yX5_copyFrom, .initialized RX5, .code yX5_copyFrom cX5_copyFrom 2 none, .fieldLink RX5 22 "LateExcuses$Table" "cells" "[I", .methodLink RX5 26 arraycopyName, .native arraycopyName, .static arraycopyName, .initialized "java/lang/System"] ++ wsX20 ++ wsX50)
def wsX7_copyFrom : List Cond := .code yX7_copyFrom cX7_copyFrom 2 none :: ([.fieldLink RX7 16 "LateExcuses$Words" "rows" "LLateExcuses$Table;", .fieldLink RX7 24 "LateExcuses$Words" "kept" "I", .fieldLink RX7 28 "LateExcuses$Words" "told" "I", .fieldLink RX7 31 "LateExcuses$Words" "takenBack" "I", .methodLink RX7 20 yX5_copyFrom, .instanceMethod yX5_copyFrom, .selects RX5 yX5_copyFrom yX5_copyFrom, .initialized RX5, .code yX5_copyFrom cX5_copyFrom 2 none, .fieldLink RX5 22 "LateExcuses$Table" "cells" "[I", .methodLink RX5 26 arraycopyName, .native arraycopyName, .static arraycopyName, .initialized "java/lang/System"] ++ wsX70 ++ wsX50)
def wsX4_copyFrom : List Cond := .code yX4_copyFrom cX4_copyFrom 2 none :: ([.fieldLink RX4 16 "LateExcuses$Panes" "rows" "LLateExcuses$Table;", .fieldLink RX4 23 "LateExcuses$Panes" "words" "LLateExcuses$Words;", .fieldLink RX4 34 "LateExcuses$Panes" "used" "I", .methodLink RX4 27 yX5_copyFrom, .instanceMethod yX5_copyFrom, .selects RX5 yX5_copyFrom yX5_copyFrom, .initialized RX5, .code yX5_copyFrom cX5_copyFrom 2 none, .fieldLink RX5 22 "LateExcuses$Table" "cells" "[I", .methodLink RX5 26 arraycopyName, .native arraycopyName, .static arraycopyName, .initialized "java/lang/System", .methodLink RX4 31 yX7_copyFrom, .instanceMethod yX7_copyFrom, .selects RX7 yX7_copyFrom yX7_copyFrom, .initialized RX7, .code yX7_copyFrom cX7_copyFrom 2 none, .fieldLink RX7 16 "LateExcuses$Words" "rows" "LLateExcuses$Table;", .fieldLink RX7 24 "LateExcuses$Words" "kept" "I", .fieldLink RX7 28 "LateExcuses$Words" "told" "I", .fieldLink RX7 31 "LateExcuses$Words" "takenBack" "I", .methodLink RX7 20 yX5_copyFrom] ++ wsX40 ++ wsX50 ++ wsX70)
def wsX1_copyFrom_r1 : List Cond := [Cond.fieldLink RX1 12 "LateExcuses$Court" "events" "LLateExcuses$Events;", Cond.fieldLink RX1 21 "LateExcuses$Court" "panes" "LLateExcuses$Panes;", Cond.fieldLink RX1 28 "LateExcuses$Court" "cabinets" "LLateExcuses$Cabinets;", Cond.fieldLink RX1 32 "LateExcuses$Court" "size" "I", Cond.fieldLink RX1 36 "LateExcuses$Court" "lag" "I", Cond.fieldLink RX1 39 "LateExcuses$Court" "grace" "I", Cond.fieldLink RX1 42 "LateExcuses$Court" "watermark" "I", Cond.fieldLink RX1 45 "LateExcuses$Court" "latest" "I", Cond.fieldLink RX1 58 "LateExcuses$Court" "moved" "Z", Cond.methodLink RX1 48 yX2_copyFrom, Cond.instanceMethod yX2_copyFrom, Cond.selects RX2 yX2_copyFrom yX2_copyFrom, Cond.initialized RX2, Cond.code yX2_copyFrom cX2_copyFrom 2 none, Cond.fieldLink RX2 14 "LateExcuses$Events" "rows" "LLateExcuses$Table;", Cond.fieldLink RX2 24 "LateExcuses$Events" "doubles" "I", Cond.methodLink RX2 20 yX5_copyFrom, Cond.instanceMethod yX5_copyFrom, Cond.selects RX5 yX5_copyFrom yX5_copyFrom, Cond.initialized RX5, Cond.code yX5_copyFrom cX5_copyFrom 2 none, Cond.fieldLink RX5 22 "LateExcuses$Table" "cells" "[I", Cond.methodLink RX5 26 arraycopyName, Cond.native arraycopyName]
def wsX1_copyFrom_r2 : List Cond := [Cond.static arraycopyName, Cond.initialized "java/lang/System", Cond.methodLink RX1 52 yX4_copyFrom, Cond.instanceMethod yX4_copyFrom, Cond.selects RX4 yX4_copyFrom yX4_copyFrom, Cond.initialized RX4, Cond.code yX4_copyFrom cX4_copyFrom 2 none, Cond.fieldLink RX4 16 "LateExcuses$Panes" "rows" "LLateExcuses$Table;", Cond.fieldLink RX4 23 "LateExcuses$Panes" "words" "LLateExcuses$Words;", Cond.fieldLink RX4 34 "LateExcuses$Panes" "used" "I", Cond.methodLink RX4 27 yX5_copyFrom, Cond.methodLink RX4 31 yX7_copyFrom, Cond.instanceMethod yX7_copyFrom, Cond.selects RX7 yX7_copyFrom yX7_copyFrom, Cond.initialized RX7, Cond.code yX7_copyFrom cX7_copyFrom 2 none, Cond.fieldLink RX7 16 "LateExcuses$Words" "rows" "LLateExcuses$Table;", Cond.fieldLink RX7 24 "LateExcuses$Words" "kept" "I", Cond.fieldLink RX7 28 "LateExcuses$Words" "told" "I", Cond.fieldLink RX7 31 "LateExcuses$Words" "takenBack" "I", Cond.methodLink RX7 20 yX5_copyFrom, Cond.methodLink RX1 55 yX0_copyFrom, Cond.instanceMethod yX0_copyFrom, Cond.selects RX0 yX0_copyFrom yX0_copyFrom]
def wsX1_copyFrom_r3 : List Cond := [Cond.initialized RX0, Cond.code yX0_copyFrom cX0_copyFrom 2 none, Cond.fieldLink RX0 16 "LateExcuses$Cabinets" "rows" "LLateExcuses$Table;", Cond.methodLink RX0 20 yX5_copyFrom]
def wsX1_copyFrom : List Cond := .code yX1_copyFrom cX1_copyFrom 2 none :: ((wsX1_copyFrom_r1 ++ (wsX1_copyFrom_r2 ++ wsX1_copyFrom_r3)) ++ wsX10 ++ wsX20 ++ wsX50 ++ wsX40 ++ wsX70 ++ wsX00)
def wsX1_setting : List Cond := .code yX1_setting cX1_setting 2 (some .int) :: ([.fieldLink RX1 32 "LateExcuses$Court" "size" "I", .fieldLink RX1 36 "LateExcuses$Court" "lag" "I", .fieldLink RX1 39 "LateExcuses$Court" "grace" "I"] ++ wsX10)
def wsX1_changeSetting : List Cond := .code yX1_changeSetting cX1_changeSetting 4 (some .int) :: ([.fieldLink RX1 32 "LateExcuses$Court" "size" "I", .fieldLink RX1 36 "LateExcuses$Court" "lag" "I", .fieldLink RX1 39 "LateExcuses$Court" "grace" "I", .methodLink RX1 62 yX1_setting, .instanceMethod yX1_setting, .selects RX1 yX1_setting yX1_setting, .initialized RX1, .code yX1_setting cX1_setting 2 (some .int)] ++ wsX10)
def wsX2_hasOutcome : List Cond := .code yX2_hasOutcome cX2_hasOutcome 5 (some .boolean) :: ([.fieldLink RX2 14 "LateExcuses$Events" "rows" "LLateExcuses$Table;", .methodLink RX2 28 yX5_get, .instanceMethod yX5_get, .selects RX5 yX5_get yX5_get, .initialized RX5, .code yX5_get cX5_get 4 (some .int), .fieldLink RX5 13 "LateExcuses$Table" "rows" "I", .fieldLink RX5 19 "LateExcuses$Table" "columns" "I", .fieldLink RX5 22 "LateExcuses$Table" "cells" "[I"] ++ wsX20 ++ wsX50)
def wsX2_withOutcome : List Cond := .code yX2_withOutcome cX2_withOutcome 5 (some .int) :: ([.methodLink RX2 41 yX2_hasOutcome, .instanceMethod yX2_hasOutcome, .selects RX2 yX2_hasOutcome yX2_hasOutcome, .initialized RX2, .code yX2_hasOutcome cX2_hasOutcome 5 (some .boolean), .fieldLink RX2 14 "LateExcuses$Events" "rows" "LLateExcuses$Table;", .methodLink RX2 28 yX5_get, .instanceMethod yX5_get, .selects RX5 yX5_get yX5_get, .initialized RX5, .code yX5_get cX5_get 4 (some .int), .fieldLink RX5 13 "LateExcuses$Table" "rows" "I", .fieldLink RX5 19 "LateExcuses$Table" "columns" "I", .fieldLink RX5 22 "LateExcuses$Table" "cells" "[I"] ++ wsX20 ++ wsX50)
def wsX1_hasEvents : List Cond := .code yX1_hasEvents cX1_hasEvents 1 (some .boolean) :: ([.fieldLink RX1 12 "LateExcuses$Court" "events" "LLateExcuses$Events;", .methodLink RX1 66 yX2_withOutcome, .instanceMethod yX2_withOutcome, .selects RX2 yX2_withOutcome yX2_withOutcome, .initialized RX2, .code yX2_withOutcome cX2_withOutcome 5 (some .int), .methodLink RX2 41 yX2_hasOutcome, .instanceMethod yX2_hasOutcome, .selects RX2 yX2_hasOutcome yX2_hasOutcome, .code yX2_hasOutcome cX2_hasOutcome 5 (some .boolean), .fieldLink RX2 14 "LateExcuses$Events" "rows" "LLateExcuses$Table;", .methodLink RX2 28 yX5_get, .instanceMethod yX5_get, .selects RX5 yX5_get yX5_get, .initialized RX5, .code yX5_get cX5_get 4 (some .int), .fieldLink RX5 13 "LateExcuses$Table" "rows" "I", .fieldLink RX5 19 "LateExcuses$Table" "columns" "I", .fieldLink RX5 22 "LateExcuses$Table" "cells" "[I"] ++ wsX10 ++ wsX20 ++ wsX50)
def wsX2_doubles : List Cond := .code yX2_doubles cX2_doubles 1 (some .int) :: ([.fieldLink RX2 24 "LateExcuses$Events" "doubles" "I"] ++ wsX20)
def wsX1_number_r1 : List Cond := [Cond.fieldLink RX1 12 "LateExcuses$Court" "events" "LLateExcuses$Events;", Cond.fieldLink RX1 42 "LateExcuses$Court" "watermark" "I", Cond.fieldLink RX1 45 "LateExcuses$Court" "latest" "I", Cond.fieldLink RX1 58 "LateExcuses$Court" "moved" "Z", Cond.constant RX1 74 (-1000001), Cond.methodLink RX1 66 yX2_withOutcome, Cond.instanceMethod yX2_withOutcome, Cond.selects RX2 yX2_withOutcome yX2_withOutcome, Cond.initialized RX2, Cond.code yX2_withOutcome cX2_withOutcome 5 (some .int), Cond.methodLink RX2 41 yX2_hasOutcome, Cond.instanceMethod yX2_hasOutcome, Cond.selects RX2 yX2_hasOutcome yX2_hasOutcome, Cond.code yX2_hasOutcome cX2_hasOutcome 5 (some .boolean), Cond.fieldLink RX2 14 "LateExcuses$Events" "rows" "LLateExcuses$Table;", Cond.methodLink RX2 28 yX5_get, Cond.instanceMethod yX5_get, Cond.selects RX5 yX5_get yX5_get, Cond.initialized RX5, Cond.code yX5_get cX5_get 4 (some .int), Cond.fieldLink RX5 13 "LateExcuses$Table" "rows" "I", Cond.fieldLink RX5 19 "LateExcuses$Table" "columns" "I", Cond.fieldLink RX5 22 "LateExcuses$Table" "cells" "[I", Cond.methodLink RX1 70 yX2_doubles]
def wsX1_number_r2 : List Cond := [Cond.instanceMethod yX2_doubles, Cond.selects RX2 yX2_doubles yX2_doubles, Cond.code yX2_doubles cX2_doubles 1 (some .int), Cond.fieldLink RX2 24 "LateExcuses$Events" "doubles" "I"]
def wsX1_number : List Cond := .code yX1_number cX1_number 2 (some .int) :: ((wsX1_number_r1 ++ wsX1_number_r2) ++ wsX10 ++ wsX20 ++ wsX50)
def wsX1_paneAt : List Cond := .code yX1_paneAt cX1_paneAt 2 (some .int) :: ([.fieldLink RX1 32 "LateExcuses$Court" "size" "I"] ++ wsX10)
def wsX1_endOf : List Cond := .code yX1_endOf cX1_endOf 2 (some .int) :: ([.fieldLink RX1 32 "LateExcuses$Court" "size" "I"] ++ wsX10)
def wsX8_isWithin : List Cond := .code yX8_isWithin cX8_isWithin 3 (some .boolean) :: ([])
def wsX1_hasTimes : List Cond := .code yX1_hasTimes cX1_hasTimes 2 (some .boolean) :: ([.fieldLink RX1 32 "LateExcuses$Court" "size" "I", .static yX8_isWithin, .initialized RX8, .code yX8_isWithin cX8_isWithin 3 (some .boolean)] ++ wsX10)
def wsX4_rowOf : List Cond := .code yX4_rowOf cX4_rowOf 3 (some .int) :: ([.fieldLink RX4 34 "LateExcuses$Panes" "used" "I", .fieldLink RX4 16 "LateExcuses$Panes" "rows" "LLateExcuses$Table;", .methodLink RX4 38 yX5_get, .instanceMethod yX5_get, .selects RX5 yX5_get yX5_get, .initialized RX5, .code yX5_get cX5_get 4 (some .int), .fieldLink RX5 13 "LateExcuses$Table" "rows" "I", .fieldLink RX5 19 "LateExcuses$Table" "columns" "I", .fieldLink RX5 22 "LateExcuses$Table" "cells" "[I"] ++ wsX40 ++ wsX50)
def wsX4_read : List Cond := .code yX4_read cX4_read 3 (some .int) :: ([.fieldLink RX4 16 "LateExcuses$Panes" "rows" "LLateExcuses$Table;", .methodLink RX4 42 yX4_rowOf, .instanceMethod yX4_rowOf, .selects RX4 yX4_rowOf yX4_rowOf, .initialized RX4, .code yX4_rowOf cX4_rowOf 3 (some .int), .fieldLink RX4 34 "LateExcuses$Panes" "used" "I", .methodLink RX4 38 yX5_get, .instanceMethod yX5_get, .selects RX5 yX5_get yX5_get, .initialized RX5, .code yX5_get cX5_get 4 (some .int), .fieldLink RX5 13 "LateExcuses$Table" "rows" "I", .fieldLink RX5 19 "LateExcuses$Table" "columns" "I", .fieldLink RX5 22 "LateExcuses$Table" "cells" "[I"] ++ wsX40 ++ wsX50)
def wsX1_stateOf_r1 : List Cond := [Cond.fieldLink RX1 21 "LateExcuses$Court" "panes" "LLateExcuses$Panes;", Cond.fieldLink RX1 42 "LateExcuses$Court" "watermark" "I", Cond.methodLink RX1 79 yX4_read, Cond.instanceMethod yX4_read, Cond.selects RX4 yX4_read yX4_read, Cond.initialized RX4, Cond.code yX4_read cX4_read 3 (some .int), Cond.fieldLink RX4 16 "LateExcuses$Panes" "rows" "LLateExcuses$Table;", Cond.methodLink RX4 42 yX4_rowOf, Cond.instanceMethod yX4_rowOf, Cond.selects RX4 yX4_rowOf yX4_rowOf, Cond.code yX4_rowOf cX4_rowOf 3 (some .int), Cond.fieldLink RX4 34 "LateExcuses$Panes" "used" "I", Cond.methodLink RX4 38 yX5_get, Cond.instanceMethod yX5_get, Cond.selects RX5 yX5_get yX5_get, Cond.initialized RX5, Cond.code yX5_get cX5_get 4 (some .int), Cond.fieldLink RX5 13 "LateExcuses$Table" "rows" "I", Cond.fieldLink RX5 19 "LateExcuses$Table" "columns" "I", Cond.fieldLink RX5 22 "LateExcuses$Table" "cells" "[I", Cond.methodLink RX1 82 yX1_endOf, Cond.instanceMethod yX1_endOf, Cond.selects RX1 yX1_endOf yX1_endOf]
def wsX1_stateOf_r2 : List Cond := [Cond.initialized RX1, Cond.code yX1_endOf cX1_endOf 2 (some .int), Cond.fieldLink RX1 32 "LateExcuses$Court" "size" "I"]
def wsX1_stateOf : List Cond := .code yX1_stateOf cX1_stateOf 3 (some .int) :: ((wsX1_stateOf_r1 ++ wsX1_stateOf_r2) ++ wsX10 ++ wsX40 ++ wsX50)
def wsX1_lateBy : List Cond := .code yX1_lateBy cX1_lateBy 2 (some .int) :: ([.fieldLink RX1 42 "LateExcuses$Court" "watermark" "I", .methodLink RX1 82 yX1_endOf, .instanceMethod yX1_endOf, .selects RX1 yX1_endOf yX1_endOf, .initialized RX1, .code yX1_endOf cX1_endOf 2 (some .int), .fieldLink RX1 32 "LateExcuses$Court" "size" "I"] ++ wsX10)
def wsX2_hadIllness : List Cond := .code yX2_hadIllness cX2_hadIllness 3 (some .boolean) :: ([.fieldLink RX2 14 "LateExcuses$Events" "rows" "LLateExcuses$Table;", .methodLink RX2 28 yX5_get, .instanceMethod yX5_get, .selects RX5 yX5_get yX5_get, .initialized RX5, .code yX5_get cX5_get 4 (some .int), .fieldLink RX5 13 "LateExcuses$Table" "rows" "I", .fieldLink RX5 19 "LateExcuses$Table" "columns" "I", .fieldLink RX5 22 "LateExcuses$Table" "cells" "[I", .methodLink RX2 41 yX2_hasOutcome, .instanceMethod yX2_hasOutcome, .selects RX2 yX2_hasOutcome yX2_hasOutcome, .initialized RX2, .code yX2_hasOutcome cX2_hasOutcome 5 (some .boolean)] ++ wsX20 ++ wsX50)
def wsX1_isAcceptable_r1 : List Cond := [Cond.fieldLink RX1 12 "LateExcuses$Court" "events" "LLateExcuses$Events;", Cond.methodLink RX1 85 yX1_paneAt, Cond.instanceMethod yX1_paneAt, Cond.selects RX1 yX1_paneAt yX1_paneAt, Cond.initialized RX1, Cond.code yX1_paneAt cX1_paneAt 2 (some .int), Cond.fieldLink RX1 32 "LateExcuses$Court" "size" "I", Cond.methodLink RX1 98 yX1_lateBy, Cond.instanceMethod yX1_lateBy, Cond.selects RX1 yX1_lateBy yX1_lateBy, Cond.code yX1_lateBy cX1_lateBy 2 (some .int), Cond.fieldLink RX1 42 "LateExcuses$Court" "watermark" "I", Cond.methodLink RX1 82 yX1_endOf, Cond.instanceMethod yX1_endOf, Cond.selects RX1 yX1_endOf yX1_endOf, Cond.code yX1_endOf cX1_endOf 2 (some .int), Cond.methodLink RX1 101 yX2_hadIllness, Cond.instanceMethod yX2_hadIllness, Cond.selects RX2 yX2_hadIllness yX2_hadIllness, Cond.initialized RX2, Cond.code yX2_hadIllness cX2_hadIllness 3 (some .boolean), Cond.fieldLink RX2 14 "LateExcuses$Events" "rows" "LLateExcuses$Table;", Cond.methodLink RX2 28 yX5_get, Cond.instanceMethod yX5_get]
def wsX1_isAcceptable_r2 : List Cond := [Cond.selects RX5 yX5_get yX5_get, Cond.initialized RX5, Cond.code yX5_get cX5_get 4 (some .int), Cond.fieldLink RX5 13 "LateExcuses$Table" "rows" "I", Cond.fieldLink RX5 19 "LateExcuses$Table" "columns" "I", Cond.fieldLink RX5 22 "LateExcuses$Table" "cells" "[I", Cond.methodLink RX2 41 yX2_hasOutcome, Cond.instanceMethod yX2_hasOutcome, Cond.selects RX2 yX2_hasOutcome yX2_hasOutcome, Cond.code yX2_hasOutcome cX2_hasOutcome 5 (some .boolean)]
def wsX1_isAcceptable : List Cond := .code yX1_isAcceptable cX1_isAcceptable 5 (some .boolean) :: ((wsX1_isAcceptable_r1 ++ wsX1_isAcceptable_r2) ++ wsX10 ++ wsX20 ++ wsX50)
def wsX1_verdict_r1 : List Cond := [Cond.fieldLink RX1 28 "LateExcuses$Court" "cabinets" "LLateExcuses$Cabinets;", Cond.methodLink RX1 85 yX1_paneAt, Cond.instanceMethod yX1_paneAt, Cond.selects RX1 yX1_paneAt yX1_paneAt, Cond.initialized RX1, Cond.code yX1_paneAt cX1_paneAt 2 (some .int), Cond.fieldLink RX1 32 "LateExcuses$Court" "size" "I", Cond.methodLink RX1 88 yX1_stateOf, Cond.instanceMethod yX1_stateOf, Cond.selects RX1 yX1_stateOf yX1_stateOf, Cond.code yX1_stateOf cX1_stateOf 3 (some .int), Cond.fieldLink RX1 21 "LateExcuses$Court" "panes" "LLateExcuses$Panes;", Cond.fieldLink RX1 42 "LateExcuses$Court" "watermark" "I", Cond.methodLink RX1 79 yX4_read, Cond.instanceMethod yX4_read, Cond.selects RX4 yX4_read yX4_read, Cond.initialized RX4, Cond.code yX4_read cX4_read 3 (some .int), Cond.fieldLink RX4 16 "LateExcuses$Panes" "rows" "LLateExcuses$Table;", Cond.methodLink RX4 42 yX4_rowOf, Cond.instanceMethod yX4_rowOf, Cond.selects RX4 yX4_rowOf yX4_rowOf, Cond.code yX4_rowOf cX4_rowOf 3 (some .int), Cond.fieldLink RX4 34 "LateExcuses$Panes" "used" "I"]
def wsX1_verdict_r2 : List Cond := [Cond.methodLink RX4 38 yX5_get, Cond.instanceMethod yX5_get, Cond.selects RX5 yX5_get yX5_get, Cond.initialized RX5, Cond.code yX5_get cX5_get 4 (some .int), Cond.fieldLink RX5 13 "LateExcuses$Table" "rows" "I", Cond.fieldLink RX5 19 "LateExcuses$Table" "columns" "I", Cond.fieldLink RX5 22 "LateExcuses$Table" "cells" "[I", Cond.methodLink RX1 82 yX1_endOf, Cond.instanceMethod yX1_endOf, Cond.selects RX1 yX1_endOf yX1_endOf, Cond.code yX1_endOf cX1_endOf 2 (some .int), Cond.methodLink RX1 91 yX1_isAcceptable, Cond.instanceMethod yX1_isAcceptable, Cond.selects RX1 yX1_isAcceptable yX1_isAcceptable, Cond.code yX1_isAcceptable cX1_isAcceptable 5 (some .boolean), Cond.fieldLink RX1 12 "LateExcuses$Court" "events" "LLateExcuses$Events;", Cond.methodLink RX1 98 yX1_lateBy, Cond.instanceMethod yX1_lateBy, Cond.selects RX1 yX1_lateBy yX1_lateBy, Cond.code yX1_lateBy cX1_lateBy 2 (some .int), Cond.methodLink RX1 101 yX2_hadIllness, Cond.instanceMethod yX2_hadIllness, Cond.selects RX2 yX2_hadIllness yX2_hadIllness]
def wsX1_verdict_r3 : List Cond := [Cond.initialized RX2, Cond.code yX2_hadIllness cX2_hadIllness 3 (some .boolean), Cond.fieldLink RX2 14 "LateExcuses$Events" "rows" "LLateExcuses$Table;", Cond.methodLink RX2 28 yX5_get, Cond.methodLink RX2 41 yX2_hasOutcome, Cond.instanceMethod yX2_hasOutcome, Cond.selects RX2 yX2_hasOutcome yX2_hasOutcome, Cond.code yX2_hasOutcome cX2_hasOutcome 5 (some .boolean), Cond.methodLink RX1 94 yX0_hasPlaceFor, Cond.instanceMethod yX0_hasPlaceFor, Cond.selects RX0 yX0_hasPlaceFor yX0_hasPlaceFor, Cond.initialized RX0, Cond.code yX0_hasPlaceFor cX0_hasPlaceFor 2 (some .boolean), Cond.methodLink RX0 29 yX0_cabinetFor, Cond.instanceMethod yX0_cabinetFor, Cond.selects RX0 yX0_cabinetFor yX0_cabinetFor, Cond.code yX0_cabinetFor cX0_cabinetFor 2 (some .int), Cond.methodLink RX0 33 yX0_isFull, Cond.instanceMethod yX0_isFull, Cond.selects RX0 yX0_isFull yX0_isFull, Cond.code yX0_isFull cX0_isFull 2 (some .boolean), Cond.fieldLink RX0 16 "LateExcuses$Cabinets" "rows" "LLateExcuses$Table;", Cond.methodLink RX0 24 yX5_get]
def wsX1_verdict : List Cond := .code yX1_verdict cX1_verdict 6 (some .int) :: ((wsX1_verdict_r1 ++ (wsX1_verdict_r2 ++ wsX1_verdict_r3)) ++ wsX10 ++ wsX40 ++ wsX50 ++ wsX20 ++ wsX00)
def wsX1_latestIn_r1 : List Cond := [Cond.fieldLink RX1 32 "LateExcuses$Court" "size" "I", Cond.methodLink RX1 109 Lib.Math.max.name, Cond.static Lib.Math.max.name, Cond.initialized "java/lang/Math", Cond.code Lib.Math.max.name Lib.Math.max.code 2 (some .int), Cond.constant RX1 108 (-1000004), Cond.methodLink RX1 82 yX1_endOf, Cond.instanceMethod yX1_endOf, Cond.selects RX1 yX1_endOf yX1_endOf, Cond.initialized RX1, Cond.code yX1_endOf cX1_endOf 2 (some .int), Cond.methodLink RX1 91 yX1_isAcceptable, Cond.instanceMethod yX1_isAcceptable, Cond.selects RX1 yX1_isAcceptable yX1_isAcceptable, Cond.code yX1_isAcceptable cX1_isAcceptable 5 (some .boolean), Cond.fieldLink RX1 12 "LateExcuses$Court" "events" "LLateExcuses$Events;", Cond.methodLink RX1 85 yX1_paneAt, Cond.instanceMethod yX1_paneAt, Cond.selects RX1 yX1_paneAt yX1_paneAt, Cond.code yX1_paneAt cX1_paneAt 2 (some .int), Cond.methodLink RX1 98 yX1_lateBy, Cond.instanceMethod yX1_lateBy, Cond.selects RX1 yX1_lateBy yX1_lateBy, Cond.code yX1_lateBy cX1_lateBy 2 (some .int)]
def wsX1_latestIn_r2 : List Cond := [Cond.fieldLink RX1 42 "LateExcuses$Court" "watermark" "I", Cond.methodLink RX1 101 yX2_hadIllness, Cond.instanceMethod yX2_hadIllness, Cond.selects RX2 yX2_hadIllness yX2_hadIllness, Cond.initialized RX2, Cond.code yX2_hadIllness cX2_hadIllness 3 (some .boolean), Cond.fieldLink RX2 14 "LateExcuses$Events" "rows" "LLateExcuses$Table;", Cond.methodLink RX2 28 yX5_get, Cond.instanceMethod yX5_get, Cond.selects RX5 yX5_get yX5_get, Cond.initialized RX5, Cond.code yX5_get cX5_get 4 (some .int), Cond.fieldLink RX5 13 "LateExcuses$Table" "rows" "I", Cond.fieldLink RX5 19 "LateExcuses$Table" "columns" "I", Cond.fieldLink RX5 22 "LateExcuses$Table" "cells" "[I", Cond.methodLink RX2 41 yX2_hasOutcome, Cond.instanceMethod yX2_hasOutcome, Cond.selects RX2 yX2_hasOutcome yX2_hasOutcome, Cond.code yX2_hasOutcome cX2_hasOutcome 5 (some .boolean)]
def wsX1_latestIn : List Cond := .code yX1_latestIn cX1_latestIn 6 (some .int) :: ((wsX1_latestIn_r1 ++ wsX1_latestIn_r2) ++ wsX10 ++ wsX20 ++ wsX50)
def wsX1_latestAcceptable_r1 : List Cond := [Cond.fieldLink RX1 42 "LateExcuses$Court" "watermark" "I", Cond.constant RX1 108 (-1000004), Cond.methodLink RX1 85 yX1_paneAt, Cond.instanceMethod yX1_paneAt, Cond.selects RX1 yX1_paneAt yX1_paneAt, Cond.initialized RX1, Cond.code yX1_paneAt cX1_paneAt 2 (some .int), Cond.fieldLink RX1 32 "LateExcuses$Court" "size" "I", Cond.methodLink RX1 88 yX1_stateOf, Cond.instanceMethod yX1_stateOf, Cond.selects RX1 yX1_stateOf yX1_stateOf, Cond.code yX1_stateOf cX1_stateOf 3 (some .int), Cond.fieldLink RX1 21 "LateExcuses$Court" "panes" "LLateExcuses$Panes;", Cond.methodLink RX1 79 yX4_read, Cond.instanceMethod yX4_read, Cond.selects RX4 yX4_read yX4_read, Cond.initialized RX4, Cond.code yX4_read cX4_read 3 (some .int), Cond.fieldLink RX4 16 "LateExcuses$Panes" "rows" "LLateExcuses$Table;", Cond.methodLink RX4 42 yX4_rowOf, Cond.instanceMethod yX4_rowOf, Cond.selects RX4 yX4_rowOf yX4_rowOf, Cond.code yX4_rowOf cX4_rowOf 3 (some .int), Cond.fieldLink RX4 34 "LateExcuses$Panes" "used" "I"]
def wsX1_latestAcceptable_r2 : List Cond := [Cond.methodLink RX4 38 yX5_get, Cond.instanceMethod yX5_get, Cond.selects RX5 yX5_get yX5_get, Cond.initialized RX5, Cond.code yX5_get cX5_get 4 (some .int), Cond.fieldLink RX5 13 "LateExcuses$Table" "rows" "I", Cond.fieldLink RX5 19 "LateExcuses$Table" "columns" "I", Cond.fieldLink RX5 22 "LateExcuses$Table" "cells" "[I", Cond.methodLink RX1 82 yX1_endOf, Cond.instanceMethod yX1_endOf, Cond.selects RX1 yX1_endOf yX1_endOf, Cond.code yX1_endOf cX1_endOf 2 (some .int), Cond.methodLink RX1 104 yX1_latestIn, Cond.instanceMethod yX1_latestIn, Cond.selects RX1 yX1_latestIn yX1_latestIn, Cond.code yX1_latestIn cX1_latestIn 6 (some .int), Cond.methodLink RX1 109 Lib.Math.max.name, Cond.static Lib.Math.max.name, Cond.initialized "java/lang/Math", Cond.code Lib.Math.max.name Lib.Math.max.code 2 (some .int), Cond.methodLink RX1 91 yX1_isAcceptable, Cond.instanceMethod yX1_isAcceptable, Cond.selects RX1 yX1_isAcceptable yX1_isAcceptable, Cond.code yX1_isAcceptable cX1_isAcceptable 5 (some .boolean)]
def wsX1_latestAcceptable_r3 : List Cond := [Cond.fieldLink RX1 12 "LateExcuses$Court" "events" "LLateExcuses$Events;", Cond.methodLink RX1 98 yX1_lateBy, Cond.instanceMethod yX1_lateBy, Cond.selects RX1 yX1_lateBy yX1_lateBy, Cond.code yX1_lateBy cX1_lateBy 2 (some .int), Cond.methodLink RX1 101 yX2_hadIllness, Cond.instanceMethod yX2_hadIllness, Cond.selects RX2 yX2_hadIllness yX2_hadIllness, Cond.initialized RX2, Cond.code yX2_hadIllness cX2_hadIllness 3 (some .boolean), Cond.fieldLink RX2 14 "LateExcuses$Events" "rows" "LLateExcuses$Table;", Cond.methodLink RX2 28 yX5_get, Cond.methodLink RX2 41 yX2_hasOutcome, Cond.instanceMethod yX2_hasOutcome, Cond.selects RX2 yX2_hasOutcome yX2_hasOutcome, Cond.code yX2_hasOutcome cX2_hasOutcome 5 (some .boolean)]
def wsX1_latestAcceptable : List Cond := .code yX1_latestAcceptable cX1_latestAcceptable 5 (some .int) :: ((wsX1_latestAcceptable_r1 ++ (wsX1_latestAcceptable_r2 ++ wsX1_latestAcceptable_r3)) ++ wsX10 ++ wsX40 ++ wsX50 ++ wsX20)
def wsX2_hasCome : List Cond := .code yX2_hasCome cX2_hasCome 2 (some .boolean) :: ([.fieldLink RX2 14 "LateExcuses$Events" "rows" "LLateExcuses$Table;", .methodLink RX2 28 yX5_get, .instanceMethod yX5_get, .selects RX5 yX5_get yX5_get, .initialized RX5, .code yX5_get cX5_get 4 (some .int), .fieldLink RX5 13 "LateExcuses$Table" "rows" "I", .fieldLink RX5 19 "LateExcuses$Table" "columns" "I", .fieldLink RX5 22 "LateExcuses$Table" "cells" "[I"] ++ wsX20 ++ wsX50)
def wsX2_addDouble : List Cond := .code yX2_addDouble cX2_addDouble 1 none :: ([.fieldLink RX2 24 "LateExcuses$Events" "doubles" "I"] ++ wsX20)
def wsX2_enter : List Cond := .code yX2_enter cX2_enter 6 none :: ([.fieldLink RX2 14 "LateExcuses$Events" "rows" "LLateExcuses$Table;", .methodLink RX2 37 yX5_put, .instanceMethod yX5_put, .selects RX5 yX5_put yX5_put, .initialized RX5, .code yX5_put cX5_put 5 none, .fieldLink RX5 13 "LateExcuses$Table" "rows" "I", .fieldLink RX5 19 "LateExcuses$Table" "columns" "I", .fieldLink RX5 22 "LateExcuses$Table" "cells" "[I"] ++ wsX20 ++ wsX50)
def wsX2_conclude : List Cond := .code yX2_conclude cX2_conclude 4 none :: ([.fieldLink RX2 14 "LateExcuses$Events" "rows" "LLateExcuses$Table;", .methodLink RX2 37 yX5_put, .instanceMethod yX5_put, .selects RX5 yX5_put yX5_put, .initialized RX5, .code yX5_put cX5_put 5 none, .fieldLink RX5 13 "LateExcuses$Table" "rows" "I", .fieldLink RX5 19 "LateExcuses$Table" "columns" "I", .fieldLink RX5 22 "LateExcuses$Table" "cells" "[I"] ++ wsX20 ++ wsX50)
def wsX4_rowBehind : List Cond := .code yX4_rowBehind cX4_rowBehind 3 (some .int) :: ([.fieldLink RX4 34 "LateExcuses$Panes" "used" "I", .fieldLink RX4 16 "LateExcuses$Panes" "rows" "LLateExcuses$Table;", .methodLink RX4 38 yX5_get, .instanceMethod yX5_get, .selects RX5 yX5_get yX5_get, .initialized RX5, .code yX5_get cX5_get 4 (some .int), .fieldLink RX5 13 "LateExcuses$Table" "rows" "I", .fieldLink RX5 19 "LateExcuses$Table" "columns" "I", .fieldLink RX5 22 "LateExcuses$Table" "cells" "[I"] ++ wsX40 ++ wsX50)
def wsX5_openRow : List Cond := .code yX5_openRow cX5_openRow 5 none :: ([.fieldLink RX5 13 "LateExcuses$Table" "rows" "I", .fieldLink RX5 19 "LateExcuses$Table" "columns" "I", .fieldLink RX5 22 "LateExcuses$Table" "cells" "[I", .methodLink RX5 26 arraycopyName, .native arraycopyName, .static arraycopyName, .initialized "java/lang/System", .methodLink RX5 32 yX5_put, .instanceMethod yX5_put, .selects RX5 yX5_put yX5_put, .initialized RX5, .code yX5_put cX5_put 5 none] ++ wsX50)
def wsX4_rowMadeFor_r1 : List Cond := [Cond.fieldLink RX4 34 "LateExcuses$Panes" "used" "I", Cond.fieldLink RX4 16 "LateExcuses$Panes" "rows" "LLateExcuses$Table;", Cond.methodLink RX4 42 yX4_rowOf, Cond.instanceMethod yX4_rowOf, Cond.selects RX4 yX4_rowOf yX4_rowOf, Cond.initialized RX4, Cond.code yX4_rowOf cX4_rowOf 3 (some .int), Cond.methodLink RX4 38 yX5_get, Cond.instanceMethod yX5_get, Cond.selects RX5 yX5_get yX5_get, Cond.initialized RX5, Cond.code yX5_get cX5_get 4 (some .int), Cond.fieldLink RX5 13 "LateExcuses$Table" "rows" "I", Cond.fieldLink RX5 19 "LateExcuses$Table" "columns" "I", Cond.fieldLink RX5 22 "LateExcuses$Table" "cells" "[I", Cond.methodLink RX4 46 yX4_rowBehind, Cond.instanceMethod yX4_rowBehind, Cond.selects RX4 yX4_rowBehind yX4_rowBehind, Cond.code yX4_rowBehind cX4_rowBehind 3 (some .int), Cond.methodLink RX4 49 yX5_openRow, Cond.instanceMethod yX5_openRow, Cond.selects RX5 yX5_openRow yX5_openRow, Cond.code yX5_openRow cX5_openRow 5 none, Cond.methodLink RX5 26 arraycopyName]
def wsX4_rowMadeFor_r2 : List Cond := [Cond.native arraycopyName, Cond.static arraycopyName, Cond.initialized "java/lang/System", Cond.methodLink RX5 32 yX5_put, Cond.instanceMethod yX5_put, Cond.selects RX5 yX5_put yX5_put, Cond.code yX5_put cX5_put 5 none, Cond.methodLink RX4 53 yX5_put]
def wsX4_rowMadeFor : List Cond := .code yX4_rowMadeFor cX4_rowMadeFor 3 (some .int) :: ((wsX4_rowMadeFor_r1 ++ wsX4_rowMadeFor_r2) ++ wsX40 ++ wsX50)
def wsX4_isStanding : List Cond := .code yX4_isStanding cX4_isStanding 2 (some .boolean) :: ([.fieldLink RX4 16 "LateExcuses$Panes" "rows" "LLateExcuses$Table;", .methodLink RX4 38 yX5_get, .instanceMethod yX5_get, .selects RX5 yX5_get yX5_get, .initialized RX5, .code yX5_get cX5_get 4 (some .int), .fieldLink RX5 13 "LateExcuses$Table" "rows" "I", .fieldLink RX5 19 "LateExcuses$Table" "columns" "I", .fieldLink RX5 22 "LateExcuses$Table" "cells" "[I"] ++ wsX40 ++ wsX50)
def wsX5_dropFirstRow : List Cond := .code yX5_dropFirstRow cX5_dropFirstRow 1 none :: ([.fieldLink RX5 13 "LateExcuses$Table" "rows" "I", .fieldLink RX5 22 "LateExcuses$Table" "cells" "[I", .fieldLink RX5 19 "LateExcuses$Table" "columns" "I", .methodLink RX5 26 arraycopyName, .native arraycopyName, .static arraycopyName, .initialized "java/lang/System"] ++ wsX50)
def wsX7_add : List Cond := .code yX7_add cX7_add 5 none :: ([.fieldLink RX7 24 "LateExcuses$Words" "kept" "I", .fieldLink RX7 16 "LateExcuses$Words" "rows" "LLateExcuses$Table;", .fieldLink RX7 28 "LateExcuses$Words" "told" "I", .fieldLink RX7 31 "LateExcuses$Words" "takenBack" "I", .methodLink RX7 39 yX5_dropFirstRow, .instanceMethod yX5_dropFirstRow, .selects RX5 yX5_dropFirstRow yX5_dropFirstRow, .initialized RX5, .code yX5_dropFirstRow cX5_dropFirstRow 1 none, .fieldLink RX5 13 "LateExcuses$Table" "rows" "I", .fieldLink RX5 22 "LateExcuses$Table" "cells" "[I", .fieldLink RX5 19 "LateExcuses$Table" "columns" "I", .methodLink RX5 26 arraycopyName, .native arraycopyName, .static arraycopyName, .initialized "java/lang/System", .methodLink RX7 42 yX5_put, .instanceMethod yX5_put, .selects RX5 yX5_put yX5_put, .code yX5_put cX5_put 5 none] ++ wsX70 ++ wsX50)
def wsX4_takeBack_r1 : List Cond := [Cond.fieldLink RX4 16 "LateExcuses$Panes" "rows" "LLateExcuses$Table;", Cond.fieldLink RX4 23 "LateExcuses$Panes" "words" "LLateExcuses$Words;", Cond.methodLink RX4 58 yX4_isStanding, Cond.instanceMethod yX4_isStanding, Cond.selects RX4 yX4_isStanding yX4_isStanding, Cond.initialized RX4, Cond.code yX4_isStanding cX4_isStanding 2 (some .boolean), Cond.methodLink RX4 38 yX5_get, Cond.instanceMethod yX5_get, Cond.selects RX5 yX5_get yX5_get, Cond.initialized RX5, Cond.code yX5_get cX5_get 4 (some .int), Cond.fieldLink RX5 13 "LateExcuses$Table" "rows" "I", Cond.fieldLink RX5 19 "LateExcuses$Table" "columns" "I", Cond.fieldLink RX5 22 "LateExcuses$Table" "cells" "[I", Cond.methodLink RX4 53 yX5_put, Cond.instanceMethod yX5_put, Cond.selects RX5 yX5_put yX5_put, Cond.code yX5_put cX5_put 5 none, Cond.methodLink RX4 75 yX7_add, Cond.instanceMethod yX7_add, Cond.selects RX7 yX7_add yX7_add, Cond.initialized RX7, Cond.code yX7_add cX7_add 5 none]
def wsX4_takeBack_r2 : List Cond := [Cond.fieldLink RX7 24 "LateExcuses$Words" "kept" "I", Cond.fieldLink RX7 16 "LateExcuses$Words" "rows" "LLateExcuses$Table;", Cond.fieldLink RX7 28 "LateExcuses$Words" "told" "I", Cond.fieldLink RX7 31 "LateExcuses$Words" "takenBack" "I", Cond.methodLink RX7 39 yX5_dropFirstRow, Cond.instanceMethod yX5_dropFirstRow, Cond.selects RX5 yX5_dropFirstRow yX5_dropFirstRow, Cond.code yX5_dropFirstRow cX5_dropFirstRow 1 none, Cond.methodLink RX5 26 arraycopyName, Cond.native arraycopyName, Cond.static arraycopyName, Cond.initialized "java/lang/System", Cond.methodLink RX7 42 yX5_put]
def wsX4_takeBack : List Cond := .code yX4_takeBack cX4_takeBack 3 none :: ((wsX4_takeBack_r1 ++ wsX4_takeBack_r2) ++ wsX40 ++ wsX50 ++ wsX70)
def wsX4_reopen_r1 : List Cond := [Cond.fieldLink RX4 16 "LateExcuses$Panes" "rows" "LLateExcuses$Table;", Cond.methodLink RX4 62 yX4_rowMadeFor, Cond.instanceMethod yX4_rowMadeFor, Cond.selects RX4 yX4_rowMadeFor yX4_rowMadeFor, Cond.initialized RX4, Cond.code yX4_rowMadeFor cX4_rowMadeFor 3 (some .int), Cond.fieldLink RX4 34 "LateExcuses$Panes" "used" "I", Cond.methodLink RX4 42 yX4_rowOf, Cond.instanceMethod yX4_rowOf, Cond.selects RX4 yX4_rowOf yX4_rowOf, Cond.code yX4_rowOf cX4_rowOf 3 (some .int), Cond.methodLink RX4 38 yX5_get, Cond.instanceMethod yX5_get, Cond.selects RX5 yX5_get yX5_get, Cond.initialized RX5, Cond.code yX5_get cX5_get 4 (some .int), Cond.fieldLink RX5 13 "LateExcuses$Table" "rows" "I", Cond.fieldLink RX5 19 "LateExcuses$Table" "columns" "I", Cond.fieldLink RX5 22 "LateExcuses$Table" "cells" "[I", Cond.methodLink RX4 46 yX4_rowBehind, Cond.instanceMethod yX4_rowBehind, Cond.selects RX4 yX4_rowBehind yX4_rowBehind, Cond.code yX4_rowBehind cX4_rowBehind 3 (some .int), Cond.methodLink RX4 49 yX5_openRow]
def wsX4_reopen_r2 : List Cond := [Cond.instanceMethod yX5_openRow, Cond.selects RX5 yX5_openRow yX5_openRow, Cond.code yX5_openRow cX5_openRow 5 none, Cond.methodLink RX5 26 arraycopyName, Cond.native arraycopyName, Cond.static arraycopyName, Cond.initialized "java/lang/System", Cond.methodLink RX5 32 yX5_put, Cond.instanceMethod yX5_put, Cond.selects RX5 yX5_put yX5_put, Cond.code yX5_put cX5_put 5 none, Cond.methodLink RX4 53 yX5_put, Cond.methodLink RX4 65 yX4_takeBack, Cond.instanceMethod yX4_takeBack, Cond.selects RX4 yX4_takeBack yX4_takeBack, Cond.code yX4_takeBack cX4_takeBack 3 none, Cond.fieldLink RX4 23 "LateExcuses$Panes" "words" "LLateExcuses$Words;", Cond.methodLink RX4 58 yX4_isStanding, Cond.instanceMethod yX4_isStanding, Cond.selects RX4 yX4_isStanding yX4_isStanding, Cond.code yX4_isStanding cX4_isStanding 2 (some .boolean), Cond.methodLink RX4 75 yX7_add, Cond.instanceMethod yX7_add, Cond.selects RX7 yX7_add yX7_add]
def wsX4_reopen_r3 : List Cond := [Cond.initialized RX7, Cond.code yX7_add cX7_add 5 none, Cond.fieldLink RX7 24 "LateExcuses$Words" "kept" "I", Cond.fieldLink RX7 16 "LateExcuses$Words" "rows" "LLateExcuses$Table;", Cond.fieldLink RX7 28 "LateExcuses$Words" "told" "I", Cond.fieldLink RX7 31 "LateExcuses$Words" "takenBack" "I", Cond.methodLink RX7 39 yX5_dropFirstRow, Cond.instanceMethod yX5_dropFirstRow, Cond.selects RX5 yX5_dropFirstRow yX5_dropFirstRow, Cond.code yX5_dropFirstRow cX5_dropFirstRow 1 none, Cond.methodLink RX7 42 yX5_put]
def wsX4_reopen : List Cond := .code yX4_reopen cX4_reopen 4 none :: ((wsX4_reopen_r1 ++ (wsX4_reopen_r2 ++ wsX4_reopen_r3)) ++ wsX40 ++ wsX50 ++ wsX70)
def wsX4_add_r1 : List Cond := [Cond.fieldLink RX4 16 "LateExcuses$Panes" "rows" "LLateExcuses$Table;", Cond.methodLink RX4 62 yX4_rowMadeFor, Cond.instanceMethod yX4_rowMadeFor, Cond.selects RX4 yX4_rowMadeFor yX4_rowMadeFor, Cond.initialized RX4, Cond.code yX4_rowMadeFor cX4_rowMadeFor 3 (some .int), Cond.fieldLink RX4 34 "LateExcuses$Panes" "used" "I", Cond.methodLink RX4 42 yX4_rowOf, Cond.instanceMethod yX4_rowOf, Cond.selects RX4 yX4_rowOf yX4_rowOf, Cond.code yX4_rowOf cX4_rowOf 3 (some .int), Cond.methodLink RX4 38 yX5_get, Cond.instanceMethod yX5_get, Cond.selects RX5 yX5_get yX5_get, Cond.initialized RX5, Cond.code yX5_get cX5_get 4 (some .int), Cond.fieldLink RX5 13 "LateExcuses$Table" "rows" "I", Cond.fieldLink RX5 19 "LateExcuses$Table" "columns" "I", Cond.fieldLink RX5 22 "LateExcuses$Table" "cells" "[I", Cond.methodLink RX4 46 yX4_rowBehind, Cond.instanceMethod yX4_rowBehind, Cond.selects RX4 yX4_rowBehind yX4_rowBehind, Cond.code yX4_rowBehind cX4_rowBehind 3 (some .int), Cond.methodLink RX4 49 yX5_openRow]
def wsX4_add_r2 : List Cond := [Cond.instanceMethod yX5_openRow, Cond.selects RX5 yX5_openRow yX5_openRow, Cond.code yX5_openRow cX5_openRow 5 none, Cond.methodLink RX5 26 arraycopyName, Cond.native arraycopyName, Cond.static arraycopyName, Cond.initialized "java/lang/System", Cond.methodLink RX5 32 yX5_put, Cond.instanceMethod yX5_put, Cond.selects RX5 yX5_put yX5_put, Cond.code yX5_put cX5_put 5 none, Cond.methodLink RX4 53 yX5_put]
def wsX4_add : List Cond := .code yX4_add cX4_add 5 none :: ((wsX4_add_r1 ++ wsX4_add_r2) ++ wsX40 ++ wsX50)
def wsX4_tellWord_r1 : List Cond := [Cond.fieldLink RX4 16 "LateExcuses$Panes" "rows" "LLateExcuses$Table;", Cond.fieldLink RX4 23 "LateExcuses$Panes" "words" "LLateExcuses$Words;", Cond.methodLink RX4 38 yX5_get, Cond.instanceMethod yX5_get, Cond.selects RX5 yX5_get yX5_get, Cond.initialized RX5, Cond.code yX5_get cX5_get 4 (some .int), Cond.fieldLink RX5 13 "LateExcuses$Table" "rows" "I", Cond.fieldLink RX5 19 "LateExcuses$Table" "columns" "I", Cond.fieldLink RX5 22 "LateExcuses$Table" "cells" "[I", Cond.methodLink RX4 53 yX5_put, Cond.instanceMethod yX5_put, Cond.selects RX5 yX5_put yX5_put, Cond.code yX5_put cX5_put 5 none, Cond.methodLink RX4 75 yX7_add, Cond.instanceMethod yX7_add, Cond.selects RX7 yX7_add yX7_add, Cond.initialized RX7, Cond.code yX7_add cX7_add 5 none, Cond.fieldLink RX7 24 "LateExcuses$Words" "kept" "I", Cond.fieldLink RX7 16 "LateExcuses$Words" "rows" "LLateExcuses$Table;", Cond.fieldLink RX7 28 "LateExcuses$Words" "told" "I", Cond.fieldLink RX7 31 "LateExcuses$Words" "takenBack" "I", Cond.methodLink RX7 39 yX5_dropFirstRow]
def wsX4_tellWord_r2 : List Cond := [Cond.instanceMethod yX5_dropFirstRow, Cond.selects RX5 yX5_dropFirstRow yX5_dropFirstRow, Cond.code yX5_dropFirstRow cX5_dropFirstRow 1 none, Cond.methodLink RX5 26 arraycopyName, Cond.native arraycopyName, Cond.static arraycopyName, Cond.initialized "java/lang/System", Cond.methodLink RX7 42 yX5_put]
def wsX4_tellWord : List Cond := .code yX4_tellWord cX4_tellWord 3 none :: ((wsX4_tellWord_r1 ++ wsX4_tellWord_r2) ++ wsX40 ++ wsX50 ++ wsX70)
def wsX4_shutAndClose_r1 : List Cond := [Cond.fieldLink RX4 34 "LateExcuses$Panes" "used" "I", Cond.fieldLink RX4 16 "LateExcuses$Panes" "rows" "LLateExcuses$Table;", Cond.methodLink RX4 38 yX5_get, Cond.instanceMethod yX5_get, Cond.selects RX5 yX5_get yX5_get, Cond.initialized RX5, Cond.code yX5_get cX5_get 4 (some .int), Cond.fieldLink RX5 13 "LateExcuses$Table" "rows" "I", Cond.fieldLink RX5 19 "LateExcuses$Table" "columns" "I", Cond.fieldLink RX5 22 "LateExcuses$Table" "cells" "[I", Cond.static yX8_isWithin, Cond.initialized RX8, Cond.code yX8_isWithin cX8_isWithin 3 (some .boolean), Cond.methodLink RX4 72 yX4_tellWord, Cond.instanceMethod yX4_tellWord, Cond.selects RX4 yX4_tellWord yX4_tellWord, Cond.initialized RX4, Cond.code yX4_tellWord cX4_tellWord 3 none, Cond.fieldLink RX4 23 "LateExcuses$Panes" "words" "LLateExcuses$Words;", Cond.methodLink RX4 53 yX5_put, Cond.instanceMethod yX5_put, Cond.selects RX5 yX5_put yX5_put, Cond.code yX5_put cX5_put 5 none, Cond.methodLink RX4 75 yX7_add]
def wsX4_shutAndClose_r2 : List Cond := [Cond.instanceMethod yX7_add, Cond.selects RX7 yX7_add yX7_add, Cond.initialized RX7, Cond.code yX7_add cX7_add 5 none, Cond.fieldLink RX7 24 "LateExcuses$Words" "kept" "I", Cond.fieldLink RX7 16 "LateExcuses$Words" "rows" "LLateExcuses$Table;", Cond.fieldLink RX7 28 "LateExcuses$Words" "told" "I", Cond.fieldLink RX7 31 "LateExcuses$Words" "takenBack" "I", Cond.methodLink RX7 39 yX5_dropFirstRow, Cond.instanceMethod yX5_dropFirstRow, Cond.selects RX5 yX5_dropFirstRow yX5_dropFirstRow, Cond.code yX5_dropFirstRow cX5_dropFirstRow 1 none, Cond.methodLink RX5 26 arraycopyName, Cond.native arraycopyName, Cond.static arraycopyName, Cond.initialized "java/lang/System", Cond.methodLink RX7 42 yX5_put]
def wsX4_shutAndClose : List Cond := .code yX4_shutAndClose cX4_shutAndClose 6 none :: ((wsX4_shutAndClose_r1 ++ wsX4_shutAndClose_r2) ++ wsX40 ++ wsX50 ++ wsX70)
def wsX1_raiseWatermark_r1 : List Cond := [Cond.fieldLink RX1 42 "LateExcuses$Court" "watermark" "I", Cond.methodLink RX1 109 Lib.Math.max.name, Cond.static Lib.Math.max.name, Cond.initialized "java/lang/Math", Cond.code Lib.Math.max.name Lib.Math.max.code 2 (some .int), Cond.fieldLink RX1 21 "LateExcuses$Court" "panes" "LLateExcuses$Panes;", Cond.methodLink RX1 85 yX1_paneAt, Cond.instanceMethod yX1_paneAt, Cond.selects RX1 yX1_paneAt yX1_paneAt, Cond.initialized RX1, Cond.code yX1_paneAt cX1_paneAt 2 (some .int), Cond.fieldLink RX1 32 "LateExcuses$Court" "size" "I", Cond.methodLink RX1 145 yX4_shutAndClose, Cond.instanceMethod yX4_shutAndClose, Cond.selects RX4 yX4_shutAndClose yX4_shutAndClose, Cond.initialized RX4, Cond.code yX4_shutAndClose cX4_shutAndClose 6 none, Cond.fieldLink RX4 34 "LateExcuses$Panes" "used" "I", Cond.fieldLink RX4 16 "LateExcuses$Panes" "rows" "LLateExcuses$Table;", Cond.methodLink RX4 38 yX5_get, Cond.instanceMethod yX5_get, Cond.selects RX5 yX5_get yX5_get, Cond.initialized RX5, Cond.code yX5_get cX5_get 4 (some .int)]
def wsX1_raiseWatermark_r2 : List Cond := [Cond.fieldLink RX5 13 "LateExcuses$Table" "rows" "I", Cond.fieldLink RX5 19 "LateExcuses$Table" "columns" "I", Cond.fieldLink RX5 22 "LateExcuses$Table" "cells" "[I", Cond.static yX8_isWithin, Cond.initialized RX8, Cond.code yX8_isWithin cX8_isWithin 3 (some .boolean), Cond.methodLink RX4 72 yX4_tellWord, Cond.instanceMethod yX4_tellWord, Cond.selects RX4 yX4_tellWord yX4_tellWord, Cond.code yX4_tellWord cX4_tellWord 3 none, Cond.fieldLink RX4 23 "LateExcuses$Panes" "words" "LLateExcuses$Words;", Cond.methodLink RX4 53 yX5_put, Cond.instanceMethod yX5_put, Cond.selects RX5 yX5_put yX5_put, Cond.code yX5_put cX5_put 5 none, Cond.methodLink RX4 75 yX7_add, Cond.instanceMethod yX7_add, Cond.selects RX7 yX7_add yX7_add, Cond.initialized RX7, Cond.code yX7_add cX7_add 5 none, Cond.fieldLink RX7 24 "LateExcuses$Words" "kept" "I", Cond.fieldLink RX7 16 "LateExcuses$Words" "rows" "LLateExcuses$Table;", Cond.fieldLink RX7 28 "LateExcuses$Words" "told" "I", Cond.fieldLink RX7 31 "LateExcuses$Words" "takenBack" "I"]
def wsX1_raiseWatermark_r3 : List Cond := [Cond.methodLink RX7 39 yX5_dropFirstRow, Cond.instanceMethod yX5_dropFirstRow, Cond.selects RX5 yX5_dropFirstRow yX5_dropFirstRow, Cond.code yX5_dropFirstRow cX5_dropFirstRow 1 none, Cond.methodLink RX5 26 arraycopyName, Cond.native arraycopyName, Cond.static arraycopyName, Cond.initialized "java/lang/System", Cond.methodLink RX7 42 yX5_put]
def wsX1_raiseWatermark : List Cond := .code yX1_raiseWatermark cX1_raiseWatermark 3 none :: ((wsX1_raiseWatermark_r1 ++ (wsX1_raiseWatermark_r2 ++ wsX1_raiseWatermark_r3)) ++ wsX10 ++ wsX40 ++ wsX50 ++ wsX70)
def wsX1_admit_r1 : List Cond := [Cond.fieldLink RX1 12 "LateExcuses$Court" "events" "LLateExcuses$Events;", Cond.fieldLink RX1 28 "LateExcuses$Court" "cabinets" "LLateExcuses$Cabinets;", Cond.fieldLink RX1 21 "LateExcuses$Court" "panes" "LLateExcuses$Panes;", Cond.fieldLink RX1 42 "LateExcuses$Court" "watermark" "I", Cond.fieldLink RX1 39 "LateExcuses$Court" "grace" "I", Cond.fieldLink RX1 45 "LateExcuses$Court" "latest" "I", Cond.fieldLink RX1 36 "LateExcuses$Court" "lag" "I", Cond.methodLink RX1 114 yX2_hasCome, Cond.instanceMethod yX2_hasCome, Cond.selects RX2 yX2_hasCome yX2_hasCome, Cond.initialized RX2, Cond.code yX2_hasCome cX2_hasCome 2 (some .boolean), Cond.fieldLink RX2 14 "LateExcuses$Events" "rows" "LLateExcuses$Table;", Cond.methodLink RX2 28 yX5_get, Cond.instanceMethod yX5_get, Cond.selects RX5 yX5_get yX5_get, Cond.initialized RX5, Cond.code yX5_get cX5_get 4 (some .int), Cond.fieldLink RX5 13 "LateExcuses$Table" "rows" "I", Cond.fieldLink RX5 19 "LateExcuses$Table" "columns" "I", Cond.fieldLink RX5 22 "LateExcuses$Table" "cells" "[I", Cond.methodLink RX1 117 yX2_addDouble, Cond.instanceMethod yX2_addDouble, Cond.selects RX2 yX2_addDouble yX2_addDouble]
def wsX1_admit_r2 : List Cond := [Cond.code yX2_addDouble cX2_addDouble 1 none, Cond.fieldLink RX2 24 "LateExcuses$Events" "doubles" "I", Cond.methodLink RX1 120 yX1_verdict, Cond.instanceMethod yX1_verdict, Cond.selects RX1 yX1_verdict yX1_verdict, Cond.initialized RX1, Cond.code yX1_verdict cX1_verdict 6 (some .int), Cond.methodLink RX1 85 yX1_paneAt, Cond.instanceMethod yX1_paneAt, Cond.selects RX1 yX1_paneAt yX1_paneAt, Cond.code yX1_paneAt cX1_paneAt 2 (some .int), Cond.fieldLink RX1 32 "LateExcuses$Court" "size" "I", Cond.methodLink RX1 88 yX1_stateOf, Cond.instanceMethod yX1_stateOf, Cond.selects RX1 yX1_stateOf yX1_stateOf, Cond.code yX1_stateOf cX1_stateOf 3 (some .int), Cond.methodLink RX1 79 yX4_read, Cond.instanceMethod yX4_read, Cond.selects RX4 yX4_read yX4_read, Cond.initialized RX4, Cond.code yX4_read cX4_read 3 (some .int), Cond.fieldLink RX4 16 "LateExcuses$Panes" "rows" "LLateExcuses$Table;", Cond.methodLink RX4 42 yX4_rowOf, Cond.instanceMethod yX4_rowOf]
def wsX1_admit_r3 : List Cond := [Cond.selects RX4 yX4_rowOf yX4_rowOf, Cond.code yX4_rowOf cX4_rowOf 3 (some .int), Cond.fieldLink RX4 34 "LateExcuses$Panes" "used" "I", Cond.methodLink RX4 38 yX5_get, Cond.methodLink RX1 82 yX1_endOf, Cond.instanceMethod yX1_endOf, Cond.selects RX1 yX1_endOf yX1_endOf, Cond.code yX1_endOf cX1_endOf 2 (some .int), Cond.methodLink RX1 91 yX1_isAcceptable, Cond.instanceMethod yX1_isAcceptable, Cond.selects RX1 yX1_isAcceptable yX1_isAcceptable, Cond.code yX1_isAcceptable cX1_isAcceptable 5 (some .boolean), Cond.methodLink RX1 98 yX1_lateBy, Cond.instanceMethod yX1_lateBy, Cond.selects RX1 yX1_lateBy yX1_lateBy, Cond.code yX1_lateBy cX1_lateBy 2 (some .int), Cond.methodLink RX1 101 yX2_hadIllness, Cond.instanceMethod yX2_hadIllness, Cond.selects RX2 yX2_hadIllness yX2_hadIllness, Cond.code yX2_hadIllness cX2_hadIllness 3 (some .boolean), Cond.methodLink RX2 41 yX2_hasOutcome, Cond.instanceMethod yX2_hasOutcome, Cond.selects RX2 yX2_hasOutcome yX2_hasOutcome, Cond.code yX2_hasOutcome cX2_hasOutcome 5 (some .boolean)]
def wsX1_admit_r4 : List Cond := [Cond.methodLink RX1 94 yX0_hasPlaceFor, Cond.instanceMethod yX0_hasPlaceFor, Cond.selects RX0 yX0_hasPlaceFor yX0_hasPlaceFor, Cond.initialized RX0, Cond.code yX0_hasPlaceFor cX0_hasPlaceFor 2 (some .boolean), Cond.methodLink RX0 29 yX0_cabinetFor, Cond.instanceMethod yX0_cabinetFor, Cond.selects RX0 yX0_cabinetFor yX0_cabinetFor, Cond.code yX0_cabinetFor cX0_cabinetFor 2 (some .int), Cond.methodLink RX0 33 yX0_isFull, Cond.instanceMethod yX0_isFull, Cond.selects RX0 yX0_isFull yX0_isFull, Cond.code yX0_isFull cX0_isFull 2 (some .boolean), Cond.fieldLink RX0 16 "LateExcuses$Cabinets" "rows" "LLateExcuses$Table;", Cond.methodLink RX0 24 yX5_get, Cond.methodLink RX1 123 yX2_enter, Cond.instanceMethod yX2_enter, Cond.selects RX2 yX2_enter yX2_enter, Cond.code yX2_enter cX2_enter 6 none, Cond.methodLink RX2 37 yX5_put, Cond.instanceMethod yX5_put, Cond.selects RX5 yX5_put yX5_put, Cond.code yX5_put cX5_put 5 none, Cond.methodLink RX1 127 yX2_conclude]
def wsX1_admit_r5 : List Cond := [Cond.instanceMethod yX2_conclude, Cond.selects RX2 yX2_conclude yX2_conclude, Cond.code yX2_conclude cX2_conclude 4 none, Cond.methodLink RX1 131 yX0_file, Cond.instanceMethod yX0_file, Cond.selects RX0 yX0_file yX0_file, Cond.code yX0_file cX0_file 5 none, Cond.methodLink RX0 37 yX5_put, Cond.methodLink RX1 135 yX4_reopen, Cond.instanceMethod yX4_reopen, Cond.selects RX4 yX4_reopen yX4_reopen, Cond.code yX4_reopen cX4_reopen 4 none, Cond.methodLink RX4 62 yX4_rowMadeFor, Cond.instanceMethod yX4_rowMadeFor, Cond.selects RX4 yX4_rowMadeFor yX4_rowMadeFor, Cond.code yX4_rowMadeFor cX4_rowMadeFor 3 (some .int), Cond.methodLink RX4 46 yX4_rowBehind, Cond.instanceMethod yX4_rowBehind, Cond.selects RX4 yX4_rowBehind yX4_rowBehind, Cond.code yX4_rowBehind cX4_rowBehind 3 (some .int), Cond.methodLink RX4 49 yX5_openRow, Cond.instanceMethod yX5_openRow, Cond.selects RX5 yX5_openRow yX5_openRow, Cond.code yX5_openRow cX5_openRow 5 none]
def wsX1_admit_r6 : List Cond := [Cond.methodLink RX5 26 arraycopyName, Cond.native arraycopyName, Cond.static arraycopyName, Cond.initialized "java/lang/System", Cond.methodLink RX5 32 yX5_put, Cond.methodLink RX4 53 yX5_put, Cond.methodLink RX4 65 yX4_takeBack, Cond.instanceMethod yX4_takeBack, Cond.selects RX4 yX4_takeBack yX4_takeBack, Cond.code yX4_takeBack cX4_takeBack 3 none, Cond.fieldLink RX4 23 "LateExcuses$Panes" "words" "LLateExcuses$Words;", Cond.methodLink RX4 58 yX4_isStanding, Cond.instanceMethod yX4_isStanding, Cond.selects RX4 yX4_isStanding yX4_isStanding, Cond.code yX4_isStanding cX4_isStanding 2 (some .boolean), Cond.methodLink RX4 75 yX7_add, Cond.instanceMethod yX7_add, Cond.selects RX7 yX7_add yX7_add, Cond.initialized RX7, Cond.code yX7_add cX7_add 5 none, Cond.fieldLink RX7 24 "LateExcuses$Words" "kept" "I", Cond.fieldLink RX7 16 "LateExcuses$Words" "rows" "LLateExcuses$Table;", Cond.fieldLink RX7 28 "LateExcuses$Words" "told" "I", Cond.fieldLink RX7 31 "LateExcuses$Words" "takenBack" "I"]
def wsX1_admit_r7 : List Cond := [Cond.methodLink RX7 39 yX5_dropFirstRow, Cond.instanceMethod yX5_dropFirstRow, Cond.selects RX5 yX5_dropFirstRow yX5_dropFirstRow, Cond.code yX5_dropFirstRow cX5_dropFirstRow 1 none, Cond.methodLink RX7 42 yX5_put, Cond.methodLink RX1 138 yX4_add, Cond.instanceMethod yX4_add, Cond.selects RX4 yX4_add yX4_add, Cond.code yX4_add cX4_add 5 none, Cond.methodLink RX1 141 yX1_raiseWatermark, Cond.instanceMethod yX1_raiseWatermark, Cond.selects RX1 yX1_raiseWatermark yX1_raiseWatermark, Cond.code yX1_raiseWatermark cX1_raiseWatermark 3 none, Cond.methodLink RX1 109 Lib.Math.max.name, Cond.static Lib.Math.max.name, Cond.initialized "java/lang/Math", Cond.code Lib.Math.max.name Lib.Math.max.code 2 (some .int), Cond.methodLink RX1 145 yX4_shutAndClose, Cond.instanceMethod yX4_shutAndClose, Cond.selects RX4 yX4_shutAndClose yX4_shutAndClose, Cond.code yX4_shutAndClose cX4_shutAndClose 6 none, Cond.static yX8_isWithin, Cond.initialized RX8, Cond.code yX8_isWithin cX8_isWithin 3 (some .boolean)]
def wsX1_admit_r8 : List Cond := [Cond.methodLink RX4 72 yX4_tellWord, Cond.instanceMethod yX4_tellWord, Cond.selects RX4 yX4_tellWord yX4_tellWord, Cond.code yX4_tellWord cX4_tellWord 3 none]
def wsX1_admit : List Cond := .code yX1_admit cX1_admit 8 (some .int) :: ((wsX1_admit_r1 ++ (wsX1_admit_r2 ++ (wsX1_admit_r3 ++ (wsX1_admit_r4 ++ (wsX1_admit_r5 ++ (wsX1_admit_r6 ++ (wsX1_admit_r7 ++ wsX1_admit_r8))))))) ++ wsX10 ++ wsX20 ++ wsX50 ++ wsX40 ++ wsX00 ++ wsX70)
def wsX1_canMoveBack : List Cond := .code yX1_canMoveBack cX1_canMoveBack 1 (some .boolean) :: ([.fieldLink RX1 58 "LateExcuses$Court" "moved" "Z", .fieldLink RX1 42 "LateExcuses$Court" "watermark" "I"] ++ wsX10)
def wsX4_takeBackWord_r1 : List Cond := [Cond.methodLink RX4 42 yX4_rowOf, Cond.instanceMethod yX4_rowOf, Cond.selects RX4 yX4_rowOf yX4_rowOf, Cond.initialized RX4, Cond.code yX4_rowOf cX4_rowOf 3 (some .int), Cond.fieldLink RX4 34 "LateExcuses$Panes" "used" "I", Cond.fieldLink RX4 16 "LateExcuses$Panes" "rows" "LLateExcuses$Table;", Cond.methodLink RX4 38 yX5_get, Cond.instanceMethod yX5_get, Cond.selects RX5 yX5_get yX5_get, Cond.initialized RX5, Cond.code yX5_get cX5_get 4 (some .int), Cond.fieldLink RX5 13 "LateExcuses$Table" "rows" "I", Cond.fieldLink RX5 19 "LateExcuses$Table" "columns" "I", Cond.fieldLink RX5 22 "LateExcuses$Table" "cells" "[I", Cond.methodLink RX4 65 yX4_takeBack, Cond.instanceMethod yX4_takeBack, Cond.selects RX4 yX4_takeBack yX4_takeBack, Cond.code yX4_takeBack cX4_takeBack 3 none, Cond.fieldLink RX4 23 "LateExcuses$Panes" "words" "LLateExcuses$Words;", Cond.methodLink RX4 58 yX4_isStanding, Cond.instanceMethod yX4_isStanding, Cond.selects RX4 yX4_isStanding yX4_isStanding, Cond.code yX4_isStanding cX4_isStanding 2 (some .boolean)]
def wsX4_takeBackWord_r2 : List Cond := [Cond.methodLink RX4 53 yX5_put, Cond.instanceMethod yX5_put, Cond.selects RX5 yX5_put yX5_put, Cond.code yX5_put cX5_put 5 none, Cond.methodLink RX4 75 yX7_add, Cond.instanceMethod yX7_add, Cond.selects RX7 yX7_add yX7_add, Cond.initialized RX7, Cond.code yX7_add cX7_add 5 none, Cond.fieldLink RX7 24 "LateExcuses$Words" "kept" "I", Cond.fieldLink RX7 16 "LateExcuses$Words" "rows" "LLateExcuses$Table;", Cond.fieldLink RX7 28 "LateExcuses$Words" "told" "I", Cond.fieldLink RX7 31 "LateExcuses$Words" "takenBack" "I", Cond.methodLink RX7 39 yX5_dropFirstRow, Cond.instanceMethod yX5_dropFirstRow, Cond.selects RX5 yX5_dropFirstRow yX5_dropFirstRow, Cond.code yX5_dropFirstRow cX5_dropFirstRow 1 none, Cond.methodLink RX5 26 arraycopyName, Cond.native arraycopyName, Cond.static arraycopyName, Cond.initialized "java/lang/System", Cond.methodLink RX7 42 yX5_put]
def wsX4_takeBackWord : List Cond := .code yX4_takeBackWord cX4_takeBackWord 2 none :: ((wsX4_takeBackWord_r1 ++ wsX4_takeBackWord_r2) ++ wsX40 ++ wsX50 ++ wsX70)
def wsX1_moveBack_r1 : List Cond := [Cond.fieldLink RX1 42 "LateExcuses$Court" "watermark" "I", Cond.methodLink RX1 109 Lib.Math.max.name, Cond.static Lib.Math.max.name, Cond.initialized "java/lang/Math", Cond.code Lib.Math.max.name Lib.Math.max.code 2 (some .int), Cond.fieldLink RX1 21 "LateExcuses$Court" "panes" "LLateExcuses$Panes;", Cond.fieldLink RX1 58 "LateExcuses$Court" "moved" "Z", Cond.methodLink RX1 85 yX1_paneAt, Cond.instanceMethod yX1_paneAt, Cond.selects RX1 yX1_paneAt yX1_paneAt, Cond.initialized RX1, Cond.code yX1_paneAt cX1_paneAt 2 (some .int), Cond.fieldLink RX1 32 "LateExcuses$Court" "size" "I", Cond.methodLink RX1 88 yX1_stateOf, Cond.instanceMethod yX1_stateOf, Cond.selects RX1 yX1_stateOf yX1_stateOf, Cond.code yX1_stateOf cX1_stateOf 3 (some .int), Cond.methodLink RX1 79 yX4_read, Cond.instanceMethod yX4_read, Cond.selects RX4 yX4_read yX4_read, Cond.initialized RX4, Cond.code yX4_read cX4_read 3 (some .int), Cond.fieldLink RX4 16 "LateExcuses$Panes" "rows" "LLateExcuses$Table;", Cond.methodLink RX4 42 yX4_rowOf]
def wsX1_moveBack_r2 : List Cond := [Cond.instanceMethod yX4_rowOf, Cond.selects RX4 yX4_rowOf yX4_rowOf, Cond.code yX4_rowOf cX4_rowOf 3 (some .int), Cond.fieldLink RX4 34 "LateExcuses$Panes" "used" "I", Cond.methodLink RX4 38 yX5_get, Cond.instanceMethod yX5_get, Cond.selects RX5 yX5_get yX5_get, Cond.initialized RX5, Cond.code yX5_get cX5_get 4 (some .int), Cond.fieldLink RX5 13 "LateExcuses$Table" "rows" "I", Cond.fieldLink RX5 19 "LateExcuses$Table" "columns" "I", Cond.fieldLink RX5 22 "LateExcuses$Table" "cells" "[I", Cond.methodLink RX1 82 yX1_endOf, Cond.instanceMethod yX1_endOf, Cond.selects RX1 yX1_endOf yX1_endOf, Cond.code yX1_endOf cX1_endOf 2 (some .int), Cond.methodLink RX1 148 yX4_takeBackWord, Cond.instanceMethod yX4_takeBackWord, Cond.selects RX4 yX4_takeBackWord yX4_takeBackWord, Cond.code yX4_takeBackWord cX4_takeBackWord 2 none, Cond.methodLink RX4 65 yX4_takeBack, Cond.instanceMethod yX4_takeBack, Cond.selects RX4 yX4_takeBack yX4_takeBack, Cond.code yX4_takeBack cX4_takeBack 3 none]
def wsX1_moveBack_r3 : List Cond := [Cond.fieldLink RX4 23 "LateExcuses$Panes" "words" "LLateExcuses$Words;", Cond.methodLink RX4 58 yX4_isStanding, Cond.instanceMethod yX4_isStanding, Cond.selects RX4 yX4_isStanding yX4_isStanding, Cond.code yX4_isStanding cX4_isStanding 2 (some .boolean), Cond.methodLink RX4 53 yX5_put, Cond.instanceMethod yX5_put, Cond.selects RX5 yX5_put yX5_put, Cond.code yX5_put cX5_put 5 none, Cond.methodLink RX4 75 yX7_add, Cond.instanceMethod yX7_add, Cond.selects RX7 yX7_add yX7_add, Cond.initialized RX7, Cond.code yX7_add cX7_add 5 none, Cond.fieldLink RX7 24 "LateExcuses$Words" "kept" "I", Cond.fieldLink RX7 16 "LateExcuses$Words" "rows" "LLateExcuses$Table;", Cond.fieldLink RX7 28 "LateExcuses$Words" "told" "I", Cond.fieldLink RX7 31 "LateExcuses$Words" "takenBack" "I", Cond.methodLink RX7 39 yX5_dropFirstRow, Cond.instanceMethod yX5_dropFirstRow, Cond.selects RX5 yX5_dropFirstRow yX5_dropFirstRow, Cond.code yX5_dropFirstRow cX5_dropFirstRow 1 none, Cond.methodLink RX5 26 arraycopyName, Cond.native arraycopyName]
def wsX1_moveBack_r4 : List Cond := [Cond.static arraycopyName, Cond.initialized "java/lang/System", Cond.methodLink RX7 42 yX5_put]
def wsX1_moveBack : List Cond := .code yX1_moveBack cX1_moveBack 6 (some .int) :: ((wsX1_moveBack_r1 ++ (wsX1_moveBack_r2 ++ (wsX1_moveBack_r3 ++ wsX1_moveBack_r4))) ++ wsX10 ++ wsX40 ++ wsX50 ++ wsX70)
def wsX2_read : List Cond := .code yX2_read cX2_read 3 (some .int) :: ([.fieldLink RX2 14 "LateExcuses$Events" "rows" "LLateExcuses$Table;", .constant RX2 36 (-1000004), .methodLink RX2 32 yX2_hasCome, .instanceMethod yX2_hasCome, .selects RX2 yX2_hasCome yX2_hasCome, .initialized RX2, .code yX2_hasCome cX2_hasCome 2 (some .boolean), .methodLink RX2 28 yX5_get, .instanceMethod yX5_get, .selects RX5 yX5_get yX5_get, .initialized RX5, .code yX5_get cX5_get 4 (some .int), .fieldLink RX5 13 "LateExcuses$Table" "rows" "I", .fieldLink RX5 19 "LateExcuses$Table" "columns" "I", .fieldLink RX5 22 "LateExcuses$Table" "cells" "[I"] ++ wsX20 ++ wsX50)
def wsX2_ofKey : List Cond := .code yX2_ofKey cX2_ofKey 6 (some .int) :: ([.fieldLink RX2 14 "LateExcuses$Events" "rows" "LLateExcuses$Table;", .methodLink RX2 28 yX5_get, .instanceMethod yX5_get, .selects RX5 yX5_get yX5_get, .initialized RX5, .code yX5_get cX5_get 4 (some .int), .fieldLink RX5 13 "LateExcuses$Table" "rows" "I", .fieldLink RX5 19 "LateExcuses$Table" "columns" "I", .fieldLink RX5 22 "LateExcuses$Table" "cells" "[I", .methodLink RX2 41 yX2_hasOutcome, .instanceMethod yX2_hasOutcome, .selects RX2 yX2_hasOutcome yX2_hasOutcome, .initialized RX2, .code yX2_hasOutcome cX2_hasOutcome 5 (some .boolean)] ++ wsX20 ++ wsX50)
def wsX3_init : List Cond := .code yX3_init cX3_init 1 none :: ([.methodLink RX3 1 objectInit, .instanceMethod objectInit, .code objectInit ⟨#[0xb1]⟩ 1 none, .classLink RX3 9 RX1, .fieldLink RX3 11 "LateExcuses$History" "past" "[LLateExcuses$Court;"] ++ wsX30)
def wsX3_states : List Cond := .code yX3_states cX3_states 1 (some .int) :: ([.fieldLink RX3 15 "LateExcuses$History" "states" "I"] ++ wsX30)
def wsX3_keep_r1 : List Cond := [Cond.fieldLink RX3 15 "LateExcuses$History" "states" "I", Cond.fieldLink RX3 19 "LateExcuses$History" "oldest" "I", Cond.fieldLink RX3 11 "LateExcuses$History" "past" "[LLateExcuses$Court;", Cond.classLink RX3 9 RX1, Cond.instantiable RX1 9, Cond.initialized RX1, Cond.instanceMethod yX1_init, Cond.code yX1_init cX1_init 1 none, Cond.methodLink RX1 3 objectInit, Cond.instanceMethod objectInit, Cond.code objectInit ⟨#[0xb1]⟩ 1 none, Cond.classLink RX1 9 RX2, Cond.instantiable RX2 2, Cond.initialized RX2, Cond.fieldLink RX1 12 "LateExcuses$Court" "events" "LLateExcuses$Events;", Cond.classLink RX1 18 RX4, Cond.instantiable RX4 3, Cond.initialized RX4, Cond.fieldLink RX1 21 "LateExcuses$Court" "panes" "LLateExcuses$Panes;", Cond.classLink RX1 25 RX0, Cond.instantiable RX0 1, Cond.initialized RX0, Cond.fieldLink RX1 28 "LateExcuses$Court" "cabinets" "LLateExcuses$Cabinets;", Cond.fieldLink RX1 32 "LateExcuses$Court" "size" "I"]
def wsX3_keep_r2 : List Cond := [Cond.fieldLink RX1 36 "LateExcuses$Court" "lag" "I", Cond.fieldLink RX1 39 "LateExcuses$Court" "grace" "I", Cond.fieldLink RX1 42 "LateExcuses$Court" "watermark" "I", Cond.fieldLink RX1 45 "LateExcuses$Court" "latest" "I", Cond.instanceMethod yX2_init, Cond.code yX2_init cX2_init 1 none, Cond.methodLink RX2 3 objectInit, Cond.classLink RX2 9 RX5, Cond.instantiable RX5 3, Cond.initialized RX5, Cond.fieldLink RX2 14 "LateExcuses$Events" "rows" "LLateExcuses$Table;", Cond.methodLink RX2 11 yX5_init, Cond.instanceMethod yX5_init, Cond.code yX5_init cX5_init 3 none, Cond.methodLink RX5 1 objectInit, Cond.methodLink RX5 7 Lib.Math.max.name, Cond.static Lib.Math.max.name, Cond.initialized "java/lang/Math", Cond.code Lib.Math.max.name Lib.Math.max.code 2 (some .int), Cond.fieldLink RX5 13 "LateExcuses$Table" "rows" "I", Cond.fieldLink RX5 19 "LateExcuses$Table" "columns" "I", Cond.arrayClass .int, Cond.fieldLink RX5 22 "LateExcuses$Table" "cells" "[I", Cond.instanceMethod yX4_init]
def wsX3_keep_r3 : List Cond := [Cond.code yX4_init cX4_init 1 none, Cond.methodLink RX4 3 objectInit, Cond.classLink RX4 9 RX5, Cond.fieldLink RX4 16 "LateExcuses$Panes" "rows" "LLateExcuses$Table;", Cond.classLink RX4 20 RX7, Cond.instantiable RX7 4, Cond.initialized RX7, Cond.fieldLink RX4 23 "LateExcuses$Panes" "words" "LLateExcuses$Words;", Cond.methodLink RX4 13 yX5_init, Cond.instanceMethod yX7_init, Cond.code yX7_init cX7_init 1 none, Cond.methodLink RX7 3 objectInit, Cond.classLink RX7 9 RX5, Cond.fieldLink RX7 16 "LateExcuses$Words" "rows" "LLateExcuses$Table;", Cond.methodLink RX7 13 yX5_init, Cond.instanceMethod yX0_init, Cond.code yX0_init cX0_init 1 none, Cond.methodLink RX0 5 objectInit, Cond.classLink RX0 11 RX5, Cond.fieldLink RX0 16 "LateExcuses$Cabinets" "rows" "LLateExcuses$Table;", Cond.methodLink RX0 13 yX5_init, Cond.methodLink RX3 23 yX1_copyFrom, Cond.instanceMethod yX1_copyFrom, Cond.selects RX1 yX1_copyFrom yX1_copyFrom]
def wsX3_keep_r4 : List Cond := [Cond.code yX1_copyFrom cX1_copyFrom 2 none, Cond.fieldLink RX1 58 "LateExcuses$Court" "moved" "Z", Cond.methodLink RX1 48 yX2_copyFrom, Cond.instanceMethod yX2_copyFrom, Cond.selects RX2 yX2_copyFrom yX2_copyFrom, Cond.code yX2_copyFrom cX2_copyFrom 2 none, Cond.fieldLink RX2 24 "LateExcuses$Events" "doubles" "I", Cond.methodLink RX2 20 yX5_copyFrom, Cond.instanceMethod yX5_copyFrom, Cond.selects RX5 yX5_copyFrom yX5_copyFrom, Cond.code yX5_copyFrom cX5_copyFrom 2 none, Cond.methodLink RX5 26 arraycopyName, Cond.native arraycopyName, Cond.static arraycopyName, Cond.initialized "java/lang/System", Cond.methodLink RX1 52 yX4_copyFrom, Cond.instanceMethod yX4_copyFrom, Cond.selects RX4 yX4_copyFrom yX4_copyFrom, Cond.code yX4_copyFrom cX4_copyFrom 2 none, Cond.fieldLink RX4 34 "LateExcuses$Panes" "used" "I", Cond.methodLink RX4 27 yX5_copyFrom, Cond.methodLink RX4 31 yX7_copyFrom, Cond.instanceMethod yX7_copyFrom, Cond.selects RX7 yX7_copyFrom yX7_copyFrom]
def wsX3_keep_r5 : List Cond := [Cond.code yX7_copyFrom cX7_copyFrom 2 none, Cond.fieldLink RX7 24 "LateExcuses$Words" "kept" "I", Cond.fieldLink RX7 28 "LateExcuses$Words" "told" "I", Cond.fieldLink RX7 31 "LateExcuses$Words" "takenBack" "I", Cond.methodLink RX7 20 yX5_copyFrom, Cond.methodLink RX1 55 yX0_copyFrom, Cond.instanceMethod yX0_copyFrom, Cond.selects RX0 yX0_copyFrom yX0_copyFrom, Cond.code yX0_copyFrom cX0_copyFrom 2 none, Cond.methodLink RX0 20 yX5_copyFrom]
def wsX3_keep : List Cond := .code yX3_keep cX3_keep 4 none :: ((wsX3_keep_r1 ++ (wsX3_keep_r2 ++ (wsX3_keep_r3 ++ (wsX3_keep_r4 ++ wsX3_keep_r5)))) ++ wsX30 ++ wsX10 ++ wsX20 ++ wsX40 ++ wsX00 ++ wsX50 ++ wsX70)
def wsX3_restore_r1 : List Cond := [Cond.fieldLink RX3 19 "LateExcuses$History" "oldest" "I", Cond.fieldLink RX3 15 "LateExcuses$History" "states" "I", Cond.fieldLink RX3 11 "LateExcuses$History" "past" "[LLateExcuses$Court;", Cond.methodLink RX3 23 yX1_copyFrom, Cond.instanceMethod yX1_copyFrom, Cond.selects RX1 yX1_copyFrom yX1_copyFrom, Cond.initialized RX1, Cond.code yX1_copyFrom cX1_copyFrom 2 none, Cond.fieldLink RX1 12 "LateExcuses$Court" "events" "LLateExcuses$Events;", Cond.fieldLink RX1 21 "LateExcuses$Court" "panes" "LLateExcuses$Panes;", Cond.fieldLink RX1 28 "LateExcuses$Court" "cabinets" "LLateExcuses$Cabinets;", Cond.fieldLink RX1 32 "LateExcuses$Court" "size" "I", Cond.fieldLink RX1 36 "LateExcuses$Court" "lag" "I", Cond.fieldLink RX1 39 "LateExcuses$Court" "grace" "I", Cond.fieldLink RX1 42 "LateExcuses$Court" "watermark" "I", Cond.fieldLink RX1 45 "LateExcuses$Court" "latest" "I", Cond.fieldLink RX1 58 "LateExcuses$Court" "moved" "Z", Cond.methodLink RX1 48 yX2_copyFrom, Cond.instanceMethod yX2_copyFrom, Cond.selects RX2 yX2_copyFrom yX2_copyFrom, Cond.initialized RX2, Cond.code yX2_copyFrom cX2_copyFrom 2 none, Cond.fieldLink RX2 14 "LateExcuses$Events" "rows" "LLateExcuses$Table;", Cond.fieldLink RX2 24 "LateExcuses$Events" "doubles" "I"]
def wsX3_restore_r2 : List Cond := [Cond.methodLink RX2 20 yX5_copyFrom, Cond.instanceMethod yX5_copyFrom, Cond.selects RX5 yX5_copyFrom yX5_copyFrom, Cond.initialized RX5, Cond.code yX5_copyFrom cX5_copyFrom 2 none, Cond.fieldLink RX5 22 "LateExcuses$Table" "cells" "[I", Cond.methodLink RX5 26 arraycopyName, Cond.native arraycopyName, Cond.static arraycopyName, Cond.initialized "java/lang/System", Cond.methodLink RX1 52 yX4_copyFrom, Cond.instanceMethod yX4_copyFrom, Cond.selects RX4 yX4_copyFrom yX4_copyFrom, Cond.initialized RX4, Cond.code yX4_copyFrom cX4_copyFrom 2 none, Cond.fieldLink RX4 16 "LateExcuses$Panes" "rows" "LLateExcuses$Table;", Cond.fieldLink RX4 23 "LateExcuses$Panes" "words" "LLateExcuses$Words;", Cond.fieldLink RX4 34 "LateExcuses$Panes" "used" "I", Cond.methodLink RX4 27 yX5_copyFrom, Cond.methodLink RX4 31 yX7_copyFrom, Cond.instanceMethod yX7_copyFrom, Cond.selects RX7 yX7_copyFrom yX7_copyFrom, Cond.initialized RX7, Cond.code yX7_copyFrom cX7_copyFrom 2 none]
def wsX3_restore_r3 : List Cond := [Cond.fieldLink RX7 16 "LateExcuses$Words" "rows" "LLateExcuses$Table;", Cond.fieldLink RX7 24 "LateExcuses$Words" "kept" "I", Cond.fieldLink RX7 28 "LateExcuses$Words" "told" "I", Cond.fieldLink RX7 31 "LateExcuses$Words" "takenBack" "I", Cond.methodLink RX7 20 yX5_copyFrom, Cond.methodLink RX1 55 yX0_copyFrom, Cond.instanceMethod yX0_copyFrom, Cond.selects RX0 yX0_copyFrom yX0_copyFrom, Cond.initialized RX0, Cond.code yX0_copyFrom cX0_copyFrom 2 none, Cond.fieldLink RX0 16 "LateExcuses$Cabinets" "rows" "LLateExcuses$Table;", Cond.methodLink RX0 20 yX5_copyFrom]
def wsX3_restore : List Cond := .code yX3_restore cX3_restore 4 none :: ((wsX3_restore_r1 ++ (wsX3_restore_r2 ++ wsX3_restore_r3)) ++ wsX30 ++ wsX10 ++ wsX20 ++ wsX50 ++ wsX40 ++ wsX70 ++ wsX00)
def wsX4_words : List Cond := .code yX4_words cX4_words 1 (some (.object "LateExcuses$Words")) :: ([.fieldLink RX4 23 "LateExcuses$Panes" "words" "LLateExcuses$Words;"] ++ wsX40)
def wsX4_behind : List Cond := .code yX4_behind cX4_behind 3 (some .int) :: ([.fieldLink RX4 34 "LateExcuses$Panes" "used" "I", .fieldLink RX4 16 "LateExcuses$Panes" "rows" "LLateExcuses$Table;", .constant RX4 57 (-1000004), .methodLink RX4 46 yX4_rowBehind, .instanceMethod yX4_rowBehind, .selects RX4 yX4_rowBehind yX4_rowBehind, .initialized RX4, .code yX4_rowBehind cX4_rowBehind 3 (some .int), .methodLink RX4 38 yX5_get, .instanceMethod yX5_get, .selects RX5 yX5_get yX5_get, .initialized RX5, .code yX5_get cX5_get 4 (some .int), .fieldLink RX5 13 "LateExcuses$Table" "rows" "I", .fieldLink RX5 19 "LateExcuses$Table" "columns" "I", .fieldLink RX5 22 "LateExcuses$Table" "cells" "[I"] ++ wsX40 ++ wsX50)
def wsX4_hasWord : List Cond := .code yX4_hasWord cX4_hasWord 2 (some .boolean) :: ([.methodLink RX4 42 yX4_rowOf, .instanceMethod yX4_rowOf, .selects RX4 yX4_rowOf yX4_rowOf, .initialized RX4, .code yX4_rowOf cX4_rowOf 3 (some .int), .fieldLink RX4 34 "LateExcuses$Panes" "used" "I", .fieldLink RX4 16 "LateExcuses$Panes" "rows" "LLateExcuses$Table;", .methodLink RX4 38 yX5_get, .instanceMethod yX5_get, .selects RX5 yX5_get yX5_get, .initialized RX5, .code yX5_get cX5_get 4 (some .int), .fieldLink RX5 13 "LateExcuses$Table" "rows" "I", .fieldLink RX5 19 "LateExcuses$Table" "columns" "I", .fieldLink RX5 22 "LateExcuses$Table" "cells" "[I", .methodLink RX4 58 yX4_isStanding, .instanceMethod yX4_isStanding, .selects RX4 yX4_isStanding yX4_isStanding, .code yX4_isStanding cX4_isStanding 2 (some .boolean)] ++ wsX40 ++ wsX50)
def wsX4_closedCases : List Cond := .code yX4_closedCases cX4_closedCases 3 (some .int) :: ([.fieldLink RX4 34 "LateExcuses$Panes" "used" "I", .fieldLink RX4 16 "LateExcuses$Panes" "rows" "LLateExcuses$Table;", .methodLink RX4 38 yX5_get, .instanceMethod yX5_get, .selects RX5 yX5_get yX5_get, .initialized RX5, .code yX5_get cX5_get 4 (some .int), .fieldLink RX5 13 "LateExcuses$Table" "rows" "I", .fieldLink RX5 19 "LateExcuses$Table" "columns" "I", .fieldLink RX5 22 "LateExcuses$Table" "cells" "[I"] ++ wsX40 ++ wsX50)
def wsX6_init : List Cond := .code yX6_init cX6_init 1 none :: ([.methodLink RX6 3 objectInit, .instanceMethod objectInit, .code objectInit ⟨#[0xb1]⟩ 1 none, .arrayClass .char, .fieldLink RX6 11 "LateExcuses$Text" "signs" "[C"] ++ wsX60)
def wsX6_length : List Cond := .code yX6_length cX6_length 1 (some .int) :: ([.fieldLink RX6 15 "LateExcuses$Text" "length" "I"] ++ wsX60)
def wsX6_append : List Cond := .code yX6_append cX6_append 2 (some .boolean) :: ([.fieldLink RX6 15 "LateExcuses$Text" "length" "I", .fieldLink RX6 11 "LateExcuses$Text" "signs" "[C"] ++ wsX60)
def wsX6_empty : List Cond := .code yX6_empty cX6_empty 1 none :: ([.fieldLink RX6 15 "LateExcuses$Text" "length" "I"] ++ wsX60)
def wsX6_faultPlace : List Cond := .code yX6_faultPlace cX6_faultPlace 1 (some .int) :: ([.fieldLink RX6 19 "LateExcuses$Text" "faultPlace" "I"] ++ wsX60)
def wsX6_faultReason : List Cond := .code yX6_faultReason cX6_faultReason 1 (some .int) :: ([.fieldLink RX6 22 "LateExcuses$Text" "faultReason" "I"] ++ wsX60)
def wsX6_signHere : List Cond := .code yX6_signHere cX6_signHere 1 (some .char) :: ([.fieldLink RX6 45 "LateExcuses$Text" "place" "I", .fieldLink RX6 15 "LateExcuses$Text" "length" "I", .fieldLink RX6 11 "LateExcuses$Text" "signs" "[C"] ++ wsX60)
def wsX6_readNumber : List Cond := .code yX6_readNumber cX6_readNumber 2 (some .boolean) :: ([.fieldLink RX6 52 "LateExcuses$Text" "number" "I", .fieldLink RX6 45 "LateExcuses$Text" "place" "I", .methodLink RX6 66 yX6_signHere, .instanceMethod yX6_signHere, .selects RX6 yX6_signHere yX6_signHere, .initialized RX6, .code yX6_signHere cX6_signHere 1 (some .char), .fieldLink RX6 15 "LateExcuses$Text" "length" "I", .fieldLink RX6 11 "LateExcuses$Text" "signs" "[C", .static yX8_isWithin, .initialized RX8, .code yX8_isWithin cX8_isWithin 3 (some .boolean)] ++ wsX60)
def wsX6_readSign : List Cond := .code yX6_readSign cX6_readSign 2 (some .boolean) :: ([.fieldLink RX6 45 "LateExcuses$Text" "place" "I", .methodLink RX6 66 yX6_signHere, .instanceMethod yX6_signHere, .selects RX6 yX6_signHere yX6_signHere, .initialized RX6, .code yX6_signHere cX6_signHere 1 (some .char), .fieldLink RX6 15 "LateExcuses$Text" "length" "I", .fieldLink RX6 11 "LateExcuses$Text" "signs" "[C"] ++ wsX60)
def wsX6_readExcuse : List Cond := .code yX6_readExcuse cX6_readExcuse 1 (some .int) :: ([.methodLink RX6 55 yX6_readSign, .instanceMethod yX6_readSign, .selects RX6 yX6_readSign yX6_readSign, .initialized RX6, .code yX6_readSign cX6_readSign 2 (some .boolean), .fieldLink RX6 45 "LateExcuses$Text" "place" "I", .methodLink RX6 66 yX6_signHere, .instanceMethod yX6_signHere, .selects RX6 yX6_signHere yX6_signHere, .code yX6_signHere cX6_signHere 1 (some .char), .fieldLink RX6 15 "LateExcuses$Text" "length" "I", .fieldLink RX6 11 "LateExcuses$Text" "signs" "[C"] ++ wsX60)
def wsX6_readEvent_r1 : List Cond := [Cond.fieldLink RX6 45 "LateExcuses$Text" "place" "I", Cond.fieldLink RX6 52 "LateExcuses$Text" "number" "I", Cond.fieldLink RX6 29 "LateExcuses$Text" "id" "I", Cond.fieldLink RX6 32 "LateExcuses$Text" "time" "I", Cond.fieldLink RX6 35 "LateExcuses$Text" "key" "I", Cond.fieldLink RX6 38 "LateExcuses$Text" "amount" "I", Cond.fieldLink RX6 63 "LateExcuses$Text" "excuse" "I", Cond.methodLink RX6 48 yX6_readNumber, Cond.instanceMethod yX6_readNumber, Cond.selects RX6 yX6_readNumber yX6_readNumber, Cond.initialized RX6, Cond.code yX6_readNumber cX6_readNumber 2 (some .boolean), Cond.methodLink RX6 66 yX6_signHere, Cond.instanceMethod yX6_signHere, Cond.selects RX6 yX6_signHere yX6_signHere, Cond.code yX6_signHere cX6_signHere 1 (some .char), Cond.fieldLink RX6 15 "LateExcuses$Text" "length" "I", Cond.fieldLink RX6 11 "LateExcuses$Text" "signs" "[C", Cond.static yX8_isWithin, Cond.initialized RX8, Cond.code yX8_isWithin cX8_isWithin 3 (some .boolean), Cond.methodLink RX6 55 yX6_readSign, Cond.instanceMethod yX6_readSign, Cond.selects RX6 yX6_readSign yX6_readSign]
def wsX6_readEvent_r2 : List Cond := [Cond.code yX6_readSign cX6_readSign 2 (some .boolean), Cond.methodLink RX6 59 yX6_readExcuse, Cond.instanceMethod yX6_readExcuse, Cond.selects RX6 yX6_readExcuse yX6_readExcuse, Cond.code yX6_readExcuse cX6_readExcuse 1 (some .int)]
def wsX6_readEvent : List Cond := .code yX6_readEvent cX6_readEvent 4 (some .int) :: ((wsX6_readEvent_r1 ++ wsX6_readEvent_r2) ++ wsX60)
def wsX8_isEvent : List Cond := .code yX8_isEvent cX8_isEvent 4 (some .boolean) :: ([.methodLink RX8 30 yX8_isWithin, .static yX8_isWithin, .initialized RX8, .code yX8_isWithin cX8_isWithin 3 (some .boolean)])
def wsX6_hasFault_r1 : List Cond := [Cond.fieldLink RX6 15 "LateExcuses$Text" "length" "I", Cond.fieldLink RX6 29 "LateExcuses$Text" "id" "I", Cond.fieldLink RX6 32 "LateExcuses$Text" "time" "I", Cond.fieldLink RX6 35 "LateExcuses$Text" "key" "I", Cond.fieldLink RX6 38 "LateExcuses$Text" "amount" "I", Cond.fieldLink RX6 19 "LateExcuses$Text" "faultPlace" "I", Cond.fieldLink RX6 22 "LateExcuses$Text" "faultReason" "I", Cond.methodLink RX6 25 yX6_readEvent, Cond.instanceMethod yX6_readEvent, Cond.selects RX6 yX6_readEvent yX6_readEvent, Cond.initialized RX6, Cond.code yX6_readEvent cX6_readEvent 4 (some .int), Cond.fieldLink RX6 45 "LateExcuses$Text" "place" "I", Cond.fieldLink RX6 52 "LateExcuses$Text" "number" "I", Cond.fieldLink RX6 63 "LateExcuses$Text" "excuse" "I", Cond.methodLink RX6 48 yX6_readNumber, Cond.instanceMethod yX6_readNumber, Cond.selects RX6 yX6_readNumber yX6_readNumber, Cond.code yX6_readNumber cX6_readNumber 2 (some .boolean), Cond.methodLink RX6 66 yX6_signHere, Cond.instanceMethod yX6_signHere, Cond.selects RX6 yX6_signHere yX6_signHere, Cond.code yX6_signHere cX6_signHere 1 (some .char), Cond.fieldLink RX6 11 "LateExcuses$Text" "signs" "[C"]
def wsX6_hasFault_r2 : List Cond := [Cond.static yX8_isWithin, Cond.initialized RX8, Cond.code yX8_isWithin cX8_isWithin 3 (some .boolean), Cond.methodLink RX6 55 yX6_readSign, Cond.instanceMethod yX6_readSign, Cond.selects RX6 yX6_readSign yX6_readSign, Cond.code yX6_readSign cX6_readSign 2 (some .boolean), Cond.methodLink RX6 59 yX6_readExcuse, Cond.instanceMethod yX6_readExcuse, Cond.selects RX6 yX6_readExcuse yX6_readExcuse, Cond.code yX6_readExcuse cX6_readExcuse 1 (some .int), Cond.static yX8_isEvent, Cond.code yX8_isEvent cX8_isEvent 4 (some .boolean), Cond.methodLink RX8 30 yX8_isWithin]
def wsX6_hasFault : List Cond := .code yX6_hasFault cX6_hasFault 4 (some .boolean) :: ((wsX6_hasFault_r1 ++ wsX6_hasFault_r2) ++ wsX60)
def wsX7_kept : List Cond := .code yX7_kept cX7_kept 1 (some .int) :: ([.fieldLink RX7 24 "LateExcuses$Words" "kept" "I"] ++ wsX70)
def wsX7_told : List Cond := .code yX7_told cX7_told 1 (some .int) :: ([.fieldLink RX7 28 "LateExcuses$Words" "told" "I"] ++ wsX70)
def wsX7_takenBack : List Cond := .code yX7_takenBack cX7_takenBack 1 (some .int) :: ([.fieldLink RX7 31 "LateExcuses$Words" "takenBack" "I"] ++ wsX70)
def wsX7_read : List Cond := .code yX7_read cX7_read 3 (some .int) :: ([.fieldLink RX7 24 "LateExcuses$Words" "kept" "I", .fieldLink RX7 16 "LateExcuses$Words" "rows" "LLateExcuses$Table;", .constant RX7 38 (-1000004), .methodLink RX7 34 yX5_get, .instanceMethod yX5_get, .selects RX5 yX5_get yX5_get, .initialized RX5, .code yX5_get cX5_get 4 (some .int), .fieldLink RX5 13 "LateExcuses$Table" "rows" "I", .fieldLink RX5 19 "LateExcuses$Table" "columns" "I", .fieldLink RX5 22 "LateExcuses$Table" "cells" "[I"] ++ wsX70 ++ wsX50)
def wsX8_init_r1 : List Cond := [Cond.methodLink RX8 1 objectInit, Cond.instanceMethod objectInit, Cond.code objectInit ⟨#[0xb1]⟩ 1 none, Cond.classLink RX8 7 RX1, Cond.instantiable RX1 9, Cond.initialized RX1, Cond.fieldLink RX8 10 "LateExcuses" "court" "LLateExcuses$Court;", Cond.classLink RX8 16 RX3, Cond.instantiable RX3 3, Cond.initialized RX3, Cond.fieldLink RX8 19 "LateExcuses" "history" "LLateExcuses$History;", Cond.classLink RX8 23 RX6, Cond.instantiable RX6 11, Cond.initialized RX6, Cond.fieldLink RX8 26 "LateExcuses" "text" "LLateExcuses$Text;", Cond.instanceMethod yX1_init, Cond.code yX1_init cX1_init 1 none, Cond.methodLink RX1 3 objectInit, Cond.classLink RX1 9 RX2, Cond.instantiable RX2 2, Cond.initialized RX2, Cond.fieldLink RX1 12 "LateExcuses$Court" "events" "LLateExcuses$Events;", Cond.classLink RX1 18 RX4, Cond.instantiable RX4 3]
def wsX8_init_r2 : List Cond := [Cond.initialized RX4, Cond.fieldLink RX1 21 "LateExcuses$Court" "panes" "LLateExcuses$Panes;", Cond.classLink RX1 25 RX0, Cond.instantiable RX0 1, Cond.initialized RX0, Cond.fieldLink RX1 28 "LateExcuses$Court" "cabinets" "LLateExcuses$Cabinets;", Cond.fieldLink RX1 32 "LateExcuses$Court" "size" "I", Cond.fieldLink RX1 36 "LateExcuses$Court" "lag" "I", Cond.fieldLink RX1 39 "LateExcuses$Court" "grace" "I", Cond.fieldLink RX1 42 "LateExcuses$Court" "watermark" "I", Cond.fieldLink RX1 45 "LateExcuses$Court" "latest" "I", Cond.instanceMethod yX2_init, Cond.code yX2_init cX2_init 1 none, Cond.methodLink RX2 3 objectInit, Cond.classLink RX2 9 RX5, Cond.instantiable RX5 3, Cond.initialized RX5, Cond.fieldLink RX2 14 "LateExcuses$Events" "rows" "LLateExcuses$Table;", Cond.methodLink RX2 11 yX5_init, Cond.instanceMethod yX5_init, Cond.code yX5_init cX5_init 3 none, Cond.methodLink RX5 1 objectInit, Cond.methodLink RX5 7 Lib.Math.max.name, Cond.static Lib.Math.max.name]
def wsX8_init_r3 : List Cond := [Cond.initialized "java/lang/Math", Cond.code Lib.Math.max.name Lib.Math.max.code 2 (some .int), Cond.fieldLink RX5 13 "LateExcuses$Table" "rows" "I", Cond.fieldLink RX5 19 "LateExcuses$Table" "columns" "I", Cond.arrayClass .int, Cond.fieldLink RX5 22 "LateExcuses$Table" "cells" "[I", Cond.instanceMethod yX4_init, Cond.code yX4_init cX4_init 1 none, Cond.methodLink RX4 3 objectInit, Cond.classLink RX4 9 RX5, Cond.fieldLink RX4 16 "LateExcuses$Panes" "rows" "LLateExcuses$Table;", Cond.classLink RX4 20 RX7, Cond.instantiable RX7 4, Cond.initialized RX7, Cond.fieldLink RX4 23 "LateExcuses$Panes" "words" "LLateExcuses$Words;", Cond.methodLink RX4 13 yX5_init, Cond.instanceMethod yX7_init, Cond.code yX7_init cX7_init 1 none, Cond.methodLink RX7 3 objectInit, Cond.classLink RX7 9 RX5, Cond.fieldLink RX7 16 "LateExcuses$Words" "rows" "LLateExcuses$Table;", Cond.methodLink RX7 13 yX5_init, Cond.instanceMethod yX0_init, Cond.code yX0_init cX0_init 1 none]
def wsX8_init_r4 : List Cond := [Cond.methodLink RX0 5 objectInit, Cond.classLink RX0 11 RX5, Cond.fieldLink RX0 16 "LateExcuses$Cabinets" "rows" "LLateExcuses$Table;", Cond.methodLink RX0 13 yX5_init, Cond.instanceMethod yX3_init, Cond.code yX3_init cX3_init 1 none, Cond.methodLink RX3 1 objectInit, Cond.classLink RX3 9 RX1, Cond.fieldLink RX3 11 "LateExcuses$History" "past" "[LLateExcuses$Court;", Cond.instanceMethod yX6_init, Cond.code yX6_init cX6_init 1 none, Cond.methodLink RX6 3 objectInit, Cond.arrayClass .char, Cond.fieldLink RX6 11 "LateExcuses$Text" "signs" "[C"]
def wsX8_init : List Cond := .code yX8_init cX8_init 1 none :: ((wsX8_init_r1 ++ (wsX8_init_r2 ++ (wsX8_init_r3 ++ wsX8_init_r4))) ++ wsX10 ++ wsX80 ++ wsX30 ++ wsX60 ++ wsX20 ++ wsX40 ++ wsX00 ++ wsX50 ++ wsX70)
def wsX8_set_r1 : List Cond := [Cond.constant RX8 34 (-1000001), Cond.fieldLink RX8 10 "LateExcuses" "court" "LLateExcuses$Court;", Cond.constant RX8 39 (-1000002), Cond.fieldLink RX8 19 "LateExcuses" "history" "LLateExcuses$History;", Cond.methodLink RX8 30 yX8_isWithin, Cond.static yX8_isWithin, Cond.initialized RX8, Cond.code yX8_isWithin cX8_isWithin 3 (some .boolean), Cond.methodLink RX8 35 yX1_hasEvents, Cond.instanceMethod yX1_hasEvents, Cond.selects RX1 yX1_hasEvents yX1_hasEvents, Cond.initialized RX1, Cond.code yX1_hasEvents cX1_hasEvents 1 (some .boolean), Cond.fieldLink RX1 12 "LateExcuses$Court" "events" "LLateExcuses$Events;", Cond.methodLink RX1 66 yX2_withOutcome, Cond.instanceMethod yX2_withOutcome, Cond.selects RX2 yX2_withOutcome yX2_withOutcome, Cond.initialized RX2, Cond.code yX2_withOutcome cX2_withOutcome 5 (some .int), Cond.methodLink RX2 41 yX2_hasOutcome, Cond.instanceMethod yX2_hasOutcome, Cond.selects RX2 yX2_hasOutcome yX2_hasOutcome, Cond.code yX2_hasOutcome cX2_hasOutcome 5 (some .boolean), Cond.fieldLink RX2 14 "LateExcuses$Events" "rows" "LLateExcuses$Table;"]
def wsX8_set_r2 : List Cond := [Cond.methodLink RX2 28 yX5_get, Cond.instanceMethod yX5_get, Cond.selects RX5 yX5_get yX5_get, Cond.initialized RX5, Cond.code yX5_get cX5_get 4 (some .int), Cond.fieldLink RX5 13 "LateExcuses$Table" "rows" "I", Cond.fieldLink RX5 19 "LateExcuses$Table" "columns" "I", Cond.fieldLink RX5 22 "LateExcuses$Table" "cells" "[I", Cond.methodLink RX8 40 yX3_keep, Cond.instanceMethod yX3_keep, Cond.selects RX3 yX3_keep yX3_keep, Cond.initialized RX3, Cond.code yX3_keep cX3_keep 4 none, Cond.fieldLink RX3 15 "LateExcuses$History" "states" "I", Cond.fieldLink RX3 19 "LateExcuses$History" "oldest" "I", Cond.fieldLink RX3 11 "LateExcuses$History" "past" "[LLateExcuses$Court;", Cond.classLink RX3 9 RX1, Cond.instantiable RX1 9, Cond.instanceMethod yX1_init, Cond.code yX1_init cX1_init 1 none, Cond.methodLink RX1 3 objectInit, Cond.instanceMethod objectInit, Cond.code objectInit ⟨#[0xb1]⟩ 1 none, Cond.classLink RX1 9 RX2]
def wsX8_set_r3 : List Cond := [Cond.instantiable RX2 2, Cond.classLink RX1 18 RX4, Cond.instantiable RX4 3, Cond.initialized RX4, Cond.fieldLink RX1 21 "LateExcuses$Court" "panes" "LLateExcuses$Panes;", Cond.classLink RX1 25 RX0, Cond.instantiable RX0 1, Cond.initialized RX0, Cond.fieldLink RX1 28 "LateExcuses$Court" "cabinets" "LLateExcuses$Cabinets;", Cond.fieldLink RX1 32 "LateExcuses$Court" "size" "I", Cond.fieldLink RX1 36 "LateExcuses$Court" "lag" "I", Cond.fieldLink RX1 39 "LateExcuses$Court" "grace" "I", Cond.fieldLink RX1 42 "LateExcuses$Court" "watermark" "I", Cond.fieldLink RX1 45 "LateExcuses$Court" "latest" "I", Cond.instanceMethod yX2_init, Cond.code yX2_init cX2_init 1 none, Cond.methodLink RX2 3 objectInit, Cond.classLink RX2 9 RX5, Cond.instantiable RX5 3, Cond.methodLink RX2 11 yX5_init, Cond.instanceMethod yX5_init, Cond.code yX5_init cX5_init 3 none, Cond.methodLink RX5 1 objectInit, Cond.methodLink RX5 7 Lib.Math.max.name]
def wsX8_set_r4 : List Cond := [Cond.static Lib.Math.max.name, Cond.initialized "java/lang/Math", Cond.code Lib.Math.max.name Lib.Math.max.code 2 (some .int), Cond.arrayClass .int, Cond.instanceMethod yX4_init, Cond.code yX4_init cX4_init 1 none, Cond.methodLink RX4 3 objectInit, Cond.classLink RX4 9 RX5, Cond.fieldLink RX4 16 "LateExcuses$Panes" "rows" "LLateExcuses$Table;", Cond.classLink RX4 20 RX7, Cond.instantiable RX7 4, Cond.initialized RX7, Cond.fieldLink RX4 23 "LateExcuses$Panes" "words" "LLateExcuses$Words;", Cond.methodLink RX4 13 yX5_init, Cond.instanceMethod yX7_init, Cond.code yX7_init cX7_init 1 none, Cond.methodLink RX7 3 objectInit, Cond.classLink RX7 9 RX5, Cond.fieldLink RX7 16 "LateExcuses$Words" "rows" "LLateExcuses$Table;", Cond.methodLink RX7 13 yX5_init, Cond.instanceMethod yX0_init, Cond.code yX0_init cX0_init 1 none, Cond.methodLink RX0 5 objectInit, Cond.classLink RX0 11 RX5]
def wsX8_set_r5 : List Cond := [Cond.fieldLink RX0 16 "LateExcuses$Cabinets" "rows" "LLateExcuses$Table;", Cond.methodLink RX0 13 yX5_init, Cond.methodLink RX3 23 yX1_copyFrom, Cond.instanceMethod yX1_copyFrom, Cond.selects RX1 yX1_copyFrom yX1_copyFrom, Cond.code yX1_copyFrom cX1_copyFrom 2 none, Cond.fieldLink RX1 58 "LateExcuses$Court" "moved" "Z", Cond.methodLink RX1 48 yX2_copyFrom, Cond.instanceMethod yX2_copyFrom, Cond.selects RX2 yX2_copyFrom yX2_copyFrom, Cond.code yX2_copyFrom cX2_copyFrom 2 none, Cond.fieldLink RX2 24 "LateExcuses$Events" "doubles" "I", Cond.methodLink RX2 20 yX5_copyFrom, Cond.instanceMethod yX5_copyFrom, Cond.selects RX5 yX5_copyFrom yX5_copyFrom, Cond.code yX5_copyFrom cX5_copyFrom 2 none, Cond.methodLink RX5 26 arraycopyName, Cond.native arraycopyName, Cond.static arraycopyName, Cond.initialized "java/lang/System", Cond.methodLink RX1 52 yX4_copyFrom, Cond.instanceMethod yX4_copyFrom, Cond.selects RX4 yX4_copyFrom yX4_copyFrom, Cond.code yX4_copyFrom cX4_copyFrom 2 none]
def wsX8_set_r6 : List Cond := [Cond.fieldLink RX4 34 "LateExcuses$Panes" "used" "I", Cond.methodLink RX4 27 yX5_copyFrom, Cond.methodLink RX4 31 yX7_copyFrom, Cond.instanceMethod yX7_copyFrom, Cond.selects RX7 yX7_copyFrom yX7_copyFrom, Cond.code yX7_copyFrom cX7_copyFrom 2 none, Cond.fieldLink RX7 24 "LateExcuses$Words" "kept" "I", Cond.fieldLink RX7 28 "LateExcuses$Words" "told" "I", Cond.fieldLink RX7 31 "LateExcuses$Words" "takenBack" "I", Cond.methodLink RX7 20 yX5_copyFrom, Cond.methodLink RX1 55 yX0_copyFrom, Cond.instanceMethod yX0_copyFrom, Cond.selects RX0 yX0_copyFrom yX0_copyFrom, Cond.code yX0_copyFrom cX0_copyFrom 2 none, Cond.methodLink RX0 20 yX5_copyFrom, Cond.methodLink RX8 44 yX1_changeSetting, Cond.instanceMethod yX1_changeSetting, Cond.selects RX1 yX1_changeSetting yX1_changeSetting, Cond.code yX1_changeSetting cX1_changeSetting 4 (some .int), Cond.methodLink RX1 62 yX1_setting, Cond.instanceMethod yX1_setting, Cond.selects RX1 yX1_setting yX1_setting, Cond.code yX1_setting cX1_setting 2 (some .int)]
def wsX8_set : List Cond := .code yX8_set cX8_set 3 (some .int) :: ((wsX8_set_r1 ++ (wsX8_set_r2 ++ (wsX8_set_r3 ++ (wsX8_set_r4 ++ (wsX8_set_r5 ++ wsX8_set_r6))))) ++ wsX80 ++ wsX10 ++ wsX20 ++ wsX50 ++ wsX30 ++ wsX40 ++ wsX00 ++ wsX70)
def wsX8_event_r1 : List Cond := [Cond.constant RX8 34 (-1000001), Cond.fieldLink RX8 19 "LateExcuses" "history" "LLateExcuses$History;", Cond.fieldLink RX8 10 "LateExcuses" "court" "LLateExcuses$Court;", Cond.methodLink RX8 48 yX8_isEvent, Cond.static yX8_isEvent, Cond.initialized RX8, Cond.code yX8_isEvent cX8_isEvent 4 (some .boolean), Cond.methodLink RX8 30 yX8_isWithin, Cond.static yX8_isWithin, Cond.code yX8_isWithin cX8_isWithin 3 (some .boolean), Cond.methodLink RX8 40 yX3_keep, Cond.instanceMethod yX3_keep, Cond.selects RX3 yX3_keep yX3_keep, Cond.initialized RX3, Cond.code yX3_keep cX3_keep 4 none, Cond.fieldLink RX3 15 "LateExcuses$History" "states" "I", Cond.fieldLink RX3 19 "LateExcuses$History" "oldest" "I", Cond.fieldLink RX3 11 "LateExcuses$History" "past" "[LLateExcuses$Court;", Cond.classLink RX3 9 RX1, Cond.instantiable RX1 9, Cond.initialized RX1, Cond.instanceMethod yX1_init, Cond.code yX1_init cX1_init 1 none, Cond.methodLink RX1 3 objectInit]
def wsX8_event_r2 : List Cond := [Cond.instanceMethod objectInit, Cond.code objectInit ⟨#[0xb1]⟩ 1 none, Cond.classLink RX1 9 RX2, Cond.instantiable RX2 2, Cond.initialized RX2, Cond.fieldLink RX1 12 "LateExcuses$Court" "events" "LLateExcuses$Events;", Cond.classLink RX1 18 RX4, Cond.instantiable RX4 3, Cond.initialized RX4, Cond.fieldLink RX1 21 "LateExcuses$Court" "panes" "LLateExcuses$Panes;", Cond.classLink RX1 25 RX0, Cond.instantiable RX0 1, Cond.initialized RX0, Cond.fieldLink RX1 28 "LateExcuses$Court" "cabinets" "LLateExcuses$Cabinets;", Cond.fieldLink RX1 32 "LateExcuses$Court" "size" "I", Cond.fieldLink RX1 36 "LateExcuses$Court" "lag" "I", Cond.fieldLink RX1 39 "LateExcuses$Court" "grace" "I", Cond.fieldLink RX1 42 "LateExcuses$Court" "watermark" "I", Cond.fieldLink RX1 45 "LateExcuses$Court" "latest" "I", Cond.instanceMethod yX2_init, Cond.code yX2_init cX2_init 1 none, Cond.methodLink RX2 3 objectInit, Cond.classLink RX2 9 RX5, Cond.instantiable RX5 3]
def wsX8_event_r3 : List Cond := [Cond.initialized RX5, Cond.fieldLink RX2 14 "LateExcuses$Events" "rows" "LLateExcuses$Table;", Cond.methodLink RX2 11 yX5_init, Cond.instanceMethod yX5_init, Cond.code yX5_init cX5_init 3 none, Cond.methodLink RX5 1 objectInit, Cond.methodLink RX5 7 Lib.Math.max.name, Cond.static Lib.Math.max.name, Cond.initialized "java/lang/Math", Cond.code Lib.Math.max.name Lib.Math.max.code 2 (some .int), Cond.fieldLink RX5 13 "LateExcuses$Table" "rows" "I", Cond.fieldLink RX5 19 "LateExcuses$Table" "columns" "I", Cond.arrayClass .int, Cond.fieldLink RX5 22 "LateExcuses$Table" "cells" "[I", Cond.instanceMethod yX4_init, Cond.code yX4_init cX4_init 1 none, Cond.methodLink RX4 3 objectInit, Cond.classLink RX4 9 RX5, Cond.fieldLink RX4 16 "LateExcuses$Panes" "rows" "LLateExcuses$Table;", Cond.classLink RX4 20 RX7, Cond.instantiable RX7 4, Cond.initialized RX7, Cond.fieldLink RX4 23 "LateExcuses$Panes" "words" "LLateExcuses$Words;", Cond.methodLink RX4 13 yX5_init]
def wsX8_event_r4 : List Cond := [Cond.instanceMethod yX7_init, Cond.code yX7_init cX7_init 1 none, Cond.methodLink RX7 3 objectInit, Cond.classLink RX7 9 RX5, Cond.fieldLink RX7 16 "LateExcuses$Words" "rows" "LLateExcuses$Table;", Cond.methodLink RX7 13 yX5_init, Cond.instanceMethod yX0_init, Cond.code yX0_init cX0_init 1 none, Cond.methodLink RX0 5 objectInit, Cond.classLink RX0 11 RX5, Cond.fieldLink RX0 16 "LateExcuses$Cabinets" "rows" "LLateExcuses$Table;", Cond.methodLink RX0 13 yX5_init, Cond.methodLink RX3 23 yX1_copyFrom, Cond.instanceMethod yX1_copyFrom, Cond.selects RX1 yX1_copyFrom yX1_copyFrom, Cond.code yX1_copyFrom cX1_copyFrom 2 none, Cond.fieldLink RX1 58 "LateExcuses$Court" "moved" "Z", Cond.methodLink RX1 48 yX2_copyFrom, Cond.instanceMethod yX2_copyFrom, Cond.selects RX2 yX2_copyFrom yX2_copyFrom, Cond.code yX2_copyFrom cX2_copyFrom 2 none, Cond.fieldLink RX2 24 "LateExcuses$Events" "doubles" "I", Cond.methodLink RX2 20 yX5_copyFrom, Cond.instanceMethod yX5_copyFrom]
def wsX8_event_r5 : List Cond := [Cond.selects RX5 yX5_copyFrom yX5_copyFrom, Cond.code yX5_copyFrom cX5_copyFrom 2 none, Cond.methodLink RX5 26 arraycopyName, Cond.native arraycopyName, Cond.static arraycopyName, Cond.initialized "java/lang/System", Cond.methodLink RX1 52 yX4_copyFrom, Cond.instanceMethod yX4_copyFrom, Cond.selects RX4 yX4_copyFrom yX4_copyFrom, Cond.code yX4_copyFrom cX4_copyFrom 2 none, Cond.fieldLink RX4 34 "LateExcuses$Panes" "used" "I", Cond.methodLink RX4 27 yX5_copyFrom, Cond.methodLink RX4 31 yX7_copyFrom, Cond.instanceMethod yX7_copyFrom, Cond.selects RX7 yX7_copyFrom yX7_copyFrom, Cond.code yX7_copyFrom cX7_copyFrom 2 none, Cond.fieldLink RX7 24 "LateExcuses$Words" "kept" "I", Cond.fieldLink RX7 28 "LateExcuses$Words" "told" "I", Cond.fieldLink RX7 31 "LateExcuses$Words" "takenBack" "I", Cond.methodLink RX7 20 yX5_copyFrom, Cond.methodLink RX1 55 yX0_copyFrom, Cond.instanceMethod yX0_copyFrom, Cond.selects RX0 yX0_copyFrom yX0_copyFrom, Cond.code yX0_copyFrom cX0_copyFrom 2 none]
def wsX8_event_r6 : List Cond := [Cond.methodLink RX0 20 yX5_copyFrom, Cond.methodLink RX8 52 yX1_admit, Cond.instanceMethod yX1_admit, Cond.selects RX1 yX1_admit yX1_admit, Cond.code yX1_admit cX1_admit 8 (some .int), Cond.methodLink RX1 114 yX2_hasCome, Cond.instanceMethod yX2_hasCome, Cond.selects RX2 yX2_hasCome yX2_hasCome, Cond.code yX2_hasCome cX2_hasCome 2 (some .boolean), Cond.methodLink RX2 28 yX5_get, Cond.instanceMethod yX5_get, Cond.selects RX5 yX5_get yX5_get, Cond.code yX5_get cX5_get 4 (some .int), Cond.methodLink RX1 117 yX2_addDouble, Cond.instanceMethod yX2_addDouble, Cond.selects RX2 yX2_addDouble yX2_addDouble, Cond.code yX2_addDouble cX2_addDouble 1 none, Cond.methodLink RX1 120 yX1_verdict, Cond.instanceMethod yX1_verdict, Cond.selects RX1 yX1_verdict yX1_verdict, Cond.code yX1_verdict cX1_verdict 6 (some .int), Cond.methodLink RX1 85 yX1_paneAt, Cond.instanceMethod yX1_paneAt, Cond.selects RX1 yX1_paneAt yX1_paneAt]
def wsX8_event_r7 : List Cond := [Cond.code yX1_paneAt cX1_paneAt 2 (some .int), Cond.methodLink RX1 88 yX1_stateOf, Cond.instanceMethod yX1_stateOf, Cond.selects RX1 yX1_stateOf yX1_stateOf, Cond.code yX1_stateOf cX1_stateOf 3 (some .int), Cond.methodLink RX1 79 yX4_read, Cond.instanceMethod yX4_read, Cond.selects RX4 yX4_read yX4_read, Cond.code yX4_read cX4_read 3 (some .int), Cond.methodLink RX4 42 yX4_rowOf, Cond.instanceMethod yX4_rowOf, Cond.selects RX4 yX4_rowOf yX4_rowOf, Cond.code yX4_rowOf cX4_rowOf 3 (some .int), Cond.methodLink RX4 38 yX5_get, Cond.methodLink RX1 82 yX1_endOf, Cond.instanceMethod yX1_endOf, Cond.selects RX1 yX1_endOf yX1_endOf, Cond.code yX1_endOf cX1_endOf 2 (some .int), Cond.methodLink RX1 91 yX1_isAcceptable, Cond.instanceMethod yX1_isAcceptable, Cond.selects RX1 yX1_isAcceptable yX1_isAcceptable, Cond.code yX1_isAcceptable cX1_isAcceptable 5 (some .boolean), Cond.methodLink RX1 98 yX1_lateBy, Cond.instanceMethod yX1_lateBy]
def wsX8_event_r8 : List Cond := [Cond.selects RX1 yX1_lateBy yX1_lateBy, Cond.code yX1_lateBy cX1_lateBy 2 (some .int), Cond.methodLink RX1 101 yX2_hadIllness, Cond.instanceMethod yX2_hadIllness, Cond.selects RX2 yX2_hadIllness yX2_hadIllness, Cond.code yX2_hadIllness cX2_hadIllness 3 (some .boolean), Cond.methodLink RX2 41 yX2_hasOutcome, Cond.instanceMethod yX2_hasOutcome, Cond.selects RX2 yX2_hasOutcome yX2_hasOutcome, Cond.code yX2_hasOutcome cX2_hasOutcome 5 (some .boolean), Cond.methodLink RX1 94 yX0_hasPlaceFor, Cond.instanceMethod yX0_hasPlaceFor, Cond.selects RX0 yX0_hasPlaceFor yX0_hasPlaceFor, Cond.code yX0_hasPlaceFor cX0_hasPlaceFor 2 (some .boolean), Cond.methodLink RX0 29 yX0_cabinetFor, Cond.instanceMethod yX0_cabinetFor, Cond.selects RX0 yX0_cabinetFor yX0_cabinetFor, Cond.code yX0_cabinetFor cX0_cabinetFor 2 (some .int), Cond.methodLink RX0 33 yX0_isFull, Cond.instanceMethod yX0_isFull, Cond.selects RX0 yX0_isFull yX0_isFull, Cond.code yX0_isFull cX0_isFull 2 (some .boolean), Cond.methodLink RX0 24 yX5_get, Cond.methodLink RX1 123 yX2_enter]
def wsX8_event_r9 : List Cond := [Cond.instanceMethod yX2_enter, Cond.selects RX2 yX2_enter yX2_enter, Cond.code yX2_enter cX2_enter 6 none, Cond.methodLink RX2 37 yX5_put, Cond.instanceMethod yX5_put, Cond.selects RX5 yX5_put yX5_put, Cond.code yX5_put cX5_put 5 none, Cond.methodLink RX1 127 yX2_conclude, Cond.instanceMethod yX2_conclude, Cond.selects RX2 yX2_conclude yX2_conclude, Cond.code yX2_conclude cX2_conclude 4 none, Cond.methodLink RX1 131 yX0_file, Cond.instanceMethod yX0_file, Cond.selects RX0 yX0_file yX0_file, Cond.code yX0_file cX0_file 5 none, Cond.methodLink RX0 37 yX5_put, Cond.methodLink RX1 135 yX4_reopen, Cond.instanceMethod yX4_reopen, Cond.selects RX4 yX4_reopen yX4_reopen, Cond.code yX4_reopen cX4_reopen 4 none, Cond.methodLink RX4 62 yX4_rowMadeFor, Cond.instanceMethod yX4_rowMadeFor, Cond.selects RX4 yX4_rowMadeFor yX4_rowMadeFor, Cond.code yX4_rowMadeFor cX4_rowMadeFor 3 (some .int)]
def wsX8_event_r10 : List Cond := [Cond.methodLink RX4 46 yX4_rowBehind, Cond.instanceMethod yX4_rowBehind, Cond.selects RX4 yX4_rowBehind yX4_rowBehind, Cond.code yX4_rowBehind cX4_rowBehind 3 (some .int), Cond.methodLink RX4 49 yX5_openRow, Cond.instanceMethod yX5_openRow, Cond.selects RX5 yX5_openRow yX5_openRow, Cond.code yX5_openRow cX5_openRow 5 none, Cond.methodLink RX5 32 yX5_put, Cond.methodLink RX4 53 yX5_put, Cond.methodLink RX4 65 yX4_takeBack, Cond.instanceMethod yX4_takeBack, Cond.selects RX4 yX4_takeBack yX4_takeBack, Cond.code yX4_takeBack cX4_takeBack 3 none, Cond.methodLink RX4 58 yX4_isStanding, Cond.instanceMethod yX4_isStanding, Cond.selects RX4 yX4_isStanding yX4_isStanding, Cond.code yX4_isStanding cX4_isStanding 2 (some .boolean), Cond.methodLink RX4 75 yX7_add, Cond.instanceMethod yX7_add, Cond.selects RX7 yX7_add yX7_add, Cond.code yX7_add cX7_add 5 none, Cond.methodLink RX7 39 yX5_dropFirstRow, Cond.instanceMethod yX5_dropFirstRow]
def wsX8_event_r11 : List Cond := [Cond.selects RX5 yX5_dropFirstRow yX5_dropFirstRow, Cond.code yX5_dropFirstRow cX5_dropFirstRow 1 none, Cond.methodLink RX7 42 yX5_put, Cond.methodLink RX1 138 yX4_add, Cond.instanceMethod yX4_add, Cond.selects RX4 yX4_add yX4_add, Cond.code yX4_add cX4_add 5 none, Cond.methodLink RX1 141 yX1_raiseWatermark, Cond.instanceMethod yX1_raiseWatermark, Cond.selects RX1 yX1_raiseWatermark yX1_raiseWatermark, Cond.code yX1_raiseWatermark cX1_raiseWatermark 3 none, Cond.methodLink RX1 109 Lib.Math.max.name, Cond.methodLink RX1 145 yX4_shutAndClose, Cond.instanceMethod yX4_shutAndClose, Cond.selects RX4 yX4_shutAndClose yX4_shutAndClose, Cond.code yX4_shutAndClose cX4_shutAndClose 6 none, Cond.methodLink RX4 72 yX4_tellWord, Cond.instanceMethod yX4_tellWord, Cond.selects RX4 yX4_tellWord yX4_tellWord, Cond.code yX4_tellWord cX4_tellWord 3 none]
def wsX8_event : List Cond := .code yX8_event cX8_event 6 (some .int) :: ((wsX8_event_r1 ++ (wsX8_event_r2 ++ (wsX8_event_r3 ++ (wsX8_event_r4 ++ (wsX8_event_r5 ++ (wsX8_event_r6 ++ (wsX8_event_r7 ++ (wsX8_event_r8 ++ (wsX8_event_r9 ++ (wsX8_event_r10 ++ wsX8_event_r11)))))))))) ++ wsX80 ++ wsX30 ++ wsX10 ++ wsX20 ++ wsX40 ++ wsX00 ++ wsX50 ++ wsX70)
def wsX8_move_r1 : List Cond := [Cond.constant RX8 34 (-1000001), Cond.fieldLink RX8 10 "LateExcuses" "court" "LLateExcuses$Court;", Cond.constant RX8 39 (-1000002), Cond.fieldLink RX8 19 "LateExcuses" "history" "LLateExcuses$History;", Cond.methodLink RX8 30 yX8_isWithin, Cond.static yX8_isWithin, Cond.initialized RX8, Cond.code yX8_isWithin cX8_isWithin 3 (some .boolean), Cond.methodLink RX8 56 yX1_canMoveBack, Cond.instanceMethod yX1_canMoveBack, Cond.selects RX1 yX1_canMoveBack yX1_canMoveBack, Cond.initialized RX1, Cond.code yX1_canMoveBack cX1_canMoveBack 1 (some .boolean), Cond.fieldLink RX1 58 "LateExcuses$Court" "moved" "Z", Cond.fieldLink RX1 42 "LateExcuses$Court" "watermark" "I", Cond.methodLink RX8 40 yX3_keep, Cond.instanceMethod yX3_keep, Cond.selects RX3 yX3_keep yX3_keep, Cond.initialized RX3, Cond.code yX3_keep cX3_keep 4 none, Cond.fieldLink RX3 15 "LateExcuses$History" "states" "I", Cond.fieldLink RX3 19 "LateExcuses$History" "oldest" "I", Cond.fieldLink RX3 11 "LateExcuses$History" "past" "[LLateExcuses$Court;", Cond.classLink RX3 9 RX1]
def wsX8_move_r2 : List Cond := [Cond.instantiable RX1 9, Cond.instanceMethod yX1_init, Cond.code yX1_init cX1_init 1 none, Cond.methodLink RX1 3 objectInit, Cond.instanceMethod objectInit, Cond.code objectInit ⟨#[0xb1]⟩ 1 none, Cond.classLink RX1 9 RX2, Cond.instantiable RX2 2, Cond.initialized RX2, Cond.fieldLink RX1 12 "LateExcuses$Court" "events" "LLateExcuses$Events;", Cond.classLink RX1 18 RX4, Cond.instantiable RX4 3, Cond.initialized RX4, Cond.fieldLink RX1 21 "LateExcuses$Court" "panes" "LLateExcuses$Panes;", Cond.classLink RX1 25 RX0, Cond.instantiable RX0 1, Cond.initialized RX0, Cond.fieldLink RX1 28 "LateExcuses$Court" "cabinets" "LLateExcuses$Cabinets;", Cond.fieldLink RX1 32 "LateExcuses$Court" "size" "I", Cond.fieldLink RX1 36 "LateExcuses$Court" "lag" "I", Cond.fieldLink RX1 39 "LateExcuses$Court" "grace" "I", Cond.fieldLink RX1 45 "LateExcuses$Court" "latest" "I", Cond.instanceMethod yX2_init, Cond.code yX2_init cX2_init 1 none]
def wsX8_move_r3 : List Cond := [Cond.methodLink RX2 3 objectInit, Cond.classLink RX2 9 RX5, Cond.instantiable RX5 3, Cond.initialized RX5, Cond.fieldLink RX2 14 "LateExcuses$Events" "rows" "LLateExcuses$Table;", Cond.methodLink RX2 11 yX5_init, Cond.instanceMethod yX5_init, Cond.code yX5_init cX5_init 3 none, Cond.methodLink RX5 1 objectInit, Cond.methodLink RX5 7 Lib.Math.max.name, Cond.static Lib.Math.max.name, Cond.initialized "java/lang/Math", Cond.code Lib.Math.max.name Lib.Math.max.code 2 (some .int), Cond.fieldLink RX5 13 "LateExcuses$Table" "rows" "I", Cond.fieldLink RX5 19 "LateExcuses$Table" "columns" "I", Cond.arrayClass .int, Cond.fieldLink RX5 22 "LateExcuses$Table" "cells" "[I", Cond.instanceMethod yX4_init, Cond.code yX4_init cX4_init 1 none, Cond.methodLink RX4 3 objectInit, Cond.classLink RX4 9 RX5, Cond.fieldLink RX4 16 "LateExcuses$Panes" "rows" "LLateExcuses$Table;", Cond.classLink RX4 20 RX7, Cond.instantiable RX7 4]
def wsX8_move_r4 : List Cond := [Cond.initialized RX7, Cond.fieldLink RX4 23 "LateExcuses$Panes" "words" "LLateExcuses$Words;", Cond.methodLink RX4 13 yX5_init, Cond.instanceMethod yX7_init, Cond.code yX7_init cX7_init 1 none, Cond.methodLink RX7 3 objectInit, Cond.classLink RX7 9 RX5, Cond.fieldLink RX7 16 "LateExcuses$Words" "rows" "LLateExcuses$Table;", Cond.methodLink RX7 13 yX5_init, Cond.instanceMethod yX0_init, Cond.code yX0_init cX0_init 1 none, Cond.methodLink RX0 5 objectInit, Cond.classLink RX0 11 RX5, Cond.fieldLink RX0 16 "LateExcuses$Cabinets" "rows" "LLateExcuses$Table;", Cond.methodLink RX0 13 yX5_init, Cond.methodLink RX3 23 yX1_copyFrom, Cond.instanceMethod yX1_copyFrom, Cond.selects RX1 yX1_copyFrom yX1_copyFrom, Cond.code yX1_copyFrom cX1_copyFrom 2 none, Cond.methodLink RX1 48 yX2_copyFrom, Cond.instanceMethod yX2_copyFrom, Cond.selects RX2 yX2_copyFrom yX2_copyFrom, Cond.code yX2_copyFrom cX2_copyFrom 2 none, Cond.fieldLink RX2 24 "LateExcuses$Events" "doubles" "I"]
def wsX8_move_r5 : List Cond := [Cond.methodLink RX2 20 yX5_copyFrom, Cond.instanceMethod yX5_copyFrom, Cond.selects RX5 yX5_copyFrom yX5_copyFrom, Cond.code yX5_copyFrom cX5_copyFrom 2 none, Cond.methodLink RX5 26 arraycopyName, Cond.native arraycopyName, Cond.static arraycopyName, Cond.initialized "java/lang/System", Cond.methodLink RX1 52 yX4_copyFrom, Cond.instanceMethod yX4_copyFrom, Cond.selects RX4 yX4_copyFrom yX4_copyFrom, Cond.code yX4_copyFrom cX4_copyFrom 2 none, Cond.fieldLink RX4 34 "LateExcuses$Panes" "used" "I", Cond.methodLink RX4 27 yX5_copyFrom, Cond.methodLink RX4 31 yX7_copyFrom, Cond.instanceMethod yX7_copyFrom, Cond.selects RX7 yX7_copyFrom yX7_copyFrom, Cond.code yX7_copyFrom cX7_copyFrom 2 none, Cond.fieldLink RX7 24 "LateExcuses$Words" "kept" "I", Cond.fieldLink RX7 28 "LateExcuses$Words" "told" "I", Cond.fieldLink RX7 31 "LateExcuses$Words" "takenBack" "I", Cond.methodLink RX7 20 yX5_copyFrom, Cond.methodLink RX1 55 yX0_copyFrom, Cond.instanceMethod yX0_copyFrom]
def wsX8_move_r6 : List Cond := [Cond.selects RX0 yX0_copyFrom yX0_copyFrom, Cond.code yX0_copyFrom cX0_copyFrom 2 none, Cond.methodLink RX0 20 yX5_copyFrom, Cond.methodLink RX8 59 yX1_moveBack, Cond.instanceMethod yX1_moveBack, Cond.selects RX1 yX1_moveBack yX1_moveBack, Cond.code yX1_moveBack cX1_moveBack 6 (some .int), Cond.methodLink RX1 109 Lib.Math.max.name, Cond.methodLink RX1 85 yX1_paneAt, Cond.instanceMethod yX1_paneAt, Cond.selects RX1 yX1_paneAt yX1_paneAt, Cond.code yX1_paneAt cX1_paneAt 2 (some .int), Cond.methodLink RX1 88 yX1_stateOf, Cond.instanceMethod yX1_stateOf, Cond.selects RX1 yX1_stateOf yX1_stateOf, Cond.code yX1_stateOf cX1_stateOf 3 (some .int), Cond.methodLink RX1 79 yX4_read, Cond.instanceMethod yX4_read, Cond.selects RX4 yX4_read yX4_read, Cond.code yX4_read cX4_read 3 (some .int), Cond.methodLink RX4 42 yX4_rowOf, Cond.instanceMethod yX4_rowOf, Cond.selects RX4 yX4_rowOf yX4_rowOf, Cond.code yX4_rowOf cX4_rowOf 3 (some .int)]
def wsX8_move_r7 : List Cond := [Cond.methodLink RX4 38 yX5_get, Cond.instanceMethod yX5_get, Cond.selects RX5 yX5_get yX5_get, Cond.code yX5_get cX5_get 4 (some .int), Cond.methodLink RX1 82 yX1_endOf, Cond.instanceMethod yX1_endOf, Cond.selects RX1 yX1_endOf yX1_endOf, Cond.code yX1_endOf cX1_endOf 2 (some .int), Cond.methodLink RX1 148 yX4_takeBackWord, Cond.instanceMethod yX4_takeBackWord, Cond.selects RX4 yX4_takeBackWord yX4_takeBackWord, Cond.code yX4_takeBackWord cX4_takeBackWord 2 none, Cond.methodLink RX4 65 yX4_takeBack, Cond.instanceMethod yX4_takeBack, Cond.selects RX4 yX4_takeBack yX4_takeBack, Cond.code yX4_takeBack cX4_takeBack 3 none, Cond.methodLink RX4 58 yX4_isStanding, Cond.instanceMethod yX4_isStanding, Cond.selects RX4 yX4_isStanding yX4_isStanding, Cond.code yX4_isStanding cX4_isStanding 2 (some .boolean), Cond.methodLink RX4 53 yX5_put, Cond.instanceMethod yX5_put, Cond.selects RX5 yX5_put yX5_put, Cond.code yX5_put cX5_put 5 none]
def wsX8_move_r8 : List Cond := [Cond.methodLink RX4 75 yX7_add, Cond.instanceMethod yX7_add, Cond.selects RX7 yX7_add yX7_add, Cond.code yX7_add cX7_add 5 none, Cond.methodLink RX7 39 yX5_dropFirstRow, Cond.instanceMethod yX5_dropFirstRow, Cond.selects RX5 yX5_dropFirstRow yX5_dropFirstRow, Cond.code yX5_dropFirstRow cX5_dropFirstRow 1 none, Cond.methodLink RX7 42 yX5_put]
def wsX8_move : List Cond := .code yX8_move cX8_move 2 (some .int) :: ((wsX8_move_r1 ++ (wsX8_move_r2 ++ (wsX8_move_r3 ++ (wsX8_move_r4 ++ (wsX8_move_r5 ++ (wsX8_move_r6 ++ (wsX8_move_r7 ++ wsX8_move_r8))))))) ++ wsX80 ++ wsX10 ++ wsX30 ++ wsX20 ++ wsX40 ++ wsX00 ++ wsX50 ++ wsX70)
def wsX8_paneOf_r1 : List Cond := [Cond.fieldLink RX8 10 "LateExcuses" "court" "LLateExcuses$Court;", Cond.constant RX8 34 (-1000001), Cond.constant RX8 72 (-1000004), Cond.methodLink RX8 63 yX1_hasTimes, Cond.instanceMethod yX1_hasTimes, Cond.selects RX1 yX1_hasTimes yX1_hasTimes, Cond.initialized RX1, Cond.code yX1_hasTimes cX1_hasTimes 2 (some .boolean), Cond.fieldLink RX1 32 "LateExcuses$Court" "size" "I", Cond.static yX8_isWithin, Cond.initialized RX8, Cond.code yX8_isWithin cX8_isWithin 3 (some .boolean), Cond.methodLink RX8 30 yX8_isWithin, Cond.methodLink RX8 67 yX1_stateOf, Cond.instanceMethod yX1_stateOf, Cond.selects RX1 yX1_stateOf yX1_stateOf, Cond.code yX1_stateOf cX1_stateOf 3 (some .int), Cond.fieldLink RX1 21 "LateExcuses$Court" "panes" "LLateExcuses$Panes;", Cond.fieldLink RX1 42 "LateExcuses$Court" "watermark" "I", Cond.methodLink RX1 79 yX4_read, Cond.instanceMethod yX4_read, Cond.selects RX4 yX4_read yX4_read, Cond.initialized RX4, Cond.code yX4_read cX4_read 3 (some .int)]
def wsX8_paneOf_r2 : List Cond := [Cond.fieldLink RX4 16 "LateExcuses$Panes" "rows" "LLateExcuses$Table;", Cond.methodLink RX4 42 yX4_rowOf, Cond.instanceMethod yX4_rowOf, Cond.selects RX4 yX4_rowOf yX4_rowOf, Cond.code yX4_rowOf cX4_rowOf 3 (some .int), Cond.fieldLink RX4 34 "LateExcuses$Panes" "used" "I", Cond.methodLink RX4 38 yX5_get, Cond.instanceMethod yX5_get, Cond.selects RX5 yX5_get yX5_get, Cond.initialized RX5, Cond.code yX5_get cX5_get 4 (some .int), Cond.fieldLink RX5 13 "LateExcuses$Table" "rows" "I", Cond.fieldLink RX5 19 "LateExcuses$Table" "columns" "I", Cond.fieldLink RX5 22 "LateExcuses$Table" "cells" "[I", Cond.methodLink RX1 82 yX1_endOf, Cond.instanceMethod yX1_endOf, Cond.selects RX1 yX1_endOf yX1_endOf, Cond.code yX1_endOf cX1_endOf 2 (some .int), Cond.methodLink RX8 73 yX1_panes, Cond.instanceMethod yX1_panes, Cond.selects RX1 yX1_panes yX1_panes, Cond.code yX1_panes cX1_panes 1 (some (.object "LateExcuses$Panes")), Cond.methodLink RX8 77 yX4_read]
def wsX8_paneOf : List Cond := .code yX8_paneOf cX8_paneOf 3 (some .int) :: ((wsX8_paneOf_r1 ++ wsX8_paneOf_r2) ++ wsX80 ++ wsX10 ++ wsX40 ++ wsX50)
def wsX8_bitsOf : List Cond := .code yX8_bitsOf cX8_bitsOf 4 (some .int) :: ([.constantFloat RX8 191 (1258291200), .constant RX8 192 (8388608), .constant RX8 193 (-2147483648)])
def wsX8_mean_r1 : List Cond := [Cond.fieldLink RX8 10 "LateExcuses" "court" "LLateExcuses$Court;", Cond.constant RX8 34 (-1000001), Cond.constant RX8 72 (-1000004), Cond.methodLink RX8 63 yX1_hasTimes, Cond.instanceMethod yX1_hasTimes, Cond.selects RX1 yX1_hasTimes yX1_hasTimes, Cond.initialized RX1, Cond.code yX1_hasTimes cX1_hasTimes 2 (some .boolean), Cond.fieldLink RX1 32 "LateExcuses$Court" "size" "I", Cond.static yX8_isWithin, Cond.initialized RX8, Cond.code yX8_isWithin cX8_isWithin 3 (some .boolean), Cond.methodLink RX8 73 yX1_panes, Cond.instanceMethod yX1_panes, Cond.selects RX1 yX1_panes yX1_panes, Cond.code yX1_panes cX1_panes 1 (some (.object "LateExcuses$Panes")), Cond.fieldLink RX1 21 "LateExcuses$Court" "panes" "LLateExcuses$Panes;", Cond.methodLink RX8 77 yX4_read, Cond.instanceMethod yX4_read, Cond.selects RX4 yX4_read yX4_read, Cond.initialized RX4, Cond.code yX4_read cX4_read 3 (some .int), Cond.fieldLink RX4 16 "LateExcuses$Panes" "rows" "LLateExcuses$Table;", Cond.methodLink RX4 42 yX4_rowOf]
def wsX8_mean_r2 : List Cond := [Cond.instanceMethod yX4_rowOf, Cond.selects RX4 yX4_rowOf yX4_rowOf, Cond.code yX4_rowOf cX4_rowOf 3 (some .int), Cond.fieldLink RX4 34 "LateExcuses$Panes" "used" "I", Cond.methodLink RX4 38 yX5_get, Cond.instanceMethod yX5_get, Cond.selects RX5 yX5_get yX5_get, Cond.initialized RX5, Cond.code yX5_get cX5_get 4 (some .int), Cond.fieldLink RX5 13 "LateExcuses$Table" "rows" "I", Cond.fieldLink RX5 19 "LateExcuses$Table" "columns" "I", Cond.fieldLink RX5 22 "LateExcuses$Table" "cells" "[I", Cond.methodLink RX8 80 yX8_bitsOf, Cond.static yX8_bitsOf, Cond.code yX8_bitsOf cX8_bitsOf 4 (some .int), Cond.constantFloat RX8 191 (1258291200), Cond.constant RX8 192 (8388608), Cond.constant RX8 193 (-2147483648)]
def wsX8_mean : List Cond := .code yX8_mean cX8_mean 3 (some .int) :: ((wsX8_mean_r1 ++ wsX8_mean_r2) ++ wsX80 ++ wsX10 ++ wsX40 ++ wsX50)
def wsX8_standing_r1 : List Cond := [Cond.fieldLink RX8 10 "LateExcuses" "court" "LLateExcuses$Court;", Cond.constant RX8 34 (-1000001), Cond.constant RX8 72 (-1000004), Cond.methodLink RX8 63 yX1_hasTimes, Cond.instanceMethod yX1_hasTimes, Cond.selects RX1 yX1_hasTimes yX1_hasTimes, Cond.initialized RX1, Cond.code yX1_hasTimes cX1_hasTimes 2 (some .boolean), Cond.fieldLink RX1 32 "LateExcuses$Court" "size" "I", Cond.static yX8_isWithin, Cond.initialized RX8, Cond.code yX8_isWithin cX8_isWithin 3 (some .boolean), Cond.methodLink RX8 30 yX8_isWithin, Cond.methodLink RX8 73 yX1_panes, Cond.instanceMethod yX1_panes, Cond.selects RX1 yX1_panes yX1_panes, Cond.code yX1_panes cX1_panes 1 (some (.object "LateExcuses$Panes")), Cond.fieldLink RX1 21 "LateExcuses$Court" "panes" "LLateExcuses$Panes;", Cond.methodLink RX8 84 yX4_hasWord, Cond.instanceMethod yX4_hasWord, Cond.selects RX4 yX4_hasWord yX4_hasWord, Cond.initialized RX4, Cond.code yX4_hasWord cX4_hasWord 2 (some .boolean), Cond.methodLink RX4 42 yX4_rowOf]
def wsX8_standing_r2 : List Cond := [Cond.instanceMethod yX4_rowOf, Cond.selects RX4 yX4_rowOf yX4_rowOf, Cond.code yX4_rowOf cX4_rowOf 3 (some .int), Cond.fieldLink RX4 34 "LateExcuses$Panes" "used" "I", Cond.fieldLink RX4 16 "LateExcuses$Panes" "rows" "LLateExcuses$Table;", Cond.methodLink RX4 38 yX5_get, Cond.instanceMethod yX5_get, Cond.selects RX5 yX5_get yX5_get, Cond.initialized RX5, Cond.code yX5_get cX5_get 4 (some .int), Cond.fieldLink RX5 13 "LateExcuses$Table" "rows" "I", Cond.fieldLink RX5 19 "LateExcuses$Table" "columns" "I", Cond.fieldLink RX5 22 "LateExcuses$Table" "cells" "[I", Cond.methodLink RX4 58 yX4_isStanding, Cond.instanceMethod yX4_isStanding, Cond.selects RX4 yX4_isStanding yX4_isStanding, Cond.code yX4_isStanding cX4_isStanding 2 (some .boolean), Cond.methodLink RX8 77 yX4_read, Cond.instanceMethod yX4_read, Cond.selects RX4 yX4_read yX4_read, Cond.code yX4_read cX4_read 3 (some .int)]
def wsX8_standing : List Cond := .code yX8_standing cX8_standing 3 (some .int) :: ((wsX8_standing_r1 ++ wsX8_standing_r2) ++ wsX80 ++ wsX10 ++ wsX40 ++ wsX50)
def wsX8_nextPane_r1 : List Cond := [Cond.constant RX8 34 (-1000001), Cond.fieldLink RX8 10 "LateExcuses" "court" "LLateExcuses$Court;", Cond.methodLink RX8 30 yX8_isWithin, Cond.static yX8_isWithin, Cond.initialized RX8, Cond.code yX8_isWithin cX8_isWithin 3 (some .boolean), Cond.methodLink RX8 73 yX1_panes, Cond.instanceMethod yX1_panes, Cond.selects RX1 yX1_panes yX1_panes, Cond.initialized RX1, Cond.code yX1_panes cX1_panes 1 (some (.object "LateExcuses$Panes")), Cond.fieldLink RX1 21 "LateExcuses$Court" "panes" "LLateExcuses$Panes;", Cond.methodLink RX8 87 yX4_behind, Cond.instanceMethod yX4_behind, Cond.selects RX4 yX4_behind yX4_behind, Cond.initialized RX4, Cond.code yX4_behind cX4_behind 3 (some .int), Cond.fieldLink RX4 34 "LateExcuses$Panes" "used" "I", Cond.fieldLink RX4 16 "LateExcuses$Panes" "rows" "LLateExcuses$Table;", Cond.constant RX4 57 (-1000004), Cond.methodLink RX4 46 yX4_rowBehind, Cond.instanceMethod yX4_rowBehind, Cond.selects RX4 yX4_rowBehind yX4_rowBehind, Cond.code yX4_rowBehind cX4_rowBehind 3 (some .int)]
def wsX8_nextPane_r2 : List Cond := [Cond.methodLink RX4 38 yX5_get, Cond.instanceMethod yX5_get, Cond.selects RX5 yX5_get yX5_get, Cond.initialized RX5, Cond.code yX5_get cX5_get 4 (some .int), Cond.fieldLink RX5 13 "LateExcuses$Table" "rows" "I", Cond.fieldLink RX5 19 "LateExcuses$Table" "columns" "I", Cond.fieldLink RX5 22 "LateExcuses$Table" "cells" "[I"]
def wsX8_nextPane : List Cond := .code yX8_nextPane cX8_nextPane 2 (some .int) :: ((wsX8_nextPane_r1 ++ wsX8_nextPane_r2) ++ wsX80 ++ wsX10 ++ wsX40 ++ wsX50)
def wsX8_wordAt_r1 : List Cond := [Cond.constant RX8 34 (-1000001), Cond.fieldLink RX8 10 "LateExcuses" "court" "LLateExcuses$Court;", Cond.methodLink RX8 30 yX8_isWithin, Cond.static yX8_isWithin, Cond.initialized RX8, Cond.code yX8_isWithin cX8_isWithin 3 (some .boolean), Cond.methodLink RX8 73 yX1_panes, Cond.instanceMethod yX1_panes, Cond.selects RX1 yX1_panes yX1_panes, Cond.initialized RX1, Cond.code yX1_panes cX1_panes 1 (some (.object "LateExcuses$Panes")), Cond.fieldLink RX1 21 "LateExcuses$Court" "panes" "LLateExcuses$Panes;", Cond.methodLink RX8 90 yX4_words, Cond.instanceMethod yX4_words, Cond.selects RX4 yX4_words yX4_words, Cond.initialized RX4, Cond.code yX4_words cX4_words 1 (some (.object "LateExcuses$Words")), Cond.fieldLink RX4 23 "LateExcuses$Panes" "words" "LLateExcuses$Words;", Cond.methodLink RX8 94 yX7_read, Cond.instanceMethod yX7_read, Cond.selects RX7 yX7_read yX7_read, Cond.initialized RX7, Cond.code yX7_read cX7_read 3 (some .int), Cond.fieldLink RX7 24 "LateExcuses$Words" "kept" "I"]
def wsX8_wordAt_r2 : List Cond := [Cond.fieldLink RX7 16 "LateExcuses$Words" "rows" "LLateExcuses$Table;", Cond.constant RX7 38 (-1000004), Cond.methodLink RX7 34 yX5_get, Cond.instanceMethod yX5_get, Cond.selects RX5 yX5_get yX5_get, Cond.initialized RX5, Cond.code yX5_get cX5_get 4 (some .int), Cond.fieldLink RX5 13 "LateExcuses$Table" "rows" "I", Cond.fieldLink RX5 19 "LateExcuses$Table" "columns" "I", Cond.fieldLink RX5 22 "LateExcuses$Table" "cells" "[I"]
def wsX8_wordAt : List Cond := .code yX8_wordAt cX8_wordAt 3 (some .int) :: ((wsX8_wordAt_r1 ++ wsX8_wordAt_r2) ++ wsX80 ++ wsX10 ++ wsX40 ++ wsX70 ++ wsX50)
def wsX8_eventOf_r1 : List Cond := [Cond.constant RX8 34 (-1000001), Cond.fieldLink RX8 10 "LateExcuses" "court" "LLateExcuses$Court;", Cond.methodLink RX8 30 yX8_isWithin, Cond.static yX8_isWithin, Cond.initialized RX8, Cond.code yX8_isWithin cX8_isWithin 3 (some .boolean), Cond.methodLink RX8 97 yX1_events, Cond.instanceMethod yX1_events, Cond.selects RX1 yX1_events yX1_events, Cond.initialized RX1, Cond.code yX1_events cX1_events 1 (some (.object "LateExcuses$Events")), Cond.fieldLink RX1 12 "LateExcuses$Court" "events" "LLateExcuses$Events;", Cond.methodLink RX8 101 yX2_read, Cond.instanceMethod yX2_read, Cond.selects RX2 yX2_read yX2_read, Cond.initialized RX2, Cond.code yX2_read cX2_read 3 (some .int), Cond.fieldLink RX2 14 "LateExcuses$Events" "rows" "LLateExcuses$Table;", Cond.constant RX2 36 (-1000004), Cond.methodLink RX2 32 yX2_hasCome, Cond.instanceMethod yX2_hasCome, Cond.selects RX2 yX2_hasCome yX2_hasCome, Cond.code yX2_hasCome cX2_hasCome 2 (some .boolean), Cond.methodLink RX2 28 yX5_get]
def wsX8_eventOf_r2 : List Cond := [Cond.instanceMethod yX5_get, Cond.selects RX5 yX5_get yX5_get, Cond.initialized RX5, Cond.code yX5_get cX5_get 4 (some .int), Cond.fieldLink RX5 13 "LateExcuses$Table" "rows" "I", Cond.fieldLink RX5 19 "LateExcuses$Table" "columns" "I", Cond.fieldLink RX5 22 "LateExcuses$Table" "cells" "[I"]
def wsX8_eventOf : List Cond := .code yX8_eventOf cX8_eventOf 3 (some .int) :: ((wsX8_eventOf_r1 ++ wsX8_eventOf_r2) ++ wsX80 ++ wsX10 ++ wsX20 ++ wsX50)
def wsX8_judge_r1 : List Cond := [Cond.fieldLink RX8 10 "LateExcuses" "court" "LLateExcuses$Court;", Cond.constant RX8 34 (-1000001), Cond.methodLink RX8 30 yX8_isWithin, Cond.static yX8_isWithin, Cond.initialized RX8, Cond.code yX8_isWithin cX8_isWithin 3 (some .boolean), Cond.methodLink RX8 104 yX1_verdict, Cond.instanceMethod yX1_verdict, Cond.selects RX1 yX1_verdict yX1_verdict, Cond.initialized RX1, Cond.code yX1_verdict cX1_verdict 6 (some .int), Cond.fieldLink RX1 28 "LateExcuses$Court" "cabinets" "LLateExcuses$Cabinets;", Cond.methodLink RX1 85 yX1_paneAt, Cond.instanceMethod yX1_paneAt, Cond.selects RX1 yX1_paneAt yX1_paneAt, Cond.code yX1_paneAt cX1_paneAt 2 (some .int), Cond.fieldLink RX1 32 "LateExcuses$Court" "size" "I", Cond.methodLink RX1 88 yX1_stateOf, Cond.instanceMethod yX1_stateOf, Cond.selects RX1 yX1_stateOf yX1_stateOf, Cond.code yX1_stateOf cX1_stateOf 3 (some .int), Cond.fieldLink RX1 21 "LateExcuses$Court" "panes" "LLateExcuses$Panes;", Cond.fieldLink RX1 42 "LateExcuses$Court" "watermark" "I", Cond.methodLink RX1 79 yX4_read]
def wsX8_judge_r2 : List Cond := [Cond.instanceMethod yX4_read, Cond.selects RX4 yX4_read yX4_read, Cond.initialized RX4, Cond.code yX4_read cX4_read 3 (some .int), Cond.fieldLink RX4 16 "LateExcuses$Panes" "rows" "LLateExcuses$Table;", Cond.methodLink RX4 42 yX4_rowOf, Cond.instanceMethod yX4_rowOf, Cond.selects RX4 yX4_rowOf yX4_rowOf, Cond.code yX4_rowOf cX4_rowOf 3 (some .int), Cond.fieldLink RX4 34 "LateExcuses$Panes" "used" "I", Cond.methodLink RX4 38 yX5_get, Cond.instanceMethod yX5_get, Cond.selects RX5 yX5_get yX5_get, Cond.initialized RX5, Cond.code yX5_get cX5_get 4 (some .int), Cond.fieldLink RX5 13 "LateExcuses$Table" "rows" "I", Cond.fieldLink RX5 19 "LateExcuses$Table" "columns" "I", Cond.fieldLink RX5 22 "LateExcuses$Table" "cells" "[I", Cond.methodLink RX1 82 yX1_endOf, Cond.instanceMethod yX1_endOf, Cond.selects RX1 yX1_endOf yX1_endOf, Cond.code yX1_endOf cX1_endOf 2 (some .int), Cond.methodLink RX1 91 yX1_isAcceptable, Cond.instanceMethod yX1_isAcceptable]
def wsX8_judge_r3 : List Cond := [Cond.selects RX1 yX1_isAcceptable yX1_isAcceptable, Cond.code yX1_isAcceptable cX1_isAcceptable 5 (some .boolean), Cond.fieldLink RX1 12 "LateExcuses$Court" "events" "LLateExcuses$Events;", Cond.methodLink RX1 98 yX1_lateBy, Cond.instanceMethod yX1_lateBy, Cond.selects RX1 yX1_lateBy yX1_lateBy, Cond.code yX1_lateBy cX1_lateBy 2 (some .int), Cond.methodLink RX1 101 yX2_hadIllness, Cond.instanceMethod yX2_hadIllness, Cond.selects RX2 yX2_hadIllness yX2_hadIllness, Cond.initialized RX2, Cond.code yX2_hadIllness cX2_hadIllness 3 (some .boolean), Cond.fieldLink RX2 14 "LateExcuses$Events" "rows" "LLateExcuses$Table;", Cond.methodLink RX2 28 yX5_get, Cond.methodLink RX2 41 yX2_hasOutcome, Cond.instanceMethod yX2_hasOutcome, Cond.selects RX2 yX2_hasOutcome yX2_hasOutcome, Cond.code yX2_hasOutcome cX2_hasOutcome 5 (some .boolean), Cond.methodLink RX1 94 yX0_hasPlaceFor, Cond.instanceMethod yX0_hasPlaceFor, Cond.selects RX0 yX0_hasPlaceFor yX0_hasPlaceFor, Cond.initialized RX0, Cond.code yX0_hasPlaceFor cX0_hasPlaceFor 2 (some .boolean), Cond.methodLink RX0 29 yX0_cabinetFor]
def wsX8_judge_r4 : List Cond := [Cond.instanceMethod yX0_cabinetFor, Cond.selects RX0 yX0_cabinetFor yX0_cabinetFor, Cond.code yX0_cabinetFor cX0_cabinetFor 2 (some .int), Cond.methodLink RX0 33 yX0_isFull, Cond.instanceMethod yX0_isFull, Cond.selects RX0 yX0_isFull yX0_isFull, Cond.code yX0_isFull cX0_isFull 2 (some .boolean), Cond.fieldLink RX0 16 "LateExcuses$Cabinets" "rows" "LLateExcuses$Table;", Cond.methodLink RX0 24 yX5_get]
def wsX8_judge : List Cond := .code yX8_judge cX8_judge 5 (some .int) :: ((wsX8_judge_r1 ++ (wsX8_judge_r2 ++ (wsX8_judge_r3 ++ wsX8_judge_r4))) ++ wsX80 ++ wsX10 ++ wsX40 ++ wsX50 ++ wsX20 ++ wsX00)
def wsX8_lateness_r1 : List Cond := [Cond.constant RX8 34 (-1000001), Cond.fieldLink RX8 10 "LateExcuses" "court" "LLateExcuses$Court;", Cond.constant RX8 72 (-1000004), Cond.methodLink RX8 30 yX8_isWithin, Cond.static yX8_isWithin, Cond.initialized RX8, Cond.code yX8_isWithin cX8_isWithin 3 (some .boolean), Cond.methodLink RX8 108 yX1_paneAt, Cond.instanceMethod yX1_paneAt, Cond.selects RX1 yX1_paneAt yX1_paneAt, Cond.initialized RX1, Cond.code yX1_paneAt cX1_paneAt 2 (some .int), Cond.fieldLink RX1 32 "LateExcuses$Court" "size" "I", Cond.methodLink RX8 67 yX1_stateOf, Cond.instanceMethod yX1_stateOf, Cond.selects RX1 yX1_stateOf yX1_stateOf, Cond.code yX1_stateOf cX1_stateOf 3 (some .int), Cond.fieldLink RX1 21 "LateExcuses$Court" "panes" "LLateExcuses$Panes;", Cond.fieldLink RX1 42 "LateExcuses$Court" "watermark" "I", Cond.methodLink RX1 79 yX4_read, Cond.instanceMethod yX4_read, Cond.selects RX4 yX4_read yX4_read, Cond.initialized RX4, Cond.code yX4_read cX4_read 3 (some .int)]
def wsX8_lateness_r2 : List Cond := [Cond.fieldLink RX4 16 "LateExcuses$Panes" "rows" "LLateExcuses$Table;", Cond.methodLink RX4 42 yX4_rowOf, Cond.instanceMethod yX4_rowOf, Cond.selects RX4 yX4_rowOf yX4_rowOf, Cond.code yX4_rowOf cX4_rowOf 3 (some .int), Cond.fieldLink RX4 34 "LateExcuses$Panes" "used" "I", Cond.methodLink RX4 38 yX5_get, Cond.instanceMethod yX5_get, Cond.selects RX5 yX5_get yX5_get, Cond.initialized RX5, Cond.code yX5_get cX5_get 4 (some .int), Cond.fieldLink RX5 13 "LateExcuses$Table" "rows" "I", Cond.fieldLink RX5 19 "LateExcuses$Table" "columns" "I", Cond.fieldLink RX5 22 "LateExcuses$Table" "cells" "[I", Cond.methodLink RX1 82 yX1_endOf, Cond.instanceMethod yX1_endOf, Cond.selects RX1 yX1_endOf yX1_endOf, Cond.code yX1_endOf cX1_endOf 2 (some .int), Cond.methodLink RX8 111 yX1_lateBy, Cond.instanceMethod yX1_lateBy, Cond.selects RX1 yX1_lateBy yX1_lateBy, Cond.code yX1_lateBy cX1_lateBy 2 (some .int)]
def wsX8_lateness : List Cond := .code yX8_lateness cX8_lateness 3 (some .int) :: ((wsX8_lateness_r1 ++ wsX8_lateness_r2) ++ wsX80 ++ wsX10 ++ wsX40 ++ wsX50)
def wsX8_latestExcused_r1 : List Cond := [Cond.constant RX8 34 (-1000001), Cond.fieldLink RX8 10 "LateExcuses" "court" "LLateExcuses$Court;", Cond.methodLink RX8 30 yX8_isWithin, Cond.static yX8_isWithin, Cond.initialized RX8, Cond.code yX8_isWithin cX8_isWithin 3 (some .boolean), Cond.methodLink RX8 114 yX1_latestAcceptable, Cond.instanceMethod yX1_latestAcceptable, Cond.selects RX1 yX1_latestAcceptable yX1_latestAcceptable, Cond.initialized RX1, Cond.code yX1_latestAcceptable cX1_latestAcceptable 5 (some .int), Cond.fieldLink RX1 42 "LateExcuses$Court" "watermark" "I", Cond.constant RX1 108 (-1000004), Cond.methodLink RX1 85 yX1_paneAt, Cond.instanceMethod yX1_paneAt, Cond.selects RX1 yX1_paneAt yX1_paneAt, Cond.code yX1_paneAt cX1_paneAt 2 (some .int), Cond.fieldLink RX1 32 "LateExcuses$Court" "size" "I", Cond.methodLink RX1 88 yX1_stateOf, Cond.instanceMethod yX1_stateOf, Cond.selects RX1 yX1_stateOf yX1_stateOf, Cond.code yX1_stateOf cX1_stateOf 3 (some .int), Cond.fieldLink RX1 21 "LateExcuses$Court" "panes" "LLateExcuses$Panes;", Cond.methodLink RX1 79 yX4_read]
def wsX8_latestExcused_r2 : List Cond := [Cond.instanceMethod yX4_read, Cond.selects RX4 yX4_read yX4_read, Cond.initialized RX4, Cond.code yX4_read cX4_read 3 (some .int), Cond.fieldLink RX4 16 "LateExcuses$Panes" "rows" "LLateExcuses$Table;", Cond.methodLink RX4 42 yX4_rowOf, Cond.instanceMethod yX4_rowOf, Cond.selects RX4 yX4_rowOf yX4_rowOf, Cond.code yX4_rowOf cX4_rowOf 3 (some .int), Cond.fieldLink RX4 34 "LateExcuses$Panes" "used" "I", Cond.methodLink RX4 38 yX5_get, Cond.instanceMethod yX5_get, Cond.selects RX5 yX5_get yX5_get, Cond.initialized RX5, Cond.code yX5_get cX5_get 4 (some .int), Cond.fieldLink RX5 13 "LateExcuses$Table" "rows" "I", Cond.fieldLink RX5 19 "LateExcuses$Table" "columns" "I", Cond.fieldLink RX5 22 "LateExcuses$Table" "cells" "[I", Cond.methodLink RX1 82 yX1_endOf, Cond.instanceMethod yX1_endOf, Cond.selects RX1 yX1_endOf yX1_endOf, Cond.code yX1_endOf cX1_endOf 2 (some .int), Cond.methodLink RX1 104 yX1_latestIn, Cond.instanceMethod yX1_latestIn]
def wsX8_latestExcused_r3 : List Cond := [Cond.selects RX1 yX1_latestIn yX1_latestIn, Cond.code yX1_latestIn cX1_latestIn 6 (some .int), Cond.methodLink RX1 109 Lib.Math.max.name, Cond.static Lib.Math.max.name, Cond.initialized "java/lang/Math", Cond.code Lib.Math.max.name Lib.Math.max.code 2 (some .int), Cond.methodLink RX1 91 yX1_isAcceptable, Cond.instanceMethod yX1_isAcceptable, Cond.selects RX1 yX1_isAcceptable yX1_isAcceptable, Cond.code yX1_isAcceptable cX1_isAcceptable 5 (some .boolean), Cond.fieldLink RX1 12 "LateExcuses$Court" "events" "LLateExcuses$Events;", Cond.methodLink RX1 98 yX1_lateBy, Cond.instanceMethod yX1_lateBy, Cond.selects RX1 yX1_lateBy yX1_lateBy, Cond.code yX1_lateBy cX1_lateBy 2 (some .int), Cond.methodLink RX1 101 yX2_hadIllness, Cond.instanceMethod yX2_hadIllness, Cond.selects RX2 yX2_hadIllness yX2_hadIllness, Cond.initialized RX2, Cond.code yX2_hadIllness cX2_hadIllness 3 (some .boolean), Cond.fieldLink RX2 14 "LateExcuses$Events" "rows" "LLateExcuses$Table;", Cond.methodLink RX2 28 yX5_get, Cond.methodLink RX2 41 yX2_hasOutcome, Cond.instanceMethod yX2_hasOutcome]
def wsX8_latestExcused_r4 : List Cond := [Cond.selects RX2 yX2_hasOutcome yX2_hasOutcome, Cond.code yX2_hasOutcome cX2_hasOutcome 5 (some .boolean)]
def wsX8_latestExcused : List Cond := .code yX8_latestExcused cX8_latestExcused 3 (some .int) :: ((wsX8_latestExcused_r1 ++ (wsX8_latestExcused_r2 ++ (wsX8_latestExcused_r3 ++ wsX8_latestExcused_r4))) ++ wsX80 ++ wsX10 ++ wsX40 ++ wsX50 ++ wsX20)
def wsX8_filed_r1 : List Cond := [Cond.constant RX8 34 (-1000001), Cond.fieldLink RX8 10 "LateExcuses" "court" "LLateExcuses$Court;", Cond.methodLink RX8 30 yX8_isWithin, Cond.static yX8_isWithin, Cond.initialized RX8, Cond.code yX8_isWithin cX8_isWithin 3 (some .boolean), Cond.methodLink RX8 119 yX1_cabinets, Cond.instanceMethod yX1_cabinets, Cond.selects RX1 yX1_cabinets yX1_cabinets, Cond.initialized RX1, Cond.code yX1_cabinets cX1_cabinets 1 (some (.object "LateExcuses$Cabinets")), Cond.fieldLink RX1 28 "LateExcuses$Court" "cabinets" "LLateExcuses$Cabinets;", Cond.methodLink RX8 123 yX0_read, Cond.instanceMethod yX0_read, Cond.selects RX0 yX0_read yX0_read, Cond.initialized RX0, Cond.code yX0_read cX0_read 3 (some .int), Cond.fieldLink RX0 16 "LateExcuses$Cabinets" "rows" "LLateExcuses$Table;", Cond.constant RX0 28 (-1000004), Cond.methodLink RX0 24 yX5_get, Cond.instanceMethod yX5_get, Cond.selects RX5 yX5_get yX5_get, Cond.initialized RX5, Cond.code yX5_get cX5_get 4 (some .int)]
def wsX8_filed_r2 : List Cond := [Cond.fieldLink RX5 13 "LateExcuses$Table" "rows" "I", Cond.fieldLink RX5 19 "LateExcuses$Table" "columns" "I", Cond.fieldLink RX5 22 "LateExcuses$Table" "cells" "[I"]
def wsX8_filed : List Cond := .code yX8_filed cX8_filed 3 (some .int) :: ((wsX8_filed_r1 ++ wsX8_filed_r2) ++ wsX80 ++ wsX10 ++ wsX00 ++ wsX50)
def wsX8_trust_r1 : List Cond := [Cond.constant RX8 34 (-1000001), Cond.fieldLink RX8 10 "LateExcuses" "court" "LLateExcuses$Court;", Cond.constant RX8 72 (-1000004), Cond.methodLink RX8 30 yX8_isWithin, Cond.static yX8_isWithin, Cond.initialized RX8, Cond.code yX8_isWithin cX8_isWithin 3 (some .boolean), Cond.methodLink RX8 97 yX1_events, Cond.instanceMethod yX1_events, Cond.selects RX1 yX1_events yX1_events, Cond.initialized RX1, Cond.code yX1_events cX1_events 1 (some (.object "LateExcuses$Events")), Cond.fieldLink RX1 12 "LateExcuses$Court" "events" "LLateExcuses$Events;", Cond.methodLink RX8 124 yX2_ofKey, Cond.instanceMethod yX2_ofKey, Cond.selects RX2 yX2_ofKey yX2_ofKey, Cond.initialized RX2, Cond.code yX2_ofKey cX2_ofKey 6 (some .int), Cond.fieldLink RX2 14 "LateExcuses$Events" "rows" "LLateExcuses$Table;", Cond.methodLink RX2 28 yX5_get, Cond.instanceMethod yX5_get, Cond.selects RX5 yX5_get yX5_get, Cond.initialized RX5, Cond.code yX5_get cX5_get 4 (some .int)]
def wsX8_trust_r2 : List Cond := [Cond.fieldLink RX5 13 "LateExcuses$Table" "rows" "I", Cond.fieldLink RX5 19 "LateExcuses$Table" "columns" "I", Cond.fieldLink RX5 22 "LateExcuses$Table" "cells" "[I", Cond.methodLink RX2 41 yX2_hasOutcome, Cond.instanceMethod yX2_hasOutcome, Cond.selects RX2 yX2_hasOutcome yX2_hasOutcome, Cond.code yX2_hasOutcome cX2_hasOutcome 5 (some .boolean), Cond.methodLink RX8 80 yX8_bitsOf, Cond.static yX8_bitsOf, Cond.code yX8_bitsOf cX8_bitsOf 4 (some .int), Cond.constantFloat RX8 191 (1258291200), Cond.constant RX8 192 (8388608), Cond.constant RX8 193 (-2147483648)]
def wsX8_trust : List Cond := .code yX8_trust cX8_trust 6 (some .int) :: ((wsX8_trust_r1 ++ wsX8_trust_r2) ++ wsX80 ++ wsX10 ++ wsX20 ++ wsX50)
def wsX8_count_r1 : List Cond := [Cond.fieldLink RX8 10 "LateExcuses" "court" "LLateExcuses$Court;", Cond.fieldLink RX8 19 "LateExcuses" "history" "LLateExcuses$History;", Cond.fieldLink RX8 26 "LateExcuses" "text" "LLateExcuses$Text;", Cond.methodLink RX8 30 yX8_isWithin, Cond.static yX8_isWithin, Cond.initialized RX8, Cond.code yX8_isWithin cX8_isWithin 3 (some .boolean), Cond.methodLink RX8 127 yX1_setting, Cond.instanceMethod yX1_setting, Cond.selects RX1 yX1_setting yX1_setting, Cond.initialized RX1, Cond.code yX1_setting cX1_setting 2 (some .int), Cond.fieldLink RX1 32 "LateExcuses$Court" "size" "I", Cond.fieldLink RX1 36 "LateExcuses$Court" "lag" "I", Cond.fieldLink RX1 39 "LateExcuses$Court" "grace" "I", Cond.methodLink RX8 73 yX1_panes, Cond.instanceMethod yX1_panes, Cond.selects RX1 yX1_panes yX1_panes, Cond.code yX1_panes cX1_panes 1 (some (.object "LateExcuses$Panes")), Cond.fieldLink RX1 21 "LateExcuses$Court" "panes" "LLateExcuses$Panes;", Cond.methodLink RX8 90 yX4_words, Cond.instanceMethod yX4_words, Cond.selects RX4 yX4_words yX4_words, Cond.initialized RX4]
def wsX8_count_r2 : List Cond := [Cond.code yX4_words cX4_words 1 (some (.object "LateExcuses$Words")), Cond.fieldLink RX4 23 "LateExcuses$Panes" "words" "LLateExcuses$Words;", Cond.methodLink RX8 130 yX7_kept, Cond.instanceMethod yX7_kept, Cond.selects RX7 yX7_kept yX7_kept, Cond.initialized RX7, Cond.code yX7_kept cX7_kept 1 (some .int), Cond.fieldLink RX7 24 "LateExcuses$Words" "kept" "I", Cond.methodLink RX8 134 yX7_told, Cond.instanceMethod yX7_told, Cond.selects RX7 yX7_told yX7_told, Cond.code yX7_told cX7_told 1 (some .int), Cond.fieldLink RX7 28 "LateExcuses$Words" "told" "I", Cond.methodLink RX8 137 yX7_takenBack, Cond.instanceMethod yX7_takenBack, Cond.selects RX7 yX7_takenBack yX7_takenBack, Cond.code yX7_takenBack cX7_takenBack 1 (some .int), Cond.fieldLink RX7 31 "LateExcuses$Words" "takenBack" "I", Cond.methodLink RX8 140 yX4_closedCases, Cond.instanceMethod yX4_closedCases, Cond.selects RX4 yX4_closedCases yX4_closedCases, Cond.code yX4_closedCases cX4_closedCases 3 (some .int), Cond.fieldLink RX4 34 "LateExcuses$Panes" "used" "I", Cond.fieldLink RX4 16 "LateExcuses$Panes" "rows" "LLateExcuses$Table;"]
def wsX8_count_r3 : List Cond := [Cond.methodLink RX4 38 yX5_get, Cond.instanceMethod yX5_get, Cond.selects RX5 yX5_get yX5_get, Cond.initialized RX5, Cond.code yX5_get cX5_get 4 (some .int), Cond.fieldLink RX5 13 "LateExcuses$Table" "rows" "I", Cond.fieldLink RX5 19 "LateExcuses$Table" "columns" "I", Cond.fieldLink RX5 22 "LateExcuses$Table" "cells" "[I", Cond.methodLink RX8 143 yX3_states, Cond.instanceMethod yX3_states, Cond.selects RX3 yX3_states yX3_states, Cond.initialized RX3, Cond.code yX3_states cX3_states 1 (some .int), Cond.fieldLink RX3 15 "LateExcuses$History" "states" "I", Cond.methodLink RX8 146 yX6_length, Cond.instanceMethod yX6_length, Cond.selects RX6 yX6_length yX6_length, Cond.initialized RX6, Cond.code yX6_length cX6_length 1 (some .int), Cond.fieldLink RX6 15 "LateExcuses$Text" "length" "I", Cond.methodLink RX8 149 yX1_number, Cond.instanceMethod yX1_number, Cond.selects RX1 yX1_number yX1_number, Cond.code yX1_number cX1_number 2 (some .int)]
def wsX8_count_r4 : List Cond := [Cond.fieldLink RX1 12 "LateExcuses$Court" "events" "LLateExcuses$Events;", Cond.fieldLink RX1 42 "LateExcuses$Court" "watermark" "I", Cond.fieldLink RX1 45 "LateExcuses$Court" "latest" "I", Cond.fieldLink RX1 58 "LateExcuses$Court" "moved" "Z", Cond.constant RX1 74 (-1000001), Cond.methodLink RX1 66 yX2_withOutcome, Cond.instanceMethod yX2_withOutcome, Cond.selects RX2 yX2_withOutcome yX2_withOutcome, Cond.initialized RX2, Cond.code yX2_withOutcome cX2_withOutcome 5 (some .int), Cond.methodLink RX2 41 yX2_hasOutcome, Cond.instanceMethod yX2_hasOutcome, Cond.selects RX2 yX2_hasOutcome yX2_hasOutcome, Cond.code yX2_hasOutcome cX2_hasOutcome 5 (some .boolean), Cond.fieldLink RX2 14 "LateExcuses$Events" "rows" "LLateExcuses$Table;", Cond.methodLink RX2 28 yX5_get, Cond.methodLink RX1 70 yX2_doubles, Cond.instanceMethod yX2_doubles, Cond.selects RX2 yX2_doubles yX2_doubles, Cond.code yX2_doubles cX2_doubles 1 (some .int), Cond.fieldLink RX2 24 "LateExcuses$Events" "doubles" "I"]
def wsX8_count : List Cond := .code yX8_count cX8_count 2 (some .int) :: ((wsX8_count_r1 ++ (wsX8_count_r2 ++ (wsX8_count_r3 ++ wsX8_count_r4))) ++ wsX80 ++ wsX10 ++ wsX40 ++ wsX70 ++ wsX50 ++ wsX30 ++ wsX60 ++ wsX20)
def wsX8_undo_r1 : List Cond := [Cond.fieldLink RX8 19 "LateExcuses" "history" "LLateExcuses$History;", Cond.constant RX8 39 (-1000002), Cond.fieldLink RX8 10 "LateExcuses" "court" "LLateExcuses$Court;", Cond.methodLink RX8 143 yX3_states, Cond.instanceMethod yX3_states, Cond.selects RX3 yX3_states yX3_states, Cond.initialized RX3, Cond.code yX3_states cX3_states 1 (some .int), Cond.fieldLink RX3 15 "LateExcuses$History" "states" "I", Cond.methodLink RX8 152 yX3_restore, Cond.instanceMethod yX3_restore, Cond.selects RX3 yX3_restore yX3_restore, Cond.code yX3_restore cX3_restore 4 none, Cond.fieldLink RX3 19 "LateExcuses$History" "oldest" "I", Cond.fieldLink RX3 11 "LateExcuses$History" "past" "[LLateExcuses$Court;", Cond.methodLink RX3 23 yX1_copyFrom, Cond.instanceMethod yX1_copyFrom, Cond.selects RX1 yX1_copyFrom yX1_copyFrom, Cond.initialized RX1, Cond.code yX1_copyFrom cX1_copyFrom 2 none, Cond.fieldLink RX1 12 "LateExcuses$Court" "events" "LLateExcuses$Events;", Cond.fieldLink RX1 21 "LateExcuses$Court" "panes" "LLateExcuses$Panes;", Cond.fieldLink RX1 28 "LateExcuses$Court" "cabinets" "LLateExcuses$Cabinets;", Cond.fieldLink RX1 32 "LateExcuses$Court" "size" "I"]
def wsX8_undo_r2 : List Cond := [Cond.fieldLink RX1 36 "LateExcuses$Court" "lag" "I", Cond.fieldLink RX1 39 "LateExcuses$Court" "grace" "I", Cond.fieldLink RX1 42 "LateExcuses$Court" "watermark" "I", Cond.fieldLink RX1 45 "LateExcuses$Court" "latest" "I", Cond.fieldLink RX1 58 "LateExcuses$Court" "moved" "Z", Cond.methodLink RX1 48 yX2_copyFrom, Cond.instanceMethod yX2_copyFrom, Cond.selects RX2 yX2_copyFrom yX2_copyFrom, Cond.initialized RX2, Cond.code yX2_copyFrom cX2_copyFrom 2 none, Cond.fieldLink RX2 14 "LateExcuses$Events" "rows" "LLateExcuses$Table;", Cond.fieldLink RX2 24 "LateExcuses$Events" "doubles" "I", Cond.methodLink RX2 20 yX5_copyFrom, Cond.instanceMethod yX5_copyFrom, Cond.selects RX5 yX5_copyFrom yX5_copyFrom, Cond.initialized RX5, Cond.code yX5_copyFrom cX5_copyFrom 2 none, Cond.fieldLink RX5 22 "LateExcuses$Table" "cells" "[I", Cond.methodLink RX5 26 arraycopyName, Cond.native arraycopyName, Cond.static arraycopyName, Cond.initialized "java/lang/System", Cond.methodLink RX1 52 yX4_copyFrom, Cond.instanceMethod yX4_copyFrom]
def wsX8_undo_r3 : List Cond := [Cond.selects RX4 yX4_copyFrom yX4_copyFrom, Cond.initialized RX4, Cond.code yX4_copyFrom cX4_copyFrom 2 none, Cond.fieldLink RX4 16 "LateExcuses$Panes" "rows" "LLateExcuses$Table;", Cond.fieldLink RX4 23 "LateExcuses$Panes" "words" "LLateExcuses$Words;", Cond.fieldLink RX4 34 "LateExcuses$Panes" "used" "I", Cond.methodLink RX4 27 yX5_copyFrom, Cond.methodLink RX4 31 yX7_copyFrom, Cond.instanceMethod yX7_copyFrom, Cond.selects RX7 yX7_copyFrom yX7_copyFrom, Cond.initialized RX7, Cond.code yX7_copyFrom cX7_copyFrom 2 none, Cond.fieldLink RX7 16 "LateExcuses$Words" "rows" "LLateExcuses$Table;", Cond.fieldLink RX7 24 "LateExcuses$Words" "kept" "I", Cond.fieldLink RX7 28 "LateExcuses$Words" "told" "I", Cond.fieldLink RX7 31 "LateExcuses$Words" "takenBack" "I", Cond.methodLink RX7 20 yX5_copyFrom, Cond.methodLink RX1 55 yX0_copyFrom, Cond.instanceMethod yX0_copyFrom, Cond.selects RX0 yX0_copyFrom yX0_copyFrom, Cond.initialized RX0, Cond.code yX0_copyFrom cX0_copyFrom 2 none, Cond.fieldLink RX0 16 "LateExcuses$Cabinets" "rows" "LLateExcuses$Table;", Cond.methodLink RX0 20 yX5_copyFrom]
def wsX8_undo : List Cond := .code yX8_undo cX8_undo 1 (some .int) :: ((wsX8_undo_r1 ++ (wsX8_undo_r2 ++ wsX8_undo_r3)) ++ wsX80 ++ wsX30 ++ wsX10 ++ wsX20 ++ wsX50 ++ wsX40 ++ wsX70 ++ wsX00)
def wsX8_type : List Cond := .code yX8_type cX8_type 2 (some .int) :: ([.constant RX8 34 (-1000001), .fieldLink RX8 26 "LateExcuses" "text" "LLateExcuses$Text;", .constant RX8 159 (-1000003), .methodLink RX8 30 yX8_isWithin, .static yX8_isWithin, .initialized RX8, .code yX8_isWithin cX8_isWithin 3 (some .boolean), .methodLink RX8 155 yX6_append, .instanceMethod yX6_append, .selects RX6 yX6_append yX6_append, .initialized RX6, .code yX6_append cX6_append 2 (some .boolean), .fieldLink RX6 15 "LateExcuses$Text" "length" "I", .fieldLink RX6 11 "LateExcuses$Text" "signs" "[C", .methodLink RX8 146 yX6_length, .instanceMethod yX6_length, .selects RX6 yX6_length yX6_length, .code yX6_length cX6_length 1 (some .int)] ++ wsX80 ++ wsX60)
def wsX8_clearText : List Cond := .code yX8_clearText cX8_clearText 2 (some .int) :: ([.fieldLink RX8 26 "LateExcuses" "text" "LLateExcuses$Text;", .methodLink RX8 146 yX6_length, .instanceMethod yX6_length, .selects RX6 yX6_length yX6_length, .initialized RX6, .code yX6_length cX6_length 1 (some .int), .fieldLink RX6 15 "LateExcuses$Text" "length" "I", .methodLink RX8 160 yX6_empty, .instanceMethod yX6_empty, .selects RX6 yX6_empty yX6_empty, .code yX6_empty cX6_empty 1 none] ++ wsX80 ++ wsX60)
def wsX8_fault_r1 : List Cond := [Cond.constant RX8 34 (-1000001), Cond.fieldLink RX8 26 "LateExcuses" "text" "LLateExcuses$Text;", Cond.constant RX8 72 (-1000004), Cond.methodLink RX8 30 yX8_isWithin, Cond.static yX8_isWithin, Cond.initialized RX8, Cond.code yX8_isWithin cX8_isWithin 3 (some .boolean), Cond.methodLink RX8 163 yX6_hasFault, Cond.instanceMethod yX6_hasFault, Cond.selects RX6 yX6_hasFault yX6_hasFault, Cond.initialized RX6, Cond.code yX6_hasFault cX6_hasFault 4 (some .boolean), Cond.fieldLink RX6 15 "LateExcuses$Text" "length" "I", Cond.fieldLink RX6 29 "LateExcuses$Text" "id" "I", Cond.fieldLink RX6 32 "LateExcuses$Text" "time" "I", Cond.fieldLink RX6 35 "LateExcuses$Text" "key" "I", Cond.fieldLink RX6 38 "LateExcuses$Text" "amount" "I", Cond.fieldLink RX6 19 "LateExcuses$Text" "faultPlace" "I", Cond.fieldLink RX6 22 "LateExcuses$Text" "faultReason" "I", Cond.methodLink RX6 25 yX6_readEvent, Cond.instanceMethod yX6_readEvent, Cond.selects RX6 yX6_readEvent yX6_readEvent, Cond.code yX6_readEvent cX6_readEvent 4 (some .int), Cond.fieldLink RX6 45 "LateExcuses$Text" "place" "I"]
def wsX8_fault_r2 : List Cond := [Cond.fieldLink RX6 52 "LateExcuses$Text" "number" "I", Cond.fieldLink RX6 63 "LateExcuses$Text" "excuse" "I", Cond.methodLink RX6 48 yX6_readNumber, Cond.instanceMethod yX6_readNumber, Cond.selects RX6 yX6_readNumber yX6_readNumber, Cond.code yX6_readNumber cX6_readNumber 2 (some .boolean), Cond.methodLink RX6 66 yX6_signHere, Cond.instanceMethod yX6_signHere, Cond.selects RX6 yX6_signHere yX6_signHere, Cond.code yX6_signHere cX6_signHere 1 (some .char), Cond.fieldLink RX6 11 "LateExcuses$Text" "signs" "[C", Cond.methodLink RX6 55 yX6_readSign, Cond.instanceMethod yX6_readSign, Cond.selects RX6 yX6_readSign yX6_readSign, Cond.code yX6_readSign cX6_readSign 2 (some .boolean), Cond.methodLink RX6 59 yX6_readExcuse, Cond.instanceMethod yX6_readExcuse, Cond.selects RX6 yX6_readExcuse yX6_readExcuse, Cond.code yX6_readExcuse cX6_readExcuse 1 (some .int), Cond.static yX8_isEvent, Cond.code yX8_isEvent cX8_isEvent 4 (some .boolean), Cond.methodLink RX8 166 yX6_faultPlace, Cond.instanceMethod yX6_faultPlace, Cond.selects RX6 yX6_faultPlace yX6_faultPlace]
def wsX8_fault_r3 : List Cond := [Cond.code yX6_faultPlace cX6_faultPlace 1 (some .int), Cond.methodLink RX8 169 yX6_faultReason, Cond.instanceMethod yX6_faultReason, Cond.selects RX6 yX6_faultReason yX6_faultReason, Cond.code yX6_faultReason cX6_faultReason 1 (some .int)]
def wsX8_fault : List Cond := .code yX8_fault cX8_fault 2 (some .int) :: ((wsX8_fault_r1 ++ (wsX8_fault_r2 ++ wsX8_fault_r3)) ++ wsX80 ++ wsX60)
def wsX8_play_r1 : List Cond := [Cond.fieldLink RX8 26 "LateExcuses" "text" "LLateExcuses$Text;", Cond.constant RX8 39 (-1000002), Cond.fieldLink RX8 19 "LateExcuses" "history" "LLateExcuses$History;", Cond.fieldLink RX8 10 "LateExcuses" "court" "LLateExcuses$Court;", Cond.methodLink RX8 163 yX6_hasFault, Cond.instanceMethod yX6_hasFault, Cond.selects RX6 yX6_hasFault yX6_hasFault, Cond.initialized RX6, Cond.code yX6_hasFault cX6_hasFault 4 (some .boolean), Cond.fieldLink RX6 15 "LateExcuses$Text" "length" "I", Cond.fieldLink RX6 29 "LateExcuses$Text" "id" "I", Cond.fieldLink RX6 32 "LateExcuses$Text" "time" "I", Cond.fieldLink RX6 35 "LateExcuses$Text" "key" "I", Cond.fieldLink RX6 38 "LateExcuses$Text" "amount" "I", Cond.fieldLink RX6 19 "LateExcuses$Text" "faultPlace" "I", Cond.fieldLink RX6 22 "LateExcuses$Text" "faultReason" "I", Cond.methodLink RX6 25 yX6_readEvent, Cond.instanceMethod yX6_readEvent, Cond.selects RX6 yX6_readEvent yX6_readEvent, Cond.code yX6_readEvent cX6_readEvent 4 (some .int), Cond.fieldLink RX6 45 "LateExcuses$Text" "place" "I", Cond.fieldLink RX6 52 "LateExcuses$Text" "number" "I", Cond.fieldLink RX6 63 "LateExcuses$Text" "excuse" "I", Cond.methodLink RX6 48 yX6_readNumber]
def wsX8_play_r2 : List Cond := [Cond.instanceMethod yX6_readNumber, Cond.selects RX6 yX6_readNumber yX6_readNumber, Cond.code yX6_readNumber cX6_readNumber 2 (some .boolean), Cond.methodLink RX6 66 yX6_signHere, Cond.instanceMethod yX6_signHere, Cond.selects RX6 yX6_signHere yX6_signHere, Cond.code yX6_signHere cX6_signHere 1 (some .char), Cond.fieldLink RX6 11 "LateExcuses$Text" "signs" "[C", Cond.static yX8_isWithin, Cond.initialized RX8, Cond.code yX8_isWithin cX8_isWithin 3 (some .boolean), Cond.methodLink RX6 55 yX6_readSign, Cond.instanceMethod yX6_readSign, Cond.selects RX6 yX6_readSign yX6_readSign, Cond.code yX6_readSign cX6_readSign 2 (some .boolean), Cond.methodLink RX6 59 yX6_readExcuse, Cond.instanceMethod yX6_readExcuse, Cond.selects RX6 yX6_readExcuse yX6_readExcuse, Cond.code yX6_readExcuse cX6_readExcuse 1 (some .int), Cond.static yX8_isEvent, Cond.code yX8_isEvent cX8_isEvent 4 (some .boolean), Cond.methodLink RX8 30 yX8_isWithin, Cond.methodLink RX8 40 yX3_keep, Cond.instanceMethod yX3_keep]
def wsX8_play_r3 : List Cond := [Cond.selects RX3 yX3_keep yX3_keep, Cond.initialized RX3, Cond.code yX3_keep cX3_keep 4 none, Cond.fieldLink RX3 15 "LateExcuses$History" "states" "I", Cond.fieldLink RX3 19 "LateExcuses$History" "oldest" "I", Cond.fieldLink RX3 11 "LateExcuses$History" "past" "[LLateExcuses$Court;", Cond.classLink RX3 9 RX1, Cond.instantiable RX1 9, Cond.initialized RX1, Cond.instanceMethod yX1_init, Cond.code yX1_init cX1_init 1 none, Cond.methodLink RX1 3 objectInit, Cond.instanceMethod objectInit, Cond.code objectInit ⟨#[0xb1]⟩ 1 none, Cond.classLink RX1 9 RX2, Cond.instantiable RX2 2, Cond.initialized RX2, Cond.fieldLink RX1 12 "LateExcuses$Court" "events" "LLateExcuses$Events;", Cond.classLink RX1 18 RX4, Cond.instantiable RX4 3, Cond.initialized RX4, Cond.fieldLink RX1 21 "LateExcuses$Court" "panes" "LLateExcuses$Panes;", Cond.classLink RX1 25 RX0, Cond.instantiable RX0 1]
def wsX8_play_r4 : List Cond := [Cond.initialized RX0, Cond.fieldLink RX1 28 "LateExcuses$Court" "cabinets" "LLateExcuses$Cabinets;", Cond.fieldLink RX1 32 "LateExcuses$Court" "size" "I", Cond.fieldLink RX1 36 "LateExcuses$Court" "lag" "I", Cond.fieldLink RX1 39 "LateExcuses$Court" "grace" "I", Cond.fieldLink RX1 42 "LateExcuses$Court" "watermark" "I", Cond.fieldLink RX1 45 "LateExcuses$Court" "latest" "I", Cond.instanceMethod yX2_init, Cond.code yX2_init cX2_init 1 none, Cond.methodLink RX2 3 objectInit, Cond.classLink RX2 9 RX5, Cond.instantiable RX5 3, Cond.initialized RX5, Cond.fieldLink RX2 14 "LateExcuses$Events" "rows" "LLateExcuses$Table;", Cond.methodLink RX2 11 yX5_init, Cond.instanceMethod yX5_init, Cond.code yX5_init cX5_init 3 none, Cond.methodLink RX5 1 objectInit, Cond.methodLink RX5 7 Lib.Math.max.name, Cond.static Lib.Math.max.name, Cond.initialized "java/lang/Math", Cond.code Lib.Math.max.name Lib.Math.max.code 2 (some .int), Cond.fieldLink RX5 13 "LateExcuses$Table" "rows" "I", Cond.fieldLink RX5 19 "LateExcuses$Table" "columns" "I"]
def wsX8_play_r5 : List Cond := [Cond.arrayClass .int, Cond.fieldLink RX5 22 "LateExcuses$Table" "cells" "[I", Cond.instanceMethod yX4_init, Cond.code yX4_init cX4_init 1 none, Cond.methodLink RX4 3 objectInit, Cond.classLink RX4 9 RX5, Cond.fieldLink RX4 16 "LateExcuses$Panes" "rows" "LLateExcuses$Table;", Cond.classLink RX4 20 RX7, Cond.instantiable RX7 4, Cond.initialized RX7, Cond.fieldLink RX4 23 "LateExcuses$Panes" "words" "LLateExcuses$Words;", Cond.methodLink RX4 13 yX5_init, Cond.instanceMethod yX7_init, Cond.code yX7_init cX7_init 1 none, Cond.methodLink RX7 3 objectInit, Cond.classLink RX7 9 RX5, Cond.fieldLink RX7 16 "LateExcuses$Words" "rows" "LLateExcuses$Table;", Cond.methodLink RX7 13 yX5_init, Cond.instanceMethod yX0_init, Cond.code yX0_init cX0_init 1 none, Cond.methodLink RX0 5 objectInit, Cond.classLink RX0 11 RX5, Cond.fieldLink RX0 16 "LateExcuses$Cabinets" "rows" "LLateExcuses$Table;", Cond.methodLink RX0 13 yX5_init]
def wsX8_play_r6 : List Cond := [Cond.methodLink RX3 23 yX1_copyFrom, Cond.instanceMethod yX1_copyFrom, Cond.selects RX1 yX1_copyFrom yX1_copyFrom, Cond.code yX1_copyFrom cX1_copyFrom 2 none, Cond.fieldLink RX1 58 "LateExcuses$Court" "moved" "Z", Cond.methodLink RX1 48 yX2_copyFrom, Cond.instanceMethod yX2_copyFrom, Cond.selects RX2 yX2_copyFrom yX2_copyFrom, Cond.code yX2_copyFrom cX2_copyFrom 2 none, Cond.fieldLink RX2 24 "LateExcuses$Events" "doubles" "I", Cond.methodLink RX2 20 yX5_copyFrom, Cond.instanceMethod yX5_copyFrom, Cond.selects RX5 yX5_copyFrom yX5_copyFrom, Cond.code yX5_copyFrom cX5_copyFrom 2 none, Cond.methodLink RX5 26 arraycopyName, Cond.native arraycopyName, Cond.static arraycopyName, Cond.initialized "java/lang/System", Cond.methodLink RX1 52 yX4_copyFrom, Cond.instanceMethod yX4_copyFrom, Cond.selects RX4 yX4_copyFrom yX4_copyFrom, Cond.code yX4_copyFrom cX4_copyFrom 2 none, Cond.fieldLink RX4 34 "LateExcuses$Panes" "used" "I", Cond.methodLink RX4 27 yX5_copyFrom]
def wsX8_play_r7 : List Cond := [Cond.methodLink RX4 31 yX7_copyFrom, Cond.instanceMethod yX7_copyFrom, Cond.selects RX7 yX7_copyFrom yX7_copyFrom, Cond.code yX7_copyFrom cX7_copyFrom 2 none, Cond.fieldLink RX7 24 "LateExcuses$Words" "kept" "I", Cond.fieldLink RX7 28 "LateExcuses$Words" "told" "I", Cond.fieldLink RX7 31 "LateExcuses$Words" "takenBack" "I", Cond.methodLink RX7 20 yX5_copyFrom, Cond.methodLink RX1 55 yX0_copyFrom, Cond.instanceMethod yX0_copyFrom, Cond.selects RX0 yX0_copyFrom yX0_copyFrom, Cond.code yX0_copyFrom cX0_copyFrom 2 none, Cond.methodLink RX0 20 yX5_copyFrom, Cond.methodLink RX8 146 yX6_length, Cond.instanceMethod yX6_length, Cond.selects RX6 yX6_length yX6_length, Cond.code yX6_length cX6_length 1 (some .int), Cond.methodLink RX8 172 yX6_readEvent, Cond.methodLink RX8 52 yX1_admit, Cond.instanceMethod yX1_admit, Cond.selects RX1 yX1_admit yX1_admit, Cond.code yX1_admit cX1_admit 8 (some .int), Cond.methodLink RX1 114 yX2_hasCome, Cond.instanceMethod yX2_hasCome]
def wsX8_play_r8 : List Cond := [Cond.selects RX2 yX2_hasCome yX2_hasCome, Cond.code yX2_hasCome cX2_hasCome 2 (some .boolean), Cond.methodLink RX2 28 yX5_get, Cond.instanceMethod yX5_get, Cond.selects RX5 yX5_get yX5_get, Cond.code yX5_get cX5_get 4 (some .int), Cond.methodLink RX1 117 yX2_addDouble, Cond.instanceMethod yX2_addDouble, Cond.selects RX2 yX2_addDouble yX2_addDouble, Cond.code yX2_addDouble cX2_addDouble 1 none, Cond.methodLink RX1 120 yX1_verdict, Cond.instanceMethod yX1_verdict, Cond.selects RX1 yX1_verdict yX1_verdict, Cond.code yX1_verdict cX1_verdict 6 (some .int), Cond.methodLink RX1 85 yX1_paneAt, Cond.instanceMethod yX1_paneAt, Cond.selects RX1 yX1_paneAt yX1_paneAt, Cond.code yX1_paneAt cX1_paneAt 2 (some .int), Cond.methodLink RX1 88 yX1_stateOf, Cond.instanceMethod yX1_stateOf, Cond.selects RX1 yX1_stateOf yX1_stateOf, Cond.code yX1_stateOf cX1_stateOf 3 (some .int), Cond.methodLink RX1 79 yX4_read, Cond.instanceMethod yX4_read]
def wsX8_play_r9 : List Cond := [Cond.selects RX4 yX4_read yX4_read, Cond.code yX4_read cX4_read 3 (some .int), Cond.methodLink RX4 42 yX4_rowOf, Cond.instanceMethod yX4_rowOf, Cond.selects RX4 yX4_rowOf yX4_rowOf, Cond.code yX4_rowOf cX4_rowOf 3 (some .int), Cond.methodLink RX4 38 yX5_get, Cond.methodLink RX1 82 yX1_endOf, Cond.instanceMethod yX1_endOf, Cond.selects RX1 yX1_endOf yX1_endOf, Cond.code yX1_endOf cX1_endOf 2 (some .int), Cond.methodLink RX1 91 yX1_isAcceptable, Cond.instanceMethod yX1_isAcceptable, Cond.selects RX1 yX1_isAcceptable yX1_isAcceptable, Cond.code yX1_isAcceptable cX1_isAcceptable 5 (some .boolean), Cond.methodLink RX1 98 yX1_lateBy, Cond.instanceMethod yX1_lateBy, Cond.selects RX1 yX1_lateBy yX1_lateBy, Cond.code yX1_lateBy cX1_lateBy 2 (some .int), Cond.methodLink RX1 101 yX2_hadIllness, Cond.instanceMethod yX2_hadIllness, Cond.selects RX2 yX2_hadIllness yX2_hadIllness, Cond.code yX2_hadIllness cX2_hadIllness 3 (some .boolean), Cond.methodLink RX2 41 yX2_hasOutcome]
def wsX8_play_r10 : List Cond := [Cond.instanceMethod yX2_hasOutcome, Cond.selects RX2 yX2_hasOutcome yX2_hasOutcome, Cond.code yX2_hasOutcome cX2_hasOutcome 5 (some .boolean), Cond.methodLink RX1 94 yX0_hasPlaceFor, Cond.instanceMethod yX0_hasPlaceFor, Cond.selects RX0 yX0_hasPlaceFor yX0_hasPlaceFor, Cond.code yX0_hasPlaceFor cX0_hasPlaceFor 2 (some .boolean), Cond.methodLink RX0 29 yX0_cabinetFor, Cond.instanceMethod yX0_cabinetFor, Cond.selects RX0 yX0_cabinetFor yX0_cabinetFor, Cond.code yX0_cabinetFor cX0_cabinetFor 2 (some .int), Cond.methodLink RX0 33 yX0_isFull, Cond.instanceMethod yX0_isFull, Cond.selects RX0 yX0_isFull yX0_isFull, Cond.code yX0_isFull cX0_isFull 2 (some .boolean), Cond.methodLink RX0 24 yX5_get, Cond.methodLink RX1 123 yX2_enter, Cond.instanceMethod yX2_enter, Cond.selects RX2 yX2_enter yX2_enter, Cond.code yX2_enter cX2_enter 6 none, Cond.methodLink RX2 37 yX5_put, Cond.instanceMethod yX5_put, Cond.selects RX5 yX5_put yX5_put, Cond.code yX5_put cX5_put 5 none]
def wsX8_play_r11 : List Cond := [Cond.methodLink RX1 127 yX2_conclude, Cond.instanceMethod yX2_conclude, Cond.selects RX2 yX2_conclude yX2_conclude, Cond.code yX2_conclude cX2_conclude 4 none, Cond.methodLink RX1 131 yX0_file, Cond.instanceMethod yX0_file, Cond.selects RX0 yX0_file yX0_file, Cond.code yX0_file cX0_file 5 none, Cond.methodLink RX0 37 yX5_put, Cond.methodLink RX1 135 yX4_reopen, Cond.instanceMethod yX4_reopen, Cond.selects RX4 yX4_reopen yX4_reopen, Cond.code yX4_reopen cX4_reopen 4 none, Cond.methodLink RX4 62 yX4_rowMadeFor, Cond.instanceMethod yX4_rowMadeFor, Cond.selects RX4 yX4_rowMadeFor yX4_rowMadeFor, Cond.code yX4_rowMadeFor cX4_rowMadeFor 3 (some .int), Cond.methodLink RX4 46 yX4_rowBehind, Cond.instanceMethod yX4_rowBehind, Cond.selects RX4 yX4_rowBehind yX4_rowBehind, Cond.code yX4_rowBehind cX4_rowBehind 3 (some .int), Cond.methodLink RX4 49 yX5_openRow, Cond.instanceMethod yX5_openRow, Cond.selects RX5 yX5_openRow yX5_openRow]
def wsX8_play_r12 : List Cond := [Cond.code yX5_openRow cX5_openRow 5 none, Cond.methodLink RX5 32 yX5_put, Cond.methodLink RX4 53 yX5_put, Cond.methodLink RX4 65 yX4_takeBack, Cond.instanceMethod yX4_takeBack, Cond.selects RX4 yX4_takeBack yX4_takeBack, Cond.code yX4_takeBack cX4_takeBack 3 none, Cond.methodLink RX4 58 yX4_isStanding, Cond.instanceMethod yX4_isStanding, Cond.selects RX4 yX4_isStanding yX4_isStanding, Cond.code yX4_isStanding cX4_isStanding 2 (some .boolean), Cond.methodLink RX4 75 yX7_add, Cond.instanceMethod yX7_add, Cond.selects RX7 yX7_add yX7_add, Cond.code yX7_add cX7_add 5 none, Cond.methodLink RX7 39 yX5_dropFirstRow, Cond.instanceMethod yX5_dropFirstRow, Cond.selects RX5 yX5_dropFirstRow yX5_dropFirstRow, Cond.code yX5_dropFirstRow cX5_dropFirstRow 1 none, Cond.methodLink RX7 42 yX5_put, Cond.methodLink RX1 138 yX4_add, Cond.instanceMethod yX4_add, Cond.selects RX4 yX4_add yX4_add, Cond.code yX4_add cX4_add 5 none]
def wsX8_play_r13 : List Cond := [Cond.methodLink RX1 141 yX1_raiseWatermark, Cond.instanceMethod yX1_raiseWatermark, Cond.selects RX1 yX1_raiseWatermark yX1_raiseWatermark, Cond.code yX1_raiseWatermark cX1_raiseWatermark 3 none, Cond.methodLink RX1 109 Lib.Math.max.name, Cond.methodLink RX1 145 yX4_shutAndClose, Cond.instanceMethod yX4_shutAndClose, Cond.selects RX4 yX4_shutAndClose yX4_shutAndClose, Cond.code yX4_shutAndClose cX4_shutAndClose 6 none, Cond.methodLink RX4 72 yX4_tellWord, Cond.instanceMethod yX4_tellWord, Cond.selects RX4 yX4_tellWord yX4_tellWord, Cond.code yX4_tellWord cX4_tellWord 3 none]
def wsX8_play : List Cond := .code yX8_play cX8_play 5 (some .int) :: ((wsX8_play_r1 ++ (wsX8_play_r2 ++ (wsX8_play_r3 ++ (wsX8_play_r4 ++ (wsX8_play_r5 ++ (wsX8_play_r6 ++ (wsX8_play_r7 ++ (wsX8_play_r8 ++ (wsX8_play_r9 ++ (wsX8_play_r10 ++ (wsX8_play_r11 ++ (wsX8_play_r12 ++ wsX8_play_r13)))))))))))) ++ wsX80 ++ wsX60 ++ wsX30 ++ wsX10 ++ wsX20 ++ wsX40 ++ wsX00 ++ wsX50 ++ wsX70)
def wsX9_init : List Cond := .code yX9_init cX9_init 1 none :: ([.methodLink RX9 1 objectInit, .instanceMethod objectInit, .code objectInit ⟨#[0xb1]⟩ 1 none, .arrayClass .int, .fieldLink RX9 7 "LateExcusesModel" "now" "[I", .fieldLink RX9 13 "LateExcusesModel" "kept" "[I", .fieldLink RX9 16 "LateExcusesModel" "text" "[I", .fieldLink RX9 19 "LateExcusesModel" "read" "[I"] ++ wsX90)
def wsX9_isIn : List Cond := .code yX9_isIn cX9_isIn 3 (some .boolean) :: ([])
def wsX9_ofE : List Cond := .code yX9_ofE cX9_ofE 3 (some .int) :: ([.fieldLink RX9 7 "LateExcusesModel" "now" "[I"] ++ wsX90)
def wsX9_ofP : List Cond := .code yX9_ofP cX9_ofP 3 (some .int) :: ([.fieldLink RX9 7 "LateExcusesModel" "now" "[I"] ++ wsX90)
def wsX9_setsP : List Cond := .code yX9_setsP cX9_setsP 4 none :: ([.fieldLink RX9 7 "LateExcusesModel" "now" "[I"] ++ wsX90)
def wsX9_records : List Cond := .code yX9_records cX9_records 2 none :: ([.fieldLink RX9 22 "LateExcusesModel" "states" "I", .fieldLink RX9 13 "LateExcusesModel" "kept" "[I", .fieldLink RX9 7 "LateExcusesModel" "now" "[I"] ++ wsX90)
def wsX9_undo : List Cond := .code yX9_undo cX9_undo 2 (some .int) :: ([.fieldLink RX9 22 "LateExcusesModel" "states" "I", .constant RX9 26 (-1000002), .fieldLink RX9 7 "LateExcusesModel" "now" "[I", .fieldLink RX9 13 "LateExcusesModel" "kept" "[I"] ++ wsX90)
def wsX9_set : List Cond := .code yX9_set cX9_set 4 (some .int) :: ([.constant RX9 31 (-1000001), .fieldLink RX9 7 "LateExcusesModel" "now" "[I", .constant RX9 26 (-1000002), .methodLink RX9 27 yX9_isIn, .static yX9_isIn, .initialized RX9, .code yX9_isIn cX9_isIn 3 (some .boolean), .methodLink RX9 32 yX9_records, .instanceMethod yX9_records, .selects RX9 yX9_records yX9_records, .code yX9_records cX9_records 2 none, .fieldLink RX9 22 "LateExcusesModel" "states" "I", .fieldLink RX9 13 "LateExcusesModel" "kept" "[I"] ++ wsX90)
def wsX9_paneAt : List Cond := .code yX9_paneAt cX9_paneAt 2 (some .int) :: ([.fieldLink RX9 7 "LateExcusesModel" "now" "[I"] ++ wsX90)
def wsX9_endOf : List Cond := .code yX9_endOf cX9_endOf 2 (some .int) :: ([.fieldLink RX9 7 "LateExcusesModel" "now" "[I"] ++ wsX90)
def wsX9_find : List Cond := .code yX9_find cX9_find 3 (some .int) :: ([.fieldLink RX9 7 "LateExcusesModel" "now" "[I", .methodLink RX9 35 yX9_ofP, .instanceMethod yX9_ofP, .selects RX9 yX9_ofP yX9_ofP, .initialized RX9, .code yX9_ofP cX9_ofP 3 (some .int)] ++ wsX90)
def wsX9_modeOf : List Cond := .code yX9_modeOf cX9_modeOf 3 (some .int) :: ([.methodLink RX9 39 yX9_find, .instanceMethod yX9_find, .selects RX9 yX9_find yX9_find, .initialized RX9, .code yX9_find cX9_find 3 (some .int), .fieldLink RX9 7 "LateExcusesModel" "now" "[I", .methodLink RX9 35 yX9_ofP, .instanceMethod yX9_ofP, .selects RX9 yX9_ofP yX9_ofP, .code yX9_ofP cX9_ofP 3 (some .int)] ++ wsX90)
def wsX9_keeps : List Cond := .code yX9_keeps cX9_keeps 4 (some .int) :: ([.fieldLink RX9 7 "LateExcusesModel" "now" "[I", .methodLink RX9 39 yX9_find, .instanceMethod yX9_find, .selects RX9 yX9_find yX9_find, .initialized RX9, .code yX9_find cX9_find 3 (some .int), .methodLink RX9 35 yX9_ofP, .instanceMethod yX9_ofP, .selects RX9 yX9_ofP yX9_ofP, .code yX9_ofP cX9_ofP 3 (some .int), .methodLink RX9 43 yX9_setsP, .instanceMethod yX9_setsP, .selects RX9 yX9_setsP yX9_setsP, .code yX9_setsP cX9_setsP 4 none] ++ wsX90)
def wsX9_isShut : List Cond := .code yX9_isShut cX9_isShut 2 (some .boolean) :: ([.fieldLink RX9 7 "LateExcusesModel" "now" "[I", .methodLink RX9 47 yX9_modeOf, .instanceMethod yX9_modeOf, .selects RX9 yX9_modeOf yX9_modeOf, .initialized RX9, .code yX9_modeOf cX9_modeOf 3 (some .int), .methodLink RX9 39 yX9_find, .instanceMethod yX9_find, .selects RX9 yX9_find yX9_find, .code yX9_find cX9_find 3 (some .int), .methodLink RX9 35 yX9_ofP, .instanceMethod yX9_ofP, .selects RX9 yX9_ofP yX9_ofP, .code yX9_ofP cX9_ofP 3 (some .int), .methodLink RX9 50 yX9_endOf, .instanceMethod yX9_endOf, .selects RX9 yX9_endOf yX9_endOf, .code yX9_endOf cX9_endOf 2 (some .int)] ++ wsX90)
def wsX9_counts : List Cond := .code yX9_counts cX9_counts 2 (some .boolean) :: ([.methodLink RX9 53 yX9_ofE, .instanceMethod yX9_ofE, .selects RX9 yX9_ofE yX9_ofE, .initialized RX9, .code yX9_ofE cX9_ofE 3 (some .int), .fieldLink RX9 7 "LateExcusesModel" "now" "[I", .methodLink RX9 27 yX9_isIn, .static yX9_isIn, .code yX9_isIn cX9_isIn 3 (some .boolean)] ++ wsX90)
def wsX9_sumOf : List Cond := .code yX9_sumOf cX9_sumOf 7 (some .int) :: ([.methodLink RX9 56 yX9_counts, .instanceMethod yX9_counts, .selects RX9 yX9_counts yX9_counts, .initialized RX9, .code yX9_counts cX9_counts 2 (some .boolean), .methodLink RX9 53 yX9_ofE, .instanceMethod yX9_ofE, .selects RX9 yX9_ofE yX9_ofE, .code yX9_ofE cX9_ofE 3 (some .int), .fieldLink RX9 7 "LateExcusesModel" "now" "[I", .methodLink RX9 27 yX9_isIn, .static yX9_isIn, .code yX9_isIn cX9_isIn 3 (some .boolean), .methodLink RX9 60 yX9_paneAt, .instanceMethod yX9_paneAt, .selects RX9 yX9_paneAt yX9_paneAt, .code yX9_paneAt cX9_paneAt 2 (some .int)] ++ wsX90)
def wsX9_says : List Cond := .code yX9_says cX9_says 6 none :: ([.fieldLink RX9 7 "LateExcusesModel" "now" "[I"] ++ wsX90)
def wsX9_tells_r1 : List Cond := [Cond.fieldLink RX9 7 "LateExcusesModel" "now" "[I", Cond.methodLink RX9 35 yX9_ofP, Cond.instanceMethod yX9_ofP, Cond.selects RX9 yX9_ofP yX9_ofP, Cond.initialized RX9, Cond.code yX9_ofP cX9_ofP 3 (some .int), Cond.methodLink RX9 63 yX9_sumOf, Cond.instanceMethod yX9_sumOf, Cond.selects RX9 yX9_sumOf yX9_sumOf, Cond.code yX9_sumOf cX9_sumOf 7 (some .int), Cond.methodLink RX9 56 yX9_counts, Cond.instanceMethod yX9_counts, Cond.selects RX9 yX9_counts yX9_counts, Cond.code yX9_counts cX9_counts 2 (some .boolean), Cond.methodLink RX9 53 yX9_ofE, Cond.instanceMethod yX9_ofE, Cond.selects RX9 yX9_ofE yX9_ofE, Cond.code yX9_ofE cX9_ofE 3 (some .int), Cond.methodLink RX9 27 yX9_isIn, Cond.static yX9_isIn, Cond.code yX9_isIn cX9_isIn 3 (some .boolean), Cond.methodLink RX9 60 yX9_paneAt, Cond.instanceMethod yX9_paneAt, Cond.selects RX9 yX9_paneAt yX9_paneAt]
def wsX9_tells_r2 : List Cond := [Cond.code yX9_paneAt cX9_paneAt 2 (some .int), Cond.methodLink RX9 43 yX9_setsP, Cond.instanceMethod yX9_setsP, Cond.selects RX9 yX9_setsP yX9_setsP, Cond.code yX9_setsP cX9_setsP 4 none, Cond.methodLink RX9 66 yX9_says, Cond.instanceMethod yX9_says, Cond.selects RX9 yX9_says yX9_says, Cond.code yX9_says cX9_says 6 none]
def wsX9_tells : List Cond := .code yX9_tells cX9_tells 4 none :: ((wsX9_tells_r1 ++ wsX9_tells_r2) ++ wsX90)
def wsX9_takesBack : List Cond := .code yX9_takesBack cX9_takesBack 2 none :: ([.fieldLink RX9 7 "LateExcusesModel" "now" "[I", .methodLink RX9 35 yX9_ofP, .instanceMethod yX9_ofP, .selects RX9 yX9_ofP yX9_ofP, .initialized RX9, .code yX9_ofP cX9_ofP 3 (some .int), .methodLink RX9 43 yX9_setsP, .instanceMethod yX9_setsP, .selects RX9 yX9_setsP yX9_setsP, .code yX9_setsP cX9_setsP 4 none, .methodLink RX9 66 yX9_says, .instanceMethod yX9_says, .selects RX9 yX9_says yX9_says, .code yX9_says cX9_says 6 none] ++ wsX90)
def wsX9_nextKept : List Cond := .code yX9_nextKept cX9_nextKept 4 (some .int) :: ([.fieldLink RX9 7 "LateExcusesModel" "now" "[I", .methodLink RX9 35 yX9_ofP, .instanceMethod yX9_ofP, .selects RX9 yX9_ofP yX9_ofP, .initialized RX9, .code yX9_ofP cX9_ofP 3 (some .int)] ++ wsX90)
def wsX9_rises_r1 : List Cond := [Cond.fieldLink RX9 7 "LateExcusesModel" "now" "[I", Cond.methodLink RX9 70 yX9_nextKept, Cond.instanceMethod yX9_nextKept, Cond.selects RX9 yX9_nextKept yX9_nextKept, Cond.initialized RX9, Cond.code yX9_nextKept cX9_nextKept 4 (some .int), Cond.methodLink RX9 35 yX9_ofP, Cond.instanceMethod yX9_ofP, Cond.selects RX9 yX9_ofP yX9_ofP, Cond.code yX9_ofP cX9_ofP 3 (some .int), Cond.methodLink RX9 50 yX9_endOf, Cond.instanceMethod yX9_endOf, Cond.selects RX9 yX9_endOf yX9_endOf, Cond.code yX9_endOf cX9_endOf 2 (some .int), Cond.methodLink RX9 73 yX9_tells, Cond.instanceMethod yX9_tells, Cond.selects RX9 yX9_tells yX9_tells, Cond.code yX9_tells cX9_tells 4 none, Cond.methodLink RX9 63 yX9_sumOf, Cond.instanceMethod yX9_sumOf, Cond.selects RX9 yX9_sumOf yX9_sumOf, Cond.code yX9_sumOf cX9_sumOf 7 (some .int), Cond.methodLink RX9 56 yX9_counts, Cond.instanceMethod yX9_counts]
def wsX9_rises_r2 : List Cond := [Cond.selects RX9 yX9_counts yX9_counts, Cond.code yX9_counts cX9_counts 2 (some .boolean), Cond.methodLink RX9 53 yX9_ofE, Cond.instanceMethod yX9_ofE, Cond.selects RX9 yX9_ofE yX9_ofE, Cond.code yX9_ofE cX9_ofE 3 (some .int), Cond.methodLink RX9 27 yX9_isIn, Cond.static yX9_isIn, Cond.code yX9_isIn cX9_isIn 3 (some .boolean), Cond.methodLink RX9 60 yX9_paneAt, Cond.instanceMethod yX9_paneAt, Cond.selects RX9 yX9_paneAt yX9_paneAt, Cond.code yX9_paneAt cX9_paneAt 2 (some .int), Cond.methodLink RX9 43 yX9_setsP, Cond.instanceMethod yX9_setsP, Cond.selects RX9 yX9_setsP yX9_setsP, Cond.code yX9_setsP cX9_setsP 4 none, Cond.methodLink RX9 66 yX9_says, Cond.instanceMethod yX9_says, Cond.selects RX9 yX9_says yX9_says, Cond.code yX9_says cX9_says 6 none]
def wsX9_rises : List Cond := .code yX9_rises cX9_rises 5 none :: ((wsX9_rises_r1 ++ wsX9_rises_r2) ++ wsX90)
def wsX9_wasIll : List Cond := .code yX9_wasIll cX9_wasIll 4 (some .boolean) :: ([.methodLink RX9 53 yX9_ofE, .instanceMethod yX9_ofE, .selects RX9 yX9_ofE yX9_ofE, .initialized RX9, .code yX9_ofE cX9_ofE 3 (some .int), .fieldLink RX9 7 "LateExcusesModel" "now" "[I"] ++ wsX90)
def wsX9_isExcuse : List Cond := .code yX9_isExcuse cX9_isExcuse 5 (some .boolean) :: ([.fieldLink RX9 7 "LateExcusesModel" "now" "[I", .methodLink RX9 60 yX9_paneAt, .instanceMethod yX9_paneAt, .selects RX9 yX9_paneAt yX9_paneAt, .initialized RX9, .code yX9_paneAt cX9_paneAt 2 (some .int), .methodLink RX9 50 yX9_endOf, .instanceMethod yX9_endOf, .selects RX9 yX9_endOf yX9_endOf, .code yX9_endOf cX9_endOf 2 (some .int), .methodLink RX9 77 yX9_wasIll, .instanceMethod yX9_wasIll, .selects RX9 yX9_wasIll yX9_wasIll, .code yX9_wasIll cX9_wasIll 4 (some .boolean), .methodLink RX9 53 yX9_ofE, .instanceMethod yX9_ofE, .selects RX9 yX9_ofE yX9_ofE, .code yX9_ofE cX9_ofE 3 (some .int)] ++ wsX90)
def wsX9_placeIn : List Cond := .code yX9_placeIn cX9_placeIn 3 (some .int) :: ([.fieldLink RX9 7 "LateExcusesModel" "now" "[I"] ++ wsX90)
def wsX9_placeFor : List Cond := .code yX9_placeFor cX9_placeFor 3 (some .int) :: ([.methodLink RX9 80 yX9_placeIn, .instanceMethod yX9_placeIn, .selects RX9 yX9_placeIn yX9_placeIn, .initialized RX9, .code yX9_placeIn cX9_placeIn 3 (some .int), .fieldLink RX9 7 "LateExcusesModel" "now" "[I"] ++ wsX90)
def wsX9_judgeOf_r1 : List Cond := [Cond.methodLink RX9 60 yX9_paneAt, Cond.instanceMethod yX9_paneAt, Cond.selects RX9 yX9_paneAt yX9_paneAt, Cond.initialized RX9, Cond.code yX9_paneAt cX9_paneAt 2 (some .int), Cond.fieldLink RX9 7 "LateExcusesModel" "now" "[I", Cond.methodLink RX9 47 yX9_modeOf, Cond.instanceMethod yX9_modeOf, Cond.selects RX9 yX9_modeOf yX9_modeOf, Cond.code yX9_modeOf cX9_modeOf 3 (some .int), Cond.methodLink RX9 39 yX9_find, Cond.instanceMethod yX9_find, Cond.selects RX9 yX9_find yX9_find, Cond.code yX9_find cX9_find 3 (some .int), Cond.methodLink RX9 35 yX9_ofP, Cond.instanceMethod yX9_ofP, Cond.selects RX9 yX9_ofP yX9_ofP, Cond.code yX9_ofP cX9_ofP 3 (some .int), Cond.methodLink RX9 83 yX9_isShut, Cond.instanceMethod yX9_isShut, Cond.selects RX9 yX9_isShut yX9_isShut, Cond.code yX9_isShut cX9_isShut 2 (some .boolean), Cond.methodLink RX9 50 yX9_endOf, Cond.instanceMethod yX9_endOf]
def wsX9_judgeOf_r2 : List Cond := [Cond.selects RX9 yX9_endOf yX9_endOf, Cond.code yX9_endOf cX9_endOf 2 (some .int), Cond.methodLink RX9 86 yX9_isExcuse, Cond.instanceMethod yX9_isExcuse, Cond.selects RX9 yX9_isExcuse yX9_isExcuse, Cond.code yX9_isExcuse cX9_isExcuse 5 (some .boolean), Cond.methodLink RX9 77 yX9_wasIll, Cond.instanceMethod yX9_wasIll, Cond.selects RX9 yX9_wasIll yX9_wasIll, Cond.code yX9_wasIll cX9_wasIll 4 (some .boolean), Cond.methodLink RX9 53 yX9_ofE, Cond.instanceMethod yX9_ofE, Cond.selects RX9 yX9_ofE yX9_ofE, Cond.code yX9_ofE cX9_ofE 3 (some .int), Cond.methodLink RX9 89 yX9_placeFor, Cond.instanceMethod yX9_placeFor, Cond.selects RX9 yX9_placeFor yX9_placeFor, Cond.code yX9_placeFor cX9_placeFor 3 (some .int), Cond.methodLink RX9 80 yX9_placeIn, Cond.instanceMethod yX9_placeIn, Cond.selects RX9 yX9_placeIn yX9_placeIn, Cond.code yX9_placeIn cX9_placeIn 3 (some .int)]
def wsX9_judgeOf : List Cond := .code yX9_judgeOf cX9_judgeOf 5 (some .int) :: ((wsX9_judgeOf_r1 ++ wsX9_judgeOf_r2) ++ wsX90)
def wsX9_comes_r1 : List Cond := [Cond.fieldLink RX9 7 "LateExcusesModel" "now" "[I", Cond.methodLink RX9 53 yX9_ofE, Cond.instanceMethod yX9_ofE, Cond.selects RX9 yX9_ofE yX9_ofE, Cond.initialized RX9, Cond.code yX9_ofE cX9_ofE 3 (some .int), Cond.methodLink RX9 92 yX9_judgeOf, Cond.instanceMethod yX9_judgeOf, Cond.selects RX9 yX9_judgeOf yX9_judgeOf, Cond.code yX9_judgeOf cX9_judgeOf 5 (some .int), Cond.methodLink RX9 60 yX9_paneAt, Cond.instanceMethod yX9_paneAt, Cond.selects RX9 yX9_paneAt yX9_paneAt, Cond.code yX9_paneAt cX9_paneAt 2 (some .int), Cond.methodLink RX9 47 yX9_modeOf, Cond.instanceMethod yX9_modeOf, Cond.selects RX9 yX9_modeOf yX9_modeOf, Cond.code yX9_modeOf cX9_modeOf 3 (some .int), Cond.methodLink RX9 39 yX9_find, Cond.instanceMethod yX9_find, Cond.selects RX9 yX9_find yX9_find, Cond.code yX9_find cX9_find 3 (some .int), Cond.methodLink RX9 35 yX9_ofP, Cond.instanceMethod yX9_ofP]
def wsX9_comes_r2 : List Cond := [Cond.selects RX9 yX9_ofP yX9_ofP, Cond.code yX9_ofP cX9_ofP 3 (some .int), Cond.methodLink RX9 83 yX9_isShut, Cond.instanceMethod yX9_isShut, Cond.selects RX9 yX9_isShut yX9_isShut, Cond.code yX9_isShut cX9_isShut 2 (some .boolean), Cond.methodLink RX9 50 yX9_endOf, Cond.instanceMethod yX9_endOf, Cond.selects RX9 yX9_endOf yX9_endOf, Cond.code yX9_endOf cX9_endOf 2 (some .int), Cond.methodLink RX9 86 yX9_isExcuse, Cond.instanceMethod yX9_isExcuse, Cond.selects RX9 yX9_isExcuse yX9_isExcuse, Cond.code yX9_isExcuse cX9_isExcuse 5 (some .boolean), Cond.methodLink RX9 77 yX9_wasIll, Cond.instanceMethod yX9_wasIll, Cond.selects RX9 yX9_wasIll yX9_wasIll, Cond.code yX9_wasIll cX9_wasIll 4 (some .boolean), Cond.methodLink RX9 89 yX9_placeFor, Cond.instanceMethod yX9_placeFor, Cond.selects RX9 yX9_placeFor yX9_placeFor, Cond.code yX9_placeFor cX9_placeFor 3 (some .int), Cond.methodLink RX9 80 yX9_placeIn, Cond.instanceMethod yX9_placeIn]
def wsX9_comes_r3 : List Cond := [Cond.selects RX9 yX9_placeIn yX9_placeIn, Cond.code yX9_placeIn cX9_placeIn 3 (some .int), Cond.methodLink RX9 96 yX9_keeps, Cond.instanceMethod yX9_keeps, Cond.selects RX9 yX9_keeps yX9_keeps, Cond.code yX9_keeps cX9_keeps 4 (some .int), Cond.methodLink RX9 43 yX9_setsP, Cond.instanceMethod yX9_setsP, Cond.selects RX9 yX9_setsP yX9_setsP, Cond.code yX9_setsP cX9_setsP 4 none, Cond.methodLink RX9 99 yX9_takesBack, Cond.instanceMethod yX9_takesBack, Cond.selects RX9 yX9_takesBack yX9_takesBack, Cond.code yX9_takesBack cX9_takesBack 2 none, Cond.methodLink RX9 66 yX9_says, Cond.instanceMethod yX9_says, Cond.selects RX9 yX9_says yX9_says, Cond.code yX9_says cX9_says 6 none, Cond.methodLink RX9 102 yX9_rises, Cond.instanceMethod yX9_rises, Cond.selects RX9 yX9_rises yX9_rises, Cond.code yX9_rises cX9_rises 5 none, Cond.methodLink RX9 70 yX9_nextKept, Cond.instanceMethod yX9_nextKept]
def wsX9_comes_r4 : List Cond := [Cond.selects RX9 yX9_nextKept yX9_nextKept, Cond.code yX9_nextKept cX9_nextKept 4 (some .int), Cond.methodLink RX9 73 yX9_tells, Cond.instanceMethod yX9_tells, Cond.selects RX9 yX9_tells yX9_tells, Cond.code yX9_tells cX9_tells 4 none, Cond.methodLink RX9 63 yX9_sumOf, Cond.instanceMethod yX9_sumOf, Cond.selects RX9 yX9_sumOf yX9_sumOf, Cond.code yX9_sumOf cX9_sumOf 7 (some .int), Cond.methodLink RX9 56 yX9_counts, Cond.instanceMethod yX9_counts, Cond.selects RX9 yX9_counts yX9_counts, Cond.code yX9_counts cX9_counts 2 (some .boolean), Cond.methodLink RX9 27 yX9_isIn, Cond.static yX9_isIn, Cond.code yX9_isIn cX9_isIn 3 (some .boolean)]
def wsX9_comes : List Cond := .code yX9_comes cX9_comes 9 (some .int) :: ((wsX9_comes_r1 ++ (wsX9_comes_r2 ++ (wsX9_comes_r3 ++ wsX9_comes_r4))) ++ wsX90)
def wsX9_isEvent : List Cond := .code yX9_isEvent cX9_isEvent 5 (some .boolean) :: ([.methodLink RX9 27 yX9_isIn, .static yX9_isIn, .initialized RX9, .code yX9_isIn cX9_isIn 3 (some .boolean)])
def wsX9_event_r1 : List Cond := [Cond.constant RX9 31 (-1000001), Cond.methodLink RX9 105 yX9_isEvent, Cond.static yX9_isEvent, Cond.initialized RX9, Cond.code yX9_isEvent cX9_isEvent 5 (some .boolean), Cond.methodLink RX9 27 yX9_isIn, Cond.static yX9_isIn, Cond.code yX9_isIn cX9_isIn 3 (some .boolean), Cond.methodLink RX9 32 yX9_records, Cond.instanceMethod yX9_records, Cond.selects RX9 yX9_records yX9_records, Cond.code yX9_records cX9_records 2 none, Cond.fieldLink RX9 22 "LateExcusesModel" "states" "I", Cond.fieldLink RX9 13 "LateExcusesModel" "kept" "[I", Cond.fieldLink RX9 7 "LateExcusesModel" "now" "[I", Cond.methodLink RX9 109 yX9_comes, Cond.instanceMethod yX9_comes, Cond.selects RX9 yX9_comes yX9_comes, Cond.code yX9_comes cX9_comes 9 (some .int), Cond.methodLink RX9 53 yX9_ofE, Cond.instanceMethod yX9_ofE, Cond.selects RX9 yX9_ofE yX9_ofE, Cond.code yX9_ofE cX9_ofE 3 (some .int), Cond.methodLink RX9 92 yX9_judgeOf]
def wsX9_event_r2 : List Cond := [Cond.instanceMethod yX9_judgeOf, Cond.selects RX9 yX9_judgeOf yX9_judgeOf, Cond.code yX9_judgeOf cX9_judgeOf 5 (some .int), Cond.methodLink RX9 60 yX9_paneAt, Cond.instanceMethod yX9_paneAt, Cond.selects RX9 yX9_paneAt yX9_paneAt, Cond.code yX9_paneAt cX9_paneAt 2 (some .int), Cond.methodLink RX9 47 yX9_modeOf, Cond.instanceMethod yX9_modeOf, Cond.selects RX9 yX9_modeOf yX9_modeOf, Cond.code yX9_modeOf cX9_modeOf 3 (some .int), Cond.methodLink RX9 39 yX9_find, Cond.instanceMethod yX9_find, Cond.selects RX9 yX9_find yX9_find, Cond.code yX9_find cX9_find 3 (some .int), Cond.methodLink RX9 35 yX9_ofP, Cond.instanceMethod yX9_ofP, Cond.selects RX9 yX9_ofP yX9_ofP, Cond.code yX9_ofP cX9_ofP 3 (some .int), Cond.methodLink RX9 83 yX9_isShut, Cond.instanceMethod yX9_isShut, Cond.selects RX9 yX9_isShut yX9_isShut, Cond.code yX9_isShut cX9_isShut 2 (some .boolean), Cond.methodLink RX9 50 yX9_endOf]
def wsX9_event_r3 : List Cond := [Cond.instanceMethod yX9_endOf, Cond.selects RX9 yX9_endOf yX9_endOf, Cond.code yX9_endOf cX9_endOf 2 (some .int), Cond.methodLink RX9 86 yX9_isExcuse, Cond.instanceMethod yX9_isExcuse, Cond.selects RX9 yX9_isExcuse yX9_isExcuse, Cond.code yX9_isExcuse cX9_isExcuse 5 (some .boolean), Cond.methodLink RX9 77 yX9_wasIll, Cond.instanceMethod yX9_wasIll, Cond.selects RX9 yX9_wasIll yX9_wasIll, Cond.code yX9_wasIll cX9_wasIll 4 (some .boolean), Cond.methodLink RX9 89 yX9_placeFor, Cond.instanceMethod yX9_placeFor, Cond.selects RX9 yX9_placeFor yX9_placeFor, Cond.code yX9_placeFor cX9_placeFor 3 (some .int), Cond.methodLink RX9 80 yX9_placeIn, Cond.instanceMethod yX9_placeIn, Cond.selects RX9 yX9_placeIn yX9_placeIn, Cond.code yX9_placeIn cX9_placeIn 3 (some .int), Cond.methodLink RX9 96 yX9_keeps, Cond.instanceMethod yX9_keeps, Cond.selects RX9 yX9_keeps yX9_keeps, Cond.code yX9_keeps cX9_keeps 4 (some .int), Cond.methodLink RX9 43 yX9_setsP]
def wsX9_event_r4 : List Cond := [Cond.instanceMethod yX9_setsP, Cond.selects RX9 yX9_setsP yX9_setsP, Cond.code yX9_setsP cX9_setsP 4 none, Cond.methodLink RX9 99 yX9_takesBack, Cond.instanceMethod yX9_takesBack, Cond.selects RX9 yX9_takesBack yX9_takesBack, Cond.code yX9_takesBack cX9_takesBack 2 none, Cond.methodLink RX9 66 yX9_says, Cond.instanceMethod yX9_says, Cond.selects RX9 yX9_says yX9_says, Cond.code yX9_says cX9_says 6 none, Cond.methodLink RX9 102 yX9_rises, Cond.instanceMethod yX9_rises, Cond.selects RX9 yX9_rises yX9_rises, Cond.code yX9_rises cX9_rises 5 none, Cond.methodLink RX9 70 yX9_nextKept, Cond.instanceMethod yX9_nextKept, Cond.selects RX9 yX9_nextKept yX9_nextKept, Cond.code yX9_nextKept cX9_nextKept 4 (some .int), Cond.methodLink RX9 73 yX9_tells, Cond.instanceMethod yX9_tells, Cond.selects RX9 yX9_tells yX9_tells, Cond.code yX9_tells cX9_tells 4 none, Cond.methodLink RX9 63 yX9_sumOf]
def wsX9_event_r5 : List Cond := [Cond.instanceMethod yX9_sumOf, Cond.selects RX9 yX9_sumOf yX9_sumOf, Cond.code yX9_sumOf cX9_sumOf 7 (some .int), Cond.methodLink RX9 56 yX9_counts, Cond.instanceMethod yX9_counts, Cond.selects RX9 yX9_counts yX9_counts, Cond.code yX9_counts cX9_counts 2 (some .boolean)]
def wsX9_event : List Cond := .code yX9_event cX9_event 6 (some .int) :: ((wsX9_event_r1 ++ (wsX9_event_r2 ++ (wsX9_event_r3 ++ (wsX9_event_r4 ++ wsX9_event_r5)))) ++ wsX90)
def wsX9_move_r1 : List Cond := [Cond.constant RX9 31 (-1000001), Cond.fieldLink RX9 7 "LateExcusesModel" "now" "[I", Cond.constant RX9 26 (-1000002), Cond.methodLink RX9 27 yX9_isIn, Cond.static yX9_isIn, Cond.initialized RX9, Cond.code yX9_isIn cX9_isIn 3 (some .boolean), Cond.methodLink RX9 32 yX9_records, Cond.instanceMethod yX9_records, Cond.selects RX9 yX9_records yX9_records, Cond.code yX9_records cX9_records 2 none, Cond.fieldLink RX9 22 "LateExcusesModel" "states" "I", Cond.fieldLink RX9 13 "LateExcusesModel" "kept" "[I", Cond.methodLink RX9 50 yX9_endOf, Cond.instanceMethod yX9_endOf, Cond.selects RX9 yX9_endOf yX9_endOf, Cond.code yX9_endOf cX9_endOf 2 (some .int), Cond.methodLink RX9 47 yX9_modeOf, Cond.instanceMethod yX9_modeOf, Cond.selects RX9 yX9_modeOf yX9_modeOf, Cond.code yX9_modeOf cX9_modeOf 3 (some .int), Cond.methodLink RX9 39 yX9_find, Cond.instanceMethod yX9_find, Cond.selects RX9 yX9_find yX9_find]
def wsX9_move_r2 : List Cond := [Cond.code yX9_find cX9_find 3 (some .int), Cond.methodLink RX9 35 yX9_ofP, Cond.instanceMethod yX9_ofP, Cond.selects RX9 yX9_ofP yX9_ofP, Cond.code yX9_ofP cX9_ofP 3 (some .int), Cond.methodLink RX9 99 yX9_takesBack, Cond.instanceMethod yX9_takesBack, Cond.selects RX9 yX9_takesBack yX9_takesBack, Cond.code yX9_takesBack cX9_takesBack 2 none, Cond.methodLink RX9 43 yX9_setsP, Cond.instanceMethod yX9_setsP, Cond.selects RX9 yX9_setsP yX9_setsP, Cond.code yX9_setsP cX9_setsP 4 none, Cond.methodLink RX9 66 yX9_says, Cond.instanceMethod yX9_says, Cond.selects RX9 yX9_says yX9_says, Cond.code yX9_says cX9_says 6 none]
def wsX9_move : List Cond := .code yX9_move cX9_move 6 (some .int) :: ((wsX9_move_r1 ++ wsX9_move_r2) ++ wsX90)
def wsX9_isPane : List Cond := .code yX9_isPane cX9_isPane 2 (some .boolean) :: ([.fieldLink RX9 7 "LateExcusesModel" "now" "[I", .methodLink RX9 27 yX9_isIn, .static yX9_isIn, .initialized RX9, .code yX9_isIn cX9_isIn 3 (some .boolean)] ++ wsX90)
def wsX9_stateOf : List Cond := .code yX9_stateOf cX9_stateOf 3 (some .int) :: ([.methodLink RX9 47 yX9_modeOf, .instanceMethod yX9_modeOf, .selects RX9 yX9_modeOf yX9_modeOf, .initialized RX9, .code yX9_modeOf cX9_modeOf 3 (some .int), .methodLink RX9 39 yX9_find, .instanceMethod yX9_find, .selects RX9 yX9_find yX9_find, .code yX9_find cX9_find 3 (some .int), .fieldLink RX9 7 "LateExcusesModel" "now" "[I", .methodLink RX9 35 yX9_ofP, .instanceMethod yX9_ofP, .selects RX9 yX9_ofP yX9_ofP, .code yX9_ofP cX9_ofP 3 (some .int), .methodLink RX9 83 yX9_isShut, .instanceMethod yX9_isShut, .selects RX9 yX9_isShut yX9_isShut, .code yX9_isShut cX9_isShut 2 (some .boolean), .methodLink RX9 50 yX9_endOf, .instanceMethod yX9_endOf, .selects RX9 yX9_endOf yX9_endOf, .code yX9_endOf cX9_endOf 2 (some .int)] ++ wsX90)
def wsX9_paneOf_r1 : List Cond := [Cond.constant RX9 31 (-1000001), Cond.constant RX9 119 (-1000004), Cond.methodLink RX9 113 yX9_isPane, Cond.instanceMethod yX9_isPane, Cond.selects RX9 yX9_isPane yX9_isPane, Cond.initialized RX9, Cond.code yX9_isPane cX9_isPane 2 (some .boolean), Cond.fieldLink RX9 7 "LateExcusesModel" "now" "[I", Cond.methodLink RX9 27 yX9_isIn, Cond.static yX9_isIn, Cond.code yX9_isIn cX9_isIn 3 (some .boolean), Cond.methodLink RX9 39 yX9_find, Cond.instanceMethod yX9_find, Cond.selects RX9 yX9_find yX9_find, Cond.code yX9_find cX9_find 3 (some .int), Cond.methodLink RX9 35 yX9_ofP, Cond.instanceMethod yX9_ofP, Cond.selects RX9 yX9_ofP yX9_ofP, Cond.code yX9_ofP cX9_ofP 3 (some .int), Cond.methodLink RX9 116 yX9_stateOf, Cond.instanceMethod yX9_stateOf, Cond.selects RX9 yX9_stateOf yX9_stateOf, Cond.code yX9_stateOf cX9_stateOf 3 (some .int), Cond.methodLink RX9 47 yX9_modeOf]
def wsX9_paneOf_r2 : List Cond := [Cond.instanceMethod yX9_modeOf, Cond.selects RX9 yX9_modeOf yX9_modeOf, Cond.code yX9_modeOf cX9_modeOf 3 (some .int), Cond.methodLink RX9 83 yX9_isShut, Cond.instanceMethod yX9_isShut, Cond.selects RX9 yX9_isShut yX9_isShut, Cond.code yX9_isShut cX9_isShut 2 (some .boolean), Cond.methodLink RX9 50 yX9_endOf, Cond.instanceMethod yX9_endOf, Cond.selects RX9 yX9_endOf yX9_endOf, Cond.code yX9_endOf cX9_endOf 2 (some .int), Cond.methodLink RX9 63 yX9_sumOf, Cond.instanceMethod yX9_sumOf, Cond.selects RX9 yX9_sumOf yX9_sumOf, Cond.code yX9_sumOf cX9_sumOf 7 (some .int), Cond.methodLink RX9 56 yX9_counts, Cond.instanceMethod yX9_counts, Cond.selects RX9 yX9_counts yX9_counts, Cond.code yX9_counts cX9_counts 2 (some .boolean), Cond.methodLink RX9 53 yX9_ofE, Cond.instanceMethod yX9_ofE, Cond.selects RX9 yX9_ofE yX9_ofE, Cond.code yX9_ofE cX9_ofE 3 (some .int), Cond.methodLink RX9 60 yX9_paneAt]
def wsX9_paneOf_r3 : List Cond := [Cond.instanceMethod yX9_paneAt, Cond.selects RX9 yX9_paneAt yX9_paneAt, Cond.code yX9_paneAt cX9_paneAt 2 (some .int)]
def wsX9_paneOf : List Cond := .code yX9_paneOf cX9_paneOf 4 (some .int) :: ((wsX9_paneOf_r1 ++ (wsX9_paneOf_r2 ++ wsX9_paneOf_r3)) ++ wsX90)
def wsX9_bitsOf : List Cond := .code yX9_bitsOf cX9_bitsOf 4 (some .int) :: ([.constantFloat RX9 120 (1258291200), .constant RX9 121 (-2147483648)])
def wsX9_mean_r1 : List Cond := [Cond.constant RX9 31 (-1000001), Cond.constant RX9 119 (-1000004), Cond.methodLink RX9 113 yX9_isPane, Cond.instanceMethod yX9_isPane, Cond.selects RX9 yX9_isPane yX9_isPane, Cond.initialized RX9, Cond.code yX9_isPane cX9_isPane 2 (some .boolean), Cond.fieldLink RX9 7 "LateExcusesModel" "now" "[I", Cond.methodLink RX9 27 yX9_isIn, Cond.static yX9_isIn, Cond.code yX9_isIn cX9_isIn 3 (some .boolean), Cond.methodLink RX9 63 yX9_sumOf, Cond.instanceMethod yX9_sumOf, Cond.selects RX9 yX9_sumOf yX9_sumOf, Cond.code yX9_sumOf cX9_sumOf 7 (some .int), Cond.methodLink RX9 56 yX9_counts, Cond.instanceMethod yX9_counts, Cond.selects RX9 yX9_counts yX9_counts, Cond.code yX9_counts cX9_counts 2 (some .boolean), Cond.methodLink RX9 53 yX9_ofE, Cond.instanceMethod yX9_ofE, Cond.selects RX9 yX9_ofE yX9_ofE, Cond.code yX9_ofE cX9_ofE 3 (some .int), Cond.methodLink RX9 60 yX9_paneAt]
def wsX9_mean_r2 : List Cond := [Cond.instanceMethod yX9_paneAt, Cond.selects RX9 yX9_paneAt yX9_paneAt, Cond.code yX9_paneAt cX9_paneAt 2 (some .int), Cond.methodLink RX9 122 yX9_bitsOf, Cond.static yX9_bitsOf, Cond.code yX9_bitsOf cX9_bitsOf 4 (some .int), Cond.constantFloat RX9 120 (1258291200), Cond.constant RX9 121 (-2147483648)]
def wsX9_mean : List Cond := .code yX9_mean cX9_mean 3 (some .int) :: ((wsX9_mean_r1 ++ wsX9_mean_r2) ++ wsX90)
def wsX9_standing : List Cond := .code yX9_standing cX9_standing 4 (some .int) :: ([.constant RX9 31 (-1000001), .constant RX9 119 (-1000004), .methodLink RX9 113 yX9_isPane, .instanceMethod yX9_isPane, .selects RX9 yX9_isPane yX9_isPane, .initialized RX9, .code yX9_isPane cX9_isPane 2 (some .boolean), .fieldLink RX9 7 "LateExcusesModel" "now" "[I", .methodLink RX9 27 yX9_isIn, .static yX9_isIn, .code yX9_isIn cX9_isIn 3 (some .boolean), .methodLink RX9 39 yX9_find, .instanceMethod yX9_find, .selects RX9 yX9_find yX9_find, .code yX9_find cX9_find 3 (some .int), .methodLink RX9 35 yX9_ofP, .instanceMethod yX9_ofP, .selects RX9 yX9_ofP yX9_ofP, .code yX9_ofP cX9_ofP 3 (some .int)] ++ wsX90)
def wsX9_nextPane_r1 : List Cond := [Cond.constant RX9 31 (-1000001), Cond.constant RX9 119 (-1000004), Cond.methodLink RX9 27 yX9_isIn, Cond.static yX9_isIn, Cond.initialized RX9, Cond.code yX9_isIn cX9_isIn 3 (some .boolean), Cond.methodLink RX9 70 yX9_nextKept, Cond.instanceMethod yX9_nextKept, Cond.selects RX9 yX9_nextKept yX9_nextKept, Cond.code yX9_nextKept cX9_nextKept 4 (some .int), Cond.fieldLink RX9 7 "LateExcusesModel" "now" "[I", Cond.methodLink RX9 35 yX9_ofP, Cond.instanceMethod yX9_ofP, Cond.selects RX9 yX9_ofP yX9_ofP, Cond.code yX9_ofP cX9_ofP 3 (some .int), Cond.methodLink RX9 63 yX9_sumOf, Cond.instanceMethod yX9_sumOf, Cond.selects RX9 yX9_sumOf yX9_sumOf, Cond.code yX9_sumOf cX9_sumOf 7 (some .int), Cond.methodLink RX9 56 yX9_counts, Cond.instanceMethod yX9_counts, Cond.selects RX9 yX9_counts yX9_counts, Cond.code yX9_counts cX9_counts 2 (some .boolean), Cond.methodLink RX9 53 yX9_ofE]
def wsX9_nextPane_r2 : List Cond := [Cond.instanceMethod yX9_ofE, Cond.selects RX9 yX9_ofE yX9_ofE, Cond.code yX9_ofE cX9_ofE 3 (some .int), Cond.methodLink RX9 60 yX9_paneAt, Cond.instanceMethod yX9_paneAt, Cond.selects RX9 yX9_paneAt yX9_paneAt, Cond.code yX9_paneAt cX9_paneAt 2 (some .int)]
def wsX9_nextPane : List Cond := .code yX9_nextPane cX9_nextPane 4 (some .int) :: ((wsX9_nextPane_r1 ++ wsX9_nextPane_r2) ++ wsX90)
def wsX9_wordAt : List Cond := .code yX9_wordAt cX9_wordAt 3 (some .int) :: ([.constant RX9 31 (-1000001), .fieldLink RX9 7 "LateExcusesModel" "now" "[I", .constant RX9 119 (-1000004), .methodLink RX9 27 yX9_isIn, .static yX9_isIn, .initialized RX9, .code yX9_isIn cX9_isIn 3 (some .boolean)] ++ wsX90)
def wsX9_eventOf : List Cond := .code yX9_eventOf cX9_eventOf 3 (some .int) :: ([.constant RX9 31 (-1000001), .constant RX9 119 (-1000004), .methodLink RX9 27 yX9_isIn, .static yX9_isIn, .initialized RX9, .code yX9_isIn cX9_isIn 3 (some .boolean), .methodLink RX9 53 yX9_ofE, .instanceMethod yX9_ofE, .selects RX9 yX9_ofE yX9_ofE, .code yX9_ofE cX9_ofE 3 (some .int), .fieldLink RX9 7 "LateExcusesModel" "now" "[I", .methodLink RX9 60 yX9_paneAt, .instanceMethod yX9_paneAt, .selects RX9 yX9_paneAt yX9_paneAt, .code yX9_paneAt cX9_paneAt 2 (some .int)] ++ wsX90)
def wsX9_judge_r1 : List Cond := [Cond.constant RX9 31 (-1000001), Cond.methodLink RX9 105 yX9_isEvent, Cond.static yX9_isEvent, Cond.initialized RX9, Cond.code yX9_isEvent cX9_isEvent 5 (some .boolean), Cond.methodLink RX9 27 yX9_isIn, Cond.static yX9_isIn, Cond.code yX9_isIn cX9_isIn 3 (some .boolean), Cond.methodLink RX9 92 yX9_judgeOf, Cond.instanceMethod yX9_judgeOf, Cond.selects RX9 yX9_judgeOf yX9_judgeOf, Cond.code yX9_judgeOf cX9_judgeOf 5 (some .int), Cond.methodLink RX9 60 yX9_paneAt, Cond.instanceMethod yX9_paneAt, Cond.selects RX9 yX9_paneAt yX9_paneAt, Cond.code yX9_paneAt cX9_paneAt 2 (some .int), Cond.fieldLink RX9 7 "LateExcusesModel" "now" "[I", Cond.methodLink RX9 47 yX9_modeOf, Cond.instanceMethod yX9_modeOf, Cond.selects RX9 yX9_modeOf yX9_modeOf, Cond.code yX9_modeOf cX9_modeOf 3 (some .int), Cond.methodLink RX9 39 yX9_find, Cond.instanceMethod yX9_find, Cond.selects RX9 yX9_find yX9_find]
def wsX9_judge_r2 : List Cond := [Cond.code yX9_find cX9_find 3 (some .int), Cond.methodLink RX9 35 yX9_ofP, Cond.instanceMethod yX9_ofP, Cond.selects RX9 yX9_ofP yX9_ofP, Cond.code yX9_ofP cX9_ofP 3 (some .int), Cond.methodLink RX9 83 yX9_isShut, Cond.instanceMethod yX9_isShut, Cond.selects RX9 yX9_isShut yX9_isShut, Cond.code yX9_isShut cX9_isShut 2 (some .boolean), Cond.methodLink RX9 50 yX9_endOf, Cond.instanceMethod yX9_endOf, Cond.selects RX9 yX9_endOf yX9_endOf, Cond.code yX9_endOf cX9_endOf 2 (some .int), Cond.methodLink RX9 86 yX9_isExcuse, Cond.instanceMethod yX9_isExcuse, Cond.selects RX9 yX9_isExcuse yX9_isExcuse, Cond.code yX9_isExcuse cX9_isExcuse 5 (some .boolean), Cond.methodLink RX9 77 yX9_wasIll, Cond.instanceMethod yX9_wasIll, Cond.selects RX9 yX9_wasIll yX9_wasIll, Cond.code yX9_wasIll cX9_wasIll 4 (some .boolean), Cond.methodLink RX9 53 yX9_ofE, Cond.instanceMethod yX9_ofE, Cond.selects RX9 yX9_ofE yX9_ofE]
def wsX9_judge_r3 : List Cond := [Cond.code yX9_ofE cX9_ofE 3 (some .int), Cond.methodLink RX9 89 yX9_placeFor, Cond.instanceMethod yX9_placeFor, Cond.selects RX9 yX9_placeFor yX9_placeFor, Cond.code yX9_placeFor cX9_placeFor 3 (some .int), Cond.methodLink RX9 80 yX9_placeIn, Cond.instanceMethod yX9_placeIn, Cond.selects RX9 yX9_placeIn yX9_placeIn, Cond.code yX9_placeIn cX9_placeIn 3 (some .int)]
def wsX9_judge : List Cond := .code yX9_judge cX9_judge 4 (some .int) :: ((wsX9_judge_r1 ++ (wsX9_judge_r2 ++ wsX9_judge_r3)) ++ wsX90)
def wsX9_lateness_r1 : List Cond := [Cond.constant RX9 31 (-1000001), Cond.fieldLink RX9 7 "LateExcusesModel" "now" "[I", Cond.constant RX9 119 (-1000004), Cond.methodLink RX9 27 yX9_isIn, Cond.static yX9_isIn, Cond.initialized RX9, Cond.code yX9_isIn cX9_isIn 3 (some .boolean), Cond.methodLink RX9 60 yX9_paneAt, Cond.instanceMethod yX9_paneAt, Cond.selects RX9 yX9_paneAt yX9_paneAt, Cond.code yX9_paneAt cX9_paneAt 2 (some .int), Cond.methodLink RX9 83 yX9_isShut, Cond.instanceMethod yX9_isShut, Cond.selects RX9 yX9_isShut yX9_isShut, Cond.code yX9_isShut cX9_isShut 2 (some .boolean), Cond.methodLink RX9 47 yX9_modeOf, Cond.instanceMethod yX9_modeOf, Cond.selects RX9 yX9_modeOf yX9_modeOf, Cond.code yX9_modeOf cX9_modeOf 3 (some .int), Cond.methodLink RX9 39 yX9_find, Cond.instanceMethod yX9_find, Cond.selects RX9 yX9_find yX9_find, Cond.code yX9_find cX9_find 3 (some .int), Cond.methodLink RX9 35 yX9_ofP]
def wsX9_lateness_r2 : List Cond := [Cond.instanceMethod yX9_ofP, Cond.selects RX9 yX9_ofP yX9_ofP, Cond.code yX9_ofP cX9_ofP 3 (some .int), Cond.methodLink RX9 50 yX9_endOf, Cond.instanceMethod yX9_endOf, Cond.selects RX9 yX9_endOf yX9_endOf, Cond.code yX9_endOf cX9_endOf 2 (some .int)]
def wsX9_lateness : List Cond := .code yX9_lateness cX9_lateness 3 (some .int) :: ((wsX9_lateness_r1 ++ wsX9_lateness_r2) ++ wsX90)
def wsX9_latestExcused_r1 : List Cond := [Cond.constant RX9 31 (-1000001), Cond.constant RX9 119 (-1000004), Cond.methodLink RX9 27 yX9_isIn, Cond.static yX9_isIn, Cond.initialized RX9, Cond.code yX9_isIn cX9_isIn 3 (some .boolean), Cond.methodLink RX9 60 yX9_paneAt, Cond.instanceMethod yX9_paneAt, Cond.selects RX9 yX9_paneAt yX9_paneAt, Cond.code yX9_paneAt cX9_paneAt 2 (some .int), Cond.fieldLink RX9 7 "LateExcusesModel" "now" "[I", Cond.methodLink RX9 83 yX9_isShut, Cond.instanceMethod yX9_isShut, Cond.selects RX9 yX9_isShut yX9_isShut, Cond.code yX9_isShut cX9_isShut 2 (some .boolean), Cond.methodLink RX9 47 yX9_modeOf, Cond.instanceMethod yX9_modeOf, Cond.selects RX9 yX9_modeOf yX9_modeOf, Cond.code yX9_modeOf cX9_modeOf 3 (some .int), Cond.methodLink RX9 39 yX9_find, Cond.instanceMethod yX9_find, Cond.selects RX9 yX9_find yX9_find, Cond.code yX9_find cX9_find 3 (some .int), Cond.methodLink RX9 35 yX9_ofP]
def wsX9_latestExcused_r2 : List Cond := [Cond.instanceMethod yX9_ofP, Cond.selects RX9 yX9_ofP yX9_ofP, Cond.code yX9_ofP cX9_ofP 3 (some .int), Cond.methodLink RX9 50 yX9_endOf, Cond.instanceMethod yX9_endOf, Cond.selects RX9 yX9_endOf yX9_endOf, Cond.code yX9_endOf cX9_endOf 2 (some .int), Cond.methodLink RX9 86 yX9_isExcuse, Cond.instanceMethod yX9_isExcuse, Cond.selects RX9 yX9_isExcuse yX9_isExcuse, Cond.code yX9_isExcuse cX9_isExcuse 5 (some .boolean), Cond.methodLink RX9 77 yX9_wasIll, Cond.instanceMethod yX9_wasIll, Cond.selects RX9 yX9_wasIll yX9_wasIll, Cond.code yX9_wasIll cX9_wasIll 4 (some .boolean), Cond.methodLink RX9 53 yX9_ofE, Cond.instanceMethod yX9_ofE, Cond.selects RX9 yX9_ofE yX9_ofE, Cond.code yX9_ofE cX9_ofE 3 (some .int)]
def wsX9_latestExcused : List Cond := .code yX9_latestExcused cX9_latestExcused 4 (some .int) :: ((wsX9_latestExcused_r1 ++ wsX9_latestExcused_r2) ++ wsX90)
def wsX9_filed : List Cond := .code yX9_filed cX9_filed 4 (some .int) :: ([.constant RX9 31 (-1000001), .fieldLink RX9 7 "LateExcusesModel" "now" "[I", .constant RX9 119 (-1000004), .methodLink RX9 27 yX9_isIn, .static yX9_isIn, .initialized RX9, .code yX9_isIn cX9_isIn 3 (some .boolean)] ++ wsX90)
def wsX9_trust : List Cond := .code yX9_trust cX9_trust 5 (some .int) :: ([.constant RX9 31 (-1000001), .constantFloat RX9 126 (1056964608), .constant RX9 119 (-1000004), .methodLink RX9 27 yX9_isIn, .static yX9_isIn, .initialized RX9, .code yX9_isIn cX9_isIn 3 (some .boolean), .methodLink RX9 53 yX9_ofE, .instanceMethod yX9_ofE, .selects RX9 yX9_ofE yX9_ofE, .code yX9_ofE cX9_ofE 3 (some .int), .fieldLink RX9 7 "LateExcusesModel" "now" "[I", .methodLink RX9 122 yX9_bitsOf, .static yX9_bitsOf, .code yX9_bitsOf cX9_bitsOf 4 (some .int), .constantFloat RX9 120 (1258291200), .constant RX9 121 (-2147483648)] ++ wsX90)
def wsX9_results : List Cond := .code yX9_results cX9_results 5 (some .int) :: ([.methodLink RX9 53 yX9_ofE, .instanceMethod yX9_ofE, .selects RX9 yX9_ofE yX9_ofE, .initialized RX9, .code yX9_ofE cX9_ofE 3 (some .int), .fieldLink RX9 7 "LateExcusesModel" "now" "[I", .methodLink RX9 27 yX9_isIn, .static yX9_isIn, .code yX9_isIn cX9_isIn 3 (some .boolean)] ++ wsX90)
def wsX9_cases : List Cond := .code yX9_cases cX9_cases 3 (some .int) :: ([.fieldLink RX9 7 "LateExcusesModel" "now" "[I", .methodLink RX9 35 yX9_ofP, .instanceMethod yX9_ofP, .selects RX9 yX9_ofP yX9_ofP, .initialized RX9, .code yX9_ofP cX9_ofP 3 (some .int)] ++ wsX90)
def wsX9_count : List Cond := .code yX9_count cX9_count 2 (some .int) :: ([.fieldLink RX9 7 "LateExcusesModel" "now" "[I", .fieldLink RX9 22 "LateExcusesModel" "states" "I", .fieldLink RX9 134 "LateExcusesModel" "length" "I", .constant RX9 31 (-1000001), .methodLink RX9 27 yX9_isIn, .static yX9_isIn, .initialized RX9, .code yX9_isIn cX9_isIn 3 (some .boolean), .methodLink RX9 127 yX9_results, .instanceMethod yX9_results, .selects RX9 yX9_results yX9_results, .code yX9_results cX9_results 5 (some .int), .methodLink RX9 53 yX9_ofE, .instanceMethod yX9_ofE, .selects RX9 yX9_ofE yX9_ofE, .code yX9_ofE cX9_ofE 3 (some .int), .methodLink RX9 130 yX9_cases, .instanceMethod yX9_cases, .selects RX9 yX9_cases yX9_cases, .code yX9_cases cX9_cases 3 (some .int), .methodLink RX9 35 yX9_ofP, .instanceMethod yX9_ofP, .selects RX9 yX9_ofP yX9_ofP, .code yX9_ofP cX9_ofP 3 (some .int)] ++ wsX90)
def wsX9_type : List Cond := .code yX9_type cX9_type 2 (some .int) :: ([.constant RX9 31 (-1000001), .fieldLink RX9 134 "LateExcusesModel" "length" "I", .constant RX9 137 (-1000003), .fieldLink RX9 16 "LateExcusesModel" "text" "[I", .methodLink RX9 27 yX9_isIn, .static yX9_isIn, .initialized RX9, .code yX9_isIn cX9_isIn 3 (some .boolean)] ++ wsX90)
def wsX9_clearText : List Cond := .code yX9_clearText cX9_clearText 2 (some .int) :: ([.fieldLink RX9 134 "LateExcusesModel" "length" "I"] ++ wsX90)
def wsX9_passes : List Cond := .code yX9_passes cX9_passes 3 (some .boolean) :: ([.fieldLink RX9 138 "LateExcusesModel" "at" "I", .fieldLink RX9 134 "LateExcusesModel" "length" "I", .fieldLink RX9 16 "LateExcusesModel" "text" "[I"] ++ wsX90)
def wsX9_passesNumber : List Cond := .code yX9_passesNumber cX9_passesNumber 2 (some .boolean) :: ([.fieldLink RX9 141 "LateExcusesModel" "number" "I", .fieldLink RX9 138 "LateExcusesModel" "at" "I", .fieldLink RX9 134 "LateExcusesModel" "length" "I", .fieldLink RX9 16 "LateExcusesModel" "text" "[I", .methodLink RX9 27 yX9_isIn, .static yX9_isIn, .initialized RX9, .code yX9_isIn cX9_isIn 3 (some .boolean)] ++ wsX90)
def wsX9_excuseHere : List Cond := .code yX9_excuseHere cX9_excuseHere 1 (some .int) :: ([.methodLink RX9 144 yX9_passes, .instanceMethod yX9_passes, .selects RX9 yX9_passes yX9_passes, .initialized RX9, .code yX9_passes cX9_passes 3 (some .boolean), .fieldLink RX9 138 "LateExcusesModel" "at" "I", .fieldLink RX9 134 "LateExcusesModel" "length" "I", .fieldLink RX9 16 "LateExcusesModel" "text" "[I"] ++ wsX90)
def wsX9_passesEvent : List Cond := .code yX9_passesEvent cX9_passesEvent 2 (some .boolean) :: ([.fieldLink RX9 19 "LateExcusesModel" "read" "[I", .fieldLink RX9 141 "LateExcusesModel" "number" "I", .methodLink RX9 147 yX9_passesNumber, .instanceMethod yX9_passesNumber, .selects RX9 yX9_passesNumber yX9_passesNumber, .initialized RX9, .code yX9_passesNumber cX9_passesNumber 2 (some .boolean), .fieldLink RX9 138 "LateExcusesModel" "at" "I", .fieldLink RX9 134 "LateExcusesModel" "length" "I", .fieldLink RX9 16 "LateExcusesModel" "text" "[I", .methodLink RX9 27 yX9_isIn, .static yX9_isIn, .code yX9_isIn cX9_isIn 3 (some .boolean), .methodLink RX9 144 yX9_passes, .instanceMethod yX9_passes, .selects RX9 yX9_passes yX9_passes, .code yX9_passes cX9_passes 3 (some .boolean), .methodLink RX9 151 yX9_excuseHere, .instanceMethod yX9_excuseHere, .selects RX9 yX9_excuseHere yX9_excuseHere, .code yX9_excuseHere cX9_excuseHere 1 (some .int)] ++ wsX90)
def wsX9_faultOf_r1 : List Cond := [Cond.fieldLink RX9 138 "LateExcusesModel" "at" "I", Cond.fieldLink RX9 134 "LateExcusesModel" "length" "I", Cond.fieldLink RX9 19 "LateExcusesModel" "read" "[I", Cond.methodLink RX9 154 yX9_passesEvent, Cond.instanceMethod yX9_passesEvent, Cond.selects RX9 yX9_passesEvent yX9_passesEvent, Cond.initialized RX9, Cond.code yX9_passesEvent cX9_passesEvent 2 (some .boolean), Cond.fieldLink RX9 141 "LateExcusesModel" "number" "I", Cond.methodLink RX9 147 yX9_passesNumber, Cond.instanceMethod yX9_passesNumber, Cond.selects RX9 yX9_passesNumber yX9_passesNumber, Cond.code yX9_passesNumber cX9_passesNumber 2 (some .boolean), Cond.fieldLink RX9 16 "LateExcusesModel" "text" "[I", Cond.methodLink RX9 27 yX9_isIn, Cond.static yX9_isIn, Cond.code yX9_isIn cX9_isIn 3 (some .boolean), Cond.methodLink RX9 144 yX9_passes, Cond.instanceMethod yX9_passes, Cond.selects RX9 yX9_passes yX9_passes, Cond.code yX9_passes cX9_passes 3 (some .boolean), Cond.methodLink RX9 151 yX9_excuseHere, Cond.instanceMethod yX9_excuseHere, Cond.selects RX9 yX9_excuseHere yX9_excuseHere]
def wsX9_faultOf_r2 : List Cond := [Cond.code yX9_excuseHere cX9_excuseHere 1 (some .int), Cond.methodLink RX9 105 yX9_isEvent, Cond.static yX9_isEvent, Cond.code yX9_isEvent cX9_isEvent 5 (some .boolean)]
def wsX9_faultOf : List Cond := .code yX9_faultOf cX9_faultOf 2 (some .int) :: ((wsX9_faultOf_r1 ++ wsX9_faultOf_r2) ++ wsX90)
def wsX9_fault_r1 : List Cond := [Cond.constant RX9 31 (-1000001), Cond.constant RX9 119 (-1000004), Cond.methodLink RX9 27 yX9_isIn, Cond.static yX9_isIn, Cond.initialized RX9, Cond.code yX9_isIn cX9_isIn 3 (some .boolean), Cond.methodLink RX9 157 yX9_faultOf, Cond.instanceMethod yX9_faultOf, Cond.selects RX9 yX9_faultOf yX9_faultOf, Cond.code yX9_faultOf cX9_faultOf 2 (some .int), Cond.fieldLink RX9 138 "LateExcusesModel" "at" "I", Cond.fieldLink RX9 134 "LateExcusesModel" "length" "I", Cond.fieldLink RX9 19 "LateExcusesModel" "read" "[I", Cond.methodLink RX9 154 yX9_passesEvent, Cond.instanceMethod yX9_passesEvent, Cond.selects RX9 yX9_passesEvent yX9_passesEvent, Cond.code yX9_passesEvent cX9_passesEvent 2 (some .boolean), Cond.fieldLink RX9 141 "LateExcusesModel" "number" "I", Cond.methodLink RX9 147 yX9_passesNumber, Cond.instanceMethod yX9_passesNumber, Cond.selects RX9 yX9_passesNumber yX9_passesNumber, Cond.code yX9_passesNumber cX9_passesNumber 2 (some .boolean), Cond.fieldLink RX9 16 "LateExcusesModel" "text" "[I", Cond.methodLink RX9 144 yX9_passes]
def wsX9_fault_r2 : List Cond := [Cond.instanceMethod yX9_passes, Cond.selects RX9 yX9_passes yX9_passes, Cond.code yX9_passes cX9_passes 3 (some .boolean), Cond.methodLink RX9 151 yX9_excuseHere, Cond.instanceMethod yX9_excuseHere, Cond.selects RX9 yX9_excuseHere yX9_excuseHere, Cond.code yX9_excuseHere cX9_excuseHere 1 (some .int), Cond.methodLink RX9 105 yX9_isEvent, Cond.static yX9_isEvent, Cond.code yX9_isEvent cX9_isEvent 5 (some .boolean)]
def wsX9_fault : List Cond := .code yX9_fault cX9_fault 3 (some .int) :: ((wsX9_fault_r1 ++ wsX9_fault_r2) ++ wsX90)
def wsX9_play_r1 : List Cond := [Cond.constant RX9 26 (-1000002), Cond.fieldLink RX9 138 "LateExcusesModel" "at" "I", Cond.fieldLink RX9 134 "LateExcusesModel" "length" "I", Cond.fieldLink RX9 19 "LateExcusesModel" "read" "[I", Cond.methodLink RX9 157 yX9_faultOf, Cond.instanceMethod yX9_faultOf, Cond.selects RX9 yX9_faultOf yX9_faultOf, Cond.initialized RX9, Cond.code yX9_faultOf cX9_faultOf 2 (some .int), Cond.methodLink RX9 154 yX9_passesEvent, Cond.instanceMethod yX9_passesEvent, Cond.selects RX9 yX9_passesEvent yX9_passesEvent, Cond.code yX9_passesEvent cX9_passesEvent 2 (some .boolean), Cond.fieldLink RX9 141 "LateExcusesModel" "number" "I", Cond.methodLink RX9 147 yX9_passesNumber, Cond.instanceMethod yX9_passesNumber, Cond.selects RX9 yX9_passesNumber yX9_passesNumber, Cond.code yX9_passesNumber cX9_passesNumber 2 (some .boolean), Cond.fieldLink RX9 16 "LateExcusesModel" "text" "[I", Cond.methodLink RX9 27 yX9_isIn, Cond.static yX9_isIn, Cond.code yX9_isIn cX9_isIn 3 (some .boolean), Cond.methodLink RX9 144 yX9_passes, Cond.instanceMethod yX9_passes]
def wsX9_play_r2 : List Cond := [Cond.selects RX9 yX9_passes yX9_passes, Cond.code yX9_passes cX9_passes 3 (some .boolean), Cond.methodLink RX9 151 yX9_excuseHere, Cond.instanceMethod yX9_excuseHere, Cond.selects RX9 yX9_excuseHere yX9_excuseHere, Cond.code yX9_excuseHere cX9_excuseHere 1 (some .int), Cond.methodLink RX9 105 yX9_isEvent, Cond.static yX9_isEvent, Cond.code yX9_isEvent cX9_isEvent 5 (some .boolean), Cond.methodLink RX9 32 yX9_records, Cond.instanceMethod yX9_records, Cond.selects RX9 yX9_records yX9_records, Cond.code yX9_records cX9_records 2 none, Cond.fieldLink RX9 22 "LateExcusesModel" "states" "I", Cond.fieldLink RX9 13 "LateExcusesModel" "kept" "[I", Cond.fieldLink RX9 7 "LateExcusesModel" "now" "[I", Cond.methodLink RX9 109 yX9_comes, Cond.instanceMethod yX9_comes, Cond.selects RX9 yX9_comes yX9_comes, Cond.code yX9_comes cX9_comes 9 (some .int), Cond.methodLink RX9 53 yX9_ofE, Cond.instanceMethod yX9_ofE, Cond.selects RX9 yX9_ofE yX9_ofE, Cond.code yX9_ofE cX9_ofE 3 (some .int)]
def wsX9_play_r3 : List Cond := [Cond.methodLink RX9 92 yX9_judgeOf, Cond.instanceMethod yX9_judgeOf, Cond.selects RX9 yX9_judgeOf yX9_judgeOf, Cond.code yX9_judgeOf cX9_judgeOf 5 (some .int), Cond.methodLink RX9 60 yX9_paneAt, Cond.instanceMethod yX9_paneAt, Cond.selects RX9 yX9_paneAt yX9_paneAt, Cond.code yX9_paneAt cX9_paneAt 2 (some .int), Cond.methodLink RX9 47 yX9_modeOf, Cond.instanceMethod yX9_modeOf, Cond.selects RX9 yX9_modeOf yX9_modeOf, Cond.code yX9_modeOf cX9_modeOf 3 (some .int), Cond.methodLink RX9 39 yX9_find, Cond.instanceMethod yX9_find, Cond.selects RX9 yX9_find yX9_find, Cond.code yX9_find cX9_find 3 (some .int), Cond.methodLink RX9 35 yX9_ofP, Cond.instanceMethod yX9_ofP, Cond.selects RX9 yX9_ofP yX9_ofP, Cond.code yX9_ofP cX9_ofP 3 (some .int), Cond.methodLink RX9 83 yX9_isShut, Cond.instanceMethod yX9_isShut, Cond.selects RX9 yX9_isShut yX9_isShut, Cond.code yX9_isShut cX9_isShut 2 (some .boolean)]
def wsX9_play_r4 : List Cond := [Cond.methodLink RX9 50 yX9_endOf, Cond.instanceMethod yX9_endOf, Cond.selects RX9 yX9_endOf yX9_endOf, Cond.code yX9_endOf cX9_endOf 2 (some .int), Cond.methodLink RX9 86 yX9_isExcuse, Cond.instanceMethod yX9_isExcuse, Cond.selects RX9 yX9_isExcuse yX9_isExcuse, Cond.code yX9_isExcuse cX9_isExcuse 5 (some .boolean), Cond.methodLink RX9 77 yX9_wasIll, Cond.instanceMethod yX9_wasIll, Cond.selects RX9 yX9_wasIll yX9_wasIll, Cond.code yX9_wasIll cX9_wasIll 4 (some .boolean), Cond.methodLink RX9 89 yX9_placeFor, Cond.instanceMethod yX9_placeFor, Cond.selects RX9 yX9_placeFor yX9_placeFor, Cond.code yX9_placeFor cX9_placeFor 3 (some .int), Cond.methodLink RX9 80 yX9_placeIn, Cond.instanceMethod yX9_placeIn, Cond.selects RX9 yX9_placeIn yX9_placeIn, Cond.code yX9_placeIn cX9_placeIn 3 (some .int), Cond.methodLink RX9 96 yX9_keeps, Cond.instanceMethod yX9_keeps, Cond.selects RX9 yX9_keeps yX9_keeps, Cond.code yX9_keeps cX9_keeps 4 (some .int)]
def wsX9_play_r5 : List Cond := [Cond.methodLink RX9 43 yX9_setsP, Cond.instanceMethod yX9_setsP, Cond.selects RX9 yX9_setsP yX9_setsP, Cond.code yX9_setsP cX9_setsP 4 none, Cond.methodLink RX9 99 yX9_takesBack, Cond.instanceMethod yX9_takesBack, Cond.selects RX9 yX9_takesBack yX9_takesBack, Cond.code yX9_takesBack cX9_takesBack 2 none, Cond.methodLink RX9 66 yX9_says, Cond.instanceMethod yX9_says, Cond.selects RX9 yX9_says yX9_says, Cond.code yX9_says cX9_says 6 none, Cond.methodLink RX9 102 yX9_rises, Cond.instanceMethod yX9_rises, Cond.selects RX9 yX9_rises yX9_rises, Cond.code yX9_rises cX9_rises 5 none, Cond.methodLink RX9 70 yX9_nextKept, Cond.instanceMethod yX9_nextKept, Cond.selects RX9 yX9_nextKept yX9_nextKept, Cond.code yX9_nextKept cX9_nextKept 4 (some .int), Cond.methodLink RX9 73 yX9_tells, Cond.instanceMethod yX9_tells, Cond.selects RX9 yX9_tells yX9_tells, Cond.code yX9_tells cX9_tells 4 none]
def wsX9_play_r6 : List Cond := [Cond.methodLink RX9 63 yX9_sumOf, Cond.instanceMethod yX9_sumOf, Cond.selects RX9 yX9_sumOf yX9_sumOf, Cond.code yX9_sumOf cX9_sumOf 7 (some .int), Cond.methodLink RX9 56 yX9_counts, Cond.instanceMethod yX9_counts, Cond.selects RX9 yX9_counts yX9_counts, Cond.code yX9_counts cX9_counts 2 (some .boolean)]
def wsX9_play : List Cond := .code yX9_play cX9_play 3 (some .int) :: ((wsX9_play_r1 ++ (wsX9_play_r2 ++ (wsX9_play_r3 ++ (wsX9_play_r4 ++ (wsX9_play_r5 ++ wsX9_play_r6))))) ++ wsX90)
def wsJ9_max_7cf53 : List Cond := .code yJ9_max_7cf53 cJ9_max_7cf53 2 (some .int) :: ([])
def wsL_law_r1 : List Cond := [Cond.classLink RL 7 RX8, Cond.instantiable RX8 3, Cond.initialized RX8, Cond.classLink RL 10 RX9, Cond.instantiable RX9 8, Cond.initialized RX9, Cond.methodLink RL 9 yX8_init, Cond.instanceMethod yX8_init, Cond.code yX8_init cX8_init 1 none, Cond.methodLink RX8 1 objectInit, Cond.instanceMethod objectInit, Cond.code objectInit ⟨#[0xb1]⟩ 1 none, Cond.classLink RX8 7 RX1, Cond.instantiable RX1 9, Cond.initialized RX1, Cond.fieldLink RX8 10 "LateExcuses" "court" "LLateExcuses$Court;", Cond.classLink RX8 16 RX3, Cond.instantiable RX3 3, Cond.initialized RX3, Cond.fieldLink RX8 19 "LateExcuses" "history" "LLateExcuses$History;", Cond.classLink RX8 23 RX6, Cond.instantiable RX6 11, Cond.initialized RX6, Cond.fieldLink RX8 26 "LateExcuses" "text" "LLateExcuses$Text;"]
def wsL_law_r2 : List Cond := [Cond.instanceMethod yX1_init, Cond.code yX1_init cX1_init 1 none, Cond.methodLink RX1 3 objectInit, Cond.classLink RX1 9 RX2, Cond.instantiable RX2 2, Cond.initialized RX2, Cond.fieldLink RX1 12 "LateExcuses$Court" "events" "LLateExcuses$Events;", Cond.classLink RX1 18 RX4, Cond.instantiable RX4 3, Cond.initialized RX4, Cond.fieldLink RX1 21 "LateExcuses$Court" "panes" "LLateExcuses$Panes;", Cond.classLink RX1 25 RX0, Cond.instantiable RX0 1, Cond.initialized RX0, Cond.fieldLink RX1 28 "LateExcuses$Court" "cabinets" "LLateExcuses$Cabinets;", Cond.fieldLink RX1 32 "LateExcuses$Court" "size" "I", Cond.fieldLink RX1 36 "LateExcuses$Court" "lag" "I", Cond.fieldLink RX1 39 "LateExcuses$Court" "grace" "I", Cond.fieldLink RX1 42 "LateExcuses$Court" "watermark" "I", Cond.fieldLink RX1 45 "LateExcuses$Court" "latest" "I", Cond.instanceMethod yX2_init, Cond.code yX2_init cX2_init 1 none, Cond.methodLink RX2 3 objectInit, Cond.classLink RX2 9 RX5]
def wsL_law_r3 : List Cond := [Cond.instantiable RX5 3, Cond.initialized RX5, Cond.fieldLink RX2 14 "LateExcuses$Events" "rows" "LLateExcuses$Table;", Cond.methodLink RX2 11 yX5_init, Cond.instanceMethod yX5_init, Cond.code yX5_init cX5_init 3 none, Cond.methodLink RX5 1 objectInit, Cond.methodLink RX5 7 Lib.Math.max.name, Cond.static Lib.Math.max.name, Cond.initialized "java/lang/Math", Cond.code Lib.Math.max.name Lib.Math.max.code 2 (some .int), Cond.fieldLink RX5 13 "LateExcuses$Table" "rows" "I", Cond.fieldLink RX5 19 "LateExcuses$Table" "columns" "I", Cond.arrayClass .int, Cond.fieldLink RX5 22 "LateExcuses$Table" "cells" "[I", Cond.instanceMethod yX4_init, Cond.code yX4_init cX4_init 1 none, Cond.methodLink RX4 3 objectInit, Cond.classLink RX4 9 RX5, Cond.fieldLink RX4 16 "LateExcuses$Panes" "rows" "LLateExcuses$Table;", Cond.classLink RX4 20 RX7, Cond.instantiable RX7 4, Cond.initialized RX7, Cond.fieldLink RX4 23 "LateExcuses$Panes" "words" "LLateExcuses$Words;"]
def wsL_law_r4 : List Cond := [Cond.methodLink RX4 13 yX5_init, Cond.instanceMethod yX7_init, Cond.code yX7_init cX7_init 1 none, Cond.methodLink RX7 3 objectInit, Cond.classLink RX7 9 RX5, Cond.fieldLink RX7 16 "LateExcuses$Words" "rows" "LLateExcuses$Table;", Cond.methodLink RX7 13 yX5_init, Cond.instanceMethod yX0_init, Cond.code yX0_init cX0_init 1 none, Cond.methodLink RX0 5 objectInit, Cond.classLink RX0 11 RX5, Cond.fieldLink RX0 16 "LateExcuses$Cabinets" "rows" "LLateExcuses$Table;", Cond.methodLink RX0 13 yX5_init, Cond.instanceMethod yX3_init, Cond.code yX3_init cX3_init 1 none, Cond.methodLink RX3 1 objectInit, Cond.classLink RX3 9 RX1, Cond.fieldLink RX3 11 "LateExcuses$History" "past" "[LLateExcuses$Court;", Cond.instanceMethod yX6_init, Cond.code yX6_init cX6_init 1 none, Cond.methodLink RX6 3 objectInit, Cond.arrayClass .char, Cond.fieldLink RX6 11 "LateExcuses$Text" "signs" "[C", Cond.methodLink RL 12 yX9_init]
def wsL_law_r5 : List Cond := [Cond.instanceMethod yX9_init, Cond.code yX9_init cX9_init 1 none, Cond.methodLink RX9 1 objectInit, Cond.fieldLink RX9 7 "LateExcusesModel" "now" "[I", Cond.fieldLink RX9 13 "LateExcusesModel" "kept" "[I", Cond.fieldLink RX9 16 "LateExcusesModel" "text" "[I", Cond.fieldLink RX9 19 "LateExcusesModel" "read" "[I", Cond.methodLink RL 13 yX8_set, Cond.instanceMethod yX8_set, Cond.selects RX8 yX8_set yX8_set, Cond.code yX8_set cX8_set 3 (some .int), Cond.constant RX8 34 (-1000001), Cond.constant RX8 39 (-1000002), Cond.methodLink RX8 30 yX8_isWithin, Cond.static yX8_isWithin, Cond.code yX8_isWithin cX8_isWithin 3 (some .boolean), Cond.methodLink RX8 35 yX1_hasEvents, Cond.instanceMethod yX1_hasEvents, Cond.selects RX1 yX1_hasEvents yX1_hasEvents, Cond.code yX1_hasEvents cX1_hasEvents 1 (some .boolean), Cond.methodLink RX1 66 yX2_withOutcome, Cond.instanceMethod yX2_withOutcome, Cond.selects RX2 yX2_withOutcome yX2_withOutcome, Cond.code yX2_withOutcome cX2_withOutcome 5 (some .int)]
def wsL_law_r6 : List Cond := [Cond.methodLink RX2 41 yX2_hasOutcome, Cond.instanceMethod yX2_hasOutcome, Cond.selects RX2 yX2_hasOutcome yX2_hasOutcome, Cond.code yX2_hasOutcome cX2_hasOutcome 5 (some .boolean), Cond.methodLink RX2 28 yX5_get, Cond.instanceMethod yX5_get, Cond.selects RX5 yX5_get yX5_get, Cond.code yX5_get cX5_get 4 (some .int), Cond.methodLink RX8 40 yX3_keep, Cond.instanceMethod yX3_keep, Cond.selects RX3 yX3_keep yX3_keep, Cond.code yX3_keep cX3_keep 4 none, Cond.fieldLink RX3 15 "LateExcuses$History" "states" "I", Cond.fieldLink RX3 19 "LateExcuses$History" "oldest" "I", Cond.methodLink RX3 23 yX1_copyFrom, Cond.instanceMethod yX1_copyFrom, Cond.selects RX1 yX1_copyFrom yX1_copyFrom, Cond.code yX1_copyFrom cX1_copyFrom 2 none, Cond.fieldLink RX1 58 "LateExcuses$Court" "moved" "Z", Cond.methodLink RX1 48 yX2_copyFrom, Cond.instanceMethod yX2_copyFrom, Cond.selects RX2 yX2_copyFrom yX2_copyFrom, Cond.code yX2_copyFrom cX2_copyFrom 2 none, Cond.fieldLink RX2 24 "LateExcuses$Events" "doubles" "I"]
def wsL_law_r7 : List Cond := [Cond.methodLink RX2 20 yX5_copyFrom, Cond.instanceMethod yX5_copyFrom, Cond.selects RX5 yX5_copyFrom yX5_copyFrom, Cond.code yX5_copyFrom cX5_copyFrom 2 none, Cond.methodLink RX5 26 arraycopyName, Cond.native arraycopyName, Cond.static arraycopyName, Cond.initialized "java/lang/System", Cond.methodLink RX1 52 yX4_copyFrom, Cond.instanceMethod yX4_copyFrom, Cond.selects RX4 yX4_copyFrom yX4_copyFrom, Cond.code yX4_copyFrom cX4_copyFrom 2 none, Cond.fieldLink RX4 34 "LateExcuses$Panes" "used" "I", Cond.methodLink RX4 27 yX5_copyFrom, Cond.methodLink RX4 31 yX7_copyFrom, Cond.instanceMethod yX7_copyFrom, Cond.selects RX7 yX7_copyFrom yX7_copyFrom, Cond.code yX7_copyFrom cX7_copyFrom 2 none, Cond.fieldLink RX7 24 "LateExcuses$Words" "kept" "I", Cond.fieldLink RX7 28 "LateExcuses$Words" "told" "I", Cond.fieldLink RX7 31 "LateExcuses$Words" "takenBack" "I", Cond.methodLink RX7 20 yX5_copyFrom, Cond.methodLink RX1 55 yX0_copyFrom, Cond.instanceMethod yX0_copyFrom]
def wsL_law_r8 : List Cond := [Cond.selects RX0 yX0_copyFrom yX0_copyFrom, Cond.code yX0_copyFrom cX0_copyFrom 2 none, Cond.methodLink RX0 20 yX5_copyFrom, Cond.methodLink RX8 44 yX1_changeSetting, Cond.instanceMethod yX1_changeSetting, Cond.selects RX1 yX1_changeSetting yX1_changeSetting, Cond.code yX1_changeSetting cX1_changeSetting 4 (some .int), Cond.methodLink RX1 62 yX1_setting, Cond.instanceMethod yX1_setting, Cond.selects RX1 yX1_setting yX1_setting, Cond.code yX1_setting cX1_setting 2 (some .int), Cond.methodLink RL 17 yX9_set, Cond.instanceMethod yX9_set, Cond.selects RX9 yX9_set yX9_set, Cond.code yX9_set cX9_set 4 (some .int), Cond.constant RX9 31 (-1000001), Cond.constant RX9 26 (-1000002), Cond.methodLink RX9 27 yX9_isIn, Cond.static yX9_isIn, Cond.code yX9_isIn cX9_isIn 3 (some .boolean), Cond.methodLink RX9 32 yX9_records, Cond.instanceMethod yX9_records, Cond.selects RX9 yX9_records yX9_records, Cond.code yX9_records cX9_records 2 none]
def wsL_law_r9 : List Cond := [Cond.fieldLink RX9 22 "LateExcusesModel" "states" "I", Cond.methodLink RL 18 yX8_event, Cond.instanceMethod yX8_event, Cond.selects RX8 yX8_event yX8_event, Cond.code yX8_event cX8_event 6 (some .int), Cond.methodLink RX8 48 yX8_isEvent, Cond.static yX8_isEvent, Cond.code yX8_isEvent cX8_isEvent 4 (some .boolean), Cond.methodLink RX8 52 yX1_admit, Cond.instanceMethod yX1_admit, Cond.selects RX1 yX1_admit yX1_admit, Cond.code yX1_admit cX1_admit 8 (some .int), Cond.methodLink RX1 114 yX2_hasCome, Cond.instanceMethod yX2_hasCome, Cond.selects RX2 yX2_hasCome yX2_hasCome, Cond.code yX2_hasCome cX2_hasCome 2 (some .boolean), Cond.methodLink RX1 117 yX2_addDouble, Cond.instanceMethod yX2_addDouble, Cond.selects RX2 yX2_addDouble yX2_addDouble, Cond.code yX2_addDouble cX2_addDouble 1 none, Cond.methodLink RX1 120 yX1_verdict, Cond.instanceMethod yX1_verdict, Cond.selects RX1 yX1_verdict yX1_verdict, Cond.code yX1_verdict cX1_verdict 6 (some .int)]
def wsL_law_r10 : List Cond := [Cond.methodLink RX1 85 yX1_paneAt, Cond.instanceMethod yX1_paneAt, Cond.selects RX1 yX1_paneAt yX1_paneAt, Cond.code yX1_paneAt cX1_paneAt 2 (some .int), Cond.methodLink RX1 88 yX1_stateOf, Cond.instanceMethod yX1_stateOf, Cond.selects RX1 yX1_stateOf yX1_stateOf, Cond.code yX1_stateOf cX1_stateOf 3 (some .int), Cond.methodLink RX1 79 yX4_read, Cond.instanceMethod yX4_read, Cond.selects RX4 yX4_read yX4_read, Cond.code yX4_read cX4_read 3 (some .int), Cond.methodLink RX4 42 yX4_rowOf, Cond.instanceMethod yX4_rowOf, Cond.selects RX4 yX4_rowOf yX4_rowOf, Cond.code yX4_rowOf cX4_rowOf 3 (some .int), Cond.methodLink RX4 38 yX5_get, Cond.methodLink RX1 82 yX1_endOf, Cond.instanceMethod yX1_endOf, Cond.selects RX1 yX1_endOf yX1_endOf, Cond.code yX1_endOf cX1_endOf 2 (some .int), Cond.methodLink RX1 91 yX1_isAcceptable, Cond.instanceMethod yX1_isAcceptable, Cond.selects RX1 yX1_isAcceptable yX1_isAcceptable]
def wsL_law_r11 : List Cond := [Cond.code yX1_isAcceptable cX1_isAcceptable 5 (some .boolean), Cond.methodLink RX1 98 yX1_lateBy, Cond.instanceMethod yX1_lateBy, Cond.selects RX1 yX1_lateBy yX1_lateBy, Cond.code yX1_lateBy cX1_lateBy 2 (some .int), Cond.methodLink RX1 101 yX2_hadIllness, Cond.instanceMethod yX2_hadIllness, Cond.selects RX2 yX2_hadIllness yX2_hadIllness, Cond.code yX2_hadIllness cX2_hadIllness 3 (some .boolean), Cond.methodLink RX1 94 yX0_hasPlaceFor, Cond.instanceMethod yX0_hasPlaceFor, Cond.selects RX0 yX0_hasPlaceFor yX0_hasPlaceFor, Cond.code yX0_hasPlaceFor cX0_hasPlaceFor 2 (some .boolean), Cond.methodLink RX0 29 yX0_cabinetFor, Cond.instanceMethod yX0_cabinetFor, Cond.selects RX0 yX0_cabinetFor yX0_cabinetFor, Cond.code yX0_cabinetFor cX0_cabinetFor 2 (some .int), Cond.methodLink RX0 33 yX0_isFull, Cond.instanceMethod yX0_isFull, Cond.selects RX0 yX0_isFull yX0_isFull, Cond.code yX0_isFull cX0_isFull 2 (some .boolean), Cond.methodLink RX0 24 yX5_get, Cond.methodLink RX1 123 yX2_enter, Cond.instanceMethod yX2_enter]
def wsL_law_r12 : List Cond := [Cond.selects RX2 yX2_enter yX2_enter, Cond.code yX2_enter cX2_enter 6 none, Cond.methodLink RX2 37 yX5_put, Cond.instanceMethod yX5_put, Cond.selects RX5 yX5_put yX5_put, Cond.code yX5_put cX5_put 5 none, Cond.methodLink RX1 127 yX2_conclude, Cond.instanceMethod yX2_conclude, Cond.selects RX2 yX2_conclude yX2_conclude, Cond.code yX2_conclude cX2_conclude 4 none, Cond.methodLink RX1 131 yX0_file, Cond.instanceMethod yX0_file, Cond.selects RX0 yX0_file yX0_file, Cond.code yX0_file cX0_file 5 none, Cond.methodLink RX0 37 yX5_put, Cond.methodLink RX1 135 yX4_reopen, Cond.instanceMethod yX4_reopen, Cond.selects RX4 yX4_reopen yX4_reopen, Cond.code yX4_reopen cX4_reopen 4 none, Cond.methodLink RX4 62 yX4_rowMadeFor, Cond.instanceMethod yX4_rowMadeFor, Cond.selects RX4 yX4_rowMadeFor yX4_rowMadeFor, Cond.code yX4_rowMadeFor cX4_rowMadeFor 3 (some .int), Cond.methodLink RX4 46 yX4_rowBehind]
def wsL_law_r13 : List Cond := [Cond.instanceMethod yX4_rowBehind, Cond.selects RX4 yX4_rowBehind yX4_rowBehind, Cond.code yX4_rowBehind cX4_rowBehind 3 (some .int), Cond.methodLink RX4 49 yX5_openRow, Cond.instanceMethod yX5_openRow, Cond.selects RX5 yX5_openRow yX5_openRow, Cond.code yX5_openRow cX5_openRow 5 none, Cond.methodLink RX5 32 yX5_put, Cond.methodLink RX4 53 yX5_put, Cond.methodLink RX4 65 yX4_takeBack, Cond.instanceMethod yX4_takeBack, Cond.selects RX4 yX4_takeBack yX4_takeBack, Cond.code yX4_takeBack cX4_takeBack 3 none, Cond.methodLink RX4 58 yX4_isStanding, Cond.instanceMethod yX4_isStanding, Cond.selects RX4 yX4_isStanding yX4_isStanding, Cond.code yX4_isStanding cX4_isStanding 2 (some .boolean), Cond.methodLink RX4 75 yX7_add, Cond.instanceMethod yX7_add, Cond.selects RX7 yX7_add yX7_add, Cond.code yX7_add cX7_add 5 none, Cond.methodLink RX7 39 yX5_dropFirstRow, Cond.instanceMethod yX5_dropFirstRow, Cond.selects RX5 yX5_dropFirstRow yX5_dropFirstRow]
def wsL_law_r14 : List Cond := [Cond.code yX5_dropFirstRow cX5_dropFirstRow 1 none, Cond.methodLink RX7 42 yX5_put, Cond.methodLink RX1 138 yX4_add, Cond.instanceMethod yX4_add, Cond.selects RX4 yX4_add yX4_add, Cond.code yX4_add cX4_add 5 none, Cond.methodLink RX1 141 yX1_raiseWatermark, Cond.instanceMethod yX1_raiseWatermark, Cond.selects RX1 yX1_raiseWatermark yX1_raiseWatermark, Cond.code yX1_raiseWatermark cX1_raiseWatermark 3 none, Cond.methodLink RX1 109 Lib.Math.max.name, Cond.methodLink RX1 145 yX4_shutAndClose, Cond.instanceMethod yX4_shutAndClose, Cond.selects RX4 yX4_shutAndClose yX4_shutAndClose, Cond.code yX4_shutAndClose cX4_shutAndClose 6 none, Cond.methodLink RX4 72 yX4_tellWord, Cond.instanceMethod yX4_tellWord, Cond.selects RX4 yX4_tellWord yX4_tellWord, Cond.code yX4_tellWord cX4_tellWord 3 none, Cond.methodLink RL 22 yX9_event, Cond.instanceMethod yX9_event, Cond.selects RX9 yX9_event yX9_event, Cond.code yX9_event cX9_event 6 (some .int), Cond.methodLink RX9 105 yX9_isEvent]
def wsL_law_r15 : List Cond := [Cond.static yX9_isEvent, Cond.code yX9_isEvent cX9_isEvent 5 (some .boolean), Cond.methodLink RX9 109 yX9_comes, Cond.instanceMethod yX9_comes, Cond.selects RX9 yX9_comes yX9_comes, Cond.code yX9_comes cX9_comes 9 (some .int), Cond.methodLink RX9 53 yX9_ofE, Cond.instanceMethod yX9_ofE, Cond.selects RX9 yX9_ofE yX9_ofE, Cond.code yX9_ofE cX9_ofE 3 (some .int), Cond.methodLink RX9 92 yX9_judgeOf, Cond.instanceMethod yX9_judgeOf, Cond.selects RX9 yX9_judgeOf yX9_judgeOf, Cond.code yX9_judgeOf cX9_judgeOf 5 (some .int), Cond.methodLink RX9 60 yX9_paneAt, Cond.instanceMethod yX9_paneAt, Cond.selects RX9 yX9_paneAt yX9_paneAt, Cond.code yX9_paneAt cX9_paneAt 2 (some .int), Cond.methodLink RX9 47 yX9_modeOf, Cond.instanceMethod yX9_modeOf, Cond.selects RX9 yX9_modeOf yX9_modeOf, Cond.code yX9_modeOf cX9_modeOf 3 (some .int), Cond.methodLink RX9 39 yX9_find, Cond.instanceMethod yX9_find]
def wsL_law_r16 : List Cond := [Cond.selects RX9 yX9_find yX9_find, Cond.code yX9_find cX9_find 3 (some .int), Cond.methodLink RX9 35 yX9_ofP, Cond.instanceMethod yX9_ofP, Cond.selects RX9 yX9_ofP yX9_ofP, Cond.code yX9_ofP cX9_ofP 3 (some .int), Cond.methodLink RX9 83 yX9_isShut, Cond.instanceMethod yX9_isShut, Cond.selects RX9 yX9_isShut yX9_isShut, Cond.code yX9_isShut cX9_isShut 2 (some .boolean), Cond.methodLink RX9 50 yX9_endOf, Cond.instanceMethod yX9_endOf, Cond.selects RX9 yX9_endOf yX9_endOf, Cond.code yX9_endOf cX9_endOf 2 (some .int), Cond.methodLink RX9 86 yX9_isExcuse, Cond.instanceMethod yX9_isExcuse, Cond.selects RX9 yX9_isExcuse yX9_isExcuse, Cond.code yX9_isExcuse cX9_isExcuse 5 (some .boolean), Cond.methodLink RX9 77 yX9_wasIll, Cond.instanceMethod yX9_wasIll, Cond.selects RX9 yX9_wasIll yX9_wasIll, Cond.code yX9_wasIll cX9_wasIll 4 (some .boolean), Cond.methodLink RX9 89 yX9_placeFor, Cond.instanceMethod yX9_placeFor]
def wsL_law_r17 : List Cond := [Cond.selects RX9 yX9_placeFor yX9_placeFor, Cond.code yX9_placeFor cX9_placeFor 3 (some .int), Cond.methodLink RX9 80 yX9_placeIn, Cond.instanceMethod yX9_placeIn, Cond.selects RX9 yX9_placeIn yX9_placeIn, Cond.code yX9_placeIn cX9_placeIn 3 (some .int), Cond.methodLink RX9 96 yX9_keeps, Cond.instanceMethod yX9_keeps, Cond.selects RX9 yX9_keeps yX9_keeps, Cond.code yX9_keeps cX9_keeps 4 (some .int), Cond.methodLink RX9 43 yX9_setsP, Cond.instanceMethod yX9_setsP, Cond.selects RX9 yX9_setsP yX9_setsP, Cond.code yX9_setsP cX9_setsP 4 none, Cond.methodLink RX9 99 yX9_takesBack, Cond.instanceMethod yX9_takesBack, Cond.selects RX9 yX9_takesBack yX9_takesBack, Cond.code yX9_takesBack cX9_takesBack 2 none, Cond.methodLink RX9 66 yX9_says, Cond.instanceMethod yX9_says, Cond.selects RX9 yX9_says yX9_says, Cond.code yX9_says cX9_says 6 none, Cond.methodLink RX9 102 yX9_rises, Cond.instanceMethod yX9_rises]
def wsL_law_r18 : List Cond := [Cond.selects RX9 yX9_rises yX9_rises, Cond.code yX9_rises cX9_rises 5 none, Cond.methodLink RX9 70 yX9_nextKept, Cond.instanceMethod yX9_nextKept, Cond.selects RX9 yX9_nextKept yX9_nextKept, Cond.code yX9_nextKept cX9_nextKept 4 (some .int), Cond.methodLink RX9 73 yX9_tells, Cond.instanceMethod yX9_tells, Cond.selects RX9 yX9_tells yX9_tells, Cond.code yX9_tells cX9_tells 4 none, Cond.methodLink RX9 63 yX9_sumOf, Cond.instanceMethod yX9_sumOf, Cond.selects RX9 yX9_sumOf yX9_sumOf, Cond.code yX9_sumOf cX9_sumOf 7 (some .int), Cond.methodLink RX9 56 yX9_counts, Cond.instanceMethod yX9_counts, Cond.selects RX9 yX9_counts yX9_counts, Cond.code yX9_counts cX9_counts 2 (some .boolean), Cond.methodLink RL 23 yX8_move, Cond.instanceMethod yX8_move, Cond.selects RX8 yX8_move yX8_move, Cond.code yX8_move cX8_move 2 (some .int), Cond.methodLink RX8 56 yX1_canMoveBack, Cond.instanceMethod yX1_canMoveBack]
def wsL_law_r19 : List Cond := [Cond.selects RX1 yX1_canMoveBack yX1_canMoveBack, Cond.code yX1_canMoveBack cX1_canMoveBack 1 (some .boolean), Cond.methodLink RX8 59 yX1_moveBack, Cond.instanceMethod yX1_moveBack, Cond.selects RX1 yX1_moveBack yX1_moveBack, Cond.code yX1_moveBack cX1_moveBack 6 (some .int), Cond.methodLink RX1 148 yX4_takeBackWord, Cond.instanceMethod yX4_takeBackWord, Cond.selects RX4 yX4_takeBackWord yX4_takeBackWord, Cond.code yX4_takeBackWord cX4_takeBackWord 2 none, Cond.methodLink RL 27 yX9_move, Cond.instanceMethod yX9_move, Cond.selects RX9 yX9_move yX9_move, Cond.code yX9_move cX9_move 6 (some .int), Cond.methodLink RL 28 yX8_paneOf, Cond.instanceMethod yX8_paneOf, Cond.selects RX8 yX8_paneOf yX8_paneOf, Cond.code yX8_paneOf cX8_paneOf 3 (some .int), Cond.constant RX8 72 (-1000004), Cond.methodLink RX8 63 yX1_hasTimes, Cond.instanceMethod yX1_hasTimes, Cond.selects RX1 yX1_hasTimes yX1_hasTimes, Cond.code yX1_hasTimes cX1_hasTimes 2 (some .boolean), Cond.methodLink RX8 67 yX1_stateOf]
def wsL_law_r20 : List Cond := [Cond.methodLink RX8 73 yX1_panes, Cond.instanceMethod yX1_panes, Cond.selects RX1 yX1_panes yX1_panes, Cond.code yX1_panes cX1_panes 1 (some (.object "LateExcuses$Panes")), Cond.methodLink RX8 77 yX4_read, Cond.methodLink RL 31 yX9_paneOf, Cond.instanceMethod yX9_paneOf, Cond.selects RX9 yX9_paneOf yX9_paneOf, Cond.code yX9_paneOf cX9_paneOf 4 (some .int), Cond.constant RX9 119 (-1000004), Cond.methodLink RX9 113 yX9_isPane, Cond.instanceMethod yX9_isPane, Cond.selects RX9 yX9_isPane yX9_isPane, Cond.code yX9_isPane cX9_isPane 2 (some .boolean), Cond.methodLink RX9 116 yX9_stateOf, Cond.instanceMethod yX9_stateOf, Cond.selects RX9 yX9_stateOf yX9_stateOf, Cond.code yX9_stateOf cX9_stateOf 3 (some .int), Cond.methodLink RL 32 yX8_mean, Cond.instanceMethod yX8_mean, Cond.selects RX8 yX8_mean yX8_mean, Cond.code yX8_mean cX8_mean 3 (some .int), Cond.methodLink RX8 80 yX8_bitsOf, Cond.static yX8_bitsOf]
def wsL_law_r21 : List Cond := [Cond.code yX8_bitsOf cX8_bitsOf 4 (some .int), Cond.constantFloat RX8 191 (1258291200), Cond.constant RX8 192 (8388608), Cond.constant RX8 193 (-2147483648), Cond.methodLink RL 35 yX9_mean, Cond.instanceMethod yX9_mean, Cond.selects RX9 yX9_mean yX9_mean, Cond.code yX9_mean cX9_mean 3 (some .int), Cond.methodLink RX9 122 yX9_bitsOf, Cond.static yX9_bitsOf, Cond.code yX9_bitsOf cX9_bitsOf 4 (some .int), Cond.constantFloat RX9 120 (1258291200), Cond.constant RX9 121 (-2147483648), Cond.methodLink RL 36 yX8_standing, Cond.instanceMethod yX8_standing, Cond.selects RX8 yX8_standing yX8_standing, Cond.code yX8_standing cX8_standing 3 (some .int), Cond.methodLink RX8 84 yX4_hasWord, Cond.instanceMethod yX4_hasWord, Cond.selects RX4 yX4_hasWord yX4_hasWord, Cond.code yX4_hasWord cX4_hasWord 2 (some .boolean), Cond.methodLink RL 39 yX9_standing, Cond.instanceMethod yX9_standing, Cond.selects RX9 yX9_standing yX9_standing]
def wsL_law_r22 : List Cond := [Cond.code yX9_standing cX9_standing 4 (some .int), Cond.methodLink RL 40 yX8_nextPane, Cond.instanceMethod yX8_nextPane, Cond.selects RX8 yX8_nextPane yX8_nextPane, Cond.code yX8_nextPane cX8_nextPane 2 (some .int), Cond.methodLink RX8 87 yX4_behind, Cond.instanceMethod yX4_behind, Cond.selects RX4 yX4_behind yX4_behind, Cond.code yX4_behind cX4_behind 3 (some .int), Cond.constant RX4 57 (-1000004), Cond.methodLink RL 43 yX9_nextPane, Cond.instanceMethod yX9_nextPane, Cond.selects RX9 yX9_nextPane yX9_nextPane, Cond.code yX9_nextPane cX9_nextPane 4 (some .int), Cond.methodLink RL 44 yX8_wordAt, Cond.instanceMethod yX8_wordAt, Cond.selects RX8 yX8_wordAt yX8_wordAt, Cond.code yX8_wordAt cX8_wordAt 3 (some .int), Cond.methodLink RX8 90 yX4_words, Cond.instanceMethod yX4_words, Cond.selects RX4 yX4_words yX4_words, Cond.code yX4_words cX4_words 1 (some (.object "LateExcuses$Words")), Cond.methodLink RX8 94 yX7_read, Cond.instanceMethod yX7_read]
def wsL_law_r23 : List Cond := [Cond.selects RX7 yX7_read yX7_read, Cond.code yX7_read cX7_read 3 (some .int), Cond.constant RX7 38 (-1000004), Cond.methodLink RX7 34 yX5_get, Cond.methodLink RL 47 yX9_wordAt, Cond.instanceMethod yX9_wordAt, Cond.selects RX9 yX9_wordAt yX9_wordAt, Cond.code yX9_wordAt cX9_wordAt 3 (some .int), Cond.methodLink RL 48 yX8_eventOf, Cond.instanceMethod yX8_eventOf, Cond.selects RX8 yX8_eventOf yX8_eventOf, Cond.code yX8_eventOf cX8_eventOf 3 (some .int), Cond.methodLink RX8 97 yX1_events, Cond.instanceMethod yX1_events, Cond.selects RX1 yX1_events yX1_events, Cond.code yX1_events cX1_events 1 (some (.object "LateExcuses$Events")), Cond.methodLink RX8 101 yX2_read, Cond.instanceMethod yX2_read, Cond.selects RX2 yX2_read yX2_read, Cond.code yX2_read cX2_read 3 (some .int), Cond.constant RX2 36 (-1000004), Cond.methodLink RX2 32 yX2_hasCome, Cond.methodLink RL 51 yX9_eventOf, Cond.instanceMethod yX9_eventOf]
def wsL_law_r24 : List Cond := [Cond.selects RX9 yX9_eventOf yX9_eventOf, Cond.code yX9_eventOf cX9_eventOf 3 (some .int), Cond.methodLink RL 52 yX8_judge, Cond.instanceMethod yX8_judge, Cond.selects RX8 yX8_judge yX8_judge, Cond.code yX8_judge cX8_judge 5 (some .int), Cond.methodLink RX8 104 yX1_verdict, Cond.methodLink RL 56 yX9_judge, Cond.instanceMethod yX9_judge, Cond.selects RX9 yX9_judge yX9_judge, Cond.code yX9_judge cX9_judge 4 (some .int), Cond.methodLink RL 57 yX8_lateness, Cond.instanceMethod yX8_lateness, Cond.selects RX8 yX8_lateness yX8_lateness, Cond.code yX8_lateness cX8_lateness 3 (some .int), Cond.methodLink RX8 108 yX1_paneAt, Cond.methodLink RX8 111 yX1_lateBy, Cond.methodLink RL 60 yX9_lateness, Cond.instanceMethod yX9_lateness, Cond.selects RX9 yX9_lateness yX9_lateness, Cond.code yX9_lateness cX9_lateness 3 (some .int), Cond.methodLink RL 61 yX8_latestExcused, Cond.instanceMethod yX8_latestExcused, Cond.selects RX8 yX8_latestExcused yX8_latestExcused]
def wsL_law_r25 : List Cond := [Cond.code yX8_latestExcused cX8_latestExcused 3 (some .int), Cond.methodLink RX8 114 yX1_latestAcceptable, Cond.instanceMethod yX1_latestAcceptable, Cond.selects RX1 yX1_latestAcceptable yX1_latestAcceptable, Cond.code yX1_latestAcceptable cX1_latestAcceptable 5 (some .int), Cond.constant RX1 108 (-1000004), Cond.methodLink RX1 104 yX1_latestIn, Cond.instanceMethod yX1_latestIn, Cond.selects RX1 yX1_latestIn yX1_latestIn, Cond.code yX1_latestIn cX1_latestIn 6 (some .int), Cond.methodLink RL 64 yX9_latestExcused, Cond.instanceMethod yX9_latestExcused, Cond.selects RX9 yX9_latestExcused yX9_latestExcused, Cond.code yX9_latestExcused cX9_latestExcused 4 (some .int), Cond.methodLink RL 65 yX8_filed, Cond.instanceMethod yX8_filed, Cond.selects RX8 yX8_filed yX8_filed, Cond.code yX8_filed cX8_filed 3 (some .int), Cond.methodLink RX8 119 yX1_cabinets, Cond.instanceMethod yX1_cabinets, Cond.selects RX1 yX1_cabinets yX1_cabinets, Cond.code yX1_cabinets cX1_cabinets 1 (some (.object "LateExcuses$Cabinets")), Cond.methodLink RX8 123 yX0_read, Cond.instanceMethod yX0_read]
def wsL_law_r26 : List Cond := [Cond.selects RX0 yX0_read yX0_read, Cond.code yX0_read cX0_read 3 (some .int), Cond.constant RX0 28 (-1000004), Cond.methodLink RL 68 yX9_filed, Cond.instanceMethod yX9_filed, Cond.selects RX9 yX9_filed yX9_filed, Cond.code yX9_filed cX9_filed 4 (some .int), Cond.methodLink RL 69 yX8_trust, Cond.instanceMethod yX8_trust, Cond.selects RX8 yX8_trust yX8_trust, Cond.code yX8_trust cX8_trust 6 (some .int), Cond.methodLink RX8 124 yX2_ofKey, Cond.instanceMethod yX2_ofKey, Cond.selects RX2 yX2_ofKey yX2_ofKey, Cond.code yX2_ofKey cX2_ofKey 6 (some .int), Cond.methodLink RL 72 yX9_trust, Cond.instanceMethod yX9_trust, Cond.selects RX9 yX9_trust yX9_trust, Cond.code yX9_trust cX9_trust 5 (some .int), Cond.constantFloat RX9 126 (1056964608), Cond.methodLink RL 73 yX8_count, Cond.instanceMethod yX8_count, Cond.selects RX8 yX8_count yX8_count, Cond.code yX8_count cX8_count 2 (some .int)]
def wsL_law_r27 : List Cond := [Cond.methodLink RX8 127 yX1_setting, Cond.methodLink RX8 130 yX7_kept, Cond.instanceMethod yX7_kept, Cond.selects RX7 yX7_kept yX7_kept, Cond.code yX7_kept cX7_kept 1 (some .int), Cond.methodLink RX8 134 yX7_told, Cond.instanceMethod yX7_told, Cond.selects RX7 yX7_told yX7_told, Cond.code yX7_told cX7_told 1 (some .int), Cond.methodLink RX8 137 yX7_takenBack, Cond.instanceMethod yX7_takenBack, Cond.selects RX7 yX7_takenBack yX7_takenBack, Cond.code yX7_takenBack cX7_takenBack 1 (some .int), Cond.methodLink RX8 140 yX4_closedCases, Cond.instanceMethod yX4_closedCases, Cond.selects RX4 yX4_closedCases yX4_closedCases, Cond.code yX4_closedCases cX4_closedCases 3 (some .int), Cond.methodLink RX8 143 yX3_states, Cond.instanceMethod yX3_states, Cond.selects RX3 yX3_states yX3_states, Cond.code yX3_states cX3_states 1 (some .int), Cond.methodLink RX8 146 yX6_length, Cond.instanceMethod yX6_length, Cond.selects RX6 yX6_length yX6_length]
def wsL_law_r28 : List Cond := [Cond.code yX6_length cX6_length 1 (some .int), Cond.fieldLink RX6 15 "LateExcuses$Text" "length" "I", Cond.methodLink RX8 149 yX1_number, Cond.instanceMethod yX1_number, Cond.selects RX1 yX1_number yX1_number, Cond.code yX1_number cX1_number 2 (some .int), Cond.constant RX1 74 (-1000001), Cond.methodLink RX1 70 yX2_doubles, Cond.instanceMethod yX2_doubles, Cond.selects RX2 yX2_doubles yX2_doubles, Cond.code yX2_doubles cX2_doubles 1 (some .int), Cond.methodLink RL 76 yX9_count, Cond.instanceMethod yX9_count, Cond.selects RX9 yX9_count yX9_count, Cond.code yX9_count cX9_count 2 (some .int), Cond.fieldLink RX9 134 "LateExcusesModel" "length" "I", Cond.methodLink RX9 127 yX9_results, Cond.instanceMethod yX9_results, Cond.selects RX9 yX9_results yX9_results, Cond.code yX9_results cX9_results 5 (some .int), Cond.methodLink RX9 130 yX9_cases, Cond.instanceMethod yX9_cases, Cond.selects RX9 yX9_cases yX9_cases, Cond.code yX9_cases cX9_cases 3 (some .int)]
def wsL_law_r29 : List Cond := [Cond.methodLink RL 77 yX8_undo, Cond.instanceMethod yX8_undo, Cond.selects RX8 yX8_undo yX8_undo, Cond.code yX8_undo cX8_undo 1 (some .int), Cond.methodLink RX8 152 yX3_restore, Cond.instanceMethod yX3_restore, Cond.selects RX3 yX3_restore yX3_restore, Cond.code yX3_restore cX3_restore 4 none, Cond.methodLink RL 81 yX9_undo, Cond.instanceMethod yX9_undo, Cond.selects RX9 yX9_undo yX9_undo, Cond.code yX9_undo cX9_undo 2 (some .int), Cond.methodLink RL 82 yX8_type, Cond.instanceMethod yX8_type, Cond.selects RX8 yX8_type yX8_type, Cond.code yX8_type cX8_type 2 (some .int), Cond.constant RX8 159 (-1000003), Cond.methodLink RX8 155 yX6_append, Cond.instanceMethod yX6_append, Cond.selects RX6 yX6_append yX6_append, Cond.code yX6_append cX6_append 2 (some .boolean), Cond.methodLink RL 85 yX9_type, Cond.instanceMethod yX9_type, Cond.selects RX9 yX9_type yX9_type]
def wsL_law_r30 : List Cond := [Cond.code yX9_type cX9_type 2 (some .int), Cond.constant RX9 137 (-1000003), Cond.methodLink RL 86 yX8_clearText, Cond.instanceMethod yX8_clearText, Cond.selects RX8 yX8_clearText yX8_clearText, Cond.code yX8_clearText cX8_clearText 2 (some .int), Cond.methodLink RX8 160 yX6_empty, Cond.instanceMethod yX6_empty, Cond.selects RX6 yX6_empty yX6_empty, Cond.code yX6_empty cX6_empty 1 none, Cond.methodLink RL 89 yX9_clearText, Cond.instanceMethod yX9_clearText, Cond.selects RX9 yX9_clearText yX9_clearText, Cond.code yX9_clearText cX9_clearText 2 (some .int), Cond.methodLink RL 90 yX8_fault, Cond.instanceMethod yX8_fault, Cond.selects RX8 yX8_fault yX8_fault, Cond.code yX8_fault cX8_fault 2 (some .int), Cond.methodLink RX8 163 yX6_hasFault, Cond.instanceMethod yX6_hasFault, Cond.selects RX6 yX6_hasFault yX6_hasFault, Cond.code yX6_hasFault cX6_hasFault 4 (some .boolean), Cond.fieldLink RX6 29 "LateExcuses$Text" "id" "I", Cond.fieldLink RX6 32 "LateExcuses$Text" "time" "I"]
def wsL_law_r31 : List Cond := [Cond.fieldLink RX6 35 "LateExcuses$Text" "key" "I", Cond.fieldLink RX6 38 "LateExcuses$Text" "amount" "I", Cond.fieldLink RX6 19 "LateExcuses$Text" "faultPlace" "I", Cond.fieldLink RX6 22 "LateExcuses$Text" "faultReason" "I", Cond.methodLink RX6 25 yX6_readEvent, Cond.instanceMethod yX6_readEvent, Cond.selects RX6 yX6_readEvent yX6_readEvent, Cond.code yX6_readEvent cX6_readEvent 4 (some .int), Cond.fieldLink RX6 45 "LateExcuses$Text" "place" "I", Cond.fieldLink RX6 52 "LateExcuses$Text" "number" "I", Cond.fieldLink RX6 63 "LateExcuses$Text" "excuse" "I", Cond.methodLink RX6 48 yX6_readNumber, Cond.instanceMethod yX6_readNumber, Cond.selects RX6 yX6_readNumber yX6_readNumber, Cond.code yX6_readNumber cX6_readNumber 2 (some .boolean), Cond.methodLink RX6 66 yX6_signHere, Cond.instanceMethod yX6_signHere, Cond.selects RX6 yX6_signHere yX6_signHere, Cond.code yX6_signHere cX6_signHere 1 (some .char), Cond.methodLink RX6 55 yX6_readSign, Cond.instanceMethod yX6_readSign, Cond.selects RX6 yX6_readSign yX6_readSign, Cond.code yX6_readSign cX6_readSign 2 (some .boolean), Cond.methodLink RX6 59 yX6_readExcuse]
def wsL_law_r32 : List Cond := [Cond.instanceMethod yX6_readExcuse, Cond.selects RX6 yX6_readExcuse yX6_readExcuse, Cond.code yX6_readExcuse cX6_readExcuse 1 (some .int), Cond.methodLink RX8 166 yX6_faultPlace, Cond.instanceMethod yX6_faultPlace, Cond.selects RX6 yX6_faultPlace yX6_faultPlace, Cond.code yX6_faultPlace cX6_faultPlace 1 (some .int), Cond.methodLink RX8 169 yX6_faultReason, Cond.instanceMethod yX6_faultReason, Cond.selects RX6 yX6_faultReason yX6_faultReason, Cond.code yX6_faultReason cX6_faultReason 1 (some .int), Cond.methodLink RL 93 yX9_fault, Cond.instanceMethod yX9_fault, Cond.selects RX9 yX9_fault yX9_fault, Cond.code yX9_fault cX9_fault 3 (some .int), Cond.methodLink RX9 157 yX9_faultOf, Cond.instanceMethod yX9_faultOf, Cond.selects RX9 yX9_faultOf yX9_faultOf, Cond.code yX9_faultOf cX9_faultOf 2 (some .int), Cond.fieldLink RX9 138 "LateExcusesModel" "at" "I", Cond.methodLink RX9 154 yX9_passesEvent, Cond.instanceMethod yX9_passesEvent, Cond.selects RX9 yX9_passesEvent yX9_passesEvent, Cond.code yX9_passesEvent cX9_passesEvent 2 (some .boolean)]
def wsL_law_r33 : List Cond := [Cond.fieldLink RX9 141 "LateExcusesModel" "number" "I", Cond.methodLink RX9 147 yX9_passesNumber, Cond.instanceMethod yX9_passesNumber, Cond.selects RX9 yX9_passesNumber yX9_passesNumber, Cond.code yX9_passesNumber cX9_passesNumber 2 (some .boolean), Cond.methodLink RX9 144 yX9_passes, Cond.instanceMethod yX9_passes, Cond.selects RX9 yX9_passes yX9_passes, Cond.code yX9_passes cX9_passes 3 (some .boolean), Cond.methodLink RX9 151 yX9_excuseHere, Cond.instanceMethod yX9_excuseHere, Cond.selects RX9 yX9_excuseHere yX9_excuseHere, Cond.code yX9_excuseHere cX9_excuseHere 1 (some .int), Cond.methodLink RL 94 yX8_play, Cond.instanceMethod yX8_play, Cond.selects RX8 yX8_play yX8_play, Cond.code yX8_play cX8_play 5 (some .int), Cond.methodLink RX8 172 yX6_readEvent, Cond.methodLink RL 97 yX9_play, Cond.instanceMethod yX9_play, Cond.selects RX9 yX9_play yX9_play, Cond.code yX9_play cX9_play 3 (some .int)]
def wsL_law : List Cond := (wsL_law_r1 ++ (wsL_law_r2 ++ (wsL_law_r3 ++ (wsL_law_r4 ++ (wsL_law_r5 ++ (wsL_law_r6 ++ (wsL_law_r7 ++ (wsL_law_r8 ++ (wsL_law_r9 ++ (wsL_law_r10 ++ (wsL_law_r11 ++ (wsL_law_r12 ++ (wsL_law_r13 ++ (wsL_law_r14 ++ (wsL_law_r15 ++ (wsL_law_r16 ++ (wsL_law_r17 ++ (wsL_law_r18 ++ (wsL_law_r19 ++ (wsL_law_r20 ++ (wsL_law_r21 ++ (wsL_law_r22 ++ (wsL_law_r23 ++ (wsL_law_r24 ++ (wsL_law_r25 ++ (wsL_law_r26 ++ (wsL_law_r27 ++ (wsL_law_r28 ++ (wsL_law_r29 ++ (wsL_law_r30 ++ (wsL_law_r31 ++ (wsL_law_r32 ++ wsL_law_r33)))))))))))))))))))))))))))))))) ++ wsX80 ++ wsX90 ++ wsX10 ++ wsX30 ++ wsX60 ++ wsX20 ++ wsX40 ++ wsX00 ++ wsX50 ++ wsX70 ++ ([] : List Cond)
abbrev vwCl : List vw_C := [(RX0, TX0, 1), (RX1, TX1, 9), (RX2, TX2, 2), (RX3, TX3, 3), (RX4, TX4, 3), (RX5, TX5, 3), (RX6, TX6, 11), (RX7, TX7, 4), (RX8, TX8, 3), (RX9, TX9, 8)]
end
section
set_option maxRecDepth 20000 in
theorem ggX0_init_X5_init : GoodIn wsX0_init wsX5_init := goodIn_r _ [10, 11, 2, 3, 12, 13, 14, 15, 16, 17, 18, 19, 20, 21, 22] (by decide +kernel) (by decide +kernel)
set_option maxRecDepth 20000 in
theorem gX0_init_X5_init : GoodIn wsX0_init (wsX5_init) := ggX0_init_X5_init
theorem dX0_init_0 : decode cX0_init 0 = .ok (.aload_n 0, 1) := by decide +kernel
theorem dX0_init_1 : decode cX0_init 1 = .ok (.invokespecial 5, 3) := by decide +kernel
theorem dX0_init_4 : decode cX0_init 4 = .ok (.aload_n 0, 1) := by decide +kernel
theorem dX0_init_5 : decode cX0_init 5 = .ok (.new 11, 3) := by decide +kernel
theorem dX0_init_8 : decode cX0_init 8 = .ok (.dup, 1) := by decide +kernel
theorem dX0_init_9 : decode cX0_init 9 = .ok (.iconst 3, 1) := by decide +kernel
theorem dX0_init_10 : decode cX0_init 10 = .ok (.iconst 5, 1) := by decide +kernel
theorem dX0_init_11 : decode cX0_init 11 = .ok (.invokespecial 13, 3) := by decide +kernel
theorem dX0_init_14 : decode cX0_init 14 = .ok (.putfield 16, 3) := by decide +kernel
theorem dX0_init_17 : decode cX0_init 17 = .ok (.return_, 1) := by decide +kernel
set_option maxRecDepth 20000 in
theorem ggX0_copyFrom_X5_copyFrom : GoodIn wsX0_copyFrom wsX5_copyFrom := goodIn_r _ [6, 7, 8, 9, 10, 11, 13, 14, 15] (by decide +kernel) (by decide +kernel)
set_option maxRecDepth 20000 in
theorem gX0_copyFrom_X5_copyFrom : GoodIn wsX0_copyFrom (wsV RX0 20 RX5 yX5_copyFrom wsX5_copyFrom) := goodIn_app (goodIn_of _ (by decide +kernel)) ggX0_copyFrom_X5_copyFrom
theorem dX0_copyFrom_0 : decode cX0_copyFrom 0 = .ok (.aload_n 0, 1) := by decide +kernel
theorem dX0_copyFrom_1 : decode cX0_copyFrom 1 = .ok (.getfield 16, 3) := by decide +kernel
theorem dX0_copyFrom_4 : decode cX0_copyFrom 4 = .ok (.aload_n 1, 1) := by decide +kernel
theorem dX0_copyFrom_5 : decode cX0_copyFrom 5 = .ok (.getfield 16, 3) := by decide +kernel
theorem dX0_copyFrom_8 : decode cX0_copyFrom 8 = .ok (.invokevirtual 20, 3) := by decide +kernel
theorem dX0_copyFrom_11 : decode cX0_copyFrom 11 = .ok (.return_, 1) := by decide +kernel
set_option maxRecDepth 20000 in
theorem ggX0_read_X5_get : GoodIn wsX0_read wsX5_get := goodIn_r _ [7, 8, 9, 10, 12, 13, 14] (by decide +kernel) (by decide +kernel)
set_option maxRecDepth 20000 in
theorem gX0_read_X5_get : GoodIn wsX0_read (wsV RX0 24 RX5 yX5_get wsX5_get) := goodIn_app (goodIn_of _ (by decide +kernel)) ggX0_read_X5_get
theorem dX0_read_0 : decode cX0_read 0 = .ok (.iload_n 2, 1) := by decide +kernel
theorem dX0_read_1 : decode cX0_read 1 = .ok (.aload_n 0, 1) := by decide +kernel
theorem dX0_read_2 : decode cX0_read 2 = .ok (.getfield 16, 3) := by decide +kernel
theorem dX0_read_5 : decode cX0_read 5 = .ok (.iload_n 1, 1) := by decide +kernel
theorem dX0_read_6 : decode cX0_read 6 = .ok (.iconst 4, 1) := by decide +kernel
theorem dX0_read_7 : decode cX0_read 7 = .ok (.invokevirtual 24, 3) := by decide +kernel
theorem dX0_read_10 : decode cX0_read 10 = .ok (.if_icmp .ge 15, 3) := by decide +kernel
theorem dX0_read_13 : decode cX0_read 13 = .ok (.aload_n 0, 1) := by decide +kernel
theorem dX0_read_14 : decode cX0_read 14 = .ok (.getfield 16, 3) := by decide +kernel
theorem dX0_read_17 : decode cX0_read 17 = .ok (.iload_n 1, 1) := by decide +kernel
theorem dX0_read_18 : decode cX0_read 18 = .ok (.iload_n 2, 1) := by decide +kernel
theorem dX0_read_19 : decode cX0_read 19 = .ok (.invokevirtual 24, 3) := by decide +kernel
theorem dX0_read_22 : decode cX0_read 22 = .ok (.goto 5, 3) := by decide +kernel
theorem dX0_read_25 : decode cX0_read 25 = .ok (.ldc 28, 2) := by decide +kernel
theorem dX0_read_27 : decode cX0_read 27 = .ok (.ireturn, 1) := by decide +kernel
set_option maxRecDepth 20000 in
theorem ggX0_hasPlaceFor_X0_cabinetFor : GoodIn wsX0_hasPlaceFor wsX0_cabinetFor := goodIn_r _ [5, 6, 7, 8, 4, 9, 10, 11, 12, 13, 14, 15, 16, 17, 18, 19, 20, 21, 22] (by decide +kernel) (by decide +kernel)
set_option maxRecDepth 20000 in
theorem gX0_hasPlaceFor_X0_cabinetFor : GoodIn wsX0_hasPlaceFor (wsV RX0 29 RX0 yX0_cabinetFor wsX0_cabinetFor) := goodIn_app (goodIn_of _ (by decide +kernel)) ggX0_hasPlaceFor_X0_cabinetFor
set_option maxRecDepth 20000 in
theorem ggX0_hasPlaceFor_X0_isFull : GoodIn wsX0_hasPlaceFor wsX0_isFull := goodIn_r _ [9, 10, 11, 12, 13, 14, 15, 16, 17, 18, 19, 20, 21, 22] (by decide +kernel) (by decide +kernel)
set_option maxRecDepth 20000 in
theorem gX0_hasPlaceFor_X0_isFull : GoodIn wsX0_hasPlaceFor (wsV RX0 33 RX0 yX0_isFull wsX0_isFull) := goodIn_app (goodIn_of _ (by decide +kernel)) ggX0_hasPlaceFor_X0_isFull
theorem dX0_hasPlaceFor_0 : decode cX0_hasPlaceFor 0 = .ok (.aload_n 0, 1) := by decide +kernel
theorem dX0_hasPlaceFor_1 : decode cX0_hasPlaceFor 1 = .ok (.aload_n 0, 1) := by decide +kernel
theorem dX0_hasPlaceFor_2 : decode cX0_hasPlaceFor 2 = .ok (.iload_n 1, 1) := by decide +kernel
theorem dX0_hasPlaceFor_3 : decode cX0_hasPlaceFor 3 = .ok (.invokevirtual 29, 3) := by decide +kernel
theorem dX0_hasPlaceFor_6 : decode cX0_hasPlaceFor 6 = .ok (.invokevirtual 33, 3) := by decide +kernel
theorem dX0_hasPlaceFor_9 : decode cX0_hasPlaceFor 9 = .ok (.ifCond .ne 7, 3) := by decide +kernel
theorem dX0_hasPlaceFor_12 : decode cX0_hasPlaceFor 12 = .ok (.iconst 1, 1) := by decide +kernel
theorem dX0_hasPlaceFor_13 : decode cX0_hasPlaceFor 13 = .ok (.goto 4, 3) := by decide +kernel
theorem dX0_hasPlaceFor_16 : decode cX0_hasPlaceFor 16 = .ok (.iconst 0, 1) := by decide +kernel
theorem dX0_hasPlaceFor_17 : decode cX0_hasPlaceFor 17 = .ok (.ireturn, 1) := by decide +kernel
set_option maxRecDepth 20000 in
theorem ggX0_file_X0_cabinetFor : GoodIn wsX0_file wsX0_cabinetFor := goodIn_r _ [6, 7, 8, 9, 5, 10, 1, 11, 12, 13, 14, 15, 16, 17, 18, 23, 24, 25, 26] (by decide +kernel) (by decide +kernel)
set_option maxRecDepth 20000 in
theorem gX0_file_X0_cabinetFor : GoodIn wsX0_file (wsV RX0 29 RX0 yX0_cabinetFor wsX0_cabinetFor) := goodIn_app (goodIn_of _ (by decide +kernel)) ggX0_file_X0_cabinetFor
set_option maxRecDepth 20000 in
theorem ggX0_file_X0_isFull : GoodIn wsX0_file wsX0_isFull := goodIn_r _ [10, 1, 11, 12, 13, 14, 15, 16, 17, 18, 23, 24, 25, 26] (by decide +kernel) (by decide +kernel)
set_option maxRecDepth 20000 in
theorem gX0_file_X0_isFull : GoodIn wsX0_file (wsV RX0 33 RX0 yX0_isFull wsX0_isFull) := goodIn_app (goodIn_of _ (by decide +kernel)) ggX0_file_X0_isFull
set_option maxRecDepth 20000 in
theorem ggX0_file_X5_get : GoodIn wsX0_file wsX5_get := goodIn_r _ [15, 16, 17, 18, 24, 25, 26] (by decide +kernel) (by decide +kernel)
set_option maxRecDepth 20000 in
theorem gX0_file_X5_get : GoodIn wsX0_file (wsV RX0 24 RX5 yX5_get wsX5_get) := goodIn_app (goodIn_of _ (by decide +kernel)) ggX0_file_X5_get
set_option maxRecDepth 20000 in
theorem ggX0_file_X5_put : GoodIn wsX0_file wsX5_put := goodIn_r _ [22, 16, 17, 18, 24, 25, 26] (by decide +kernel) (by decide +kernel)
set_option maxRecDepth 20000 in
theorem gX0_file_X5_put : GoodIn wsX0_file (wsV RX0 37 RX5 yX5_put wsX5_put) := goodIn_app (goodIn_of _ (by decide +kernel)) ggX0_file_X5_put
theorem dX0_file_0 : decode cX0_file 0 = .ok (.aload_n 0, 1) := by decide +kernel
theorem dX0_file_1 : decode cX0_file 1 = .ok (.iload_n 1, 1) := by decide +kernel
theorem dX0_file_2 : decode cX0_file 2 = .ok (.invokevirtual 29, 3) := by decide +kernel
theorem dX0_file_5 : decode cX0_file 5 = .ok (.istore_n 3, 1) := by decide +kernel
theorem dX0_file_6 : decode cX0_file 6 = .ok (.aload_n 0, 1) := by decide +kernel
theorem dX0_file_7 : decode cX0_file 7 = .ok (.iload_n 3, 1) := by decide +kernel
theorem dX0_file_8 : decode cX0_file 8 = .ok (.invokevirtual 33, 3) := by decide +kernel
theorem dX0_file_11 : decode cX0_file 11 = .ok (.ifCond .ne 38, 3) := by decide +kernel
theorem dX0_file_14 : decode cX0_file 14 = .ok (.aload_n 0, 1) := by decide +kernel
theorem dX0_file_15 : decode cX0_file 15 = .ok (.getfield 16, 3) := by decide +kernel
theorem dX0_file_18 : decode cX0_file 18 = .ok (.iload_n 3, 1) := by decide +kernel
theorem dX0_file_19 : decode cX0_file 19 = .ok (.iconst 4, 1) := by decide +kernel
theorem dX0_file_20 : decode cX0_file 20 = .ok (.invokevirtual 24, 3) := by decide +kernel
theorem dX0_file_23 : decode cX0_file 23 = .ok (.istore 4, 2) := by decide +kernel
theorem dX0_file_25 : decode cX0_file 25 = .ok (.aload_n 0, 1) := by decide +kernel
theorem dX0_file_26 : decode cX0_file 26 = .ok (.getfield 16, 3) := by decide +kernel
theorem dX0_file_29 : decode cX0_file 29 = .ok (.iload_n 3, 1) := by decide +kernel
theorem dX0_file_30 : decode cX0_file 30 = .ok (.iload 4, 2) := by decide +kernel
theorem dX0_file_32 : decode cX0_file 32 = .ok (.iload_n 2, 1) := by decide +kernel
theorem dX0_file_33 : decode cX0_file 33 = .ok (.invokevirtual 37, 3) := by decide +kernel
theorem dX0_file_36 : decode cX0_file 36 = .ok (.aload_n 0, 1) := by decide +kernel
theorem dX0_file_37 : decode cX0_file 37 = .ok (.getfield 16, 3) := by decide +kernel
theorem dX0_file_40 : decode cX0_file 40 = .ok (.iload_n 3, 1) := by decide +kernel
theorem dX0_file_41 : decode cX0_file 41 = .ok (.iconst 4, 1) := by decide +kernel
theorem dX0_file_42 : decode cX0_file 42 = .ok (.iload 4, 2) := by decide +kernel
theorem dX0_file_44 : decode cX0_file 44 = .ok (.iconst 1, 1) := by decide +kernel
theorem dX0_file_45 : decode cX0_file 45 = .ok (.iadd, 1) := by decide +kernel
theorem dX0_file_46 : decode cX0_file 46 = .ok (.invokevirtual 37, 3) := by decide +kernel
theorem dX0_file_49 : decode cX0_file 49 = .ok (.return_, 1) := by decide +kernel
set_option maxRecDepth 20000 in
theorem ggX0_cabinetFor_X0_isFull : GoodIn wsX0_cabinetFor wsX0_isFull := goodIn_r _ [5, 6, 7, 8, 9, 10, 11, 12, 13, 14, 15, 16, 17, 18] (by decide +kernel) (by decide +kernel)
set_option maxRecDepth 20000 in
theorem gX0_cabinetFor_X0_isFull : GoodIn wsX0_cabinetFor (wsV RX0 33 RX0 yX0_isFull wsX0_isFull) := goodIn_app (goodIn_of _ (by decide +kernel)) ggX0_cabinetFor_X0_isFull
theorem dX0_cabinetFor_0 : decode cX0_cabinetFor 0 = .ok (.iload_n 1, 1) := by decide +kernel
theorem dX0_cabinetFor_1 : decode cX0_cabinetFor 1 = .ok (.iconst 1, 1) := by decide +kernel
theorem dX0_cabinetFor_2 : decode cX0_cabinetFor 2 = .ok (.if_icmp .ne 13, 3) := by decide +kernel
theorem dX0_cabinetFor_5 : decode cX0_cabinetFor 5 = .ok (.aload_n 0, 1) := by decide +kernel
theorem dX0_cabinetFor_6 : decode cX0_cabinetFor 6 = .ok (.iconst 0, 1) := by decide +kernel
theorem dX0_cabinetFor_7 : decode cX0_cabinetFor 7 = .ok (.invokevirtual 33, 3) := by decide +kernel
theorem dX0_cabinetFor_10 : decode cX0_cabinetFor 10 = .ok (.ifCond .ne 5, 3) := by decide +kernel
theorem dX0_cabinetFor_13 : decode cX0_cabinetFor 13 = .ok (.iconst 0, 1) := by decide +kernel
theorem dX0_cabinetFor_14 : decode cX0_cabinetFor 14 = .ok (.ireturn, 1) := by decide +kernel
theorem dX0_cabinetFor_15 : decode cX0_cabinetFor 15 = .ok (.iload_n 1, 1) := by decide +kernel
theorem dX0_cabinetFor_16 : decode cX0_cabinetFor 16 = .ok (.iconst 2, 1) := by decide +kernel
theorem dX0_cabinetFor_17 : decode cX0_cabinetFor 17 = .ok (.if_icmp .ne 15, 3) := by decide +kernel
theorem dX0_cabinetFor_20 : decode cX0_cabinetFor 20 = .ok (.aload_n 0, 1) := by decide +kernel
theorem dX0_cabinetFor_21 : decode cX0_cabinetFor 21 = .ok (.iconst 1, 1) := by decide +kernel
theorem dX0_cabinetFor_22 : decode cX0_cabinetFor 22 = .ok (.invokevirtual 33, 3) := by decide +kernel
theorem dX0_cabinetFor_25 : decode cX0_cabinetFor 25 = .ok (.ifCond .ne 7, 3) := by decide +kernel
theorem dX0_cabinetFor_28 : decode cX0_cabinetFor 28 = .ok (.iconst 1, 1) := by decide +kernel
theorem dX0_cabinetFor_29 : decode cX0_cabinetFor 29 = .ok (.goto 4, 3) := by decide +kernel
theorem dX0_cabinetFor_32 : decode cX0_cabinetFor 32 = .ok (.iconst 2, 1) := by decide +kernel
theorem dX0_cabinetFor_33 : decode cX0_cabinetFor 33 = .ok (.ireturn, 1) := by decide +kernel
set_option maxRecDepth 20000 in
theorem ggX0_isFull_X5_get : GoodIn wsX0_isFull wsX5_get := goodIn_r _ [6, 7, 8, 9, 11, 12, 13] (by decide +kernel) (by decide +kernel)
set_option maxRecDepth 20000 in
theorem gX0_isFull_X5_get : GoodIn wsX0_isFull (wsV RX0 24 RX5 yX5_get wsX5_get) := goodIn_app (goodIn_of _ (by decide +kernel)) ggX0_isFull_X5_get
theorem dX0_isFull_0 : decode cX0_isFull 0 = .ok (.aload_n 0, 1) := by decide +kernel
theorem dX0_isFull_1 : decode cX0_isFull 1 = .ok (.getfield 16, 3) := by decide +kernel
theorem dX0_isFull_4 : decode cX0_isFull 4 = .ok (.iload_n 1, 1) := by decide +kernel
theorem dX0_isFull_5 : decode cX0_isFull 5 = .ok (.iconst 4, 1) := by decide +kernel
theorem dX0_isFull_6 : decode cX0_isFull 6 = .ok (.invokevirtual 24, 3) := by decide +kernel
theorem dX0_isFull_9 : decode cX0_isFull 9 = .ok (.iconst 4, 1) := by decide +kernel
theorem dX0_isFull_10 : decode cX0_isFull 10 = .ok (.if_icmp .lt 7, 3) := by decide +kernel
theorem dX0_isFull_13 : decode cX0_isFull 13 = .ok (.iconst 1, 1) := by decide +kernel
theorem dX0_isFull_14 : decode cX0_isFull 14 = .ok (.goto 4, 3) := by decide +kernel
theorem dX0_isFull_17 : decode cX0_isFull 17 = .ok (.iconst 0, 1) := by decide +kernel
theorem dX0_isFull_18 : decode cX0_isFull 18 = .ok (.ireturn, 1) := by decide +kernel
set_option maxRecDepth 20000 in
theorem ggX1_init_X2_init : GoodIn wsX1_init wsX2_init := goodIn_r _ [22, 23, 2, 3, 24, 25, 26, 27, 28, 29, 30, 31, 32, 33, 34, 35, 36, 37, 38, 39, 77, 78, 79, 62, 63] (by decide +kernel) (by decide +kernel)
set_option maxRecDepth 20000 in
theorem gX1_init_X2_init_n11 : GoodIn wsX1_init (wsX2_init) := ggX1_init_X2_init
set_option maxRecDepth 20000 in
theorem ggX1_init_X4_init : GoodIn wsX1_init wsX4_init := goodIn_r _ [41, 42, 2, 3, 43, 25, 26, 44, 45, 46, 47, 48, 49, 29, 30, 31, 32, 33, 34, 35, 36, 37, 38, 39, 50, 51, 52, 53, 54, 55, 77, 78, 79, 73, 74, 75, 80, 81, 82, 83] (by decide +kernel) (by decide +kernel)
set_option maxRecDepth 20000 in
theorem gX1_init_X4_init_n20 : GoodIn wsX1_init (wsX4_init) := ggX1_init_X4_init
set_option maxRecDepth 20000 in
theorem ggX1_init_X0_init : GoodIn wsX1_init wsX0_init := goodIn_r _ [57, 58, 2, 3, 59, 25, 26, 60, 61, 29, 30, 31, 32, 33, 34, 35, 36, 37, 38, 39, 77, 78, 79, 76] (by decide +kernel) (by decide +kernel)
set_option maxRecDepth 20000 in
theorem gX1_init_X0_init_n27 : GoodIn wsX1_init (wsX0_init) := ggX1_init_X0_init
theorem dX1_init_0 : decode cX1_init 0 = .ok (.aload_n 0, 1) := by decide +kernel
theorem dX1_init_1 : decode cX1_init 1 = .ok (.invokespecial 3, 3) := by decide +kernel
theorem dX1_init_4 : decode cX1_init 4 = .ok (.aload_n 0, 1) := by decide +kernel
theorem dX1_init_5 : decode cX1_init 5 = .ok (.new 9, 3) := by decide +kernel
theorem dX1_init_8 : decode cX1_init 8 = .ok (.dup, 1) := by decide +kernel
theorem dX1_init_9 : decode cX1_init 9 = .ok (.invokespecial 11, 3) := by decide +kernel
theorem dX1_init_12 : decode cX1_init 12 = .ok (.putfield 12, 3) := by decide +kernel
theorem dX1_init_15 : decode cX1_init 15 = .ok (.aload_n 0, 1) := by decide +kernel
theorem dX1_init_16 : decode cX1_init 16 = .ok (.new 18, 3) := by decide +kernel
theorem dX1_init_19 : decode cX1_init 19 = .ok (.dup, 1) := by decide +kernel
theorem dX1_init_20 : decode cX1_init 20 = .ok (.invokespecial 20, 3) := by decide +kernel
theorem dX1_init_23 : decode cX1_init 23 = .ok (.putfield 21, 3) := by decide +kernel
theorem dX1_init_26 : decode cX1_init 26 = .ok (.aload_n 0, 1) := by decide +kernel
theorem dX1_init_27 : decode cX1_init 27 = .ok (.new 25, 3) := by decide +kernel
theorem dX1_init_30 : decode cX1_init 30 = .ok (.dup, 1) := by decide +kernel
theorem dX1_init_31 : decode cX1_init 31 = .ok (.invokespecial 27, 3) := by decide +kernel
theorem dX1_init_34 : decode cX1_init 34 = .ok (.putfield 28, 3) := by decide +kernel
theorem dX1_init_37 : decode cX1_init 37 = .ok (.aload_n 0, 1) := by decide +kernel
theorem dX1_init_38 : decode cX1_init 38 = .ok (.bipush 10, 2) := by decide +kernel
theorem dX1_init_40 : decode cX1_init 40 = .ok (.putfield 32, 3) := by decide +kernel
theorem dX1_init_43 : decode cX1_init 43 = .ok (.aload_n 0, 1) := by decide +kernel
theorem dX1_init_44 : decode cX1_init 44 = .ok (.iconst 5, 1) := by decide +kernel
theorem dX1_init_45 : decode cX1_init 45 = .ok (.putfield 36, 3) := by decide +kernel
theorem dX1_init_48 : decode cX1_init 48 = .ok (.aload_n 0, 1) := by decide +kernel
theorem dX1_init_49 : decode cX1_init 49 = .ok (.bipush 10, 2) := by decide +kernel
theorem dX1_init_51 : decode cX1_init 51 = .ok (.putfield 39, 3) := by decide +kernel
theorem dX1_init_54 : decode cX1_init 54 = .ok (.aload_n 0, 1) := by decide +kernel
theorem dX1_init_55 : decode cX1_init 55 = .ok (.iconst (-1), 1) := by decide +kernel
theorem dX1_init_56 : decode cX1_init 56 = .ok (.putfield 42, 3) := by decide +kernel
theorem dX1_init_59 : decode cX1_init 59 = .ok (.aload_n 0, 1) := by decide +kernel
theorem dX1_init_60 : decode cX1_init 60 = .ok (.iconst (-1), 1) := by decide +kernel
theorem dX1_init_61 : decode cX1_init 61 = .ok (.putfield 45, 3) := by decide +kernel
theorem dX1_init_64 : decode cX1_init 64 = .ok (.return_, 1) := by decide +kernel
theorem dX1_events_0 : decode cX1_events 0 = .ok (.aload_n 0, 1) := by decide +kernel
theorem dX1_events_1 : decode cX1_events 1 = .ok (.getfield 12, 3) := by decide +kernel
theorem dX1_events_4 : decode cX1_events 4 = .ok (.areturn, 1) := by decide +kernel
theorem dX1_panes_0 : decode cX1_panes 0 = .ok (.aload_n 0, 1) := by decide +kernel
theorem dX1_panes_1 : decode cX1_panes 1 = .ok (.getfield 21, 3) := by decide +kernel
theorem dX1_panes_4 : decode cX1_panes 4 = .ok (.areturn, 1) := by decide +kernel
theorem dX1_cabinets_0 : decode cX1_cabinets 0 = .ok (.aload_n 0, 1) := by decide +kernel
theorem dX1_cabinets_1 : decode cX1_cabinets 1 = .ok (.getfield 28, 3) := by decide +kernel
theorem dX1_cabinets_4 : decode cX1_cabinets 4 = .ok (.areturn, 1) := by decide +kernel
set_option maxRecDepth 20000 in
theorem ggX1_copyFrom_X2_copyFrom : GoodIn wsX1_copyFrom wsX2_copyFrom := goodIn_r _ [14, 15, 16, 17, 18, 19, 20, 21, 22, 23, 24, 25, 26, 62, 63, 64, 65, 66] (by decide +kernel) (by decide +kernel)
set_option maxRecDepth 20000 in
theorem gX1_copyFrom_X2_copyFrom : GoodIn wsX1_copyFrom (wsV RX1 48 RX2 yX2_copyFrom wsX2_copyFrom) := goodIn_app (goodIn_of _ (by decide +kernel)) ggX1_copyFrom_X2_copyFrom
set_option maxRecDepth 20000 in
theorem ggX1_copyFrom_X4_copyFrom : GoodIn wsX1_copyFrom wsX4_copyFrom := goodIn_r _ [31, 32, 33, 34, 35, 18, 19, 20, 21, 22, 23, 24, 25, 26, 36, 37, 38, 39, 40, 41, 42, 43, 44, 45, 67, 68, 69, 64, 65, 66, 70, 71, 72, 73] (by decide +kernel) (by decide +kernel)
set_option maxRecDepth 20000 in
theorem gX1_copyFrom_X4_copyFrom : GoodIn wsX1_copyFrom (wsV RX1 52 RX4 yX4_copyFrom wsX4_copyFrom) := goodIn_app (goodIn_of _ (by decide +kernel)) ggX1_copyFrom_X4_copyFrom
set_option maxRecDepth 20000 in
theorem ggX1_copyFrom_X0_copyFrom : GoodIn wsX1_copyFrom wsX0_copyFrom := goodIn_r _ [50, 51, 52, 18, 19, 20, 21, 22, 23, 24, 25, 26, 74, 64, 65, 66] (by decide +kernel) (by decide +kernel)
set_option maxRecDepth 20000 in
theorem gX1_copyFrom_X0_copyFrom : GoodIn wsX1_copyFrom (wsV RX1 55 RX0 yX0_copyFrom wsX0_copyFrom) := goodIn_app (goodIn_of _ (by decide +kernel)) ggX1_copyFrom_X0_copyFrom
theorem dX1_copyFrom_0 : decode cX1_copyFrom 0 = .ok (.aload_n 0, 1) := by decide +kernel
theorem dX1_copyFrom_1 : decode cX1_copyFrom 1 = .ok (.getfield 12, 3) := by decide +kernel
theorem dX1_copyFrom_4 : decode cX1_copyFrom 4 = .ok (.aload_n 1, 1) := by decide +kernel
theorem dX1_copyFrom_5 : decode cX1_copyFrom 5 = .ok (.getfield 12, 3) := by decide +kernel
theorem dX1_copyFrom_8 : decode cX1_copyFrom 8 = .ok (.invokevirtual 48, 3) := by decide +kernel
theorem dX1_copyFrom_11 : decode cX1_copyFrom 11 = .ok (.aload_n 0, 1) := by decide +kernel
theorem dX1_copyFrom_12 : decode cX1_copyFrom 12 = .ok (.getfield 21, 3) := by decide +kernel
theorem dX1_copyFrom_15 : decode cX1_copyFrom 15 = .ok (.aload_n 1, 1) := by decide +kernel
theorem dX1_copyFrom_16 : decode cX1_copyFrom 16 = .ok (.getfield 21, 3) := by decide +kernel
theorem dX1_copyFrom_19 : decode cX1_copyFrom 19 = .ok (.invokevirtual 52, 3) := by decide +kernel
theorem dX1_copyFrom_22 : decode cX1_copyFrom 22 = .ok (.aload_n 0, 1) := by decide +kernel
theorem dX1_copyFrom_23 : decode cX1_copyFrom 23 = .ok (.getfield 28, 3) := by decide +kernel
theorem dX1_copyFrom_26 : decode cX1_copyFrom 26 = .ok (.aload_n 1, 1) := by decide +kernel
theorem dX1_copyFrom_27 : decode cX1_copyFrom 27 = .ok (.getfield 28, 3) := by decide +kernel
theorem dX1_copyFrom_30 : decode cX1_copyFrom 30 = .ok (.invokevirtual 55, 3) := by decide +kernel
theorem dX1_copyFrom_33 : decode cX1_copyFrom 33 = .ok (.aload_n 0, 1) := by decide +kernel
theorem dX1_copyFrom_34 : decode cX1_copyFrom 34 = .ok (.aload_n 1, 1) := by decide +kernel
theorem dX1_copyFrom_35 : decode cX1_copyFrom 35 = .ok (.getfield 32, 3) := by decide +kernel
theorem dX1_copyFrom_38 : decode cX1_copyFrom 38 = .ok (.putfield 32, 3) := by decide +kernel
theorem dX1_copyFrom_41 : decode cX1_copyFrom 41 = .ok (.aload_n 0, 1) := by decide +kernel
theorem dX1_copyFrom_42 : decode cX1_copyFrom 42 = .ok (.aload_n 1, 1) := by decide +kernel
theorem dX1_copyFrom_43 : decode cX1_copyFrom 43 = .ok (.getfield 36, 3) := by decide +kernel
theorem dX1_copyFrom_46 : decode cX1_copyFrom 46 = .ok (.putfield 36, 3) := by decide +kernel
theorem dX1_copyFrom_49 : decode cX1_copyFrom 49 = .ok (.aload_n 0, 1) := by decide +kernel
theorem dX1_copyFrom_50 : decode cX1_copyFrom 50 = .ok (.aload_n 1, 1) := by decide +kernel
theorem dX1_copyFrom_51 : decode cX1_copyFrom 51 = .ok (.getfield 39, 3) := by decide +kernel
theorem dX1_copyFrom_54 : decode cX1_copyFrom 54 = .ok (.putfield 39, 3) := by decide +kernel
theorem dX1_copyFrom_57 : decode cX1_copyFrom 57 = .ok (.aload_n 0, 1) := by decide +kernel
theorem dX1_copyFrom_58 : decode cX1_copyFrom 58 = .ok (.aload_n 1, 1) := by decide +kernel
theorem dX1_copyFrom_59 : decode cX1_copyFrom 59 = .ok (.getfield 42, 3) := by decide +kernel
theorem dX1_copyFrom_62 : decode cX1_copyFrom 62 = .ok (.putfield 42, 3) := by decide +kernel
theorem dX1_copyFrom_65 : decode cX1_copyFrom 65 = .ok (.aload_n 0, 1) := by decide +kernel
theorem dX1_copyFrom_66 : decode cX1_copyFrom 66 = .ok (.aload_n 1, 1) := by decide +kernel
theorem dX1_copyFrom_67 : decode cX1_copyFrom 67 = .ok (.getfield 45, 3) := by decide +kernel
theorem dX1_copyFrom_70 : decode cX1_copyFrom 70 = .ok (.putfield 45, 3) := by decide +kernel
theorem dX1_copyFrom_73 : decode cX1_copyFrom 73 = .ok (.aload_n 0, 1) := by decide +kernel
theorem dX1_copyFrom_74 : decode cX1_copyFrom 74 = .ok (.aload_n 1, 1) := by decide +kernel
theorem dX1_copyFrom_75 : decode cX1_copyFrom 75 = .ok (.getfield 58, 3) := by decide +kernel
theorem dX1_copyFrom_78 : decode cX1_copyFrom 78 = .ok (.putfield 58, 3) := by decide +kernel
theorem dX1_copyFrom_81 : decode cX1_copyFrom 81 = .ok (.return_, 1) := by decide +kernel
theorem dX1_setting_0 : decode cX1_setting 0 = .ok (.iload_n 1, 1) := by decide +kernel
theorem dX1_setting_1 : decode cX1_setting 1 = .ok (.ifCond .ne 8, 3) := by decide +kernel
theorem dX1_setting_4 : decode cX1_setting 4 = .ok (.aload_n 0, 1) := by decide +kernel
theorem dX1_setting_5 : decode cX1_setting 5 = .ok (.getfield 32, 3) := by decide +kernel
theorem dX1_setting_8 : decode cX1_setting 8 = .ok (.ireturn, 1) := by decide +kernel
theorem dX1_setting_9 : decode cX1_setting 9 = .ok (.iload_n 1, 1) := by decide +kernel
theorem dX1_setting_10 : decode cX1_setting 10 = .ok (.iconst 1, 1) := by decide +kernel
theorem dX1_setting_11 : decode cX1_setting 11 = .ok (.if_icmp .ne 10, 3) := by decide +kernel
theorem dX1_setting_14 : decode cX1_setting 14 = .ok (.aload_n 0, 1) := by decide +kernel
theorem dX1_setting_15 : decode cX1_setting 15 = .ok (.getfield 36, 3) := by decide +kernel
theorem dX1_setting_18 : decode cX1_setting 18 = .ok (.goto 7, 3) := by decide +kernel
theorem dX1_setting_21 : decode cX1_setting 21 = .ok (.aload_n 0, 1) := by decide +kernel
theorem dX1_setting_22 : decode cX1_setting 22 = .ok (.getfield 39, 3) := by decide +kernel
theorem dX1_setting_25 : decode cX1_setting 25 = .ok (.ireturn, 1) := by decide +kernel
set_option maxRecDepth 20000 in
theorem ggX1_changeSetting_X1_setting : GoodIn wsX1_changeSetting wsX1_setting := goodIn_r _ [8, 1, 2, 3, 9, 10, 11, 12, 13, 14, 15, 16, 17] (by decide +kernel) (by decide +kernel)
set_option maxRecDepth 20000 in
theorem gX1_changeSetting_X1_setting : GoodIn wsX1_changeSetting (wsV RX1 62 RX1 yX1_setting wsX1_setting) := goodIn_app (goodIn_of _ (by decide +kernel)) ggX1_changeSetting_X1_setting
theorem dX1_changeSetting_0 : decode cX1_changeSetting 0 = .ok (.aload_n 0, 1) := by decide +kernel
theorem dX1_changeSetting_1 : decode cX1_changeSetting 1 = .ok (.iload_n 1, 1) := by decide +kernel
theorem dX1_changeSetting_2 : decode cX1_changeSetting 2 = .ok (.invokevirtual 62, 3) := by decide +kernel
theorem dX1_changeSetting_5 : decode cX1_changeSetting 5 = .ok (.istore_n 3, 1) := by decide +kernel
theorem dX1_changeSetting_6 : decode cX1_changeSetting 6 = .ok (.iload_n 1, 1) := by decide +kernel
theorem dX1_changeSetting_7 : decode cX1_changeSetting 7 = .ok (.ifCond .ne 11, 3) := by decide +kernel
theorem dX1_changeSetting_10 : decode cX1_changeSetting 10 = .ok (.aload_n 0, 1) := by decide +kernel
theorem dX1_changeSetting_11 : decode cX1_changeSetting 11 = .ok (.iload_n 2, 1) := by decide +kernel
theorem dX1_changeSetting_12 : decode cX1_changeSetting 12 = .ok (.putfield 32, 3) := by decide +kernel
theorem dX1_changeSetting_15 : decode cX1_changeSetting 15 = .ok (.goto 21, 3) := by decide +kernel
theorem dX1_changeSetting_18 : decode cX1_changeSetting 18 = .ok (.iload_n 1, 1) := by decide +kernel
theorem dX1_changeSetting_19 : decode cX1_changeSetting 19 = .ok (.iconst 1, 1) := by decide +kernel
theorem dX1_changeSetting_20 : decode cX1_changeSetting 20 = .ok (.if_icmp .ne 11, 3) := by decide +kernel
theorem dX1_changeSetting_23 : decode cX1_changeSetting 23 = .ok (.aload_n 0, 1) := by decide +kernel
theorem dX1_changeSetting_24 : decode cX1_changeSetting 24 = .ok (.iload_n 2, 1) := by decide +kernel
theorem dX1_changeSetting_25 : decode cX1_changeSetting 25 = .ok (.putfield 36, 3) := by decide +kernel
theorem dX1_changeSetting_28 : decode cX1_changeSetting 28 = .ok (.goto 8, 3) := by decide +kernel
theorem dX1_changeSetting_31 : decode cX1_changeSetting 31 = .ok (.aload_n 0, 1) := by decide +kernel
theorem dX1_changeSetting_32 : decode cX1_changeSetting 32 = .ok (.iload_n 2, 1) := by decide +kernel
theorem dX1_changeSetting_33 : decode cX1_changeSetting 33 = .ok (.putfield 39, 3) := by decide +kernel
theorem dX1_changeSetting_36 : decode cX1_changeSetting 36 = .ok (.iload_n 3, 1) := by decide +kernel
theorem dX1_changeSetting_37 : decode cX1_changeSetting 37 = .ok (.ireturn, 1) := by decide +kernel
set_option maxRecDepth 20000 in
theorem ggX1_hasEvents_X2_withOutcome : GoodIn wsX1_hasEvents wsX2_withOutcome := goodIn_r _ [6, 7, 8, 9, 5, 10, 11, 12, 13, 14, 15, 16, 17, 18, 19, 29, 30, 31, 32, 33] (by decide +kernel) (by decide +kernel)
set_option maxRecDepth 20000 in
theorem gX1_hasEvents_X2_withOutcome : GoodIn wsX1_hasEvents (wsV RX1 66 RX2 yX2_withOutcome wsX2_withOutcome) := goodIn_app (goodIn_of _ (by decide +kernel)) ggX1_hasEvents_X2_withOutcome
theorem dX1_hasEvents_0 : decode cX1_hasEvents 0 = .ok (.aload_n 0, 1) := by decide +kernel
theorem dX1_hasEvents_1 : decode cX1_hasEvents 1 = .ok (.getfield 12, 3) := by decide +kernel
theorem dX1_hasEvents_4 : decode cX1_hasEvents 4 = .ok (.iconst 0, 1) := by decide +kernel
theorem dX1_hasEvents_5 : decode cX1_hasEvents 5 = .ok (.iconst 3, 1) := by decide +kernel
theorem dX1_hasEvents_6 : decode cX1_hasEvents 6 = .ok (.invokevirtual 66, 3) := by decide +kernel
theorem dX1_hasEvents_9 : decode cX1_hasEvents 9 = .ok (.ifCond .le 7, 3) := by decide +kernel
theorem dX1_hasEvents_12 : decode cX1_hasEvents 12 = .ok (.iconst 1, 1) := by decide +kernel
theorem dX1_hasEvents_13 : decode cX1_hasEvents 13 = .ok (.goto 4, 3) := by decide +kernel
theorem dX1_hasEvents_16 : decode cX1_hasEvents 16 = .ok (.iconst 0, 1) := by decide +kernel
theorem dX1_hasEvents_17 : decode cX1_hasEvents 17 = .ok (.ireturn, 1) := by decide +kernel
set_option maxRecDepth 20000 in
theorem ggX1_number_X2_withOutcome : GoodIn wsX1_number wsX2_withOutcome := goodIn_r _ [10, 11, 12, 13, 9, 14, 15, 16, 17, 18, 19, 20, 21, 22, 23, 38, 39, 40, 41, 42] (by decide +kernel) (by decide +kernel)
set_option maxRecDepth 20000 in
theorem gX1_number_X2_withOutcome : GoodIn wsX1_number (wsV RX1 66 RX2 yX2_withOutcome wsX2_withOutcome) := goodIn_app (goodIn_of _ (by decide +kernel)) ggX1_number_X2_withOutcome
set_option maxRecDepth 20000 in
theorem ggX1_number_X2_doubles : GoodIn wsX1_number wsX2_doubles := goodIn_r _ [27, 28, 38, 39] (by decide +kernel) (by decide +kernel)
set_option maxRecDepth 20000 in
theorem gX1_number_X2_doubles : GoodIn wsX1_number (wsV RX1 70 RX2 yX2_doubles wsX2_doubles) := goodIn_app (goodIn_of _ (by decide +kernel)) ggX1_number_X2_doubles
theorem dX1_number_0 : decode cX1_number 0 = .ok (.iload_n 1, 1) := by decide +kernel
theorem dX1_number_1 : decode cX1_number 1 = .ok (.tableswitch 134 0 11 #[63, 73, 83, 93, 103, 111, 116, 134, 134, 134, 134, 121], 63) := by decide +kernel
theorem dX1_number_64 : decode cX1_number 64 = .ok (.aload_n 0, 1) := by decide +kernel
theorem dX1_number_65 : decode cX1_number 65 = .ok (.getfield 12, 3) := by decide +kernel
theorem dX1_number_68 : decode cX1_number 68 = .ok (.iconst 0, 1) := by decide +kernel
theorem dX1_number_69 : decode cX1_number 69 = .ok (.iconst 3, 1) := by decide +kernel
theorem dX1_number_70 : decode cX1_number 70 = .ok (.invokevirtual 66, 3) := by decide +kernel
theorem dX1_number_73 : decode cX1_number 73 = .ok (.ireturn, 1) := by decide +kernel
theorem dX1_number_74 : decode cX1_number 74 = .ok (.aload_n 0, 1) := by decide +kernel
theorem dX1_number_75 : decode cX1_number 75 = .ok (.getfield 12, 3) := by decide +kernel
theorem dX1_number_78 : decode cX1_number 78 = .ok (.iconst 0, 1) := by decide +kernel
theorem dX1_number_79 : decode cX1_number 79 = .ok (.iconst 1, 1) := by decide +kernel
theorem dX1_number_80 : decode cX1_number 80 = .ok (.invokevirtual 66, 3) := by decide +kernel
theorem dX1_number_83 : decode cX1_number 83 = .ok (.ireturn, 1) := by decide +kernel
theorem dX1_number_84 : decode cX1_number 84 = .ok (.aload_n 0, 1) := by decide +kernel
theorem dX1_number_85 : decode cX1_number 85 = .ok (.getfield 12, 3) := by decide +kernel
theorem dX1_number_88 : decode cX1_number 88 = .ok (.iconst 1, 1) := by decide +kernel
theorem dX1_number_89 : decode cX1_number 89 = .ok (.iconst 1, 1) := by decide +kernel
theorem dX1_number_90 : decode cX1_number 90 = .ok (.invokevirtual 66, 3) := by decide +kernel
theorem dX1_number_93 : decode cX1_number 93 = .ok (.ireturn, 1) := by decide +kernel
theorem dX1_number_94 : decode cX1_number 94 = .ok (.aload_n 0, 1) := by decide +kernel
theorem dX1_number_95 : decode cX1_number 95 = .ok (.getfield 12, 3) := by decide +kernel
theorem dX1_number_98 : decode cX1_number 98 = .ok (.iconst 2, 1) := by decide +kernel
theorem dX1_number_99 : decode cX1_number 99 = .ok (.iconst 3, 1) := by decide +kernel
theorem dX1_number_100 : decode cX1_number 100 = .ok (.invokevirtual 66, 3) := by decide +kernel
theorem dX1_number_103 : decode cX1_number 103 = .ok (.ireturn, 1) := by decide +kernel
theorem dX1_number_104 : decode cX1_number 104 = .ok (.aload_n 0, 1) := by decide +kernel
theorem dX1_number_105 : decode cX1_number 105 = .ok (.getfield 12, 3) := by decide +kernel
theorem dX1_number_108 : decode cX1_number 108 = .ok (.invokevirtual 70, 3) := by decide +kernel
theorem dX1_number_111 : decode cX1_number 111 = .ok (.ireturn, 1) := by decide +kernel
theorem dX1_number_112 : decode cX1_number 112 = .ok (.aload_n 0, 1) := by decide +kernel
theorem dX1_number_113 : decode cX1_number 113 = .ok (.getfield 42, 3) := by decide +kernel
theorem dX1_number_116 : decode cX1_number 116 = .ok (.ireturn, 1) := by decide +kernel
theorem dX1_number_117 : decode cX1_number 117 = .ok (.aload_n 0, 1) := by decide +kernel
theorem dX1_number_118 : decode cX1_number 118 = .ok (.getfield 45, 3) := by decide +kernel
theorem dX1_number_121 : decode cX1_number 121 = .ok (.ireturn, 1) := by decide +kernel
theorem dX1_number_122 : decode cX1_number 122 = .ok (.aload_n 0, 1) := by decide +kernel
theorem dX1_number_123 : decode cX1_number 123 = .ok (.getfield 58, 3) := by decide +kernel
theorem dX1_number_126 : decode cX1_number 126 = .ok (.ifCond .eq 7, 3) := by decide +kernel
theorem dX1_number_129 : decode cX1_number 129 = .ok (.iconst 1, 1) := by decide +kernel
theorem dX1_number_130 : decode cX1_number 130 = .ok (.goto 4, 3) := by decide +kernel
theorem dX1_number_133 : decode cX1_number 133 = .ok (.iconst 0, 1) := by decide +kernel
theorem dX1_number_134 : decode cX1_number 134 = .ok (.ireturn, 1) := by decide +kernel
theorem dX1_number_135 : decode cX1_number 135 = .ok (.ldc 74, 2) := by decide +kernel
theorem dX1_number_137 : decode cX1_number 137 = .ok (.ireturn, 1) := by decide +kernel
theorem dX1_paneAt_0 : decode cX1_paneAt 0 = .ok (.aload_n 0, 1) := by decide +kernel
theorem dX1_paneAt_1 : decode cX1_paneAt 1 = .ok (.getfield 32, 3) := by decide +kernel
theorem dX1_paneAt_4 : decode cX1_paneAt 4 = .ok (.ifCond .le 12, 3) := by decide +kernel
theorem dX1_paneAt_7 : decode cX1_paneAt 7 = .ok (.iload_n 1, 1) := by decide +kernel
theorem dX1_paneAt_8 : decode cX1_paneAt 8 = .ok (.aload_n 0, 1) := by decide +kernel
theorem dX1_paneAt_9 : decode cX1_paneAt 9 = .ok (.getfield 32, 3) := by decide +kernel
theorem dX1_paneAt_12 : decode cX1_paneAt 12 = .ok (.idiv, 1) := by decide +kernel
theorem dX1_paneAt_13 : decode cX1_paneAt 13 = .ok (.goto 4, 3) := by decide +kernel
theorem dX1_paneAt_16 : decode cX1_paneAt 16 = .ok (.iconst 0, 1) := by decide +kernel
theorem dX1_paneAt_17 : decode cX1_paneAt 17 = .ok (.ireturn, 1) := by decide +kernel
theorem dX1_endOf_0 : decode cX1_endOf 0 = .ok (.iload_n 1, 1) := by decide +kernel
theorem dX1_endOf_1 : decode cX1_endOf 1 = .ok (.iconst 1, 1) := by decide +kernel
theorem dX1_endOf_2 : decode cX1_endOf 2 = .ok (.iadd, 1) := by decide +kernel
theorem dX1_endOf_3 : decode cX1_endOf 3 = .ok (.aload_n 0, 1) := by decide +kernel
theorem dX1_endOf_4 : decode cX1_endOf 4 = .ok (.getfield 32, 3) := by decide +kernel
theorem dX1_endOf_7 : decode cX1_endOf 7 = .ok (.imul, 1) := by decide +kernel
theorem dX1_endOf_8 : decode cX1_endOf 8 = .ok (.ireturn, 1) := by decide +kernel
set_option maxRecDepth 20000 in
theorem ggX1_hasTimes_X8_isWithin : GoodIn wsX1_hasTimes wsX8_isWithin := goodIn_r _ [4] (by decide +kernel) (by decide +kernel)
set_option maxRecDepth 20000 in
theorem gX1_hasTimes_X8_isWithin_n75 : GoodIn wsX1_hasTimes (wsX8_isWithin) := ggX1_hasTimes_X8_isWithin
theorem dX1_hasTimes_0 : decode cX1_hasTimes 0 = .ok (.iload_n 1, 1) := by decide +kernel
theorem dX1_hasTimes_1 : decode cX1_hasTimes 1 = .ok (.iconst 0, 1) := by decide +kernel
theorem dX1_hasTimes_2 : decode cX1_hasTimes 2 = .ok (.sipush 1999, 3) := by decide +kernel
theorem dX1_hasTimes_5 : decode cX1_hasTimes 5 = .ok (.invokestatic 75, 3) := by decide +kernel
theorem dX1_hasTimes_8 : decode cX1_hasTimes 8 = .ok (.ifCond .eq 19, 3) := by decide +kernel
theorem dX1_hasTimes_11 : decode cX1_hasTimes 11 = .ok (.iload_n 1, 1) := by decide +kernel
theorem dX1_hasTimes_12 : decode cX1_hasTimes 12 = .ok (.aload_n 0, 1) := by decide +kernel
theorem dX1_hasTimes_13 : decode cX1_hasTimes 13 = .ok (.getfield 32, 3) := by decide +kernel
theorem dX1_hasTimes_16 : decode cX1_hasTimes 16 = .ok (.imul, 1) := by decide +kernel
theorem dX1_hasTimes_17 : decode cX1_hasTimes 17 = .ok (.sipush 1999, 3) := by decide +kernel
theorem dX1_hasTimes_20 : decode cX1_hasTimes 20 = .ok (.if_icmp .gt 7, 3) := by decide +kernel
theorem dX1_hasTimes_23 : decode cX1_hasTimes 23 = .ok (.iconst 1, 1) := by decide +kernel
theorem dX1_hasTimes_24 : decode cX1_hasTimes 24 = .ok (.goto 4, 3) := by decide +kernel
theorem dX1_hasTimes_27 : decode cX1_hasTimes 27 = .ok (.iconst 0, 1) := by decide +kernel
theorem dX1_hasTimes_28 : decode cX1_hasTimes 28 = .ok (.ireturn, 1) := by decide +kernel
set_option maxRecDepth 20000 in
theorem ggX1_stateOf_X4_read : GoodIn wsX1_stateOf wsX4_read := goodIn_r _ [7, 8, 9, 10, 11, 6, 12, 13, 14, 15, 16, 17, 18, 19, 20, 21, 37, 38, 39, 40, 41, 42] (by decide +kernel) (by decide +kernel)
set_option maxRecDepth 20000 in
theorem gX1_stateOf_X4_read : GoodIn wsX1_stateOf (wsV RX1 79 RX4 yX4_read wsX4_read) := goodIn_app (goodIn_of _ (by decide +kernel)) ggX1_stateOf_X4_read
set_option maxRecDepth 20000 in
theorem ggX1_stateOf_X1_endOf : GoodIn wsX1_stateOf wsX1_endOf := goodIn_r _ [26, 27, 28, 29, 30, 31, 32, 33, 34, 35, 36] (by decide +kernel) (by decide +kernel)
set_option maxRecDepth 20000 in
theorem gX1_stateOf_X1_endOf : GoodIn wsX1_stateOf (wsV RX1 82 RX1 yX1_endOf wsX1_endOf) := goodIn_app (goodIn_of _ (by decide +kernel)) ggX1_stateOf_X1_endOf
theorem dX1_stateOf_0 : decode cX1_stateOf 0 = .ok (.aload_n 0, 1) := by decide +kernel
theorem dX1_stateOf_1 : decode cX1_stateOf 1 = .ok (.getfield 21, 3) := by decide +kernel
theorem dX1_stateOf_4 : decode cX1_stateOf 4 = .ok (.iload_n 1, 1) := by decide +kernel
theorem dX1_stateOf_5 : decode cX1_stateOf 5 = .ok (.iconst 0, 1) := by decide +kernel
theorem dX1_stateOf_6 : decode cX1_stateOf 6 = .ok (.invokevirtual 79, 3) := by decide +kernel
theorem dX1_stateOf_9 : decode cX1_stateOf 9 = .ok (.istore_n 2, 1) := by decide +kernel
theorem dX1_stateOf_10 : decode cX1_stateOf 10 = .ok (.iload_n 2, 1) := by decide +kernel
theorem dX1_stateOf_11 : decode cX1_stateOf 11 = .ok (.ifCond .eq 5, 3) := by decide +kernel
theorem dX1_stateOf_14 : decode cX1_stateOf 14 = .ok (.iload_n 2, 1) := by decide +kernel
theorem dX1_stateOf_15 : decode cX1_stateOf 15 = .ok (.ireturn, 1) := by decide +kernel
theorem dX1_stateOf_16 : decode cX1_stateOf 16 = .ok (.aload_n 0, 1) := by decide +kernel
theorem dX1_stateOf_17 : decode cX1_stateOf 17 = .ok (.getfield 42, 3) := by decide +kernel
theorem dX1_stateOf_20 : decode cX1_stateOf 20 = .ok (.aload_n 0, 1) := by decide +kernel
theorem dX1_stateOf_21 : decode cX1_stateOf 21 = .ok (.iload_n 1, 1) := by decide +kernel
theorem dX1_stateOf_22 : decode cX1_stateOf 22 = .ok (.invokevirtual 82, 3) := by decide +kernel
theorem dX1_stateOf_25 : decode cX1_stateOf 25 = .ok (.if_icmp .ge 7, 3) := by decide +kernel
theorem dX1_stateOf_28 : decode cX1_stateOf 28 = .ok (.iconst 0, 1) := by decide +kernel
theorem dX1_stateOf_29 : decode cX1_stateOf 29 = .ok (.goto 4, 3) := by decide +kernel
theorem dX1_stateOf_32 : decode cX1_stateOf 32 = .ok (.iconst 1, 1) := by decide +kernel
theorem dX1_stateOf_33 : decode cX1_stateOf 33 = .ok (.ireturn, 1) := by decide +kernel
set_option maxRecDepth 20000 in
theorem ggX1_lateBy_X1_endOf : GoodIn wsX1_lateBy wsX1_endOf := goodIn_r _ [6, 7, 8, 9, 10, 11, 12, 13, 14, 15, 16] (by decide +kernel) (by decide +kernel)
set_option maxRecDepth 20000 in
theorem gX1_lateBy_X1_endOf : GoodIn wsX1_lateBy (wsV RX1 82 RX1 yX1_endOf wsX1_endOf) := goodIn_app (goodIn_of _ (by decide +kernel)) ggX1_lateBy_X1_endOf
theorem dX1_lateBy_0 : decode cX1_lateBy 0 = .ok (.aload_n 0, 1) := by decide +kernel
theorem dX1_lateBy_1 : decode cX1_lateBy 1 = .ok (.getfield 42, 3) := by decide +kernel
theorem dX1_lateBy_4 : decode cX1_lateBy 4 = .ok (.aload_n 0, 1) := by decide +kernel
theorem dX1_lateBy_5 : decode cX1_lateBy 5 = .ok (.iload_n 1, 1) := by decide +kernel
theorem dX1_lateBy_6 : decode cX1_lateBy 6 = .ok (.invokevirtual 82, 3) := by decide +kernel
theorem dX1_lateBy_9 : decode cX1_lateBy 9 = .ok (.isub, 1) := by decide +kernel
theorem dX1_lateBy_10 : decode cX1_lateBy 10 = .ok (.iconst 1, 1) := by decide +kernel
theorem dX1_lateBy_11 : decode cX1_lateBy 11 = .ok (.iadd, 1) := by decide +kernel
theorem dX1_lateBy_12 : decode cX1_lateBy 12 = .ok (.ireturn, 1) := by decide +kernel
set_option maxRecDepth 20000 in
theorem ggX1_verdict_X1_paneAt : GoodIn wsX1_verdict wsX1_paneAt := goodIn_r _ [6, 7, 72, 73, 74, 75, 76, 77, 78, 79, 80] (by decide +kernel) (by decide +kernel)
set_option maxRecDepth 20000 in
theorem gX1_verdict_X1_paneAt : GoodIn wsX1_verdict (wsV RX1 85 RX1 yX1_paneAt wsX1_paneAt) := goodIn_app (goodIn_of _ (by decide +kernel)) ggX1_verdict_X1_paneAt
set_option maxRecDepth 20000 in
theorem ggX1_verdict_X1_stateOf : GoodIn wsX1_verdict wsX1_stateOf := goodIn_r _ [11, 12, 13, 14, 15, 16, 17, 18, 19, 20, 21, 22, 23, 24, 25, 26, 27, 28, 29, 30, 31, 32, 33, 34, 35, 5, 36, 7, 72, 73, 74, 75, 76, 77, 78, 79, 80, 81, 82, 83, 84, 85, 86] (by decide +kernel) (by decide +kernel)
set_option maxRecDepth 20000 in
theorem gX1_verdict_X1_stateOf : GoodIn wsX1_verdict (wsV RX1 88 RX1 yX1_stateOf wsX1_stateOf) := goodIn_app (goodIn_of _ (by decide +kernel)) ggX1_verdict_X1_stateOf
set_option maxRecDepth 20000 in
theorem ggX1_verdict_X1_isAcceptable : GoodIn wsX1_verdict wsX1_isAcceptable := goodIn_r _ [40, 41, 2, 3, 4, 5, 6, 7, 42, 43, 44, 45, 13, 33, 34, 35, 36, 46, 47, 48, 49, 50, 51, 52, 26, 27, 28, 29, 30, 31, 32, 53, 54, 55, 56, 72, 73, 74, 75, 76, 77, 78, 79, 80, 87, 88, 84, 85, 86] (by decide +kernel) (by decide +kernel)
set_option maxRecDepth 20000 in
theorem gX1_verdict_X1_isAcceptable : GoodIn wsX1_verdict (wsV RX1 91 RX1 yX1_isAcceptable wsX1_isAcceptable) := goodIn_app (goodIn_of _ (by decide +kernel)) ggX1_verdict_X1_isAcceptable
set_option maxRecDepth 20000 in
theorem ggX1_verdict_X0_hasPlaceFor : GoodIn wsX1_verdict wsX0_hasPlaceFor := goodIn_r _ [61, 62, 63, 64, 60, 65, 66, 67, 68, 69, 70, 71, 26, 27, 28, 29, 30, 31, 32, 89, 84, 85, 86] (by decide +kernel) (by decide +kernel)
set_option maxRecDepth 20000 in
theorem gX1_verdict_X0_hasPlaceFor : GoodIn wsX1_verdict (wsV RX1 94 RX0 yX0_hasPlaceFor wsX0_hasPlaceFor) := goodIn_app (goodIn_of _ (by decide +kernel)) ggX1_verdict_X0_hasPlaceFor
theorem dX1_verdict_0 : decode cX1_verdict 0 = .ok (.aload_n 0, 1) := by decide +kernel
theorem dX1_verdict_1 : decode cX1_verdict 1 = .ok (.aload_n 0, 1) := by decide +kernel
theorem dX1_verdict_2 : decode cX1_verdict 2 = .ok (.iload_n 1, 1) := by decide +kernel
theorem dX1_verdict_3 : decode cX1_verdict 3 = .ok (.invokevirtual 85, 3) := by decide +kernel
theorem dX1_verdict_6 : decode cX1_verdict 6 = .ok (.invokevirtual 88, 3) := by decide +kernel
theorem dX1_verdict_9 : decode cX1_verdict 9 = .ok (.istore 4, 2) := by decide +kernel
theorem dX1_verdict_11 : decode cX1_verdict 11 = .ok (.iload 4, 2) := by decide +kernel
theorem dX1_verdict_13 : decode cX1_verdict 13 = .ok (.iconst 3, 1) := by decide +kernel
theorem dX1_verdict_14 : decode cX1_verdict 14 = .ok (.if_icmp .ne 5, 3) := by decide +kernel
theorem dX1_verdict_17 : decode cX1_verdict 17 = .ok (.iconst 3, 1) := by decide +kernel
theorem dX1_verdict_18 : decode cX1_verdict 18 = .ok (.ireturn, 1) := by decide +kernel
theorem dX1_verdict_19 : decode cX1_verdict 19 = .ok (.iload 4, 2) := by decide +kernel
theorem dX1_verdict_21 : decode cX1_verdict 21 = .ok (.iconst 1, 1) := by decide +kernel
theorem dX1_verdict_22 : decode cX1_verdict 22 = .ok (.if_icmp .eq 5, 3) := by decide +kernel
theorem dX1_verdict_25 : decode cX1_verdict 25 = .ok (.iconst 0, 1) := by decide +kernel
theorem dX1_verdict_26 : decode cX1_verdict 26 = .ok (.ireturn, 1) := by decide +kernel
theorem dX1_verdict_27 : decode cX1_verdict 27 = .ok (.aload_n 0, 1) := by decide +kernel
theorem dX1_verdict_28 : decode cX1_verdict 28 = .ok (.iload_n 1, 1) := by decide +kernel
theorem dX1_verdict_29 : decode cX1_verdict 29 = .ok (.iload_n 2, 1) := by decide +kernel
theorem dX1_verdict_30 : decode cX1_verdict 30 = .ok (.iload_n 3, 1) := by decide +kernel
theorem dX1_verdict_31 : decode cX1_verdict 31 = .ok (.invokevirtual 91, 3) := by decide +kernel
theorem dX1_verdict_34 : decode cX1_verdict 34 = .ok (.ifCond .eq 18, 3) := by decide +kernel
theorem dX1_verdict_37 : decode cX1_verdict 37 = .ok (.aload_n 0, 1) := by decide +kernel
theorem dX1_verdict_38 : decode cX1_verdict 38 = .ok (.getfield 28, 3) := by decide +kernel
theorem dX1_verdict_41 : decode cX1_verdict 41 = .ok (.iload_n 3, 1) := by decide +kernel
theorem dX1_verdict_42 : decode cX1_verdict 42 = .ok (.invokevirtual 94, 3) := by decide +kernel
theorem dX1_verdict_45 : decode cX1_verdict 45 = .ok (.ifCond .eq 7, 3) := by decide +kernel
theorem dX1_verdict_48 : decode cX1_verdict 48 = .ok (.iconst 1, 1) := by decide +kernel
theorem dX1_verdict_49 : decode cX1_verdict 49 = .ok (.goto 4, 3) := by decide +kernel
theorem dX1_verdict_52 : decode cX1_verdict 52 = .ok (.iconst 0, 1) := by decide +kernel
theorem dX1_verdict_53 : decode cX1_verdict 53 = .ok (.istore 5, 2) := by decide +kernel
theorem dX1_verdict_55 : decode cX1_verdict 55 = .ok (.iload 5, 2) := by decide +kernel
theorem dX1_verdict_57 : decode cX1_verdict 57 = .ok (.ifCond .eq 7, 3) := by decide +kernel
theorem dX1_verdict_60 : decode cX1_verdict 60 = .ok (.iconst 1, 1) := by decide +kernel
theorem dX1_verdict_61 : decode cX1_verdict 61 = .ok (.goto 4, 3) := by decide +kernel
theorem dX1_verdict_64 : decode cX1_verdict 64 = .ok (.iconst 2, 1) := by decide +kernel
theorem dX1_verdict_65 : decode cX1_verdict 65 = .ok (.ireturn, 1) := by decide +kernel
set_option maxRecDepth 20000 in
theorem ggX1_isAcceptable_X1_paneAt : GoodIn wsX1_isAcceptable wsX1_paneAt := goodIn_r _ [6, 7, 35, 36, 37, 38, 39, 40, 41, 42, 43] (by decide +kernel) (by decide +kernel)
set_option maxRecDepth 20000 in
theorem gX1_isAcceptable_X1_paneAt : GoodIn wsX1_isAcceptable (wsV RX1 85 RX1 yX1_paneAt wsX1_paneAt) := goodIn_app (goodIn_of _ (by decide +kernel)) ggX1_isAcceptable_X1_paneAt
set_option maxRecDepth 20000 in
theorem ggX1_isAcceptable_X1_lateBy : GoodIn wsX1_isAcceptable wsX1_lateBy := goodIn_r _ [11, 12, 13, 14, 15, 5, 16, 7, 35, 36, 37, 38, 39, 40, 41, 42, 43] (by decide +kernel) (by decide +kernel)
set_option maxRecDepth 20000 in
theorem gX1_isAcceptable_X1_lateBy : GoodIn wsX1_isAcceptable (wsV RX1 98 RX1 yX1_lateBy wsX1_lateBy) := goodIn_app (goodIn_of _ (by decide +kernel)) ggX1_isAcceptable_X1_lateBy
set_option maxRecDepth 20000 in
theorem ggX1_isAcceptable_X2_hadIllness : GoodIn wsX1_isAcceptable wsX2_hadIllness := goodIn_r _ [21, 22, 23, 24, 25, 26, 27, 28, 29, 30, 31, 32, 33, 20, 34, 44, 45, 46, 47, 48] (by decide +kernel) (by decide +kernel)
set_option maxRecDepth 20000 in
theorem gX1_isAcceptable_X2_hadIllness : GoodIn wsX1_isAcceptable (wsV RX1 101 RX2 yX2_hadIllness wsX2_hadIllness) := goodIn_app (goodIn_of _ (by decide +kernel)) ggX1_isAcceptable_X2_hadIllness
theorem dX1_isAcceptable_0 : decode cX1_isAcceptable 0 = .ok (.aload_n 0, 1) := by decide +kernel
theorem dX1_isAcceptable_1 : decode cX1_isAcceptable 1 = .ok (.aload_n 0, 1) := by decide +kernel
theorem dX1_isAcceptable_2 : decode cX1_isAcceptable 2 = .ok (.iload_n 1, 1) := by decide +kernel
theorem dX1_isAcceptable_3 : decode cX1_isAcceptable 3 = .ok (.invokevirtual 85, 3) := by decide +kernel
theorem dX1_isAcceptable_6 : decode cX1_isAcceptable 6 = .ok (.invokevirtual 98, 3) := by decide +kernel
theorem dX1_isAcceptable_9 : decode cX1_isAcceptable 9 = .ok (.istore 4, 2) := by decide +kernel
theorem dX1_isAcceptable_11 : decode cX1_isAcceptable 11 = .ok (.iload_n 3, 1) := by decide +kernel
theorem dX1_isAcceptable_12 : decode cX1_isAcceptable 12 = .ok (.tableswitch 79 1 3 #[28, 41, 65], 28) := by decide +kernel
theorem dX1_isAcceptable_40 : decode cX1_isAcceptable 40 = .ok (.iload 4, 2) := by decide +kernel
theorem dX1_isAcceptable_42 : decode cX1_isAcceptable 42 = .ok (.bipush 10, 2) := by decide +kernel
theorem dX1_isAcceptable_44 : decode cX1_isAcceptable 44 = .ok (.if_icmp .gt 7, 3) := by decide +kernel
theorem dX1_isAcceptable_47 : decode cX1_isAcceptable 47 = .ok (.iconst 1, 1) := by decide +kernel
theorem dX1_isAcceptable_48 : decode cX1_isAcceptable 48 = .ok (.goto 4, 3) := by decide +kernel
theorem dX1_isAcceptable_51 : decode cX1_isAcceptable 51 = .ok (.iconst 0, 1) := by decide +kernel
theorem dX1_isAcceptable_52 : decode cX1_isAcceptable 52 = .ok (.ireturn, 1) := by decide +kernel
theorem dX1_isAcceptable_53 : decode cX1_isAcceptable 53 = .ok (.iload 4, 2) := by decide +kernel
theorem dX1_isAcceptable_55 : decode cX1_isAcceptable 55 = .ok (.bipush 40, 2) := by decide +kernel
theorem dX1_isAcceptable_57 : decode cX1_isAcceptable 57 = .ok (.if_icmp .gt 18, 3) := by decide +kernel
theorem dX1_isAcceptable_60 : decode cX1_isAcceptable 60 = .ok (.aload_n 0, 1) := by decide +kernel
theorem dX1_isAcceptable_61 : decode cX1_isAcceptable 61 = .ok (.getfield 12, 3) := by decide +kernel
theorem dX1_isAcceptable_64 : decode cX1_isAcceptable 64 = .ok (.iload_n 2, 1) := by decide +kernel
theorem dX1_isAcceptable_65 : decode cX1_isAcceptable 65 = .ok (.invokevirtual 101, 3) := by decide +kernel
theorem dX1_isAcceptable_68 : decode cX1_isAcceptable 68 = .ok (.ifCond .ne 7, 3) := by decide +kernel
theorem dX1_isAcceptable_71 : decode cX1_isAcceptable 71 = .ok (.iconst 1, 1) := by decide +kernel
theorem dX1_isAcceptable_72 : decode cX1_isAcceptable 72 = .ok (.goto 4, 3) := by decide +kernel
theorem dX1_isAcceptable_75 : decode cX1_isAcceptable 75 = .ok (.iconst 0, 1) := by decide +kernel
theorem dX1_isAcceptable_76 : decode cX1_isAcceptable 76 = .ok (.ireturn, 1) := by decide +kernel
theorem dX1_isAcceptable_77 : decode cX1_isAcceptable 77 = .ok (.iload_n 1, 1) := by decide +kernel
theorem dX1_isAcceptable_78 : decode cX1_isAcceptable 78 = .ok (.bipush 7, 2) := by decide +kernel
theorem dX1_isAcceptable_80 : decode cX1_isAcceptable 80 = .ok (.irem, 1) := by decide +kernel
theorem dX1_isAcceptable_81 : decode cX1_isAcceptable 81 = .ok (.iconst 5, 1) := by decide +kernel
theorem dX1_isAcceptable_82 : decode cX1_isAcceptable 82 = .ok (.if_icmp .lt 7, 3) := by decide +kernel
theorem dX1_isAcceptable_85 : decode cX1_isAcceptable 85 = .ok (.iconst 1, 1) := by decide +kernel
theorem dX1_isAcceptable_86 : decode cX1_isAcceptable 86 = .ok (.goto 4, 3) := by decide +kernel
theorem dX1_isAcceptable_89 : decode cX1_isAcceptable 89 = .ok (.iconst 0, 1) := by decide +kernel
theorem dX1_isAcceptable_90 : decode cX1_isAcceptable 90 = .ok (.ireturn, 1) := by decide +kernel
theorem dX1_isAcceptable_91 : decode cX1_isAcceptable 91 = .ok (.iconst 0, 1) := by decide +kernel
theorem dX1_isAcceptable_92 : decode cX1_isAcceptable 92 = .ok (.ireturn, 1) := by decide +kernel
set_option maxRecDepth 20000 in
theorem ggX1_latestAcceptable_X1_paneAt : GoodIn wsX1_latestAcceptable wsX1_paneAt := goodIn_r _ [7, 8, 65, 66, 67, 68, 69, 70, 71, 72, 73] (by decide +kernel) (by decide +kernel)
set_option maxRecDepth 20000 in
theorem gX1_latestAcceptable_X1_paneAt : GoodIn wsX1_latestAcceptable (wsV RX1 85 RX1 yX1_paneAt wsX1_paneAt) := goodIn_app (goodIn_of _ (by decide +kernel)) ggX1_latestAcceptable_X1_paneAt
set_option maxRecDepth 20000 in
theorem ggX1_latestAcceptable_X1_stateOf : GoodIn wsX1_latestAcceptable wsX1_stateOf := goodIn_r _ [12, 13, 1, 14, 15, 16, 17, 18, 19, 20, 21, 22, 23, 24, 25, 26, 27, 28, 29, 30, 31, 32, 33, 34, 35, 6, 36, 8, 65, 66, 67, 68, 69, 70, 71, 72, 73, 74, 75, 76, 77, 78, 79] (by decide +kernel) (by decide +kernel)
set_option maxRecDepth 20000 in
theorem gX1_latestAcceptable_X1_stateOf : GoodIn wsX1_latestAcceptable (wsV RX1 88 RX1 yX1_stateOf wsX1_stateOf) := goodIn_app (goodIn_of _ (by decide +kernel)) ggX1_latestAcceptable_X1_stateOf
set_option maxRecDepth 20000 in
theorem ggX1_latestAcceptable_X1_latestIn : GoodIn wsX1_latestAcceptable wsX1_latestIn := goodIn_r _ [40, 8, 41, 42, 43, 44, 2, 33, 34, 35, 6, 36, 45, 46, 47, 48, 49, 3, 4, 5, 7, 50, 51, 52, 53, 1, 54, 55, 56, 57, 58, 59, 60, 26, 27, 28, 29, 30, 31, 32, 61, 62, 63, 64, 65, 66, 67, 68, 69, 70, 71, 72, 73, 80, 81, 77, 78, 79] (by decide +kernel) (by decide +kernel)
set_option maxRecDepth 20000 in
theorem gX1_latestAcceptable_X1_latestIn : GoodIn wsX1_latestAcceptable (wsV RX1 104 RX1 yX1_latestIn wsX1_latestIn) := goodIn_app (goodIn_of _ (by decide +kernel)) ggX1_latestAcceptable_X1_latestIn
theorem dX1_latestAcceptable_0 : decode cX1_latestAcceptable 0 = .ok (.aload_n 0, 1) := by decide +kernel
theorem dX1_latestAcceptable_1 : decode cX1_latestAcceptable 1 = .ok (.aload_n 0, 1) := by decide +kernel
theorem dX1_latestAcceptable_2 : decode cX1_latestAcceptable 2 = .ok (.getfield 42, 3) := by decide +kernel
theorem dX1_latestAcceptable_5 : decode cX1_latestAcceptable 5 = .ok (.invokevirtual 85, 3) := by decide +kernel
theorem dX1_latestAcceptable_8 : decode cX1_latestAcceptable 8 = .ok (.iconst 1, 1) := by decide +kernel
theorem dX1_latestAcceptable_9 : decode cX1_latestAcceptable 9 = .ok (.isub, 1) := by decide +kernel
theorem dX1_latestAcceptable_10 : decode cX1_latestAcceptable 10 = .ok (.istore_n 3, 1) := by decide +kernel
theorem dX1_latestAcceptable_11 : decode cX1_latestAcceptable 11 = .ok (.iload_n 3, 1) := by decide +kernel
theorem dX1_latestAcceptable_12 : decode cX1_latestAcceptable 12 = .ok (.ifCond .lt 40, 3) := by decide +kernel
theorem dX1_latestAcceptable_15 : decode cX1_latestAcceptable 15 = .ok (.aload_n 0, 1) := by decide +kernel
theorem dX1_latestAcceptable_16 : decode cX1_latestAcceptable 16 = .ok (.iload_n 3, 1) := by decide +kernel
theorem dX1_latestAcceptable_17 : decode cX1_latestAcceptable 17 = .ok (.invokevirtual 88, 3) := by decide +kernel
theorem dX1_latestAcceptable_20 : decode cX1_latestAcceptable 20 = .ok (.iconst 1, 1) := by decide +kernel
theorem dX1_latestAcceptable_21 : decode cX1_latestAcceptable 21 = .ok (.if_icmp .ne 25, 3) := by decide +kernel
theorem dX1_latestAcceptable_24 : decode cX1_latestAcceptable 24 = .ok (.aload_n 0, 1) := by decide +kernel
theorem dX1_latestAcceptable_25 : decode cX1_latestAcceptable 25 = .ok (.iload_n 3, 1) := by decide +kernel
theorem dX1_latestAcceptable_26 : decode cX1_latestAcceptable 26 = .ok (.iload_n 1, 1) := by decide +kernel
theorem dX1_latestAcceptable_27 : decode cX1_latestAcceptable 27 = .ok (.iload_n 2, 1) := by decide +kernel
theorem dX1_latestAcceptable_28 : decode cX1_latestAcceptable 28 = .ok (.invokevirtual 104, 3) := by decide +kernel
theorem dX1_latestAcceptable_31 : decode cX1_latestAcceptable 31 = .ok (.istore 4, 2) := by decide +kernel
theorem dX1_latestAcceptable_33 : decode cX1_latestAcceptable 33 = .ok (.iload 4, 2) := by decide +kernel
theorem dX1_latestAcceptable_35 : decode cX1_latestAcceptable 35 = .ok (.ifCond .ge 8, 3) := by decide +kernel
theorem dX1_latestAcceptable_38 : decode cX1_latestAcceptable 38 = .ok (.iload_n 2, 1) := by decide +kernel
theorem dX1_latestAcceptable_39 : decode cX1_latestAcceptable 39 = .ok (.iconst 3, 1) := by decide +kernel
theorem dX1_latestAcceptable_40 : decode cX1_latestAcceptable 40 = .ok (.if_icmp .eq 6, 3) := by decide +kernel
theorem dX1_latestAcceptable_43 : decode cX1_latestAcceptable 43 = .ok (.iload 4, 2) := by decide +kernel
theorem dX1_latestAcceptable_45 : decode cX1_latestAcceptable 45 = .ok (.ireturn, 1) := by decide +kernel
theorem dX1_latestAcceptable_46 : decode cX1_latestAcceptable 46 = .ok (.iinc 3 (-1), 3) := by decide +kernel
theorem dX1_latestAcceptable_49 : decode cX1_latestAcceptable 49 = .ok (.goto (-38), 3) := by decide +kernel
theorem dX1_latestAcceptable_52 : decode cX1_latestAcceptable 52 = .ok (.ldc 108, 2) := by decide +kernel
theorem dX1_latestAcceptable_54 : decode cX1_latestAcceptable 54 = .ok (.ireturn, 1) := by decide +kernel
set_option maxRecDepth 20000 in
theorem ggX1_latestIn_X1_endOf : GoodIn wsX1_latestIn wsX1_endOf := goodIn_r _ [11, 1, 44, 45, 46, 47, 48, 49, 50, 51, 52] (by decide +kernel) (by decide +kernel)
set_option maxRecDepth 20000 in
theorem gX1_latestIn_X1_endOf : GoodIn wsX1_latestIn (wsV RX1 82 RX1 yX1_endOf wsX1_endOf) := goodIn_app (goodIn_of _ (by decide +kernel)) ggX1_latestIn_X1_endOf
set_option maxRecDepth 20000 in
theorem ggX1_latestIn_X1_isAcceptable : GoodIn wsX1_latestIn wsX1_isAcceptable := goodIn_r _ [15, 16, 17, 18, 19, 10, 20, 1, 21, 22, 23, 24, 25, 7, 8, 9, 11, 26, 27, 28, 29, 30, 31, 32, 33, 34, 35, 36, 37, 38, 39, 40, 41, 42, 43, 44, 45, 46, 47, 48, 49, 50, 51, 52, 53, 54, 55, 56, 57] (by decide +kernel) (by decide +kernel)
set_option maxRecDepth 20000 in
theorem gX1_latestIn_X1_isAcceptable : GoodIn wsX1_latestIn (wsV RX1 91 RX1 yX1_isAcceptable wsX1_isAcceptable) := goodIn_app (goodIn_of _ (by decide +kernel)) ggX1_latestIn_X1_isAcceptable
theorem dX1_latestIn_0 : decode cX1_latestIn 0 = .ok (.iload_n 1, 1) := by decide +kernel
theorem dX1_latestIn_1 : decode cX1_latestIn 1 = .ok (.aload_n 0, 1) := by decide +kernel
theorem dX1_latestIn_2 : decode cX1_latestIn 2 = .ok (.getfield 32, 3) := by decide +kernel
theorem dX1_latestIn_5 : decode cX1_latestIn 5 = .ok (.imul, 1) := by decide +kernel
theorem dX1_latestIn_6 : decode cX1_latestIn 6 = .ok (.aload_n 0, 1) := by decide +kernel
theorem dX1_latestIn_7 : decode cX1_latestIn 7 = .ok (.iload_n 1, 1) := by decide +kernel
theorem dX1_latestIn_8 : decode cX1_latestIn 8 = .ok (.invokevirtual 82, 3) := by decide +kernel
theorem dX1_latestIn_11 : decode cX1_latestIn 11 = .ok (.bipush 7, 2) := by decide +kernel
theorem dX1_latestIn_13 : decode cX1_latestIn 13 = .ok (.isub, 1) := by decide +kernel
theorem dX1_latestIn_14 : decode cX1_latestIn 14 = .ok (.invokestatic 109, 3) := by decide +kernel
theorem dX1_latestIn_17 : decode cX1_latestIn 17 = .ok (.istore 4, 2) := by decide +kernel
theorem dX1_latestIn_19 : decode cX1_latestIn 19 = .ok (.aload_n 0, 1) := by decide +kernel
theorem dX1_latestIn_20 : decode cX1_latestIn 20 = .ok (.iload_n 1, 1) := by decide +kernel
theorem dX1_latestIn_21 : decode cX1_latestIn 21 = .ok (.invokevirtual 82, 3) := by decide +kernel
theorem dX1_latestIn_24 : decode cX1_latestIn 24 = .ok (.iconst 1, 1) := by decide +kernel
theorem dX1_latestIn_25 : decode cX1_latestIn 25 = .ok (.isub, 1) := by decide +kernel
theorem dX1_latestIn_26 : decode cX1_latestIn 26 = .ok (.istore 5, 2) := by decide +kernel
theorem dX1_latestIn_28 : decode cX1_latestIn 28 = .ok (.iload 5, 2) := by decide +kernel
theorem dX1_latestIn_30 : decode cX1_latestIn 30 = .ok (.iload 4, 2) := by decide +kernel
theorem dX1_latestIn_32 : decode cX1_latestIn 32 = .ok (.if_icmp .lt 23, 3) := by decide +kernel
theorem dX1_latestIn_35 : decode cX1_latestIn 35 = .ok (.aload_n 0, 1) := by decide +kernel
theorem dX1_latestIn_36 : decode cX1_latestIn 36 = .ok (.iload 5, 2) := by decide +kernel
theorem dX1_latestIn_38 : decode cX1_latestIn 38 = .ok (.iload_n 2, 1) := by decide +kernel
theorem dX1_latestIn_39 : decode cX1_latestIn 39 = .ok (.iload_n 3, 1) := by decide +kernel
theorem dX1_latestIn_40 : decode cX1_latestIn 40 = .ok (.invokevirtual 91, 3) := by decide +kernel
theorem dX1_latestIn_43 : decode cX1_latestIn 43 = .ok (.ifCond .eq 6, 3) := by decide +kernel
theorem dX1_latestIn_46 : decode cX1_latestIn 46 = .ok (.iload 5, 2) := by decide +kernel
theorem dX1_latestIn_48 : decode cX1_latestIn 48 = .ok (.ireturn, 1) := by decide +kernel
theorem dX1_latestIn_49 : decode cX1_latestIn 49 = .ok (.iinc 5 (-1), 3) := by decide +kernel
theorem dX1_latestIn_52 : decode cX1_latestIn 52 = .ok (.goto (-24), 3) := by decide +kernel
theorem dX1_latestIn_55 : decode cX1_latestIn 55 = .ok (.ldc 108, 2) := by decide +kernel
theorem dX1_latestIn_57 : decode cX1_latestIn 57 = .ok (.ireturn, 1) := by decide +kernel
set_option maxRecDepth 20000 in
theorem ggX1_admit_X2_hasCome : GoodIn wsX1_admit wsX2_hasCome := goodIn_r _ [12, 13, 14, 15, 16, 17, 18, 19, 20, 21, 182, 183, 184, 185, 186] (by decide +kernel) (by decide +kernel)
set_option maxRecDepth 20000 in
theorem gX1_admit_X2_hasCome : GoodIn wsX1_admit (wsV RX1 114 RX2 yX2_hasCome wsX2_hasCome) := goodIn_app (goodIn_of _ (by decide +kernel)) ggX1_admit_X2_hasCome
set_option maxRecDepth 20000 in
theorem ggX1_admit_X2_addDouble : GoodIn wsX1_admit wsX2_addDouble := goodIn_r _ [25, 26, 182, 183] (by decide +kernel) (by decide +kernel)
set_option maxRecDepth 20000 in
theorem gX1_admit_X2_addDouble : GoodIn wsX1_admit (wsV RX1 117 RX2 yX2_addDouble wsX2_addDouble) := goodIn_app (goodIn_of _ (by decide +kernel)) ggX1_admit_X2_addDouble
set_option maxRecDepth 20000 in
theorem ggX1_admit_X1_verdict : GoodIn wsX1_admit wsX1_verdict := goodIn_r _ [31, 2, 32, 33, 34, 30, 35, 36, 37, 38, 39, 40, 3, 4, 41, 42, 43, 44, 45, 46, 47, 48, 49, 50, 51, 52, 15, 16, 17, 18, 19, 20, 21, 53, 54, 55, 56, 57, 58, 59, 60, 1, 61, 62, 63, 64, 65, 66, 67, 11, 68, 13, 14, 69, 70, 71, 72, 73, 74, 75, 76, 77, 78, 79, 80, 81, 82, 83, 84, 85, 86, 87, 173, 174, 175, 176, 177, 178, 179, 180, 181, 187, 188, 189, 184, 185, 186, 182, 183, 190] (by decide +kernel) (by decide +kernel)
set_option maxRecDepth 20000 in
theorem gX1_admit_X1_verdict : GoodIn wsX1_admit (wsV RX1 120 RX1 yX1_verdict wsX1_verdict) := goodIn_app (goodIn_of _ (by decide +kernel)) ggX1_admit_X1_verdict
set_option maxRecDepth 20000 in
theorem ggX1_admit_X1_paneAt : GoodIn wsX1_admit wsX1_paneAt := goodIn_r _ [35, 36, 173, 174, 175, 176, 177, 178, 179, 180, 181] (by decide +kernel) (by decide +kernel)
set_option maxRecDepth 20000 in
theorem gX1_admit_X1_paneAt : GoodIn wsX1_admit (wsV RX1 85 RX1 yX1_paneAt wsX1_paneAt) := goodIn_app (goodIn_of _ (by decide +kernel)) ggX1_admit_X1_paneAt
set_option maxRecDepth 20000 in
theorem ggX1_admit_X2_enter : GoodIn wsX1_admit wsX2_enter := goodIn_r _ [91, 13, 92, 93, 94, 17, 95, 19, 20, 21, 182, 183, 184, 185, 186] (by decide +kernel) (by decide +kernel)
set_option maxRecDepth 20000 in
theorem gX1_admit_X2_enter : GoodIn wsX1_admit (wsV RX1 123 RX2 yX2_enter wsX2_enter) := goodIn_app (goodIn_of _ (by decide +kernel)) ggX1_admit_X2_enter
set_option maxRecDepth 20000 in
theorem ggX1_admit_X2_conclude : GoodIn wsX1_admit wsX2_conclude := goodIn_r _ [99, 13, 92, 93, 94, 17, 95, 19, 20, 21, 182, 183, 184, 185, 186] (by decide +kernel) (by decide +kernel)
set_option maxRecDepth 20000 in
theorem gX1_admit_X2_conclude : GoodIn wsX1_admit (wsV RX1 127 RX2 yX2_conclude wsX2_conclude) := goodIn_app (goodIn_of _ (by decide +kernel)) ggX1_admit_X2_conclude
set_option maxRecDepth 20000 in
theorem ggX1_admit_X0_file : GoodIn wsX1_admit wsX0_file := goodIn_r _ [103, 86, 78, 79, 80, 76, 81, 82, 83, 84, 85, 87, 15, 16, 17, 18, 19, 20, 21, 104, 93, 94, 95, 190, 184, 185, 186] (by decide +kernel) (by decide +kernel)
set_option maxRecDepth 20000 in
theorem gX1_admit_X0_file : GoodIn wsX1_admit (wsV RX1 131 RX0 yX0_file wsX0_file) := goodIn_app (goodIn_of _ (by decide +kernel)) ggX1_admit_X0_file
set_option maxRecDepth 20000 in
theorem ggX1_admit_X4_reopen : GoodIn wsX1_admit wsX4_reopen := goodIn_r _ [108, 46, 109, 110, 111, 44, 112, 51, 47, 48, 49, 50, 52, 15, 16, 17, 18, 19, 20, 21, 113, 114, 115, 116, 117, 118, 119, 120, 121, 122, 123, 124, 125, 93, 94, 95, 126, 127, 128, 129, 130, 131, 132, 133, 134, 135, 136, 137, 138, 139, 140, 141, 142, 143, 144, 145, 146, 147, 148, 149, 187, 188, 189, 184, 185, 186, 191, 192, 193, 194] (by decide +kernel) (by decide +kernel)
set_option maxRecDepth 20000 in
theorem gX1_admit_X4_reopen : GoodIn wsX1_admit (wsV RX1 135 RX4 yX4_reopen wsX4_reopen) := goodIn_app (goodIn_of _ (by decide +kernel)) ggX1_admit_X4_reopen
set_option maxRecDepth 20000 in
theorem ggX1_admit_X4_add : GoodIn wsX1_admit wsX4_add := goodIn_r _ [153, 46, 109, 110, 111, 44, 112, 51, 47, 48, 49, 50, 52, 15, 16, 17, 18, 19, 20, 21, 113, 114, 115, 116, 117, 118, 119, 120, 121, 122, 123, 124, 125, 93, 94, 95, 126, 187, 188, 189, 184, 185, 186] (by decide +kernel) (by decide +kernel)
set_option maxRecDepth 20000 in
theorem gX1_admit_X4_add : GoodIn wsX1_admit (wsV RX1 138 RX4 yX4_add wsX4_add) := goodIn_app (goodIn_of _ (by decide +kernel)) ggX1_admit_X4_add
set_option maxRecDepth 20000 in
theorem ggX1_admit_X1_raiseWatermark : GoodIn wsX1_admit wsX1_raiseWatermark := goodIn_r _ [157, 4, 158, 159, 160, 161, 3, 32, 33, 34, 30, 35, 36, 162, 163, 164, 44, 165, 51, 46, 52, 15, 16, 17, 18, 19, 20, 21, 166, 167, 168, 169, 170, 171, 172, 131, 126, 93, 94, 95, 136, 137, 138, 139, 140, 141, 142, 143, 144, 145, 146, 147, 148, 121, 122, 123, 124, 149, 173, 174, 175, 176, 177, 178, 179, 180, 181, 187, 188, 189, 184, 185, 186, 191, 192, 193, 194] (by decide +kernel) (by decide +kernel)
set_option maxRecDepth 20000 in
theorem gX1_admit_X1_raiseWatermark : GoodIn wsX1_admit (wsV RX1 141 RX1 yX1_raiseWatermark wsX1_raiseWatermark) := goodIn_app (goodIn_of _ (by decide +kernel)) ggX1_admit_X1_raiseWatermark
theorem dX1_admit_0 : decode cX1_admit 0 = .ok (.aload_n 0, 1) := by decide +kernel
theorem dX1_admit_1 : decode cX1_admit 1 = .ok (.getfield 12, 3) := by decide +kernel
theorem dX1_admit_4 : decode cX1_admit 4 = .ok (.iload_n 1, 1) := by decide +kernel
theorem dX1_admit_5 : decode cX1_admit 5 = .ok (.invokevirtual 114, 3) := by decide +kernel
theorem dX1_admit_8 : decode cX1_admit 8 = .ok (.ifCond .eq 12, 3) := by decide +kernel
theorem dX1_admit_11 : decode cX1_admit 11 = .ok (.aload_n 0, 1) := by decide +kernel
theorem dX1_admit_12 : decode cX1_admit 12 = .ok (.getfield 12, 3) := by decide +kernel
theorem dX1_admit_15 : decode cX1_admit 15 = .ok (.invokevirtual 117, 3) := by decide +kernel
theorem dX1_admit_18 : decode cX1_admit 18 = .ok (.iconst 4, 1) := by decide +kernel
theorem dX1_admit_19 : decode cX1_admit 19 = .ok (.ireturn, 1) := by decide +kernel
theorem dX1_admit_20 : decode cX1_admit 20 = .ok (.aload_n 0, 1) := by decide +kernel
theorem dX1_admit_21 : decode cX1_admit 21 = .ok (.iload_n 2, 1) := by decide +kernel
theorem dX1_admit_22 : decode cX1_admit 22 = .ok (.iload_n 3, 1) := by decide +kernel
theorem dX1_admit_23 : decode cX1_admit 23 = .ok (.iload 5, 2) := by decide +kernel
theorem dX1_admit_25 : decode cX1_admit 25 = .ok (.invokevirtual 120, 3) := by decide +kernel
theorem dX1_admit_28 : decode cX1_admit 28 = .ok (.istore 6, 2) := by decide +kernel
theorem dX1_admit_30 : decode cX1_admit 30 = .ok (.aload_n 0, 1) := by decide +kernel
theorem dX1_admit_31 : decode cX1_admit 31 = .ok (.iload_n 2, 1) := by decide +kernel
theorem dX1_admit_32 : decode cX1_admit 32 = .ok (.invokevirtual 85, 3) := by decide +kernel
theorem dX1_admit_35 : decode cX1_admit 35 = .ok (.istore 7, 2) := by decide +kernel
theorem dX1_admit_37 : decode cX1_admit 37 = .ok (.aload_n 0, 1) := by decide +kernel
theorem dX1_admit_38 : decode cX1_admit 38 = .ok (.getfield 12, 3) := by decide +kernel
theorem dX1_admit_41 : decode cX1_admit 41 = .ok (.iload_n 1, 1) := by decide +kernel
theorem dX1_admit_42 : decode cX1_admit 42 = .ok (.iload_n 2, 1) := by decide +kernel
theorem dX1_admit_43 : decode cX1_admit 43 = .ok (.iload_n 3, 1) := by decide +kernel
theorem dX1_admit_44 : decode cX1_admit 44 = .ok (.iload 4, 2) := by decide +kernel
theorem dX1_admit_46 : decode cX1_admit 46 = .ok (.iload 5, 2) := by decide +kernel
theorem dX1_admit_48 : decode cX1_admit 48 = .ok (.invokevirtual 123, 3) := by decide +kernel
theorem dX1_admit_51 : decode cX1_admit 51 = .ok (.aload_n 0, 1) := by decide +kernel
theorem dX1_admit_52 : decode cX1_admit 52 = .ok (.getfield 12, 3) := by decide +kernel
theorem dX1_admit_55 : decode cX1_admit 55 = .ok (.iload_n 1, 1) := by decide +kernel
theorem dX1_admit_56 : decode cX1_admit 56 = .ok (.iload 6, 2) := by decide +kernel
theorem dX1_admit_58 : decode cX1_admit 58 = .ok (.iload 7, 2) := by decide +kernel
theorem dX1_admit_60 : decode cX1_admit 60 = .ok (.invokevirtual 127, 3) := by decide +kernel
theorem dX1_admit_63 : decode cX1_admit 63 = .ok (.iload 6, 2) := by decide +kernel
theorem dX1_admit_65 : decode cX1_admit 65 = .ok (.iconst 1, 1) := by decide +kernel
theorem dX1_admit_66 : decode cX1_admit 66 = .ok (.if_icmp .ne 33, 3) := by decide +kernel
theorem dX1_admit_69 : decode cX1_admit 69 = .ok (.aload_n 0, 1) := by decide +kernel
theorem dX1_admit_70 : decode cX1_admit 70 = .ok (.getfield 28, 3) := by decide +kernel
theorem dX1_admit_73 : decode cX1_admit 73 = .ok (.iload 5, 2) := by decide +kernel
theorem dX1_admit_75 : decode cX1_admit 75 = .ok (.iload_n 1, 1) := by decide +kernel
theorem dX1_admit_76 : decode cX1_admit 76 = .ok (.invokevirtual 131, 3) := by decide +kernel
theorem dX1_admit_79 : decode cX1_admit 79 = .ok (.aload_n 0, 1) := by decide +kernel
theorem dX1_admit_80 : decode cX1_admit 80 = .ok (.getfield 21, 3) := by decide +kernel
theorem dX1_admit_83 : decode cX1_admit 83 = .ok (.iload 7, 2) := by decide +kernel
theorem dX1_admit_85 : decode cX1_admit 85 = .ok (.aload_n 0, 1) := by decide +kernel
theorem dX1_admit_86 : decode cX1_admit 86 = .ok (.getfield 42, 3) := by decide +kernel
theorem dX1_admit_89 : decode cX1_admit 89 = .ok (.aload_n 0, 1) := by decide +kernel
theorem dX1_admit_90 : decode cX1_admit 90 = .ok (.getfield 39, 3) := by decide +kernel
theorem dX1_admit_93 : decode cX1_admit 93 = .ok (.iadd, 1) := by decide +kernel
theorem dX1_admit_94 : decode cX1_admit 94 = .ok (.iconst 1, 1) := by decide +kernel
theorem dX1_admit_95 : decode cX1_admit 95 = .ok (.iadd, 1) := by decide +kernel
theorem dX1_admit_96 : decode cX1_admit 96 = .ok (.invokevirtual 135, 3) := by decide +kernel
theorem dX1_admit_99 : decode cX1_admit 99 = .ok (.iload 6, 2) := by decide +kernel
theorem dX1_admit_101 : decode cX1_admit 101 = .ok (.iconst 1, 1) := by decide +kernel
theorem dX1_admit_102 : decode cX1_admit 102 = .ok (.if_icmp .gt 15, 3) := by decide +kernel
theorem dX1_admit_105 : decode cX1_admit 105 = .ok (.aload_n 0, 1) := by decide +kernel
theorem dX1_admit_106 : decode cX1_admit 106 = .ok (.getfield 21, 3) := by decide +kernel
theorem dX1_admit_109 : decode cX1_admit 109 = .ok (.iload 7, 2) := by decide +kernel
theorem dX1_admit_111 : decode cX1_admit 111 = .ok (.iload_n 3, 1) := by decide +kernel
theorem dX1_admit_112 : decode cX1_admit 112 = .ok (.iload 4, 2) := by decide +kernel
theorem dX1_admit_114 : decode cX1_admit 114 = .ok (.invokevirtual 138, 3) := by decide +kernel
theorem dX1_admit_117 : decode cX1_admit 117 = .ok (.iload_n 2, 1) := by decide +kernel
theorem dX1_admit_118 : decode cX1_admit 118 = .ok (.aload_n 0, 1) := by decide +kernel
theorem dX1_admit_119 : decode cX1_admit 119 = .ok (.getfield 45, 3) := by decide +kernel
theorem dX1_admit_122 : decode cX1_admit 122 = .ok (.if_icmp .le 18, 3) := by decide +kernel
theorem dX1_admit_125 : decode cX1_admit 125 = .ok (.aload_n 0, 1) := by decide +kernel
theorem dX1_admit_126 : decode cX1_admit 126 = .ok (.iload_n 2, 1) := by decide +kernel
theorem dX1_admit_127 : decode cX1_admit 127 = .ok (.putfield 45, 3) := by decide +kernel
theorem dX1_admit_130 : decode cX1_admit 130 = .ok (.aload_n 0, 1) := by decide +kernel
theorem dX1_admit_131 : decode cX1_admit 131 = .ok (.iload_n 2, 1) := by decide +kernel
theorem dX1_admit_132 : decode cX1_admit 132 = .ok (.aload_n 0, 1) := by decide +kernel
theorem dX1_admit_133 : decode cX1_admit 133 = .ok (.getfield 36, 3) := by decide +kernel
theorem dX1_admit_136 : decode cX1_admit 136 = .ok (.isub, 1) := by decide +kernel
theorem dX1_admit_137 : decode cX1_admit 137 = .ok (.invokevirtual 141, 3) := by decide +kernel
theorem dX1_admit_140 : decode cX1_admit 140 = .ok (.iload 6, 2) := by decide +kernel
theorem dX1_admit_142 : decode cX1_admit 142 = .ok (.ireturn, 1) := by decide +kernel
set_option maxRecDepth 20000 in
theorem ggX1_raiseWatermark_X1_paneAt : GoodIn wsX1_raiseWatermark wsX1_paneAt := goodIn_r _ [11, 12, 58, 59, 60, 61, 62, 63, 64, 65, 66] (by decide +kernel) (by decide +kernel)
set_option maxRecDepth 20000 in
theorem gX1_raiseWatermark_X1_paneAt : GoodIn wsX1_raiseWatermark (wsV RX1 85 RX1 yX1_paneAt wsX1_paneAt) := goodIn_app (goodIn_of _ (by decide +kernel)) ggX1_raiseWatermark_X1_paneAt
set_option maxRecDepth 20000 in
theorem ggX1_raiseWatermark_X4_shutAndClose : GoodIn wsX1_raiseWatermark wsX4_shutAndClose := goodIn_r _ [17, 18, 19, 20, 21, 22, 23, 24, 25, 26, 27, 28, 29, 30, 31, 32, 33, 16, 34, 35, 36, 37, 38, 39, 40, 41, 42, 43, 44, 45, 46, 47, 48, 49, 50, 51, 52, 53, 54, 55, 56, 57, 67, 68, 69, 70, 71, 72, 73, 74, 75, 76] (by decide +kernel) (by decide +kernel)
set_option maxRecDepth 20000 in
theorem gX1_raiseWatermark_X4_shutAndClose : GoodIn wsX1_raiseWatermark (wsV RX1 145 RX4 yX4_shutAndClose wsX4_shutAndClose) := goodIn_app (goodIn_of _ (by decide +kernel)) ggX1_raiseWatermark_X4_shutAndClose
theorem dX1_raiseWatermark_0 : decode cX1_raiseWatermark 0 = .ok (.iload_n 1, 1) := by decide +kernel
theorem dX1_raiseWatermark_1 : decode cX1_raiseWatermark 1 = .ok (.aload_n 0, 1) := by decide +kernel
theorem dX1_raiseWatermark_2 : decode cX1_raiseWatermark 2 = .ok (.getfield 42, 3) := by decide +kernel
theorem dX1_raiseWatermark_5 : decode cX1_raiseWatermark 5 = .ok (.if_icmp .le 39, 3) := by decide +kernel
theorem dX1_raiseWatermark_8 : decode cX1_raiseWatermark 8 = .ok (.aload_n 0, 1) := by decide +kernel
theorem dX1_raiseWatermark_9 : decode cX1_raiseWatermark 9 = .ok (.iconst 0, 1) := by decide +kernel
theorem dX1_raiseWatermark_10 : decode cX1_raiseWatermark 10 = .ok (.aload_n 0, 1) := by decide +kernel
theorem dX1_raiseWatermark_11 : decode cX1_raiseWatermark 11 = .ok (.getfield 42, 3) := by decide +kernel
theorem dX1_raiseWatermark_14 : decode cX1_raiseWatermark 14 = .ok (.invokestatic 109, 3) := by decide +kernel
theorem dX1_raiseWatermark_17 : decode cX1_raiseWatermark 17 = .ok (.invokevirtual 85, 3) := by decide +kernel
theorem dX1_raiseWatermark_20 : decode cX1_raiseWatermark 20 = .ok (.iconst 1, 1) := by decide +kernel
theorem dX1_raiseWatermark_21 : decode cX1_raiseWatermark 21 = .ok (.isub, 1) := by decide +kernel
theorem dX1_raiseWatermark_22 : decode cX1_raiseWatermark 22 = .ok (.istore_n 2, 1) := by decide +kernel
theorem dX1_raiseWatermark_23 : decode cX1_raiseWatermark 23 = .ok (.aload_n 0, 1) := by decide +kernel
theorem dX1_raiseWatermark_24 : decode cX1_raiseWatermark 24 = .ok (.iload_n 1, 1) := by decide +kernel
theorem dX1_raiseWatermark_25 : decode cX1_raiseWatermark 25 = .ok (.putfield 42, 3) := by decide +kernel
theorem dX1_raiseWatermark_28 : decode cX1_raiseWatermark 28 = .ok (.aload_n 0, 1) := by decide +kernel
theorem dX1_raiseWatermark_29 : decode cX1_raiseWatermark 29 = .ok (.getfield 21, 3) := by decide +kernel
theorem dX1_raiseWatermark_32 : decode cX1_raiseWatermark 32 = .ok (.iload_n 2, 1) := by decide +kernel
theorem dX1_raiseWatermark_33 : decode cX1_raiseWatermark 33 = .ok (.aload_n 0, 1) := by decide +kernel
theorem dX1_raiseWatermark_34 : decode cX1_raiseWatermark 34 = .ok (.iload_n 1, 1) := by decide +kernel
theorem dX1_raiseWatermark_35 : decode cX1_raiseWatermark 35 = .ok (.invokevirtual 85, 3) := by decide +kernel
theorem dX1_raiseWatermark_38 : decode cX1_raiseWatermark 38 = .ok (.iconst 1, 1) := by decide +kernel
theorem dX1_raiseWatermark_39 : decode cX1_raiseWatermark 39 = .ok (.isub, 1) := by decide +kernel
theorem dX1_raiseWatermark_40 : decode cX1_raiseWatermark 40 = .ok (.iload_n 1, 1) := by decide +kernel
theorem dX1_raiseWatermark_41 : decode cX1_raiseWatermark 41 = .ok (.invokevirtual 145, 3) := by decide +kernel
theorem dX1_raiseWatermark_44 : decode cX1_raiseWatermark 44 = .ok (.return_, 1) := by decide +kernel
theorem dX1_canMoveBack_0 : decode cX1_canMoveBack 0 = .ok (.aload_n 0, 1) := by decide +kernel
theorem dX1_canMoveBack_1 : decode cX1_canMoveBack 1 = .ok (.getfield 58, 3) := by decide +kernel
theorem dX1_canMoveBack_4 : decode cX1_canMoveBack 4 = .ok (.ifCond .ne 15, 3) := by decide +kernel
theorem dX1_canMoveBack_7 : decode cX1_canMoveBack 7 = .ok (.aload_n 0, 1) := by decide +kernel
theorem dX1_canMoveBack_8 : decode cX1_canMoveBack 8 = .ok (.getfield 42, 3) := by decide +kernel
theorem dX1_canMoveBack_11 : decode cX1_canMoveBack 11 = .ok (.iconst (-1), 1) := by decide +kernel
theorem dX1_canMoveBack_12 : decode cX1_canMoveBack 12 = .ok (.if_icmp .eq 7, 3) := by decide +kernel
theorem dX1_canMoveBack_15 : decode cX1_canMoveBack 15 = .ok (.iconst 1, 1) := by decide +kernel
theorem dX1_canMoveBack_16 : decode cX1_canMoveBack 16 = .ok (.goto 4, 3) := by decide +kernel
theorem dX1_canMoveBack_19 : decode cX1_canMoveBack 19 = .ok (.iconst 0, 1) := by decide +kernel
theorem dX1_canMoveBack_20 : decode cX1_canMoveBack 20 = .ok (.ireturn, 1) := by decide +kernel
set_option maxRecDepth 20000 in
theorem ggX1_moveBack_X1_paneAt : GoodIn wsX1_moveBack wsX1_paneAt := goodIn_r _ [12, 13, 76, 77, 78, 79, 80, 81, 82, 83, 84] (by decide +kernel) (by decide +kernel)
set_option maxRecDepth 20000 in
theorem gX1_moveBack_X1_paneAt : GoodIn wsX1_moveBack (wsV RX1 85 RX1 yX1_paneAt wsX1_paneAt) := goodIn_app (goodIn_of _ (by decide +kernel)) ggX1_moveBack_X1_paneAt
set_option maxRecDepth 20000 in
theorem ggX1_moveBack_X1_stateOf : GoodIn wsX1_moveBack wsX1_stateOf := goodIn_r _ [17, 6, 1, 18, 19, 20, 21, 22, 23, 24, 25, 26, 27, 28, 29, 30, 31, 32, 33, 34, 35, 36, 37, 38, 39, 11, 40, 13, 76, 77, 78, 79, 80, 81, 82, 83, 84, 85, 86, 87, 88, 89, 90] (by decide +kernel) (by decide +kernel)
set_option maxRecDepth 20000 in
theorem gX1_moveBack_X1_stateOf : GoodIn wsX1_moveBack (wsV RX1 88 RX1 yX1_stateOf wsX1_stateOf) := goodIn_app (goodIn_of _ (by decide +kernel)) ggX1_moveBack_X1_stateOf
set_option maxRecDepth 20000 in
theorem ggX1_moveBack_X4_takeBackWord : GoodIn wsX1_moveBack wsX4_takeBackWord := goodIn_r _ [44, 24, 25, 26, 21, 27, 28, 23, 29, 30, 31, 32, 33, 34, 35, 36, 45, 46, 47, 48, 49, 50, 51, 52, 53, 54, 55, 56, 57, 58, 59, 60, 61, 62, 63, 64, 65, 66, 67, 68, 69, 70, 71, 72, 73, 74, 75, 85, 86, 87, 88, 89, 90, 91, 92, 93, 94] (by decide +kernel) (by decide +kernel)
set_option maxRecDepth 20000 in
theorem gX1_moveBack_X4_takeBackWord : GoodIn wsX1_moveBack (wsV RX1 148 RX4 yX4_takeBackWord wsX4_takeBackWord) := goodIn_app (goodIn_of _ (by decide +kernel)) ggX1_moveBack_X4_takeBackWord
theorem dX1_moveBack_0 : decode cX1_moveBack 0 = .ok (.iconst (-1), 1) := by decide +kernel
theorem dX1_moveBack_1 : decode cX1_moveBack 1 = .ok (.aload_n 0, 1) := by decide +kernel
theorem dX1_moveBack_2 : decode cX1_moveBack 2 = .ok (.getfield 42, 3) := by decide +kernel
theorem dX1_moveBack_5 : decode cX1_moveBack 5 = .ok (.iload_n 1, 1) := by decide +kernel
theorem dX1_moveBack_6 : decode cX1_moveBack 6 = .ok (.isub, 1) := by decide +kernel
theorem dX1_moveBack_7 : decode cX1_moveBack 7 = .ok (.invokestatic 109, 3) := by decide +kernel
theorem dX1_moveBack_10 : decode cX1_moveBack 10 = .ok (.istore_n 2, 1) := by decide +kernel
theorem dX1_moveBack_11 : decode cX1_moveBack 11 = .ok (.iconst 0, 1) := by decide +kernel
theorem dX1_moveBack_12 : decode cX1_moveBack 12 = .ok (.istore_n 3, 1) := by decide +kernel
theorem dX1_moveBack_13 : decode cX1_moveBack 13 = .ok (.aload_n 0, 1) := by decide +kernel
theorem dX1_moveBack_14 : decode cX1_moveBack 14 = .ok (.aload_n 0, 1) := by decide +kernel
theorem dX1_moveBack_15 : decode cX1_moveBack 15 = .ok (.getfield 42, 3) := by decide +kernel
theorem dX1_moveBack_18 : decode cX1_moveBack 18 = .ok (.invokevirtual 85, 3) := by decide +kernel
theorem dX1_moveBack_21 : decode cX1_moveBack 21 = .ok (.istore 4, 2) := by decide +kernel
theorem dX1_moveBack_23 : decode cX1_moveBack 23 = .ok (.aload_n 0, 1) := by decide +kernel
theorem dX1_moveBack_24 : decode cX1_moveBack 24 = .ok (.iconst 0, 1) := by decide +kernel
theorem dX1_moveBack_25 : decode cX1_moveBack 25 = .ok (.iload_n 2, 1) := by decide +kernel
theorem dX1_moveBack_26 : decode cX1_moveBack 26 = .ok (.invokestatic 109, 3) := by decide +kernel
theorem dX1_moveBack_29 : decode cX1_moveBack 29 = .ok (.invokevirtual 85, 3) := by decide +kernel
theorem dX1_moveBack_32 : decode cX1_moveBack 32 = .ok (.istore 5, 2) := by decide +kernel
theorem dX1_moveBack_34 : decode cX1_moveBack 34 = .ok (.iload 5, 2) := by decide +kernel
theorem dX1_moveBack_36 : decode cX1_moveBack 36 = .ok (.iload 4, 2) := by decide +kernel
theorem dX1_moveBack_38 : decode cX1_moveBack 38 = .ok (.if_icmp .ge 31, 3) := by decide +kernel
theorem dX1_moveBack_41 : decode cX1_moveBack 41 = .ok (.aload_n 0, 1) := by decide +kernel
theorem dX1_moveBack_42 : decode cX1_moveBack 42 = .ok (.iload 5, 2) := by decide +kernel
theorem dX1_moveBack_44 : decode cX1_moveBack 44 = .ok (.invokevirtual 88, 3) := by decide +kernel
theorem dX1_moveBack_47 : decode cX1_moveBack 47 = .ok (.iconst 1, 1) := by decide +kernel
theorem dX1_moveBack_48 : decode cX1_moveBack 48 = .ok (.if_icmp .ne 15, 3) := by decide +kernel
theorem dX1_moveBack_51 : decode cX1_moveBack 51 = .ok (.aload_n 0, 1) := by decide +kernel
theorem dX1_moveBack_52 : decode cX1_moveBack 52 = .ok (.getfield 21, 3) := by decide +kernel
theorem dX1_moveBack_55 : decode cX1_moveBack 55 = .ok (.iload 5, 2) := by decide +kernel
theorem dX1_moveBack_57 : decode cX1_moveBack 57 = .ok (.invokevirtual 148, 3) := by decide +kernel
theorem dX1_moveBack_60 : decode cX1_moveBack 60 = .ok (.iinc 3 1, 3) := by decide +kernel
theorem dX1_moveBack_63 : decode cX1_moveBack 63 = .ok (.iinc 5 1, 3) := by decide +kernel
theorem dX1_moveBack_66 : decode cX1_moveBack 66 = .ok (.goto (-32), 3) := by decide +kernel
theorem dX1_moveBack_69 : decode cX1_moveBack 69 = .ok (.aload_n 0, 1) := by decide +kernel
theorem dX1_moveBack_70 : decode cX1_moveBack 70 = .ok (.iload_n 2, 1) := by decide +kernel
theorem dX1_moveBack_71 : decode cX1_moveBack 71 = .ok (.putfield 42, 3) := by decide +kernel
theorem dX1_moveBack_74 : decode cX1_moveBack 74 = .ok (.aload_n 0, 1) := by decide +kernel
theorem dX1_moveBack_75 : decode cX1_moveBack 75 = .ok (.iconst 1, 1) := by decide +kernel
theorem dX1_moveBack_76 : decode cX1_moveBack 76 = .ok (.putfield 58, 3) := by decide +kernel
theorem dX1_moveBack_79 : decode cX1_moveBack 79 = .ok (.iload_n 3, 1) := by decide +kernel
theorem dX1_moveBack_80 : decode cX1_moveBack 80 = .ok (.ireturn, 1) := by decide +kernel
set_option maxRecDepth 20000 in
theorem ggX2_init_X5_init : GoodIn wsX2_init wsX5_init := goodIn_r _ [10, 11, 2, 3, 12, 13, 14, 15, 16, 17, 18, 19, 20, 21, 22] (by decide +kernel) (by decide +kernel)
set_option maxRecDepth 20000 in
theorem gX2_init_X5_init : GoodIn wsX2_init (wsX5_init) := ggX2_init_X5_init
theorem dX2_init_0 : decode cX2_init 0 = .ok (.aload_n 0, 1) := by decide +kernel
theorem dX2_init_1 : decode cX2_init 1 = .ok (.invokespecial 3, 3) := by decide +kernel
theorem dX2_init_4 : decode cX2_init 4 = .ok (.aload_n 0, 1) := by decide +kernel
theorem dX2_init_5 : decode cX2_init 5 = .ok (.new 9, 3) := by decide +kernel
theorem dX2_init_8 : decode cX2_init 8 = .ok (.dup, 1) := by decide +kernel
theorem dX2_init_9 : decode cX2_init 9 = .ok (.bipush 64, 2) := by decide +kernel
theorem dX2_init_11 : decode cX2_init 11 = .ok (.bipush 7, 2) := by decide +kernel
theorem dX2_init_13 : decode cX2_init 13 = .ok (.invokespecial 11, 3) := by decide +kernel
theorem dX2_init_16 : decode cX2_init 16 = .ok (.putfield 14, 3) := by decide +kernel
theorem dX2_init_19 : decode cX2_init 19 = .ok (.return_, 1) := by decide +kernel
set_option maxRecDepth 20000 in
theorem ggX2_copyFrom_X5_copyFrom : GoodIn wsX2_copyFrom wsX5_copyFrom := goodIn_r _ [7, 8, 9, 10, 11, 12, 15, 16, 17] (by decide +kernel) (by decide +kernel)
set_option maxRecDepth 20000 in
theorem gX2_copyFrom_X5_copyFrom : GoodIn wsX2_copyFrom (wsV RX2 20 RX5 yX5_copyFrom wsX5_copyFrom) := goodIn_app (goodIn_of _ (by decide +kernel)) ggX2_copyFrom_X5_copyFrom
theorem dX2_copyFrom_0 : decode cX2_copyFrom 0 = .ok (.aload_n 0, 1) := by decide +kernel
theorem dX2_copyFrom_1 : decode cX2_copyFrom 1 = .ok (.getfield 14, 3) := by decide +kernel
theorem dX2_copyFrom_4 : decode cX2_copyFrom 4 = .ok (.aload_n 1, 1) := by decide +kernel
theorem dX2_copyFrom_5 : decode cX2_copyFrom 5 = .ok (.getfield 14, 3) := by decide +kernel
theorem dX2_copyFrom_8 : decode cX2_copyFrom 8 = .ok (.invokevirtual 20, 3) := by decide +kernel
theorem dX2_copyFrom_11 : decode cX2_copyFrom 11 = .ok (.aload_n 0, 1) := by decide +kernel
theorem dX2_copyFrom_12 : decode cX2_copyFrom 12 = .ok (.aload_n 1, 1) := by decide +kernel
theorem dX2_copyFrom_13 : decode cX2_copyFrom 13 = .ok (.getfield 24, 3) := by decide +kernel
theorem dX2_copyFrom_16 : decode cX2_copyFrom 16 = .ok (.putfield 24, 3) := by decide +kernel
theorem dX2_copyFrom_19 : decode cX2_copyFrom 19 = .ok (.return_, 1) := by decide +kernel
set_option maxRecDepth 20000 in
theorem ggX2_hasCome_X5_get : GoodIn wsX2_hasCome wsX5_get := goodIn_r _ [6, 7, 8, 9, 12, 13, 14] (by decide +kernel) (by decide +kernel)
set_option maxRecDepth 20000 in
theorem gX2_hasCome_X5_get : GoodIn wsX2_hasCome (wsV RX2 28 RX5 yX5_get wsX5_get) := goodIn_app (goodIn_of _ (by decide +kernel)) ggX2_hasCome_X5_get
theorem dX2_hasCome_0 : decode cX2_hasCome 0 = .ok (.aload_n 0, 1) := by decide +kernel
theorem dX2_hasCome_1 : decode cX2_hasCome 1 = .ok (.getfield 14, 3) := by decide +kernel
theorem dX2_hasCome_4 : decode cX2_hasCome 4 = .ok (.iload_n 1, 1) := by decide +kernel
theorem dX2_hasCome_5 : decode cX2_hasCome 5 = .ok (.bipush 6, 2) := by decide +kernel
theorem dX2_hasCome_7 : decode cX2_hasCome 7 = .ok (.invokevirtual 28, 3) := by decide +kernel
theorem dX2_hasCome_10 : decode cX2_hasCome 10 = .ok (.iconst 1, 1) := by decide +kernel
theorem dX2_hasCome_11 : decode cX2_hasCome 11 = .ok (.if_icmp .ne 7, 3) := by decide +kernel
theorem dX2_hasCome_14 : decode cX2_hasCome 14 = .ok (.iconst 1, 1) := by decide +kernel
theorem dX2_hasCome_15 : decode cX2_hasCome 15 = .ok (.goto 4, 3) := by decide +kernel
theorem dX2_hasCome_18 : decode cX2_hasCome 18 = .ok (.iconst 0, 1) := by decide +kernel
theorem dX2_hasCome_19 : decode cX2_hasCome 19 = .ok (.ireturn, 1) := by decide +kernel
set_option maxRecDepth 20000 in
theorem ggX2_read_X2_hasCome : GoodIn wsX2_read wsX2_hasCome := goodIn_r _ [7, 1, 8, 9, 10, 11, 12, 13, 14, 15, 16, 17, 18, 19, 20] (by decide +kernel) (by decide +kernel)
set_option maxRecDepth 20000 in
theorem gX2_read_X2_hasCome : GoodIn wsX2_read (wsV RX2 32 RX2 yX2_hasCome wsX2_hasCome) := goodIn_app (goodIn_of _ (by decide +kernel)) ggX2_read_X2_hasCome
set_option maxRecDepth 20000 in
theorem ggX2_read_X5_get : GoodIn wsX2_read wsX5_get := goodIn_r _ [12, 13, 14, 15, 18, 19, 20] (by decide +kernel) (by decide +kernel)
set_option maxRecDepth 20000 in
theorem gX2_read_X5_get : GoodIn wsX2_read (wsV RX2 28 RX5 yX5_get wsX5_get) := goodIn_app (goodIn_of _ (by decide +kernel)) ggX2_read_X5_get
theorem dX2_read_0 : decode cX2_read 0 = .ok (.aload_n 0, 1) := by decide +kernel
theorem dX2_read_1 : decode cX2_read 1 = .ok (.iload_n 1, 1) := by decide +kernel
theorem dX2_read_2 : decode cX2_read 2 = .ok (.invokevirtual 32, 3) := by decide +kernel
theorem dX2_read_5 : decode cX2_read 5 = .ok (.ifCond .eq 15, 3) := by decide +kernel
theorem dX2_read_8 : decode cX2_read 8 = .ok (.aload_n 0, 1) := by decide +kernel
theorem dX2_read_9 : decode cX2_read 9 = .ok (.getfield 14, 3) := by decide +kernel
theorem dX2_read_12 : decode cX2_read 12 = .ok (.iload_n 1, 1) := by decide +kernel
theorem dX2_read_13 : decode cX2_read 13 = .ok (.iload_n 2, 1) := by decide +kernel
theorem dX2_read_14 : decode cX2_read 14 = .ok (.invokevirtual 28, 3) := by decide +kernel
theorem dX2_read_17 : decode cX2_read 17 = .ok (.goto 5, 3) := by decide +kernel
theorem dX2_read_20 : decode cX2_read 20 = .ok (.ldc 36, 2) := by decide +kernel
theorem dX2_read_22 : decode cX2_read 22 = .ok (.ireturn, 1) := by decide +kernel
set_option maxRecDepth 20000 in
theorem ggX2_enter_X5_put : GoodIn wsX2_enter wsX5_put := goodIn_r _ [6, 7, 8, 9, 12, 13, 14] (by decide +kernel) (by decide +kernel)
set_option maxRecDepth 20000 in
theorem gX2_enter_X5_put : GoodIn wsX2_enter (wsV RX2 37 RX5 yX5_put wsX5_put) := goodIn_app (goodIn_of _ (by decide +kernel)) ggX2_enter_X5_put
theorem dX2_enter_0 : decode cX2_enter 0 = .ok (.aload_n 0, 1) := by decide +kernel
theorem dX2_enter_1 : decode cX2_enter 1 = .ok (.getfield 14, 3) := by decide +kernel
theorem dX2_enter_4 : decode cX2_enter 4 = .ok (.iload_n 1, 1) := by decide +kernel
theorem dX2_enter_5 : decode cX2_enter 5 = .ok (.iconst 0, 1) := by decide +kernel
theorem dX2_enter_6 : decode cX2_enter 6 = .ok (.iload_n 2, 1) := by decide +kernel
theorem dX2_enter_7 : decode cX2_enter 7 = .ok (.invokevirtual 37, 3) := by decide +kernel
theorem dX2_enter_10 : decode cX2_enter 10 = .ok (.aload_n 0, 1) := by decide +kernel
theorem dX2_enter_11 : decode cX2_enter 11 = .ok (.getfield 14, 3) := by decide +kernel
theorem dX2_enter_14 : decode cX2_enter 14 = .ok (.iload_n 1, 1) := by decide +kernel
theorem dX2_enter_15 : decode cX2_enter 15 = .ok (.iconst 1, 1) := by decide +kernel
theorem dX2_enter_16 : decode cX2_enter 16 = .ok (.iload_n 3, 1) := by decide +kernel
theorem dX2_enter_17 : decode cX2_enter 17 = .ok (.invokevirtual 37, 3) := by decide +kernel
theorem dX2_enter_20 : decode cX2_enter 20 = .ok (.aload_n 0, 1) := by decide +kernel
theorem dX2_enter_21 : decode cX2_enter 21 = .ok (.getfield 14, 3) := by decide +kernel
theorem dX2_enter_24 : decode cX2_enter 24 = .ok (.iload_n 1, 1) := by decide +kernel
theorem dX2_enter_25 : decode cX2_enter 25 = .ok (.iconst 2, 1) := by decide +kernel
theorem dX2_enter_26 : decode cX2_enter 26 = .ok (.iload 4, 2) := by decide +kernel
theorem dX2_enter_28 : decode cX2_enter 28 = .ok (.invokevirtual 37, 3) := by decide +kernel
theorem dX2_enter_31 : decode cX2_enter 31 = .ok (.aload_n 0, 1) := by decide +kernel
theorem dX2_enter_32 : decode cX2_enter 32 = .ok (.getfield 14, 3) := by decide +kernel
theorem dX2_enter_35 : decode cX2_enter 35 = .ok (.iload_n 1, 1) := by decide +kernel
theorem dX2_enter_36 : decode cX2_enter 36 = .ok (.iconst 3, 1) := by decide +kernel
theorem dX2_enter_37 : decode cX2_enter 37 = .ok (.iload 5, 2) := by decide +kernel
theorem dX2_enter_39 : decode cX2_enter 39 = .ok (.invokevirtual 37, 3) := by decide +kernel
theorem dX2_enter_42 : decode cX2_enter 42 = .ok (.aload_n 0, 1) := by decide +kernel
theorem dX2_enter_43 : decode cX2_enter 43 = .ok (.getfield 14, 3) := by decide +kernel
theorem dX2_enter_46 : decode cX2_enter 46 = .ok (.iload_n 1, 1) := by decide +kernel
theorem dX2_enter_47 : decode cX2_enter 47 = .ok (.bipush 6, 2) := by decide +kernel
theorem dX2_enter_49 : decode cX2_enter 49 = .ok (.iconst 1, 1) := by decide +kernel
theorem dX2_enter_50 : decode cX2_enter 50 = .ok (.invokevirtual 37, 3) := by decide +kernel
theorem dX2_enter_53 : decode cX2_enter 53 = .ok (.return_, 1) := by decide +kernel
set_option maxRecDepth 20000 in
theorem ggX2_conclude_X5_put : GoodIn wsX2_conclude wsX5_put := goodIn_r _ [6, 7, 8, 9, 12, 13, 14] (by decide +kernel) (by decide +kernel)
set_option maxRecDepth 20000 in
theorem gX2_conclude_X5_put : GoodIn wsX2_conclude (wsV RX2 37 RX5 yX5_put wsX5_put) := goodIn_app (goodIn_of _ (by decide +kernel)) ggX2_conclude_X5_put
theorem dX2_conclude_0 : decode cX2_conclude 0 = .ok (.aload_n 0, 1) := by decide +kernel
theorem dX2_conclude_1 : decode cX2_conclude 1 = .ok (.getfield 14, 3) := by decide +kernel
theorem dX2_conclude_4 : decode cX2_conclude 4 = .ok (.iload_n 1, 1) := by decide +kernel
theorem dX2_conclude_5 : decode cX2_conclude 5 = .ok (.iconst 4, 1) := by decide +kernel
theorem dX2_conclude_6 : decode cX2_conclude 6 = .ok (.iload_n 2, 1) := by decide +kernel
theorem dX2_conclude_7 : decode cX2_conclude 7 = .ok (.invokevirtual 37, 3) := by decide +kernel
theorem dX2_conclude_10 : decode cX2_conclude 10 = .ok (.aload_n 0, 1) := by decide +kernel
theorem dX2_conclude_11 : decode cX2_conclude 11 = .ok (.getfield 14, 3) := by decide +kernel
theorem dX2_conclude_14 : decode cX2_conclude 14 = .ok (.iload_n 1, 1) := by decide +kernel
theorem dX2_conclude_15 : decode cX2_conclude 15 = .ok (.iconst 5, 1) := by decide +kernel
theorem dX2_conclude_16 : decode cX2_conclude 16 = .ok (.iload_n 3, 1) := by decide +kernel
theorem dX2_conclude_17 : decode cX2_conclude 17 = .ok (.invokevirtual 37, 3) := by decide +kernel
theorem dX2_conclude_20 : decode cX2_conclude 20 = .ok (.return_, 1) := by decide +kernel
theorem dX2_addDouble_0 : decode cX2_addDouble 0 = .ok (.aload_n 0, 1) := by decide +kernel
theorem dX2_addDouble_1 : decode cX2_addDouble 1 = .ok (.dup, 1) := by decide +kernel
theorem dX2_addDouble_2 : decode cX2_addDouble 2 = .ok (.getfield 24, 3) := by decide +kernel
theorem dX2_addDouble_5 : decode cX2_addDouble 5 = .ok (.iconst 1, 1) := by decide +kernel
theorem dX2_addDouble_6 : decode cX2_addDouble 6 = .ok (.iadd, 1) := by decide +kernel
theorem dX2_addDouble_7 : decode cX2_addDouble 7 = .ok (.putfield 24, 3) := by decide +kernel
theorem dX2_addDouble_10 : decode cX2_addDouble 10 = .ok (.return_, 1) := by decide +kernel
theorem dX2_doubles_0 : decode cX2_doubles 0 = .ok (.aload_n 0, 1) := by decide +kernel
theorem dX2_doubles_1 : decode cX2_doubles 1 = .ok (.getfield 24, 3) := by decide +kernel
theorem dX2_doubles_4 : decode cX2_doubles 4 = .ok (.ireturn, 1) := by decide +kernel
set_option maxRecDepth 20000 in
theorem ggX2_withOutcome_X2_hasOutcome : GoodIn wsX2_withOutcome wsX2_hasOutcome := goodIn_r _ [5, 6, 7, 8, 9, 10, 11, 12, 13, 14, 15, 16, 17, 18, 19] (by decide +kernel) (by decide +kernel)
set_option maxRecDepth 20000 in
theorem gX2_withOutcome_X2_hasOutcome : GoodIn wsX2_withOutcome (wsV RX2 41 RX2 yX2_hasOutcome wsX2_hasOutcome) := goodIn_app (goodIn_of _ (by decide +kernel)) ggX2_withOutcome_X2_hasOutcome
theorem dX2_withOutcome_0 : decode cX2_withOutcome 0 = .ok (.iconst 0, 1) := by decide +kernel
theorem dX2_withOutcome_1 : decode cX2_withOutcome 1 = .ok (.istore_n 3, 1) := by decide +kernel
theorem dX2_withOutcome_2 : decode cX2_withOutcome 2 = .ok (.iconst 0, 1) := by decide +kernel
theorem dX2_withOutcome_3 : decode cX2_withOutcome 3 = .ok (.istore 4, 2) := by decide +kernel
theorem dX2_withOutcome_5 : decode cX2_withOutcome 5 = .ok (.iload 4, 2) := by decide +kernel
theorem dX2_withOutcome_7 : decode cX2_withOutcome 7 = .ok (.bipush 63, 2) := by decide +kernel
theorem dX2_withOutcome_9 : decode cX2_withOutcome 9 = .ok (.if_icmp .gt 23, 3) := by decide +kernel
theorem dX2_withOutcome_12 : decode cX2_withOutcome 12 = .ok (.aload_n 0, 1) := by decide +kernel
theorem dX2_withOutcome_13 : decode cX2_withOutcome 13 = .ok (.iload 4, 2) := by decide +kernel
theorem dX2_withOutcome_15 : decode cX2_withOutcome 15 = .ok (.iload_n 1, 1) := by decide +kernel
theorem dX2_withOutcome_16 : decode cX2_withOutcome 16 = .ok (.iload_n 2, 1) := by decide +kernel
theorem dX2_withOutcome_17 : decode cX2_withOutcome 17 = .ok (.invokevirtual 41, 3) := by decide +kernel
theorem dX2_withOutcome_20 : decode cX2_withOutcome 20 = .ok (.ifCond .eq 6, 3) := by decide +kernel
theorem dX2_withOutcome_23 : decode cX2_withOutcome 23 = .ok (.iinc 3 1, 3) := by decide +kernel
theorem dX2_withOutcome_26 : decode cX2_withOutcome 26 = .ok (.iinc 4 1, 3) := by decide +kernel
theorem dX2_withOutcome_29 : decode cX2_withOutcome 29 = .ok (.goto (-24), 3) := by decide +kernel
theorem dX2_withOutcome_32 : decode cX2_withOutcome 32 = .ok (.iload_n 3, 1) := by decide +kernel
theorem dX2_withOutcome_33 : decode cX2_withOutcome 33 = .ok (.ireturn, 1) := by decide +kernel
set_option maxRecDepth 20000 in
theorem ggX2_ofKey_X5_get : GoodIn wsX2_ofKey wsX5_get := goodIn_r _ [6, 7, 8, 9, 17, 18, 19] (by decide +kernel) (by decide +kernel)
set_option maxRecDepth 20000 in
theorem gX2_ofKey_X5_get : GoodIn wsX2_ofKey (wsV RX2 28 RX5 yX5_get wsX5_get) := goodIn_app (goodIn_of _ (by decide +kernel)) ggX2_ofKey_X5_get
set_option maxRecDepth 20000 in
theorem ggX2_ofKey_X2_hasOutcome : GoodIn wsX2_ofKey wsX2_hasOutcome := goodIn_r _ [14, 1, 2, 3, 4, 5, 6, 7, 8, 9, 15, 16, 17, 18, 19] (by decide +kernel) (by decide +kernel)
set_option maxRecDepth 20000 in
theorem gX2_ofKey_X2_hasOutcome : GoodIn wsX2_ofKey (wsV RX2 41 RX2 yX2_hasOutcome wsX2_hasOutcome) := goodIn_app (goodIn_of _ (by decide +kernel)) ggX2_ofKey_X2_hasOutcome
theorem dX2_ofKey_0 : decode cX2_ofKey 0 = .ok (.iconst 0, 1) := by decide +kernel
theorem dX2_ofKey_1 : decode cX2_ofKey 1 = .ok (.istore 4, 2) := by decide +kernel
theorem dX2_ofKey_3 : decode cX2_ofKey 3 = .ok (.iconst 0, 1) := by decide +kernel
theorem dX2_ofKey_4 : decode cX2_ofKey 4 = .ok (.istore 5, 2) := by decide +kernel
theorem dX2_ofKey_6 : decode cX2_ofKey 6 = .ok (.iload 5, 2) := by decide +kernel
theorem dX2_ofKey_8 : decode cX2_ofKey 8 = .ok (.bipush 63, 2) := by decide +kernel
theorem dX2_ofKey_10 : decode cX2_ofKey 10 = .ok (.if_icmp .gt 37, 3) := by decide +kernel
theorem dX2_ofKey_13 : decode cX2_ofKey 13 = .ok (.aload_n 0, 1) := by decide +kernel
theorem dX2_ofKey_14 : decode cX2_ofKey 14 = .ok (.getfield 14, 3) := by decide +kernel
theorem dX2_ofKey_17 : decode cX2_ofKey 17 = .ok (.iload 5, 2) := by decide +kernel
theorem dX2_ofKey_19 : decode cX2_ofKey 19 = .ok (.iconst 1, 1) := by decide +kernel
theorem dX2_ofKey_20 : decode cX2_ofKey 20 = .ok (.invokevirtual 28, 3) := by decide +kernel
theorem dX2_ofKey_23 : decode cX2_ofKey 23 = .ok (.iload_n 1, 1) := by decide +kernel
theorem dX2_ofKey_24 : decode cX2_ofKey 24 = .ok (.if_icmp .ne 17, 3) := by decide +kernel
theorem dX2_ofKey_27 : decode cX2_ofKey 27 = .ok (.aload_n 0, 1) := by decide +kernel
theorem dX2_ofKey_28 : decode cX2_ofKey 28 = .ok (.iload 5, 2) := by decide +kernel
theorem dX2_ofKey_30 : decode cX2_ofKey 30 = .ok (.iload_n 2, 1) := by decide +kernel
theorem dX2_ofKey_31 : decode cX2_ofKey 31 = .ok (.iload_n 3, 1) := by decide +kernel
theorem dX2_ofKey_32 : decode cX2_ofKey 32 = .ok (.invokevirtual 41, 3) := by decide +kernel
theorem dX2_ofKey_35 : decode cX2_ofKey 35 = .ok (.ifCond .eq 6, 3) := by decide +kernel
theorem dX2_ofKey_38 : decode cX2_ofKey 38 = .ok (.iinc 4 1, 3) := by decide +kernel
theorem dX2_ofKey_41 : decode cX2_ofKey 41 = .ok (.iinc 5 1, 3) := by decide +kernel
theorem dX2_ofKey_44 : decode cX2_ofKey 44 = .ok (.goto (-38), 3) := by decide +kernel
theorem dX2_ofKey_47 : decode cX2_ofKey 47 = .ok (.iload 4, 2) := by decide +kernel
theorem dX2_ofKey_49 : decode cX2_ofKey 49 = .ok (.ireturn, 1) := by decide +kernel
set_option maxRecDepth 20000 in
theorem ggX2_hadIllness_X5_get : GoodIn wsX2_hadIllness wsX5_get := goodIn_r _ [6, 7, 8, 9, 17, 18, 19] (by decide +kernel) (by decide +kernel)
set_option maxRecDepth 20000 in
theorem gX2_hadIllness_X5_get : GoodIn wsX2_hadIllness (wsV RX2 28 RX5 yX5_get wsX5_get) := goodIn_app (goodIn_of _ (by decide +kernel)) ggX2_hadIllness_X5_get
set_option maxRecDepth 20000 in
theorem ggX2_hadIllness_X2_hasOutcome : GoodIn wsX2_hadIllness wsX2_hasOutcome := goodIn_r _ [14, 1, 2, 3, 4, 5, 6, 7, 8, 9, 15, 16, 17, 18, 19] (by decide +kernel) (by decide +kernel)
set_option maxRecDepth 20000 in
theorem gX2_hadIllness_X2_hasOutcome : GoodIn wsX2_hadIllness (wsV RX2 41 RX2 yX2_hasOutcome wsX2_hasOutcome) := goodIn_app (goodIn_of _ (by decide +kernel)) ggX2_hadIllness_X2_hasOutcome
theorem dX2_hadIllness_0 : decode cX2_hadIllness 0 = .ok (.iconst 0, 1) := by decide +kernel
theorem dX2_hadIllness_1 : decode cX2_hadIllness 1 = .ok (.istore_n 2, 1) := by decide +kernel
theorem dX2_hadIllness_2 : decode cX2_hadIllness 2 = .ok (.iload_n 2, 1) := by decide +kernel
theorem dX2_hadIllness_3 : decode cX2_hadIllness 3 = .ok (.bipush 63, 2) := by decide +kernel
theorem dX2_hadIllness_5 : decode cX2_hadIllness 5 = .ok (.if_icmp .gt 47, 3) := by decide +kernel
theorem dX2_hadIllness_8 : decode cX2_hadIllness 8 = .ok (.aload_n 0, 1) := by decide +kernel
theorem dX2_hadIllness_9 : decode cX2_hadIllness 9 = .ok (.getfield 14, 3) := by decide +kernel
theorem dX2_hadIllness_12 : decode cX2_hadIllness 12 = .ok (.iload_n 2, 1) := by decide +kernel
theorem dX2_hadIllness_13 : decode cX2_hadIllness 13 = .ok (.iconst 1, 1) := by decide +kernel
theorem dX2_hadIllness_14 : decode cX2_hadIllness 14 = .ok (.invokevirtual 28, 3) := by decide +kernel
theorem dX2_hadIllness_17 : decode cX2_hadIllness 17 = .ok (.iload_n 1, 1) := by decide +kernel
theorem dX2_hadIllness_18 : decode cX2_hadIllness 18 = .ok (.if_icmp .ne 28, 3) := by decide +kernel
theorem dX2_hadIllness_21 : decode cX2_hadIllness 21 = .ok (.aload_n 0, 1) := by decide +kernel
theorem dX2_hadIllness_22 : decode cX2_hadIllness 22 = .ok (.getfield 14, 3) := by decide +kernel
theorem dX2_hadIllness_25 : decode cX2_hadIllness 25 = .ok (.iload_n 2, 1) := by decide +kernel
theorem dX2_hadIllness_26 : decode cX2_hadIllness 26 = .ok (.iconst 3, 1) := by decide +kernel
theorem dX2_hadIllness_27 : decode cX2_hadIllness 27 = .ok (.invokevirtual 28, 3) := by decide +kernel
theorem dX2_hadIllness_30 : decode cX2_hadIllness 30 = .ok (.iconst 2, 1) := by decide +kernel
theorem dX2_hadIllness_31 : decode cX2_hadIllness 31 = .ok (.if_icmp .ne 15, 3) := by decide +kernel
theorem dX2_hadIllness_34 : decode cX2_hadIllness 34 = .ok (.aload_n 0, 1) := by decide +kernel
theorem dX2_hadIllness_35 : decode cX2_hadIllness 35 = .ok (.iload_n 2, 1) := by decide +kernel
theorem dX2_hadIllness_36 : decode cX2_hadIllness 36 = .ok (.iconst 1, 1) := by decide +kernel
theorem dX2_hadIllness_37 : decode cX2_hadIllness 37 = .ok (.iconst 1, 1) := by decide +kernel
theorem dX2_hadIllness_38 : decode cX2_hadIllness 38 = .ok (.invokevirtual 41, 3) := by decide +kernel
theorem dX2_hadIllness_41 : decode cX2_hadIllness 41 = .ok (.ifCond .eq 5, 3) := by decide +kernel
theorem dX2_hadIllness_44 : decode cX2_hadIllness 44 = .ok (.iconst 1, 1) := by decide +kernel
theorem dX2_hadIllness_45 : decode cX2_hadIllness 45 = .ok (.ireturn, 1) := by decide +kernel
theorem dX2_hadIllness_46 : decode cX2_hadIllness 46 = .ok (.iinc 2 1, 3) := by decide +kernel
theorem dX2_hadIllness_49 : decode cX2_hadIllness 49 = .ok (.goto (-47), 3) := by decide +kernel
theorem dX2_hadIllness_52 : decode cX2_hadIllness 52 = .ok (.iconst 0, 1) := by decide +kernel
theorem dX2_hadIllness_53 : decode cX2_hadIllness 53 = .ok (.ireturn, 1) := by decide +kernel
set_option maxRecDepth 20000 in
theorem ggX2_hasOutcome_X5_get : GoodIn wsX2_hasOutcome wsX5_get := goodIn_r _ [6, 7, 8, 9, 12, 13, 14] (by decide +kernel) (by decide +kernel)
set_option maxRecDepth 20000 in
theorem gX2_hasOutcome_X5_get : GoodIn wsX2_hasOutcome (wsV RX2 28 RX5 yX5_get wsX5_get) := goodIn_app (goodIn_of _ (by decide +kernel)) ggX2_hasOutcome_X5_get
theorem dX2_hasOutcome_0 : decode cX2_hasOutcome 0 = .ok (.aload_n 0, 1) := by decide +kernel
theorem dX2_hasOutcome_1 : decode cX2_hasOutcome 1 = .ok (.getfield 14, 3) := by decide +kernel
theorem dX2_hasOutcome_4 : decode cX2_hasOutcome 4 = .ok (.iload_n 1, 1) := by decide +kernel
theorem dX2_hasOutcome_5 : decode cX2_hasOutcome 5 = .ok (.iconst 4, 1) := by decide +kernel
theorem dX2_hasOutcome_6 : decode cX2_hasOutcome 6 = .ok (.invokevirtual 28, 3) := by decide +kernel
theorem dX2_hasOutcome_9 : decode cX2_hasOutcome 9 = .ok (.istore 4, 2) := by decide +kernel
theorem dX2_hasOutcome_11 : decode cX2_hasOutcome 11 = .ok (.aload_n 0, 1) := by decide +kernel
theorem dX2_hasOutcome_12 : decode cX2_hasOutcome 12 = .ok (.getfield 14, 3) := by decide +kernel
theorem dX2_hasOutcome_15 : decode cX2_hasOutcome 15 = .ok (.iload_n 1, 1) := by decide +kernel
theorem dX2_hasOutcome_16 : decode cX2_hasOutcome 16 = .ok (.bipush 6, 2) := by decide +kernel
theorem dX2_hasOutcome_18 : decode cX2_hasOutcome 18 = .ok (.invokevirtual 28, 3) := by decide +kernel
theorem dX2_hasOutcome_21 : decode cX2_hasOutcome 21 = .ok (.iconst 1, 1) := by decide +kernel
theorem dX2_hasOutcome_22 : decode cX2_hasOutcome 22 = .ok (.if_icmp .ne 19, 3) := by decide +kernel
theorem dX2_hasOutcome_25 : decode cX2_hasOutcome 25 = .ok (.iload 4, 2) := by decide +kernel
theorem dX2_hasOutcome_27 : decode cX2_hasOutcome 27 = .ok (.iload_n 2, 1) := by decide +kernel
theorem dX2_hasOutcome_28 : decode cX2_hasOutcome 28 = .ok (.if_icmp .lt 13, 3) := by decide +kernel
theorem dX2_hasOutcome_31 : decode cX2_hasOutcome 31 = .ok (.iload 4, 2) := by decide +kernel
theorem dX2_hasOutcome_33 : decode cX2_hasOutcome 33 = .ok (.iload_n 3, 1) := by decide +kernel
theorem dX2_hasOutcome_34 : decode cX2_hasOutcome 34 = .ok (.if_icmp .gt 7, 3) := by decide +kernel
theorem dX2_hasOutcome_37 : decode cX2_hasOutcome 37 = .ok (.iconst 1, 1) := by decide +kernel
theorem dX2_hasOutcome_38 : decode cX2_hasOutcome 38 = .ok (.goto 4, 3) := by decide +kernel
theorem dX2_hasOutcome_41 : decode cX2_hasOutcome 41 = .ok (.iconst 0, 1) := by decide +kernel
theorem dX2_hasOutcome_42 : decode cX2_hasOutcome 42 = .ok (.ireturn, 1) := by decide +kernel
theorem dX3_init_0 : decode cX3_init 0 = .ok (.aload_n 0, 1) := by decide +kernel
theorem dX3_init_1 : decode cX3_init 1 = .ok (.invokespecial 1, 3) := by decide +kernel
theorem dX3_init_4 : decode cX3_init 4 = .ok (.aload_n 0, 1) := by decide +kernel
theorem dX3_init_5 : decode cX3_init 5 = .ok (.iconst 4, 1) := by decide +kernel
theorem dX3_init_6 : decode cX3_init 6 = .ok (.anewarray 9, 3) := by decide +kernel
theorem dX3_init_9 : decode cX3_init 9 = .ok (.putfield 11, 3) := by decide +kernel
theorem dX3_init_12 : decode cX3_init 12 = .ok (.return_, 1) := by decide +kernel
theorem dX3_states_0 : decode cX3_states 0 = .ok (.aload_n 0, 1) := by decide +kernel
theorem dX3_states_1 : decode cX3_states 1 = .ok (.getfield 15, 3) := by decide +kernel
theorem dX3_states_4 : decode cX3_states 4 = .ok (.ireturn, 1) := by decide +kernel
set_option maxRecDepth 20000 in
theorem ggX3_keep_X1_init : GoodIn wsX3_keep wsX1_init := goodIn_r _ [8, 9, 10, 11, 12, 13, 14, 15, 16, 17, 18, 19, 20, 21, 22, 23, 24, 25, 26, 27, 28, 29, 30, 31, 32, 33, 34, 35, 36, 37, 38, 39, 40, 41, 42, 43, 44, 45, 46, 47, 48, 49, 50, 51, 52, 53, 54, 55, 56, 57, 58, 59, 60, 61, 62, 63, 64, 65, 66, 67, 68, 69, 119, 120, 110, 111, 112, 113, 114, 115, 116, 117, 118, 121, 122, 123, 124, 125, 126, 127, 128, 129, 130, 131] (by decide +kernel) (by decide +kernel)
set_option maxRecDepth 20000 in
theorem gX3_keep_X1_init_n22 : GoodIn wsX3_keep (wsX1_init) := ggX3_keep_X1_init
set_option maxRecDepth 20000 in
theorem ggX3_keep_X1_copyFrom : GoodIn wsX3_keep wsX1_copyFrom := goodIn_r _ [73, 15, 19, 23, 24, 25, 26, 27, 28, 74, 75, 76, 77, 14, 78, 35, 79, 80, 81, 82, 34, 83, 47, 84, 85, 86, 87, 88, 89, 90, 18, 91, 52, 56, 92, 93, 94, 95, 96, 55, 97, 62, 98, 99, 100, 101, 102, 103, 104, 22, 105, 68, 106, 110, 111, 112, 113, 114, 115, 116, 117, 118, 119, 120, 125, 126, 127, 121, 122, 123, 128, 129, 130, 131, 124] (by decide +kernel) (by decide +kernel)
set_option maxRecDepth 20000 in
theorem gX3_keep_X1_copyFrom : GoodIn wsX3_keep (wsV RX3 23 RX1 yX1_copyFrom wsX1_copyFrom) := goodIn_app (goodIn_of _ (by decide +kernel)) ggX3_keep_X1_copyFrom
theorem dX3_keep_0 : decode cX3_keep 0 = .ok (.aload_n 0, 1) := by decide +kernel
theorem dX3_keep_1 : decode cX3_keep 1 = .ok (.getfield 15, 3) := by decide +kernel
theorem dX3_keep_4 : decode cX3_keep 4 = .ok (.iconst 4, 1) := by decide +kernel
theorem dX3_keep_5 : decode cX3_keep 5 = .ok (.if_icmp .ne 25, 3) := by decide +kernel
theorem dX3_keep_8 : decode cX3_keep 8 = .ok (.aload_n 0, 1) := by decide +kernel
theorem dX3_keep_9 : decode cX3_keep 9 = .ok (.aload_n 0, 1) := by decide +kernel
theorem dX3_keep_10 : decode cX3_keep 10 = .ok (.getfield 19, 3) := by decide +kernel
theorem dX3_keep_13 : decode cX3_keep 13 = .ok (.iconst 1, 1) := by decide +kernel
theorem dX3_keep_14 : decode cX3_keep 14 = .ok (.iadd, 1) := by decide +kernel
theorem dX3_keep_15 : decode cX3_keep 15 = .ok (.iconst 4, 1) := by decide +kernel
theorem dX3_keep_16 : decode cX3_keep 16 = .ok (.irem, 1) := by decide +kernel
theorem dX3_keep_17 : decode cX3_keep 17 = .ok (.putfield 19, 3) := by decide +kernel
theorem dX3_keep_20 : decode cX3_keep 20 = .ok (.aload_n 0, 1) := by decide +kernel
theorem dX3_keep_21 : decode cX3_keep 21 = .ok (.dup, 1) := by decide +kernel
theorem dX3_keep_22 : decode cX3_keep 22 = .ok (.getfield 15, 3) := by decide +kernel
theorem dX3_keep_25 : decode cX3_keep 25 = .ok (.iconst 1, 1) := by decide +kernel
theorem dX3_keep_26 : decode cX3_keep 26 = .ok (.isub, 1) := by decide +kernel
theorem dX3_keep_27 : decode cX3_keep 27 = .ok (.putfield 15, 3) := by decide +kernel
theorem dX3_keep_30 : decode cX3_keep 30 = .ok (.aload_n 0, 1) := by decide +kernel
theorem dX3_keep_31 : decode cX3_keep 31 = .ok (.getfield 19, 3) := by decide +kernel
theorem dX3_keep_34 : decode cX3_keep 34 = .ok (.aload_n 0, 1) := by decide +kernel
theorem dX3_keep_35 : decode cX3_keep 35 = .ok (.getfield 15, 3) := by decide +kernel
theorem dX3_keep_38 : decode cX3_keep 38 = .ok (.iadd, 1) := by decide +kernel
theorem dX3_keep_39 : decode cX3_keep 39 = .ok (.iconst 4, 1) := by decide +kernel
theorem dX3_keep_40 : decode cX3_keep 40 = .ok (.irem, 1) := by decide +kernel
theorem dX3_keep_41 : decode cX3_keep 41 = .ok (.istore_n 2, 1) := by decide +kernel
theorem dX3_keep_42 : decode cX3_keep 42 = .ok (.iload_n 2, 1) := by decide +kernel
theorem dX3_keep_43 : decode cX3_keep 43 = .ok (.ifCond .lt 53, 3) := by decide +kernel
theorem dX3_keep_46 : decode cX3_keep 46 = .ok (.iload_n 2, 1) := by decide +kernel
theorem dX3_keep_47 : decode cX3_keep 47 = .ok (.aload_n 0, 1) := by decide +kernel
theorem dX3_keep_48 : decode cX3_keep 48 = .ok (.getfield 11, 3) := by decide +kernel
theorem dX3_keep_51 : decode cX3_keep 51 = .ok (.arraylength, 1) := by decide +kernel
theorem dX3_keep_52 : decode cX3_keep 52 = .ok (.if_icmp .ge 44, 3) := by decide +kernel
theorem dX3_keep_55 : decode cX3_keep 55 = .ok (.aload_n 0, 1) := by decide +kernel
theorem dX3_keep_56 : decode cX3_keep 56 = .ok (.getfield 11, 3) := by decide +kernel
theorem dX3_keep_59 : decode cX3_keep 59 = .ok (.iload_n 2, 1) := by decide +kernel
theorem dX3_keep_60 : decode cX3_keep 60 = .ok (.aaload, 1) := by decide +kernel
theorem dX3_keep_61 : decode cX3_keep 61 = .ok (.astore_n 3, 1) := by decide +kernel
theorem dX3_keep_62 : decode cX3_keep 62 = .ok (.aload_n 3, 1) := by decide +kernel
theorem dX3_keep_63 : decode cX3_keep 63 = .ok (.ifnonnull 18, 3) := by decide +kernel
theorem dX3_keep_66 : decode cX3_keep 66 = .ok (.new 9, 3) := by decide +kernel
theorem dX3_keep_69 : decode cX3_keep 69 = .ok (.dup, 1) := by decide +kernel
theorem dX3_keep_70 : decode cX3_keep 70 = .ok (.invokespecial 22, 3) := by decide +kernel
theorem dX3_keep_73 : decode cX3_keep 73 = .ok (.astore_n 3, 1) := by decide +kernel
theorem dX3_keep_74 : decode cX3_keep 74 = .ok (.aload_n 0, 1) := by decide +kernel
theorem dX3_keep_75 : decode cX3_keep 75 = .ok (.getfield 11, 3) := by decide +kernel
theorem dX3_keep_78 : decode cX3_keep 78 = .ok (.iload_n 2, 1) := by decide +kernel
theorem dX3_keep_79 : decode cX3_keep 79 = .ok (.aload_n 3, 1) := by decide +kernel
theorem dX3_keep_80 : decode cX3_keep 80 = .ok (.aastore, 1) := by decide +kernel
theorem dX3_keep_81 : decode cX3_keep 81 = .ok (.aload_n 3, 1) := by decide +kernel
theorem dX3_keep_82 : decode cX3_keep 82 = .ok (.aload_n 1, 1) := by decide +kernel
theorem dX3_keep_83 : decode cX3_keep 83 = .ok (.invokevirtual 23, 3) := by decide +kernel
theorem dX3_keep_86 : decode cX3_keep 86 = .ok (.aload_n 0, 1) := by decide +kernel
theorem dX3_keep_87 : decode cX3_keep 87 = .ok (.dup, 1) := by decide +kernel
theorem dX3_keep_88 : decode cX3_keep 88 = .ok (.getfield 15, 3) := by decide +kernel
theorem dX3_keep_91 : decode cX3_keep 91 = .ok (.iconst 1, 1) := by decide +kernel
theorem dX3_keep_92 : decode cX3_keep 92 = .ok (.iadd, 1) := by decide +kernel
theorem dX3_keep_93 : decode cX3_keep 93 = .ok (.putfield 15, 3) := by decide +kernel
theorem dX3_keep_96 : decode cX3_keep 96 = .ok (.return_, 1) := by decide +kernel
set_option maxRecDepth 20000 in
theorem ggX3_restore_X1_copyFrom : GoodIn wsX3_restore wsX1_copyFrom := goodIn_r _ [8, 9, 10, 11, 12, 13, 14, 15, 16, 17, 18, 19, 20, 21, 22, 23, 24, 25, 26, 27, 28, 29, 30, 31, 32, 33, 34, 35, 36, 37, 38, 39, 40, 41, 42, 43, 44, 45, 46, 47, 48, 49, 50, 51, 52, 53, 54, 55, 56, 57, 58, 59, 60, 64, 65, 66, 67, 68, 69, 70, 71, 72, 73, 74, 75, 76, 77, 78, 79, 80, 81, 82, 83, 84, 85] (by decide +kernel) (by decide +kernel)
set_option maxRecDepth 20000 in
theorem gX3_restore_X1_copyFrom : GoodIn wsX3_restore (wsV RX3 23 RX1 yX1_copyFrom wsX1_copyFrom) := goodIn_app (goodIn_of _ (by decide +kernel)) ggX3_restore_X1_copyFrom
theorem dX3_restore_0 : decode cX3_restore 0 = .ok (.aload_n 0, 1) := by decide +kernel
theorem dX3_restore_1 : decode cX3_restore 1 = .ok (.getfield 19, 3) := by decide +kernel
theorem dX3_restore_4 : decode cX3_restore 4 = .ok (.aload_n 0, 1) := by decide +kernel
theorem dX3_restore_5 : decode cX3_restore 5 = .ok (.getfield 15, 3) := by decide +kernel
theorem dX3_restore_8 : decode cX3_restore 8 = .ok (.iadd, 1) := by decide +kernel
theorem dX3_restore_9 : decode cX3_restore 9 = .ok (.iconst 1, 1) := by decide +kernel
theorem dX3_restore_10 : decode cX3_restore 10 = .ok (.isub, 1) := by decide +kernel
theorem dX3_restore_11 : decode cX3_restore 11 = .ok (.iconst 4, 1) := by decide +kernel
theorem dX3_restore_12 : decode cX3_restore 12 = .ok (.irem, 1) := by decide +kernel
theorem dX3_restore_13 : decode cX3_restore 13 = .ok (.istore_n 2, 1) := by decide +kernel
theorem dX3_restore_14 : decode cX3_restore 14 = .ok (.aload_n 0, 1) := by decide +kernel
theorem dX3_restore_15 : decode cX3_restore 15 = .ok (.getfield 15, 3) := by decide +kernel
theorem dX3_restore_18 : decode cX3_restore 18 = .ok (.ifCond .le 42, 3) := by decide +kernel
theorem dX3_restore_21 : decode cX3_restore 21 = .ok (.iload_n 2, 1) := by decide +kernel
theorem dX3_restore_22 : decode cX3_restore 22 = .ok (.ifCond .lt 38, 3) := by decide +kernel
theorem dX3_restore_25 : decode cX3_restore 25 = .ok (.iload_n 2, 1) := by decide +kernel
theorem dX3_restore_26 : decode cX3_restore 26 = .ok (.aload_n 0, 1) := by decide +kernel
theorem dX3_restore_27 : decode cX3_restore 27 = .ok (.getfield 11, 3) := by decide +kernel
theorem dX3_restore_30 : decode cX3_restore 30 = .ok (.arraylength, 1) := by decide +kernel
theorem dX3_restore_31 : decode cX3_restore 31 = .ok (.if_icmp .ge 29, 3) := by decide +kernel
theorem dX3_restore_34 : decode cX3_restore 34 = .ok (.aload_n 0, 1) := by decide +kernel
theorem dX3_restore_35 : decode cX3_restore 35 = .ok (.getfield 11, 3) := by decide +kernel
theorem dX3_restore_38 : decode cX3_restore 38 = .ok (.iload_n 2, 1) := by decide +kernel
theorem dX3_restore_39 : decode cX3_restore 39 = .ok (.aaload, 1) := by decide +kernel
theorem dX3_restore_40 : decode cX3_restore 40 = .ok (.astore_n 3, 1) := by decide +kernel
theorem dX3_restore_41 : decode cX3_restore 41 = .ok (.aload_n 3, 1) := by decide +kernel
theorem dX3_restore_42 : decode cX3_restore 42 = .ok (.ifnull 8, 3) := by decide +kernel
theorem dX3_restore_45 : decode cX3_restore 45 = .ok (.aload_n 1, 1) := by decide +kernel
theorem dX3_restore_46 : decode cX3_restore 46 = .ok (.aload_n 3, 1) := by decide +kernel
theorem dX3_restore_47 : decode cX3_restore 47 = .ok (.invokevirtual 23, 3) := by decide +kernel
theorem dX3_restore_50 : decode cX3_restore 50 = .ok (.aload_n 0, 1) := by decide +kernel
theorem dX3_restore_51 : decode cX3_restore 51 = .ok (.dup, 1) := by decide +kernel
theorem dX3_restore_52 : decode cX3_restore 52 = .ok (.getfield 15, 3) := by decide +kernel
theorem dX3_restore_55 : decode cX3_restore 55 = .ok (.iconst 1, 1) := by decide +kernel
theorem dX3_restore_56 : decode cX3_restore 56 = .ok (.isub, 1) := by decide +kernel
theorem dX3_restore_57 : decode cX3_restore 57 = .ok (.putfield 15, 3) := by decide +kernel
theorem dX3_restore_60 : decode cX3_restore 60 = .ok (.return_, 1) := by decide +kernel
set_option maxRecDepth 20000 in
theorem ggX4_init_X5_init : GoodIn wsX4_init wsX5_init := goodIn_r _ [14, 15, 2, 3, 16, 17, 18, 19, 20, 21, 22, 23, 30, 31, 32] (by decide +kernel) (by decide +kernel)
set_option maxRecDepth 20000 in
theorem gX4_init_X5_init : GoodIn wsX4_init (wsX5_init) := ggX4_init_X5_init
set_option maxRecDepth 20000 in
theorem ggX4_init_X7_init : GoodIn wsX4_init wsX7_init := goodIn_r _ [25, 26, 2, 3, 27, 5, 6, 28, 29, 13, 14, 15, 16, 17, 18, 19, 20, 21, 22, 23, 30, 31, 32, 36, 37, 38, 39] (by decide +kernel) (by decide +kernel)
set_option maxRecDepth 20000 in
theorem gX4_init_X7_init_n22 : GoodIn wsX4_init (wsX7_init) := ggX4_init_X7_init
theorem dX4_init_0 : decode cX4_init 0 = .ok (.aload_n 0, 1) := by decide +kernel
theorem dX4_init_1 : decode cX4_init 1 = .ok (.invokespecial 3, 3) := by decide +kernel
theorem dX4_init_4 : decode cX4_init 4 = .ok (.aload_n 0, 1) := by decide +kernel
theorem dX4_init_5 : decode cX4_init 5 = .ok (.new 9, 3) := by decide +kernel
theorem dX4_init_8 : decode cX4_init 8 = .ok (.dup, 1) := by decide +kernel
theorem dX4_init_9 : decode cX4_init 9 = .ok (.bipush 64, 2) := by decide +kernel
theorem dX4_init_11 : decode cX4_init 11 = .ok (.bipush 8, 2) := by decide +kernel
theorem dX4_init_13 : decode cX4_init 13 = .ok (.invokespecial 13, 3) := by decide +kernel
theorem dX4_init_16 : decode cX4_init 16 = .ok (.putfield 16, 3) := by decide +kernel
theorem dX4_init_19 : decode cX4_init 19 = .ok (.aload_n 0, 1) := by decide +kernel
theorem dX4_init_20 : decode cX4_init 20 = .ok (.new 20, 3) := by decide +kernel
theorem dX4_init_23 : decode cX4_init 23 = .ok (.dup, 1) := by decide +kernel
theorem dX4_init_24 : decode cX4_init 24 = .ok (.invokespecial 22, 3) := by decide +kernel
theorem dX4_init_27 : decode cX4_init 27 = .ok (.putfield 23, 3) := by decide +kernel
theorem dX4_init_30 : decode cX4_init 30 = .ok (.return_, 1) := by decide +kernel
theorem dX4_words_0 : decode cX4_words 0 = .ok (.aload_n 0, 1) := by decide +kernel
theorem dX4_words_1 : decode cX4_words 1 = .ok (.getfield 23, 3) := by decide +kernel
theorem dX4_words_4 : decode cX4_words 4 = .ok (.areturn, 1) := by decide +kernel
set_option maxRecDepth 20000 in
theorem ggX4_copyFrom_X5_copyFrom : GoodIn wsX4_copyFrom wsX5_copyFrom := goodIn_r _ [8, 9, 10, 11, 12, 13, 27, 28, 29] (by decide +kernel) (by decide +kernel)
set_option maxRecDepth 20000 in
theorem gX4_copyFrom_X5_copyFrom : GoodIn wsX4_copyFrom (wsV RX4 27 RX5 yX5_copyFrom wsX5_copyFrom) := goodIn_app (goodIn_of _ (by decide +kernel)) ggX4_copyFrom_X5_copyFrom
set_option maxRecDepth 20000 in
theorem ggX4_copyFrom_X7_copyFrom : GoodIn wsX4_copyFrom wsX7_copyFrom := goodIn_r _ [18, 19, 20, 21, 22, 23, 5, 6, 7, 8, 9, 10, 11, 12, 13, 30, 31, 32, 33, 27, 28, 29] (by decide +kernel) (by decide +kernel)
set_option maxRecDepth 20000 in
theorem gX4_copyFrom_X7_copyFrom : GoodIn wsX4_copyFrom (wsV RX4 31 RX7 yX7_copyFrom wsX7_copyFrom) := goodIn_app (goodIn_of _ (by decide +kernel)) ggX4_copyFrom_X7_copyFrom
theorem dX4_copyFrom_0 : decode cX4_copyFrom 0 = .ok (.aload_n 0, 1) := by decide +kernel
theorem dX4_copyFrom_1 : decode cX4_copyFrom 1 = .ok (.getfield 16, 3) := by decide +kernel
theorem dX4_copyFrom_4 : decode cX4_copyFrom 4 = .ok (.aload_n 1, 1) := by decide +kernel
theorem dX4_copyFrom_5 : decode cX4_copyFrom 5 = .ok (.getfield 16, 3) := by decide +kernel
theorem dX4_copyFrom_8 : decode cX4_copyFrom 8 = .ok (.invokevirtual 27, 3) := by decide +kernel
theorem dX4_copyFrom_11 : decode cX4_copyFrom 11 = .ok (.aload_n 0, 1) := by decide +kernel
theorem dX4_copyFrom_12 : decode cX4_copyFrom 12 = .ok (.getfield 23, 3) := by decide +kernel
theorem dX4_copyFrom_15 : decode cX4_copyFrom 15 = .ok (.aload_n 1, 1) := by decide +kernel
theorem dX4_copyFrom_16 : decode cX4_copyFrom 16 = .ok (.getfield 23, 3) := by decide +kernel
theorem dX4_copyFrom_19 : decode cX4_copyFrom 19 = .ok (.invokevirtual 31, 3) := by decide +kernel
theorem dX4_copyFrom_22 : decode cX4_copyFrom 22 = .ok (.aload_n 0, 1) := by decide +kernel
theorem dX4_copyFrom_23 : decode cX4_copyFrom 23 = .ok (.aload_n 1, 1) := by decide +kernel
theorem dX4_copyFrom_24 : decode cX4_copyFrom 24 = .ok (.getfield 34, 3) := by decide +kernel
theorem dX4_copyFrom_27 : decode cX4_copyFrom 27 = .ok (.putfield 34, 3) := by decide +kernel
theorem dX4_copyFrom_30 : decode cX4_copyFrom 30 = .ok (.return_, 1) := by decide +kernel
set_option maxRecDepth 20000 in
theorem ggX4_rowOf_X5_get : GoodIn wsX4_rowOf wsX5_get := goodIn_r _ [7, 8, 9, 10, 14, 15, 16] (by decide +kernel) (by decide +kernel)
set_option maxRecDepth 20000 in
theorem gX4_rowOf_X5_get : GoodIn wsX4_rowOf (wsV RX4 38 RX5 yX5_get wsX5_get) := goodIn_app (goodIn_of _ (by decide +kernel)) ggX4_rowOf_X5_get
theorem dX4_rowOf_0 : decode cX4_rowOf 0 = .ok (.iconst 0, 1) := by decide +kernel
theorem dX4_rowOf_1 : decode cX4_rowOf 1 = .ok (.istore_n 2, 1) := by decide +kernel
theorem dX4_rowOf_2 : decode cX4_rowOf 2 = .ok (.iload_n 2, 1) := by decide +kernel
theorem dX4_rowOf_3 : decode cX4_rowOf 3 = .ok (.aload_n 0, 1) := by decide +kernel
theorem dX4_rowOf_4 : decode cX4_rowOf 4 = .ok (.getfield 34, 3) := by decide +kernel
theorem dX4_rowOf_7 : decode cX4_rowOf 7 = .ok (.if_icmp .ge 25, 3) := by decide +kernel
theorem dX4_rowOf_10 : decode cX4_rowOf 10 = .ok (.aload_n 0, 1) := by decide +kernel
theorem dX4_rowOf_11 : decode cX4_rowOf 11 = .ok (.getfield 16, 3) := by decide +kernel
theorem dX4_rowOf_14 : decode cX4_rowOf 14 = .ok (.iload_n 2, 1) := by decide +kernel
theorem dX4_rowOf_15 : decode cX4_rowOf 15 = .ok (.bipush 7, 2) := by decide +kernel
theorem dX4_rowOf_17 : decode cX4_rowOf 17 = .ok (.invokevirtual 38, 3) := by decide +kernel
theorem dX4_rowOf_20 : decode cX4_rowOf 20 = .ok (.iload_n 1, 1) := by decide +kernel
theorem dX4_rowOf_21 : decode cX4_rowOf 21 = .ok (.if_icmp .ne 5, 3) := by decide +kernel
theorem dX4_rowOf_24 : decode cX4_rowOf 24 = .ok (.iload_n 2, 1) := by decide +kernel
theorem dX4_rowOf_25 : decode cX4_rowOf 25 = .ok (.ireturn, 1) := by decide +kernel
theorem dX4_rowOf_26 : decode cX4_rowOf 26 = .ok (.iinc 2 1, 3) := by decide +kernel
theorem dX4_rowOf_29 : decode cX4_rowOf 29 = .ok (.goto (-27), 3) := by decide +kernel
theorem dX4_rowOf_32 : decode cX4_rowOf 32 = .ok (.iconst (-1), 1) := by decide +kernel
theorem dX4_rowOf_33 : decode cX4_rowOf 33 = .ok (.ireturn, 1) := by decide +kernel
set_option maxRecDepth 20000 in
theorem ggX4_rowBehind_X5_get : GoodIn wsX4_rowBehind wsX5_get := goodIn_r _ [7, 8, 9, 10, 14, 15, 16] (by decide +kernel) (by decide +kernel)
set_option maxRecDepth 20000 in
theorem gX4_rowBehind_X5_get : GoodIn wsX4_rowBehind (wsV RX4 38 RX5 yX5_get wsX5_get) := goodIn_app (goodIn_of _ (by decide +kernel)) ggX4_rowBehind_X5_get
theorem dX4_rowBehind_0 : decode cX4_rowBehind 0 = .ok (.iconst 0, 1) := by decide +kernel
theorem dX4_rowBehind_1 : decode cX4_rowBehind 1 = .ok (.istore_n 2, 1) := by decide +kernel
theorem dX4_rowBehind_2 : decode cX4_rowBehind 2 = .ok (.iload_n 2, 1) := by decide +kernel
theorem dX4_rowBehind_3 : decode cX4_rowBehind 3 = .ok (.aload_n 0, 1) := by decide +kernel
theorem dX4_rowBehind_4 : decode cX4_rowBehind 4 = .ok (.getfield 34, 3) := by decide +kernel
theorem dX4_rowBehind_7 : decode cX4_rowBehind 7 = .ok (.if_icmp .ge 23, 3) := by decide +kernel
theorem dX4_rowBehind_10 : decode cX4_rowBehind 10 = .ok (.aload_n 0, 1) := by decide +kernel
theorem dX4_rowBehind_11 : decode cX4_rowBehind 11 = .ok (.getfield 16, 3) := by decide +kernel
theorem dX4_rowBehind_14 : decode cX4_rowBehind 14 = .ok (.iload_n 2, 1) := by decide +kernel
theorem dX4_rowBehind_15 : decode cX4_rowBehind 15 = .ok (.bipush 7, 2) := by decide +kernel
theorem dX4_rowBehind_17 : decode cX4_rowBehind 17 = .ok (.invokevirtual 38, 3) := by decide +kernel
theorem dX4_rowBehind_20 : decode cX4_rowBehind 20 = .ok (.iload_n 1, 1) := by decide +kernel
theorem dX4_rowBehind_21 : decode cX4_rowBehind 21 = .ok (.if_icmp .gt 9, 3) := by decide +kernel
theorem dX4_rowBehind_24 : decode cX4_rowBehind 24 = .ok (.iinc 2 1, 3) := by decide +kernel
theorem dX4_rowBehind_27 : decode cX4_rowBehind 27 = .ok (.goto (-25), 3) := by decide +kernel
theorem dX4_rowBehind_30 : decode cX4_rowBehind 30 = .ok (.iload_n 2, 1) := by decide +kernel
theorem dX4_rowBehind_31 : decode cX4_rowBehind 31 = .ok (.ireturn, 1) := by decide +kernel
set_option maxRecDepth 20000 in
theorem ggX4_rowMadeFor_X4_rowOf : GoodIn wsX4_rowMadeFor wsX4_rowOf := goodIn_r _ [7, 1, 2, 8, 9, 10, 11, 12, 13, 14, 15, 33, 34, 35, 36, 37, 38] (by decide +kernel) (by decide +kernel)
set_option maxRecDepth 20000 in
theorem gX4_rowMadeFor_X4_rowOf : GoodIn wsX4_rowMadeFor (wsV RX4 42 RX4 yX4_rowOf wsX4_rowOf) := goodIn_app (goodIn_of _ (by decide +kernel)) ggX4_rowMadeFor_X4_rowOf
set_option maxRecDepth 20000 in
theorem ggX4_rowMadeFor_X4_rowBehind : GoodIn wsX4_rowMadeFor wsX4_rowBehind := goodIn_r _ [19, 1, 2, 8, 9, 10, 11, 12, 13, 14, 15, 33, 34, 35, 36, 37, 38] (by decide +kernel) (by decide +kernel)
set_option maxRecDepth 20000 in
theorem gX4_rowMadeFor_X4_rowBehind : GoodIn wsX4_rowMadeFor (wsV RX4 46 RX4 yX4_rowBehind wsX4_rowBehind) := goodIn_app (goodIn_of _ (by decide +kernel)) ggX4_rowMadeFor_X4_rowBehind
set_option maxRecDepth 20000 in
theorem ggX4_rowMadeFor_X5_openRow : GoodIn wsX4_rowMadeFor wsX5_openRow := goodIn_r _ [23, 13, 14, 15, 24, 25, 26, 27, 28, 29, 30, 11, 31, 36, 37, 38] (by decide +kernel) (by decide +kernel)
set_option maxRecDepth 20000 in
theorem gX4_rowMadeFor_X5_openRow : GoodIn wsX4_rowMadeFor (wsV RX4 49 RX5 yX5_openRow wsX5_openRow) := goodIn_app (goodIn_of _ (by decide +kernel)) ggX4_rowMadeFor_X5_openRow
set_option maxRecDepth 20000 in
theorem ggX4_rowMadeFor_X5_put : GoodIn wsX4_rowMadeFor wsX5_put := goodIn_r _ [31, 13, 14, 15, 36, 37, 38] (by decide +kernel) (by decide +kernel)
set_option maxRecDepth 20000 in
theorem gX4_rowMadeFor_X5_put : GoodIn wsX4_rowMadeFor (wsV RX4 53 RX5 yX5_put wsX5_put) := goodIn_app (goodIn_of _ (by decide +kernel)) ggX4_rowMadeFor_X5_put
theorem dX4_rowMadeFor_0 : decode cX4_rowMadeFor 0 = .ok (.aload_n 0, 1) := by decide +kernel
theorem dX4_rowMadeFor_1 : decode cX4_rowMadeFor 1 = .ok (.iload_n 1, 1) := by decide +kernel
theorem dX4_rowMadeFor_2 : decode cX4_rowMadeFor 2 = .ok (.invokevirtual 42, 3) := by decide +kernel
theorem dX4_rowMadeFor_5 : decode cX4_rowMadeFor 5 = .ok (.istore_n 2, 1) := by decide +kernel
theorem dX4_rowMadeFor_6 : decode cX4_rowMadeFor 6 = .ok (.iload_n 2, 1) := by decide +kernel
theorem dX4_rowMadeFor_7 : decode cX4_rowMadeFor 7 = .ok (.ifCond .ge 47, 3) := by decide +kernel
theorem dX4_rowMadeFor_10 : decode cX4_rowMadeFor 10 = .ok (.aload_n 0, 1) := by decide +kernel
theorem dX4_rowMadeFor_11 : decode cX4_rowMadeFor 11 = .ok (.getfield 34, 3) := by decide +kernel
theorem dX4_rowMadeFor_14 : decode cX4_rowMadeFor 14 = .ok (.bipush 64, 2) := by decide +kernel
theorem dX4_rowMadeFor_16 : decode cX4_rowMadeFor 16 = .ok (.if_icmp .ge 38, 3) := by decide +kernel
theorem dX4_rowMadeFor_19 : decode cX4_rowMadeFor 19 = .ok (.aload_n 0, 1) := by decide +kernel
theorem dX4_rowMadeFor_20 : decode cX4_rowMadeFor 20 = .ok (.iload_n 1, 1) := by decide +kernel
theorem dX4_rowMadeFor_21 : decode cX4_rowMadeFor 21 = .ok (.invokevirtual 46, 3) := by decide +kernel
theorem dX4_rowMadeFor_24 : decode cX4_rowMadeFor 24 = .ok (.istore_n 2, 1) := by decide +kernel
theorem dX4_rowMadeFor_25 : decode cX4_rowMadeFor 25 = .ok (.aload_n 0, 1) := by decide +kernel
theorem dX4_rowMadeFor_26 : decode cX4_rowMadeFor 26 = .ok (.getfield 16, 3) := by decide +kernel
theorem dX4_rowMadeFor_29 : decode cX4_rowMadeFor 29 = .ok (.iload_n 2, 1) := by decide +kernel
theorem dX4_rowMadeFor_30 : decode cX4_rowMadeFor 30 = .ok (.invokevirtual 49, 3) := by decide +kernel
theorem dX4_rowMadeFor_33 : decode cX4_rowMadeFor 33 = .ok (.aload_n 0, 1) := by decide +kernel
theorem dX4_rowMadeFor_34 : decode cX4_rowMadeFor 34 = .ok (.getfield 16, 3) := by decide +kernel
theorem dX4_rowMadeFor_37 : decode cX4_rowMadeFor 37 = .ok (.iload_n 2, 1) := by decide +kernel
theorem dX4_rowMadeFor_38 : decode cX4_rowMadeFor 38 = .ok (.bipush 7, 2) := by decide +kernel
theorem dX4_rowMadeFor_40 : decode cX4_rowMadeFor 40 = .ok (.iload_n 1, 1) := by decide +kernel
theorem dX4_rowMadeFor_41 : decode cX4_rowMadeFor 41 = .ok (.invokevirtual 53, 3) := by decide +kernel
theorem dX4_rowMadeFor_44 : decode cX4_rowMadeFor 44 = .ok (.aload_n 0, 1) := by decide +kernel
theorem dX4_rowMadeFor_45 : decode cX4_rowMadeFor 45 = .ok (.dup, 1) := by decide +kernel
theorem dX4_rowMadeFor_46 : decode cX4_rowMadeFor 46 = .ok (.getfield 34, 3) := by decide +kernel
theorem dX4_rowMadeFor_49 : decode cX4_rowMadeFor 49 = .ok (.iconst 1, 1) := by decide +kernel
theorem dX4_rowMadeFor_50 : decode cX4_rowMadeFor 50 = .ok (.iadd, 1) := by decide +kernel
theorem dX4_rowMadeFor_51 : decode cX4_rowMadeFor 51 = .ok (.putfield 34, 3) := by decide +kernel
theorem dX4_rowMadeFor_54 : decode cX4_rowMadeFor 54 = .ok (.iload_n 2, 1) := by decide +kernel
theorem dX4_rowMadeFor_55 : decode cX4_rowMadeFor 55 = .ok (.ireturn, 1) := by decide +kernel
set_option maxRecDepth 20000 in
theorem ggX4_read_X4_rowOf : GoodIn wsX4_read wsX4_rowOf := goodIn_r _ [6, 7, 1, 8, 9, 10, 11, 12, 13, 14, 15, 16, 17, 18, 19, 20, 21] (by decide +kernel) (by decide +kernel)
set_option maxRecDepth 20000 in
theorem gX4_read_X4_rowOf : GoodIn wsX4_read (wsV RX4 42 RX4 yX4_rowOf wsX4_rowOf) := goodIn_app (goodIn_of _ (by decide +kernel)) ggX4_read_X4_rowOf
set_option maxRecDepth 20000 in
theorem ggX4_read_X5_get : GoodIn wsX4_read wsX5_get := goodIn_r _ [12, 13, 14, 15, 19, 20, 21] (by decide +kernel) (by decide +kernel)
set_option maxRecDepth 20000 in
theorem gX4_read_X5_get : GoodIn wsX4_read (wsV RX4 38 RX5 yX5_get wsX5_get) := goodIn_app (goodIn_of _ (by decide +kernel)) ggX4_read_X5_get
theorem dX4_read_0 : decode cX4_read 0 = .ok (.aload_n 0, 1) := by decide +kernel
theorem dX4_read_1 : decode cX4_read 1 = .ok (.getfield 16, 3) := by decide +kernel
theorem dX4_read_4 : decode cX4_read 4 = .ok (.aload_n 0, 1) := by decide +kernel
theorem dX4_read_5 : decode cX4_read 5 = .ok (.iload_n 1, 1) := by decide +kernel
theorem dX4_read_6 : decode cX4_read 6 = .ok (.invokevirtual 42, 3) := by decide +kernel
theorem dX4_read_9 : decode cX4_read 9 = .ok (.iload_n 2, 1) := by decide +kernel
theorem dX4_read_10 : decode cX4_read 10 = .ok (.invokevirtual 38, 3) := by decide +kernel
theorem dX4_read_13 : decode cX4_read 13 = .ok (.ireturn, 1) := by decide +kernel
set_option maxRecDepth 20000 in
theorem ggX4_behind_X4_rowBehind : GoodIn wsX4_behind wsX4_rowBehind := goodIn_r _ [8, 1, 2, 9, 10, 11, 12, 13, 14, 15, 16, 17, 18, 19, 20, 21, 22] (by decide +kernel) (by decide +kernel)
set_option maxRecDepth 20000 in
theorem gX4_behind_X4_rowBehind : GoodIn wsX4_behind (wsV RX4 46 RX4 yX4_rowBehind wsX4_rowBehind) := goodIn_app (goodIn_of _ (by decide +kernel)) ggX4_behind_X4_rowBehind
set_option maxRecDepth 20000 in
theorem ggX4_behind_X5_get : GoodIn wsX4_behind wsX5_get := goodIn_r _ [13, 14, 15, 16, 20, 21, 22] (by decide +kernel) (by decide +kernel)
set_option maxRecDepth 20000 in
theorem gX4_behind_X5_get : GoodIn wsX4_behind (wsV RX4 38 RX5 yX5_get wsX5_get) := goodIn_app (goodIn_of _ (by decide +kernel)) ggX4_behind_X5_get
theorem dX4_behind_0 : decode cX4_behind 0 = .ok (.aload_n 0, 1) := by decide +kernel
theorem dX4_behind_1 : decode cX4_behind 1 = .ok (.iload_n 1, 1) := by decide +kernel
theorem dX4_behind_2 : decode cX4_behind 2 = .ok (.invokevirtual 46, 3) := by decide +kernel
theorem dX4_behind_5 : decode cX4_behind 5 = .ok (.istore_n 2, 1) := by decide +kernel
theorem dX4_behind_6 : decode cX4_behind 6 = .ok (.iload_n 2, 1) := by decide +kernel
theorem dX4_behind_7 : decode cX4_behind 7 = .ok (.aload_n 0, 1) := by decide +kernel
theorem dX4_behind_8 : decode cX4_behind 8 = .ok (.getfield 34, 3) := by decide +kernel
theorem dX4_behind_11 : decode cX4_behind 11 = .ok (.if_icmp .ge 16, 3) := by decide +kernel
theorem dX4_behind_14 : decode cX4_behind 14 = .ok (.aload_n 0, 1) := by decide +kernel
theorem dX4_behind_15 : decode cX4_behind 15 = .ok (.getfield 16, 3) := by decide +kernel
theorem dX4_behind_18 : decode cX4_behind 18 = .ok (.iload_n 2, 1) := by decide +kernel
theorem dX4_behind_19 : decode cX4_behind 19 = .ok (.bipush 7, 2) := by decide +kernel
theorem dX4_behind_21 : decode cX4_behind 21 = .ok (.invokevirtual 38, 3) := by decide +kernel
theorem dX4_behind_24 : decode cX4_behind 24 = .ok (.goto 5, 3) := by decide +kernel
theorem dX4_behind_27 : decode cX4_behind 27 = .ok (.ldc 57, 2) := by decide +kernel
theorem dX4_behind_29 : decode cX4_behind 29 = .ok (.ireturn, 1) := by decide +kernel
set_option maxRecDepth 20000 in
theorem ggX4_hasWord_X4_rowOf : GoodIn wsX4_hasWord wsX4_rowOf := goodIn_r _ [5, 6, 7, 8, 9, 10, 11, 12, 13, 14, 15, 20, 21, 22, 23, 24, 25] (by decide +kernel) (by decide +kernel)
set_option maxRecDepth 20000 in
theorem gX4_hasWord_X4_rowOf : GoodIn wsX4_hasWord (wsV RX4 42 RX4 yX4_rowOf wsX4_rowOf) := goodIn_app (goodIn_of _ (by decide +kernel)) ggX4_hasWord_X4_rowOf
set_option maxRecDepth 20000 in
theorem ggX4_hasWord_X4_isStanding : GoodIn wsX4_hasWord wsX4_isStanding := goodIn_r _ [19, 7, 8, 9, 10, 11, 12, 13, 14, 15, 20, 21, 22, 23, 24, 25] (by decide +kernel) (by decide +kernel)
set_option maxRecDepth 20000 in
theorem gX4_hasWord_X4_isStanding : GoodIn wsX4_hasWord (wsV RX4 58 RX4 yX4_isStanding wsX4_isStanding) := goodIn_app (goodIn_of _ (by decide +kernel)) ggX4_hasWord_X4_isStanding
theorem dX4_hasWord_0 : decode cX4_hasWord 0 = .ok (.aload_n 0, 1) := by decide +kernel
theorem dX4_hasWord_1 : decode cX4_hasWord 1 = .ok (.aload_n 0, 1) := by decide +kernel
theorem dX4_hasWord_2 : decode cX4_hasWord 2 = .ok (.iload_n 1, 1) := by decide +kernel
theorem dX4_hasWord_3 : decode cX4_hasWord 3 = .ok (.invokevirtual 42, 3) := by decide +kernel
theorem dX4_hasWord_6 : decode cX4_hasWord 6 = .ok (.invokevirtual 58, 3) := by decide +kernel
theorem dX4_hasWord_9 : decode cX4_hasWord 9 = .ok (.ireturn, 1) := by decide +kernel
set_option maxRecDepth 20000 in
theorem ggX4_isStanding_X5_get : GoodIn wsX4_isStanding wsX5_get := goodIn_r _ [6, 7, 8, 9, 13, 14, 15] (by decide +kernel) (by decide +kernel)
set_option maxRecDepth 20000 in
theorem gX4_isStanding_X5_get : GoodIn wsX4_isStanding (wsV RX4 38 RX5 yX5_get wsX5_get) := goodIn_app (goodIn_of _ (by decide +kernel)) ggX4_isStanding_X5_get
theorem dX4_isStanding_0 : decode cX4_isStanding 0 = .ok (.aload_n 0, 1) := by decide +kernel
theorem dX4_isStanding_1 : decode cX4_isStanding 1 = .ok (.getfield 16, 3) := by decide +kernel
theorem dX4_isStanding_4 : decode cX4_isStanding 4 = .ok (.iload_n 1, 1) := by decide +kernel
theorem dX4_isStanding_5 : decode cX4_isStanding 5 = .ok (.iconst 5, 1) := by decide +kernel
theorem dX4_isStanding_6 : decode cX4_isStanding 6 = .ok (.invokevirtual 38, 3) := by decide +kernel
theorem dX4_isStanding_9 : decode cX4_isStanding 9 = .ok (.aload_n 0, 1) := by decide +kernel
theorem dX4_isStanding_10 : decode cX4_isStanding 10 = .ok (.getfield 16, 3) := by decide +kernel
theorem dX4_isStanding_13 : decode cX4_isStanding 13 = .ok (.iload_n 1, 1) := by decide +kernel
theorem dX4_isStanding_14 : decode cX4_isStanding 14 = .ok (.bipush 6, 2) := by decide +kernel
theorem dX4_isStanding_16 : decode cX4_isStanding 16 = .ok (.invokevirtual 38, 3) := by decide +kernel
theorem dX4_isStanding_19 : decode cX4_isStanding 19 = .ok (.if_icmp .le 7, 3) := by decide +kernel
theorem dX4_isStanding_22 : decode cX4_isStanding 22 = .ok (.iconst 1, 1) := by decide +kernel
theorem dX4_isStanding_23 : decode cX4_isStanding 23 = .ok (.goto 4, 3) := by decide +kernel
theorem dX4_isStanding_26 : decode cX4_isStanding 26 = .ok (.iconst 0, 1) := by decide +kernel
theorem dX4_isStanding_27 : decode cX4_isStanding 27 = .ok (.ireturn, 1) := by decide +kernel
set_option maxRecDepth 20000 in
theorem ggX4_closedCases_X5_get : GoodIn wsX4_closedCases wsX5_get := goodIn_r _ [7, 8, 9, 10, 14, 15, 16] (by decide +kernel) (by decide +kernel)
set_option maxRecDepth 20000 in
theorem gX4_closedCases_X5_get : GoodIn wsX4_closedCases (wsV RX4 38 RX5 yX5_get wsX5_get) := goodIn_app (goodIn_of _ (by decide +kernel)) ggX4_closedCases_X5_get
theorem dX4_closedCases_0 : decode cX4_closedCases 0 = .ok (.iconst 0, 1) := by decide +kernel
theorem dX4_closedCases_1 : decode cX4_closedCases 1 = .ok (.istore_n 1, 1) := by decide +kernel
theorem dX4_closedCases_2 : decode cX4_closedCases 2 = .ok (.iconst 0, 1) := by decide +kernel
theorem dX4_closedCases_3 : decode cX4_closedCases 3 = .ok (.istore_n 2, 1) := by decide +kernel
theorem dX4_closedCases_4 : decode cX4_closedCases 4 = .ok (.iload_n 2, 1) := by decide +kernel
theorem dX4_closedCases_5 : decode cX4_closedCases 5 = .ok (.aload_n 0, 1) := by decide +kernel
theorem dX4_closedCases_6 : decode cX4_closedCases 6 = .ok (.getfield 34, 3) := by decide +kernel
theorem dX4_closedCases_9 : decode cX4_closedCases 9 = .ok (.if_icmp .ge 25, 3) := by decide +kernel
theorem dX4_closedCases_12 : decode cX4_closedCases 12 = .ok (.aload_n 0, 1) := by decide +kernel
theorem dX4_closedCases_13 : decode cX4_closedCases 13 = .ok (.getfield 16, 3) := by decide +kernel
theorem dX4_closedCases_16 : decode cX4_closedCases 16 = .ok (.iload_n 2, 1) := by decide +kernel
theorem dX4_closedCases_17 : decode cX4_closedCases 17 = .ok (.iconst 0, 1) := by decide +kernel
theorem dX4_closedCases_18 : decode cX4_closedCases 18 = .ok (.invokevirtual 38, 3) := by decide +kernel
theorem dX4_closedCases_21 : decode cX4_closedCases 21 = .ok (.iconst 3, 1) := by decide +kernel
theorem dX4_closedCases_22 : decode cX4_closedCases 22 = .ok (.if_icmp .ne 6, 3) := by decide +kernel
theorem dX4_closedCases_25 : decode cX4_closedCases 25 = .ok (.iinc 1 1, 3) := by decide +kernel
theorem dX4_closedCases_28 : decode cX4_closedCases 28 = .ok (.iinc 2 1, 3) := by decide +kernel
theorem dX4_closedCases_31 : decode cX4_closedCases 31 = .ok (.goto (-27), 3) := by decide +kernel
theorem dX4_closedCases_34 : decode cX4_closedCases 34 = .ok (.iload_n 1, 1) := by decide +kernel
theorem dX4_closedCases_35 : decode cX4_closedCases 35 = .ok (.ireturn, 1) := by decide +kernel
set_option maxRecDepth 20000 in
theorem ggX4_add_X4_rowMadeFor : GoodIn wsX4_add wsX4_rowMadeFor := goodIn_r _ [6, 7, 1, 8, 9, 10, 5, 11, 12, 13, 14, 15, 16, 17, 18, 19, 20, 21, 22, 23, 24, 25, 26, 27, 28, 29, 30, 31, 32, 33, 34, 35, 36, 37, 38, 39, 40, 41, 42] (by decide +kernel) (by decide +kernel)
set_option maxRecDepth 20000 in
theorem gX4_add_X4_rowMadeFor : GoodIn wsX4_add (wsV RX4 62 RX4 yX4_rowMadeFor wsX4_rowMadeFor) := goodIn_app (goodIn_of _ (by decide +kernel)) ggX4_add_X4_rowMadeFor
set_option maxRecDepth 20000 in
theorem ggX4_add_X5_get : GoodIn wsX4_add wsX5_get := goodIn_r _ [16, 17, 18, 19, 40, 41, 42] (by decide +kernel) (by decide +kernel)
set_option maxRecDepth 20000 in
theorem gX4_add_X5_get : GoodIn wsX4_add (wsV RX4 38 RX5 yX5_get wsX5_get) := goodIn_app (goodIn_of _ (by decide +kernel)) ggX4_add_X5_get
set_option maxRecDepth 20000 in
theorem ggX4_add_X5_put : GoodIn wsX4_add wsX5_put := goodIn_r _ [35, 17, 18, 19, 40, 41, 42] (by decide +kernel) (by decide +kernel)
set_option maxRecDepth 20000 in
theorem gX4_add_X5_put : GoodIn wsX4_add (wsV RX4 53 RX5 yX5_put wsX5_put) := goodIn_app (goodIn_of _ (by decide +kernel)) ggX4_add_X5_put
theorem dX4_add_0 : decode cX4_add 0 = .ok (.aload_n 0, 1) := by decide +kernel
theorem dX4_add_1 : decode cX4_add 1 = .ok (.iload_n 1, 1) := by decide +kernel
theorem dX4_add_2 : decode cX4_add 2 = .ok (.invokevirtual 62, 3) := by decide +kernel
theorem dX4_add_5 : decode cX4_add 5 = .ok (.istore 4, 2) := by decide +kernel
theorem dX4_add_7 : decode cX4_add 7 = .ok (.aload_n 0, 1) := by decide +kernel
theorem dX4_add_8 : decode cX4_add 8 = .ok (.getfield 16, 3) := by decide +kernel
theorem dX4_add_11 : decode cX4_add 11 = .ok (.iload 4, 2) := by decide +kernel
theorem dX4_add_13 : decode cX4_add 13 = .ok (.iconst 1, 1) := by decide +kernel
theorem dX4_add_14 : decode cX4_add 14 = .ok (.aload_n 0, 1) := by decide +kernel
theorem dX4_add_15 : decode cX4_add 15 = .ok (.getfield 16, 3) := by decide +kernel
theorem dX4_add_18 : decode cX4_add 18 = .ok (.iload 4, 2) := by decide +kernel
theorem dX4_add_20 : decode cX4_add 20 = .ok (.iconst 1, 1) := by decide +kernel
theorem dX4_add_21 : decode cX4_add 21 = .ok (.invokevirtual 38, 3) := by decide +kernel
theorem dX4_add_24 : decode cX4_add 24 = .ok (.iconst 1, 1) := by decide +kernel
theorem dX4_add_25 : decode cX4_add 25 = .ok (.iadd, 1) := by decide +kernel
theorem dX4_add_26 : decode cX4_add 26 = .ok (.invokevirtual 53, 3) := by decide +kernel
theorem dX4_add_29 : decode cX4_add 29 = .ok (.aload_n 0, 1) := by decide +kernel
theorem dX4_add_30 : decode cX4_add 30 = .ok (.getfield 16, 3) := by decide +kernel
theorem dX4_add_33 : decode cX4_add 33 = .ok (.iload 4, 2) := by decide +kernel
theorem dX4_add_35 : decode cX4_add 35 = .ok (.iconst 2, 1) := by decide +kernel
theorem dX4_add_36 : decode cX4_add 36 = .ok (.aload_n 0, 1) := by decide +kernel
theorem dX4_add_37 : decode cX4_add 37 = .ok (.getfield 16, 3) := by decide +kernel
theorem dX4_add_40 : decode cX4_add 40 = .ok (.iload 4, 2) := by decide +kernel
theorem dX4_add_42 : decode cX4_add 42 = .ok (.iconst 2, 1) := by decide +kernel
theorem dX4_add_43 : decode cX4_add 43 = .ok (.invokevirtual 38, 3) := by decide +kernel
theorem dX4_add_46 : decode cX4_add 46 = .ok (.iload_n 3, 1) := by decide +kernel
theorem dX4_add_47 : decode cX4_add 47 = .ok (.iadd, 1) := by decide +kernel
theorem dX4_add_48 : decode cX4_add 48 = .ok (.invokevirtual 53, 3) := by decide +kernel
theorem dX4_add_51 : decode cX4_add 51 = .ok (.aload_n 0, 1) := by decide +kernel
theorem dX4_add_52 : decode cX4_add 52 = .ok (.getfield 16, 3) := by decide +kernel
theorem dX4_add_55 : decode cX4_add 55 = .ok (.iload 4, 2) := by decide +kernel
theorem dX4_add_57 : decode cX4_add 57 = .ok (.iconst 3, 1) := by decide +kernel
theorem dX4_add_58 : decode cX4_add 58 = .ok (.aload_n 0, 1) := by decide +kernel
theorem dX4_add_59 : decode cX4_add 59 = .ok (.getfield 16, 3) := by decide +kernel
theorem dX4_add_62 : decode cX4_add 62 = .ok (.iload 4, 2) := by decide +kernel
theorem dX4_add_64 : decode cX4_add 64 = .ok (.iconst 3, 1) := by decide +kernel
theorem dX4_add_65 : decode cX4_add 65 = .ok (.invokevirtual 38, 3) := by decide +kernel
theorem dX4_add_68 : decode cX4_add 68 = .ok (.iconst 1, 1) := by decide +kernel
theorem dX4_add_69 : decode cX4_add 69 = .ok (.iload_n 2, 1) := by decide +kernel
theorem dX4_add_70 : decode cX4_add 70 = .ok (.ishl, 1) := by decide +kernel
theorem dX4_add_71 : decode cX4_add 71 = .ok (.ior, 1) := by decide +kernel
theorem dX4_add_72 : decode cX4_add 72 = .ok (.invokevirtual 53, 3) := by decide +kernel
theorem dX4_add_75 : decode cX4_add 75 = .ok (.return_, 1) := by decide +kernel
set_option maxRecDepth 20000 in
theorem ggX4_reopen_X4_rowMadeFor : GoodIn wsX4_reopen wsX4_rowMadeFor := goodIn_r _ [6, 7, 1, 8, 9, 10, 5, 11, 12, 13, 14, 15, 16, 17, 18, 19, 20, 21, 22, 23, 24, 25, 26, 27, 28, 29, 30, 31, 32, 33, 34, 35, 36, 60, 61, 62, 63, 64, 65] (by decide +kernel) (by decide +kernel)
set_option maxRecDepth 20000 in
theorem gX4_reopen_X4_rowMadeFor : GoodIn wsX4_reopen (wsV RX4 62 RX4 yX4_rowMadeFor wsX4_rowMadeFor) := goodIn_app (goodIn_of _ (by decide +kernel)) ggX4_reopen_X4_rowMadeFor
set_option maxRecDepth 20000 in
theorem ggX4_reopen_X4_takeBack : GoodIn wsX4_reopen wsX4_takeBack := goodIn_r _ [40, 1, 41, 42, 43, 44, 5, 45, 12, 13, 14, 15, 16, 17, 18, 19, 36, 33, 34, 35, 46, 47, 48, 49, 50, 51, 52, 53, 54, 55, 56, 57, 58, 28, 29, 30, 31, 59, 60, 61, 62, 63, 64, 65, 66, 67, 68, 69] (by decide +kernel) (by decide +kernel)
set_option maxRecDepth 20000 in
theorem gX4_reopen_X4_takeBack : GoodIn wsX4_reopen (wsV RX4 65 RX4 yX4_takeBack wsX4_takeBack) := goodIn_app (goodIn_of _ (by decide +kernel)) ggX4_reopen_X4_takeBack
set_option maxRecDepth 20000 in
theorem ggX4_reopen_X5_put : GoodIn wsX4_reopen wsX5_put := goodIn_r _ [35, 17, 18, 19, 63, 64, 65] (by decide +kernel) (by decide +kernel)
set_option maxRecDepth 20000 in
theorem gX4_reopen_X5_put : GoodIn wsX4_reopen (wsV RX4 53 RX5 yX5_put wsX5_put) := goodIn_app (goodIn_of _ (by decide +kernel)) ggX4_reopen_X5_put
theorem dX4_reopen_0 : decode cX4_reopen 0 = .ok (.aload_n 0, 1) := by decide +kernel
theorem dX4_reopen_1 : decode cX4_reopen 1 = .ok (.iload_n 1, 1) := by decide +kernel
theorem dX4_reopen_2 : decode cX4_reopen 2 = .ok (.invokevirtual 62, 3) := by decide +kernel
theorem dX4_reopen_5 : decode cX4_reopen 5 = .ok (.istore_n 3, 1) := by decide +kernel
theorem dX4_reopen_6 : decode cX4_reopen 6 = .ok (.aload_n 0, 1) := by decide +kernel
theorem dX4_reopen_7 : decode cX4_reopen 7 = .ok (.iload_n 3, 1) := by decide +kernel
theorem dX4_reopen_8 : decode cX4_reopen 8 = .ok (.invokevirtual 65, 3) := by decide +kernel
theorem dX4_reopen_11 : decode cX4_reopen 11 = .ok (.aload_n 0, 1) := by decide +kernel
theorem dX4_reopen_12 : decode cX4_reopen 12 = .ok (.getfield 16, 3) := by decide +kernel
theorem dX4_reopen_15 : decode cX4_reopen 15 = .ok (.iload_n 3, 1) := by decide +kernel
theorem dX4_reopen_16 : decode cX4_reopen 16 = .ok (.iconst 0, 1) := by decide +kernel
theorem dX4_reopen_17 : decode cX4_reopen 17 = .ok (.iconst 2, 1) := by decide +kernel
theorem dX4_reopen_18 : decode cX4_reopen 18 = .ok (.invokevirtual 53, 3) := by decide +kernel
theorem dX4_reopen_21 : decode cX4_reopen 21 = .ok (.aload_n 0, 1) := by decide +kernel
theorem dX4_reopen_22 : decode cX4_reopen 22 = .ok (.getfield 16, 3) := by decide +kernel
theorem dX4_reopen_25 : decode cX4_reopen 25 = .ok (.iload_n 3, 1) := by decide +kernel
theorem dX4_reopen_26 : decode cX4_reopen 26 = .ok (.iconst 4, 1) := by decide +kernel
theorem dX4_reopen_27 : decode cX4_reopen 27 = .ok (.iload_n 2, 1) := by decide +kernel
theorem dX4_reopen_28 : decode cX4_reopen 28 = .ok (.invokevirtual 53, 3) := by decide +kernel
theorem dX4_reopen_31 : decode cX4_reopen 31 = .ok (.return_, 1) := by decide +kernel
set_option maxRecDepth 20000 in
theorem ggX4_shutAndClose_X5_get : GoodIn wsX4_shutAndClose wsX5_get := goodIn_r _ [7, 8, 9, 10, 45, 46, 47] (by decide +kernel) (by decide +kernel)
set_option maxRecDepth 20000 in
theorem gX4_shutAndClose_X5_get : GoodIn wsX4_shutAndClose (wsV RX4 38 RX5 yX5_get wsX5_get) := goodIn_app (goodIn_of _ (by decide +kernel)) ggX4_shutAndClose_X5_get
set_option maxRecDepth 20000 in
theorem ggX4_shutAndClose_X8_isWithin : GoodIn wsX4_shutAndClose wsX8_isWithin := goodIn_r _ [13] (by decide +kernel) (by decide +kernel)
set_option maxRecDepth 20000 in
theorem gX4_shutAndClose_X8_isWithin_n68 : GoodIn wsX4_shutAndClose (wsX8_isWithin) := ggX4_shutAndClose_X8_isWithin
set_option maxRecDepth 20000 in
theorem ggX4_shutAndClose_X4_tellWord : GoodIn wsX4_shutAndClose wsX4_tellWord := goodIn_r _ [18, 2, 19, 3, 4, 5, 6, 7, 8, 9, 10, 20, 21, 22, 23, 24, 25, 26, 27, 28, 29, 30, 31, 32, 33, 34, 35, 36, 37, 38, 39, 40, 41, 42, 43, 44, 45, 46, 47, 48, 49, 50, 51] (by decide +kernel) (by decide +kernel)
set_option maxRecDepth 20000 in
theorem gX4_shutAndClose_X4_tellWord : GoodIn wsX4_shutAndClose (wsV RX4 72 RX4 yX4_tellWord wsX4_tellWord) := goodIn_app (goodIn_of _ (by decide +kernel)) ggX4_shutAndClose_X4_tellWord
set_option maxRecDepth 20000 in
theorem ggX4_shutAndClose_X5_put : GoodIn wsX4_shutAndClose wsX5_put := goodIn_r _ [23, 8, 9, 10, 45, 46, 47] (by decide +kernel) (by decide +kernel)
set_option maxRecDepth 20000 in
theorem gX4_shutAndClose_X5_put : GoodIn wsX4_shutAndClose (wsV RX4 53 RX5 yX5_put wsX5_put) := goodIn_app (goodIn_of _ (by decide +kernel)) ggX4_shutAndClose_X5_put
theorem dX4_shutAndClose_0 : decode cX4_shutAndClose 0 = .ok (.iconst 0, 1) := by decide +kernel
theorem dX4_shutAndClose_1 : decode cX4_shutAndClose 1 = .ok (.istore 4, 2) := by decide +kernel
theorem dX4_shutAndClose_3 : decode cX4_shutAndClose 3 = .ok (.iload 4, 2) := by decide +kernel
theorem dX4_shutAndClose_5 : decode cX4_shutAndClose 5 = .ok (.aload_n 0, 1) := by decide +kernel
theorem dX4_shutAndClose_6 : decode cX4_shutAndClose 6 = .ok (.getfield 34, 3) := by decide +kernel
theorem dX4_shutAndClose_9 : decode cX4_shutAndClose 9 = .ok (.if_icmp .ge 93, 3) := by decide +kernel
theorem dX4_shutAndClose_12 : decode cX4_shutAndClose 12 = .ok (.aload_n 0, 1) := by decide +kernel
theorem dX4_shutAndClose_13 : decode cX4_shutAndClose 13 = .ok (.getfield 16, 3) := by decide +kernel
theorem dX4_shutAndClose_16 : decode cX4_shutAndClose 16 = .ok (.iload 4, 2) := by decide +kernel
theorem dX4_shutAndClose_18 : decode cX4_shutAndClose 18 = .ok (.iconst 0, 1) := by decide +kernel
theorem dX4_shutAndClose_19 : decode cX4_shutAndClose 19 = .ok (.invokevirtual 38, 3) := by decide +kernel
theorem dX4_shutAndClose_22 : decode cX4_shutAndClose 22 = .ok (.istore 5, 2) := by decide +kernel
theorem dX4_shutAndClose_24 : decode cX4_shutAndClose 24 = .ok (.iload 5, 2) := by decide +kernel
theorem dX4_shutAndClose_26 : decode cX4_shutAndClose 26 = .ok (.ifCond .ne 33, 3) := by decide +kernel
theorem dX4_shutAndClose_29 : decode cX4_shutAndClose 29 = .ok (.aload_n 0, 1) := by decide +kernel
theorem dX4_shutAndClose_30 : decode cX4_shutAndClose 30 = .ok (.getfield 16, 3) := by decide +kernel
theorem dX4_shutAndClose_33 : decode cX4_shutAndClose 33 = .ok (.iload 4, 2) := by decide +kernel
theorem dX4_shutAndClose_35 : decode cX4_shutAndClose 35 = .ok (.bipush 7, 2) := by decide +kernel
theorem dX4_shutAndClose_37 : decode cX4_shutAndClose 37 = .ok (.invokevirtual 38, 3) := by decide +kernel
theorem dX4_shutAndClose_40 : decode cX4_shutAndClose 40 = .ok (.iload_n 1, 1) := by decide +kernel
theorem dX4_shutAndClose_41 : decode cX4_shutAndClose 41 = .ok (.iconst 1, 1) := by decide +kernel
theorem dX4_shutAndClose_42 : decode cX4_shutAndClose 42 = .ok (.iadd, 1) := by decide +kernel
theorem dX4_shutAndClose_43 : decode cX4_shutAndClose 43 = .ok (.iload_n 2, 1) := by decide +kernel
theorem dX4_shutAndClose_44 : decode cX4_shutAndClose 44 = .ok (.invokestatic 68, 3) := by decide +kernel
theorem dX4_shutAndClose_47 : decode cX4_shutAndClose 47 = .ok (.ifCond .eq 49, 3) := by decide +kernel
theorem dX4_shutAndClose_50 : decode cX4_shutAndClose 50 = .ok (.aload_n 0, 1) := by decide +kernel
theorem dX4_shutAndClose_51 : decode cX4_shutAndClose 51 = .ok (.iload 4, 2) := by decide +kernel
theorem dX4_shutAndClose_53 : decode cX4_shutAndClose 53 = .ok (.invokevirtual 72, 3) := by decide +kernel
theorem dX4_shutAndClose_56 : decode cX4_shutAndClose 56 = .ok (.goto 40, 3) := by decide +kernel
theorem dX4_shutAndClose_59 : decode cX4_shutAndClose 59 = .ok (.iload 5, 2) := by decide +kernel
theorem dX4_shutAndClose_61 : decode cX4_shutAndClose 61 = .ok (.iconst 2, 1) := by decide +kernel
theorem dX4_shutAndClose_62 : decode cX4_shutAndClose 62 = .ok (.if_icmp .ne 34, 3) := by decide +kernel
theorem dX4_shutAndClose_65 : decode cX4_shutAndClose 65 = .ok (.aload_n 0, 1) := by decide +kernel
theorem dX4_shutAndClose_66 : decode cX4_shutAndClose 66 = .ok (.getfield 16, 3) := by decide +kernel
theorem dX4_shutAndClose_69 : decode cX4_shutAndClose 69 = .ok (.iload 4, 2) := by decide +kernel
theorem dX4_shutAndClose_71 : decode cX4_shutAndClose 71 = .ok (.iconst 4, 1) := by decide +kernel
theorem dX4_shutAndClose_72 : decode cX4_shutAndClose 72 = .ok (.invokevirtual 38, 3) := by decide +kernel
theorem dX4_shutAndClose_75 : decode cX4_shutAndClose 75 = .ok (.iload_n 3, 1) := by decide +kernel
theorem dX4_shutAndClose_76 : decode cX4_shutAndClose 76 = .ok (.if_icmp .gt 20, 3) := by decide +kernel
theorem dX4_shutAndClose_79 : decode cX4_shutAndClose 79 = .ok (.aload_n 0, 1) := by decide +kernel
theorem dX4_shutAndClose_80 : decode cX4_shutAndClose 80 = .ok (.getfield 16, 3) := by decide +kernel
theorem dX4_shutAndClose_83 : decode cX4_shutAndClose 83 = .ok (.iload 4, 2) := by decide +kernel
theorem dX4_shutAndClose_85 : decode cX4_shutAndClose 85 = .ok (.iconst 0, 1) := by decide +kernel
theorem dX4_shutAndClose_86 : decode cX4_shutAndClose 86 = .ok (.iconst 3, 1) := by decide +kernel
theorem dX4_shutAndClose_87 : decode cX4_shutAndClose 87 = .ok (.invokevirtual 53, 3) := by decide +kernel
theorem dX4_shutAndClose_90 : decode cX4_shutAndClose 90 = .ok (.aload_n 0, 1) := by decide +kernel
theorem dX4_shutAndClose_91 : decode cX4_shutAndClose 91 = .ok (.iload 4, 2) := by decide +kernel
theorem dX4_shutAndClose_93 : decode cX4_shutAndClose 93 = .ok (.invokevirtual 72, 3) := by decide +kernel
theorem dX4_shutAndClose_96 : decode cX4_shutAndClose 96 = .ok (.iinc 4 1, 3) := by decide +kernel
theorem dX4_shutAndClose_99 : decode cX4_shutAndClose 99 = .ok (.goto (-96), 3) := by decide +kernel
theorem dX4_shutAndClose_102 : decode cX4_shutAndClose 102 = .ok (.return_, 1) := by decide +kernel
set_option maxRecDepth 20000 in
theorem ggX4_tellWord_X5_get : GoodIn wsX4_tellWord wsX5_get := goodIn_r _ [7, 8, 9, 10, 36, 37, 38] (by decide +kernel) (by decide +kernel)
set_option maxRecDepth 20000 in
theorem gX4_tellWord_X5_get : GoodIn wsX4_tellWord (wsV RX4 38 RX5 yX5_get wsX5_get) := goodIn_app (goodIn_of _ (by decide +kernel)) ggX4_tellWord_X5_get
set_option maxRecDepth 20000 in
theorem ggX4_tellWord_X5_put : GoodIn wsX4_tellWord wsX5_put := goodIn_r _ [14, 8, 9, 10, 36, 37, 38] (by decide +kernel) (by decide +kernel)
set_option maxRecDepth 20000 in
theorem gX4_tellWord_X5_put : GoodIn wsX4_tellWord (wsV RX4 53 RX5 yX5_put wsX5_put) := goodIn_app (goodIn_of _ (by decide +kernel)) ggX4_tellWord_X5_put
set_option maxRecDepth 20000 in
theorem ggX4_tellWord_X7_add : GoodIn wsX4_tellWord wsX7_add := goodIn_r _ [19, 20, 21, 22, 23, 24, 25, 26, 6, 27, 8, 10, 9, 28, 29, 30, 31, 32, 12, 13, 14, 39, 40, 41, 42, 36, 37, 38] (by decide +kernel) (by decide +kernel)
set_option maxRecDepth 20000 in
theorem gX4_tellWord_X7_add : GoodIn wsX4_tellWord (wsV RX4 75 RX7 yX7_add wsX7_add) := goodIn_app (goodIn_of _ (by decide +kernel)) ggX4_tellWord_X7_add
theorem dX4_tellWord_0 : decode cX4_tellWord 0 = .ok (.aload_n 0, 1) := by decide +kernel
theorem dX4_tellWord_1 : decode cX4_tellWord 1 = .ok (.getfield 16, 3) := by decide +kernel
theorem dX4_tellWord_4 : decode cX4_tellWord 4 = .ok (.iload_n 1, 1) := by decide +kernel
theorem dX4_tellWord_5 : decode cX4_tellWord 5 = .ok (.iconst 5, 1) := by decide +kernel
theorem dX4_tellWord_6 : decode cX4_tellWord 6 = .ok (.aload_n 0, 1) := by decide +kernel
theorem dX4_tellWord_7 : decode cX4_tellWord 7 = .ok (.getfield 16, 3) := by decide +kernel
theorem dX4_tellWord_10 : decode cX4_tellWord 10 = .ok (.iload_n 1, 1) := by decide +kernel
theorem dX4_tellWord_11 : decode cX4_tellWord 11 = .ok (.iconst 5, 1) := by decide +kernel
theorem dX4_tellWord_12 : decode cX4_tellWord 12 = .ok (.invokevirtual 38, 3) := by decide +kernel
theorem dX4_tellWord_15 : decode cX4_tellWord 15 = .ok (.iconst 1, 1) := by decide +kernel
theorem dX4_tellWord_16 : decode cX4_tellWord 16 = .ok (.iadd, 1) := by decide +kernel
theorem dX4_tellWord_17 : decode cX4_tellWord 17 = .ok (.invokevirtual 53, 3) := by decide +kernel
theorem dX4_tellWord_20 : decode cX4_tellWord 20 = .ok (.aload_n 0, 1) := by decide +kernel
theorem dX4_tellWord_21 : decode cX4_tellWord 21 = .ok (.getfield 16, 3) := by decide +kernel
theorem dX4_tellWord_24 : decode cX4_tellWord 24 = .ok (.iload_n 1, 1) := by decide +kernel
theorem dX4_tellWord_25 : decode cX4_tellWord 25 = .ok (.bipush 7, 2) := by decide +kernel
theorem dX4_tellWord_27 : decode cX4_tellWord 27 = .ok (.invokevirtual 38, 3) := by decide +kernel
theorem dX4_tellWord_30 : decode cX4_tellWord 30 = .ok (.istore_n 2, 1) := by decide +kernel
theorem dX4_tellWord_31 : decode cX4_tellWord 31 = .ok (.aload_n 0, 1) := by decide +kernel
theorem dX4_tellWord_32 : decode cX4_tellWord 32 = .ok (.getfield 23, 3) := by decide +kernel
theorem dX4_tellWord_35 : decode cX4_tellWord 35 = .ok (.iconst 0, 1) := by decide +kernel
theorem dX4_tellWord_36 : decode cX4_tellWord 36 = .ok (.iload_n 2, 1) := by decide +kernel
theorem dX4_tellWord_37 : decode cX4_tellWord 37 = .ok (.aload_n 0, 1) := by decide +kernel
theorem dX4_tellWord_38 : decode cX4_tellWord 38 = .ok (.getfield 16, 3) := by decide +kernel
theorem dX4_tellWord_41 : decode cX4_tellWord 41 = .ok (.iload_n 1, 1) := by decide +kernel
theorem dX4_tellWord_42 : decode cX4_tellWord 42 = .ok (.iconst 1, 1) := by decide +kernel
theorem dX4_tellWord_43 : decode cX4_tellWord 43 = .ok (.invokevirtual 38, 3) := by decide +kernel
theorem dX4_tellWord_46 : decode cX4_tellWord 46 = .ok (.aload_n 0, 1) := by decide +kernel
theorem dX4_tellWord_47 : decode cX4_tellWord 47 = .ok (.getfield 16, 3) := by decide +kernel
theorem dX4_tellWord_50 : decode cX4_tellWord 50 = .ok (.iload_n 1, 1) := by decide +kernel
theorem dX4_tellWord_51 : decode cX4_tellWord 51 = .ok (.iconst 2, 1) := by decide +kernel
theorem dX4_tellWord_52 : decode cX4_tellWord 52 = .ok (.invokevirtual 38, 3) := by decide +kernel
theorem dX4_tellWord_55 : decode cX4_tellWord 55 = .ok (.invokevirtual 75, 3) := by decide +kernel
theorem dX4_tellWord_58 : decode cX4_tellWord 58 = .ok (.return_, 1) := by decide +kernel
set_option maxRecDepth 20000 in
theorem ggX4_takeBackWord_X4_rowOf : GoodIn wsX4_takeBackWord wsX4_rowOf := goodIn_r _ [5, 6, 7, 8, 9, 10, 11, 12, 13, 14, 15, 47, 48, 49, 50, 51, 52] (by decide +kernel) (by decide +kernel)
set_option maxRecDepth 20000 in
theorem gX4_takeBackWord_X4_rowOf : GoodIn wsX4_takeBackWord (wsV RX4 42 RX4 yX4_rowOf wsX4_rowOf) := goodIn_app (goodIn_of _ (by decide +kernel)) ggX4_takeBackWord_X4_rowOf
set_option maxRecDepth 20000 in
theorem ggX4_takeBackWord_X4_takeBack : GoodIn wsX4_takeBackWord wsX4_takeBack := goodIn_r _ [19, 7, 20, 21, 22, 23, 4, 24, 8, 9, 10, 11, 12, 13, 14, 15, 25, 26, 27, 28, 29, 30, 31, 32, 33, 34, 35, 36, 37, 38, 39, 40, 41, 42, 43, 44, 45, 46, 47, 48, 49, 50, 51, 52, 53, 54, 55, 56] (by decide +kernel) (by decide +kernel)
set_option maxRecDepth 20000 in
theorem gX4_takeBackWord_X4_takeBack : GoodIn wsX4_takeBackWord (wsV RX4 65 RX4 yX4_takeBack wsX4_takeBack) := goodIn_app (goodIn_of _ (by decide +kernel)) ggX4_takeBackWord_X4_takeBack
theorem dX4_takeBackWord_0 : decode cX4_takeBackWord 0 = .ok (.aload_n 0, 1) := by decide +kernel
theorem dX4_takeBackWord_1 : decode cX4_takeBackWord 1 = .ok (.aload_n 0, 1) := by decide +kernel
theorem dX4_takeBackWord_2 : decode cX4_takeBackWord 2 = .ok (.iload_n 1, 1) := by decide +kernel
theorem dX4_takeBackWord_3 : decode cX4_takeBackWord 3 = .ok (.invokevirtual 42, 3) := by decide +kernel
theorem dX4_takeBackWord_6 : decode cX4_takeBackWord 6 = .ok (.invokevirtual 65, 3) := by decide +kernel
theorem dX4_takeBackWord_9 : decode cX4_takeBackWord 9 = .ok (.return_, 1) := by decide +kernel
set_option maxRecDepth 20000 in
theorem ggX4_takeBack_X4_isStanding : GoodIn wsX4_takeBack wsX4_isStanding := goodIn_r _ [7, 1, 8, 9, 10, 11, 12, 13, 14, 15, 38, 39, 40, 41, 42, 43] (by decide +kernel) (by decide +kernel)
set_option maxRecDepth 20000 in
theorem gX4_takeBack_X4_isStanding : GoodIn wsX4_takeBack (wsV RX4 58 RX4 yX4_isStanding wsX4_isStanding) := goodIn_app (goodIn_of _ (by decide +kernel)) ggX4_takeBack_X4_isStanding
set_option maxRecDepth 20000 in
theorem ggX4_takeBack_X5_get : GoodIn wsX4_takeBack wsX5_get := goodIn_r _ [12, 13, 14, 15, 41, 42, 43] (by decide +kernel) (by decide +kernel)
set_option maxRecDepth 20000 in
theorem gX4_takeBack_X5_get : GoodIn wsX4_takeBack (wsV RX4 38 RX5 yX5_get wsX5_get) := goodIn_app (goodIn_of _ (by decide +kernel)) ggX4_takeBack_X5_get
set_option maxRecDepth 20000 in
theorem ggX4_takeBack_X5_put : GoodIn wsX4_takeBack wsX5_put := goodIn_r _ [19, 13, 14, 15, 41, 42, 43] (by decide +kernel) (by decide +kernel)
set_option maxRecDepth 20000 in
theorem gX4_takeBack_X5_put : GoodIn wsX4_takeBack (wsV RX4 53 RX5 yX5_put wsX5_put) := goodIn_app (goodIn_of _ (by decide +kernel)) ggX4_takeBack_X5_put
set_option maxRecDepth 20000 in
theorem ggX4_takeBack_X7_add : GoodIn wsX4_takeBack wsX7_add := goodIn_r _ [24, 25, 26, 27, 28, 29, 30, 31, 11, 32, 13, 15, 14, 33, 34, 35, 36, 37, 17, 18, 19, 44, 45, 46, 47, 41, 42, 43] (by decide +kernel) (by decide +kernel)
set_option maxRecDepth 20000 in
theorem gX4_takeBack_X7_add : GoodIn wsX4_takeBack (wsV RX4 75 RX7 yX7_add wsX7_add) := goodIn_app (goodIn_of _ (by decide +kernel)) ggX4_takeBack_X7_add
theorem dX4_takeBack_0 : decode cX4_takeBack 0 = .ok (.aload_n 0, 1) := by decide +kernel
theorem dX4_takeBack_1 : decode cX4_takeBack 1 = .ok (.iload_n 1, 1) := by decide +kernel
theorem dX4_takeBack_2 : decode cX4_takeBack 2 = .ok (.invokevirtual 58, 3) := by decide +kernel
theorem dX4_takeBack_5 : decode cX4_takeBack 5 = .ok (.ifCond .eq 63, 3) := by decide +kernel
theorem dX4_takeBack_8 : decode cX4_takeBack 8 = .ok (.aload_n 0, 1) := by decide +kernel
theorem dX4_takeBack_9 : decode cX4_takeBack 9 = .ok (.getfield 16, 3) := by decide +kernel
theorem dX4_takeBack_12 : decode cX4_takeBack 12 = .ok (.iload_n 1, 1) := by decide +kernel
theorem dX4_takeBack_13 : decode cX4_takeBack 13 = .ok (.bipush 6, 2) := by decide +kernel
theorem dX4_takeBack_15 : decode cX4_takeBack 15 = .ok (.aload_n 0, 1) := by decide +kernel
theorem dX4_takeBack_16 : decode cX4_takeBack 16 = .ok (.getfield 16, 3) := by decide +kernel
theorem dX4_takeBack_19 : decode cX4_takeBack 19 = .ok (.iload_n 1, 1) := by decide +kernel
theorem dX4_takeBack_20 : decode cX4_takeBack 20 = .ok (.bipush 6, 2) := by decide +kernel
theorem dX4_takeBack_22 : decode cX4_takeBack 22 = .ok (.invokevirtual 38, 3) := by decide +kernel
theorem dX4_takeBack_25 : decode cX4_takeBack 25 = .ok (.iconst 1, 1) := by decide +kernel
theorem dX4_takeBack_26 : decode cX4_takeBack 26 = .ok (.iadd, 1) := by decide +kernel
theorem dX4_takeBack_27 : decode cX4_takeBack 27 = .ok (.invokevirtual 53, 3) := by decide +kernel
theorem dX4_takeBack_30 : decode cX4_takeBack 30 = .ok (.aload_n 0, 1) := by decide +kernel
theorem dX4_takeBack_31 : decode cX4_takeBack 31 = .ok (.getfield 16, 3) := by decide +kernel
theorem dX4_takeBack_34 : decode cX4_takeBack 34 = .ok (.iload_n 1, 1) := by decide +kernel
theorem dX4_takeBack_35 : decode cX4_takeBack 35 = .ok (.bipush 7, 2) := by decide +kernel
theorem dX4_takeBack_37 : decode cX4_takeBack 37 = .ok (.invokevirtual 38, 3) := by decide +kernel
theorem dX4_takeBack_40 : decode cX4_takeBack 40 = .ok (.istore_n 2, 1) := by decide +kernel
theorem dX4_takeBack_41 : decode cX4_takeBack 41 = .ok (.aload_n 0, 1) := by decide +kernel
theorem dX4_takeBack_42 : decode cX4_takeBack 42 = .ok (.getfield 23, 3) := by decide +kernel
theorem dX4_takeBack_45 : decode cX4_takeBack 45 = .ok (.iconst 1, 1) := by decide +kernel
theorem dX4_takeBack_46 : decode cX4_takeBack 46 = .ok (.iload_n 2, 1) := by decide +kernel
theorem dX4_takeBack_47 : decode cX4_takeBack 47 = .ok (.aload_n 0, 1) := by decide +kernel
theorem dX4_takeBack_48 : decode cX4_takeBack 48 = .ok (.getfield 16, 3) := by decide +kernel
theorem dX4_takeBack_51 : decode cX4_takeBack 51 = .ok (.iload_n 1, 1) := by decide +kernel
theorem dX4_takeBack_52 : decode cX4_takeBack 52 = .ok (.iconst 1, 1) := by decide +kernel
theorem dX4_takeBack_53 : decode cX4_takeBack 53 = .ok (.invokevirtual 38, 3) := by decide +kernel
theorem dX4_takeBack_56 : decode cX4_takeBack 56 = .ok (.aload_n 0, 1) := by decide +kernel
theorem dX4_takeBack_57 : decode cX4_takeBack 57 = .ok (.getfield 16, 3) := by decide +kernel
theorem dX4_takeBack_60 : decode cX4_takeBack 60 = .ok (.iload_n 1, 1) := by decide +kernel
theorem dX4_takeBack_61 : decode cX4_takeBack 61 = .ok (.iconst 2, 1) := by decide +kernel
theorem dX4_takeBack_62 : decode cX4_takeBack 62 = .ok (.invokevirtual 38, 3) := by decide +kernel
theorem dX4_takeBack_65 : decode cX4_takeBack 65 = .ok (.invokevirtual 75, 3) := by decide +kernel
theorem dX4_takeBack_68 : decode cX4_takeBack 68 = .ok (.return_, 1) := by decide +kernel
theorem dX5_init_0 : decode cX5_init 0 = .ok (.aload_n 0, 1) := by decide +kernel
theorem dX5_init_1 : decode cX5_init 1 = .ok (.invokespecial 1, 3) := by decide +kernel
theorem dX5_init_4 : decode cX5_init 4 = .ok (.aload_n 0, 1) := by decide +kernel
theorem dX5_init_5 : decode cX5_init 5 = .ok (.iconst 0, 1) := by decide +kernel
theorem dX5_init_6 : decode cX5_init 6 = .ok (.iload_n 1, 1) := by decide +kernel
theorem dX5_init_7 : decode cX5_init 7 = .ok (.invokestatic 7, 3) := by decide +kernel
theorem dX5_init_10 : decode cX5_init 10 = .ok (.putfield 13, 3) := by decide +kernel
theorem dX5_init_13 : decode cX5_init 13 = .ok (.aload_n 0, 1) := by decide +kernel
theorem dX5_init_14 : decode cX5_init 14 = .ok (.iconst 0, 1) := by decide +kernel
theorem dX5_init_15 : decode cX5_init 15 = .ok (.iload_n 2, 1) := by decide +kernel
theorem dX5_init_16 : decode cX5_init 16 = .ok (.invokestatic 7, 3) := by decide +kernel
theorem dX5_init_19 : decode cX5_init 19 = .ok (.putfield 19, 3) := by decide +kernel
theorem dX5_init_22 : decode cX5_init 22 = .ok (.aload_n 0, 1) := by decide +kernel
theorem dX5_init_23 : decode cX5_init 23 = .ok (.aload_n 0, 1) := by decide +kernel
theorem dX5_init_24 : decode cX5_init 24 = .ok (.getfield 13, 3) := by decide +kernel
theorem dX5_init_27 : decode cX5_init 27 = .ok (.aload_n 0, 1) := by decide +kernel
theorem dX5_init_28 : decode cX5_init 28 = .ok (.getfield 19, 3) := by decide +kernel
theorem dX5_init_31 : decode cX5_init 31 = .ok (.imul, 1) := by decide +kernel
theorem dX5_init_32 : decode cX5_init 32 = .ok (.newarray .int, 2) := by decide +kernel
theorem dX5_init_34 : decode cX5_init 34 = .ok (.putfield 22, 3) := by decide +kernel
theorem dX5_init_37 : decode cX5_init 37 = .ok (.return_, 1) := by decide +kernel
theorem dX5_copyFrom_0 : decode cX5_copyFrom 0 = .ok (.aload_n 1, 1) := by decide +kernel
theorem dX5_copyFrom_1 : decode cX5_copyFrom 1 = .ok (.getfield 22, 3) := by decide +kernel
theorem dX5_copyFrom_4 : decode cX5_copyFrom 4 = .ok (.arraylength, 1) := by decide +kernel
theorem dX5_copyFrom_5 : decode cX5_copyFrom 5 = .ok (.aload_n 0, 1) := by decide +kernel
theorem dX5_copyFrom_6 : decode cX5_copyFrom 6 = .ok (.getfield 22, 3) := by decide +kernel
theorem dX5_copyFrom_9 : decode cX5_copyFrom 9 = .ok (.arraylength, 1) := by decide +kernel
theorem dX5_copyFrom_10 : decode cX5_copyFrom 10 = .ok (.if_icmp .ne 21, 3) := by decide +kernel
theorem dX5_copyFrom_13 : decode cX5_copyFrom 13 = .ok (.aload_n 1, 1) := by decide +kernel
theorem dX5_copyFrom_14 : decode cX5_copyFrom 14 = .ok (.getfield 22, 3) := by decide +kernel
theorem dX5_copyFrom_17 : decode cX5_copyFrom 17 = .ok (.iconst 0, 1) := by decide +kernel
theorem dX5_copyFrom_18 : decode cX5_copyFrom 18 = .ok (.aload_n 0, 1) := by decide +kernel
theorem dX5_copyFrom_19 : decode cX5_copyFrom 19 = .ok (.getfield 22, 3) := by decide +kernel
theorem dX5_copyFrom_22 : decode cX5_copyFrom 22 = .ok (.iconst 0, 1) := by decide +kernel
theorem dX5_copyFrom_23 : decode cX5_copyFrom 23 = .ok (.aload_n 0, 1) := by decide +kernel
theorem dX5_copyFrom_24 : decode cX5_copyFrom 24 = .ok (.getfield 22, 3) := by decide +kernel
theorem dX5_copyFrom_27 : decode cX5_copyFrom 27 = .ok (.arraylength, 1) := by decide +kernel
theorem dX5_copyFrom_28 : decode cX5_copyFrom 28 = .ok (.invokestatic 26, 3) := by decide +kernel
theorem dX5_copyFrom_31 : decode cX5_copyFrom 31 = .ok (.return_, 1) := by decide +kernel
theorem dX5_get_0 : decode cX5_get 0 = .ok (.iload_n 1, 1) := by decide +kernel
theorem dX5_get_1 : decode cX5_get 1 = .ok (.ifCond .lt 23, 3) := by decide +kernel
theorem dX5_get_4 : decode cX5_get 4 = .ok (.iload_n 1, 1) := by decide +kernel
theorem dX5_get_5 : decode cX5_get 5 = .ok (.aload_n 0, 1) := by decide +kernel
theorem dX5_get_6 : decode cX5_get 6 = .ok (.getfield 13, 3) := by decide +kernel
theorem dX5_get_9 : decode cX5_get 9 = .ok (.if_icmp .ge 15, 3) := by decide +kernel
theorem dX5_get_12 : decode cX5_get 12 = .ok (.iload_n 2, 1) := by decide +kernel
theorem dX5_get_13 : decode cX5_get 13 = .ok (.ifCond .lt 11, 3) := by decide +kernel
theorem dX5_get_16 : decode cX5_get 16 = .ok (.iload_n 2, 1) := by decide +kernel
theorem dX5_get_17 : decode cX5_get 17 = .ok (.aload_n 0, 1) := by decide +kernel
theorem dX5_get_18 : decode cX5_get 18 = .ok (.getfield 19, 3) := by decide +kernel
theorem dX5_get_21 : decode cX5_get 21 = .ok (.if_icmp .lt 5, 3) := by decide +kernel
theorem dX5_get_24 : decode cX5_get 24 = .ok (.iconst 0, 1) := by decide +kernel
theorem dX5_get_25 : decode cX5_get 25 = .ok (.ireturn, 1) := by decide +kernel
theorem dX5_get_26 : decode cX5_get 26 = .ok (.iload_n 1, 1) := by decide +kernel
theorem dX5_get_27 : decode cX5_get 27 = .ok (.aload_n 0, 1) := by decide +kernel
theorem dX5_get_28 : decode cX5_get 28 = .ok (.getfield 19, 3) := by decide +kernel
theorem dX5_get_31 : decode cX5_get 31 = .ok (.imul, 1) := by decide +kernel
theorem dX5_get_32 : decode cX5_get 32 = .ok (.iload_n 2, 1) := by decide +kernel
theorem dX5_get_33 : decode cX5_get 33 = .ok (.iadd, 1) := by decide +kernel
theorem dX5_get_34 : decode cX5_get 34 = .ok (.istore_n 3, 1) := by decide +kernel
theorem dX5_get_35 : decode cX5_get 35 = .ok (.iload_n 3, 1) := by decide +kernel
theorem dX5_get_36 : decode cX5_get 36 = .ok (.aload_n 0, 1) := by decide +kernel
theorem dX5_get_37 : decode cX5_get 37 = .ok (.getfield 22, 3) := by decide +kernel
theorem dX5_get_40 : decode cX5_get 40 = .ok (.arraylength, 1) := by decide +kernel
theorem dX5_get_41 : decode cX5_get 41 = .ok (.if_icmp .ge 12, 3) := by decide +kernel
theorem dX5_get_44 : decode cX5_get 44 = .ok (.aload_n 0, 1) := by decide +kernel
theorem dX5_get_45 : decode cX5_get 45 = .ok (.getfield 22, 3) := by decide +kernel
theorem dX5_get_48 : decode cX5_get 48 = .ok (.iload_n 3, 1) := by decide +kernel
theorem dX5_get_49 : decode cX5_get 49 = .ok (.iaload, 1) := by decide +kernel
theorem dX5_get_50 : decode cX5_get 50 = .ok (.goto 4, 3) := by decide +kernel
theorem dX5_get_53 : decode cX5_get 53 = .ok (.iconst 0, 1) := by decide +kernel
theorem dX5_get_54 : decode cX5_get 54 = .ok (.ireturn, 1) := by decide +kernel
theorem dX5_put_0 : decode cX5_put 0 = .ok (.iload_n 1, 1) := by decide +kernel
theorem dX5_put_1 : decode cX5_put 1 = .ok (.ifCond .lt 23, 3) := by decide +kernel
theorem dX5_put_4 : decode cX5_put 4 = .ok (.iload_n 1, 1) := by decide +kernel
theorem dX5_put_5 : decode cX5_put 5 = .ok (.aload_n 0, 1) := by decide +kernel
theorem dX5_put_6 : decode cX5_put 6 = .ok (.getfield 13, 3) := by decide +kernel
theorem dX5_put_9 : decode cX5_put 9 = .ok (.if_icmp .ge 15, 3) := by decide +kernel
theorem dX5_put_12 : decode cX5_put 12 = .ok (.iload_n 2, 1) := by decide +kernel
theorem dX5_put_13 : decode cX5_put 13 = .ok (.ifCond .lt 11, 3) := by decide +kernel
theorem dX5_put_16 : decode cX5_put 16 = .ok (.iload_n 2, 1) := by decide +kernel
theorem dX5_put_17 : decode cX5_put 17 = .ok (.aload_n 0, 1) := by decide +kernel
theorem dX5_put_18 : decode cX5_put 18 = .ok (.getfield 19, 3) := by decide +kernel
theorem dX5_put_21 : decode cX5_put 21 = .ok (.if_icmp .lt 4, 3) := by decide +kernel
theorem dX5_put_24 : decode cX5_put 24 = .ok (.return_, 1) := by decide +kernel
theorem dX5_put_25 : decode cX5_put 25 = .ok (.iload_n 1, 1) := by decide +kernel
theorem dX5_put_26 : decode cX5_put 26 = .ok (.aload_n 0, 1) := by decide +kernel
theorem dX5_put_27 : decode cX5_put 27 = .ok (.getfield 19, 3) := by decide +kernel
theorem dX5_put_30 : decode cX5_put 30 = .ok (.imul, 1) := by decide +kernel
theorem dX5_put_31 : decode cX5_put 31 = .ok (.iload_n 2, 1) := by decide +kernel
theorem dX5_put_32 : decode cX5_put 32 = .ok (.iadd, 1) := by decide +kernel
theorem dX5_put_33 : decode cX5_put 33 = .ok (.istore 4, 2) := by decide +kernel
theorem dX5_put_35 : decode cX5_put 35 = .ok (.iload 4, 2) := by decide +kernel
theorem dX5_put_37 : decode cX5_put 37 = .ok (.aload_n 0, 1) := by decide +kernel
theorem dX5_put_38 : decode cX5_put 38 = .ok (.getfield 22, 3) := by decide +kernel
theorem dX5_put_41 : decode cX5_put 41 = .ok (.arraylength, 1) := by decide +kernel
theorem dX5_put_42 : decode cX5_put 42 = .ok (.if_icmp .ge 11, 3) := by decide +kernel
theorem dX5_put_45 : decode cX5_put 45 = .ok (.aload_n 0, 1) := by decide +kernel
theorem dX5_put_46 : decode cX5_put 46 = .ok (.getfield 22, 3) := by decide +kernel
theorem dX5_put_49 : decode cX5_put 49 = .ok (.iload 4, 2) := by decide +kernel
theorem dX5_put_51 : decode cX5_put 51 = .ok (.iload_n 3, 1) := by decide +kernel
theorem dX5_put_52 : decode cX5_put 52 = .ok (.iastore, 1) := by decide +kernel
theorem dX5_put_53 : decode cX5_put 53 = .ok (.return_, 1) := by decide +kernel
set_option maxRecDepth 20000 in
theorem ggX5_openRow_X5_put : GoodIn wsX5_openRow wsX5_put := goodIn_r _ [12, 1, 2, 3, 13, 14, 15] (by decide +kernel) (by decide +kernel)
set_option maxRecDepth 20000 in
theorem gX5_openRow_X5_put : GoodIn wsX5_openRow (wsV RX5 32 RX5 yX5_put wsX5_put) := goodIn_app (goodIn_of _ (by decide +kernel)) ggX5_openRow_X5_put
theorem dX5_openRow_0 : decode cX5_openRow 0 = .ok (.iload_n 1, 1) := by decide +kernel
theorem dX5_openRow_1 : decode cX5_openRow 1 = .ok (.ifCond .lt 71, 3) := by decide +kernel
theorem dX5_openRow_4 : decode cX5_openRow 4 = .ok (.iload_n 1, 1) := by decide +kernel
theorem dX5_openRow_5 : decode cX5_openRow 5 = .ok (.aload_n 0, 1) := by decide +kernel
theorem dX5_openRow_6 : decode cX5_openRow 6 = .ok (.getfield 13, 3) := by decide +kernel
theorem dX5_openRow_9 : decode cX5_openRow 9 = .ok (.if_icmp .ge 63, 3) := by decide +kernel
theorem dX5_openRow_12 : decode cX5_openRow 12 = .ok (.iload_n 1, 1) := by decide +kernel
theorem dX5_openRow_13 : decode cX5_openRow 13 = .ok (.aload_n 0, 1) := by decide +kernel
theorem dX5_openRow_14 : decode cX5_openRow 14 = .ok (.getfield 19, 3) := by decide +kernel
theorem dX5_openRow_17 : decode cX5_openRow 17 = .ok (.imul, 1) := by decide +kernel
theorem dX5_openRow_18 : decode cX5_openRow 18 = .ok (.istore_n 2, 1) := by decide +kernel
theorem dX5_openRow_19 : decode cX5_openRow 19 = .ok (.iload_n 2, 1) := by decide +kernel
theorem dX5_openRow_20 : decode cX5_openRow 20 = .ok (.aload_n 0, 1) := by decide +kernel
theorem dX5_openRow_21 : decode cX5_openRow 21 = .ok (.getfield 19, 3) := by decide +kernel
theorem dX5_openRow_24 : decode cX5_openRow 24 = .ok (.iadd, 1) := by decide +kernel
theorem dX5_openRow_25 : decode cX5_openRow 25 = .ok (.istore_n 3, 1) := by decide +kernel
theorem dX5_openRow_26 : decode cX5_openRow 26 = .ok (.aload_n 0, 1) := by decide +kernel
theorem dX5_openRow_27 : decode cX5_openRow 27 = .ok (.getfield 22, 3) := by decide +kernel
theorem dX5_openRow_30 : decode cX5_openRow 30 = .ok (.iload_n 2, 1) := by decide +kernel
theorem dX5_openRow_31 : decode cX5_openRow 31 = .ok (.aload_n 0, 1) := by decide +kernel
theorem dX5_openRow_32 : decode cX5_openRow 32 = .ok (.getfield 22, 3) := by decide +kernel
theorem dX5_openRow_35 : decode cX5_openRow 35 = .ok (.iload_n 3, 1) := by decide +kernel
theorem dX5_openRow_36 : decode cX5_openRow 36 = .ok (.aload_n 0, 1) := by decide +kernel
theorem dX5_openRow_37 : decode cX5_openRow 37 = .ok (.getfield 22, 3) := by decide +kernel
theorem dX5_openRow_40 : decode cX5_openRow 40 = .ok (.arraylength, 1) := by decide +kernel
theorem dX5_openRow_41 : decode cX5_openRow 41 = .ok (.iload_n 3, 1) := by decide +kernel
theorem dX5_openRow_42 : decode cX5_openRow 42 = .ok (.isub, 1) := by decide +kernel
theorem dX5_openRow_43 : decode cX5_openRow 43 = .ok (.invokestatic 26, 3) := by decide +kernel
theorem dX5_openRow_46 : decode cX5_openRow 46 = .ok (.iconst 0, 1) := by decide +kernel
theorem dX5_openRow_47 : decode cX5_openRow 47 = .ok (.istore 4, 2) := by decide +kernel
theorem dX5_openRow_49 : decode cX5_openRow 49 = .ok (.iload 4, 2) := by decide +kernel
theorem dX5_openRow_51 : decode cX5_openRow 51 = .ok (.aload_n 0, 1) := by decide +kernel
theorem dX5_openRow_52 : decode cX5_openRow 52 = .ok (.getfield 19, 3) := by decide +kernel
theorem dX5_openRow_55 : decode cX5_openRow 55 = .ok (.if_icmp .ge 17, 3) := by decide +kernel
theorem dX5_openRow_58 : decode cX5_openRow 58 = .ok (.aload_n 0, 1) := by decide +kernel
theorem dX5_openRow_59 : decode cX5_openRow 59 = .ok (.iload_n 1, 1) := by decide +kernel
theorem dX5_openRow_60 : decode cX5_openRow 60 = .ok (.iload 4, 2) := by decide +kernel
theorem dX5_openRow_62 : decode cX5_openRow 62 = .ok (.iconst 0, 1) := by decide +kernel
theorem dX5_openRow_63 : decode cX5_openRow 63 = .ok (.invokevirtual 32, 3) := by decide +kernel
theorem dX5_openRow_66 : decode cX5_openRow 66 = .ok (.iinc 4 1, 3) := by decide +kernel
theorem dX5_openRow_69 : decode cX5_openRow 69 = .ok (.goto (-20), 3) := by decide +kernel
theorem dX5_openRow_72 : decode cX5_openRow 72 = .ok (.return_, 1) := by decide +kernel
theorem dX5_dropFirstRow_0 : decode cX5_dropFirstRow 0 = .ok (.aload_n 0, 1) := by decide +kernel
theorem dX5_dropFirstRow_1 : decode cX5_dropFirstRow 1 = .ok (.getfield 13, 3) := by decide +kernel
theorem dX5_dropFirstRow_4 : decode cX5_dropFirstRow 4 = .ok (.ifCond .le 29, 3) := by decide +kernel
theorem dX5_dropFirstRow_7 : decode cX5_dropFirstRow 7 = .ok (.aload_n 0, 1) := by decide +kernel
theorem dX5_dropFirstRow_8 : decode cX5_dropFirstRow 8 = .ok (.getfield 22, 3) := by decide +kernel
theorem dX5_dropFirstRow_11 : decode cX5_dropFirstRow 11 = .ok (.aload_n 0, 1) := by decide +kernel
theorem dX5_dropFirstRow_12 : decode cX5_dropFirstRow 12 = .ok (.getfield 19, 3) := by decide +kernel
theorem dX5_dropFirstRow_15 : decode cX5_dropFirstRow 15 = .ok (.aload_n 0, 1) := by decide +kernel
theorem dX5_dropFirstRow_16 : decode cX5_dropFirstRow 16 = .ok (.getfield 22, 3) := by decide +kernel
theorem dX5_dropFirstRow_19 : decode cX5_dropFirstRow 19 = .ok (.iconst 0, 1) := by decide +kernel
theorem dX5_dropFirstRow_20 : decode cX5_dropFirstRow 20 = .ok (.aload_n 0, 1) := by decide +kernel
theorem dX5_dropFirstRow_21 : decode cX5_dropFirstRow 21 = .ok (.getfield 22, 3) := by decide +kernel
theorem dX5_dropFirstRow_24 : decode cX5_dropFirstRow 24 = .ok (.arraylength, 1) := by decide +kernel
theorem dX5_dropFirstRow_25 : decode cX5_dropFirstRow 25 = .ok (.aload_n 0, 1) := by decide +kernel
theorem dX5_dropFirstRow_26 : decode cX5_dropFirstRow 26 = .ok (.getfield 19, 3) := by decide +kernel
theorem dX5_dropFirstRow_29 : decode cX5_dropFirstRow 29 = .ok (.isub, 1) := by decide +kernel
theorem dX5_dropFirstRow_30 : decode cX5_dropFirstRow 30 = .ok (.invokestatic 26, 3) := by decide +kernel
theorem dX5_dropFirstRow_33 : decode cX5_dropFirstRow 33 = .ok (.return_, 1) := by decide +kernel
theorem dX6_init_0 : decode cX6_init 0 = .ok (.aload_n 0, 1) := by decide +kernel
theorem dX6_init_1 : decode cX6_init 1 = .ok (.invokespecial 3, 3) := by decide +kernel
theorem dX6_init_4 : decode cX6_init 4 = .ok (.aload_n 0, 1) := by decide +kernel
theorem dX6_init_5 : decode cX6_init 5 = .ok (.bipush 80, 2) := by decide +kernel
theorem dX6_init_7 : decode cX6_init 7 = .ok (.newarray .char, 2) := by decide +kernel
theorem dX6_init_9 : decode cX6_init 9 = .ok (.putfield 11, 3) := by decide +kernel
theorem dX6_init_12 : decode cX6_init 12 = .ok (.return_, 1) := by decide +kernel
theorem dX6_length_0 : decode cX6_length 0 = .ok (.aload_n 0, 1) := by decide +kernel
theorem dX6_length_1 : decode cX6_length 1 = .ok (.getfield 15, 3) := by decide +kernel
theorem dX6_length_4 : decode cX6_length 4 = .ok (.ireturn, 1) := by decide +kernel
theorem dX6_append_0 : decode cX6_append 0 = .ok (.aload_n 0, 1) := by decide +kernel
theorem dX6_append_1 : decode cX6_append 1 = .ok (.getfield 15, 3) := by decide +kernel
theorem dX6_append_4 : decode cX6_append 4 = .ok (.ifCond .lt 15, 3) := by decide +kernel
theorem dX6_append_7 : decode cX6_append 7 = .ok (.aload_n 0, 1) := by decide +kernel
theorem dX6_append_8 : decode cX6_append 8 = .ok (.getfield 15, 3) := by decide +kernel
theorem dX6_append_11 : decode cX6_append 11 = .ok (.aload_n 0, 1) := by decide +kernel
theorem dX6_append_12 : decode cX6_append 12 = .ok (.getfield 11, 3) := by decide +kernel
theorem dX6_append_15 : decode cX6_append 15 = .ok (.arraylength, 1) := by decide +kernel
theorem dX6_append_16 : decode cX6_append 16 = .ok (.if_icmp .lt 5, 3) := by decide +kernel
theorem dX6_append_19 : decode cX6_append 19 = .ok (.iconst 0, 1) := by decide +kernel
theorem dX6_append_20 : decode cX6_append 20 = .ok (.ireturn, 1) := by decide +kernel
theorem dX6_append_21 : decode cX6_append 21 = .ok (.aload_n 0, 1) := by decide +kernel
theorem dX6_append_22 : decode cX6_append 22 = .ok (.getfield 11, 3) := by decide +kernel
theorem dX6_append_25 : decode cX6_append 25 = .ok (.aload_n 0, 1) := by decide +kernel
theorem dX6_append_26 : decode cX6_append 26 = .ok (.getfield 15, 3) := by decide +kernel
theorem dX6_append_29 : decode cX6_append 29 = .ok (.iload_n 1, 1) := by decide +kernel
theorem dX6_append_30 : decode cX6_append 30 = .ok (.castore, 1) := by decide +kernel
theorem dX6_append_31 : decode cX6_append 31 = .ok (.aload_n 0, 1) := by decide +kernel
theorem dX6_append_32 : decode cX6_append 32 = .ok (.dup, 1) := by decide +kernel
theorem dX6_append_33 : decode cX6_append 33 = .ok (.getfield 15, 3) := by decide +kernel
theorem dX6_append_36 : decode cX6_append 36 = .ok (.iconst 1, 1) := by decide +kernel
theorem dX6_append_37 : decode cX6_append 37 = .ok (.iadd, 1) := by decide +kernel
theorem dX6_append_38 : decode cX6_append 38 = .ok (.putfield 15, 3) := by decide +kernel
theorem dX6_append_41 : decode cX6_append 41 = .ok (.iconst 1, 1) := by decide +kernel
theorem dX6_append_42 : decode cX6_append 42 = .ok (.ireturn, 1) := by decide +kernel
theorem dX6_empty_0 : decode cX6_empty 0 = .ok (.aload_n 0, 1) := by decide +kernel
theorem dX6_empty_1 : decode cX6_empty 1 = .ok (.iconst 0, 1) := by decide +kernel
theorem dX6_empty_2 : decode cX6_empty 2 = .ok (.putfield 15, 3) := by decide +kernel
theorem dX6_empty_5 : decode cX6_empty 5 = .ok (.return_, 1) := by decide +kernel
theorem dX6_faultPlace_0 : decode cX6_faultPlace 0 = .ok (.aload_n 0, 1) := by decide +kernel
theorem dX6_faultPlace_1 : decode cX6_faultPlace 1 = .ok (.getfield 19, 3) := by decide +kernel
theorem dX6_faultPlace_4 : decode cX6_faultPlace 4 = .ok (.ireturn, 1) := by decide +kernel
theorem dX6_faultReason_0 : decode cX6_faultReason 0 = .ok (.aload_n 0, 1) := by decide +kernel
theorem dX6_faultReason_1 : decode cX6_faultReason 1 = .ok (.getfield 22, 3) := by decide +kernel
theorem dX6_faultReason_4 : decode cX6_faultReason 4 = .ok (.ireturn, 1) := by decide +kernel
set_option maxRecDepth 20000 in
theorem ggX6_hasFault_X6_readEvent : GoodIn wsX6_hasFault wsX6_readEvent := goodIn_r _ [12, 13, 14, 2, 3, 4, 5, 15, 16, 17, 18, 11, 19, 20, 21, 22, 23, 1, 24, 25, 26, 27, 28, 29, 30, 31, 32, 33, 34, 35, 39, 40, 41, 42, 43, 44, 45, 46, 47, 48, 49] (by decide +kernel) (by decide +kernel)
set_option maxRecDepth 20000 in
theorem gX6_hasFault_X6_readEvent : GoodIn wsX6_hasFault (wsV RX6 25 RX6 yX6_readEvent wsX6_readEvent) := goodIn_app (goodIn_of _ (by decide +kernel)) ggX6_hasFault_X6_readEvent
set_option maxRecDepth 20000 in
theorem ggX6_hasFault_X8_isEvent : GoodIn wsX6_hasFault wsX8_isEvent := goodIn_r _ [37, 38, 25, 26, 27] (by decide +kernel) (by decide +kernel)
set_option maxRecDepth 20000 in
theorem gX6_hasFault_X8_isEvent_n41 : GoodIn wsX6_hasFault (wsX8_isEvent) := ggX6_hasFault_X8_isEvent
theorem dX6_hasFault_0 : decode cX6_hasFault 0 = .ok (.iconst 0, 1) := by decide +kernel
theorem dX6_hasFault_1 : decode cX6_hasFault 1 = .ok (.istore_n 1, 1) := by decide +kernel
theorem dX6_hasFault_2 : decode cX6_hasFault 2 = .ok (.iconst 0, 1) := by decide +kernel
theorem dX6_hasFault_3 : decode cX6_hasFault 3 = .ok (.istore_n 2, 1) := by decide +kernel
theorem dX6_hasFault_4 : decode cX6_hasFault 4 = .ok (.iload_n 2, 1) := by decide +kernel
theorem dX6_hasFault_5 : decode cX6_hasFault 5 = .ok (.bipush 80, 2) := by decide +kernel
theorem dX6_hasFault_7 : decode cX6_hasFault 7 = .ok (.if_icmp .ge 71, 3) := by decide +kernel
theorem dX6_hasFault_10 : decode cX6_hasFault 10 = .ok (.iload_n 1, 1) := by decide +kernel
theorem dX6_hasFault_11 : decode cX6_hasFault 11 = .ok (.aload_n 0, 1) := by decide +kernel
theorem dX6_hasFault_12 : decode cX6_hasFault 12 = .ok (.getfield 15, 3) := by decide +kernel
theorem dX6_hasFault_15 : decode cX6_hasFault 15 = .ok (.if_icmp .ge 63, 3) := by decide +kernel
theorem dX6_hasFault_18 : decode cX6_hasFault 18 = .ok (.aload_n 0, 1) := by decide +kernel
theorem dX6_hasFault_19 : decode cX6_hasFault 19 = .ok (.iload_n 1, 1) := by decide +kernel
theorem dX6_hasFault_20 : decode cX6_hasFault 20 = .ok (.invokevirtual 25, 3) := by decide +kernel
theorem dX6_hasFault_23 : decode cX6_hasFault 23 = .ok (.istore_n 3, 1) := by decide +kernel
theorem dX6_hasFault_24 : decode cX6_hasFault 24 = .ok (.iload_n 3, 1) := by decide +kernel
theorem dX6_hasFault_25 : decode cX6_hasFault 25 = .ok (.ifCond .lt 25, 3) := by decide +kernel
theorem dX6_hasFault_28 : decode cX6_hasFault 28 = .ok (.aload_n 0, 1) := by decide +kernel
theorem dX6_hasFault_29 : decode cX6_hasFault 29 = .ok (.getfield 29, 3) := by decide +kernel
theorem dX6_hasFault_32 : decode cX6_hasFault 32 = .ok (.aload_n 0, 1) := by decide +kernel
theorem dX6_hasFault_33 : decode cX6_hasFault 33 = .ok (.getfield 32, 3) := by decide +kernel
theorem dX6_hasFault_36 : decode cX6_hasFault 36 = .ok (.aload_n 0, 1) := by decide +kernel
theorem dX6_hasFault_37 : decode cX6_hasFault 37 = .ok (.getfield 35, 3) := by decide +kernel
theorem dX6_hasFault_40 : decode cX6_hasFault 40 = .ok (.aload_n 0, 1) := by decide +kernel
theorem dX6_hasFault_41 : decode cX6_hasFault 41 = .ok (.getfield 38, 3) := by decide +kernel
theorem dX6_hasFault_44 : decode cX6_hasFault 44 = .ok (.invokestatic 41, 3) := by decide +kernel
theorem dX6_hasFault_47 : decode cX6_hasFault 47 = .ok (.ifCond .ne 23, 3) := by decide +kernel
theorem dX6_hasFault_50 : decode cX6_hasFault 50 = .ok (.aload_n 0, 1) := by decide +kernel
theorem dX6_hasFault_51 : decode cX6_hasFault 51 = .ok (.iload_n 1, 1) := by decide +kernel
theorem dX6_hasFault_52 : decode cX6_hasFault 52 = .ok (.putfield 19, 3) := by decide +kernel
theorem dX6_hasFault_55 : decode cX6_hasFault 55 = .ok (.aload_n 0, 1) := by decide +kernel
theorem dX6_hasFault_56 : decode cX6_hasFault 56 = .ok (.iload_n 3, 1) := by decide +kernel
theorem dX6_hasFault_57 : decode cX6_hasFault 57 = .ok (.ifCond .ge 7, 3) := by decide +kernel
theorem dX6_hasFault_60 : decode cX6_hasFault 60 = .ok (.iconst 1, 1) := by decide +kernel
theorem dX6_hasFault_61 : decode cX6_hasFault 61 = .ok (.goto 4, 3) := by decide +kernel
theorem dX6_hasFault_64 : decode cX6_hasFault 64 = .ok (.iconst 2, 1) := by decide +kernel
theorem dX6_hasFault_65 : decode cX6_hasFault 65 = .ok (.putfield 22, 3) := by decide +kernel
theorem dX6_hasFault_68 : decode cX6_hasFault 68 = .ok (.iconst 1, 1) := by decide +kernel
theorem dX6_hasFault_69 : decode cX6_hasFault 69 = .ok (.ireturn, 1) := by decide +kernel
theorem dX6_hasFault_70 : decode cX6_hasFault 70 = .ok (.iload_n 3, 1) := by decide +kernel
theorem dX6_hasFault_71 : decode cX6_hasFault 71 = .ok (.istore_n 1, 1) := by decide +kernel
theorem dX6_hasFault_72 : decode cX6_hasFault 72 = .ok (.iinc 2 1, 3) := by decide +kernel
theorem dX6_hasFault_75 : decode cX6_hasFault 75 = .ok (.goto (-71), 3) := by decide +kernel
theorem dX6_hasFault_78 : decode cX6_hasFault 78 = .ok (.iconst 0, 1) := by decide +kernel
theorem dX6_hasFault_79 : decode cX6_hasFault 79 = .ok (.ireturn, 1) := by decide +kernel
set_option maxRecDepth 20000 in
theorem ggX6_readEvent_X6_readNumber : GoodIn wsX6_readEvent wsX6_readNumber := goodIn_r _ [12, 2, 1, 13, 14, 15, 11, 16, 17, 18, 19, 20, 21, 30, 31, 32, 33, 34, 35, 36, 37, 38, 39, 40] (by decide +kernel) (by decide +kernel)
set_option maxRecDepth 20000 in
theorem gX6_readEvent_X6_readNumber : GoodIn wsX6_readEvent (wsV RX6 48 RX6 yX6_readNumber wsX6_readNumber) := goodIn_app (goodIn_of _ (by decide +kernel)) ggX6_readEvent_X6_readNumber
set_option maxRecDepth 20000 in
theorem ggX6_readEvent_X6_readSign : GoodIn wsX6_readEvent wsX6_readSign := goodIn_r _ [25, 1, 13, 14, 15, 11, 16, 17, 18, 30, 31, 32, 33, 34, 35, 36, 37, 38, 39, 40] (by decide +kernel) (by decide +kernel)
set_option maxRecDepth 20000 in
theorem gX6_readEvent_X6_readSign : GoodIn wsX6_readEvent (wsV RX6 55 RX6 yX6_readSign wsX6_readSign) := goodIn_app (goodIn_of _ (by decide +kernel)) ggX6_readEvent_X6_readSign
set_option maxRecDepth 20000 in
theorem ggX6_readEvent_X6_readExcuse : GoodIn wsX6_readEvent wsX6_readExcuse := goodIn_r _ [29, 22, 23, 24, 11, 25, 1, 13, 14, 15, 16, 17, 18, 30, 31, 32, 33, 34, 35, 36, 37, 38, 39, 40] (by decide +kernel) (by decide +kernel)
set_option maxRecDepth 20000 in
theorem gX6_readEvent_X6_readExcuse : GoodIn wsX6_readEvent (wsV RX6 59 RX6 yX6_readExcuse wsX6_readExcuse) := goodIn_app (goodIn_of _ (by decide +kernel)) ggX6_readEvent_X6_readExcuse
theorem dX6_readEvent_0 : decode cX6_readEvent 0 = .ok (.aload_n 0, 1) := by decide +kernel
theorem dX6_readEvent_1 : decode cX6_readEvent 1 = .ok (.iload_n 1, 1) := by decide +kernel
theorem dX6_readEvent_2 : decode cX6_readEvent 2 = .ok (.putfield 45, 3) := by decide +kernel
theorem dX6_readEvent_5 : decode cX6_readEvent 5 = .ok (.aload_n 0, 1) := by decide +kernel
theorem dX6_readEvent_6 : decode cX6_readEvent 6 = .ok (.invokevirtual 48, 3) := by decide +kernel
theorem dX6_readEvent_9 : decode cX6_readEvent 9 = .ok (.istore_n 2, 1) := by decide +kernel
theorem dX6_readEvent_10 : decode cX6_readEvent 10 = .ok (.aload_n 0, 1) := by decide +kernel
theorem dX6_readEvent_11 : decode cX6_readEvent 11 = .ok (.aload_n 0, 1) := by decide +kernel
theorem dX6_readEvent_12 : decode cX6_readEvent 12 = .ok (.getfield 52, 3) := by decide +kernel
theorem dX6_readEvent_15 : decode cX6_readEvent 15 = .ok (.putfield 29, 3) := by decide +kernel
theorem dX6_readEvent_18 : decode cX6_readEvent 18 = .ok (.iload_n 2, 1) := by decide +kernel
theorem dX6_readEvent_19 : decode cX6_readEvent 19 = .ok (.ifCond .eq 23, 3) := by decide +kernel
theorem dX6_readEvent_22 : decode cX6_readEvent 22 = .ok (.aload_n 0, 1) := by decide +kernel
theorem dX6_readEvent_23 : decode cX6_readEvent 23 = .ok (.bipush 44, 2) := by decide +kernel
theorem dX6_readEvent_25 : decode cX6_readEvent 25 = .ok (.invokevirtual 55, 3) := by decide +kernel
theorem dX6_readEvent_28 : decode cX6_readEvent 28 = .ok (.ifCond .eq 14, 3) := by decide +kernel
theorem dX6_readEvent_31 : decode cX6_readEvent 31 = .ok (.aload_n 0, 1) := by decide +kernel
theorem dX6_readEvent_32 : decode cX6_readEvent 32 = .ok (.invokevirtual 48, 3) := by decide +kernel
theorem dX6_readEvent_35 : decode cX6_readEvent 35 = .ok (.ifCond .eq 7, 3) := by decide +kernel
theorem dX6_readEvent_38 : decode cX6_readEvent 38 = .ok (.iconst 1, 1) := by decide +kernel
theorem dX6_readEvent_39 : decode cX6_readEvent 39 = .ok (.goto 4, 3) := by decide +kernel
theorem dX6_readEvent_42 : decode cX6_readEvent 42 = .ok (.iconst 0, 1) := by decide +kernel
theorem dX6_readEvent_43 : decode cX6_readEvent 43 = .ok (.istore_n 2, 1) := by decide +kernel
theorem dX6_readEvent_44 : decode cX6_readEvent 44 = .ok (.aload_n 0, 1) := by decide +kernel
theorem dX6_readEvent_45 : decode cX6_readEvent 45 = .ok (.aload_n 0, 1) := by decide +kernel
theorem dX6_readEvent_46 : decode cX6_readEvent 46 = .ok (.getfield 52, 3) := by decide +kernel
theorem dX6_readEvent_49 : decode cX6_readEvent 49 = .ok (.putfield 32, 3) := by decide +kernel
theorem dX6_readEvent_52 : decode cX6_readEvent 52 = .ok (.iload_n 2, 1) := by decide +kernel
theorem dX6_readEvent_53 : decode cX6_readEvent 53 = .ok (.ifCond .eq 23, 3) := by decide +kernel
theorem dX6_readEvent_56 : decode cX6_readEvent 56 = .ok (.aload_n 0, 1) := by decide +kernel
theorem dX6_readEvent_57 : decode cX6_readEvent 57 = .ok (.bipush 44, 2) := by decide +kernel
theorem dX6_readEvent_59 : decode cX6_readEvent 59 = .ok (.invokevirtual 55, 3) := by decide +kernel
theorem dX6_readEvent_62 : decode cX6_readEvent 62 = .ok (.ifCond .eq 14, 3) := by decide +kernel
theorem dX6_readEvent_65 : decode cX6_readEvent 65 = .ok (.aload_n 0, 1) := by decide +kernel
theorem dX6_readEvent_66 : decode cX6_readEvent 66 = .ok (.invokevirtual 48, 3) := by decide +kernel
theorem dX6_readEvent_69 : decode cX6_readEvent 69 = .ok (.ifCond .eq 7, 3) := by decide +kernel
theorem dX6_readEvent_72 : decode cX6_readEvent 72 = .ok (.iconst 1, 1) := by decide +kernel
theorem dX6_readEvent_73 : decode cX6_readEvent 73 = .ok (.goto 4, 3) := by decide +kernel
theorem dX6_readEvent_76 : decode cX6_readEvent 76 = .ok (.iconst 0, 1) := by decide +kernel
theorem dX6_readEvent_77 : decode cX6_readEvent 77 = .ok (.istore_n 2, 1) := by decide +kernel
theorem dX6_readEvent_78 : decode cX6_readEvent 78 = .ok (.aload_n 0, 1) := by decide +kernel
theorem dX6_readEvent_79 : decode cX6_readEvent 79 = .ok (.aload_n 0, 1) := by decide +kernel
theorem dX6_readEvent_80 : decode cX6_readEvent 80 = .ok (.getfield 52, 3) := by decide +kernel
theorem dX6_readEvent_83 : decode cX6_readEvent 83 = .ok (.putfield 35, 3) := by decide +kernel
theorem dX6_readEvent_86 : decode cX6_readEvent 86 = .ok (.iload_n 2, 1) := by decide +kernel
theorem dX6_readEvent_87 : decode cX6_readEvent 87 = .ok (.ifCond .eq 16, 3) := by decide +kernel
theorem dX6_readEvent_90 : decode cX6_readEvent 90 = .ok (.aload_n 0, 1) := by decide +kernel
theorem dX6_readEvent_91 : decode cX6_readEvent 91 = .ok (.bipush 44, 2) := by decide +kernel
theorem dX6_readEvent_93 : decode cX6_readEvent 93 = .ok (.invokevirtual 55, 3) := by decide +kernel
theorem dX6_readEvent_96 : decode cX6_readEvent 96 = .ok (.ifCond .eq 7, 3) := by decide +kernel
theorem dX6_readEvent_99 : decode cX6_readEvent 99 = .ok (.iconst 1, 1) := by decide +kernel
theorem dX6_readEvent_100 : decode cX6_readEvent 100 = .ok (.goto 4, 3) := by decide +kernel
theorem dX6_readEvent_103 : decode cX6_readEvent 103 = .ok (.iconst 0, 1) := by decide +kernel
theorem dX6_readEvent_104 : decode cX6_readEvent 104 = .ok (.istore_n 2, 1) := by decide +kernel
theorem dX6_readEvent_105 : decode cX6_readEvent 105 = .ok (.aload_n 0, 1) := by decide +kernel
theorem dX6_readEvent_106 : decode cX6_readEvent 106 = .ok (.bipush 45, 2) := by decide +kernel
theorem dX6_readEvent_108 : decode cX6_readEvent 108 = .ok (.invokevirtual 55, 3) := by decide +kernel
theorem dX6_readEvent_111 : decode cX6_readEvent 111 = .ok (.istore_n 3, 1) := by decide +kernel
theorem dX6_readEvent_112 : decode cX6_readEvent 112 = .ok (.iload_n 2, 1) := by decide +kernel
theorem dX6_readEvent_113 : decode cX6_readEvent 113 = .ok (.ifCond .eq 14, 3) := by decide +kernel
theorem dX6_readEvent_116 : decode cX6_readEvent 116 = .ok (.aload_n 0, 1) := by decide +kernel
theorem dX6_readEvent_117 : decode cX6_readEvent 117 = .ok (.invokevirtual 48, 3) := by decide +kernel
theorem dX6_readEvent_120 : decode cX6_readEvent 120 = .ok (.ifCond .eq 7, 3) := by decide +kernel
theorem dX6_readEvent_123 : decode cX6_readEvent 123 = .ok (.iconst 1, 1) := by decide +kernel
theorem dX6_readEvent_124 : decode cX6_readEvent 124 = .ok (.goto 4, 3) := by decide +kernel
theorem dX6_readEvent_127 : decode cX6_readEvent 127 = .ok (.iconst 0, 1) := by decide +kernel
theorem dX6_readEvent_128 : decode cX6_readEvent 128 = .ok (.istore_n 2, 1) := by decide +kernel
theorem dX6_readEvent_129 : decode cX6_readEvent 129 = .ok (.aload_n 0, 1) := by decide +kernel
theorem dX6_readEvent_130 : decode cX6_readEvent 130 = .ok (.iload_n 3, 1) := by decide +kernel
theorem dX6_readEvent_131 : decode cX6_readEvent 131 = .ok (.ifCond .eq 11, 3) := by decide +kernel
theorem dX6_readEvent_134 : decode cX6_readEvent 134 = .ok (.aload_n 0, 1) := by decide +kernel
theorem dX6_readEvent_135 : decode cX6_readEvent 135 = .ok (.getfield 52, 3) := by decide +kernel
theorem dX6_readEvent_138 : decode cX6_readEvent 138 = .ok (.ineg, 1) := by decide +kernel
theorem dX6_readEvent_139 : decode cX6_readEvent 139 = .ok (.goto 7, 3) := by decide +kernel
theorem dX6_readEvent_142 : decode cX6_readEvent 142 = .ok (.aload_n 0, 1) := by decide +kernel
theorem dX6_readEvent_143 : decode cX6_readEvent 143 = .ok (.getfield 52, 3) := by decide +kernel
theorem dX6_readEvent_146 : decode cX6_readEvent 146 = .ok (.putfield 38, 3) := by decide +kernel
theorem dX6_readEvent_149 : decode cX6_readEvent 149 = .ok (.aload_n 0, 1) := by decide +kernel
theorem dX6_readEvent_150 : decode cX6_readEvent 150 = .ok (.aload_n 0, 1) := by decide +kernel
theorem dX6_readEvent_151 : decode cX6_readEvent 151 = .ok (.invokevirtual 59, 3) := by decide +kernel
theorem dX6_readEvent_154 : decode cX6_readEvent 154 = .ok (.putfield 63, 3) := by decide +kernel
theorem dX6_readEvent_157 : decode cX6_readEvent 157 = .ok (.iload_n 2, 1) := by decide +kernel
theorem dX6_readEvent_158 : decode cX6_readEvent 158 = .ok (.ifCond .eq 19, 3) := by decide +kernel
theorem dX6_readEvent_161 : decode cX6_readEvent 161 = .ok (.aload_n 0, 1) := by decide +kernel
theorem dX6_readEvent_162 : decode cX6_readEvent 162 = .ok (.bipush 59, 2) := by decide +kernel
theorem dX6_readEvent_164 : decode cX6_readEvent 164 = .ok (.invokevirtual 55, 3) := by decide +kernel
theorem dX6_readEvent_167 : decode cX6_readEvent 167 = .ok (.ifCond .eq 10, 3) := by decide +kernel
theorem dX6_readEvent_170 : decode cX6_readEvent 170 = .ok (.aload_n 0, 1) := by decide +kernel
theorem dX6_readEvent_171 : decode cX6_readEvent 171 = .ok (.getfield 45, 3) := by decide +kernel
theorem dX6_readEvent_174 : decode cX6_readEvent 174 = .ok (.goto 4, 3) := by decide +kernel
theorem dX6_readEvent_177 : decode cX6_readEvent 177 = .ok (.iconst (-1), 1) := by decide +kernel
theorem dX6_readEvent_178 : decode cX6_readEvent 178 = .ok (.ireturn, 1) := by decide +kernel
set_option maxRecDepth 20000 in
theorem ggX6_readNumber_X6_signHere : GoodIn wsX6_readNumber wsX6_signHere := goodIn_r _ [7, 2, 8, 9, 13, 14, 15, 16, 17, 18, 19, 20, 21, 22, 23] (by decide +kernel) (by decide +kernel)
set_option maxRecDepth 20000 in
theorem gX6_readNumber_X6_signHere : GoodIn wsX6_readNumber (wsV RX6 66 RX6 yX6_signHere wsX6_signHere) := goodIn_app (goodIn_of _ (by decide +kernel)) ggX6_readNumber_X6_signHere
set_option maxRecDepth 20000 in
theorem ggX6_readNumber_X8_isWithin : GoodIn wsX6_readNumber wsX8_isWithin := goodIn_r _ [12] (by decide +kernel) (by decide +kernel)
set_option maxRecDepth 20000 in
theorem gX6_readNumber_X8_isWithin_n70 : GoodIn wsX6_readNumber (wsX8_isWithin) := ggX6_readNumber_X8_isWithin
theorem dX6_readNumber_0 : decode cX6_readNumber 0 = .ok (.aload_n 0, 1) := by decide +kernel
theorem dX6_readNumber_1 : decode cX6_readNumber 1 = .ok (.iconst 0, 1) := by decide +kernel
theorem dX6_readNumber_2 : decode cX6_readNumber 2 = .ok (.putfield 52, 3) := by decide +kernel
theorem dX6_readNumber_5 : decode cX6_readNumber 5 = .ok (.iconst 0, 1) := by decide +kernel
theorem dX6_readNumber_6 : decode cX6_readNumber 6 = .ok (.istore_n 1, 1) := by decide +kernel
theorem dX6_readNumber_7 : decode cX6_readNumber 7 = .ok (.iload_n 1, 1) := by decide +kernel
theorem dX6_readNumber_8 : decode cX6_readNumber 8 = .ok (.iconst 4, 1) := by decide +kernel
theorem dX6_readNumber_9 : decode cX6_readNumber 9 = .ok (.if_icmp .ge 52, 3) := by decide +kernel
theorem dX6_readNumber_12 : decode cX6_readNumber 12 = .ok (.aload_n 0, 1) := by decide +kernel
theorem dX6_readNumber_13 : decode cX6_readNumber 13 = .ok (.invokevirtual 66, 3) := by decide +kernel
theorem dX6_readNumber_16 : decode cX6_readNumber 16 = .ok (.bipush 48, 2) := by decide +kernel
theorem dX6_readNumber_18 : decode cX6_readNumber 18 = .ok (.bipush 57, 2) := by decide +kernel
theorem dX6_readNumber_20 : decode cX6_readNumber 20 = .ok (.invokestatic 70, 3) := by decide +kernel
theorem dX6_readNumber_23 : decode cX6_readNumber 23 = .ok (.ifCond .eq 38, 3) := by decide +kernel
theorem dX6_readNumber_26 : decode cX6_readNumber 26 = .ok (.aload_n 0, 1) := by decide +kernel
theorem dX6_readNumber_27 : decode cX6_readNumber 27 = .ok (.aload_n 0, 1) := by decide +kernel
theorem dX6_readNumber_28 : decode cX6_readNumber 28 = .ok (.getfield 52, 3) := by decide +kernel
theorem dX6_readNumber_31 : decode cX6_readNumber 31 = .ok (.bipush 10, 2) := by decide +kernel
theorem dX6_readNumber_33 : decode cX6_readNumber 33 = .ok (.imul, 1) := by decide +kernel
theorem dX6_readNumber_34 : decode cX6_readNumber 34 = .ok (.aload_n 0, 1) := by decide +kernel
theorem dX6_readNumber_35 : decode cX6_readNumber 35 = .ok (.invokevirtual 66, 3) := by decide +kernel
theorem dX6_readNumber_38 : decode cX6_readNumber 38 = .ok (.iadd, 1) := by decide +kernel
theorem dX6_readNumber_39 : decode cX6_readNumber 39 = .ok (.bipush 48, 2) := by decide +kernel
theorem dX6_readNumber_41 : decode cX6_readNumber 41 = .ok (.isub, 1) := by decide +kernel
theorem dX6_readNumber_42 : decode cX6_readNumber 42 = .ok (.putfield 52, 3) := by decide +kernel
theorem dX6_readNumber_45 : decode cX6_readNumber 45 = .ok (.iinc 1 1, 3) := by decide +kernel
theorem dX6_readNumber_48 : decode cX6_readNumber 48 = .ok (.aload_n 0, 1) := by decide +kernel
theorem dX6_readNumber_49 : decode cX6_readNumber 49 = .ok (.dup, 1) := by decide +kernel
theorem dX6_readNumber_50 : decode cX6_readNumber 50 = .ok (.getfield 45, 3) := by decide +kernel
theorem dX6_readNumber_53 : decode cX6_readNumber 53 = .ok (.iconst 1, 1) := by decide +kernel
theorem dX6_readNumber_54 : decode cX6_readNumber 54 = .ok (.iadd, 1) := by decide +kernel
theorem dX6_readNumber_55 : decode cX6_readNumber 55 = .ok (.putfield 45, 3) := by decide +kernel
theorem dX6_readNumber_58 : decode cX6_readNumber 58 = .ok (.goto (-51), 3) := by decide +kernel
theorem dX6_readNumber_61 : decode cX6_readNumber 61 = .ok (.iload_n 1, 1) := by decide +kernel
theorem dX6_readNumber_62 : decode cX6_readNumber 62 = .ok (.ifCond .le 7, 3) := by decide +kernel
theorem dX6_readNumber_65 : decode cX6_readNumber 65 = .ok (.iconst 1, 1) := by decide +kernel
theorem dX6_readNumber_66 : decode cX6_readNumber 66 = .ok (.goto 4, 3) := by decide +kernel
theorem dX6_readNumber_69 : decode cX6_readNumber 69 = .ok (.iconst 0, 1) := by decide +kernel
theorem dX6_readNumber_70 : decode cX6_readNumber 70 = .ok (.ireturn, 1) := by decide +kernel
set_option maxRecDepth 20000 in
theorem ggX6_readSign_X6_signHere : GoodIn wsX6_readSign wsX6_signHere := goodIn_r _ [6, 1, 7, 8, 9, 10, 11, 12, 13, 14, 15, 16, 17, 18, 19] (by decide +kernel) (by decide +kernel)
set_option maxRecDepth 20000 in
theorem gX6_readSign_X6_signHere : GoodIn wsX6_readSign (wsV RX6 66 RX6 yX6_signHere wsX6_signHere) := goodIn_app (goodIn_of _ (by decide +kernel)) ggX6_readSign_X6_signHere
theorem dX6_readSign_0 : decode cX6_readSign 0 = .ok (.aload_n 0, 1) := by decide +kernel
theorem dX6_readSign_1 : decode cX6_readSign 1 = .ok (.invokevirtual 66, 3) := by decide +kernel
theorem dX6_readSign_4 : decode cX6_readSign 4 = .ok (.iload_n 1, 1) := by decide +kernel
theorem dX6_readSign_5 : decode cX6_readSign 5 = .ok (.if_icmp .eq 5, 3) := by decide +kernel
theorem dX6_readSign_8 : decode cX6_readSign 8 = .ok (.iconst 0, 1) := by decide +kernel
theorem dX6_readSign_9 : decode cX6_readSign 9 = .ok (.ireturn, 1) := by decide +kernel
theorem dX6_readSign_10 : decode cX6_readSign 10 = .ok (.aload_n 0, 1) := by decide +kernel
theorem dX6_readSign_11 : decode cX6_readSign 11 = .ok (.dup, 1) := by decide +kernel
theorem dX6_readSign_12 : decode cX6_readSign 12 = .ok (.getfield 45, 3) := by decide +kernel
theorem dX6_readSign_15 : decode cX6_readSign 15 = .ok (.iconst 1, 1) := by decide +kernel
theorem dX6_readSign_16 : decode cX6_readSign 16 = .ok (.iadd, 1) := by decide +kernel
theorem dX6_readSign_17 : decode cX6_readSign 17 = .ok (.putfield 45, 3) := by decide +kernel
theorem dX6_readSign_20 : decode cX6_readSign 20 = .ok (.iconst 1, 1) := by decide +kernel
theorem dX6_readSign_21 : decode cX6_readSign 21 = .ok (.ireturn, 1) := by decide +kernel
set_option maxRecDepth 20000 in
theorem ggX6_readExcuse_X6_readSign : GoodIn wsX6_readExcuse wsX6_readSign := goodIn_r _ [5, 6, 7, 8, 9, 4, 10, 11, 12, 13, 14, 15, 16, 17, 18, 19, 20, 21, 22, 23] (by decide +kernel) (by decide +kernel)
set_option maxRecDepth 20000 in
theorem gX6_readExcuse_X6_readSign : GoodIn wsX6_readExcuse (wsV RX6 55 RX6 yX6_readSign wsX6_readSign) := goodIn_app (goodIn_of _ (by decide +kernel)) ggX6_readExcuse_X6_readSign
theorem dX6_readExcuse_0 : decode cX6_readExcuse 0 = .ok (.aload_n 0, 1) := by decide +kernel
theorem dX6_readExcuse_1 : decode cX6_readExcuse 1 = .ok (.bipush 110, 2) := by decide +kernel
theorem dX6_readExcuse_3 : decode cX6_readExcuse 3 = .ok (.invokevirtual 55, 3) := by decide +kernel
theorem dX6_readExcuse_6 : decode cX6_readExcuse 6 = .ok (.ifCond .eq 5, 3) := by decide +kernel
theorem dX6_readExcuse_9 : decode cX6_readExcuse 9 = .ok (.iconst 1, 1) := by decide +kernel
theorem dX6_readExcuse_10 : decode cX6_readExcuse 10 = .ok (.ireturn, 1) := by decide +kernel
theorem dX6_readExcuse_11 : decode cX6_readExcuse 11 = .ok (.aload_n 0, 1) := by decide +kernel
theorem dX6_readExcuse_12 : decode cX6_readExcuse 12 = .ok (.bipush 105, 2) := by decide +kernel
theorem dX6_readExcuse_14 : decode cX6_readExcuse 14 = .ok (.invokevirtual 55, 3) := by decide +kernel
theorem dX6_readExcuse_17 : decode cX6_readExcuse 17 = .ok (.ifCond .eq 5, 3) := by decide +kernel
theorem dX6_readExcuse_20 : decode cX6_readExcuse 20 = .ok (.iconst 2, 1) := by decide +kernel
theorem dX6_readExcuse_21 : decode cX6_readExcuse 21 = .ok (.ireturn, 1) := by decide +kernel
theorem dX6_readExcuse_22 : decode cX6_readExcuse 22 = .ok (.aload_n 0, 1) := by decide +kernel
theorem dX6_readExcuse_23 : decode cX6_readExcuse 23 = .ok (.bipush 102, 2) := by decide +kernel
theorem dX6_readExcuse_25 : decode cX6_readExcuse 25 = .ok (.invokevirtual 55, 3) := by decide +kernel
theorem dX6_readExcuse_28 : decode cX6_readExcuse 28 = .ok (.ifCond .eq 7, 3) := by decide +kernel
theorem dX6_readExcuse_31 : decode cX6_readExcuse 31 = .ok (.iconst 3, 1) := by decide +kernel
theorem dX6_readExcuse_32 : decode cX6_readExcuse 32 = .ok (.goto 4, 3) := by decide +kernel
theorem dX6_readExcuse_35 : decode cX6_readExcuse 35 = .ok (.iconst 0, 1) := by decide +kernel
theorem dX6_readExcuse_36 : decode cX6_readExcuse 36 = .ok (.ireturn, 1) := by decide +kernel
theorem dX6_signHere_0 : decode cX6_signHere 0 = .ok (.aload_n 0, 1) := by decide +kernel
theorem dX6_signHere_1 : decode cX6_signHere 1 = .ok (.getfield 45, 3) := by decide +kernel
theorem dX6_signHere_4 : decode cX6_signHere 4 = .ok (.ifCond .lt 38, 3) := by decide +kernel
theorem dX6_signHere_7 : decode cX6_signHere 7 = .ok (.aload_n 0, 1) := by decide +kernel
theorem dX6_signHere_8 : decode cX6_signHere 8 = .ok (.getfield 45, 3) := by decide +kernel
theorem dX6_signHere_11 : decode cX6_signHere 11 = .ok (.aload_n 0, 1) := by decide +kernel
theorem dX6_signHere_12 : decode cX6_signHere 12 = .ok (.getfield 15, 3) := by decide +kernel
theorem dX6_signHere_15 : decode cX6_signHere 15 = .ok (.if_icmp .ge 27, 3) := by decide +kernel
theorem dX6_signHere_18 : decode cX6_signHere 18 = .ok (.aload_n 0, 1) := by decide +kernel
theorem dX6_signHere_19 : decode cX6_signHere 19 = .ok (.getfield 45, 3) := by decide +kernel
theorem dX6_signHere_22 : decode cX6_signHere 22 = .ok (.aload_n 0, 1) := by decide +kernel
theorem dX6_signHere_23 : decode cX6_signHere 23 = .ok (.getfield 11, 3) := by decide +kernel
theorem dX6_signHere_26 : decode cX6_signHere 26 = .ok (.arraylength, 1) := by decide +kernel
theorem dX6_signHere_27 : decode cX6_signHere 27 = .ok (.if_icmp .ge 15, 3) := by decide +kernel
theorem dX6_signHere_30 : decode cX6_signHere 30 = .ok (.aload_n 0, 1) := by decide +kernel
theorem dX6_signHere_31 : decode cX6_signHere 31 = .ok (.getfield 11, 3) := by decide +kernel
theorem dX6_signHere_34 : decode cX6_signHere 34 = .ok (.aload_n 0, 1) := by decide +kernel
theorem dX6_signHere_35 : decode cX6_signHere 35 = .ok (.getfield 45, 3) := by decide +kernel
theorem dX6_signHere_38 : decode cX6_signHere 38 = .ok (.caload, 1) := by decide +kernel
theorem dX6_signHere_39 : decode cX6_signHere 39 = .ok (.goto 4, 3) := by decide +kernel
theorem dX6_signHere_42 : decode cX6_signHere 42 = .ok (.iconst 0, 1) := by decide +kernel
theorem dX6_signHere_43 : decode cX6_signHere 43 = .ok (.ireturn, 1) := by decide +kernel
set_option maxRecDepth 20000 in
theorem ggX7_init_X5_init : GoodIn wsX7_init wsX5_init := goodIn_r _ [10, 11, 2, 3, 12, 13, 14, 15, 16, 17, 18, 19, 20, 21, 22] (by decide +kernel) (by decide +kernel)
set_option maxRecDepth 20000 in
theorem gX7_init_X5_init : GoodIn wsX7_init (wsX5_init) := ggX7_init_X5_init
theorem dX7_init_0 : decode cX7_init 0 = .ok (.aload_n 0, 1) := by decide +kernel
theorem dX7_init_1 : decode cX7_init 1 = .ok (.invokespecial 3, 3) := by decide +kernel
theorem dX7_init_4 : decode cX7_init 4 = .ok (.aload_n 0, 1) := by decide +kernel
theorem dX7_init_5 : decode cX7_init 5 = .ok (.new 9, 3) := by decide +kernel
theorem dX7_init_8 : decode cX7_init 8 = .ok (.dup, 1) := by decide +kernel
theorem dX7_init_9 : decode cX7_init 9 = .ok (.bipush 40, 2) := by decide +kernel
theorem dX7_init_11 : decode cX7_init 11 = .ok (.iconst 4, 1) := by decide +kernel
theorem dX7_init_12 : decode cX7_init 12 = .ok (.invokespecial 13, 3) := by decide +kernel
theorem dX7_init_15 : decode cX7_init 15 = .ok (.putfield 16, 3) := by decide +kernel
theorem dX7_init_18 : decode cX7_init 18 = .ok (.return_, 1) := by decide +kernel
set_option maxRecDepth 20000 in
theorem ggX7_copyFrom_X5_copyFrom : GoodIn wsX7_copyFrom wsX5_copyFrom := goodIn_r _ [9, 10, 11, 12, 13, 14, 19, 20, 21] (by decide +kernel) (by decide +kernel)
set_option maxRecDepth 20000 in
theorem gX7_copyFrom_X5_copyFrom : GoodIn wsX7_copyFrom (wsV RX7 20 RX5 yX5_copyFrom wsX5_copyFrom) := goodIn_app (goodIn_of _ (by decide +kernel)) ggX7_copyFrom_X5_copyFrom
theorem dX7_copyFrom_0 : decode cX7_copyFrom 0 = .ok (.aload_n 0, 1) := by decide +kernel
theorem dX7_copyFrom_1 : decode cX7_copyFrom 1 = .ok (.getfield 16, 3) := by decide +kernel
theorem dX7_copyFrom_4 : decode cX7_copyFrom 4 = .ok (.aload_n 1, 1) := by decide +kernel
theorem dX7_copyFrom_5 : decode cX7_copyFrom 5 = .ok (.getfield 16, 3) := by decide +kernel
theorem dX7_copyFrom_8 : decode cX7_copyFrom 8 = .ok (.invokevirtual 20, 3) := by decide +kernel
theorem dX7_copyFrom_11 : decode cX7_copyFrom 11 = .ok (.aload_n 0, 1) := by decide +kernel
theorem dX7_copyFrom_12 : decode cX7_copyFrom 12 = .ok (.aload_n 1, 1) := by decide +kernel
theorem dX7_copyFrom_13 : decode cX7_copyFrom 13 = .ok (.getfield 24, 3) := by decide +kernel
theorem dX7_copyFrom_16 : decode cX7_copyFrom 16 = .ok (.putfield 24, 3) := by decide +kernel
theorem dX7_copyFrom_19 : decode cX7_copyFrom 19 = .ok (.aload_n 0, 1) := by decide +kernel
theorem dX7_copyFrom_20 : decode cX7_copyFrom 20 = .ok (.aload_n 1, 1) := by decide +kernel
theorem dX7_copyFrom_21 : decode cX7_copyFrom 21 = .ok (.getfield 28, 3) := by decide +kernel
theorem dX7_copyFrom_24 : decode cX7_copyFrom 24 = .ok (.putfield 28, 3) := by decide +kernel
theorem dX7_copyFrom_27 : decode cX7_copyFrom 27 = .ok (.aload_n 0, 1) := by decide +kernel
theorem dX7_copyFrom_28 : decode cX7_copyFrom 28 = .ok (.aload_n 1, 1) := by decide +kernel
theorem dX7_copyFrom_29 : decode cX7_copyFrom 29 = .ok (.getfield 31, 3) := by decide +kernel
theorem dX7_copyFrom_32 : decode cX7_copyFrom 32 = .ok (.putfield 31, 3) := by decide +kernel
theorem dX7_copyFrom_35 : decode cX7_copyFrom 35 = .ok (.return_, 1) := by decide +kernel
theorem dX7_kept_0 : decode cX7_kept 0 = .ok (.aload_n 0, 1) := by decide +kernel
theorem dX7_kept_1 : decode cX7_kept 1 = .ok (.getfield 24, 3) := by decide +kernel
theorem dX7_kept_4 : decode cX7_kept 4 = .ok (.ireturn, 1) := by decide +kernel
theorem dX7_told_0 : decode cX7_told 0 = .ok (.aload_n 0, 1) := by decide +kernel
theorem dX7_told_1 : decode cX7_told 1 = .ok (.getfield 28, 3) := by decide +kernel
theorem dX7_told_4 : decode cX7_told 4 = .ok (.ireturn, 1) := by decide +kernel
theorem dX7_takenBack_0 : decode cX7_takenBack 0 = .ok (.aload_n 0, 1) := by decide +kernel
theorem dX7_takenBack_1 : decode cX7_takenBack 1 = .ok (.getfield 31, 3) := by decide +kernel
theorem dX7_takenBack_4 : decode cX7_takenBack 4 = .ok (.ireturn, 1) := by decide +kernel
set_option maxRecDepth 20000 in
theorem ggX7_read_X5_get : GoodIn wsX7_read wsX5_get := goodIn_r _ [8, 9, 10, 11, 16, 17, 18] (by decide +kernel) (by decide +kernel)
set_option maxRecDepth 20000 in
theorem gX7_read_X5_get : GoodIn wsX7_read (wsV RX7 34 RX5 yX5_get wsX5_get) := goodIn_app (goodIn_of _ (by decide +kernel)) ggX7_read_X5_get
theorem dX7_read_0 : decode cX7_read 0 = .ok (.iload_n 1, 1) := by decide +kernel
theorem dX7_read_1 : decode cX7_read 1 = .ok (.aload_n 0, 1) := by decide +kernel
theorem dX7_read_2 : decode cX7_read 2 = .ok (.getfield 24, 3) := by decide +kernel
theorem dX7_read_5 : decode cX7_read 5 = .ok (.if_icmp .ge 15, 3) := by decide +kernel
theorem dX7_read_8 : decode cX7_read 8 = .ok (.aload_n 0, 1) := by decide +kernel
theorem dX7_read_9 : decode cX7_read 9 = .ok (.getfield 16, 3) := by decide +kernel
theorem dX7_read_12 : decode cX7_read 12 = .ok (.iload_n 1, 1) := by decide +kernel
theorem dX7_read_13 : decode cX7_read 13 = .ok (.iload_n 2, 1) := by decide +kernel
theorem dX7_read_14 : decode cX7_read 14 = .ok (.invokevirtual 34, 3) := by decide +kernel
theorem dX7_read_17 : decode cX7_read 17 = .ok (.goto 5, 3) := by decide +kernel
theorem dX7_read_20 : decode cX7_read 20 = .ok (.ldc 38, 2) := by decide +kernel
theorem dX7_read_22 : decode cX7_read 22 = .ok (.ireturn, 1) := by decide +kernel
set_option maxRecDepth 20000 in
theorem ggX7_add_X5_dropFirstRow : GoodIn wsX7_add wsX5_dropFirstRow := goodIn_r _ [9, 10, 11, 12, 13, 14, 15, 16, 25, 26, 27] (by decide +kernel) (by decide +kernel)
set_option maxRecDepth 20000 in
theorem gX7_add_X5_dropFirstRow : GoodIn wsX7_add (wsV RX7 39 RX5 yX5_dropFirstRow wsX5_dropFirstRow) := goodIn_app (goodIn_of _ (by decide +kernel)) ggX7_add_X5_dropFirstRow
set_option maxRecDepth 20000 in
theorem ggX7_add_X5_put : GoodIn wsX7_add wsX5_put := goodIn_r _ [20, 10, 12, 11, 25, 26, 27] (by decide +kernel) (by decide +kernel)
set_option maxRecDepth 20000 in
theorem gX7_add_X5_put : GoodIn wsX7_add (wsV RX7 42 RX5 yX5_put wsX5_put) := goodIn_app (goodIn_of _ (by decide +kernel)) ggX7_add_X5_put
theorem dX7_add_0 : decode cX7_add 0 = .ok (.aload_n 0, 1) := by decide +kernel
theorem dX7_add_1 : decode cX7_add 1 = .ok (.getfield 24, 3) := by decide +kernel
theorem dX7_add_4 : decode cX7_add 4 = .ok (.bipush 40, 2) := by decide +kernel
theorem dX7_add_6 : decode cX7_add 6 = .ok (.if_icmp .ne 20, 3) := by decide +kernel
theorem dX7_add_9 : decode cX7_add 9 = .ok (.aload_n 0, 1) := by decide +kernel
theorem dX7_add_10 : decode cX7_add 10 = .ok (.getfield 16, 3) := by decide +kernel
theorem dX7_add_13 : decode cX7_add 13 = .ok (.invokevirtual 39, 3) := by decide +kernel
theorem dX7_add_16 : decode cX7_add 16 = .ok (.aload_n 0, 1) := by decide +kernel
theorem dX7_add_17 : decode cX7_add 17 = .ok (.dup, 1) := by decide +kernel
theorem dX7_add_18 : decode cX7_add 18 = .ok (.getfield 24, 3) := by decide +kernel
theorem dX7_add_21 : decode cX7_add 21 = .ok (.iconst 1, 1) := by decide +kernel
theorem dX7_add_22 : decode cX7_add 22 = .ok (.isub, 1) := by decide +kernel
theorem dX7_add_23 : decode cX7_add 23 = .ok (.putfield 24, 3) := by decide +kernel
theorem dX7_add_26 : decode cX7_add 26 = .ok (.aload_n 0, 1) := by decide +kernel
theorem dX7_add_27 : decode cX7_add 27 = .ok (.getfield 16, 3) := by decide +kernel
theorem dX7_add_30 : decode cX7_add 30 = .ok (.aload_n 0, 1) := by decide +kernel
theorem dX7_add_31 : decode cX7_add 31 = .ok (.getfield 24, 3) := by decide +kernel
theorem dX7_add_34 : decode cX7_add 34 = .ok (.iconst 0, 1) := by decide +kernel
theorem dX7_add_35 : decode cX7_add 35 = .ok (.iload_n 1, 1) := by decide +kernel
theorem dX7_add_36 : decode cX7_add 36 = .ok (.invokevirtual 42, 3) := by decide +kernel
theorem dX7_add_39 : decode cX7_add 39 = .ok (.aload_n 0, 1) := by decide +kernel
theorem dX7_add_40 : decode cX7_add 40 = .ok (.getfield 16, 3) := by decide +kernel
theorem dX7_add_43 : decode cX7_add 43 = .ok (.aload_n 0, 1) := by decide +kernel
theorem dX7_add_44 : decode cX7_add 44 = .ok (.getfield 24, 3) := by decide +kernel
theorem dX7_add_47 : decode cX7_add 47 = .ok (.iconst 1, 1) := by decide +kernel
theorem dX7_add_48 : decode cX7_add 48 = .ok (.iload_n 2, 1) := by decide +kernel
theorem dX7_add_49 : decode cX7_add 49 = .ok (.invokevirtual 42, 3) := by decide +kernel
theorem dX7_add_52 : decode cX7_add 52 = .ok (.aload_n 0, 1) := by decide +kernel
theorem dX7_add_53 : decode cX7_add 53 = .ok (.getfield 16, 3) := by decide +kernel
theorem dX7_add_56 : decode cX7_add 56 = .ok (.aload_n 0, 1) := by decide +kernel
theorem dX7_add_57 : decode cX7_add 57 = .ok (.getfield 24, 3) := by decide +kernel
theorem dX7_add_60 : decode cX7_add 60 = .ok (.iconst 2, 1) := by decide +kernel
theorem dX7_add_61 : decode cX7_add 61 = .ok (.iload_n 3, 1) := by decide +kernel
theorem dX7_add_62 : decode cX7_add 62 = .ok (.invokevirtual 42, 3) := by decide +kernel
theorem dX7_add_65 : decode cX7_add 65 = .ok (.aload_n 0, 1) := by decide +kernel
theorem dX7_add_66 : decode cX7_add 66 = .ok (.getfield 16, 3) := by decide +kernel
theorem dX7_add_69 : decode cX7_add 69 = .ok (.aload_n 0, 1) := by decide +kernel
theorem dX7_add_70 : decode cX7_add 70 = .ok (.getfield 24, 3) := by decide +kernel
theorem dX7_add_73 : decode cX7_add 73 = .ok (.iconst 3, 1) := by decide +kernel
theorem dX7_add_74 : decode cX7_add 74 = .ok (.iload 4, 2) := by decide +kernel
theorem dX7_add_76 : decode cX7_add 76 = .ok (.invokevirtual 42, 3) := by decide +kernel
theorem dX7_add_79 : decode cX7_add 79 = .ok (.aload_n 0, 1) := by decide +kernel
theorem dX7_add_80 : decode cX7_add 80 = .ok (.dup, 1) := by decide +kernel
theorem dX7_add_81 : decode cX7_add 81 = .ok (.getfield 24, 3) := by decide +kernel
theorem dX7_add_84 : decode cX7_add 84 = .ok (.iconst 1, 1) := by decide +kernel
theorem dX7_add_85 : decode cX7_add 85 = .ok (.iadd, 1) := by decide +kernel
theorem dX7_add_86 : decode cX7_add 86 = .ok (.putfield 24, 3) := by decide +kernel
theorem dX7_add_89 : decode cX7_add 89 = .ok (.iload_n 1, 1) := by decide +kernel
theorem dX7_add_90 : decode cX7_add 90 = .ok (.ifCond .ne 16, 3) := by decide +kernel
theorem dX7_add_93 : decode cX7_add 93 = .ok (.aload_n 0, 1) := by decide +kernel
theorem dX7_add_94 : decode cX7_add 94 = .ok (.dup, 1) := by decide +kernel
theorem dX7_add_95 : decode cX7_add 95 = .ok (.getfield 28, 3) := by decide +kernel
theorem dX7_add_98 : decode cX7_add 98 = .ok (.iconst 1, 1) := by decide +kernel
theorem dX7_add_99 : decode cX7_add 99 = .ok (.iadd, 1) := by decide +kernel
theorem dX7_add_100 : decode cX7_add 100 = .ok (.putfield 28, 3) := by decide +kernel
theorem dX7_add_103 : decode cX7_add 103 = .ok (.goto 13, 3) := by decide +kernel
theorem dX7_add_106 : decode cX7_add 106 = .ok (.aload_n 0, 1) := by decide +kernel
theorem dX7_add_107 : decode cX7_add 107 = .ok (.dup, 1) := by decide +kernel
theorem dX7_add_108 : decode cX7_add 108 = .ok (.getfield 31, 3) := by decide +kernel
theorem dX7_add_111 : decode cX7_add 111 = .ok (.iconst 1, 1) := by decide +kernel
theorem dX7_add_112 : decode cX7_add 112 = .ok (.iadd, 1) := by decide +kernel
theorem dX7_add_113 : decode cX7_add 113 = .ok (.putfield 31, 3) := by decide +kernel
theorem dX7_add_116 : decode cX7_add 116 = .ok (.return_, 1) := by decide +kernel
set_option maxRecDepth 20000 in
theorem ggX8_init_X1_init : GoodIn wsX8_init wsX1_init := goodIn_r _ [17, 18, 2, 3, 19, 20, 21, 22, 23, 24, 25, 26, 27, 28, 29, 30, 31, 32, 33, 34, 35, 36, 37, 38, 39, 40, 41, 42, 43, 44, 45, 46, 47, 48, 49, 50, 51, 52, 53, 54, 55, 56, 57, 58, 59, 60, 61, 62, 63, 64, 65, 66, 67, 68, 69, 70, 71, 72, 73, 74, 75, 76, 113, 114, 87, 88, 89, 90, 91, 92, 93, 94, 95, 115, 116, 117, 118, 119, 120, 121, 122, 123, 124, 125] (by decide +kernel) (by decide +kernel)
set_option maxRecDepth 20000 in
theorem gX8_init_X1_init_n9 : GoodIn wsX8_init (wsX1_init) := ggX8_init_X1_init
set_option maxRecDepth 20000 in
theorem ggX8_init_X3_init : GoodIn wsX8_init wsX3_init := goodIn_r _ [78, 79, 2, 3, 80, 81, 99, 100, 101] (by decide +kernel) (by decide +kernel)
set_option maxRecDepth 20000 in
theorem gX8_init_X3_init_n18 : GoodIn wsX8_init (wsX3_init) := ggX8_init_X3_init
set_option maxRecDepth 20000 in
theorem ggX8_init_X6_init : GoodIn wsX8_init wsX6_init := goodIn_r _ [83, 84, 2, 3, 85, 86, 102, 103, 104, 105, 106, 107, 108, 109, 110, 111, 112] (by decide +kernel) (by decide +kernel)
set_option maxRecDepth 20000 in
theorem gX8_init_X6_init_n25 : GoodIn wsX8_init (wsX6_init) := ggX8_init_X6_init
theorem dX8_init_0 : decode cX8_init 0 = .ok (.aload_n 0, 1) := by decide +kernel
theorem dX8_init_1 : decode cX8_init 1 = .ok (.invokespecial 1, 3) := by decide +kernel
theorem dX8_init_4 : decode cX8_init 4 = .ok (.aload_n 0, 1) := by decide +kernel
theorem dX8_init_5 : decode cX8_init 5 = .ok (.new 7, 3) := by decide +kernel
theorem dX8_init_8 : decode cX8_init 8 = .ok (.dup, 1) := by decide +kernel
theorem dX8_init_9 : decode cX8_init 9 = .ok (.invokespecial 9, 3) := by decide +kernel
theorem dX8_init_12 : decode cX8_init 12 = .ok (.putfield 10, 3) := by decide +kernel
theorem dX8_init_15 : decode cX8_init 15 = .ok (.aload_n 0, 1) := by decide +kernel
theorem dX8_init_16 : decode cX8_init 16 = .ok (.new 16, 3) := by decide +kernel
theorem dX8_init_19 : decode cX8_init 19 = .ok (.dup, 1) := by decide +kernel
theorem dX8_init_20 : decode cX8_init 20 = .ok (.invokespecial 18, 3) := by decide +kernel
theorem dX8_init_23 : decode cX8_init 23 = .ok (.putfield 19, 3) := by decide +kernel
theorem dX8_init_26 : decode cX8_init 26 = .ok (.aload_n 0, 1) := by decide +kernel
theorem dX8_init_27 : decode cX8_init 27 = .ok (.new 23, 3) := by decide +kernel
theorem dX8_init_30 : decode cX8_init 30 = .ok (.dup, 1) := by decide +kernel
theorem dX8_init_31 : decode cX8_init 31 = .ok (.invokespecial 25, 3) := by decide +kernel
theorem dX8_init_34 : decode cX8_init 34 = .ok (.putfield 26, 3) := by decide +kernel
theorem dX8_init_37 : decode cX8_init 37 = .ok (.return_, 1) := by decide +kernel
set_option maxRecDepth 20000 in
theorem ggX8_set_X8_isWithin : GoodIn wsX8_set wsX8_isWithin := goodIn_r _ [8] (by decide +kernel) (by decide +kernel)
set_option maxRecDepth 20000 in
theorem gX8_set_X8_isWithin : GoodIn wsX8_set (va_wsS RX8 30 yX8_isWithin wsX8_isWithin) := goodIn_app (goodIn_of _ (by decide +kernel)) ggX8_set_X8_isWithin
set_option maxRecDepth 20000 in
theorem ggX8_set_X1_hasEvents : GoodIn wsX8_set wsX1_hasEvents := goodIn_r _ [13, 14, 15, 16, 17, 18, 19, 20, 21, 22, 23, 24, 25, 26, 27, 28, 29, 30, 31, 32, 147, 148, 149, 150, 151, 152, 153, 154, 155, 156, 157, 158, 159, 160] (by decide +kernel) (by decide +kernel)
set_option maxRecDepth 20000 in
theorem gX8_set_X1_hasEvents : GoodIn wsX8_set (wsV RX8 35 RX1 yX1_hasEvents wsX1_hasEvents) := goodIn_app (goodIn_of _ (by decide +kernel)) ggX8_set_X1_hasEvents
set_option maxRecDepth 20000 in
theorem ggX8_set_X3_keep : GoodIn wsX8_set wsX3_keep := goodIn_r _ [37, 38, 39, 40, 41, 42, 12, 43, 44, 45, 46, 47, 48, 49, 18, 14, 50, 51, 52, 53, 54, 55, 56, 57, 58, 59, 60, 61, 62, 63, 64, 65, 66, 67, 28, 24, 68, 69, 70, 71, 72, 73, 74, 75, 30, 31, 76, 32, 77, 78, 79, 80, 81, 82, 83, 84, 85, 86, 87, 88, 89, 90, 91, 92, 93, 94, 95, 96, 97, 98, 99, 100, 101, 102, 103, 104, 105, 106, 107, 108, 109, 110, 111, 112, 113, 114, 115, 116, 117, 118, 119, 120, 121, 122, 123, 124, 125, 126, 127, 128, 129, 130, 131, 132, 133, 134, 135, 161, 162, 163, 147, 148, 149, 150, 151, 152, 153, 154, 155, 156, 157, 164, 165, 166, 167, 158, 159, 160, 168, 169, 170, 171] (by decide +kernel) (by decide +kernel)
set_option maxRecDepth 20000 in
theorem gX8_set_X3_keep : GoodIn wsX8_set (wsV RX8 40 RX3 yX3_keep wsX3_keep) := goodIn_app (goodIn_of _ (by decide +kernel)) ggX8_set_X3_keep
set_option maxRecDepth 20000 in
theorem ggX8_set_X1_changeSetting : GoodIn wsX8_set wsX1_changeSetting := goodIn_r _ [139, 58, 59, 60, 140, 141, 142, 12, 143, 147, 148, 149, 150, 151, 152, 153, 154, 155] (by decide +kernel) (by decide +kernel)
set_option maxRecDepth 20000 in
theorem gX8_set_X1_changeSetting : GoodIn wsX8_set (wsV RX8 44 RX1 yX1_changeSetting wsX1_changeSetting) := goodIn_app (goodIn_of _ (by decide +kernel)) ggX8_set_X1_changeSetting
theorem dX8_set_0 : decode cX8_set 0 = .ok (.iload_n 1, 1) := by decide +kernel
theorem dX8_set_1 : decode cX8_set 1 = .ok (.iconst 0, 1) := by decide +kernel
theorem dX8_set_2 : decode cX8_set 2 = .ok (.iconst 2, 1) := by decide +kernel
theorem dX8_set_3 : decode cX8_set 3 = .ok (.invokestatic 30, 3) := by decide +kernel
theorem dX8_set_6 : decode cX8_set 6 = .ok (.ifCond .ne 6, 3) := by decide +kernel
theorem dX8_set_9 : decode cX8_set 9 = .ok (.ldc 34, 2) := by decide +kernel
theorem dX8_set_11 : decode cX8_set 11 = .ok (.ireturn, 1) := by decide +kernel
theorem dX8_set_12 : decode cX8_set 12 = .ok (.iload_n 2, 1) := by decide +kernel
theorem dX8_set_13 : decode cX8_set 13 = .ok (.iload_n 1, 1) := by decide +kernel
theorem dX8_set_14 : decode cX8_set 14 = .ok (.ifCond .ne 7, 3) := by decide +kernel
theorem dX8_set_17 : decode cX8_set 17 = .ok (.iconst 1, 1) := by decide +kernel
theorem dX8_set_18 : decode cX8_set 18 = .ok (.goto 4, 3) := by decide +kernel
theorem dX8_set_21 : decode cX8_set 21 = .ok (.iconst 0, 1) := by decide +kernel
theorem dX8_set_22 : decode cX8_set 22 = .ok (.bipush 100, 2) := by decide +kernel
theorem dX8_set_24 : decode cX8_set 24 = .ok (.invokestatic 30, 3) := by decide +kernel
theorem dX8_set_27 : decode cX8_set 27 = .ok (.ifCond .ne 6, 3) := by decide +kernel
theorem dX8_set_30 : decode cX8_set 30 = .ok (.ldc 34, 2) := by decide +kernel
theorem dX8_set_32 : decode cX8_set 32 = .ok (.ireturn, 1) := by decide +kernel
theorem dX8_set_33 : decode cX8_set 33 = .ok (.iload_n 1, 1) := by decide +kernel
theorem dX8_set_34 : decode cX8_set 34 = .ok (.ifCond .ne 16, 3) := by decide +kernel
theorem dX8_set_37 : decode cX8_set 37 = .ok (.aload_n 0, 1) := by decide +kernel
theorem dX8_set_38 : decode cX8_set 38 = .ok (.getfield 10, 3) := by decide +kernel
theorem dX8_set_41 : decode cX8_set 41 = .ok (.invokevirtual 35, 3) := by decide +kernel
theorem dX8_set_44 : decode cX8_set 44 = .ok (.ifCond .eq 6, 3) := by decide +kernel
theorem dX8_set_47 : decode cX8_set 47 = .ok (.ldc 39, 2) := by decide +kernel
theorem dX8_set_49 : decode cX8_set 49 = .ok (.ireturn, 1) := by decide +kernel
theorem dX8_set_50 : decode cX8_set 50 = .ok (.aload_n 0, 1) := by decide +kernel
theorem dX8_set_51 : decode cX8_set 51 = .ok (.getfield 19, 3) := by decide +kernel
theorem dX8_set_54 : decode cX8_set 54 = .ok (.aload_n 0, 1) := by decide +kernel
theorem dX8_set_55 : decode cX8_set 55 = .ok (.getfield 10, 3) := by decide +kernel
theorem dX8_set_58 : decode cX8_set 58 = .ok (.invokevirtual 40, 3) := by decide +kernel
theorem dX8_set_61 : decode cX8_set 61 = .ok (.aload_n 0, 1) := by decide +kernel
theorem dX8_set_62 : decode cX8_set 62 = .ok (.getfield 10, 3) := by decide +kernel
theorem dX8_set_65 : decode cX8_set 65 = .ok (.iload_n 1, 1) := by decide +kernel
theorem dX8_set_66 : decode cX8_set 66 = .ok (.iload_n 2, 1) := by decide +kernel
theorem dX8_set_67 : decode cX8_set 67 = .ok (.invokevirtual 44, 3) := by decide +kernel
theorem dX8_set_70 : decode cX8_set 70 = .ok (.ireturn, 1) := by decide +kernel
set_option maxRecDepth 20000 in
theorem ggX8_event_X8_isEvent : GoodIn wsX8_event wsX8_isEvent := goodIn_r _ [7, 8, 9, 6, 10] (by decide +kernel) (by decide +kernel)
set_option maxRecDepth 20000 in
theorem gX8_event_X8_isEvent : GoodIn wsX8_event (va_wsS RX8 48 yX8_isEvent wsX8_isEvent) := goodIn_app (goodIn_of _ (by decide +kernel)) ggX8_event_X8_isEvent
set_option maxRecDepth 20000 in
theorem ggX8_event_X8_isWithin : GoodIn wsX8_event wsX8_isWithin := goodIn_r _ [10] (by decide +kernel) (by decide +kernel)
set_option maxRecDepth 20000 in
theorem gX8_event_X8_isWithin : GoodIn wsX8_event (va_wsS RX8 30 yX8_isWithin wsX8_isWithin) := goodIn_app (goodIn_of _ (by decide +kernel)) ggX8_event_X8_isWithin
set_option maxRecDepth 20000 in
theorem ggX8_event_X3_keep : GoodIn wsX8_event wsX3_keep := goodIn_r _ [15, 16, 17, 18, 19, 20, 21, 22, 23, 24, 25, 26, 27, 28, 29, 30, 31, 32, 33, 34, 35, 36, 37, 38, 39, 40, 41, 42, 43, 44, 45, 46, 47, 48, 49, 50, 51, 52, 53, 54, 55, 56, 57, 58, 59, 60, 61, 62, 63, 64, 65, 66, 67, 68, 69, 70, 71, 72, 73, 74, 75, 76, 77, 78, 79, 80, 81, 82, 83, 84, 85, 86, 87, 88, 89, 90, 91, 92, 93, 94, 95, 96, 97, 98, 99, 100, 101, 102, 103, 104, 105, 106, 107, 108, 109, 110, 111, 112, 113, 114, 115, 116, 117, 118, 119, 120, 121, 264, 265, 266, 267, 268, 269, 270, 271, 272, 273, 274, 275, 276, 277, 278, 279, 280, 281, 282, 283, 284, 285, 286, 287, 288] (by decide +kernel) (by decide +kernel)
set_option maxRecDepth 20000 in
theorem gX8_event_X3_keep : GoodIn wsX8_event (wsV RX8 40 RX3 yX3_keep wsX3_keep) := goodIn_app (goodIn_of _ (by decide +kernel)) ggX8_event_X3_keep
set_option maxRecDepth 20000 in
theorem ggX8_event_X1_admit : GoodIn wsX8_event wsX1_admit := goodIn_r _ [125, 30, 38, 34, 42, 41, 43, 40, 126, 127, 128, 29, 129, 50, 130, 131, 132, 49, 133, 59, 60, 62, 134, 135, 136, 137, 94, 138, 139, 140, 21, 141, 142, 143, 144, 145, 39, 146, 147, 148, 149, 150, 151, 152, 33, 153, 67, 154, 155, 156, 157, 107, 158, 159, 160, 161, 162, 163, 164, 165, 166, 167, 168, 169, 170, 171, 172, 173, 174, 175, 176, 177, 178, 179, 180, 181, 37, 182, 183, 184, 185, 186, 187, 188, 189, 190, 83, 191, 192, 193, 194, 195, 196, 197, 198, 199, 200, 201, 202, 203, 204, 205, 206, 207, 208, 209, 210, 211, 212, 213, 214, 215, 216, 217, 218, 219, 220, 221, 222, 223, 224, 99, 100, 101, 102, 225, 226, 227, 228, 229, 230, 71, 231, 232, 233, 234, 235, 236, 237, 70, 238, 113, 77, 114, 115, 239, 240, 241, 242, 243, 244, 245, 246, 247, 248, 249, 250, 251, 252, 56, 57, 58, 253, 254, 255, 256, 9, 6, 10, 257, 258, 259, 260, 267, 268, 269, 270, 271, 272, 273, 274, 275, 276, 277, 282, 283, 284, 278, 279, 280, 281, 285, 286, 287, 288] (by decide +kernel) (by decide +kernel)
set_option maxRecDepth 20000 in
theorem gX8_event_X1_admit : GoodIn wsX8_event (wsV RX8 52 RX1 yX1_admit wsX1_admit) := goodIn_app (goodIn_of _ (by decide +kernel)) ggX8_event_X1_admit
theorem dX8_event_0 : decode cX8_event 0 = .ok (.iload_n 1, 1) := by decide +kernel
theorem dX8_event_1 : decode cX8_event 1 = .ok (.iload_n 2, 1) := by decide +kernel
theorem dX8_event_2 : decode cX8_event 2 = .ok (.iload_n 3, 1) := by decide +kernel
theorem dX8_event_3 : decode cX8_event 3 = .ok (.iload 4, 2) := by decide +kernel
theorem dX8_event_5 : decode cX8_event 5 = .ok (.invokestatic 48, 3) := by decide +kernel
theorem dX8_event_8 : decode cX8_event 8 = .ok (.ifCond .eq 13, 3) := by decide +kernel
theorem dX8_event_11 : decode cX8_event 11 = .ok (.iload 5, 2) := by decide +kernel
theorem dX8_event_13 : decode cX8_event 13 = .ok (.iconst 0, 1) := by decide +kernel
theorem dX8_event_14 : decode cX8_event 14 = .ok (.iconst 3, 1) := by decide +kernel
theorem dX8_event_15 : decode cX8_event 15 = .ok (.invokestatic 30, 3) := by decide +kernel
theorem dX8_event_18 : decode cX8_event 18 = .ok (.ifCond .ne 6, 3) := by decide +kernel
theorem dX8_event_21 : decode cX8_event 21 = .ok (.ldc 34, 2) := by decide +kernel
theorem dX8_event_23 : decode cX8_event 23 = .ok (.ireturn, 1) := by decide +kernel
theorem dX8_event_24 : decode cX8_event 24 = .ok (.aload_n 0, 1) := by decide +kernel
theorem dX8_event_25 : decode cX8_event 25 = .ok (.getfield 19, 3) := by decide +kernel
theorem dX8_event_28 : decode cX8_event 28 = .ok (.aload_n 0, 1) := by decide +kernel
theorem dX8_event_29 : decode cX8_event 29 = .ok (.getfield 10, 3) := by decide +kernel
theorem dX8_event_32 : decode cX8_event 32 = .ok (.invokevirtual 40, 3) := by decide +kernel
theorem dX8_event_35 : decode cX8_event 35 = .ok (.aload_n 0, 1) := by decide +kernel
theorem dX8_event_36 : decode cX8_event 36 = .ok (.getfield 10, 3) := by decide +kernel
theorem dX8_event_39 : decode cX8_event 39 = .ok (.iload_n 1, 1) := by decide +kernel
theorem dX8_event_40 : decode cX8_event 40 = .ok (.iload_n 2, 1) := by decide +kernel
theorem dX8_event_41 : decode cX8_event 41 = .ok (.iload_n 3, 1) := by decide +kernel
theorem dX8_event_42 : decode cX8_event 42 = .ok (.iload 4, 2) := by decide +kernel
theorem dX8_event_44 : decode cX8_event 44 = .ok (.iload 5, 2) := by decide +kernel
theorem dX8_event_46 : decode cX8_event 46 = .ok (.invokevirtual 52, 3) := by decide +kernel
theorem dX8_event_49 : decode cX8_event 49 = .ok (.ireturn, 1) := by decide +kernel
set_option maxRecDepth 20000 in
theorem ggX8_move_X8_isWithin : GoodIn wsX8_move wsX8_isWithin := goodIn_r _ [8] (by decide +kernel) (by decide +kernel)
set_option maxRecDepth 20000 in
theorem gX8_move_X8_isWithin : GoodIn wsX8_move (va_wsS RX8 30 yX8_isWithin wsX8_isWithin) := goodIn_app (goodIn_of _ (by decide +kernel)) ggX8_move_X8_isWithin
set_option maxRecDepth 20000 in
theorem ggX8_move_X1_canMoveBack : GoodIn wsX8_move wsX1_canMoveBack := goodIn_r _ [13, 14, 15, 181, 182, 183, 184, 185, 186, 187, 188, 189] (by decide +kernel) (by decide +kernel)
set_option maxRecDepth 20000 in
theorem gX8_move_X1_canMoveBack : GoodIn wsX8_move (wsV RX8 56 RX1 yX1_canMoveBack wsX1_canMoveBack) := goodIn_app (goodIn_of _ (by decide +kernel)) ggX8_move_X1_canMoveBack
set_option maxRecDepth 20000 in
theorem ggX8_move_X3_keep : GoodIn wsX8_move wsX3_keep := goodIn_r _ [20, 21, 22, 23, 24, 25, 12, 26, 27, 28, 29, 30, 31, 32, 33, 34, 35, 36, 37, 38, 39, 40, 41, 42, 43, 44, 45, 15, 46, 47, 48, 49, 50, 51, 52, 53, 54, 55, 56, 57, 58, 59, 60, 61, 62, 63, 64, 65, 66, 67, 68, 69, 70, 71, 72, 73, 74, 75, 76, 77, 78, 79, 80, 81, 82, 83, 84, 85, 86, 87, 88, 89, 90, 91, 14, 92, 93, 94, 95, 96, 97, 98, 99, 100, 101, 102, 103, 104, 105, 106, 107, 108, 109, 110, 111, 112, 113, 114, 115, 116, 117, 118, 119, 120, 121, 122, 123, 190, 191, 192, 181, 182, 183, 184, 185, 186, 187, 188, 189, 193, 194, 195, 196, 197, 198, 199, 200, 201, 202, 203, 204, 205] (by decide +kernel) (by decide +kernel)
set_option maxRecDepth 20000 in
theorem gX8_move_X3_keep : GoodIn wsX8_move (wsV RX8 40 RX3 yX3_keep wsX3_keep) := goodIn_app (goodIn_of _ (by decide +kernel)) ggX8_move_X3_keep
set_option maxRecDepth 20000 in
theorem ggX8_move_X1_moveBack : GoodIn wsX8_move wsX1_moveBack := goodIn_r _ [127, 15, 128, 59, 60, 61, 38, 14, 129, 130, 131, 12, 132, 43, 133, 134, 135, 136, 137, 138, 139, 37, 140, 70, 141, 142, 143, 144, 109, 145, 146, 147, 52, 148, 62, 63, 65, 149, 150, 151, 152, 153, 154, 155, 156, 157, 158, 159, 160, 74, 161, 162, 163, 164, 165, 166, 167, 168, 169, 170, 171, 73, 172, 115, 80, 116, 117, 173, 174, 175, 176, 101, 102, 103, 104, 177, 181, 182, 183, 184, 185, 186, 187, 188, 189, 195, 196, 197, 199, 200, 201, 202, 203, 204, 205] (by decide +kernel) (by decide +kernel)
set_option maxRecDepth 20000 in
theorem gX8_move_X1_moveBack : GoodIn wsX8_move (wsV RX8 59 RX1 yX1_moveBack wsX1_moveBack) := goodIn_app (goodIn_of _ (by decide +kernel)) ggX8_move_X1_moveBack
theorem dX8_move_0 : decode cX8_move 0 = .ok (.iload_n 1, 1) := by decide +kernel
theorem dX8_move_1 : decode cX8_move 1 = .ok (.iconst 1, 1) := by decide +kernel
theorem dX8_move_2 : decode cX8_move 2 = .ok (.bipush 100, 2) := by decide +kernel
theorem dX8_move_4 : decode cX8_move 4 = .ok (.invokestatic 30, 3) := by decide +kernel
theorem dX8_move_7 : decode cX8_move 7 = .ok (.ifCond .ne 6, 3) := by decide +kernel
theorem dX8_move_10 : decode cX8_move 10 = .ok (.ldc 34, 2) := by decide +kernel
theorem dX8_move_12 : decode cX8_move 12 = .ok (.ireturn, 1) := by decide +kernel
theorem dX8_move_13 : decode cX8_move 13 = .ok (.aload_n 0, 1) := by decide +kernel
theorem dX8_move_14 : decode cX8_move 14 = .ok (.getfield 10, 3) := by decide +kernel
theorem dX8_move_17 : decode cX8_move 17 = .ok (.invokevirtual 56, 3) := by decide +kernel
theorem dX8_move_20 : decode cX8_move 20 = .ok (.ifCond .ne 6, 3) := by decide +kernel
theorem dX8_move_23 : decode cX8_move 23 = .ok (.ldc 39, 2) := by decide +kernel
theorem dX8_move_25 : decode cX8_move 25 = .ok (.ireturn, 1) := by decide +kernel
theorem dX8_move_26 : decode cX8_move 26 = .ok (.aload_n 0, 1) := by decide +kernel
theorem dX8_move_27 : decode cX8_move 27 = .ok (.getfield 19, 3) := by decide +kernel
theorem dX8_move_30 : decode cX8_move 30 = .ok (.aload_n 0, 1) := by decide +kernel
theorem dX8_move_31 : decode cX8_move 31 = .ok (.getfield 10, 3) := by decide +kernel
theorem dX8_move_34 : decode cX8_move 34 = .ok (.invokevirtual 40, 3) := by decide +kernel
theorem dX8_move_37 : decode cX8_move 37 = .ok (.aload_n 0, 1) := by decide +kernel
theorem dX8_move_38 : decode cX8_move 38 = .ok (.getfield 10, 3) := by decide +kernel
theorem dX8_move_41 : decode cX8_move 41 = .ok (.iload_n 1, 1) := by decide +kernel
theorem dX8_move_42 : decode cX8_move 42 = .ok (.invokevirtual 59, 3) := by decide +kernel
theorem dX8_move_45 : decode cX8_move 45 = .ok (.ireturn, 1) := by decide +kernel
set_option maxRecDepth 20000 in
theorem ggX8_paneOf_X1_hasTimes : GoodIn wsX8_paneOf wsX1_hasTimes := goodIn_r _ [8, 9, 10, 11, 12, 51, 52, 53, 54, 55, 56, 57, 58, 59] (by decide +kernel) (by decide +kernel)
set_option maxRecDepth 20000 in
theorem gX8_paneOf_X1_hasTimes : GoodIn wsX8_paneOf (wsV RX8 63 RX1 yX1_hasTimes wsX1_hasTimes) := goodIn_app (goodIn_of _ (by decide +kernel)) ggX8_paneOf_X1_hasTimes
set_option maxRecDepth 20000 in
theorem ggX8_paneOf_X8_isWithin : GoodIn wsX8_paneOf wsX8_isWithin := goodIn_r _ [12] (by decide +kernel) (by decide +kernel)
set_option maxRecDepth 20000 in
theorem gX8_paneOf_X8_isWithin : GoodIn wsX8_paneOf (va_wsS RX8 30 yX8_isWithin wsX8_isWithin) := goodIn_app (goodIn_of _ (by decide +kernel)) ggX8_paneOf_X8_isWithin
set_option maxRecDepth 20000 in
theorem ggX8_paneOf_X1_stateOf : GoodIn wsX8_paneOf wsX1_stateOf := goodIn_r _ [17, 18, 19, 20, 21, 22, 23, 24, 25, 26, 27, 28, 29, 30, 31, 32, 33, 34, 35, 36, 37, 38, 39, 40, 41, 7, 42, 9, 51, 52, 53, 54, 55, 56, 57, 58, 59, 60, 61, 62, 63, 64, 65] (by decide +kernel) (by decide +kernel)
set_option maxRecDepth 20000 in
theorem gX8_paneOf_X1_stateOf : GoodIn wsX8_paneOf (wsV RX8 67 RX1 yX1_stateOf wsX1_stateOf) := goodIn_app (goodIn_of _ (by decide +kernel)) ggX8_paneOf_X1_stateOf
set_option maxRecDepth 20000 in
theorem ggX8_paneOf_X1_panes : GoodIn wsX8_paneOf wsX1_panes := goodIn_r _ [46, 18, 51, 52, 53, 54, 55, 56, 57, 58, 59] (by decide +kernel) (by decide +kernel)
set_option maxRecDepth 20000 in
theorem gX8_paneOf_X1_panes : GoodIn wsX8_paneOf (wsV RX8 73 RX1 yX1_panes wsX1_panes) := goodIn_app (goodIn_of _ (by decide +kernel)) ggX8_paneOf_X1_panes
set_option maxRecDepth 20000 in
theorem ggX8_paneOf_X4_read : GoodIn wsX8_paneOf wsX4_read := goodIn_r _ [24, 25, 26, 27, 28, 23, 29, 30, 31, 32, 33, 34, 35, 36, 37, 38, 60, 61, 62, 63, 64, 65] (by decide +kernel) (by decide +kernel)
set_option maxRecDepth 20000 in
theorem gX8_paneOf_X4_read : GoodIn wsX8_paneOf (wsV RX8 77 RX4 yX4_read wsX4_read) := goodIn_app (goodIn_of _ (by decide +kernel)) ggX8_paneOf_X4_read
theorem dX8_paneOf_0 : decode cX8_paneOf 0 = .ok (.aload_n 0, 1) := by decide +kernel
theorem dX8_paneOf_1 : decode cX8_paneOf 1 = .ok (.getfield 10, 3) := by decide +kernel
theorem dX8_paneOf_4 : decode cX8_paneOf 4 = .ok (.iload_n 1, 1) := by decide +kernel
theorem dX8_paneOf_5 : decode cX8_paneOf 5 = .ok (.invokevirtual 63, 3) := by decide +kernel
theorem dX8_paneOf_8 : decode cX8_paneOf 8 = .ok (.ifCond .eq 13, 3) := by decide +kernel
theorem dX8_paneOf_11 : decode cX8_paneOf 11 = .ok (.iload_n 2, 1) := by decide +kernel
theorem dX8_paneOf_12 : decode cX8_paneOf 12 = .ok (.iconst 0, 1) := by decide +kernel
theorem dX8_paneOf_13 : decode cX8_paneOf 13 = .ok (.bipush 6, 2) := by decide +kernel
theorem dX8_paneOf_15 : decode cX8_paneOf 15 = .ok (.invokestatic 30, 3) := by decide +kernel
theorem dX8_paneOf_18 : decode cX8_paneOf 18 = .ok (.ifCond .ne 6, 3) := by decide +kernel
theorem dX8_paneOf_21 : decode cX8_paneOf 21 = .ok (.ldc 34, 2) := by decide +kernel
theorem dX8_paneOf_23 : decode cX8_paneOf 23 = .ok (.ireturn, 1) := by decide +kernel
theorem dX8_paneOf_24 : decode cX8_paneOf 24 = .ok (.iload_n 2, 1) := by decide +kernel
theorem dX8_paneOf_25 : decode cX8_paneOf 25 = .ok (.ifCond .ne 12, 3) := by decide +kernel
theorem dX8_paneOf_28 : decode cX8_paneOf 28 = .ok (.aload_n 0, 1) := by decide +kernel
theorem dX8_paneOf_29 : decode cX8_paneOf 29 = .ok (.getfield 10, 3) := by decide +kernel
theorem dX8_paneOf_32 : decode cX8_paneOf 32 = .ok (.iload_n 1, 1) := by decide +kernel
theorem dX8_paneOf_33 : decode cX8_paneOf 33 = .ok (.invokevirtual 67, 3) := by decide +kernel
theorem dX8_paneOf_36 : decode cX8_paneOf 36 = .ok (.ireturn, 1) := by decide +kernel
theorem dX8_paneOf_37 : decode cX8_paneOf 37 = .ok (.iload_n 2, 1) := by decide +kernel
theorem dX8_paneOf_38 : decode cX8_paneOf 38 = .ok (.iconst 4, 1) := by decide +kernel
theorem dX8_paneOf_39 : decode cX8_paneOf 39 = .ok (.if_icmp .ne 18, 3) := by decide +kernel
theorem dX8_paneOf_42 : decode cX8_paneOf 42 = .ok (.aload_n 0, 1) := by decide +kernel
theorem dX8_paneOf_43 : decode cX8_paneOf 43 = .ok (.getfield 10, 3) := by decide +kernel
theorem dX8_paneOf_46 : decode cX8_paneOf 46 = .ok (.iload_n 1, 1) := by decide +kernel
theorem dX8_paneOf_47 : decode cX8_paneOf 47 = .ok (.invokevirtual 67, 3) := by decide +kernel
theorem dX8_paneOf_50 : decode cX8_paneOf 50 = .ok (.iconst 2, 1) := by decide +kernel
theorem dX8_paneOf_51 : decode cX8_paneOf 51 = .ok (.if_icmp .eq 6, 3) := by decide +kernel
theorem dX8_paneOf_54 : decode cX8_paneOf 54 = .ok (.ldc 72, 2) := by decide +kernel
theorem dX8_paneOf_56 : decode cX8_paneOf 56 = .ok (.ireturn, 1) := by decide +kernel
theorem dX8_paneOf_57 : decode cX8_paneOf 57 = .ok (.aload_n 0, 1) := by decide +kernel
theorem dX8_paneOf_58 : decode cX8_paneOf 58 = .ok (.getfield 10, 3) := by decide +kernel
theorem dX8_paneOf_61 : decode cX8_paneOf 61 = .ok (.invokevirtual 73, 3) := by decide +kernel
theorem dX8_paneOf_64 : decode cX8_paneOf 64 = .ok (.iload_n 1, 1) := by decide +kernel
theorem dX8_paneOf_65 : decode cX8_paneOf 65 = .ok (.iload_n 2, 1) := by decide +kernel
theorem dX8_paneOf_66 : decode cX8_paneOf 66 = .ok (.invokevirtual 77, 3) := by decide +kernel
theorem dX8_paneOf_69 : decode cX8_paneOf 69 = .ok (.ireturn, 1) := by decide +kernel
set_option maxRecDepth 20000 in
theorem ggX8_mean_X1_hasTimes : GoodIn wsX8_mean wsX1_hasTimes := goodIn_r _ [8, 9, 10, 11, 12, 46, 47, 48, 49, 50, 51, 52, 53, 54] (by decide +kernel) (by decide +kernel)
set_option maxRecDepth 20000 in
theorem gX8_mean_X1_hasTimes : GoodIn wsX8_mean (wsV RX8 63 RX1 yX1_hasTimes wsX1_hasTimes) := goodIn_app (goodIn_of _ (by decide +kernel)) ggX8_mean_X1_hasTimes
set_option maxRecDepth 20000 in
theorem ggX8_mean_X1_panes : GoodIn wsX8_mean wsX1_panes := goodIn_r _ [16, 17, 46, 47, 48, 49, 50, 51, 52, 53, 54] (by decide +kernel) (by decide +kernel)
set_option maxRecDepth 20000 in
theorem gX8_mean_X1_panes : GoodIn wsX8_mean (wsV RX8 73 RX1 yX1_panes wsX1_panes) := goodIn_app (goodIn_of _ (by decide +kernel)) ggX8_mean_X1_panes
set_option maxRecDepth 20000 in
theorem ggX8_mean_X4_read : GoodIn wsX8_mean wsX4_read := goodIn_r _ [22, 23, 24, 25, 26, 21, 27, 28, 29, 30, 31, 32, 33, 34, 35, 36, 55, 56, 57, 58, 59, 60] (by decide +kernel) (by decide +kernel)
set_option maxRecDepth 20000 in
theorem gX8_mean_X4_read : GoodIn wsX8_mean (wsV RX8 77 RX4 yX4_read wsX4_read) := goodIn_app (goodIn_of _ (by decide +kernel)) ggX8_mean_X4_read
set_option maxRecDepth 20000 in
theorem ggX8_mean_X8_bitsOf : GoodIn wsX8_mean wsX8_bitsOf := goodIn_r _ [39, 40, 41, 42] (by decide +kernel) (by decide +kernel)
set_option maxRecDepth 20000 in
theorem gX8_mean_X8_bitsOf : GoodIn wsX8_mean (va_wsS RX8 80 yX8_bitsOf wsX8_bitsOf) := goodIn_app (goodIn_of _ (by decide +kernel)) ggX8_mean_X8_bitsOf
theorem dX8_mean_0 : decode cX8_mean 0 = .ok (.aload_n 0, 1) := by decide +kernel
theorem dX8_mean_1 : decode cX8_mean 1 = .ok (.getfield 10, 3) := by decide +kernel
theorem dX8_mean_4 : decode cX8_mean 4 = .ok (.iload_n 1, 1) := by decide +kernel
theorem dX8_mean_5 : decode cX8_mean 5 = .ok (.invokevirtual 63, 3) := by decide +kernel
theorem dX8_mean_8 : decode cX8_mean 8 = .ok (.ifCond .ne 6, 3) := by decide +kernel
theorem dX8_mean_11 : decode cX8_mean 11 = .ok (.ldc 34, 2) := by decide +kernel
theorem dX8_mean_13 : decode cX8_mean 13 = .ok (.ireturn, 1) := by decide +kernel
theorem dX8_mean_14 : decode cX8_mean 14 = .ok (.aload_n 0, 1) := by decide +kernel
theorem dX8_mean_15 : decode cX8_mean 15 = .ok (.getfield 10, 3) := by decide +kernel
theorem dX8_mean_18 : decode cX8_mean 18 = .ok (.invokevirtual 73, 3) := by decide +kernel
theorem dX8_mean_21 : decode cX8_mean 21 = .ok (.iload_n 1, 1) := by decide +kernel
theorem dX8_mean_22 : decode cX8_mean 22 = .ok (.iconst 1, 1) := by decide +kernel
theorem dX8_mean_23 : decode cX8_mean 23 = .ok (.invokevirtual 77, 3) := by decide +kernel
theorem dX8_mean_26 : decode cX8_mean 26 = .ok (.istore_n 2, 1) := by decide +kernel
theorem dX8_mean_27 : decode cX8_mean 27 = .ok (.iload_n 2, 1) := by decide +kernel
theorem dX8_mean_28 : decode cX8_mean 28 = .ok (.ifCond .gt 6, 3) := by decide +kernel
theorem dX8_mean_31 : decode cX8_mean 31 = .ok (.ldc 72, 2) := by decide +kernel
theorem dX8_mean_33 : decode cX8_mean 33 = .ok (.ireturn, 1) := by decide +kernel
theorem dX8_mean_34 : decode cX8_mean 34 = .ok (.aload_n 0, 1) := by decide +kernel
theorem dX8_mean_35 : decode cX8_mean 35 = .ok (.getfield 10, 3) := by decide +kernel
theorem dX8_mean_38 : decode cX8_mean 38 = .ok (.invokevirtual 73, 3) := by decide +kernel
theorem dX8_mean_41 : decode cX8_mean 41 = .ok (.iload_n 1, 1) := by decide +kernel
theorem dX8_mean_42 : decode cX8_mean 42 = .ok (.iconst 2, 1) := by decide +kernel
theorem dX8_mean_43 : decode cX8_mean 43 = .ok (.invokevirtual 77, 3) := by decide +kernel
theorem dX8_mean_46 : decode cX8_mean 46 = .ok (.i2f, 1) := by decide +kernel
theorem dX8_mean_47 : decode cX8_mean 47 = .ok (.iload_n 2, 1) := by decide +kernel
theorem dX8_mean_48 : decode cX8_mean 48 = .ok (.i2f, 1) := by decide +kernel
theorem dX8_mean_49 : decode cX8_mean 49 = .ok (.fdiv, 1) := by decide +kernel
theorem dX8_mean_50 : decode cX8_mean 50 = .ok (.invokestatic 80, 3) := by decide +kernel
theorem dX8_mean_53 : decode cX8_mean 53 = .ok (.ireturn, 1) := by decide +kernel
set_option maxRecDepth 20000 in
theorem ggX8_standing_X1_hasTimes : GoodIn wsX8_standing wsX1_hasTimes := goodIn_r _ [8, 9, 10, 11, 12, 49, 50, 51, 52, 53, 54, 55, 56, 57] (by decide +kernel) (by decide +kernel)
set_option maxRecDepth 20000 in
theorem gX8_standing_X1_hasTimes : GoodIn wsX8_standing (wsV RX8 63 RX1 yX1_hasTimes wsX1_hasTimes) := goodIn_app (goodIn_of _ (by decide +kernel)) ggX8_standing_X1_hasTimes
set_option maxRecDepth 20000 in
theorem ggX8_standing_X8_isWithin : GoodIn wsX8_standing wsX8_isWithin := goodIn_r _ [12] (by decide +kernel) (by decide +kernel)
set_option maxRecDepth 20000 in
theorem gX8_standing_X8_isWithin : GoodIn wsX8_standing (va_wsS RX8 30 yX8_isWithin wsX8_isWithin) := goodIn_app (goodIn_of _ (by decide +kernel)) ggX8_standing_X8_isWithin
set_option maxRecDepth 20000 in
theorem ggX8_standing_X1_panes : GoodIn wsX8_standing wsX1_panes := goodIn_r _ [17, 18, 49, 50, 51, 52, 53, 54, 55, 56, 57] (by decide +kernel) (by decide +kernel)
set_option maxRecDepth 20000 in
theorem gX8_standing_X1_panes : GoodIn wsX8_standing (wsV RX8 73 RX1 yX1_panes wsX1_panes) := goodIn_app (goodIn_of _ (by decide +kernel)) ggX8_standing_X1_panes
set_option maxRecDepth 20000 in
theorem ggX8_standing_X4_hasWord : GoodIn wsX8_standing wsX4_hasWord := goodIn_r _ [23, 24, 25, 26, 22, 27, 28, 29, 30, 31, 32, 33, 34, 35, 36, 37, 38, 39, 40, 41, 58, 59, 60, 61, 62, 63] (by decide +kernel) (by decide +kernel)
set_option maxRecDepth 20000 in
theorem gX8_standing_X4_hasWord : GoodIn wsX8_standing (wsV RX8 84 RX4 yX4_hasWord wsX4_hasWord) := goodIn_app (goodIn_of _ (by decide +kernel)) ggX8_standing_X4_hasWord
set_option maxRecDepth 20000 in
theorem ggX8_standing_X4_read : GoodIn wsX8_standing wsX4_read := goodIn_r _ [45, 29, 24, 25, 26, 22, 27, 28, 30, 31, 32, 33, 34, 35, 36, 37, 58, 59, 60, 61, 62, 63] (by decide +kernel) (by decide +kernel)
set_option maxRecDepth 20000 in
theorem gX8_standing_X4_read : GoodIn wsX8_standing (wsV RX8 77 RX4 yX4_read wsX4_read) := goodIn_app (goodIn_of _ (by decide +kernel)) ggX8_standing_X4_read
theorem dX8_standing_0 : decode cX8_standing 0 = .ok (.aload_n 0, 1) := by decide +kernel
theorem dX8_standing_1 : decode cX8_standing 1 = .ok (.getfield 10, 3) := by decide +kernel
theorem dX8_standing_4 : decode cX8_standing 4 = .ok (.iload_n 1, 1) := by decide +kernel
theorem dX8_standing_5 : decode cX8_standing 5 = .ok (.invokevirtual 63, 3) := by decide +kernel
theorem dX8_standing_8 : decode cX8_standing 8 = .ok (.ifCond .eq 12, 3) := by decide +kernel
theorem dX8_standing_11 : decode cX8_standing 11 = .ok (.iload_n 2, 1) := by decide +kernel
theorem dX8_standing_12 : decode cX8_standing 12 = .ok (.iconst 0, 1) := by decide +kernel
theorem dX8_standing_13 : decode cX8_standing 13 = .ok (.iconst 1, 1) := by decide +kernel
theorem dX8_standing_14 : decode cX8_standing 14 = .ok (.invokestatic 30, 3) := by decide +kernel
theorem dX8_standing_17 : decode cX8_standing 17 = .ok (.ifCond .ne 6, 3) := by decide +kernel
theorem dX8_standing_20 : decode cX8_standing 20 = .ok (.ldc 34, 2) := by decide +kernel
theorem dX8_standing_22 : decode cX8_standing 22 = .ok (.ireturn, 1) := by decide +kernel
theorem dX8_standing_23 : decode cX8_standing 23 = .ok (.aload_n 0, 1) := by decide +kernel
theorem dX8_standing_24 : decode cX8_standing 24 = .ok (.getfield 10, 3) := by decide +kernel
theorem dX8_standing_27 : decode cX8_standing 27 = .ok (.invokevirtual 73, 3) := by decide +kernel
theorem dX8_standing_30 : decode cX8_standing 30 = .ok (.iload_n 1, 1) := by decide +kernel
theorem dX8_standing_31 : decode cX8_standing 31 = .ok (.invokevirtual 84, 3) := by decide +kernel
theorem dX8_standing_34 : decode cX8_standing 34 = .ok (.ifCond .ne 6, 3) := by decide +kernel
theorem dX8_standing_37 : decode cX8_standing 37 = .ok (.ldc 72, 2) := by decide +kernel
theorem dX8_standing_39 : decode cX8_standing 39 = .ok (.ireturn, 1) := by decide +kernel
theorem dX8_standing_40 : decode cX8_standing 40 = .ok (.aload_n 0, 1) := by decide +kernel
theorem dX8_standing_41 : decode cX8_standing 41 = .ok (.getfield 10, 3) := by decide +kernel
theorem dX8_standing_44 : decode cX8_standing 44 = .ok (.invokevirtual 73, 3) := by decide +kernel
theorem dX8_standing_47 : decode cX8_standing 47 = .ok (.iload_n 1, 1) := by decide +kernel
theorem dX8_standing_48 : decode cX8_standing 48 = .ok (.iload_n 2, 1) := by decide +kernel
theorem dX8_standing_49 : decode cX8_standing 49 = .ok (.ifCond .ne 7, 3) := by decide +kernel
theorem dX8_standing_52 : decode cX8_standing 52 = .ok (.iconst 1, 1) := by decide +kernel
theorem dX8_standing_53 : decode cX8_standing 53 = .ok (.goto 4, 3) := by decide +kernel
theorem dX8_standing_56 : decode cX8_standing 56 = .ok (.iconst 2, 1) := by decide +kernel
theorem dX8_standing_57 : decode cX8_standing 57 = .ok (.invokevirtual 77, 3) := by decide +kernel
theorem dX8_standing_60 : decode cX8_standing 60 = .ok (.ireturn, 1) := by decide +kernel
set_option maxRecDepth 20000 in
theorem ggX8_nextPane_X8_isWithin : GoodIn wsX8_nextPane wsX8_isWithin := goodIn_r _ [6] (by decide +kernel) (by decide +kernel)
set_option maxRecDepth 20000 in
theorem gX8_nextPane_X8_isWithin : GoodIn wsX8_nextPane (va_wsS RX8 30 yX8_isWithin wsX8_isWithin) := goodIn_app (goodIn_of _ (by decide +kernel)) ggX8_nextPane_X8_isWithin
set_option maxRecDepth 20000 in
theorem ggX8_nextPane_X1_panes : GoodIn wsX8_nextPane wsX1_panes := goodIn_r _ [11, 12, 36, 37, 38, 39, 40, 41, 42, 43, 44] (by decide +kernel) (by decide +kernel)
set_option maxRecDepth 20000 in
theorem gX8_nextPane_X1_panes : GoodIn wsX8_nextPane (wsV RX8 73 RX1 yX1_panes wsX1_panes) := goodIn_app (goodIn_of _ (by decide +kernel)) ggX8_nextPane_X1_panes
set_option maxRecDepth 20000 in
theorem ggX8_nextPane_X4_behind : GoodIn wsX8_nextPane wsX4_behind := goodIn_r _ [17, 18, 19, 20, 21, 22, 23, 16, 24, 25, 26, 27, 28, 29, 30, 31, 32, 45, 46, 47, 48, 49, 50] (by decide +kernel) (by decide +kernel)
set_option maxRecDepth 20000 in
theorem gX8_nextPane_X4_behind : GoodIn wsX8_nextPane (wsV RX8 87 RX4 yX4_behind wsX4_behind) := goodIn_app (goodIn_of _ (by decide +kernel)) ggX8_nextPane_X4_behind
theorem dX8_nextPane_0 : decode cX8_nextPane 0 = .ok (.iload_n 1, 1) := by decide +kernel
theorem dX8_nextPane_1 : decode cX8_nextPane 1 = .ok (.iconst (-1), 1) := by decide +kernel
theorem dX8_nextPane_2 : decode cX8_nextPane 2 = .ok (.sipush 1999, 3) := by decide +kernel
theorem dX8_nextPane_5 : decode cX8_nextPane 5 = .ok (.invokestatic 30, 3) := by decide +kernel
theorem dX8_nextPane_8 : decode cX8_nextPane 8 = .ok (.ifCond .ne 6, 3) := by decide +kernel
theorem dX8_nextPane_11 : decode cX8_nextPane 11 = .ok (.ldc 34, 2) := by decide +kernel
theorem dX8_nextPane_13 : decode cX8_nextPane 13 = .ok (.ireturn, 1) := by decide +kernel
theorem dX8_nextPane_14 : decode cX8_nextPane 14 = .ok (.aload_n 0, 1) := by decide +kernel
theorem dX8_nextPane_15 : decode cX8_nextPane 15 = .ok (.getfield 10, 3) := by decide +kernel
theorem dX8_nextPane_18 : decode cX8_nextPane 18 = .ok (.invokevirtual 73, 3) := by decide +kernel
theorem dX8_nextPane_21 : decode cX8_nextPane 21 = .ok (.iload_n 1, 1) := by decide +kernel
theorem dX8_nextPane_22 : decode cX8_nextPane 22 = .ok (.invokevirtual 87, 3) := by decide +kernel
theorem dX8_nextPane_25 : decode cX8_nextPane 25 = .ok (.ireturn, 1) := by decide +kernel
set_option maxRecDepth 20000 in
theorem ggX8_wordAt_X8_isWithin : GoodIn wsX8_wordAt wsX8_isWithin := goodIn_r _ [6] (by decide +kernel) (by decide +kernel)
set_option maxRecDepth 20000 in
theorem gX8_wordAt_X8_isWithin : GoodIn wsX8_wordAt (va_wsS RX8 30 yX8_isWithin wsX8_isWithin) := goodIn_app (goodIn_of _ (by decide +kernel)) ggX8_wordAt_X8_isWithin
set_option maxRecDepth 20000 in
theorem ggX8_wordAt_X1_panes : GoodIn wsX8_wordAt wsX1_panes := goodIn_r _ [11, 12, 38, 39, 40, 41, 42, 43, 44, 45, 46] (by decide +kernel) (by decide +kernel)
set_option maxRecDepth 20000 in
theorem gX8_wordAt_X1_panes : GoodIn wsX8_wordAt (wsV RX8 73 RX1 yX1_panes wsX1_panes) := goodIn_app (goodIn_of _ (by decide +kernel)) ggX8_wordAt_X1_panes
set_option maxRecDepth 20000 in
theorem ggX8_wordAt_X4_words : GoodIn wsX8_wordAt wsX4_words := goodIn_r _ [17, 18, 47, 48, 49] (by decide +kernel) (by decide +kernel)
set_option maxRecDepth 20000 in
theorem gX8_wordAt_X4_words : GoodIn wsX8_wordAt (wsV RX8 90 RX4 yX4_words wsX4_words) := goodIn_app (goodIn_of _ (by decide +kernel)) ggX8_wordAt_X4_words
set_option maxRecDepth 20000 in
theorem ggX8_wordAt_X7_read : GoodIn wsX8_wordAt wsX7_read := goodIn_r _ [23, 24, 25, 26, 27, 28, 29, 30, 31, 32, 33, 34, 50, 51, 52, 53, 54, 55, 56] (by decide +kernel) (by decide +kernel)
set_option maxRecDepth 20000 in
theorem gX8_wordAt_X7_read : GoodIn wsX8_wordAt (wsV RX8 94 RX7 yX7_read wsX7_read) := goodIn_app (goodIn_of _ (by decide +kernel)) ggX8_wordAt_X7_read
theorem dX8_wordAt_0 : decode cX8_wordAt 0 = .ok (.iload_n 1, 1) := by decide +kernel
theorem dX8_wordAt_1 : decode cX8_wordAt 1 = .ok (.ifCond .lt 12, 3) := by decide +kernel
theorem dX8_wordAt_4 : decode cX8_wordAt 4 = .ok (.iload_n 2, 1) := by decide +kernel
theorem dX8_wordAt_5 : decode cX8_wordAt 5 = .ok (.iconst 0, 1) := by decide +kernel
theorem dX8_wordAt_6 : decode cX8_wordAt 6 = .ok (.iconst 3, 1) := by decide +kernel
theorem dX8_wordAt_7 : decode cX8_wordAt 7 = .ok (.invokestatic 30, 3) := by decide +kernel
theorem dX8_wordAt_10 : decode cX8_wordAt 10 = .ok (.ifCond .ne 6, 3) := by decide +kernel
theorem dX8_wordAt_13 : decode cX8_wordAt 13 = .ok (.ldc 34, 2) := by decide +kernel
theorem dX8_wordAt_15 : decode cX8_wordAt 15 = .ok (.ireturn, 1) := by decide +kernel
theorem dX8_wordAt_16 : decode cX8_wordAt 16 = .ok (.aload_n 0, 1) := by decide +kernel
theorem dX8_wordAt_17 : decode cX8_wordAt 17 = .ok (.getfield 10, 3) := by decide +kernel
theorem dX8_wordAt_20 : decode cX8_wordAt 20 = .ok (.invokevirtual 73, 3) := by decide +kernel
theorem dX8_wordAt_23 : decode cX8_wordAt 23 = .ok (.invokevirtual 90, 3) := by decide +kernel
theorem dX8_wordAt_26 : decode cX8_wordAt 26 = .ok (.iload_n 1, 1) := by decide +kernel
theorem dX8_wordAt_27 : decode cX8_wordAt 27 = .ok (.iload_n 2, 1) := by decide +kernel
theorem dX8_wordAt_28 : decode cX8_wordAt 28 = .ok (.invokevirtual 94, 3) := by decide +kernel
theorem dX8_wordAt_31 : decode cX8_wordAt 31 = .ok (.ireturn, 1) := by decide +kernel
set_option maxRecDepth 20000 in
theorem ggX8_eventOf_X8_isWithin : GoodIn wsX8_eventOf wsX8_isWithin := goodIn_r _ [6] (by decide +kernel) (by decide +kernel)
set_option maxRecDepth 20000 in
theorem gX8_eventOf_X8_isWithin : GoodIn wsX8_eventOf (va_wsS RX8 30 yX8_isWithin wsX8_isWithin) := goodIn_app (goodIn_of _ (by decide +kernel)) ggX8_eventOf_X8_isWithin
set_option maxRecDepth 20000 in
theorem ggX8_eventOf_X1_events : GoodIn wsX8_eventOf wsX1_events := goodIn_r _ [11, 12, 35, 36, 37, 38, 39, 40, 41, 42, 43] (by decide +kernel) (by decide +kernel)
set_option maxRecDepth 20000 in
theorem gX8_eventOf_X1_events : GoodIn wsX8_eventOf (wsV RX8 97 RX1 yX1_events wsX1_events) := goodIn_app (goodIn_of _ (by decide +kernel)) ggX8_eventOf_X1_events
set_option maxRecDepth 20000 in
theorem ggX8_eventOf_X2_read : GoodIn wsX8_eventOf wsX2_read := goodIn_r _ [17, 18, 19, 20, 21, 22, 16, 23, 24, 25, 26, 27, 28, 29, 30, 31, 44, 45, 46, 47, 48] (by decide +kernel) (by decide +kernel)
set_option maxRecDepth 20000 in
theorem gX8_eventOf_X2_read : GoodIn wsX8_eventOf (wsV RX8 101 RX2 yX2_read wsX2_read) := goodIn_app (goodIn_of _ (by decide +kernel)) ggX8_eventOf_X2_read
theorem dX8_eventOf_0 : decode cX8_eventOf 0 = .ok (.iload_n 1, 1) := by decide +kernel
theorem dX8_eventOf_1 : decode cX8_eventOf 1 = .ok (.iconst 0, 1) := by decide +kernel
theorem dX8_eventOf_2 : decode cX8_eventOf 2 = .ok (.bipush 63, 2) := by decide +kernel
theorem dX8_eventOf_4 : decode cX8_eventOf 4 = .ok (.invokestatic 30, 3) := by decide +kernel
theorem dX8_eventOf_7 : decode cX8_eventOf 7 = .ok (.ifCond .eq 12, 3) := by decide +kernel
theorem dX8_eventOf_10 : decode cX8_eventOf 10 = .ok (.iload_n 2, 1) := by decide +kernel
theorem dX8_eventOf_11 : decode cX8_eventOf 11 = .ok (.iconst 0, 1) := by decide +kernel
theorem dX8_eventOf_12 : decode cX8_eventOf 12 = .ok (.iconst 5, 1) := by decide +kernel
theorem dX8_eventOf_13 : decode cX8_eventOf 13 = .ok (.invokestatic 30, 3) := by decide +kernel
theorem dX8_eventOf_16 : decode cX8_eventOf 16 = .ok (.ifCond .ne 6, 3) := by decide +kernel
theorem dX8_eventOf_19 : decode cX8_eventOf 19 = .ok (.ldc 34, 2) := by decide +kernel
theorem dX8_eventOf_21 : decode cX8_eventOf 21 = .ok (.ireturn, 1) := by decide +kernel
theorem dX8_eventOf_22 : decode cX8_eventOf 22 = .ok (.aload_n 0, 1) := by decide +kernel
theorem dX8_eventOf_23 : decode cX8_eventOf 23 = .ok (.getfield 10, 3) := by decide +kernel
theorem dX8_eventOf_26 : decode cX8_eventOf 26 = .ok (.invokevirtual 97, 3) := by decide +kernel
theorem dX8_eventOf_29 : decode cX8_eventOf 29 = .ok (.iload_n 1, 1) := by decide +kernel
theorem dX8_eventOf_30 : decode cX8_eventOf 30 = .ok (.iload_n 2, 1) := by decide +kernel
theorem dX8_eventOf_31 : decode cX8_eventOf 31 = .ok (.invokevirtual 101, 3) := by decide +kernel
theorem dX8_eventOf_34 : decode cX8_eventOf 34 = .ok (.ireturn, 1) := by decide +kernel
set_option maxRecDepth 20000 in
theorem ggX8_judge_X8_isWithin : GoodIn wsX8_judge wsX8_isWithin := goodIn_r _ [6] (by decide +kernel) (by decide +kernel)
set_option maxRecDepth 20000 in
theorem gX8_judge_X8_isWithin : GoodIn wsX8_judge (va_wsS RX8 30 yX8_isWithin wsX8_isWithin) := goodIn_app (goodIn_of _ (by decide +kernel)) ggX8_judge_X8_isWithin
set_option maxRecDepth 20000 in
theorem ggX8_judge_X1_verdict : GoodIn wsX8_judge wsX1_verdict := goodIn_r _ [11, 12, 13, 14, 15, 10, 16, 17, 18, 19, 20, 21, 22, 23, 24, 25, 26, 27, 28, 29, 30, 31, 32, 33, 34, 35, 36, 37, 38, 39, 40, 41, 42, 43, 44, 45, 46, 47, 48, 49, 50, 51, 52, 53, 54, 55, 56, 57, 58, 59, 60, 61, 62, 63, 64, 65, 66, 67, 68, 69, 70, 71, 72, 73, 74, 75, 76, 77, 78, 79, 80, 81, 85, 86, 87, 88, 89, 90, 91, 92, 93, 94, 95, 96, 97, 98, 99, 100, 101, 102] (by decide +kernel) (by decide +kernel)
set_option maxRecDepth 20000 in
theorem gX8_judge_X1_verdict : GoodIn wsX8_judge (wsV RX8 104 RX1 yX1_verdict wsX1_verdict) := goodIn_app (goodIn_of _ (by decide +kernel)) ggX8_judge_X1_verdict
theorem dX8_judge_0 : decode cX8_judge 0 = .ok (.iload_n 1, 1) := by decide +kernel
theorem dX8_judge_1 : decode cX8_judge 1 = .ok (.iconst 0, 1) := by decide +kernel
theorem dX8_judge_2 : decode cX8_judge 2 = .ok (.sipush 1999, 3) := by decide +kernel
theorem dX8_judge_5 : decode cX8_judge 5 = .ok (.invokestatic 30, 3) := by decide +kernel
theorem dX8_judge_8 : decode cX8_judge 8 = .ok (.ifCond .eq 25, 3) := by decide +kernel
theorem dX8_judge_11 : decode cX8_judge 11 = .ok (.iload_n 2, 1) := by decide +kernel
theorem dX8_judge_12 : decode cX8_judge 12 = .ok (.iconst 0, 1) := by decide +kernel
theorem dX8_judge_13 : decode cX8_judge 13 = .ok (.iconst 5, 1) := by decide +kernel
theorem dX8_judge_14 : decode cX8_judge 14 = .ok (.invokestatic 30, 3) := by decide +kernel
theorem dX8_judge_17 : decode cX8_judge 17 = .ok (.ifCond .eq 16, 3) := by decide +kernel
theorem dX8_judge_20 : decode cX8_judge 20 = .ok (.iload_n 3, 1) := by decide +kernel
theorem dX8_judge_21 : decode cX8_judge 21 = .ok (.iconst 0, 1) := by decide +kernel
theorem dX8_judge_22 : decode cX8_judge 22 = .ok (.iconst 3, 1) := by decide +kernel
theorem dX8_judge_23 : decode cX8_judge 23 = .ok (.invokestatic 30, 3) := by decide +kernel
theorem dX8_judge_26 : decode cX8_judge 26 = .ok (.ifCond .eq 7, 3) := by decide +kernel
theorem dX8_judge_29 : decode cX8_judge 29 = .ok (.iconst 1, 1) := by decide +kernel
theorem dX8_judge_30 : decode cX8_judge 30 = .ok (.goto 4, 3) := by decide +kernel
theorem dX8_judge_33 : decode cX8_judge 33 = .ok (.iconst 0, 1) := by decide +kernel
theorem dX8_judge_34 : decode cX8_judge 34 = .ok (.istore 4, 2) := by decide +kernel
theorem dX8_judge_36 : decode cX8_judge 36 = .ok (.iload 4, 2) := by decide +kernel
theorem dX8_judge_38 : decode cX8_judge 38 = .ok (.ifCond .eq 16, 3) := by decide +kernel
theorem dX8_judge_41 : decode cX8_judge 41 = .ok (.aload_n 0, 1) := by decide +kernel
theorem dX8_judge_42 : decode cX8_judge 42 = .ok (.getfield 10, 3) := by decide +kernel
theorem dX8_judge_45 : decode cX8_judge 45 = .ok (.iload_n 1, 1) := by decide +kernel
theorem dX8_judge_46 : decode cX8_judge 46 = .ok (.iload_n 2, 1) := by decide +kernel
theorem dX8_judge_47 : decode cX8_judge 47 = .ok (.iload_n 3, 1) := by decide +kernel
theorem dX8_judge_48 : decode cX8_judge 48 = .ok (.invokevirtual 104, 3) := by decide +kernel
theorem dX8_judge_51 : decode cX8_judge 51 = .ok (.goto 5, 3) := by decide +kernel
theorem dX8_judge_54 : decode cX8_judge 54 = .ok (.ldc 34, 2) := by decide +kernel
theorem dX8_judge_56 : decode cX8_judge 56 = .ok (.ireturn, 1) := by decide +kernel
set_option maxRecDepth 20000 in
theorem ggX8_lateness_X8_isWithin : GoodIn wsX8_lateness wsX8_isWithin := goodIn_r _ [7] (by decide +kernel) (by decide +kernel)
set_option maxRecDepth 20000 in
theorem gX8_lateness_X8_isWithin : GoodIn wsX8_lateness (va_wsS RX8 30 yX8_isWithin wsX8_isWithin) := goodIn_app (goodIn_of _ (by decide +kernel)) ggX8_lateness_X8_isWithin
set_option maxRecDepth 20000 in
theorem ggX8_lateness_X1_paneAt : GoodIn wsX8_lateness wsX1_paneAt := goodIn_r _ [12, 13, 50, 51, 52, 53, 54, 55, 56, 57, 58] (by decide +kernel) (by decide +kernel)
set_option maxRecDepth 20000 in
theorem gX8_lateness_X1_paneAt : GoodIn wsX8_lateness (wsV RX8 108 RX1 yX1_paneAt wsX1_paneAt) := goodIn_app (goodIn_of _ (by decide +kernel)) ggX8_lateness_X1_paneAt
set_option maxRecDepth 20000 in
theorem ggX8_lateness_X1_stateOf : GoodIn wsX8_lateness wsX1_stateOf := goodIn_r _ [17, 18, 19, 20, 21, 22, 23, 24, 25, 26, 27, 28, 29, 30, 31, 32, 33, 34, 35, 36, 37, 38, 39, 40, 41, 11, 42, 13, 50, 51, 52, 53, 54, 55, 56, 57, 58, 59, 60, 61, 62, 63, 64] (by decide +kernel) (by decide +kernel)
set_option maxRecDepth 20000 in
theorem gX8_lateness_X1_stateOf : GoodIn wsX8_lateness (wsV RX8 67 RX1 yX1_stateOf wsX1_stateOf) := goodIn_app (goodIn_of _ (by decide +kernel)) ggX8_lateness_X1_stateOf
set_option maxRecDepth 20000 in
theorem ggX8_lateness_X1_lateBy : GoodIn wsX8_lateness wsX1_lateBy := goodIn_r _ [46, 19, 39, 40, 41, 11, 42, 13, 50, 51, 52, 53, 54, 55, 56, 57, 58] (by decide +kernel) (by decide +kernel)
set_option maxRecDepth 20000 in
theorem gX8_lateness_X1_lateBy : GoodIn wsX8_lateness (wsV RX8 111 RX1 yX1_lateBy wsX1_lateBy) := goodIn_app (goodIn_of _ (by decide +kernel)) ggX8_lateness_X1_lateBy
theorem dX8_lateness_0 : decode cX8_lateness 0 = .ok (.iload_n 1, 1) := by decide +kernel
theorem dX8_lateness_1 : decode cX8_lateness 1 = .ok (.iconst 0, 1) := by decide +kernel
theorem dX8_lateness_2 : decode cX8_lateness 2 = .ok (.sipush 1999, 3) := by decide +kernel
theorem dX8_lateness_5 : decode cX8_lateness 5 = .ok (.invokestatic 30, 3) := by decide +kernel
theorem dX8_lateness_8 : decode cX8_lateness 8 = .ok (.ifCond .ne 6, 3) := by decide +kernel
theorem dX8_lateness_11 : decode cX8_lateness 11 = .ok (.ldc 34, 2) := by decide +kernel
theorem dX8_lateness_13 : decode cX8_lateness 13 = .ok (.ireturn, 1) := by decide +kernel
theorem dX8_lateness_14 : decode cX8_lateness 14 = .ok (.aload_n 0, 1) := by decide +kernel
theorem dX8_lateness_15 : decode cX8_lateness 15 = .ok (.getfield 10, 3) := by decide +kernel
theorem dX8_lateness_18 : decode cX8_lateness 18 = .ok (.iload_n 1, 1) := by decide +kernel
theorem dX8_lateness_19 : decode cX8_lateness 19 = .ok (.invokevirtual 108, 3) := by decide +kernel
theorem dX8_lateness_22 : decode cX8_lateness 22 = .ok (.istore_n 2, 1) := by decide +kernel
theorem dX8_lateness_23 : decode cX8_lateness 23 = .ok (.aload_n 0, 1) := by decide +kernel
theorem dX8_lateness_24 : decode cX8_lateness 24 = .ok (.getfield 10, 3) := by decide +kernel
theorem dX8_lateness_27 : decode cX8_lateness 27 = .ok (.iload_n 2, 1) := by decide +kernel
theorem dX8_lateness_28 : decode cX8_lateness 28 = .ok (.invokevirtual 67, 3) := by decide +kernel
theorem dX8_lateness_31 : decode cX8_lateness 31 = .ok (.iconst 1, 1) := by decide +kernel
theorem dX8_lateness_32 : decode cX8_lateness 32 = .ok (.if_icmp .ne 14, 3) := by decide +kernel
theorem dX8_lateness_35 : decode cX8_lateness 35 = .ok (.aload_n 0, 1) := by decide +kernel
theorem dX8_lateness_36 : decode cX8_lateness 36 = .ok (.getfield 10, 3) := by decide +kernel
theorem dX8_lateness_39 : decode cX8_lateness 39 = .ok (.iload_n 2, 1) := by decide +kernel
theorem dX8_lateness_40 : decode cX8_lateness 40 = .ok (.invokevirtual 111, 3) := by decide +kernel
theorem dX8_lateness_43 : decode cX8_lateness 43 = .ok (.goto 5, 3) := by decide +kernel
theorem dX8_lateness_46 : decode cX8_lateness 46 = .ok (.ldc 72, 2) := by decide +kernel
theorem dX8_lateness_48 : decode cX8_lateness 48 = .ok (.ireturn, 1) := by decide +kernel
set_option maxRecDepth 20000 in
theorem ggX8_latestExcused_X8_isWithin : GoodIn wsX8_latestExcused wsX8_isWithin := goodIn_r _ [6] (by decide +kernel) (by decide +kernel)
set_option maxRecDepth 20000 in
theorem gX8_latestExcused_X8_isWithin : GoodIn wsX8_latestExcused (va_wsS RX8 30 yX8_isWithin wsX8_isWithin) := goodIn_app (goodIn_of _ (by decide +kernel)) ggX8_latestExcused_X8_isWithin
set_option maxRecDepth 20000 in
theorem ggX8_latestExcused_X1_latestAcceptable : GoodIn wsX8_latestExcused wsX1_latestAcceptable := goodIn_r _ [11, 12, 13, 14, 15, 16, 10, 17, 18, 19, 20, 21, 22, 23, 24, 25, 26, 27, 28, 29, 30, 31, 32, 33, 34, 35, 36, 37, 38, 39, 40, 41, 42, 43, 44, 45, 46, 47, 48, 49, 50, 51, 52, 53, 54, 55, 56, 57, 58, 59, 60, 61, 62, 63, 64, 65, 66, 67, 68, 69, 70, 71, 72, 73, 74, 78, 79, 80, 81, 82, 83, 84, 85, 86, 87, 88, 89, 90, 91, 92, 93, 94] (by decide +kernel) (by decide +kernel)
set_option maxRecDepth 20000 in
theorem gX8_latestExcused_X1_latestAcceptable : GoodIn wsX8_latestExcused (wsV RX8 114 RX1 yX1_latestAcceptable wsX1_latestAcceptable) := goodIn_app (goodIn_of _ (by decide +kernel)) ggX8_latestExcused_X1_latestAcceptable
theorem dX8_latestExcused_0 : decode cX8_latestExcused 0 = .ok (.iload_n 1, 1) := by decide +kernel
theorem dX8_latestExcused_1 : decode cX8_latestExcused 1 = .ok (.iconst 0, 1) := by decide +kernel
theorem dX8_latestExcused_2 : decode cX8_latestExcused 2 = .ok (.iconst 5, 1) := by decide +kernel
theorem dX8_latestExcused_3 : decode cX8_latestExcused 3 = .ok (.invokestatic 30, 3) := by decide +kernel
theorem dX8_latestExcused_6 : decode cX8_latestExcused 6 = .ok (.ifCond .eq 12, 3) := by decide +kernel
theorem dX8_latestExcused_9 : decode cX8_latestExcused 9 = .ok (.iload_n 2, 1) := by decide +kernel
theorem dX8_latestExcused_10 : decode cX8_latestExcused 10 = .ok (.iconst 1, 1) := by decide +kernel
theorem dX8_latestExcused_11 : decode cX8_latestExcused 11 = .ok (.iconst 3, 1) := by decide +kernel
theorem dX8_latestExcused_12 : decode cX8_latestExcused 12 = .ok (.invokestatic 30, 3) := by decide +kernel
theorem dX8_latestExcused_15 : decode cX8_latestExcused 15 = .ok (.ifCond .ne 6, 3) := by decide +kernel
theorem dX8_latestExcused_18 : decode cX8_latestExcused 18 = .ok (.ldc 34, 2) := by decide +kernel
theorem dX8_latestExcused_20 : decode cX8_latestExcused 20 = .ok (.ireturn, 1) := by decide +kernel
theorem dX8_latestExcused_21 : decode cX8_latestExcused 21 = .ok (.aload_n 0, 1) := by decide +kernel
theorem dX8_latestExcused_22 : decode cX8_latestExcused 22 = .ok (.getfield 10, 3) := by decide +kernel
theorem dX8_latestExcused_25 : decode cX8_latestExcused 25 = .ok (.iload_n 1, 1) := by decide +kernel
theorem dX8_latestExcused_26 : decode cX8_latestExcused 26 = .ok (.iload_n 2, 1) := by decide +kernel
theorem dX8_latestExcused_27 : decode cX8_latestExcused 27 = .ok (.invokevirtual 114, 3) := by decide +kernel
theorem dX8_latestExcused_30 : decode cX8_latestExcused 30 = .ok (.ireturn, 1) := by decide +kernel
set_option maxRecDepth 20000 in
theorem ggX8_filed_X8_isWithin : GoodIn wsX8_filed wsX8_isWithin := goodIn_r _ [6] (by decide +kernel) (by decide +kernel)
set_option maxRecDepth 20000 in
theorem gX8_filed_X8_isWithin : GoodIn wsX8_filed (va_wsS RX8 30 yX8_isWithin wsX8_isWithin) := goodIn_app (goodIn_of _ (by decide +kernel)) ggX8_filed_X8_isWithin
set_option maxRecDepth 20000 in
theorem ggX8_filed_X1_cabinets : GoodIn wsX8_filed wsX1_cabinets := goodIn_r _ [11, 12, 31, 32, 33, 34, 35, 36, 37, 38, 39] (by decide +kernel) (by decide +kernel)
set_option maxRecDepth 20000 in
theorem gX8_filed_X1_cabinets : GoodIn wsX8_filed (wsV RX8 119 RX1 yX1_cabinets wsX1_cabinets) := goodIn_app (goodIn_of _ (by decide +kernel)) ggX8_filed_X1_cabinets
set_option maxRecDepth 20000 in
theorem ggX8_filed_X0_read : GoodIn wsX8_filed wsX0_read := goodIn_r _ [17, 18, 19, 20, 21, 22, 23, 24, 25, 26, 27, 40, 41, 42, 43] (by decide +kernel) (by decide +kernel)
set_option maxRecDepth 20000 in
theorem gX8_filed_X0_read : GoodIn wsX8_filed (wsV RX8 123 RX0 yX0_read wsX0_read) := goodIn_app (goodIn_of _ (by decide +kernel)) ggX8_filed_X0_read
theorem dX8_filed_0 : decode cX8_filed 0 = .ok (.iload_n 1, 1) := by decide +kernel
theorem dX8_filed_1 : decode cX8_filed 1 = .ok (.iconst 0, 1) := by decide +kernel
theorem dX8_filed_2 : decode cX8_filed 2 = .ok (.iconst 2, 1) := by decide +kernel
theorem dX8_filed_3 : decode cX8_filed 3 = .ok (.invokestatic 30, 3) := by decide +kernel
theorem dX8_filed_6 : decode cX8_filed 6 = .ok (.ifCond .eq 12, 3) := by decide +kernel
theorem dX8_filed_9 : decode cX8_filed 9 = .ok (.iload_n 2, 1) := by decide +kernel
theorem dX8_filed_10 : decode cX8_filed 10 = .ok (.iconst 0, 1) := by decide +kernel
theorem dX8_filed_11 : decode cX8_filed 11 = .ok (.iconst 3, 1) := by decide +kernel
theorem dX8_filed_12 : decode cX8_filed 12 = .ok (.invokestatic 30, 3) := by decide +kernel
theorem dX8_filed_15 : decode cX8_filed 15 = .ok (.ifCond .ne 6, 3) := by decide +kernel
theorem dX8_filed_18 : decode cX8_filed 18 = .ok (.ldc 34, 2) := by decide +kernel
theorem dX8_filed_20 : decode cX8_filed 20 = .ok (.ireturn, 1) := by decide +kernel
theorem dX8_filed_21 : decode cX8_filed 21 = .ok (.aload_n 0, 1) := by decide +kernel
theorem dX8_filed_22 : decode cX8_filed 22 = .ok (.getfield 10, 3) := by decide +kernel
theorem dX8_filed_25 : decode cX8_filed 25 = .ok (.invokevirtual 119, 3) := by decide +kernel
theorem dX8_filed_28 : decode cX8_filed 28 = .ok (.iload_n 1, 1) := by decide +kernel
theorem dX8_filed_29 : decode cX8_filed 29 = .ok (.iload_n 2, 1) := by decide +kernel
theorem dX8_filed_30 : decode cX8_filed 30 = .ok (.invokevirtual 123, 3) := by decide +kernel
theorem dX8_filed_33 : decode cX8_filed 33 = .ok (.ireturn, 1) := by decide +kernel
set_option maxRecDepth 20000 in
theorem ggX8_trust_X8_isWithin : GoodIn wsX8_trust wsX8_isWithin := goodIn_r _ [7] (by decide +kernel) (by decide +kernel)
set_option maxRecDepth 20000 in
theorem gX8_trust_X8_isWithin : GoodIn wsX8_trust (va_wsS RX8 30 yX8_isWithin wsX8_isWithin) := goodIn_app (goodIn_of _ (by decide +kernel)) ggX8_trust_X8_isWithin
set_option maxRecDepth 20000 in
theorem ggX8_trust_X1_events : GoodIn wsX8_trust wsX1_events := goodIn_r _ [12, 13, 41, 42, 43, 44, 45, 46, 47, 48, 49] (by decide +kernel) (by decide +kernel)
set_option maxRecDepth 20000 in
theorem gX8_trust_X1_events : GoodIn wsX8_trust (wsV RX8 97 RX1 yX1_events wsX1_events) := goodIn_app (goodIn_of _ (by decide +kernel)) ggX8_trust_X1_events
set_option maxRecDepth 20000 in
theorem ggX8_trust_X2_ofKey : GoodIn wsX8_trust wsX2_ofKey := goodIn_r _ [18, 19, 20, 21, 22, 23, 24, 25, 26, 27, 28, 29, 30, 17, 31, 50, 51, 52, 53, 54] (by decide +kernel) (by decide +kernel)
set_option maxRecDepth 20000 in
theorem gX8_trust_X2_ofKey : GoodIn wsX8_trust (wsV RX8 124 RX2 yX2_ofKey wsX2_ofKey) := goodIn_app (goodIn_of _ (by decide +kernel)) ggX8_trust_X2_ofKey
set_option maxRecDepth 20000 in
theorem ggX8_trust_X8_bitsOf : GoodIn wsX8_trust wsX8_bitsOf := goodIn_r _ [34, 35, 36, 37] (by decide +kernel) (by decide +kernel)
set_option maxRecDepth 20000 in
theorem gX8_trust_X8_bitsOf : GoodIn wsX8_trust (va_wsS RX8 80 yX8_bitsOf wsX8_bitsOf) := goodIn_app (goodIn_of _ (by decide +kernel)) ggX8_trust_X8_bitsOf
theorem dX8_trust_0 : decode cX8_trust 0 = .ok (.iload_n 1, 1) := by decide +kernel
theorem dX8_trust_1 : decode cX8_trust 1 = .ok (.iconst 0, 1) := by decide +kernel
theorem dX8_trust_2 : decode cX8_trust 2 = .ok (.iconst 5, 1) := by decide +kernel
theorem dX8_trust_3 : decode cX8_trust 3 = .ok (.invokestatic 30, 3) := by decide +kernel
theorem dX8_trust_6 : decode cX8_trust 6 = .ok (.ifCond .ne 6, 3) := by decide +kernel
theorem dX8_trust_9 : decode cX8_trust 9 = .ok (.ldc 34, 2) := by decide +kernel
theorem dX8_trust_11 : decode cX8_trust 11 = .ok (.ireturn, 1) := by decide +kernel
theorem dX8_trust_12 : decode cX8_trust 12 = .ok (.aload_n 0, 1) := by decide +kernel
theorem dX8_trust_13 : decode cX8_trust 13 = .ok (.getfield 10, 3) := by decide +kernel
theorem dX8_trust_16 : decode cX8_trust 16 = .ok (.invokevirtual 97, 3) := by decide +kernel
theorem dX8_trust_19 : decode cX8_trust 19 = .ok (.astore_n 2, 1) := by decide +kernel
theorem dX8_trust_20 : decode cX8_trust 20 = .ok (.aload_n 2, 1) := by decide +kernel
theorem dX8_trust_21 : decode cX8_trust 21 = .ok (.iload_n 1, 1) := by decide +kernel
theorem dX8_trust_22 : decode cX8_trust 22 = .ok (.iconst 0, 1) := by decide +kernel
theorem dX8_trust_23 : decode cX8_trust 23 = .ok (.iconst 3, 1) := by decide +kernel
theorem dX8_trust_24 : decode cX8_trust 24 = .ok (.invokevirtual 124, 3) := by decide +kernel
theorem dX8_trust_27 : decode cX8_trust 27 = .ok (.istore_n 3, 1) := by decide +kernel
theorem dX8_trust_28 : decode cX8_trust 28 = .ok (.iload_n 3, 1) := by decide +kernel
theorem dX8_trust_29 : decode cX8_trust 29 = .ok (.ifCond .gt 6, 3) := by decide +kernel
theorem dX8_trust_32 : decode cX8_trust 32 = .ok (.ldc 72, 2) := by decide +kernel
theorem dX8_trust_34 : decode cX8_trust 34 = .ok (.ireturn, 1) := by decide +kernel
theorem dX8_trust_35 : decode cX8_trust 35 = .ok (.aload_n 2, 1) := by decide +kernel
theorem dX8_trust_36 : decode cX8_trust 36 = .ok (.iload_n 1, 1) := by decide +kernel
theorem dX8_trust_37 : decode cX8_trust 37 = .ok (.iconst 0, 1) := by decide +kernel
theorem dX8_trust_38 : decode cX8_trust 38 = .ok (.iconst 0, 1) := by decide +kernel
theorem dX8_trust_39 : decode cX8_trust 39 = .ok (.invokevirtual 124, 3) := by decide +kernel
theorem dX8_trust_42 : decode cX8_trust 42 = .ok (.i2f, 1) := by decide +kernel
theorem dX8_trust_43 : decode cX8_trust 43 = .ok (.fstore 4, 2) := by decide +kernel
theorem dX8_trust_45 : decode cX8_trust 45 = .ok (.aload_n 2, 1) := by decide +kernel
theorem dX8_trust_46 : decode cX8_trust 46 = .ok (.iload_n 1, 1) := by decide +kernel
theorem dX8_trust_47 : decode cX8_trust 47 = .ok (.iconst 1, 1) := by decide +kernel
theorem dX8_trust_48 : decode cX8_trust 48 = .ok (.iconst 1, 1) := by decide +kernel
theorem dX8_trust_49 : decode cX8_trust 49 = .ok (.invokevirtual 124, 3) := by decide +kernel
theorem dX8_trust_52 : decode cX8_trust 52 = .ok (.i2f, 1) := by decide +kernel
theorem dX8_trust_53 : decode cX8_trust 53 = .ok (.fconst 2, 1) := by decide +kernel
theorem dX8_trust_54 : decode cX8_trust 54 = .ok (.fdiv, 1) := by decide +kernel
theorem dX8_trust_55 : decode cX8_trust 55 = .ok (.fstore 5, 2) := by decide +kernel
theorem dX8_trust_57 : decode cX8_trust 57 = .ok (.fload 4, 2) := by decide +kernel
theorem dX8_trust_59 : decode cX8_trust 59 = .ok (.fload 5, 2) := by decide +kernel
theorem dX8_trust_61 : decode cX8_trust 61 = .ok (.fadd, 1) := by decide +kernel
theorem dX8_trust_62 : decode cX8_trust 62 = .ok (.iload_n 3, 1) := by decide +kernel
theorem dX8_trust_63 : decode cX8_trust 63 = .ok (.i2f, 1) := by decide +kernel
theorem dX8_trust_64 : decode cX8_trust 64 = .ok (.fdiv, 1) := by decide +kernel
theorem dX8_trust_65 : decode cX8_trust 65 = .ok (.invokestatic 80, 3) := by decide +kernel
theorem dX8_trust_68 : decode cX8_trust 68 = .ok (.ireturn, 1) := by decide +kernel
set_option maxRecDepth 20000 in
theorem ggX8_count_X8_isWithin : GoodIn wsX8_count wsX8_isWithin := goodIn_r _ [7] (by decide +kernel) (by decide +kernel)
set_option maxRecDepth 20000 in
theorem gX8_count_X8_isWithin : GoodIn wsX8_count (va_wsS RX8 30 yX8_isWithin wsX8_isWithin) := goodIn_app (goodIn_of _ (by decide +kernel)) ggX8_count_X8_isWithin
set_option maxRecDepth 20000 in
theorem ggX8_count_X1_setting : GoodIn wsX8_count wsX1_setting := goodIn_r _ [12, 13, 14, 15, 97, 98, 99, 100, 101, 102, 103, 104, 105] (by decide +kernel) (by decide +kernel)
set_option maxRecDepth 20000 in
theorem gX8_count_X1_setting : GoodIn wsX8_count (wsV RX8 127 RX1 yX1_setting wsX1_setting) := goodIn_app (goodIn_of _ (by decide +kernel)) ggX8_count_X1_setting
set_option maxRecDepth 20000 in
theorem ggX8_count_X1_panes : GoodIn wsX8_count wsX1_panes := goodIn_r _ [19, 20, 97, 98, 99, 100, 101, 102, 103, 104, 105] (by decide +kernel) (by decide +kernel)
set_option maxRecDepth 20000 in
theorem gX8_count_X1_panes : GoodIn wsX8_count (wsV RX8 73 RX1 yX1_panes wsX1_panes) := goodIn_app (goodIn_of _ (by decide +kernel)) ggX8_count_X1_panes
set_option maxRecDepth 20000 in
theorem ggX8_count_X4_words : GoodIn wsX8_count wsX4_words := goodIn_r _ [25, 26, 106, 107, 108] (by decide +kernel) (by decide +kernel)
set_option maxRecDepth 20000 in
theorem gX8_count_X4_words : GoodIn wsX8_count (wsV RX8 90 RX4 yX4_words wsX4_words) := goodIn_app (goodIn_of _ (by decide +kernel)) ggX8_count_X4_words
set_option maxRecDepth 20000 in
theorem ggX8_count_X7_kept : GoodIn wsX8_count wsX7_kept := goodIn_r _ [31, 32, 109, 110, 111, 112] (by decide +kernel) (by decide +kernel)
set_option maxRecDepth 20000 in
theorem gX8_count_X7_kept : GoodIn wsX8_count (wsV RX8 130 RX7 yX7_kept wsX7_kept) := goodIn_app (goodIn_of _ (by decide +kernel)) ggX8_count_X7_kept
set_option maxRecDepth 20000 in
theorem ggX8_count_X7_told : GoodIn wsX8_count wsX7_told := goodIn_r _ [36, 37, 109, 110, 111, 112] (by decide +kernel) (by decide +kernel)
set_option maxRecDepth 20000 in
theorem gX8_count_X7_told : GoodIn wsX8_count (wsV RX8 134 RX7 yX7_told wsX7_told) := goodIn_app (goodIn_of _ (by decide +kernel)) ggX8_count_X7_told
set_option maxRecDepth 20000 in
theorem ggX8_count_X7_takenBack : GoodIn wsX8_count wsX7_takenBack := goodIn_r _ [41, 42, 109, 110, 111, 112] (by decide +kernel) (by decide +kernel)
set_option maxRecDepth 20000 in
theorem gX8_count_X7_takenBack : GoodIn wsX8_count (wsV RX8 137 RX7 yX7_takenBack wsX7_takenBack) := goodIn_app (goodIn_of _ (by decide +kernel)) ggX8_count_X7_takenBack
set_option maxRecDepth 20000 in
theorem ggX8_count_X4_closedCases : GoodIn wsX8_count wsX4_closedCases := goodIn_r _ [46, 47, 48, 49, 50, 51, 52, 53, 54, 55, 56, 106, 107, 108, 113, 114, 115] (by decide +kernel) (by decide +kernel)
set_option maxRecDepth 20000 in
theorem gX8_count_X4_closedCases : GoodIn wsX8_count (wsV RX8 140 RX4 yX4_closedCases wsX4_closedCases) := goodIn_app (goodIn_of _ (by decide +kernel)) ggX8_count_X4_closedCases
set_option maxRecDepth 20000 in
theorem ggX8_count_X3_states : GoodIn wsX8_count wsX3_states := goodIn_r _ [61, 62, 116, 117, 118] (by decide +kernel) (by decide +kernel)
set_option maxRecDepth 20000 in
theorem gX8_count_X3_states : GoodIn wsX8_count (wsV RX8 143 RX3 yX3_states wsX3_states) := goodIn_app (goodIn_of _ (by decide +kernel)) ggX8_count_X3_states
set_option maxRecDepth 20000 in
theorem ggX8_count_X6_length : GoodIn wsX8_count wsX6_length := goodIn_r _ [67, 68, 119, 120, 121, 122, 123, 124, 125, 126, 127, 128, 129] (by decide +kernel) (by decide +kernel)
set_option maxRecDepth 20000 in
theorem gX8_count_X6_length : GoodIn wsX8_count (wsV RX8 146 RX6 yX6_length wsX6_length) := goodIn_app (goodIn_of _ (by decide +kernel)) ggX8_count_X6_length
set_option maxRecDepth 20000 in
theorem ggX8_count_X1_number : GoodIn wsX8_count wsX1_number := goodIn_r _ [72, 73, 74, 75, 76, 77, 78, 79, 80, 81, 82, 83, 84, 85, 86, 87, 88, 50, 51, 52, 53, 54, 55, 56, 89, 90, 91, 92, 93, 97, 98, 99, 100, 101, 102, 103, 104, 105, 130, 131, 113, 114, 115] (by decide +kernel) (by decide +kernel)
set_option maxRecDepth 20000 in
theorem gX8_count_X1_number : GoodIn wsX8_count (wsV RX8 149 RX1 yX1_number wsX1_number) := goodIn_app (goodIn_of _ (by decide +kernel)) ggX8_count_X1_number
theorem dX8_count_0 : decode cX8_count 0 = .ok (.iload_n 1, 1) := by decide +kernel
theorem dX8_count_1 : decode cX8_count 1 = .ok (.bipush 20, 2) := by decide +kernel
theorem dX8_count_3 : decode cX8_count 3 = .ok (.bipush 22, 2) := by decide +kernel
theorem dX8_count_5 : decode cX8_count 5 = .ok (.invokestatic 30, 3) := by decide +kernel
theorem dX8_count_8 : decode cX8_count 8 = .ok (.ifCond .eq 15, 3) := by decide +kernel
theorem dX8_count_11 : decode cX8_count 11 = .ok (.aload_n 0, 1) := by decide +kernel
theorem dX8_count_12 : decode cX8_count 12 = .ok (.getfield 10, 3) := by decide +kernel
theorem dX8_count_15 : decode cX8_count 15 = .ok (.iload_n 1, 1) := by decide +kernel
theorem dX8_count_16 : decode cX8_count 16 = .ok (.bipush 20, 2) := by decide +kernel
theorem dX8_count_18 : decode cX8_count 18 = .ok (.isub, 1) := by decide +kernel
theorem dX8_count_19 : decode cX8_count 19 = .ok (.invokevirtual 127, 3) := by decide +kernel
theorem dX8_count_22 : decode cX8_count 22 = .ok (.ireturn, 1) := by decide +kernel
theorem dX8_count_23 : decode cX8_count 23 = .ok (.iload_n 1, 1) := by decide +kernel
theorem dX8_count_24 : decode cX8_count 24 = .ok (.tableswitch 113 7 13 #[44, 58, 72, 86, 113, 97, 105], 44) := by decide +kernel
theorem dX8_count_68 : decode cX8_count 68 = .ok (.aload_n 0, 1) := by decide +kernel
theorem dX8_count_69 : decode cX8_count 69 = .ok (.getfield 10, 3) := by decide +kernel
theorem dX8_count_72 : decode cX8_count 72 = .ok (.invokevirtual 73, 3) := by decide +kernel
theorem dX8_count_75 : decode cX8_count 75 = .ok (.invokevirtual 90, 3) := by decide +kernel
theorem dX8_count_78 : decode cX8_count 78 = .ok (.invokevirtual 130, 3) := by decide +kernel
theorem dX8_count_81 : decode cX8_count 81 = .ok (.ireturn, 1) := by decide +kernel
theorem dX8_count_82 : decode cX8_count 82 = .ok (.aload_n 0, 1) := by decide +kernel
theorem dX8_count_83 : decode cX8_count 83 = .ok (.getfield 10, 3) := by decide +kernel
theorem dX8_count_86 : decode cX8_count 86 = .ok (.invokevirtual 73, 3) := by decide +kernel
theorem dX8_count_89 : decode cX8_count 89 = .ok (.invokevirtual 90, 3) := by decide +kernel
theorem dX8_count_92 : decode cX8_count 92 = .ok (.invokevirtual 134, 3) := by decide +kernel
theorem dX8_count_95 : decode cX8_count 95 = .ok (.ireturn, 1) := by decide +kernel
theorem dX8_count_96 : decode cX8_count 96 = .ok (.aload_n 0, 1) := by decide +kernel
theorem dX8_count_97 : decode cX8_count 97 = .ok (.getfield 10, 3) := by decide +kernel
theorem dX8_count_100 : decode cX8_count 100 = .ok (.invokevirtual 73, 3) := by decide +kernel
theorem dX8_count_103 : decode cX8_count 103 = .ok (.invokevirtual 90, 3) := by decide +kernel
theorem dX8_count_106 : decode cX8_count 106 = .ok (.invokevirtual 137, 3) := by decide +kernel
theorem dX8_count_109 : decode cX8_count 109 = .ok (.ireturn, 1) := by decide +kernel
theorem dX8_count_110 : decode cX8_count 110 = .ok (.aload_n 0, 1) := by decide +kernel
theorem dX8_count_111 : decode cX8_count 111 = .ok (.getfield 10, 3) := by decide +kernel
theorem dX8_count_114 : decode cX8_count 114 = .ok (.invokevirtual 73, 3) := by decide +kernel
theorem dX8_count_117 : decode cX8_count 117 = .ok (.invokevirtual 140, 3) := by decide +kernel
theorem dX8_count_120 : decode cX8_count 120 = .ok (.ireturn, 1) := by decide +kernel
theorem dX8_count_121 : decode cX8_count 121 = .ok (.aload_n 0, 1) := by decide +kernel
theorem dX8_count_122 : decode cX8_count 122 = .ok (.getfield 19, 3) := by decide +kernel
theorem dX8_count_125 : decode cX8_count 125 = .ok (.invokevirtual 143, 3) := by decide +kernel
theorem dX8_count_128 : decode cX8_count 128 = .ok (.ireturn, 1) := by decide +kernel
theorem dX8_count_129 : decode cX8_count 129 = .ok (.aload_n 0, 1) := by decide +kernel
theorem dX8_count_130 : decode cX8_count 130 = .ok (.getfield 26, 3) := by decide +kernel
theorem dX8_count_133 : decode cX8_count 133 = .ok (.invokevirtual 146, 3) := by decide +kernel
theorem dX8_count_136 : decode cX8_count 136 = .ok (.ireturn, 1) := by decide +kernel
theorem dX8_count_137 : decode cX8_count 137 = .ok (.aload_n 0, 1) := by decide +kernel
theorem dX8_count_138 : decode cX8_count 138 = .ok (.getfield 10, 3) := by decide +kernel
theorem dX8_count_141 : decode cX8_count 141 = .ok (.iload_n 1, 1) := by decide +kernel
theorem dX8_count_142 : decode cX8_count 142 = .ok (.invokevirtual 149, 3) := by decide +kernel
theorem dX8_count_145 : decode cX8_count 145 = .ok (.ireturn, 1) := by decide +kernel
set_option maxRecDepth 20000 in
theorem ggX8_undo_X3_states : GoodIn wsX8_undo wsX3_states := goodIn_r _ [8, 9, 76, 77, 78] (by decide +kernel) (by decide +kernel)
set_option maxRecDepth 20000 in
theorem gX8_undo_X3_states : GoodIn wsX8_undo (wsV RX8 143 RX3 yX3_states wsX3_states) := goodIn_app (goodIn_of _ (by decide +kernel)) ggX8_undo_X3_states
set_option maxRecDepth 20000 in
theorem ggX8_undo_X3_restore : GoodIn wsX8_undo wsX3_restore := goodIn_r _ [13, 14, 9, 15, 16, 17, 18, 19, 20, 21, 22, 23, 24, 25, 26, 27, 28, 29, 30, 31, 32, 33, 34, 35, 36, 37, 38, 39, 40, 41, 42, 43, 44, 45, 46, 47, 48, 49, 50, 51, 52, 53, 54, 55, 56, 57, 58, 59, 60, 61, 62, 63, 64, 65, 66, 67, 68, 69, 70, 71, 72, 76, 77, 78, 79, 80, 81, 82, 83, 84, 85, 86, 87, 88, 89, 90, 91, 92, 93, 94, 95, 96, 97, 98, 99, 100] (by decide +kernel) (by decide +kernel)
set_option maxRecDepth 20000 in
theorem gX8_undo_X3_restore : GoodIn wsX8_undo (wsV RX8 152 RX3 yX3_restore wsX3_restore) := goodIn_app (goodIn_of _ (by decide +kernel)) ggX8_undo_X3_restore
theorem dX8_undo_0 : decode cX8_undo 0 = .ok (.aload_n 0, 1) := by decide +kernel
theorem dX8_undo_1 : decode cX8_undo 1 = .ok (.getfield 19, 3) := by decide +kernel
theorem dX8_undo_4 : decode cX8_undo 4 = .ok (.invokevirtual 143, 3) := by decide +kernel
theorem dX8_undo_7 : decode cX8_undo 7 = .ok (.ifCond .ne 6, 3) := by decide +kernel
theorem dX8_undo_10 : decode cX8_undo 10 = .ok (.ldc 39, 2) := by decide +kernel
theorem dX8_undo_12 : decode cX8_undo 12 = .ok (.ireturn, 1) := by decide +kernel
theorem dX8_undo_13 : decode cX8_undo 13 = .ok (.aload_n 0, 1) := by decide +kernel
theorem dX8_undo_14 : decode cX8_undo 14 = .ok (.getfield 19, 3) := by decide +kernel
theorem dX8_undo_17 : decode cX8_undo 17 = .ok (.aload_n 0, 1) := by decide +kernel
theorem dX8_undo_18 : decode cX8_undo 18 = .ok (.getfield 10, 3) := by decide +kernel
theorem dX8_undo_21 : decode cX8_undo 21 = .ok (.invokevirtual 152, 3) := by decide +kernel
theorem dX8_undo_24 : decode cX8_undo 24 = .ok (.aload_n 0, 1) := by decide +kernel
theorem dX8_undo_25 : decode cX8_undo 25 = .ok (.getfield 19, 3) := by decide +kernel
theorem dX8_undo_28 : decode cX8_undo 28 = .ok (.invokevirtual 143, 3) := by decide +kernel
theorem dX8_undo_31 : decode cX8_undo 31 = .ok (.ireturn, 1) := by decide +kernel
set_option maxRecDepth 20000 in
theorem ggX8_type_X8_isWithin : GoodIn wsX8_type wsX8_isWithin := goodIn_r _ [7] (by decide +kernel) (by decide +kernel)
set_option maxRecDepth 20000 in
theorem gX8_type_X8_isWithin : GoodIn wsX8_type (va_wsS RX8 30 yX8_isWithin wsX8_isWithin) := goodIn_app (goodIn_of _ (by decide +kernel)) ggX8_type_X8_isWithin
set_option maxRecDepth 20000 in
theorem ggX8_type_X6_append : GoodIn wsX8_type wsX6_append := goodIn_r _ [12, 13, 14, 22, 23, 24, 25, 26, 27, 28, 29, 30, 31, 32] (by decide +kernel) (by decide +kernel)
set_option maxRecDepth 20000 in
theorem gX8_type_X6_append : GoodIn wsX8_type (wsV RX8 155 RX6 yX6_append wsX6_append) := goodIn_app (goodIn_of _ (by decide +kernel)) ggX8_type_X6_append
set_option maxRecDepth 20000 in
theorem ggX8_type_X6_length : GoodIn wsX8_type wsX6_length := goodIn_r _ [18, 13, 22, 23, 24, 25, 26, 27, 28, 29, 30, 31, 32] (by decide +kernel) (by decide +kernel)
set_option maxRecDepth 20000 in
theorem gX8_type_X6_length : GoodIn wsX8_type (wsV RX8 146 RX6 yX6_length wsX6_length) := goodIn_app (goodIn_of _ (by decide +kernel)) ggX8_type_X6_length
theorem dX8_type_0 : decode cX8_type 0 = .ok (.iload_n 1, 1) := by decide +kernel
theorem dX8_type_1 : decode cX8_type 1 = .ok (.bipush 32, 2) := by decide +kernel
theorem dX8_type_3 : decode cX8_type 3 = .ok (.bipush 126, 2) := by decide +kernel
theorem dX8_type_5 : decode cX8_type 5 = .ok (.invokestatic 30, 3) := by decide +kernel
theorem dX8_type_8 : decode cX8_type 8 = .ok (.ifCond .ne 6, 3) := by decide +kernel
theorem dX8_type_11 : decode cX8_type 11 = .ok (.ldc 34, 2) := by decide +kernel
theorem dX8_type_13 : decode cX8_type 13 = .ok (.ireturn, 1) := by decide +kernel
theorem dX8_type_14 : decode cX8_type 14 = .ok (.aload_n 0, 1) := by decide +kernel
theorem dX8_type_15 : decode cX8_type 15 = .ok (.getfield 26, 3) := by decide +kernel
theorem dX8_type_18 : decode cX8_type 18 = .ok (.iload_n 1, 1) := by decide +kernel
theorem dX8_type_19 : decode cX8_type 19 = .ok (.i2c, 1) := by decide +kernel
theorem dX8_type_20 : decode cX8_type 20 = .ok (.invokevirtual 155, 3) := by decide +kernel
theorem dX8_type_23 : decode cX8_type 23 = .ok (.ifCond .eq 13, 3) := by decide +kernel
theorem dX8_type_26 : decode cX8_type 26 = .ok (.aload_n 0, 1) := by decide +kernel
theorem dX8_type_27 : decode cX8_type 27 = .ok (.getfield 26, 3) := by decide +kernel
theorem dX8_type_30 : decode cX8_type 30 = .ok (.invokevirtual 146, 3) := by decide +kernel
theorem dX8_type_33 : decode cX8_type 33 = .ok (.goto 5, 3) := by decide +kernel
theorem dX8_type_36 : decode cX8_type 36 = .ok (.ldc 159, 2) := by decide +kernel
theorem dX8_type_38 : decode cX8_type 38 = .ok (.ireturn, 1) := by decide +kernel
set_option maxRecDepth 20000 in
theorem ggX8_clearText_X6_length : GoodIn wsX8_clearText wsX6_length := goodIn_r _ [6, 7, 15, 16, 17, 18, 19, 20, 21, 22, 23, 24, 25] (by decide +kernel) (by decide +kernel)
set_option maxRecDepth 20000 in
theorem gX8_clearText_X6_length : GoodIn wsX8_clearText (wsV RX8 146 RX6 yX6_length wsX6_length) := goodIn_app (goodIn_of _ (by decide +kernel)) ggX8_clearText_X6_length
set_option maxRecDepth 20000 in
theorem ggX8_clearText_X6_empty : GoodIn wsX8_clearText wsX6_empty := goodIn_r _ [11, 7, 15, 16, 17, 18, 19, 20, 21, 22, 23, 24, 25] (by decide +kernel) (by decide +kernel)
set_option maxRecDepth 20000 in
theorem gX8_clearText_X6_empty : GoodIn wsX8_clearText (wsV RX8 160 RX6 yX6_empty wsX6_empty) := goodIn_app (goodIn_of _ (by decide +kernel)) ggX8_clearText_X6_empty
theorem dX8_clearText_0 : decode cX8_clearText 0 = .ok (.aload_n 0, 1) := by decide +kernel
theorem dX8_clearText_1 : decode cX8_clearText 1 = .ok (.getfield 26, 3) := by decide +kernel
theorem dX8_clearText_4 : decode cX8_clearText 4 = .ok (.invokevirtual 146, 3) := by decide +kernel
theorem dX8_clearText_7 : decode cX8_clearText 7 = .ok (.istore_n 1, 1) := by decide +kernel
theorem dX8_clearText_8 : decode cX8_clearText 8 = .ok (.aload_n 0, 1) := by decide +kernel
theorem dX8_clearText_9 : decode cX8_clearText 9 = .ok (.getfield 26, 3) := by decide +kernel
theorem dX8_clearText_12 : decode cX8_clearText 12 = .ok (.invokevirtual 160, 3) := by decide +kernel
theorem dX8_clearText_15 : decode cX8_clearText 15 = .ok (.iload_n 1, 1) := by decide +kernel
theorem dX8_clearText_16 : decode cX8_clearText 16 = .ok (.ireturn, 1) := by decide +kernel
set_option maxRecDepth 20000 in
theorem ggX8_fault_X8_isWithin : GoodIn wsX8_fault wsX8_isWithin := goodIn_r _ [7] (by decide +kernel) (by decide +kernel)
set_option maxRecDepth 20000 in
theorem gX8_fault_X8_isWithin : GoodIn wsX8_fault (va_wsS RX8 30 yX8_isWithin wsX8_isWithin) := goodIn_app (goodIn_of _ (by decide +kernel)) ggX8_fault_X8_isWithin
set_option maxRecDepth 20000 in
theorem ggX8_fault_X6_hasFault : GoodIn wsX8_fault wsX6_hasFault := goodIn_r _ [12, 13, 14, 15, 16, 17, 18, 19, 20, 21, 22, 11, 23, 24, 25, 26, 27, 28, 29, 30, 31, 32, 33, 34, 35, 5, 6, 7, 36, 37, 38, 39, 40, 41, 42, 43, 44, 45, 4, 57, 58, 59, 60, 61, 62, 63, 64, 65, 66, 67] (by decide +kernel) (by decide +kernel)
set_option maxRecDepth 20000 in
theorem gX8_fault_X6_hasFault : GoodIn wsX8_fault (wsV RX8 163 RX6 yX6_hasFault wsX6_hasFault) := goodIn_app (goodIn_of _ (by decide +kernel)) ggX8_fault_X6_hasFault
set_option maxRecDepth 20000 in
theorem ggX8_fault_X6_faultPlace : GoodIn wsX8_fault wsX6_faultPlace := goodIn_r _ [49, 18, 57, 58, 59, 60, 61, 62, 63, 64, 65, 66, 67] (by decide +kernel) (by decide +kernel)
set_option maxRecDepth 20000 in
theorem gX8_fault_X6_faultPlace : GoodIn wsX8_fault (wsV RX8 166 RX6 yX6_faultPlace wsX6_faultPlace) := goodIn_app (goodIn_of _ (by decide +kernel)) ggX8_fault_X6_faultPlace
set_option maxRecDepth 20000 in
theorem ggX8_fault_X6_faultReason : GoodIn wsX8_fault wsX6_faultReason := goodIn_r _ [53, 19, 57, 58, 59, 60, 61, 62, 63, 64, 65, 66, 67] (by decide +kernel) (by decide +kernel)
set_option maxRecDepth 20000 in
theorem gX8_fault_X6_faultReason : GoodIn wsX8_fault (wsV RX8 169 RX6 yX6_faultReason wsX6_faultReason) := goodIn_app (goodIn_of _ (by decide +kernel)) ggX8_fault_X6_faultReason
theorem dX8_fault_0 : decode cX8_fault 0 = .ok (.iload_n 1, 1) := by decide +kernel
theorem dX8_fault_1 : decode cX8_fault 1 = .ok (.iconst 0, 1) := by decide +kernel
theorem dX8_fault_2 : decode cX8_fault 2 = .ok (.iconst 1, 1) := by decide +kernel
theorem dX8_fault_3 : decode cX8_fault 3 = .ok (.invokestatic 30, 3) := by decide +kernel
theorem dX8_fault_6 : decode cX8_fault 6 = .ok (.ifCond .ne 6, 3) := by decide +kernel
theorem dX8_fault_9 : decode cX8_fault 9 = .ok (.ldc 34, 2) := by decide +kernel
theorem dX8_fault_11 : decode cX8_fault 11 = .ok (.ireturn, 1) := by decide +kernel
theorem dX8_fault_12 : decode cX8_fault 12 = .ok (.aload_n 0, 1) := by decide +kernel
theorem dX8_fault_13 : decode cX8_fault 13 = .ok (.getfield 26, 3) := by decide +kernel
theorem dX8_fault_16 : decode cX8_fault 16 = .ok (.invokevirtual 163, 3) := by decide +kernel
theorem dX8_fault_19 : decode cX8_fault 19 = .ok (.ifCond .ne 6, 3) := by decide +kernel
theorem dX8_fault_22 : decode cX8_fault 22 = .ok (.ldc 72, 2) := by decide +kernel
theorem dX8_fault_24 : decode cX8_fault 24 = .ok (.ireturn, 1) := by decide +kernel
theorem dX8_fault_25 : decode cX8_fault 25 = .ok (.iload_n 1, 1) := by decide +kernel
theorem dX8_fault_26 : decode cX8_fault 26 = .ok (.ifCond .ne 13, 3) := by decide +kernel
theorem dX8_fault_29 : decode cX8_fault 29 = .ok (.aload_n 0, 1) := by decide +kernel
theorem dX8_fault_30 : decode cX8_fault 30 = .ok (.getfield 26, 3) := by decide +kernel
theorem dX8_fault_33 : decode cX8_fault 33 = .ok (.invokevirtual 166, 3) := by decide +kernel
theorem dX8_fault_36 : decode cX8_fault 36 = .ok (.goto 10, 3) := by decide +kernel
theorem dX8_fault_39 : decode cX8_fault 39 = .ok (.aload_n 0, 1) := by decide +kernel
theorem dX8_fault_40 : decode cX8_fault 40 = .ok (.getfield 26, 3) := by decide +kernel
theorem dX8_fault_43 : decode cX8_fault 43 = .ok (.invokevirtual 169, 3) := by decide +kernel
theorem dX8_fault_46 : decode cX8_fault 46 = .ok (.ireturn, 1) := by decide +kernel
set_option maxRecDepth 20000 in
theorem ggX8_play_X6_hasFault : GoodIn wsX8_play wsX6_hasFault := goodIn_r _ [9, 10, 11, 12, 13, 14, 15, 16, 17, 18, 19, 8, 20, 21, 22, 23, 24, 25, 26, 27, 28, 29, 30, 31, 32, 33, 34, 35, 36, 37, 38, 39, 40, 41, 42, 43, 44, 45, 46, 305, 306, 307, 308, 309, 310, 311, 312, 313, 314, 315] (by decide +kernel) (by decide +kernel)
set_option maxRecDepth 20000 in
theorem gX8_play_X6_hasFault : GoodIn wsX8_play (wsV RX8 163 RX6 yX6_hasFault wsX6_hasFault) := goodIn_app (goodIn_of _ (by decide +kernel)) ggX8_play_X6_hasFault
set_option maxRecDepth 20000 in
theorem ggX8_play_X3_keep : GoodIn wsX8_play wsX3_keep := goodIn_r _ [51, 52, 53, 54, 55, 56, 57, 58, 59, 60, 61, 62, 63, 64, 65, 66, 67, 68, 69, 70, 71, 72, 73, 74, 75, 76, 77, 78, 79, 80, 81, 82, 83, 84, 85, 86, 87, 88, 89, 90, 91, 92, 93, 94, 95, 96, 97, 98, 99, 100, 101, 102, 103, 104, 105, 106, 107, 108, 109, 110, 111, 112, 113, 114, 115, 116, 117, 118, 119, 120, 121, 122, 123, 124, 125, 126, 127, 128, 129, 130, 131, 132, 133, 134, 135, 136, 137, 138, 139, 140, 141, 142, 143, 144, 145, 146, 147, 148, 149, 150, 151, 152, 153, 154, 155, 156, 157, 316, 317, 318, 319, 320, 321, 322, 323, 324, 325, 326, 327, 328, 329, 330, 331, 332, 333, 334, 335, 336, 337, 338, 339, 340] (by decide +kernel) (by decide +kernel)
set_option maxRecDepth 20000 in
theorem gX8_play_X3_keep : GoodIn wsX8_play (wsV RX8 40 RX3 yX3_keep wsX3_keep) := goodIn_app (goodIn_of _ (by decide +kernel)) ggX8_play_X3_keep
set_option maxRecDepth 20000 in
theorem ggX8_play_X6_length : GoodIn wsX8_play wsX6_length := goodIn_r _ [161, 10, 305, 306, 307, 308, 309, 310, 311, 312, 313, 314, 315] (by decide +kernel) (by decide +kernel)
set_option maxRecDepth 20000 in
theorem gX8_play_X6_length : GoodIn wsX8_play (wsV RX8 146 RX6 yX6_length wsX6_length) := goodIn_app (goodIn_of _ (by decide +kernel)) ggX8_play_X6_length
set_option maxRecDepth 20000 in
theorem ggX8_play_X6_readEvent : GoodIn wsX8_play wsX6_readEvent := goodIn_r _ [20, 21, 22, 11, 12, 13, 14, 23, 24, 25, 26, 8, 27, 28, 29, 30, 31, 10, 32, 33, 34, 35, 36, 37, 38, 39, 40, 41, 42, 43, 305, 306, 307, 308, 309, 310, 311, 312, 313, 314, 315] (by decide +kernel) (by decide +kernel)
set_option maxRecDepth 20000 in
theorem gX8_play_X6_readEvent : GoodIn wsX8_play (wsV RX8 172 RX6 yX6_readEvent wsX6_readEvent) := goodIn_app (goodIn_of _ (by decide +kernel)) ggX8_play_X6_readEvent
set_option maxRecDepth 20000 in
theorem ggX8_play_X1_admit : GoodIn wsX8_play wsX1_admit := goodIn_r _ [166, 66, 74, 70, 78, 77, 79, 76, 167, 168, 169, 65, 170, 86, 171, 172, 173, 85, 174, 95, 96, 98, 175, 176, 177, 178, 130, 179, 180, 181, 57, 182, 183, 184, 185, 186, 75, 187, 188, 189, 190, 191, 192, 193, 69, 194, 103, 195, 196, 197, 198, 143, 199, 200, 201, 202, 203, 204, 205, 206, 207, 208, 209, 210, 211, 212, 213, 214, 215, 216, 217, 218, 219, 220, 221, 222, 73, 223, 224, 225, 226, 227, 228, 229, 230, 231, 119, 232, 233, 234, 235, 236, 237, 238, 239, 240, 241, 242, 243, 244, 245, 246, 247, 248, 249, 250, 251, 252, 253, 254, 255, 256, 257, 258, 259, 260, 261, 262, 263, 264, 265, 135, 136, 137, 138, 266, 267, 268, 269, 270, 271, 107, 272, 273, 274, 275, 276, 277, 278, 106, 279, 149, 113, 150, 151, 280, 281, 282, 283, 284, 285, 286, 287, 288, 289, 290, 291, 292, 293, 92, 93, 94, 294, 295, 296, 297, 33, 34, 35, 298, 299, 300, 301, 319, 320, 321, 322, 323, 324, 325, 326, 327, 328, 329, 334, 335, 336, 330, 331, 332, 333, 337, 338, 339, 340] (by decide +kernel) (by decide +kernel)
set_option maxRecDepth 20000 in
theorem gX8_play_X1_admit : GoodIn wsX8_play (wsV RX8 52 RX1 yX1_admit wsX1_admit) := goodIn_app (goodIn_of _ (by decide +kernel)) ggX8_play_X1_admit
theorem dX8_play_0 : decode cX8_play 0 = .ok (.aload_n 0, 1) := by decide +kernel
theorem dX8_play_1 : decode cX8_play 1 = .ok (.getfield 26, 3) := by decide +kernel
theorem dX8_play_4 : decode cX8_play 4 = .ok (.invokevirtual 163, 3) := by decide +kernel
theorem dX8_play_7 : decode cX8_play 7 = .ok (.ifCond .eq 6, 3) := by decide +kernel
theorem dX8_play_10 : decode cX8_play 10 = .ok (.ldc 39, 2) := by decide +kernel
theorem dX8_play_12 : decode cX8_play 12 = .ok (.ireturn, 1) := by decide +kernel
theorem dX8_play_13 : decode cX8_play 13 = .ok (.aload_n 0, 1) := by decide +kernel
theorem dX8_play_14 : decode cX8_play 14 = .ok (.getfield 19, 3) := by decide +kernel
theorem dX8_play_17 : decode cX8_play 17 = .ok (.aload_n 0, 1) := by decide +kernel
theorem dX8_play_18 : decode cX8_play 18 = .ok (.getfield 10, 3) := by decide +kernel
theorem dX8_play_21 : decode cX8_play 21 = .ok (.invokevirtual 40, 3) := by decide +kernel
theorem dX8_play_24 : decode cX8_play 24 = .ok (.iconst 0, 1) := by decide +kernel
theorem dX8_play_25 : decode cX8_play 25 = .ok (.istore_n 1, 1) := by decide +kernel
theorem dX8_play_26 : decode cX8_play 26 = .ok (.iconst 0, 1) := by decide +kernel
theorem dX8_play_27 : decode cX8_play 27 = .ok (.istore_n 2, 1) := by decide +kernel
theorem dX8_play_28 : decode cX8_play 28 = .ok (.iconst 0, 1) := by decide +kernel
theorem dX8_play_29 : decode cX8_play 29 = .ok (.istore_n 3, 1) := by decide +kernel
theorem dX8_play_30 : decode cX8_play 30 = .ok (.iload_n 3, 1) := by decide +kernel
theorem dX8_play_31 : decode cX8_play 31 = .ok (.bipush 80, 2) := by decide +kernel
theorem dX8_play_33 : decode cX8_play 33 = .ok (.if_icmp .ge 86, 3) := by decide +kernel
theorem dX8_play_36 : decode cX8_play 36 = .ok (.iload_n 2, 1) := by decide +kernel
theorem dX8_play_37 : decode cX8_play 37 = .ok (.ifCond .lt 82, 3) := by decide +kernel
theorem dX8_play_40 : decode cX8_play 40 = .ok (.iload_n 2, 1) := by decide +kernel
theorem dX8_play_41 : decode cX8_play 41 = .ok (.aload_n 0, 1) := by decide +kernel
theorem dX8_play_42 : decode cX8_play 42 = .ok (.getfield 26, 3) := by decide +kernel
theorem dX8_play_45 : decode cX8_play 45 = .ok (.invokevirtual 146, 3) := by decide +kernel
theorem dX8_play_48 : decode cX8_play 48 = .ok (.if_icmp .ge 71, 3) := by decide +kernel
theorem dX8_play_51 : decode cX8_play 51 = .ok (.aload_n 0, 1) := by decide +kernel
theorem dX8_play_52 : decode cX8_play 52 = .ok (.getfield 26, 3) := by decide +kernel
theorem dX8_play_55 : decode cX8_play 55 = .ok (.iload_n 2, 1) := by decide +kernel
theorem dX8_play_56 : decode cX8_play 56 = .ok (.invokevirtual 172, 3) := by decide +kernel
theorem dX8_play_59 : decode cX8_play 59 = .ok (.istore_n 2, 1) := by decide +kernel
theorem dX8_play_60 : decode cX8_play 60 = .ok (.aload_n 0, 1) := by decide +kernel
theorem dX8_play_61 : decode cX8_play 61 = .ok (.getfield 10, 3) := by decide +kernel
theorem dX8_play_64 : decode cX8_play 64 = .ok (.aload_n 0, 1) := by decide +kernel
theorem dX8_play_65 : decode cX8_play 65 = .ok (.getfield 26, 3) := by decide +kernel
theorem dX8_play_68 : decode cX8_play 68 = .ok (.getfield 175, 3) := by decide +kernel
theorem dX8_play_71 : decode cX8_play 71 = .ok (.aload_n 0, 1) := by decide +kernel
theorem dX8_play_72 : decode cX8_play 72 = .ok (.getfield 26, 3) := by decide +kernel
theorem dX8_play_75 : decode cX8_play 75 = .ok (.getfield 179, 3) := by decide +kernel
theorem dX8_play_78 : decode cX8_play 78 = .ok (.aload_n 0, 1) := by decide +kernel
theorem dX8_play_79 : decode cX8_play 79 = .ok (.getfield 26, 3) := by decide +kernel
theorem dX8_play_82 : decode cX8_play 82 = .ok (.getfield 182, 3) := by decide +kernel
theorem dX8_play_85 : decode cX8_play 85 = .ok (.aload_n 0, 1) := by decide +kernel
theorem dX8_play_86 : decode cX8_play 86 = .ok (.getfield 26, 3) := by decide +kernel
theorem dX8_play_89 : decode cX8_play 89 = .ok (.getfield 185, 3) := by decide +kernel
theorem dX8_play_92 : decode cX8_play 92 = .ok (.aload_n 0, 1) := by decide +kernel
theorem dX8_play_93 : decode cX8_play 93 = .ok (.getfield 26, 3) := by decide +kernel
theorem dX8_play_96 : decode cX8_play 96 = .ok (.getfield 188, 3) := by decide +kernel
theorem dX8_play_99 : decode cX8_play 99 = .ok (.invokevirtual 52, 3) := by decide +kernel
theorem dX8_play_102 : decode cX8_play 102 = .ok (.istore 4, 2) := by decide +kernel
theorem dX8_play_104 : decode cX8_play 104 = .ok (.iload 4, 2) := by decide +kernel
theorem dX8_play_106 : decode cX8_play 106 = .ok (.iconst 1, 1) := by decide +kernel
theorem dX8_play_107 : decode cX8_play 107 = .ok (.if_icmp .gt 6, 3) := by decide +kernel
theorem dX8_play_110 : decode cX8_play 110 = .ok (.iinc 1 1, 3) := by decide +kernel
theorem dX8_play_113 : decode cX8_play 113 = .ok (.iinc 3 1, 3) := by decide +kernel
theorem dX8_play_116 : decode cX8_play 116 = .ok (.goto (-86), 3) := by decide +kernel
theorem dX8_play_119 : decode cX8_play 119 = .ok (.iload_n 1, 1) := by decide +kernel
theorem dX8_play_120 : decode cX8_play 120 = .ok (.ireturn, 1) := by decide +kernel
theorem dX8_isWithin_0 : decode cX8_isWithin 0 = .ok (.iload_n 0, 1) := by decide +kernel
theorem dX8_isWithin_1 : decode cX8_isWithin 1 = .ok (.iload_n 1, 1) := by decide +kernel
theorem dX8_isWithin_2 : decode cX8_isWithin 2 = .ok (.if_icmp .lt 12, 3) := by decide +kernel
theorem dX8_isWithin_5 : decode cX8_isWithin 5 = .ok (.iload_n 0, 1) := by decide +kernel
theorem dX8_isWithin_6 : decode cX8_isWithin 6 = .ok (.iload_n 2, 1) := by decide +kernel
theorem dX8_isWithin_7 : decode cX8_isWithin 7 = .ok (.if_icmp .gt 7, 3) := by decide +kernel
theorem dX8_isWithin_10 : decode cX8_isWithin 10 = .ok (.iconst 1, 1) := by decide +kernel
theorem dX8_isWithin_11 : decode cX8_isWithin 11 = .ok (.goto 4, 3) := by decide +kernel
theorem dX8_isWithin_14 : decode cX8_isWithin 14 = .ok (.iconst 0, 1) := by decide +kernel
theorem dX8_isWithin_15 : decode cX8_isWithin 15 = .ok (.ireturn, 1) := by decide +kernel
set_option maxRecDepth 20000 in
theorem ggX8_isEvent_X8_isWithin : GoodIn wsX8_isEvent wsX8_isWithin := goodIn_r _ [4] (by decide +kernel) (by decide +kernel)
set_option maxRecDepth 20000 in
theorem gX8_isEvent_X8_isWithin : GoodIn wsX8_isEvent (va_wsS RX8 30 yX8_isWithin wsX8_isWithin) := goodIn_app (goodIn_of _ (by decide +kernel)) ggX8_isEvent_X8_isWithin
theorem dX8_isEvent_0 : decode cX8_isEvent 0 = .ok (.iload_n 0, 1) := by decide +kernel
theorem dX8_isEvent_1 : decode cX8_isEvent 1 = .ok (.iconst 0, 1) := by decide +kernel
theorem dX8_isEvent_2 : decode cX8_isEvent 2 = .ok (.bipush 63, 2) := by decide +kernel
theorem dX8_isEvent_4 : decode cX8_isEvent 4 = .ok (.invokestatic 30, 3) := by decide +kernel
theorem dX8_isEvent_7 : decode cX8_isEvent 7 = .ok (.ifCond .eq 38, 3) := by decide +kernel
theorem dX8_isEvent_10 : decode cX8_isEvent 10 = .ok (.iload_n 1, 1) := by decide +kernel
theorem dX8_isEvent_11 : decode cX8_isEvent 11 = .ok (.iconst 0, 1) := by decide +kernel
theorem dX8_isEvent_12 : decode cX8_isEvent 12 = .ok (.sipush 1999, 3) := by decide +kernel
theorem dX8_isEvent_15 : decode cX8_isEvent 15 = .ok (.invokestatic 30, 3) := by decide +kernel
theorem dX8_isEvent_18 : decode cX8_isEvent 18 = .ok (.ifCond .eq 27, 3) := by decide +kernel
theorem dX8_isEvent_21 : decode cX8_isEvent 21 = .ok (.iload_n 2, 1) := by decide +kernel
theorem dX8_isEvent_22 : decode cX8_isEvent 22 = .ok (.iconst 0, 1) := by decide +kernel
theorem dX8_isEvent_23 : decode cX8_isEvent 23 = .ok (.iconst 5, 1) := by decide +kernel
theorem dX8_isEvent_24 : decode cX8_isEvent 24 = .ok (.invokestatic 30, 3) := by decide +kernel
theorem dX8_isEvent_27 : decode cX8_isEvent 27 = .ok (.ifCond .eq 18, 3) := by decide +kernel
theorem dX8_isEvent_30 : decode cX8_isEvent 30 = .ok (.iload_n 3, 1) := by decide +kernel
theorem dX8_isEvent_31 : decode cX8_isEvent 31 = .ok (.bipush (-100), 2) := by decide +kernel
theorem dX8_isEvent_33 : decode cX8_isEvent 33 = .ok (.bipush 100, 2) := by decide +kernel
theorem dX8_isEvent_35 : decode cX8_isEvent 35 = .ok (.invokestatic 30, 3) := by decide +kernel
theorem dX8_isEvent_38 : decode cX8_isEvent 38 = .ok (.ifCond .eq 7, 3) := by decide +kernel
theorem dX8_isEvent_41 : decode cX8_isEvent 41 = .ok (.iconst 1, 1) := by decide +kernel
theorem dX8_isEvent_42 : decode cX8_isEvent 42 = .ok (.goto 4, 3) := by decide +kernel
theorem dX8_isEvent_45 : decode cX8_isEvent 45 = .ok (.iconst 0, 1) := by decide +kernel
theorem dX8_isEvent_46 : decode cX8_isEvent 46 = .ok (.ireturn, 1) := by decide +kernel
theorem dX8_bitsOf_0 : decode cX8_bitsOf 0 = .ok (.fload_n 0, 1) := by decide +kernel
theorem dX8_bitsOf_1 : decode cX8_bitsOf 1 = .ok (.fconst 0, 1) := by decide +kernel
theorem dX8_bitsOf_2 : decode cX8_bitsOf 2 = .ok (.fcmp .l, 1) := by decide +kernel
theorem dX8_bitsOf_3 : decode cX8_bitsOf 3 = .ok (.ifCond .ne 5, 3) := by decide +kernel
theorem dX8_bitsOf_6 : decode cX8_bitsOf 6 = .ok (.iconst 0, 1) := by decide +kernel
theorem dX8_bitsOf_7 : decode cX8_bitsOf 7 = .ok (.ireturn, 1) := by decide +kernel
theorem dX8_bitsOf_8 : decode cX8_bitsOf 8 = .ok (.fload_n 0, 1) := by decide +kernel
theorem dX8_bitsOf_9 : decode cX8_bitsOf 9 = .ok (.fconst 0, 1) := by decide +kernel
theorem dX8_bitsOf_10 : decode cX8_bitsOf 10 = .ok (.fcmp .g, 1) := by decide +kernel
theorem dX8_bitsOf_11 : decode cX8_bitsOf 11 = .ok (.ifCond .ge 8, 3) := by decide +kernel
theorem dX8_bitsOf_14 : decode cX8_bitsOf 14 = .ok (.fload_n 0, 1) := by decide +kernel
theorem dX8_bitsOf_15 : decode cX8_bitsOf 15 = .ok (.fneg, 1) := by decide +kernel
theorem dX8_bitsOf_16 : decode cX8_bitsOf 16 = .ok (.goto 4, 3) := by decide +kernel
theorem dX8_bitsOf_19 : decode cX8_bitsOf 19 = .ok (.fload_n 0, 1) := by decide +kernel
theorem dX8_bitsOf_20 : decode cX8_bitsOf 20 = .ok (.fstore_n 1, 1) := by decide +kernel
theorem dX8_bitsOf_21 : decode cX8_bitsOf 21 = .ok (.sipush 150, 3) := by decide +kernel
theorem dX8_bitsOf_24 : decode cX8_bitsOf 24 = .ok (.istore_n 2, 1) := by decide +kernel
theorem dX8_bitsOf_25 : decode cX8_bitsOf 25 = .ok (.iconst 0, 1) := by decide +kernel
theorem dX8_bitsOf_26 : decode cX8_bitsOf 26 = .ok (.istore_n 3, 1) := by decide +kernel
theorem dX8_bitsOf_27 : decode cX8_bitsOf 27 = .ok (.iload_n 3, 1) := by decide +kernel
theorem dX8_bitsOf_28 : decode cX8_bitsOf 28 = .ok (.sipush 150, 3) := by decide +kernel
theorem dX8_bitsOf_31 : decode cX8_bitsOf 31 = .ok (.if_icmp .ge 23, 3) := by decide +kernel
theorem dX8_bitsOf_34 : decode cX8_bitsOf 34 = .ok (.fload_n 1, 1) := by decide +kernel
theorem dX8_bitsOf_35 : decode cX8_bitsOf 35 = .ok (.ldc 191, 2) := by decide +kernel
theorem dX8_bitsOf_37 : decode cX8_bitsOf 37 = .ok (.fcmp .g, 1) := by decide +kernel
theorem dX8_bitsOf_38 : decode cX8_bitsOf 38 = .ok (.ifCond .ge 16, 3) := by decide +kernel
theorem dX8_bitsOf_41 : decode cX8_bitsOf 41 = .ok (.fload_n 1, 1) := by decide +kernel
theorem dX8_bitsOf_42 : decode cX8_bitsOf 42 = .ok (.fconst 2, 1) := by decide +kernel
theorem dX8_bitsOf_43 : decode cX8_bitsOf 43 = .ok (.fmul, 1) := by decide +kernel
theorem dX8_bitsOf_44 : decode cX8_bitsOf 44 = .ok (.fstore_n 1, 1) := by decide +kernel
theorem dX8_bitsOf_45 : decode cX8_bitsOf 45 = .ok (.iinc 2 (-1), 3) := by decide +kernel
theorem dX8_bitsOf_48 : decode cX8_bitsOf 48 = .ok (.iinc 3 1, 3) := by decide +kernel
theorem dX8_bitsOf_51 : decode cX8_bitsOf 51 = .ok (.goto (-24), 3) := by decide +kernel
theorem dX8_bitsOf_54 : decode cX8_bitsOf 54 = .ok (.iload_n 2, 1) := by decide +kernel
theorem dX8_bitsOf_55 : decode cX8_bitsOf 55 = .ok (.bipush 23, 2) := by decide +kernel
theorem dX8_bitsOf_57 : decode cX8_bitsOf 57 = .ok (.ishl, 1) := by decide +kernel
theorem dX8_bitsOf_58 : decode cX8_bitsOf 58 = .ok (.fload_n 1, 1) := by decide +kernel
theorem dX8_bitsOf_59 : decode cX8_bitsOf 59 = .ok (.f2i, 1) := by decide +kernel
theorem dX8_bitsOf_60 : decode cX8_bitsOf 60 = .ok (.ldc 192, 2) := by decide +kernel
theorem dX8_bitsOf_62 : decode cX8_bitsOf 62 = .ok (.isub, 1) := by decide +kernel
theorem dX8_bitsOf_63 : decode cX8_bitsOf 63 = .ok (.iadd, 1) := by decide +kernel
theorem dX8_bitsOf_64 : decode cX8_bitsOf 64 = .ok (.istore_n 3, 1) := by decide +kernel
theorem dX8_bitsOf_65 : decode cX8_bitsOf 65 = .ok (.fload_n 0, 1) := by decide +kernel
theorem dX8_bitsOf_66 : decode cX8_bitsOf 66 = .ok (.fconst 0, 1) := by decide +kernel
theorem dX8_bitsOf_67 : decode cX8_bitsOf 67 = .ok (.fcmp .g, 1) := by decide +kernel
theorem dX8_bitsOf_68 : decode cX8_bitsOf 68 = .ok (.ifCond .ge 10, 3) := by decide +kernel
theorem dX8_bitsOf_71 : decode cX8_bitsOf 71 = .ok (.iload_n 3, 1) := by decide +kernel
theorem dX8_bitsOf_72 : decode cX8_bitsOf 72 = .ok (.ldc 193, 2) := by decide +kernel
theorem dX8_bitsOf_74 : decode cX8_bitsOf 74 = .ok (.ior, 1) := by decide +kernel
theorem dX8_bitsOf_75 : decode cX8_bitsOf 75 = .ok (.goto 4, 3) := by decide +kernel
theorem dX8_bitsOf_78 : decode cX8_bitsOf 78 = .ok (.iload_n 3, 1) := by decide +kernel
theorem dX8_bitsOf_79 : decode cX8_bitsOf 79 = .ok (.ireturn, 1) := by decide +kernel
end
section
theorem dX9_init_0 : decode cX9_init 0 = .ok (.aload_n 0, 1) := by decide +kernel
theorem dX9_init_1 : decode cX9_init 1 = .ok (.invokespecial 1, 3) := by decide +kernel
theorem dX9_init_4 : decode cX9_init 4 = .ok (.aload_n 0, 1) := by decide +kernel
theorem dX9_init_5 : decode cX9_init 5 = .ok (.sipush 1080, 3) := by decide +kernel
theorem dX9_init_8 : decode cX9_init 8 = .ok (.newarray .int, 2) := by decide +kernel
theorem dX9_init_10 : decode cX9_init 10 = .ok (.putfield 7, 3) := by decide +kernel
theorem dX9_init_13 : decode cX9_init 13 = .ok (.aload_n 0, 1) := by decide +kernel
theorem dX9_init_14 : decode cX9_init 14 = .ok (.sipush 4320, 3) := by decide +kernel
theorem dX9_init_17 : decode cX9_init 17 = .ok (.newarray .int, 2) := by decide +kernel
theorem dX9_init_19 : decode cX9_init 19 = .ok (.putfield 13, 3) := by decide +kernel
theorem dX9_init_22 : decode cX9_init 22 = .ok (.aload_n 0, 1) := by decide +kernel
theorem dX9_init_23 : decode cX9_init 23 = .ok (.bipush 80, 2) := by decide +kernel
theorem dX9_init_25 : decode cX9_init 25 = .ok (.newarray .int, 2) := by decide +kernel
theorem dX9_init_27 : decode cX9_init 27 = .ok (.putfield 16, 3) := by decide +kernel
theorem dX9_init_30 : decode cX9_init 30 = .ok (.aload_n 0, 1) := by decide +kernel
theorem dX9_init_31 : decode cX9_init 31 = .ok (.iconst 5, 1) := by decide +kernel
theorem dX9_init_32 : decode cX9_init 32 = .ok (.newarray .int, 2) := by decide +kernel
theorem dX9_init_34 : decode cX9_init 34 = .ok (.putfield 19, 3) := by decide +kernel
theorem dX9_init_37 : decode cX9_init 37 = .ok (.aload_n 0, 1) := by decide +kernel
theorem dX9_init_38 : decode cX9_init 38 = .ok (.getfield 7, 3) := by decide +kernel
theorem dX9_init_41 : decode cX9_init 41 = .ok (.iconst 0, 1) := by decide +kernel
theorem dX9_init_42 : decode cX9_init 42 = .ok (.iconst (-1), 1) := by decide +kernel
theorem dX9_init_43 : decode cX9_init 43 = .ok (.iastore, 1) := by decide +kernel
theorem dX9_init_44 : decode cX9_init 44 = .ok (.aload_n 0, 1) := by decide +kernel
theorem dX9_init_45 : decode cX9_init 45 = .ok (.getfield 7, 3) := by decide +kernel
theorem dX9_init_48 : decode cX9_init 48 = .ok (.iconst 1, 1) := by decide +kernel
theorem dX9_init_49 : decode cX9_init 49 = .ok (.iconst (-1), 1) := by decide +kernel
theorem dX9_init_50 : decode cX9_init 50 = .ok (.iastore, 1) := by decide +kernel
theorem dX9_init_51 : decode cX9_init 51 = .ok (.aload_n 0, 1) := by decide +kernel
theorem dX9_init_52 : decode cX9_init 52 = .ok (.getfield 7, 3) := by decide +kernel
theorem dX9_init_55 : decode cX9_init 55 = .ok (.bipush 6, 2) := by decide +kernel
theorem dX9_init_57 : decode cX9_init 57 = .ok (.bipush 10, 2) := by decide +kernel
theorem dX9_init_59 : decode cX9_init 59 = .ok (.iastore, 1) := by decide +kernel
theorem dX9_init_60 : decode cX9_init 60 = .ok (.aload_n 0, 1) := by decide +kernel
theorem dX9_init_61 : decode cX9_init 61 = .ok (.getfield 7, 3) := by decide +kernel
theorem dX9_init_64 : decode cX9_init 64 = .ok (.bipush 7, 2) := by decide +kernel
theorem dX9_init_66 : decode cX9_init 66 = .ok (.iconst 5, 1) := by decide +kernel
theorem dX9_init_67 : decode cX9_init 67 = .ok (.iastore, 1) := by decide +kernel
theorem dX9_init_68 : decode cX9_init 68 = .ok (.aload_n 0, 1) := by decide +kernel
theorem dX9_init_69 : decode cX9_init 69 = .ok (.getfield 7, 3) := by decide +kernel
theorem dX9_init_72 : decode cX9_init 72 = .ok (.bipush 8, 2) := by decide +kernel
theorem dX9_init_74 : decode cX9_init 74 = .ok (.bipush 10, 2) := by decide +kernel
theorem dX9_init_76 : decode cX9_init 76 = .ok (.iastore, 1) := by decide +kernel
theorem dX9_init_77 : decode cX9_init 77 = .ok (.return_, 1) := by decide +kernel
theorem dX9_isIn_0 : decode cX9_isIn 0 = .ok (.iload_n 0, 1) := by decide +kernel
theorem dX9_isIn_1 : decode cX9_isIn 1 = .ok (.iload_n 1, 1) := by decide +kernel
theorem dX9_isIn_2 : decode cX9_isIn 2 = .ok (.if_icmp .lt 12, 3) := by decide +kernel
theorem dX9_isIn_5 : decode cX9_isIn 5 = .ok (.iload_n 0, 1) := by decide +kernel
theorem dX9_isIn_6 : decode cX9_isIn 6 = .ok (.iload_n 2, 1) := by decide +kernel
theorem dX9_isIn_7 : decode cX9_isIn 7 = .ok (.if_icmp .gt 7, 3) := by decide +kernel
theorem dX9_isIn_10 : decode cX9_isIn 10 = .ok (.iconst 1, 1) := by decide +kernel
theorem dX9_isIn_11 : decode cX9_isIn 11 = .ok (.goto 4, 3) := by decide +kernel
theorem dX9_isIn_14 : decode cX9_isIn 14 = .ok (.iconst 0, 1) := by decide +kernel
theorem dX9_isIn_15 : decode cX9_isIn 15 = .ok (.ireturn, 1) := by decide +kernel
theorem dX9_ofE_0 : decode cX9_ofE 0 = .ok (.aload_n 0, 1) := by decide +kernel
theorem dX9_ofE_1 : decode cX9_ofE 1 = .ok (.getfield 7, 3) := by decide +kernel
theorem dX9_ofE_4 : decode cX9_ofE 4 = .ok (.bipush 12, 2) := by decide +kernel
theorem dX9_ofE_6 : decode cX9_ofE 6 = .ok (.bipush 6, 2) := by decide +kernel
theorem dX9_ofE_8 : decode cX9_ofE 8 = .ok (.iload_n 1, 1) := by decide +kernel
theorem dX9_ofE_9 : decode cX9_ofE 9 = .ok (.imul, 1) := by decide +kernel
theorem dX9_ofE_10 : decode cX9_ofE 10 = .ok (.iadd, 1) := by decide +kernel
theorem dX9_ofE_11 : decode cX9_ofE 11 = .ok (.iload_n 2, 1) := by decide +kernel
theorem dX9_ofE_12 : decode cX9_ofE 12 = .ok (.iadd, 1) := by decide +kernel
theorem dX9_ofE_13 : decode cX9_ofE 13 = .ok (.iaload, 1) := by decide +kernel
theorem dX9_ofE_14 : decode cX9_ofE 14 = .ok (.ireturn, 1) := by decide +kernel
theorem dX9_ofP_0 : decode cX9_ofP 0 = .ok (.aload_n 0, 1) := by decide +kernel
theorem dX9_ofP_1 : decode cX9_ofP 1 = .ok (.getfield 7, 3) := by decide +kernel
theorem dX9_ofP_4 : decode cX9_ofP 4 = .ok (.sipush 396, 3) := by decide +kernel
theorem dX9_ofP_7 : decode cX9_ofP 7 = .ok (.bipush 8, 2) := by decide +kernel
theorem dX9_ofP_9 : decode cX9_ofP 9 = .ok (.iload_n 1, 1) := by decide +kernel
theorem dX9_ofP_10 : decode cX9_ofP 10 = .ok (.imul, 1) := by decide +kernel
theorem dX9_ofP_11 : decode cX9_ofP 11 = .ok (.iadd, 1) := by decide +kernel
theorem dX9_ofP_12 : decode cX9_ofP 12 = .ok (.iload_n 2, 1) := by decide +kernel
theorem dX9_ofP_13 : decode cX9_ofP 13 = .ok (.iadd, 1) := by decide +kernel
theorem dX9_ofP_14 : decode cX9_ofP 14 = .ok (.iaload, 1) := by decide +kernel
theorem dX9_ofP_15 : decode cX9_ofP 15 = .ok (.ireturn, 1) := by decide +kernel
theorem dX9_setsP_0 : decode cX9_setsP 0 = .ok (.aload_n 0, 1) := by decide +kernel
theorem dX9_setsP_1 : decode cX9_setsP 1 = .ok (.getfield 7, 3) := by decide +kernel
theorem dX9_setsP_4 : decode cX9_setsP 4 = .ok (.sipush 396, 3) := by decide +kernel
theorem dX9_setsP_7 : decode cX9_setsP 7 = .ok (.bipush 8, 2) := by decide +kernel
theorem dX9_setsP_9 : decode cX9_setsP 9 = .ok (.iload_n 1, 1) := by decide +kernel
theorem dX9_setsP_10 : decode cX9_setsP 10 = .ok (.imul, 1) := by decide +kernel
theorem dX9_setsP_11 : decode cX9_setsP 11 = .ok (.iadd, 1) := by decide +kernel
theorem dX9_setsP_12 : decode cX9_setsP 12 = .ok (.iload_n 2, 1) := by decide +kernel
theorem dX9_setsP_13 : decode cX9_setsP 13 = .ok (.iadd, 1) := by decide +kernel
theorem dX9_setsP_14 : decode cX9_setsP 14 = .ok (.iload_n 3, 1) := by decide +kernel
theorem dX9_setsP_15 : decode cX9_setsP 15 = .ok (.iastore, 1) := by decide +kernel
theorem dX9_setsP_16 : decode cX9_setsP 16 = .ok (.return_, 1) := by decide +kernel
theorem dX9_records_0 : decode cX9_records 0 = .ok (.aload_n 0, 1) := by decide +kernel
theorem dX9_records_1 : decode cX9_records 1 = .ok (.getfield 22, 3) := by decide +kernel
theorem dX9_records_4 : decode cX9_records 4 = .ok (.iconst 4, 1) := by decide +kernel
theorem dX9_records_5 : decode cX9_records 5 = .ok (.if_icmp .ne 44, 3) := by decide +kernel
theorem dX9_records_8 : decode cX9_records 8 = .ok (.iconst 0, 1) := by decide +kernel
theorem dX9_records_9 : decode cX9_records 9 = .ok (.istore_n 1, 1) := by decide +kernel
theorem dX9_records_10 : decode cX9_records 10 = .ok (.iload_n 1, 1) := by decide +kernel
theorem dX9_records_11 : decode cX9_records 11 = .ok (.sipush 3240, 3) := by decide +kernel
theorem dX9_records_14 : decode cX9_records 14 = .ok (.if_icmp .ge 25, 3) := by decide +kernel
theorem dX9_records_17 : decode cX9_records 17 = .ok (.aload_n 0, 1) := by decide +kernel
theorem dX9_records_18 : decode cX9_records 18 = .ok (.getfield 13, 3) := by decide +kernel
theorem dX9_records_21 : decode cX9_records 21 = .ok (.iload_n 1, 1) := by decide +kernel
theorem dX9_records_22 : decode cX9_records 22 = .ok (.aload_n 0, 1) := by decide +kernel
theorem dX9_records_23 : decode cX9_records 23 = .ok (.getfield 13, 3) := by decide +kernel
theorem dX9_records_26 : decode cX9_records 26 = .ok (.iload_n 1, 1) := by decide +kernel
theorem dX9_records_27 : decode cX9_records 27 = .ok (.sipush 1080, 3) := by decide +kernel
theorem dX9_records_30 : decode cX9_records 30 = .ok (.iadd, 1) := by decide +kernel
theorem dX9_records_31 : decode cX9_records 31 = .ok (.iaload, 1) := by decide +kernel
theorem dX9_records_32 : decode cX9_records 32 = .ok (.iastore, 1) := by decide +kernel
theorem dX9_records_33 : decode cX9_records 33 = .ok (.iinc 1 1, 3) := by decide +kernel
theorem dX9_records_36 : decode cX9_records 36 = .ok (.goto (-26), 3) := by decide +kernel
theorem dX9_records_39 : decode cX9_records 39 = .ok (.aload_n 0, 1) := by decide +kernel
theorem dX9_records_40 : decode cX9_records 40 = .ok (.dup, 1) := by decide +kernel
theorem dX9_records_41 : decode cX9_records 41 = .ok (.getfield 22, 3) := by decide +kernel
theorem dX9_records_44 : decode cX9_records 44 = .ok (.iconst 1, 1) := by decide +kernel
theorem dX9_records_45 : decode cX9_records 45 = .ok (.isub, 1) := by decide +kernel
theorem dX9_records_46 : decode cX9_records 46 = .ok (.putfield 22, 3) := by decide +kernel
theorem dX9_records_49 : decode cX9_records 49 = .ok (.iconst 0, 1) := by decide +kernel
theorem dX9_records_50 : decode cX9_records 50 = .ok (.istore_n 1, 1) := by decide +kernel
theorem dX9_records_51 : decode cX9_records 51 = .ok (.iload_n 1, 1) := by decide +kernel
theorem dX9_records_52 : decode cX9_records 52 = .ok (.sipush 1080, 3) := by decide +kernel
theorem dX9_records_55 : decode cX9_records 55 = .ok (.if_icmp .ge 30, 3) := by decide +kernel
theorem dX9_records_58 : decode cX9_records 58 = .ok (.aload_n 0, 1) := by decide +kernel
theorem dX9_records_59 : decode cX9_records 59 = .ok (.getfield 13, 3) := by decide +kernel
theorem dX9_records_62 : decode cX9_records 62 = .ok (.aload_n 0, 1) := by decide +kernel
theorem dX9_records_63 : decode cX9_records 63 = .ok (.getfield 22, 3) := by decide +kernel
theorem dX9_records_66 : decode cX9_records 66 = .ok (.sipush 1080, 3) := by decide +kernel
theorem dX9_records_69 : decode cX9_records 69 = .ok (.imul, 1) := by decide +kernel
theorem dX9_records_70 : decode cX9_records 70 = .ok (.iload_n 1, 1) := by decide +kernel
theorem dX9_records_71 : decode cX9_records 71 = .ok (.iadd, 1) := by decide +kernel
theorem dX9_records_72 : decode cX9_records 72 = .ok (.aload_n 0, 1) := by decide +kernel
theorem dX9_records_73 : decode cX9_records 73 = .ok (.getfield 7, 3) := by decide +kernel
theorem dX9_records_76 : decode cX9_records 76 = .ok (.iload_n 1, 1) := by decide +kernel
theorem dX9_records_77 : decode cX9_records 77 = .ok (.iaload, 1) := by decide +kernel
theorem dX9_records_78 : decode cX9_records 78 = .ok (.iastore, 1) := by decide +kernel
theorem dX9_records_79 : decode cX9_records 79 = .ok (.iinc 1 1, 3) := by decide +kernel
theorem dX9_records_82 : decode cX9_records 82 = .ok (.goto (-31), 3) := by decide +kernel
theorem dX9_records_85 : decode cX9_records 85 = .ok (.aload_n 0, 1) := by decide +kernel
theorem dX9_records_86 : decode cX9_records 86 = .ok (.dup, 1) := by decide +kernel
theorem dX9_records_87 : decode cX9_records 87 = .ok (.getfield 22, 3) := by decide +kernel
theorem dX9_records_90 : decode cX9_records 90 = .ok (.iconst 1, 1) := by decide +kernel
theorem dX9_records_91 : decode cX9_records 91 = .ok (.iadd, 1) := by decide +kernel
theorem dX9_records_92 : decode cX9_records 92 = .ok (.putfield 22, 3) := by decide +kernel
theorem dX9_records_95 : decode cX9_records 95 = .ok (.return_, 1) := by decide +kernel
theorem dX9_undo_0 : decode cX9_undo 0 = .ok (.aload_n 0, 1) := by decide +kernel
theorem dX9_undo_1 : decode cX9_undo 1 = .ok (.getfield 22, 3) := by decide +kernel
theorem dX9_undo_4 : decode cX9_undo 4 = .ok (.ifCond .ne 6, 3) := by decide +kernel
theorem dX9_undo_7 : decode cX9_undo 7 = .ok (.ldc 26, 2) := by decide +kernel
theorem dX9_undo_9 : decode cX9_undo 9 = .ok (.ireturn, 1) := by decide +kernel
theorem dX9_undo_10 : decode cX9_undo 10 = .ok (.aload_n 0, 1) := by decide +kernel
theorem dX9_undo_11 : decode cX9_undo 11 = .ok (.dup, 1) := by decide +kernel
theorem dX9_undo_12 : decode cX9_undo 12 = .ok (.getfield 22, 3) := by decide +kernel
theorem dX9_undo_15 : decode cX9_undo 15 = .ok (.iconst 1, 1) := by decide +kernel
theorem dX9_undo_16 : decode cX9_undo 16 = .ok (.isub, 1) := by decide +kernel
theorem dX9_undo_17 : decode cX9_undo 17 = .ok (.putfield 22, 3) := by decide +kernel
theorem dX9_undo_20 : decode cX9_undo 20 = .ok (.iconst 0, 1) := by decide +kernel
theorem dX9_undo_21 : decode cX9_undo 21 = .ok (.istore_n 1, 1) := by decide +kernel
theorem dX9_undo_22 : decode cX9_undo 22 = .ok (.iload_n 1, 1) := by decide +kernel
theorem dX9_undo_23 : decode cX9_undo 23 = .ok (.sipush 1080, 3) := by decide +kernel
theorem dX9_undo_26 : decode cX9_undo 26 = .ok (.if_icmp .ge 30, 3) := by decide +kernel
theorem dX9_undo_29 : decode cX9_undo 29 = .ok (.aload_n 0, 1) := by decide +kernel
theorem dX9_undo_30 : decode cX9_undo 30 = .ok (.getfield 7, 3) := by decide +kernel
theorem dX9_undo_33 : decode cX9_undo 33 = .ok (.iload_n 1, 1) := by decide +kernel
theorem dX9_undo_34 : decode cX9_undo 34 = .ok (.aload_n 0, 1) := by decide +kernel
theorem dX9_undo_35 : decode cX9_undo 35 = .ok (.getfield 13, 3) := by decide +kernel
theorem dX9_undo_38 : decode cX9_undo 38 = .ok (.aload_n 0, 1) := by decide +kernel
theorem dX9_undo_39 : decode cX9_undo 39 = .ok (.getfield 22, 3) := by decide +kernel
theorem dX9_undo_42 : decode cX9_undo 42 = .ok (.sipush 1080, 3) := by decide +kernel
theorem dX9_undo_45 : decode cX9_undo 45 = .ok (.imul, 1) := by decide +kernel
theorem dX9_undo_46 : decode cX9_undo 46 = .ok (.iload_n 1, 1) := by decide +kernel
theorem dX9_undo_47 : decode cX9_undo 47 = .ok (.iadd, 1) := by decide +kernel
theorem dX9_undo_48 : decode cX9_undo 48 = .ok (.iaload, 1) := by decide +kernel
theorem dX9_undo_49 : decode cX9_undo 49 = .ok (.iastore, 1) := by decide +kernel
theorem dX9_undo_50 : decode cX9_undo 50 = .ok (.iinc 1 1, 3) := by decide +kernel
theorem dX9_undo_53 : decode cX9_undo 53 = .ok (.goto (-31), 3) := by decide +kernel
theorem dX9_undo_56 : decode cX9_undo 56 = .ok (.aload_n 0, 1) := by decide +kernel
theorem dX9_undo_57 : decode cX9_undo 57 = .ok (.getfield 22, 3) := by decide +kernel
theorem dX9_undo_60 : decode cX9_undo 60 = .ok (.ireturn, 1) := by decide +kernel
set_option maxRecDepth 20000 in
theorem ggX9_set_X9_isIn : GoodIn wsX9_set wsX9_isIn := goodIn_r _ [7] (by decide +kernel) (by decide +kernel)
set_option maxRecDepth 20000 in
theorem gX9_set_X9_isIn : GoodIn wsX9_set (va_wsS RX9 27 yX9_isIn wsX9_isIn) := goodIn_app (goodIn_of _ (by decide +kernel)) ggX9_set_X9_isIn
set_option maxRecDepth 20000 in
theorem ggX9_set_X9_records : GoodIn wsX9_set wsX9_records := goodIn_r _ [11, 12, 13, 2, 14, 15, 16, 17, 18, 19, 20, 21] (by decide +kernel) (by decide +kernel)
set_option maxRecDepth 20000 in
theorem gX9_set_X9_records : GoodIn wsX9_set (wsV RX9 32 RX9 yX9_records wsX9_records) := goodIn_app (goodIn_of _ (by decide +kernel)) ggX9_set_X9_records
theorem dX9_set_0 : decode cX9_set 0 = .ok (.iload_n 1, 1) := by decide +kernel
theorem dX9_set_1 : decode cX9_set 1 = .ok (.iconst 0, 1) := by decide +kernel
theorem dX9_set_2 : decode cX9_set 2 = .ok (.iconst 2, 1) := by decide +kernel
theorem dX9_set_3 : decode cX9_set 3 = .ok (.invokestatic 27, 3) := by decide +kernel
theorem dX9_set_6 : decode cX9_set 6 = .ok (.ifCond .eq 21, 3) := by decide +kernel
theorem dX9_set_9 : decode cX9_set 9 = .ok (.iload_n 2, 1) := by decide +kernel
theorem dX9_set_10 : decode cX9_set 10 = .ok (.iload_n 1, 1) := by decide +kernel
theorem dX9_set_11 : decode cX9_set 11 = .ok (.ifCond .ne 7, 3) := by decide +kernel
theorem dX9_set_14 : decode cX9_set 14 = .ok (.iconst 1, 1) := by decide +kernel
theorem dX9_set_15 : decode cX9_set 15 = .ok (.goto 4, 3) := by decide +kernel
theorem dX9_set_18 : decode cX9_set 18 = .ok (.iconst 0, 1) := by decide +kernel
theorem dX9_set_19 : decode cX9_set 19 = .ok (.bipush 100, 2) := by decide +kernel
theorem dX9_set_21 : decode cX9_set 21 = .ok (.invokestatic 27, 3) := by decide +kernel
theorem dX9_set_24 : decode cX9_set 24 = .ok (.ifCond .ne 6, 3) := by decide +kernel
theorem dX9_set_27 : decode cX9_set 27 = .ok (.ldc 31, 2) := by decide +kernel
theorem dX9_set_29 : decode cX9_set 29 = .ok (.ireturn, 1) := by decide +kernel
theorem dX9_set_30 : decode cX9_set 30 = .ok (.iload_n 1, 1) := by decide +kernel
theorem dX9_set_31 : decode cX9_set 31 = .ok (.ifCond .ne 17, 3) := by decide +kernel
theorem dX9_set_34 : decode cX9_set 34 = .ok (.aload_n 0, 1) := by decide +kernel
theorem dX9_set_35 : decode cX9_set 35 = .ok (.getfield 7, 3) := by decide +kernel
theorem dX9_set_38 : decode cX9_set 38 = .ok (.bipush 11, 2) := by decide +kernel
theorem dX9_set_40 : decode cX9_set 40 = .ok (.iaload, 1) := by decide +kernel
theorem dX9_set_41 : decode cX9_set 41 = .ok (.iconst 1, 1) := by decide +kernel
theorem dX9_set_42 : decode cX9_set 42 = .ok (.if_icmp .ne 6, 3) := by decide +kernel
theorem dX9_set_45 : decode cX9_set 45 = .ok (.ldc 26, 2) := by decide +kernel
theorem dX9_set_47 : decode cX9_set 47 = .ok (.ireturn, 1) := by decide +kernel
theorem dX9_set_48 : decode cX9_set 48 = .ok (.aload_n 0, 1) := by decide +kernel
theorem dX9_set_49 : decode cX9_set 49 = .ok (.invokevirtual 32, 3) := by decide +kernel
theorem dX9_set_52 : decode cX9_set 52 = .ok (.aload_n 0, 1) := by decide +kernel
theorem dX9_set_53 : decode cX9_set 53 = .ok (.getfield 7, 3) := by decide +kernel
theorem dX9_set_56 : decode cX9_set 56 = .ok (.bipush 6, 2) := by decide +kernel
theorem dX9_set_58 : decode cX9_set 58 = .ok (.iload_n 1, 1) := by decide +kernel
theorem dX9_set_59 : decode cX9_set 59 = .ok (.iadd, 1) := by decide +kernel
theorem dX9_set_60 : decode cX9_set 60 = .ok (.iaload, 1) := by decide +kernel
theorem dX9_set_61 : decode cX9_set 61 = .ok (.istore_n 3, 1) := by decide +kernel
theorem dX9_set_62 : decode cX9_set 62 = .ok (.aload_n 0, 1) := by decide +kernel
theorem dX9_set_63 : decode cX9_set 63 = .ok (.getfield 7, 3) := by decide +kernel
theorem dX9_set_66 : decode cX9_set 66 = .ok (.bipush 6, 2) := by decide +kernel
theorem dX9_set_68 : decode cX9_set 68 = .ok (.iload_n 1, 1) := by decide +kernel
theorem dX9_set_69 : decode cX9_set 69 = .ok (.iadd, 1) := by decide +kernel
theorem dX9_set_70 : decode cX9_set 70 = .ok (.iload_n 2, 1) := by decide +kernel
theorem dX9_set_71 : decode cX9_set 71 = .ok (.iastore, 1) := by decide +kernel
theorem dX9_set_72 : decode cX9_set 72 = .ok (.iload_n 3, 1) := by decide +kernel
theorem dX9_set_73 : decode cX9_set 73 = .ok (.ireturn, 1) := by decide +kernel
theorem dX9_paneAt_0 : decode cX9_paneAt 0 = .ok (.iload_n 1, 1) := by decide +kernel
theorem dX9_paneAt_1 : decode cX9_paneAt 1 = .ok (.aload_n 0, 1) := by decide +kernel
theorem dX9_paneAt_2 : decode cX9_paneAt 2 = .ok (.getfield 7, 3) := by decide +kernel
theorem dX9_paneAt_5 : decode cX9_paneAt 5 = .ok (.bipush 6, 2) := by decide +kernel
theorem dX9_paneAt_7 : decode cX9_paneAt 7 = .ok (.iaload, 1) := by decide +kernel
theorem dX9_paneAt_8 : decode cX9_paneAt 8 = .ok (.idiv, 1) := by decide +kernel
theorem dX9_paneAt_9 : decode cX9_paneAt 9 = .ok (.ireturn, 1) := by decide +kernel
theorem dX9_endOf_0 : decode cX9_endOf 0 = .ok (.iload_n 1, 1) := by decide +kernel
theorem dX9_endOf_1 : decode cX9_endOf 1 = .ok (.iconst 1, 1) := by decide +kernel
theorem dX9_endOf_2 : decode cX9_endOf 2 = .ok (.iadd, 1) := by decide +kernel
theorem dX9_endOf_3 : decode cX9_endOf 3 = .ok (.aload_n 0, 1) := by decide +kernel
theorem dX9_endOf_4 : decode cX9_endOf 4 = .ok (.getfield 7, 3) := by decide +kernel
theorem dX9_endOf_7 : decode cX9_endOf 7 = .ok (.bipush 6, 2) := by decide +kernel
theorem dX9_endOf_9 : decode cX9_endOf 9 = .ok (.iaload, 1) := by decide +kernel
theorem dX9_endOf_10 : decode cX9_endOf 10 = .ok (.imul, 1) := by decide +kernel
theorem dX9_endOf_11 : decode cX9_endOf 11 = .ok (.ireturn, 1) := by decide +kernel
set_option maxRecDepth 20000 in
theorem ggX9_find_X9_ofP : GoodIn wsX9_find wsX9_ofP := goodIn_r _ [6, 1, 7, 8, 9, 10, 11, 12, 13, 14] (by decide +kernel) (by decide +kernel)
set_option maxRecDepth 20000 in
theorem gX9_find_X9_ofP : GoodIn wsX9_find (wsV RX9 35 RX9 yX9_ofP wsX9_ofP) := goodIn_app (goodIn_of _ (by decide +kernel)) ggX9_find_X9_ofP
theorem dX9_find_0 : decode cX9_find 0 = .ok (.iconst 0, 1) := by decide +kernel
theorem dX9_find_1 : decode cX9_find 1 = .ok (.istore_n 2, 1) := by decide +kernel
theorem dX9_find_2 : decode cX9_find 2 = .ok (.iload_n 2, 1) := by decide +kernel
theorem dX9_find_3 : decode cX9_find 3 = .ok (.aload_n 0, 1) := by decide +kernel
theorem dX9_find_4 : decode cX9_find 4 = .ok (.getfield 7, 3) := by decide +kernel
theorem dX9_find_7 : decode cX9_find 7 = .ok (.bipush 10, 2) := by decide +kernel
theorem dX9_find_9 : decode cX9_find 9 = .ok (.iaload, 1) := by decide +kernel
theorem dX9_find_10 : decode cX9_find 10 = .ok (.if_icmp .ge 21, 3) := by decide +kernel
theorem dX9_find_13 : decode cX9_find 13 = .ok (.aload_n 0, 1) := by decide +kernel
theorem dX9_find_14 : decode cX9_find 14 = .ok (.iload_n 2, 1) := by decide +kernel
theorem dX9_find_15 : decode cX9_find 15 = .ok (.iconst 0, 1) := by decide +kernel
theorem dX9_find_16 : decode cX9_find 16 = .ok (.invokevirtual 35, 3) := by decide +kernel
theorem dX9_find_19 : decode cX9_find 19 = .ok (.iload_n 1, 1) := by decide +kernel
theorem dX9_find_20 : decode cX9_find 20 = .ok (.if_icmp .ne 5, 3) := by decide +kernel
theorem dX9_find_23 : decode cX9_find 23 = .ok (.iload_n 2, 1) := by decide +kernel
theorem dX9_find_24 : decode cX9_find 24 = .ok (.ireturn, 1) := by decide +kernel
theorem dX9_find_25 : decode cX9_find 25 = .ok (.iinc 2 1, 3) := by decide +kernel
theorem dX9_find_28 : decode cX9_find 28 = .ok (.goto (-26), 3) := by decide +kernel
theorem dX9_find_31 : decode cX9_find 31 = .ok (.iconst (-1), 1) := by decide +kernel
theorem dX9_find_32 : decode cX9_find 32 = .ok (.ireturn, 1) := by decide +kernel
set_option maxRecDepth 20000 in
theorem ggX9_modeOf_X9_find : GoodIn wsX9_modeOf wsX9_find := goodIn_r _ [5, 6, 7, 8, 9, 4, 10, 11, 12, 13, 14, 15, 16, 17, 18] (by decide +kernel) (by decide +kernel)
set_option maxRecDepth 20000 in
theorem gX9_modeOf_X9_find : GoodIn wsX9_modeOf (wsV RX9 39 RX9 yX9_find wsX9_find) := goodIn_app (goodIn_of _ (by decide +kernel)) ggX9_modeOf_X9_find
set_option maxRecDepth 20000 in
theorem ggX9_modeOf_X9_ofP : GoodIn wsX9_modeOf wsX9_ofP := goodIn_r _ [10, 6, 11, 12, 13, 14, 15, 16, 17, 18] (by decide +kernel) (by decide +kernel)
set_option maxRecDepth 20000 in
theorem gX9_modeOf_X9_ofP : GoodIn wsX9_modeOf (wsV RX9 35 RX9 yX9_ofP wsX9_ofP) := goodIn_app (goodIn_of _ (by decide +kernel)) ggX9_modeOf_X9_ofP
theorem dX9_modeOf_0 : decode cX9_modeOf 0 = .ok (.aload_n 0, 1) := by decide +kernel
theorem dX9_modeOf_1 : decode cX9_modeOf 1 = .ok (.iload_n 1, 1) := by decide +kernel
theorem dX9_modeOf_2 : decode cX9_modeOf 2 = .ok (.invokevirtual 39, 3) := by decide +kernel
theorem dX9_modeOf_5 : decode cX9_modeOf 5 = .ok (.istore_n 2, 1) := by decide +kernel
theorem dX9_modeOf_6 : decode cX9_modeOf 6 = .ok (.iload_n 2, 1) := by decide +kernel
theorem dX9_modeOf_7 : decode cX9_modeOf 7 = .ok (.ifCond .ge 7, 3) := by decide +kernel
theorem dX9_modeOf_10 : decode cX9_modeOf 10 = .ok (.iconst 0, 1) := by decide +kernel
theorem dX9_modeOf_11 : decode cX9_modeOf 11 = .ok (.goto 9, 3) := by decide +kernel
theorem dX9_modeOf_14 : decode cX9_modeOf 14 = .ok (.aload_n 0, 1) := by decide +kernel
theorem dX9_modeOf_15 : decode cX9_modeOf 15 = .ok (.iload_n 2, 1) := by decide +kernel
theorem dX9_modeOf_16 : decode cX9_modeOf 16 = .ok (.iconst 1, 1) := by decide +kernel
theorem dX9_modeOf_17 : decode cX9_modeOf 17 = .ok (.invokevirtual 35, 3) := by decide +kernel
theorem dX9_modeOf_20 : decode cX9_modeOf 20 = .ok (.ireturn, 1) := by decide +kernel
set_option maxRecDepth 20000 in
theorem ggX9_keeps_X9_find : GoodIn wsX9_keeps wsX9_find := goodIn_r _ [6, 1, 7, 8, 9, 5, 10, 15, 16, 17, 18, 19, 20, 21, 22] (by decide +kernel) (by decide +kernel)
set_option maxRecDepth 20000 in
theorem gX9_keeps_X9_find : GoodIn wsX9_keeps (wsV RX9 39 RX9 yX9_find wsX9_find) := goodIn_app (goodIn_of _ (by decide +kernel)) ggX9_keeps_X9_find
set_option maxRecDepth 20000 in
theorem ggX9_keeps_X9_setsP : GoodIn wsX9_keeps wsX9_setsP := goodIn_r _ [14, 1, 15, 16, 17, 18, 19, 20, 21, 22] (by decide +kernel) (by decide +kernel)
set_option maxRecDepth 20000 in
theorem gX9_keeps_X9_setsP : GoodIn wsX9_keeps (wsV RX9 43 RX9 yX9_setsP wsX9_setsP) := goodIn_app (goodIn_of _ (by decide +kernel)) ggX9_keeps_X9_setsP
theorem dX9_keeps_0 : decode cX9_keeps 0 = .ok (.aload_n 0, 1) := by decide +kernel
theorem dX9_keeps_1 : decode cX9_keeps 1 = .ok (.iload_n 1, 1) := by decide +kernel
theorem dX9_keeps_2 : decode cX9_keeps 2 = .ok (.invokevirtual 39, 3) := by decide +kernel
theorem dX9_keeps_5 : decode cX9_keeps 5 = .ok (.istore_n 2, 1) := by decide +kernel
theorem dX9_keeps_6 : decode cX9_keeps 6 = .ok (.iload_n 2, 1) := by decide +kernel
theorem dX9_keeps_7 : decode cX9_keeps 7 = .ok (.ifCond .ge 50, 3) := by decide +kernel
theorem dX9_keeps_10 : decode cX9_keeps 10 = .ok (.aload_n 0, 1) := by decide +kernel
theorem dX9_keeps_11 : decode cX9_keeps 11 = .ok (.getfield 7, 3) := by decide +kernel
theorem dX9_keeps_14 : decode cX9_keeps 14 = .ok (.bipush 10, 2) := by decide +kernel
theorem dX9_keeps_16 : decode cX9_keeps 16 = .ok (.iaload, 1) := by decide +kernel
theorem dX9_keeps_17 : decode cX9_keeps 17 = .ok (.istore_n 2, 1) := by decide +kernel
theorem dX9_keeps_18 : decode cX9_keeps 18 = .ok (.aload_n 0, 1) := by decide +kernel
theorem dX9_keeps_19 : decode cX9_keeps 19 = .ok (.getfield 7, 3) := by decide +kernel
theorem dX9_keeps_22 : decode cX9_keeps 22 = .ok (.bipush 10, 2) := by decide +kernel
theorem dX9_keeps_24 : decode cX9_keeps 24 = .ok (.dup2, 1) := by decide +kernel
theorem dX9_keeps_25 : decode cX9_keeps 25 = .ok (.iaload, 1) := by decide +kernel
theorem dX9_keeps_26 : decode cX9_keeps 26 = .ok (.iconst 1, 1) := by decide +kernel
theorem dX9_keeps_27 : decode cX9_keeps 27 = .ok (.iadd, 1) := by decide +kernel
theorem dX9_keeps_28 : decode cX9_keeps 28 = .ok (.iastore, 1) := by decide +kernel
theorem dX9_keeps_29 : decode cX9_keeps 29 = .ok (.iconst 0, 1) := by decide +kernel
theorem dX9_keeps_30 : decode cX9_keeps 30 = .ok (.istore_n 3, 1) := by decide +kernel
theorem dX9_keeps_31 : decode cX9_keeps 31 = .ok (.iload_n 3, 1) := by decide +kernel
theorem dX9_keeps_32 : decode cX9_keeps 32 = .ok (.bipush 8, 2) := by decide +kernel
theorem dX9_keeps_34 : decode cX9_keeps 34 = .ok (.if_icmp .ge 16, 3) := by decide +kernel
theorem dX9_keeps_37 : decode cX9_keeps 37 = .ok (.aload_n 0, 1) := by decide +kernel
theorem dX9_keeps_38 : decode cX9_keeps 38 = .ok (.iload_n 2, 1) := by decide +kernel
theorem dX9_keeps_39 : decode cX9_keeps 39 = .ok (.iload_n 3, 1) := by decide +kernel
theorem dX9_keeps_40 : decode cX9_keeps 40 = .ok (.iconst 0, 1) := by decide +kernel
theorem dX9_keeps_41 : decode cX9_keeps 41 = .ok (.invokevirtual 43, 3) := by decide +kernel
theorem dX9_keeps_44 : decode cX9_keeps 44 = .ok (.iinc 3 1, 3) := by decide +kernel
theorem dX9_keeps_47 : decode cX9_keeps 47 = .ok (.goto (-16), 3) := by decide +kernel
theorem dX9_keeps_50 : decode cX9_keeps 50 = .ok (.aload_n 0, 1) := by decide +kernel
theorem dX9_keeps_51 : decode cX9_keeps 51 = .ok (.iload_n 2, 1) := by decide +kernel
theorem dX9_keeps_52 : decode cX9_keeps 52 = .ok (.iconst 0, 1) := by decide +kernel
theorem dX9_keeps_53 : decode cX9_keeps 53 = .ok (.iload_n 1, 1) := by decide +kernel
theorem dX9_keeps_54 : decode cX9_keeps 54 = .ok (.invokevirtual 43, 3) := by decide +kernel
theorem dX9_keeps_57 : decode cX9_keeps 57 = .ok (.iload_n 2, 1) := by decide +kernel
theorem dX9_keeps_58 : decode cX9_keeps 58 = .ok (.ireturn, 1) := by decide +kernel
set_option maxRecDepth 20000 in
theorem ggX9_isShut_X9_modeOf : GoodIn wsX9_isShut wsX9_modeOf := goodIn_r _ [6, 7, 8, 9, 5, 10, 1, 11, 12, 13, 14, 19, 20, 21, 22, 23, 24, 25, 26] (by decide +kernel) (by decide +kernel)
set_option maxRecDepth 20000 in
theorem gX9_isShut_X9_modeOf : GoodIn wsX9_isShut (wsV RX9 47 RX9 yX9_modeOf wsX9_modeOf) := goodIn_app (goodIn_of _ (by decide +kernel)) ggX9_isShut_X9_modeOf
set_option maxRecDepth 20000 in
theorem ggX9_isShut_X9_endOf : GoodIn wsX9_isShut wsX9_endOf := goodIn_r _ [18, 1, 19, 20, 21, 22, 23, 24, 25, 26] (by decide +kernel) (by decide +kernel)
set_option maxRecDepth 20000 in
theorem gX9_isShut_X9_endOf : GoodIn wsX9_isShut (wsV RX9 50 RX9 yX9_endOf wsX9_endOf) := goodIn_app (goodIn_of _ (by decide +kernel)) ggX9_isShut_X9_endOf
theorem dX9_isShut_0 : decode cX9_isShut 0 = .ok (.aload_n 0, 1) := by decide +kernel
theorem dX9_isShut_1 : decode cX9_isShut 1 = .ok (.iload_n 1, 1) := by decide +kernel
theorem dX9_isShut_2 : decode cX9_isShut 2 = .ok (.invokevirtual 47, 3) := by decide +kernel
theorem dX9_isShut_5 : decode cX9_isShut 5 = .ok (.ifCond .ne 21, 3) := by decide +kernel
theorem dX9_isShut_8 : decode cX9_isShut 8 = .ok (.aload_n 0, 1) := by decide +kernel
theorem dX9_isShut_9 : decode cX9_isShut 9 = .ok (.getfield 7, 3) := by decide +kernel
theorem dX9_isShut_12 : decode cX9_isShut 12 = .ok (.iconst 0, 1) := by decide +kernel
theorem dX9_isShut_13 : decode cX9_isShut 13 = .ok (.iaload, 1) := by decide +kernel
theorem dX9_isShut_14 : decode cX9_isShut 14 = .ok (.aload_n 0, 1) := by decide +kernel
theorem dX9_isShut_15 : decode cX9_isShut 15 = .ok (.iload_n 1, 1) := by decide +kernel
theorem dX9_isShut_16 : decode cX9_isShut 16 = .ok (.invokevirtual 50, 3) := by decide +kernel
theorem dX9_isShut_19 : decode cX9_isShut 19 = .ok (.if_icmp .lt 7, 3) := by decide +kernel
theorem dX9_isShut_22 : decode cX9_isShut 22 = .ok (.iconst 1, 1) := by decide +kernel
theorem dX9_isShut_23 : decode cX9_isShut 23 = .ok (.goto 4, 3) := by decide +kernel
theorem dX9_isShut_26 : decode cX9_isShut 26 = .ok (.iconst 0, 1) := by decide +kernel
theorem dX9_isShut_27 : decode cX9_isShut 27 = .ok (.ireturn, 1) := by decide +kernel
set_option maxRecDepth 20000 in
theorem ggX9_counts_X9_ofE : GoodIn wsX9_counts wsX9_ofE := goodIn_r _ [5, 6, 10, 11, 12, 13, 14, 15, 16, 17] (by decide +kernel) (by decide +kernel)
set_option maxRecDepth 20000 in
theorem gX9_counts_X9_ofE : GoodIn wsX9_counts (wsV RX9 53 RX9 yX9_ofE wsX9_ofE) := goodIn_app (goodIn_of _ (by decide +kernel)) ggX9_counts_X9_ofE
set_option maxRecDepth 20000 in
theorem ggX9_counts_X9_isIn : GoodIn wsX9_counts wsX9_isIn := goodIn_r _ [9] (by decide +kernel) (by decide +kernel)
set_option maxRecDepth 20000 in
theorem gX9_counts_X9_isIn : GoodIn wsX9_counts (va_wsS RX9 27 yX9_isIn wsX9_isIn) := goodIn_app (goodIn_of _ (by decide +kernel)) ggX9_counts_X9_isIn
theorem dX9_counts_0 : decode cX9_counts 0 = .ok (.aload_n 0, 1) := by decide +kernel
theorem dX9_counts_1 : decode cX9_counts 1 = .ok (.iload_n 1, 1) := by decide +kernel
theorem dX9_counts_2 : decode cX9_counts 2 = .ok (.iconst 0, 1) := by decide +kernel
theorem dX9_counts_3 : decode cX9_counts 3 = .ok (.invokevirtual 53, 3) := by decide +kernel
theorem dX9_counts_6 : decode cX9_counts 6 = .ok (.iconst 1, 1) := by decide +kernel
theorem dX9_counts_7 : decode cX9_counts 7 = .ok (.if_icmp .ne 21, 3) := by decide +kernel
theorem dX9_counts_10 : decode cX9_counts 10 = .ok (.aload_n 0, 1) := by decide +kernel
theorem dX9_counts_11 : decode cX9_counts 11 = .ok (.iload_n 1, 1) := by decide +kernel
theorem dX9_counts_12 : decode cX9_counts 12 = .ok (.iconst 5, 1) := by decide +kernel
theorem dX9_counts_13 : decode cX9_counts 13 = .ok (.invokevirtual 53, 3) := by decide +kernel
theorem dX9_counts_16 : decode cX9_counts 16 = .ok (.iconst 0, 1) := by decide +kernel
theorem dX9_counts_17 : decode cX9_counts 17 = .ok (.iconst 1, 1) := by decide +kernel
theorem dX9_counts_18 : decode cX9_counts 18 = .ok (.invokestatic 27, 3) := by decide +kernel
theorem dX9_counts_21 : decode cX9_counts 21 = .ok (.ifCond .eq 7, 3) := by decide +kernel
theorem dX9_counts_24 : decode cX9_counts 24 = .ok (.iconst 1, 1) := by decide +kernel
theorem dX9_counts_25 : decode cX9_counts 25 = .ok (.goto 4, 3) := by decide +kernel
theorem dX9_counts_28 : decode cX9_counts 28 = .ok (.iconst 0, 1) := by decide +kernel
theorem dX9_counts_29 : decode cX9_counts 29 = .ok (.ireturn, 1) := by decide +kernel
set_option maxRecDepth 20000 in
theorem ggX9_sumOf_X9_counts : GoodIn wsX9_sumOf wsX9_counts := goodIn_r _ [5, 6, 7, 8, 4, 9, 10, 11, 12, 13, 18, 19, 20, 21, 22, 23, 24, 25] (by decide +kernel) (by decide +kernel)
set_option maxRecDepth 20000 in
theorem gX9_sumOf_X9_counts : GoodIn wsX9_sumOf (wsV RX9 56 RX9 yX9_counts wsX9_counts) := goodIn_app (goodIn_of _ (by decide +kernel)) ggX9_sumOf_X9_counts
set_option maxRecDepth 20000 in
theorem ggX9_sumOf_X9_ofE : GoodIn wsX9_sumOf wsX9_ofE := goodIn_r _ [9, 10, 18, 19, 20, 21, 22, 23, 24, 25] (by decide +kernel) (by decide +kernel)
set_option maxRecDepth 20000 in
theorem gX9_sumOf_X9_ofE : GoodIn wsX9_sumOf (wsV RX9 53 RX9 yX9_ofE wsX9_ofE) := goodIn_app (goodIn_of _ (by decide +kernel)) ggX9_sumOf_X9_ofE
set_option maxRecDepth 20000 in
theorem ggX9_sumOf_X9_paneAt : GoodIn wsX9_sumOf wsX9_paneAt := goodIn_r _ [17, 10, 18, 19, 20, 21, 22, 23, 24, 25] (by decide +kernel) (by decide +kernel)
set_option maxRecDepth 20000 in
theorem gX9_sumOf_X9_paneAt : GoodIn wsX9_sumOf (wsV RX9 60 RX9 yX9_paneAt wsX9_paneAt) := goodIn_app (goodIn_of _ (by decide +kernel)) ggX9_sumOf_X9_paneAt
theorem dX9_sumOf_0 : decode cX9_sumOf 0 = .ok (.iconst 0, 1) := by decide +kernel
theorem dX9_sumOf_1 : decode cX9_sumOf 1 = .ok (.istore_n 3, 1) := by decide +kernel
theorem dX9_sumOf_2 : decode cX9_sumOf 2 = .ok (.iconst 0, 1) := by decide +kernel
theorem dX9_sumOf_3 : decode cX9_sumOf 3 = .ok (.istore 4, 2) := by decide +kernel
theorem dX9_sumOf_5 : decode cX9_sumOf 5 = .ok (.iconst 0, 1) := by decide +kernel
theorem dX9_sumOf_6 : decode cX9_sumOf 6 = .ok (.istore 5, 2) := by decide +kernel
theorem dX9_sumOf_8 : decode cX9_sumOf 8 = .ok (.iconst 0, 1) := by decide +kernel
theorem dX9_sumOf_9 : decode cX9_sumOf 9 = .ok (.istore 6, 2) := by decide +kernel
theorem dX9_sumOf_11 : decode cX9_sumOf 11 = .ok (.iload 6, 2) := by decide +kernel
theorem dX9_sumOf_13 : decode cX9_sumOf 13 = .ok (.bipush 64, 2) := by decide +kernel
theorem dX9_sumOf_15 : decode cX9_sumOf 15 = .ok (.if_icmp .ge 62, 3) := by decide +kernel
theorem dX9_sumOf_18 : decode cX9_sumOf 18 = .ok (.aload_n 0, 1) := by decide +kernel
theorem dX9_sumOf_19 : decode cX9_sumOf 19 = .ok (.iload 6, 2) := by decide +kernel
theorem dX9_sumOf_21 : decode cX9_sumOf 21 = .ok (.invokevirtual 56, 3) := by decide +kernel
theorem dX9_sumOf_24 : decode cX9_sumOf 24 = .ok (.ifCond .eq 47, 3) := by decide +kernel
theorem dX9_sumOf_27 : decode cX9_sumOf 27 = .ok (.aload_n 0, 1) := by decide +kernel
theorem dX9_sumOf_28 : decode cX9_sumOf 28 = .ok (.aload_n 0, 1) := by decide +kernel
theorem dX9_sumOf_29 : decode cX9_sumOf 29 = .ok (.iload 6, 2) := by decide +kernel
theorem dX9_sumOf_31 : decode cX9_sumOf 31 = .ok (.iconst 1, 1) := by decide +kernel
theorem dX9_sumOf_32 : decode cX9_sumOf 32 = .ok (.invokevirtual 53, 3) := by decide +kernel
theorem dX9_sumOf_35 : decode cX9_sumOf 35 = .ok (.invokevirtual 60, 3) := by decide +kernel
theorem dX9_sumOf_38 : decode cX9_sumOf 38 = .ok (.iload_n 1, 1) := by decide +kernel
theorem dX9_sumOf_39 : decode cX9_sumOf 39 = .ok (.if_icmp .ne 32, 3) := by decide +kernel
theorem dX9_sumOf_42 : decode cX9_sumOf 42 = .ok (.iinc 3 1, 3) := by decide +kernel
theorem dX9_sumOf_45 : decode cX9_sumOf 45 = .ok (.iload 4, 2) := by decide +kernel
theorem dX9_sumOf_47 : decode cX9_sumOf 47 = .ok (.aload_n 0, 1) := by decide +kernel
theorem dX9_sumOf_48 : decode cX9_sumOf 48 = .ok (.iload 6, 2) := by decide +kernel
theorem dX9_sumOf_50 : decode cX9_sumOf 50 = .ok (.iconst 3, 1) := by decide +kernel
theorem dX9_sumOf_51 : decode cX9_sumOf 51 = .ok (.invokevirtual 53, 3) := by decide +kernel
theorem dX9_sumOf_54 : decode cX9_sumOf 54 = .ok (.iadd, 1) := by decide +kernel
theorem dX9_sumOf_55 : decode cX9_sumOf 55 = .ok (.istore 4, 2) := by decide +kernel
theorem dX9_sumOf_57 : decode cX9_sumOf 57 = .ok (.iload 5, 2) := by decide +kernel
theorem dX9_sumOf_59 : decode cX9_sumOf 59 = .ok (.iconst 1, 1) := by decide +kernel
theorem dX9_sumOf_60 : decode cX9_sumOf 60 = .ok (.aload_n 0, 1) := by decide +kernel
theorem dX9_sumOf_61 : decode cX9_sumOf 61 = .ok (.iload 6, 2) := by decide +kernel
theorem dX9_sumOf_63 : decode cX9_sumOf 63 = .ok (.iconst 2, 1) := by decide +kernel
theorem dX9_sumOf_64 : decode cX9_sumOf 64 = .ok (.invokevirtual 53, 3) := by decide +kernel
theorem dX9_sumOf_67 : decode cX9_sumOf 67 = .ok (.ishl, 1) := by decide +kernel
theorem dX9_sumOf_68 : decode cX9_sumOf 68 = .ok (.ior, 1) := by decide +kernel
theorem dX9_sumOf_69 : decode cX9_sumOf 69 = .ok (.istore 5, 2) := by decide +kernel
theorem dX9_sumOf_71 : decode cX9_sumOf 71 = .ok (.iinc 6 1, 3) := by decide +kernel
theorem dX9_sumOf_74 : decode cX9_sumOf 74 = .ok (.goto (-63), 3) := by decide +kernel
theorem dX9_sumOf_77 : decode cX9_sumOf 77 = .ok (.iload_n 2, 1) := by decide +kernel
theorem dX9_sumOf_78 : decode cX9_sumOf 78 = .ok (.ifCond .ne 7, 3) := by decide +kernel
theorem dX9_sumOf_81 : decode cX9_sumOf 81 = .ok (.iload_n 3, 1) := by decide +kernel
theorem dX9_sumOf_82 : decode cX9_sumOf 82 = .ok (.goto 15, 3) := by decide +kernel
theorem dX9_sumOf_85 : decode cX9_sumOf 85 = .ok (.iload_n 2, 1) := by decide +kernel
theorem dX9_sumOf_86 : decode cX9_sumOf 86 = .ok (.iconst 1, 1) := by decide +kernel
theorem dX9_sumOf_87 : decode cX9_sumOf 87 = .ok (.if_icmp .ne 8, 3) := by decide +kernel
theorem dX9_sumOf_90 : decode cX9_sumOf 90 = .ok (.iload 4, 2) := by decide +kernel
theorem dX9_sumOf_92 : decode cX9_sumOf 92 = .ok (.goto 5, 3) := by decide +kernel
theorem dX9_sumOf_95 : decode cX9_sumOf 95 = .ok (.iload 5, 2) := by decide +kernel
theorem dX9_sumOf_97 : decode cX9_sumOf 97 = .ok (.ireturn, 1) := by decide +kernel
theorem dX9_says_0 : decode cX9_says 0 = .ok (.aload_n 0, 1) := by decide +kernel
theorem dX9_says_1 : decode cX9_says 1 = .ok (.getfield 7, 3) := by decide +kernel
theorem dX9_says_4 : decode cX9_says 4 = .ok (.bipush 9, 2) := by decide +kernel
theorem dX9_says_6 : decode cX9_says 6 = .ok (.iaload, 1) := by decide +kernel
theorem dX9_says_7 : decode cX9_says 7 = .ok (.bipush 40, 2) := by decide +kernel
theorem dX9_says_9 : decode cX9_says 9 = .ok (.if_icmp .ne 61, 3) := by decide +kernel
theorem dX9_says_12 : decode cX9_says 12 = .ok (.aload_n 0, 1) := by decide +kernel
theorem dX9_says_13 : decode cX9_says 13 = .ok (.getfield 7, 3) := by decide +kernel
theorem dX9_says_16 : decode cX9_says 16 = .ok (.bipush 9, 2) := by decide +kernel
theorem dX9_says_18 : decode cX9_says 18 = .ok (.dup2, 1) := by decide +kernel
theorem dX9_says_19 : decode cX9_says 19 = .ok (.iaload, 1) := by decide +kernel
theorem dX9_says_20 : decode cX9_says 20 = .ok (.iconst 1, 1) := by decide +kernel
theorem dX9_says_21 : decode cX9_says 21 = .ok (.isub, 1) := by decide +kernel
theorem dX9_says_22 : decode cX9_says 22 = .ok (.iastore, 1) := by decide +kernel
theorem dX9_says_23 : decode cX9_says 23 = .ok (.iconst 0, 1) := by decide +kernel
theorem dX9_says_24 : decode cX9_says 24 = .ok (.istore 5, 2) := by decide +kernel
theorem dX9_says_26 : decode cX9_says 26 = .ok (.iload 5, 2) := by decide +kernel
theorem dX9_says_28 : decode cX9_says 28 = .ok (.iconst 4, 1) := by decide +kernel
theorem dX9_says_29 : decode cX9_says 29 = .ok (.aload_n 0, 1) := by decide +kernel
theorem dX9_says_30 : decode cX9_says 30 = .ok (.getfield 7, 3) := by decide +kernel
theorem dX9_says_33 : decode cX9_says 33 = .ok (.bipush 9, 2) := by decide +kernel
theorem dX9_says_35 : decode cX9_says 35 = .ok (.iaload, 1) := by decide +kernel
theorem dX9_says_36 : decode cX9_says 36 = .ok (.imul, 1) := by decide +kernel
theorem dX9_says_37 : decode cX9_says 37 = .ok (.if_icmp .ge 33, 3) := by decide +kernel
theorem dX9_says_40 : decode cX9_says 40 = .ok (.aload_n 0, 1) := by decide +kernel
theorem dX9_says_41 : decode cX9_says 41 = .ok (.getfield 7, 3) := by decide +kernel
theorem dX9_says_44 : decode cX9_says 44 = .ok (.sipush 908, 3) := by decide +kernel
theorem dX9_says_47 : decode cX9_says 47 = .ok (.iload 5, 2) := by decide +kernel
theorem dX9_says_49 : decode cX9_says 49 = .ok (.iadd, 1) := by decide +kernel
theorem dX9_says_50 : decode cX9_says 50 = .ok (.aload_n 0, 1) := by decide +kernel
theorem dX9_says_51 : decode cX9_says 51 = .ok (.getfield 7, 3) := by decide +kernel
theorem dX9_says_54 : decode cX9_says 54 = .ok (.sipush 908, 3) := by decide +kernel
theorem dX9_says_57 : decode cX9_says 57 = .ok (.iload 5, 2) := by decide +kernel
theorem dX9_says_59 : decode cX9_says 59 = .ok (.iadd, 1) := by decide +kernel
theorem dX9_says_60 : decode cX9_says 60 = .ok (.iconst 4, 1) := by decide +kernel
theorem dX9_says_61 : decode cX9_says 61 = .ok (.iadd, 1) := by decide +kernel
theorem dX9_says_62 : decode cX9_says 62 = .ok (.iaload, 1) := by decide +kernel
theorem dX9_says_63 : decode cX9_says 63 = .ok (.iastore, 1) := by decide +kernel
theorem dX9_says_64 : decode cX9_says 64 = .ok (.iinc 5 1, 3) := by decide +kernel
theorem dX9_says_67 : decode cX9_says 67 = .ok (.goto (-41), 3) := by decide +kernel
theorem dX9_says_70 : decode cX9_says 70 = .ok (.sipush 908, 3) := by decide +kernel
theorem dX9_says_73 : decode cX9_says 73 = .ok (.iconst 4, 1) := by decide +kernel
theorem dX9_says_74 : decode cX9_says 74 = .ok (.aload_n 0, 1) := by decide +kernel
theorem dX9_says_75 : decode cX9_says 75 = .ok (.getfield 7, 3) := by decide +kernel
theorem dX9_says_78 : decode cX9_says 78 = .ok (.bipush 9, 2) := by decide +kernel
theorem dX9_says_80 : decode cX9_says 80 = .ok (.iaload, 1) := by decide +kernel
theorem dX9_says_81 : decode cX9_says 81 = .ok (.imul, 1) := by decide +kernel
theorem dX9_says_82 : decode cX9_says 82 = .ok (.iadd, 1) := by decide +kernel
theorem dX9_says_83 : decode cX9_says 83 = .ok (.istore 5, 2) := by decide +kernel
theorem dX9_says_85 : decode cX9_says 85 = .ok (.aload_n 0, 1) := by decide +kernel
theorem dX9_says_86 : decode cX9_says 86 = .ok (.getfield 7, 3) := by decide +kernel
theorem dX9_says_89 : decode cX9_says 89 = .ok (.iload 5, 2) := by decide +kernel
theorem dX9_says_91 : decode cX9_says 91 = .ok (.iload_n 1, 1) := by decide +kernel
theorem dX9_says_92 : decode cX9_says 92 = .ok (.iastore, 1) := by decide +kernel
theorem dX9_says_93 : decode cX9_says 93 = .ok (.aload_n 0, 1) := by decide +kernel
theorem dX9_says_94 : decode cX9_says 94 = .ok (.getfield 7, 3) := by decide +kernel
theorem dX9_says_97 : decode cX9_says 97 = .ok (.iload 5, 2) := by decide +kernel
theorem dX9_says_99 : decode cX9_says 99 = .ok (.iconst 1, 1) := by decide +kernel
theorem dX9_says_100 : decode cX9_says 100 = .ok (.iadd, 1) := by decide +kernel
theorem dX9_says_101 : decode cX9_says 101 = .ok (.iload_n 2, 1) := by decide +kernel
theorem dX9_says_102 : decode cX9_says 102 = .ok (.iastore, 1) := by decide +kernel
theorem dX9_says_103 : decode cX9_says 103 = .ok (.aload_n 0, 1) := by decide +kernel
theorem dX9_says_104 : decode cX9_says 104 = .ok (.getfield 7, 3) := by decide +kernel
theorem dX9_says_107 : decode cX9_says 107 = .ok (.iload 5, 2) := by decide +kernel
theorem dX9_says_109 : decode cX9_says 109 = .ok (.iconst 2, 1) := by decide +kernel
theorem dX9_says_110 : decode cX9_says 110 = .ok (.iadd, 1) := by decide +kernel
theorem dX9_says_111 : decode cX9_says 111 = .ok (.iload_n 3, 1) := by decide +kernel
theorem dX9_says_112 : decode cX9_says 112 = .ok (.iastore, 1) := by decide +kernel
theorem dX9_says_113 : decode cX9_says 113 = .ok (.aload_n 0, 1) := by decide +kernel
theorem dX9_says_114 : decode cX9_says 114 = .ok (.getfield 7, 3) := by decide +kernel
theorem dX9_says_117 : decode cX9_says 117 = .ok (.iload 5, 2) := by decide +kernel
theorem dX9_says_119 : decode cX9_says 119 = .ok (.iconst 3, 1) := by decide +kernel
theorem dX9_says_120 : decode cX9_says 120 = .ok (.iadd, 1) := by decide +kernel
theorem dX9_says_121 : decode cX9_says 121 = .ok (.iload 4, 2) := by decide +kernel
theorem dX9_says_123 : decode cX9_says 123 = .ok (.iastore, 1) := by decide +kernel
theorem dX9_says_124 : decode cX9_says 124 = .ok (.aload_n 0, 1) := by decide +kernel
theorem dX9_says_125 : decode cX9_says 125 = .ok (.getfield 7, 3) := by decide +kernel
theorem dX9_says_128 : decode cX9_says 128 = .ok (.bipush 9, 2) := by decide +kernel
theorem dX9_says_130 : decode cX9_says 130 = .ok (.dup2, 1) := by decide +kernel
theorem dX9_says_131 : decode cX9_says 131 = .ok (.iaload, 1) := by decide +kernel
theorem dX9_says_132 : decode cX9_says 132 = .ok (.iconst 1, 1) := by decide +kernel
theorem dX9_says_133 : decode cX9_says 133 = .ok (.iadd, 1) := by decide +kernel
theorem dX9_says_134 : decode cX9_says 134 = .ok (.iastore, 1) := by decide +kernel
theorem dX9_says_135 : decode cX9_says 135 = .ok (.return_, 1) := by decide +kernel
set_option maxRecDepth 20000 in
theorem ggX9_tells_X9_ofP : GoodIn wsX9_tells wsX9_ofP := goodIn_r _ [6, 1, 34, 35, 36, 37, 38, 39, 40, 41] (by decide +kernel) (by decide +kernel)
set_option maxRecDepth 20000 in
theorem gX9_tells_X9_ofP : GoodIn wsX9_tells (wsV RX9 35 RX9 yX9_ofP wsX9_ofP) := goodIn_app (goodIn_of _ (by decide +kernel)) ggX9_tells_X9_ofP
set_option maxRecDepth 20000 in
theorem ggX9_tells_X9_sumOf : GoodIn wsX9_tells wsX9_sumOf := goodIn_r _ [10, 11, 12, 13, 5, 14, 15, 16, 17, 18, 1, 19, 20, 21, 22, 23, 24, 25, 34, 35, 36, 37, 38, 39, 40, 41] (by decide +kernel) (by decide +kernel)
set_option maxRecDepth 20000 in
theorem gX9_tells_X9_sumOf : GoodIn wsX9_tells (wsV RX9 63 RX9 yX9_sumOf wsX9_sumOf) := goodIn_app (goodIn_of _ (by decide +kernel)) ggX9_tells_X9_sumOf
set_option maxRecDepth 20000 in
theorem ggX9_tells_X9_setsP : GoodIn wsX9_tells wsX9_setsP := goodIn_r _ [29, 1, 34, 35, 36, 37, 38, 39, 40, 41] (by decide +kernel) (by decide +kernel)
set_option maxRecDepth 20000 in
theorem gX9_tells_X9_setsP : GoodIn wsX9_tells (wsV RX9 43 RX9 yX9_setsP wsX9_setsP) := goodIn_app (goodIn_of _ (by decide +kernel)) ggX9_tells_X9_setsP
set_option maxRecDepth 20000 in
theorem ggX9_tells_X9_says : GoodIn wsX9_tells wsX9_says := goodIn_r _ [33, 1, 34, 35, 36, 37, 38, 39, 40, 41] (by decide +kernel) (by decide +kernel)
set_option maxRecDepth 20000 in
theorem gX9_tells_X9_says : GoodIn wsX9_tells (wsV RX9 66 RX9 yX9_says wsX9_says) := goodIn_app (goodIn_of _ (by decide +kernel)) ggX9_tells_X9_says
theorem dX9_tells_0 : decode cX9_tells 0 = .ok (.aload_n 0, 1) := by decide +kernel
theorem dX9_tells_1 : decode cX9_tells 1 = .ok (.iload_n 1, 1) := by decide +kernel
theorem dX9_tells_2 : decode cX9_tells 2 = .ok (.iconst 0, 1) := by decide +kernel
theorem dX9_tells_3 : decode cX9_tells 3 = .ok (.invokevirtual 35, 3) := by decide +kernel
theorem dX9_tells_6 : decode cX9_tells 6 = .ok (.istore_n 2, 1) := by decide +kernel
theorem dX9_tells_7 : decode cX9_tells 7 = .ok (.aload_n 0, 1) := by decide +kernel
theorem dX9_tells_8 : decode cX9_tells 8 = .ok (.iload_n 2, 1) := by decide +kernel
theorem dX9_tells_9 : decode cX9_tells 9 = .ok (.iconst 0, 1) := by decide +kernel
theorem dX9_tells_10 : decode cX9_tells 10 = .ok (.invokevirtual 63, 3) := by decide +kernel
theorem dX9_tells_13 : decode cX9_tells 13 = .ok (.istore_n 3, 1) := by decide +kernel
theorem dX9_tells_14 : decode cX9_tells 14 = .ok (.iload_n 3, 1) := by decide +kernel
theorem dX9_tells_15 : decode cX9_tells 15 = .ok (.ifCond .le 69, 3) := by decide +kernel
theorem dX9_tells_18 : decode cX9_tells 18 = .ok (.aload_n 0, 1) := by decide +kernel
theorem dX9_tells_19 : decode cX9_tells 19 = .ok (.iload_n 1, 1) := by decide +kernel
theorem dX9_tells_20 : decode cX9_tells 20 = .ok (.iconst 5, 1) := by decide +kernel
theorem dX9_tells_21 : decode cX9_tells 21 = .ok (.iconst 1, 1) := by decide +kernel
theorem dX9_tells_22 : decode cX9_tells 22 = .ok (.invokevirtual 43, 3) := by decide +kernel
theorem dX9_tells_25 : decode cX9_tells 25 = .ok (.aload_n 0, 1) := by decide +kernel
theorem dX9_tells_26 : decode cX9_tells 26 = .ok (.iload_n 1, 1) := by decide +kernel
theorem dX9_tells_27 : decode cX9_tells 27 = .ok (.bipush 6, 2) := by decide +kernel
theorem dX9_tells_29 : decode cX9_tells 29 = .ok (.iload_n 3, 1) := by decide +kernel
theorem dX9_tells_30 : decode cX9_tells 30 = .ok (.invokevirtual 43, 3) := by decide +kernel
theorem dX9_tells_33 : decode cX9_tells 33 = .ok (.aload_n 0, 1) := by decide +kernel
theorem dX9_tells_34 : decode cX9_tells 34 = .ok (.iload_n 1, 1) := by decide +kernel
theorem dX9_tells_35 : decode cX9_tells 35 = .ok (.bipush 7, 2) := by decide +kernel
theorem dX9_tells_37 : decode cX9_tells 37 = .ok (.aload_n 0, 1) := by decide +kernel
theorem dX9_tells_38 : decode cX9_tells 38 = .ok (.iload_n 2, 1) := by decide +kernel
theorem dX9_tells_39 : decode cX9_tells 39 = .ok (.iconst 1, 1) := by decide +kernel
theorem dX9_tells_40 : decode cX9_tells 40 = .ok (.invokevirtual 63, 3) := by decide +kernel
theorem dX9_tells_43 : decode cX9_tells 43 = .ok (.invokevirtual 43, 3) := by decide +kernel
theorem dX9_tells_46 : decode cX9_tells 46 = .ok (.aload_n 0, 1) := by decide +kernel
theorem dX9_tells_47 : decode cX9_tells 47 = .ok (.iload_n 1, 1) := by decide +kernel
theorem dX9_tells_48 : decode cX9_tells 48 = .ok (.iconst 3, 1) := by decide +kernel
theorem dX9_tells_49 : decode cX9_tells 49 = .ok (.aload_n 0, 1) := by decide +kernel
theorem dX9_tells_50 : decode cX9_tells 50 = .ok (.iload_n 1, 1) := by decide +kernel
theorem dX9_tells_51 : decode cX9_tells 51 = .ok (.iconst 3, 1) := by decide +kernel
theorem dX9_tells_52 : decode cX9_tells 52 = .ok (.invokevirtual 35, 3) := by decide +kernel
theorem dX9_tells_55 : decode cX9_tells 55 = .ok (.iconst 1, 1) := by decide +kernel
theorem dX9_tells_56 : decode cX9_tells 56 = .ok (.iadd, 1) := by decide +kernel
theorem dX9_tells_57 : decode cX9_tells 57 = .ok (.invokevirtual 43, 3) := by decide +kernel
theorem dX9_tells_60 : decode cX9_tells 60 = .ok (.aload_n 0, 1) := by decide +kernel
theorem dX9_tells_61 : decode cX9_tells 61 = .ok (.getfield 7, 3) := by decide +kernel
theorem dX9_tells_64 : decode cX9_tells 64 = .ok (.iconst 3, 1) := by decide +kernel
theorem dX9_tells_65 : decode cX9_tells 65 = .ok (.dup2, 1) := by decide +kernel
theorem dX9_tells_66 : decode cX9_tells 66 = .ok (.iaload, 1) := by decide +kernel
theorem dX9_tells_67 : decode cX9_tells 67 = .ok (.iconst 1, 1) := by decide +kernel
theorem dX9_tells_68 : decode cX9_tells 68 = .ok (.iadd, 1) := by decide +kernel
theorem dX9_tells_69 : decode cX9_tells 69 = .ok (.iastore, 1) := by decide +kernel
theorem dX9_tells_70 : decode cX9_tells 70 = .ok (.aload_n 0, 1) := by decide +kernel
theorem dX9_tells_71 : decode cX9_tells 71 = .ok (.iconst 0, 1) := by decide +kernel
theorem dX9_tells_72 : decode cX9_tells 72 = .ok (.iload_n 2, 1) := by decide +kernel
theorem dX9_tells_73 : decode cX9_tells 73 = .ok (.iload_n 3, 1) := by decide +kernel
theorem dX9_tells_74 : decode cX9_tells 74 = .ok (.aload_n 0, 1) := by decide +kernel
theorem dX9_tells_75 : decode cX9_tells 75 = .ok (.iload_n 1, 1) := by decide +kernel
theorem dX9_tells_76 : decode cX9_tells 76 = .ok (.bipush 7, 2) := by decide +kernel
theorem dX9_tells_78 : decode cX9_tells 78 = .ok (.invokevirtual 35, 3) := by decide +kernel
theorem dX9_tells_81 : decode cX9_tells 81 = .ok (.invokevirtual 66, 3) := by decide +kernel
theorem dX9_tells_84 : decode cX9_tells 84 = .ok (.return_, 1) := by decide +kernel
set_option maxRecDepth 20000 in
theorem ggX9_takesBack_X9_ofP : GoodIn wsX9_takesBack wsX9_ofP := goodIn_r _ [6, 1, 15, 16, 17, 18, 19, 20, 21, 22] (by decide +kernel) (by decide +kernel)
set_option maxRecDepth 20000 in
theorem gX9_takesBack_X9_ofP : GoodIn wsX9_takesBack (wsV RX9 35 RX9 yX9_ofP wsX9_ofP) := goodIn_app (goodIn_of _ (by decide +kernel)) ggX9_takesBack_X9_ofP
set_option maxRecDepth 20000 in
theorem ggX9_takesBack_X9_setsP : GoodIn wsX9_takesBack wsX9_setsP := goodIn_r _ [10, 1, 15, 16, 17, 18, 19, 20, 21, 22] (by decide +kernel) (by decide +kernel)
set_option maxRecDepth 20000 in
theorem gX9_takesBack_X9_setsP : GoodIn wsX9_takesBack (wsV RX9 43 RX9 yX9_setsP wsX9_setsP) := goodIn_app (goodIn_of _ (by decide +kernel)) ggX9_takesBack_X9_setsP
set_option maxRecDepth 20000 in
theorem ggX9_takesBack_X9_says : GoodIn wsX9_takesBack wsX9_says := goodIn_r _ [14, 1, 15, 16, 17, 18, 19, 20, 21, 22] (by decide +kernel) (by decide +kernel)
set_option maxRecDepth 20000 in
theorem gX9_takesBack_X9_says : GoodIn wsX9_takesBack (wsV RX9 66 RX9 yX9_says wsX9_says) := goodIn_app (goodIn_of _ (by decide +kernel)) ggX9_takesBack_X9_says
theorem dX9_takesBack_0 : decode cX9_takesBack 0 = .ok (.aload_n 0, 1) := by decide +kernel
theorem dX9_takesBack_1 : decode cX9_takesBack 1 = .ok (.iload_n 1, 1) := by decide +kernel
theorem dX9_takesBack_2 : decode cX9_takesBack 2 = .ok (.iconst 5, 1) := by decide +kernel
theorem dX9_takesBack_3 : decode cX9_takesBack 3 = .ok (.invokevirtual 35, 3) := by decide +kernel
theorem dX9_takesBack_6 : decode cX9_takesBack 6 = .ok (.iconst 1, 1) := by decide +kernel
theorem dX9_takesBack_7 : decode cX9_takesBack 7 = .ok (.if_icmp .ne 59, 3) := by decide +kernel
theorem dX9_takesBack_10 : decode cX9_takesBack 10 = .ok (.aload_n 0, 1) := by decide +kernel
theorem dX9_takesBack_11 : decode cX9_takesBack 11 = .ok (.iload_n 1, 1) := by decide +kernel
theorem dX9_takesBack_12 : decode cX9_takesBack 12 = .ok (.iconst 5, 1) := by decide +kernel
theorem dX9_takesBack_13 : decode cX9_takesBack 13 = .ok (.iconst 0, 1) := by decide +kernel
theorem dX9_takesBack_14 : decode cX9_takesBack 14 = .ok (.invokevirtual 43, 3) := by decide +kernel
theorem dX9_takesBack_17 : decode cX9_takesBack 17 = .ok (.aload_n 0, 1) := by decide +kernel
theorem dX9_takesBack_18 : decode cX9_takesBack 18 = .ok (.iload_n 1, 1) := by decide +kernel
theorem dX9_takesBack_19 : decode cX9_takesBack 19 = .ok (.iconst 4, 1) := by decide +kernel
theorem dX9_takesBack_20 : decode cX9_takesBack 20 = .ok (.aload_n 0, 1) := by decide +kernel
theorem dX9_takesBack_21 : decode cX9_takesBack 21 = .ok (.iload_n 1, 1) := by decide +kernel
theorem dX9_takesBack_22 : decode cX9_takesBack 22 = .ok (.iconst 4, 1) := by decide +kernel
theorem dX9_takesBack_23 : decode cX9_takesBack 23 = .ok (.invokevirtual 35, 3) := by decide +kernel
theorem dX9_takesBack_26 : decode cX9_takesBack 26 = .ok (.iconst 1, 1) := by decide +kernel
theorem dX9_takesBack_27 : decode cX9_takesBack 27 = .ok (.iadd, 1) := by decide +kernel
theorem dX9_takesBack_28 : decode cX9_takesBack 28 = .ok (.invokevirtual 43, 3) := by decide +kernel
theorem dX9_takesBack_31 : decode cX9_takesBack 31 = .ok (.aload_n 0, 1) := by decide +kernel
theorem dX9_takesBack_32 : decode cX9_takesBack 32 = .ok (.getfield 7, 3) := by decide +kernel
theorem dX9_takesBack_35 : decode cX9_takesBack 35 = .ok (.iconst 4, 1) := by decide +kernel
theorem dX9_takesBack_36 : decode cX9_takesBack 36 = .ok (.dup2, 1) := by decide +kernel
theorem dX9_takesBack_37 : decode cX9_takesBack 37 = .ok (.iaload, 1) := by decide +kernel
theorem dX9_takesBack_38 : decode cX9_takesBack 38 = .ok (.iconst 1, 1) := by decide +kernel
theorem dX9_takesBack_39 : decode cX9_takesBack 39 = .ok (.iadd, 1) := by decide +kernel
theorem dX9_takesBack_40 : decode cX9_takesBack 40 = .ok (.iastore, 1) := by decide +kernel
theorem dX9_takesBack_41 : decode cX9_takesBack 41 = .ok (.aload_n 0, 1) := by decide +kernel
theorem dX9_takesBack_42 : decode cX9_takesBack 42 = .ok (.iconst 1, 1) := by decide +kernel
theorem dX9_takesBack_43 : decode cX9_takesBack 43 = .ok (.aload_n 0, 1) := by decide +kernel
theorem dX9_takesBack_44 : decode cX9_takesBack 44 = .ok (.iload_n 1, 1) := by decide +kernel
theorem dX9_takesBack_45 : decode cX9_takesBack 45 = .ok (.iconst 0, 1) := by decide +kernel
theorem dX9_takesBack_46 : decode cX9_takesBack 46 = .ok (.invokevirtual 35, 3) := by decide +kernel
theorem dX9_takesBack_49 : decode cX9_takesBack 49 = .ok (.aload_n 0, 1) := by decide +kernel
theorem dX9_takesBack_50 : decode cX9_takesBack 50 = .ok (.iload_n 1, 1) := by decide +kernel
theorem dX9_takesBack_51 : decode cX9_takesBack 51 = .ok (.bipush 6, 2) := by decide +kernel
theorem dX9_takesBack_53 : decode cX9_takesBack 53 = .ok (.invokevirtual 35, 3) := by decide +kernel
theorem dX9_takesBack_56 : decode cX9_takesBack 56 = .ok (.aload_n 0, 1) := by decide +kernel
theorem dX9_takesBack_57 : decode cX9_takesBack 57 = .ok (.iload_n 1, 1) := by decide +kernel
theorem dX9_takesBack_58 : decode cX9_takesBack 58 = .ok (.bipush 7, 2) := by decide +kernel
theorem dX9_takesBack_60 : decode cX9_takesBack 60 = .ok (.invokevirtual 35, 3) := by decide +kernel
theorem dX9_takesBack_63 : decode cX9_takesBack 63 = .ok (.invokevirtual 66, 3) := by decide +kernel
theorem dX9_takesBack_66 : decode cX9_takesBack 66 = .ok (.return_, 1) := by decide +kernel
set_option maxRecDepth 20000 in
theorem ggX9_nextKept_X9_ofP : GoodIn wsX9_nextKept wsX9_ofP := goodIn_r _ [6, 1, 7, 8, 9, 10, 11, 12, 13, 14] (by decide +kernel) (by decide +kernel)
set_option maxRecDepth 20000 in
theorem gX9_nextKept_X9_ofP : GoodIn wsX9_nextKept (wsV RX9 35 RX9 yX9_ofP wsX9_ofP) := goodIn_app (goodIn_of _ (by decide +kernel)) ggX9_nextKept_X9_ofP
theorem dX9_nextKept_0 : decode cX9_nextKept 0 = .ok (.iconst (-1), 1) := by decide +kernel
theorem dX9_nextKept_1 : decode cX9_nextKept 1 = .ok (.istore_n 2, 1) := by decide +kernel
theorem dX9_nextKept_2 : decode cX9_nextKept 2 = .ok (.iconst 0, 1) := by decide +kernel
theorem dX9_nextKept_3 : decode cX9_nextKept 3 = .ok (.istore_n 3, 1) := by decide +kernel
theorem dX9_nextKept_4 : decode cX9_nextKept 4 = .ok (.iload_n 3, 1) := by decide +kernel
theorem dX9_nextKept_5 : decode cX9_nextKept 5 = .ok (.aload_n 0, 1) := by decide +kernel
theorem dX9_nextKept_6 : decode cX9_nextKept 6 = .ok (.getfield 7, 3) := by decide +kernel
theorem dX9_nextKept_9 : decode cX9_nextKept 9 = .ok (.bipush 10, 2) := by decide +kernel
theorem dX9_nextKept_11 : decode cX9_nextKept 11 = .ok (.iaload, 1) := by decide +kernel
theorem dX9_nextKept_12 : decode cX9_nextKept 12 = .ok (.if_icmp .ge 44, 3) := by decide +kernel
theorem dX9_nextKept_15 : decode cX9_nextKept 15 = .ok (.aload_n 0, 1) := by decide +kernel
theorem dX9_nextKept_16 : decode cX9_nextKept 16 = .ok (.iload_n 3, 1) := by decide +kernel
theorem dX9_nextKept_17 : decode cX9_nextKept 17 = .ok (.iconst 0, 1) := by decide +kernel
theorem dX9_nextKept_18 : decode cX9_nextKept 18 = .ok (.invokevirtual 35, 3) := by decide +kernel
theorem dX9_nextKept_21 : decode cX9_nextKept 21 = .ok (.iload_n 1, 1) := by decide +kernel
theorem dX9_nextKept_22 : decode cX9_nextKept 22 = .ok (.if_icmp .le 26, 3) := by decide +kernel
theorem dX9_nextKept_25 : decode cX9_nextKept 25 = .ok (.iload_n 2, 1) := by decide +kernel
theorem dX9_nextKept_26 : decode cX9_nextKept 26 = .ok (.ifCond .lt 18, 3) := by decide +kernel
theorem dX9_nextKept_29 : decode cX9_nextKept 29 = .ok (.aload_n 0, 1) := by decide +kernel
theorem dX9_nextKept_30 : decode cX9_nextKept 30 = .ok (.iload_n 3, 1) := by decide +kernel
theorem dX9_nextKept_31 : decode cX9_nextKept 31 = .ok (.iconst 0, 1) := by decide +kernel
theorem dX9_nextKept_32 : decode cX9_nextKept 32 = .ok (.invokevirtual 35, 3) := by decide +kernel
theorem dX9_nextKept_35 : decode cX9_nextKept 35 = .ok (.aload_n 0, 1) := by decide +kernel
theorem dX9_nextKept_36 : decode cX9_nextKept 36 = .ok (.iload_n 2, 1) := by decide +kernel
theorem dX9_nextKept_37 : decode cX9_nextKept 37 = .ok (.iconst 0, 1) := by decide +kernel
theorem dX9_nextKept_38 : decode cX9_nextKept 38 = .ok (.invokevirtual 35, 3) := by decide +kernel
theorem dX9_nextKept_41 : decode cX9_nextKept 41 = .ok (.if_icmp .ge 7, 3) := by decide +kernel
theorem dX9_nextKept_44 : decode cX9_nextKept 44 = .ok (.iload_n 3, 1) := by decide +kernel
theorem dX9_nextKept_45 : decode cX9_nextKept 45 = .ok (.goto 4, 3) := by decide +kernel
theorem dX9_nextKept_48 : decode cX9_nextKept 48 = .ok (.iload_n 2, 1) := by decide +kernel
theorem dX9_nextKept_49 : decode cX9_nextKept 49 = .ok (.istore_n 2, 1) := by decide +kernel
theorem dX9_nextKept_50 : decode cX9_nextKept 50 = .ok (.iinc 3 1, 3) := by decide +kernel
theorem dX9_nextKept_53 : decode cX9_nextKept 53 = .ok (.goto (-49), 3) := by decide +kernel
theorem dX9_nextKept_56 : decode cX9_nextKept 56 = .ok (.iload_n 2, 1) := by decide +kernel
theorem dX9_nextKept_57 : decode cX9_nextKept 57 = .ok (.ireturn, 1) := by decide +kernel
set_option maxRecDepth 20000 in
theorem ggX9_rises_X9_nextKept : GoodIn wsX9_rises wsX9_nextKept := goodIn_r _ [6, 1, 7, 8, 9, 5, 10, 46, 47, 48, 49, 50, 51, 52, 53] (by decide +kernel) (by decide +kernel)
set_option maxRecDepth 20000 in
theorem gX9_rises_X9_nextKept : GoodIn wsX9_rises (wsV RX9 70 RX9 yX9_nextKept wsX9_nextKept) := goodIn_app (goodIn_of _ (by decide +kernel)) ggX9_rises_X9_nextKept
set_option maxRecDepth 20000 in
theorem ggX9_rises_X9_ofP : GoodIn wsX9_rises wsX9_ofP := goodIn_r _ [10, 1, 46, 47, 48, 49, 50, 51, 52, 53] (by decide +kernel) (by decide +kernel)
set_option maxRecDepth 20000 in
theorem gX9_rises_X9_ofP : GoodIn wsX9_rises (wsV RX9 35 RX9 yX9_ofP wsX9_ofP) := goodIn_app (goodIn_of _ (by decide +kernel)) ggX9_rises_X9_ofP
set_option maxRecDepth 20000 in
theorem ggX9_rises_X9_endOf : GoodIn wsX9_rises wsX9_endOf := goodIn_r _ [14, 1, 46, 47, 48, 49, 50, 51, 52, 53] (by decide +kernel) (by decide +kernel)
set_option maxRecDepth 20000 in
theorem gX9_rises_X9_endOf : GoodIn wsX9_rises (wsV RX9 50 RX9 yX9_endOf wsX9_endOf) := goodIn_app (goodIn_of _ (by decide +kernel)) ggX9_rises_X9_endOf
set_option maxRecDepth 20000 in
theorem ggX9_rises_X9_tells : GoodIn wsX9_rises wsX9_tells := goodIn_r _ [18, 1, 7, 8, 9, 5, 10, 19, 20, 21, 22, 23, 24, 25, 26, 27, 28, 29, 30, 31, 32, 33, 34, 35, 36, 37, 38, 39, 40, 41, 42, 43, 44, 45, 46, 47, 48, 49, 50, 51, 52, 53] (by decide +kernel) (by decide +kernel)
set_option maxRecDepth 20000 in
theorem gX9_rises_X9_tells : GoodIn wsX9_rises (wsV RX9 73 RX9 yX9_tells wsX9_tells) := goodIn_app (goodIn_of _ (by decide +kernel)) ggX9_rises_X9_tells
set_option maxRecDepth 20000 in
theorem ggX9_rises_X9_setsP : GoodIn wsX9_rises wsX9_setsP := goodIn_r _ [41, 1, 46, 47, 48, 49, 50, 51, 52, 53] (by decide +kernel) (by decide +kernel)
set_option maxRecDepth 20000 in
theorem gX9_rises_X9_setsP : GoodIn wsX9_rises (wsV RX9 43 RX9 yX9_setsP wsX9_setsP) := goodIn_app (goodIn_of _ (by decide +kernel)) ggX9_rises_X9_setsP
theorem dX9_rises_0 : decode cX9_rises 0 = .ok (.aload_n 0, 1) := by decide +kernel
theorem dX9_rises_1 : decode cX9_rises 1 = .ok (.getfield 7, 3) := by decide +kernel
theorem dX9_rises_4 : decode cX9_rises 4 = .ok (.iconst 0, 1) := by decide +kernel
theorem dX9_rises_5 : decode cX9_rises 5 = .ok (.iaload, 1) := by decide +kernel
theorem dX9_rises_6 : decode cX9_rises 6 = .ok (.istore_n 2, 1) := by decide +kernel
theorem dX9_rises_7 : decode cX9_rises 7 = .ok (.aload_n 0, 1) := by decide +kernel
theorem dX9_rises_8 : decode cX9_rises 8 = .ok (.getfield 7, 3) := by decide +kernel
theorem dX9_rises_11 : decode cX9_rises 11 = .ok (.iconst 0, 1) := by decide +kernel
theorem dX9_rises_12 : decode cX9_rises 12 = .ok (.iload_n 1, 1) := by decide +kernel
theorem dX9_rises_13 : decode cX9_rises 13 = .ok (.iastore, 1) := by decide +kernel
theorem dX9_rises_14 : decode cX9_rises 14 = .ok (.aload_n 0, 1) := by decide +kernel
theorem dX9_rises_15 : decode cX9_rises 15 = .ok (.iconst (-1), 1) := by decide +kernel
theorem dX9_rises_16 : decode cX9_rises 16 = .ok (.invokevirtual 70, 3) := by decide +kernel
theorem dX9_rises_19 : decode cX9_rises 19 = .ok (.istore_n 3, 1) := by decide +kernel
theorem dX9_rises_20 : decode cX9_rises 20 = .ok (.iload_n 3, 1) := by decide +kernel
theorem dX9_rises_21 : decode cX9_rises 21 = .ok (.ifCond .lt 90, 3) := by decide +kernel
theorem dX9_rises_24 : decode cX9_rises 24 = .ok (.aload_n 0, 1) := by decide +kernel
theorem dX9_rises_25 : decode cX9_rises 25 = .ok (.iload_n 3, 1) := by decide +kernel
theorem dX9_rises_26 : decode cX9_rises 26 = .ok (.iconst 0, 1) := by decide +kernel
theorem dX9_rises_27 : decode cX9_rises 27 = .ok (.invokevirtual 35, 3) := by decide +kernel
theorem dX9_rises_30 : decode cX9_rises 30 = .ok (.istore 4, 2) := by decide +kernel
theorem dX9_rises_32 : decode cX9_rises 32 = .ok (.aload_n 0, 1) := by decide +kernel
theorem dX9_rises_33 : decode cX9_rises 33 = .ok (.iload_n 3, 1) := by decide +kernel
theorem dX9_rises_34 : decode cX9_rises 34 = .ok (.iconst 1, 1) := by decide +kernel
theorem dX9_rises_35 : decode cX9_rises 35 = .ok (.invokevirtual 35, 3) := by decide +kernel
theorem dX9_rises_38 : decode cX9_rises 38 = .ok (.ifCond .ne 31, 3) := by decide +kernel
theorem dX9_rises_41 : decode cX9_rises 41 = .ok (.aload_n 0, 1) := by decide +kernel
theorem dX9_rises_42 : decode cX9_rises 42 = .ok (.iload 4, 2) := by decide +kernel
theorem dX9_rises_44 : decode cX9_rises 44 = .ok (.invokevirtual 50, 3) := by decide +kernel
theorem dX9_rises_47 : decode cX9_rises 47 = .ok (.iload_n 2, 1) := by decide +kernel
theorem dX9_rises_48 : decode cX9_rises 48 = .ok (.if_icmp .le 21, 3) := by decide +kernel
theorem dX9_rises_51 : decode cX9_rises 51 = .ok (.aload_n 0, 1) := by decide +kernel
theorem dX9_rises_52 : decode cX9_rises 52 = .ok (.iload 4, 2) := by decide +kernel
theorem dX9_rises_54 : decode cX9_rises 54 = .ok (.invokevirtual 50, 3) := by decide +kernel
theorem dX9_rises_57 : decode cX9_rises 57 = .ok (.iload_n 1, 1) := by decide +kernel
theorem dX9_rises_58 : decode cX9_rises 58 = .ok (.if_icmp .gt 11, 3) := by decide +kernel
theorem dX9_rises_61 : decode cX9_rises 61 = .ok (.aload_n 0, 1) := by decide +kernel
theorem dX9_rises_62 : decode cX9_rises 62 = .ok (.iload_n 3, 1) := by decide +kernel
theorem dX9_rises_63 : decode cX9_rises 63 = .ok (.invokevirtual 73, 3) := by decide +kernel
theorem dX9_rises_66 : decode cX9_rises 66 = .ok (.goto 35, 3) := by decide +kernel
theorem dX9_rises_69 : decode cX9_rises 69 = .ok (.aload_n 0, 1) := by decide +kernel
theorem dX9_rises_70 : decode cX9_rises 70 = .ok (.iload_n 3, 1) := by decide +kernel
theorem dX9_rises_71 : decode cX9_rises 71 = .ok (.iconst 1, 1) := by decide +kernel
theorem dX9_rises_72 : decode cX9_rises 72 = .ok (.invokevirtual 35, 3) := by decide +kernel
theorem dX9_rises_75 : decode cX9_rises 75 = .ok (.iconst 1, 1) := by decide +kernel
theorem dX9_rises_76 : decode cX9_rises 76 = .ok (.if_icmp .ne 25, 3) := by decide +kernel
theorem dX9_rises_79 : decode cX9_rises 79 = .ok (.aload_n 0, 1) := by decide +kernel
theorem dX9_rises_80 : decode cX9_rises 80 = .ok (.iload_n 3, 1) := by decide +kernel
theorem dX9_rises_81 : decode cX9_rises 81 = .ok (.iconst 2, 1) := by decide +kernel
theorem dX9_rises_82 : decode cX9_rises 82 = .ok (.invokevirtual 35, 3) := by decide +kernel
theorem dX9_rises_85 : decode cX9_rises 85 = .ok (.iload_n 1, 1) := by decide +kernel
theorem dX9_rises_86 : decode cX9_rises 86 = .ok (.if_icmp .gt 15, 3) := by decide +kernel
theorem dX9_rises_89 : decode cX9_rises 89 = .ok (.aload_n 0, 1) := by decide +kernel
theorem dX9_rises_90 : decode cX9_rises 90 = .ok (.iload_n 3, 1) := by decide +kernel
theorem dX9_rises_91 : decode cX9_rises 91 = .ok (.iconst 1, 1) := by decide +kernel
theorem dX9_rises_92 : decode cX9_rises 92 = .ok (.iconst 2, 1) := by decide +kernel
theorem dX9_rises_93 : decode cX9_rises 93 = .ok (.invokevirtual 43, 3) := by decide +kernel
theorem dX9_rises_96 : decode cX9_rises 96 = .ok (.aload_n 0, 1) := by decide +kernel
theorem dX9_rises_97 : decode cX9_rises 97 = .ok (.iload_n 3, 1) := by decide +kernel
theorem dX9_rises_98 : decode cX9_rises 98 = .ok (.invokevirtual 73, 3) := by decide +kernel
theorem dX9_rises_101 : decode cX9_rises 101 = .ok (.aload_n 0, 1) := by decide +kernel
theorem dX9_rises_102 : decode cX9_rises 102 = .ok (.iload 4, 2) := by decide +kernel
theorem dX9_rises_104 : decode cX9_rises 104 = .ok (.invokevirtual 70, 3) := by decide +kernel
theorem dX9_rises_107 : decode cX9_rises 107 = .ok (.istore_n 3, 1) := by decide +kernel
theorem dX9_rises_108 : decode cX9_rises 108 = .ok (.goto (-88), 3) := by decide +kernel
theorem dX9_rises_111 : decode cX9_rises 111 = .ok (.return_, 1) := by decide +kernel
set_option maxRecDepth 20000 in
theorem ggX9_wasIll_X9_ofE : GoodIn wsX9_wasIll wsX9_ofE := goodIn_r _ [5, 6, 7, 8, 9, 10, 11, 12, 13, 14] (by decide +kernel) (by decide +kernel)
set_option maxRecDepth 20000 in
theorem gX9_wasIll_X9_ofE : GoodIn wsX9_wasIll (wsV RX9 53 RX9 yX9_ofE wsX9_ofE) := goodIn_app (goodIn_of _ (by decide +kernel)) ggX9_wasIll_X9_ofE
theorem dX9_wasIll_0 : decode cX9_wasIll 0 = .ok (.iconst 0, 1) := by decide +kernel
theorem dX9_wasIll_1 : decode cX9_wasIll 1 = .ok (.istore_n 2, 1) := by decide +kernel
theorem dX9_wasIll_2 : decode cX9_wasIll 2 = .ok (.iconst 0, 1) := by decide +kernel
theorem dX9_wasIll_3 : decode cX9_wasIll 3 = .ok (.istore_n 3, 1) := by decide +kernel
theorem dX9_wasIll_4 : decode cX9_wasIll 4 = .ok (.iload_n 3, 1) := by decide +kernel
theorem dX9_wasIll_5 : decode cX9_wasIll 5 = .ok (.bipush 64, 2) := by decide +kernel
theorem dX9_wasIll_7 : decode cX9_wasIll 7 = .ok (.if_icmp .ge 59, 3) := by decide +kernel
theorem dX9_wasIll_10 : decode cX9_wasIll 10 = .ok (.iload_n 2, 1) := by decide +kernel
theorem dX9_wasIll_11 : decode cX9_wasIll 11 = .ok (.ifCond .ne 43, 3) := by decide +kernel
theorem dX9_wasIll_14 : decode cX9_wasIll 14 = .ok (.aload_n 0, 1) := by decide +kernel
theorem dX9_wasIll_15 : decode cX9_wasIll 15 = .ok (.iload_n 3, 1) := by decide +kernel
theorem dX9_wasIll_16 : decode cX9_wasIll 16 = .ok (.iconst 0, 1) := by decide +kernel
theorem dX9_wasIll_17 : decode cX9_wasIll 17 = .ok (.invokevirtual 53, 3) := by decide +kernel
theorem dX9_wasIll_20 : decode cX9_wasIll 20 = .ok (.iconst 1, 1) := by decide +kernel
theorem dX9_wasIll_21 : decode cX9_wasIll 21 = .ok (.if_icmp .ne 37, 3) := by decide +kernel
theorem dX9_wasIll_24 : decode cX9_wasIll 24 = .ok (.aload_n 0, 1) := by decide +kernel
theorem dX9_wasIll_25 : decode cX9_wasIll 25 = .ok (.iload_n 3, 1) := by decide +kernel
theorem dX9_wasIll_26 : decode cX9_wasIll 26 = .ok (.iconst 2, 1) := by decide +kernel
theorem dX9_wasIll_27 : decode cX9_wasIll 27 = .ok (.invokevirtual 53, 3) := by decide +kernel
theorem dX9_wasIll_30 : decode cX9_wasIll 30 = .ok (.iload_n 1, 1) := by decide +kernel
theorem dX9_wasIll_31 : decode cX9_wasIll 31 = .ok (.if_icmp .ne 27, 3) := by decide +kernel
theorem dX9_wasIll_34 : decode cX9_wasIll 34 = .ok (.aload_n 0, 1) := by decide +kernel
theorem dX9_wasIll_35 : decode cX9_wasIll 35 = .ok (.iload_n 3, 1) := by decide +kernel
theorem dX9_wasIll_36 : decode cX9_wasIll 36 = .ok (.iconst 4, 1) := by decide +kernel
theorem dX9_wasIll_37 : decode cX9_wasIll 37 = .ok (.invokevirtual 53, 3) := by decide +kernel
theorem dX9_wasIll_40 : decode cX9_wasIll 40 = .ok (.iconst 2, 1) := by decide +kernel
theorem dX9_wasIll_41 : decode cX9_wasIll 41 = .ok (.if_icmp .ne 17, 3) := by decide +kernel
theorem dX9_wasIll_44 : decode cX9_wasIll 44 = .ok (.aload_n 0, 1) := by decide +kernel
theorem dX9_wasIll_45 : decode cX9_wasIll 45 = .ok (.iload_n 3, 1) := by decide +kernel
theorem dX9_wasIll_46 : decode cX9_wasIll 46 = .ok (.iconst 5, 1) := by decide +kernel
theorem dX9_wasIll_47 : decode cX9_wasIll 47 = .ok (.invokevirtual 53, 3) := by decide +kernel
theorem dX9_wasIll_50 : decode cX9_wasIll 50 = .ok (.iconst 1, 1) := by decide +kernel
theorem dX9_wasIll_51 : decode cX9_wasIll 51 = .ok (.if_icmp .ne 7, 3) := by decide +kernel
theorem dX9_wasIll_54 : decode cX9_wasIll 54 = .ok (.iconst 1, 1) := by decide +kernel
theorem dX9_wasIll_55 : decode cX9_wasIll 55 = .ok (.goto 4, 3) := by decide +kernel
theorem dX9_wasIll_58 : decode cX9_wasIll 58 = .ok (.iconst 0, 1) := by decide +kernel
theorem dX9_wasIll_59 : decode cX9_wasIll 59 = .ok (.istore_n 2, 1) := by decide +kernel
theorem dX9_wasIll_60 : decode cX9_wasIll 60 = .ok (.iinc 3 1, 3) := by decide +kernel
theorem dX9_wasIll_63 : decode cX9_wasIll 63 = .ok (.goto (-59), 3) := by decide +kernel
theorem dX9_wasIll_66 : decode cX9_wasIll 66 = .ok (.iload_n 2, 1) := by decide +kernel
theorem dX9_wasIll_67 : decode cX9_wasIll 67 = .ok (.ireturn, 1) := by decide +kernel
set_option maxRecDepth 20000 in
theorem ggX9_isExcuse_X9_paneAt : GoodIn wsX9_isExcuse wsX9_paneAt := goodIn_r _ [6, 1, 19, 20, 21, 22, 23, 24, 25, 26] (by decide +kernel) (by decide +kernel)
set_option maxRecDepth 20000 in
theorem gX9_isExcuse_X9_paneAt : GoodIn wsX9_isExcuse (wsV RX9 60 RX9 yX9_paneAt wsX9_paneAt) := goodIn_app (goodIn_of _ (by decide +kernel)) ggX9_isExcuse_X9_paneAt
set_option maxRecDepth 20000 in
theorem ggX9_isExcuse_X9_endOf : GoodIn wsX9_isExcuse wsX9_endOf := goodIn_r _ [10, 1, 19, 20, 21, 22, 23, 24, 25, 26] (by decide +kernel) (by decide +kernel)
set_option maxRecDepth 20000 in
theorem gX9_isExcuse_X9_endOf : GoodIn wsX9_isExcuse (wsV RX9 50 RX9 yX9_endOf wsX9_endOf) := goodIn_app (goodIn_of _ (by decide +kernel)) ggX9_isExcuse_X9_endOf
set_option maxRecDepth 20000 in
theorem ggX9_isExcuse_X9_wasIll : GoodIn wsX9_isExcuse wsX9_wasIll := goodIn_r _ [14, 15, 16, 17, 5, 18, 1, 19, 20, 21, 22, 23, 24, 25, 26] (by decide +kernel) (by decide +kernel)
set_option maxRecDepth 20000 in
theorem gX9_isExcuse_X9_wasIll : GoodIn wsX9_isExcuse (wsV RX9 77 RX9 yX9_wasIll wsX9_wasIll) := goodIn_app (goodIn_of _ (by decide +kernel)) ggX9_isExcuse_X9_wasIll
theorem dX9_isExcuse_0 : decode cX9_isExcuse 0 = .ok (.aload_n 0, 1) := by decide +kernel
theorem dX9_isExcuse_1 : decode cX9_isExcuse 1 = .ok (.getfield 7, 3) := by decide +kernel
theorem dX9_isExcuse_4 : decode cX9_isExcuse 4 = .ok (.iconst 0, 1) := by decide +kernel
theorem dX9_isExcuse_5 : decode cX9_isExcuse 5 = .ok (.iaload, 1) := by decide +kernel
theorem dX9_isExcuse_6 : decode cX9_isExcuse 6 = .ok (.aload_n 0, 1) := by decide +kernel
theorem dX9_isExcuse_7 : decode cX9_isExcuse 7 = .ok (.aload_n 0, 1) := by decide +kernel
theorem dX9_isExcuse_8 : decode cX9_isExcuse 8 = .ok (.iload_n 1, 1) := by decide +kernel
theorem dX9_isExcuse_9 : decode cX9_isExcuse 9 = .ok (.invokevirtual 60, 3) := by decide +kernel
theorem dX9_isExcuse_12 : decode cX9_isExcuse 12 = .ok (.invokevirtual 50, 3) := by decide +kernel
theorem dX9_isExcuse_15 : decode cX9_isExcuse 15 = .ok (.isub, 1) := by decide +kernel
theorem dX9_isExcuse_16 : decode cX9_isExcuse 16 = .ok (.iconst 1, 1) := by decide +kernel
theorem dX9_isExcuse_17 : decode cX9_isExcuse 17 = .ok (.iadd, 1) := by decide +kernel
theorem dX9_isExcuse_18 : decode cX9_isExcuse 18 = .ok (.istore 4, 2) := by decide +kernel
theorem dX9_isExcuse_20 : decode cX9_isExcuse 20 = .ok (.iload_n 3, 1) := by decide +kernel
theorem dX9_isExcuse_21 : decode cX9_isExcuse 21 = .ok (.tableswitch 75 1 3 #[27, 40, 61], 27) := by decide +kernel
theorem dX9_isExcuse_48 : decode cX9_isExcuse 48 = .ok (.iload 4, 2) := by decide +kernel
theorem dX9_isExcuse_50 : decode cX9_isExcuse 50 = .ok (.bipush 10, 2) := by decide +kernel
theorem dX9_isExcuse_52 : decode cX9_isExcuse 52 = .ok (.if_icmp .gt 7, 3) := by decide +kernel
theorem dX9_isExcuse_55 : decode cX9_isExcuse 55 = .ok (.iconst 1, 1) := by decide +kernel
theorem dX9_isExcuse_56 : decode cX9_isExcuse 56 = .ok (.goto 4, 3) := by decide +kernel
theorem dX9_isExcuse_59 : decode cX9_isExcuse 59 = .ok (.iconst 0, 1) := by decide +kernel
theorem dX9_isExcuse_60 : decode cX9_isExcuse 60 = .ok (.ireturn, 1) := by decide +kernel
theorem dX9_isExcuse_61 : decode cX9_isExcuse 61 = .ok (.iload 4, 2) := by decide +kernel
theorem dX9_isExcuse_63 : decode cX9_isExcuse 63 = .ok (.bipush 40, 2) := by decide +kernel
theorem dX9_isExcuse_65 : decode cX9_isExcuse 65 = .ok (.if_icmp .gt 15, 3) := by decide +kernel
theorem dX9_isExcuse_68 : decode cX9_isExcuse 68 = .ok (.aload_n 0, 1) := by decide +kernel
theorem dX9_isExcuse_69 : decode cX9_isExcuse 69 = .ok (.iload_n 2, 1) := by decide +kernel
theorem dX9_isExcuse_70 : decode cX9_isExcuse 70 = .ok (.invokevirtual 77, 3) := by decide +kernel
theorem dX9_isExcuse_73 : decode cX9_isExcuse 73 = .ok (.ifCond .ne 7, 3) := by decide +kernel
theorem dX9_isExcuse_76 : decode cX9_isExcuse 76 = .ok (.iconst 1, 1) := by decide +kernel
theorem dX9_isExcuse_77 : decode cX9_isExcuse 77 = .ok (.goto 4, 3) := by decide +kernel
theorem dX9_isExcuse_80 : decode cX9_isExcuse 80 = .ok (.iconst 0, 1) := by decide +kernel
theorem dX9_isExcuse_81 : decode cX9_isExcuse 81 = .ok (.ireturn, 1) := by decide +kernel
theorem dX9_isExcuse_82 : decode cX9_isExcuse 82 = .ok (.iload_n 1, 1) := by decide +kernel
theorem dX9_isExcuse_83 : decode cX9_isExcuse 83 = .ok (.bipush 7, 2) := by decide +kernel
theorem dX9_isExcuse_85 : decode cX9_isExcuse 85 = .ok (.irem, 1) := by decide +kernel
theorem dX9_isExcuse_86 : decode cX9_isExcuse 86 = .ok (.iconst 5, 1) := by decide +kernel
theorem dX9_isExcuse_87 : decode cX9_isExcuse 87 = .ok (.if_icmp .lt 7, 3) := by decide +kernel
theorem dX9_isExcuse_90 : decode cX9_isExcuse 90 = .ok (.iconst 1, 1) := by decide +kernel
theorem dX9_isExcuse_91 : decode cX9_isExcuse 91 = .ok (.goto 4, 3) := by decide +kernel
theorem dX9_isExcuse_94 : decode cX9_isExcuse 94 = .ok (.iconst 0, 1) := by decide +kernel
theorem dX9_isExcuse_95 : decode cX9_isExcuse 95 = .ok (.ireturn, 1) := by decide +kernel
theorem dX9_isExcuse_96 : decode cX9_isExcuse 96 = .ok (.iconst 0, 1) := by decide +kernel
theorem dX9_isExcuse_97 : decode cX9_isExcuse 97 = .ok (.ireturn, 1) := by decide +kernel
theorem dX9_placeIn_0 : decode cX9_placeIn 0 = .ok (.iconst 0, 1) := by decide +kernel
theorem dX9_placeIn_1 : decode cX9_placeIn 1 = .ok (.istore_n 2, 1) := by decide +kernel
theorem dX9_placeIn_2 : decode cX9_placeIn 2 = .ok (.iload_n 2, 1) := by decide +kernel
theorem dX9_placeIn_3 : decode cX9_placeIn 3 = .ok (.iconst 4, 1) := by decide +kernel
theorem dX9_placeIn_4 : decode cX9_placeIn 4 = .ok (.if_icmp .ge 36, 3) := by decide +kernel
theorem dX9_placeIn_7 : decode cX9_placeIn 7 = .ok (.aload_n 0, 1) := by decide +kernel
theorem dX9_placeIn_8 : decode cX9_placeIn 8 = .ok (.getfield 7, 3) := by decide +kernel
theorem dX9_placeIn_11 : decode cX9_placeIn 11 = .ok (.sipush 1068, 3) := by decide +kernel
theorem dX9_placeIn_14 : decode cX9_placeIn 14 = .ok (.iconst 4, 1) := by decide +kernel
theorem dX9_placeIn_15 : decode cX9_placeIn 15 = .ok (.iload_n 1, 1) := by decide +kernel
theorem dX9_placeIn_16 : decode cX9_placeIn 16 = .ok (.imul, 1) := by decide +kernel
theorem dX9_placeIn_17 : decode cX9_placeIn 17 = .ok (.iadd, 1) := by decide +kernel
theorem dX9_placeIn_18 : decode cX9_placeIn 18 = .ok (.iload_n 2, 1) := by decide +kernel
theorem dX9_placeIn_19 : decode cX9_placeIn 19 = .ok (.iadd, 1) := by decide +kernel
theorem dX9_placeIn_20 : decode cX9_placeIn 20 = .ok (.iaload, 1) := by decide +kernel
theorem dX9_placeIn_21 : decode cX9_placeIn 21 = .ok (.ifCond .ne 13, 3) := by decide +kernel
theorem dX9_placeIn_24 : decode cX9_placeIn 24 = .ok (.sipush 1068, 3) := by decide +kernel
theorem dX9_placeIn_27 : decode cX9_placeIn 27 = .ok (.iconst 4, 1) := by decide +kernel
theorem dX9_placeIn_28 : decode cX9_placeIn 28 = .ok (.iload_n 1, 1) := by decide +kernel
theorem dX9_placeIn_29 : decode cX9_placeIn 29 = .ok (.imul, 1) := by decide +kernel
theorem dX9_placeIn_30 : decode cX9_placeIn 30 = .ok (.iadd, 1) := by decide +kernel
theorem dX9_placeIn_31 : decode cX9_placeIn 31 = .ok (.iload_n 2, 1) := by decide +kernel
theorem dX9_placeIn_32 : decode cX9_placeIn 32 = .ok (.iadd, 1) := by decide +kernel
theorem dX9_placeIn_33 : decode cX9_placeIn 33 = .ok (.ireturn, 1) := by decide +kernel
theorem dX9_placeIn_34 : decode cX9_placeIn 34 = .ok (.iinc 2 1, 3) := by decide +kernel
theorem dX9_placeIn_37 : decode cX9_placeIn 37 = .ok (.goto (-35), 3) := by decide +kernel
theorem dX9_placeIn_40 : decode cX9_placeIn 40 = .ok (.iconst (-1), 1) := by decide +kernel
theorem dX9_placeIn_41 : decode cX9_placeIn 41 = .ok (.ireturn, 1) := by decide +kernel
set_option maxRecDepth 20000 in
theorem ggX9_placeFor_X9_placeIn : GoodIn wsX9_placeFor wsX9_placeIn := goodIn_r _ [5, 6, 7, 8, 9, 10, 11, 12, 13, 14] (by decide +kernel) (by decide +kernel)
set_option maxRecDepth 20000 in
theorem gX9_placeFor_X9_placeIn : GoodIn wsX9_placeFor (wsV RX9 80 RX9 yX9_placeIn wsX9_placeIn) := goodIn_app (goodIn_of _ (by decide +kernel)) ggX9_placeFor_X9_placeIn
theorem dX9_placeFor_0 : decode cX9_placeFor 0 = .ok (.iload_n 1, 1) := by decide +kernel
theorem dX9_placeFor_1 : decode cX9_placeFor 1 = .ok (.iconst 3, 1) := by decide +kernel
theorem dX9_placeFor_2 : decode cX9_placeFor 2 = .ok (.if_icmp .ge 13, 3) := by decide +kernel
theorem dX9_placeFor_5 : decode cX9_placeFor 5 = .ok (.aload_n 0, 1) := by decide +kernel
theorem dX9_placeFor_6 : decode cX9_placeFor 6 = .ok (.iload_n 1, 1) := by decide +kernel
theorem dX9_placeFor_7 : decode cX9_placeFor 7 = .ok (.iconst 1, 1) := by decide +kernel
theorem dX9_placeFor_8 : decode cX9_placeFor 8 = .ok (.isub, 1) := by decide +kernel
theorem dX9_placeFor_9 : decode cX9_placeFor 9 = .ok (.invokevirtual 80, 3) := by decide +kernel
theorem dX9_placeFor_12 : decode cX9_placeFor 12 = .ok (.goto 4, 3) := by decide +kernel
theorem dX9_placeFor_15 : decode cX9_placeFor 15 = .ok (.iconst (-1), 1) := by decide +kernel
theorem dX9_placeFor_16 : decode cX9_placeFor 16 = .ok (.istore_n 2, 1) := by decide +kernel
theorem dX9_placeFor_17 : decode cX9_placeFor 17 = .ok (.iload_n 2, 1) := by decide +kernel
theorem dX9_placeFor_18 : decode cX9_placeFor 18 = .ok (.ifCond .ge 11, 3) := by decide +kernel
theorem dX9_placeFor_21 : decode cX9_placeFor 21 = .ok (.aload_n 0, 1) := by decide +kernel
theorem dX9_placeFor_22 : decode cX9_placeFor 22 = .ok (.iconst 2, 1) := by decide +kernel
theorem dX9_placeFor_23 : decode cX9_placeFor 23 = .ok (.invokevirtual 80, 3) := by decide +kernel
theorem dX9_placeFor_26 : decode cX9_placeFor 26 = .ok (.goto 4, 3) := by decide +kernel
theorem dX9_placeFor_29 : decode cX9_placeFor 29 = .ok (.iload_n 2, 1) := by decide +kernel
theorem dX9_placeFor_30 : decode cX9_placeFor 30 = .ok (.ireturn, 1) := by decide +kernel
set_option maxRecDepth 20000 in
theorem ggX9_judgeOf_X9_paneAt : GoodIn wsX9_judgeOf wsX9_paneAt := goodIn_r _ [5, 6, 47, 48, 49, 50, 51, 52, 53, 54] (by decide +kernel) (by decide +kernel)
set_option maxRecDepth 20000 in
theorem gX9_judgeOf_X9_paneAt : GoodIn wsX9_judgeOf (wsV RX9 60 RX9 yX9_paneAt wsX9_paneAt) := goodIn_app (goodIn_of _ (by decide +kernel)) ggX9_judgeOf_X9_paneAt
set_option maxRecDepth 20000 in
theorem ggX9_judgeOf_X9_modeOf : GoodIn wsX9_judgeOf wsX9_modeOf := goodIn_r _ [10, 11, 12, 13, 4, 14, 6, 15, 16, 17, 18, 47, 48, 49, 50, 51, 52, 53, 54] (by decide +kernel) (by decide +kernel)
set_option maxRecDepth 20000 in
theorem gX9_judgeOf_X9_modeOf : GoodIn wsX9_judgeOf (wsV RX9 47 RX9 yX9_modeOf wsX9_modeOf) := goodIn_app (goodIn_of _ (by decide +kernel)) ggX9_judgeOf_X9_modeOf
set_option maxRecDepth 20000 in
theorem ggX9_judgeOf_X9_isShut : GoodIn wsX9_judgeOf wsX9_isShut := goodIn_r _ [22, 6, 7, 8, 9, 4, 10, 11, 12, 13, 14, 15, 16, 17, 18, 23, 24, 25, 26, 47, 48, 49, 50, 51, 52, 53, 54] (by decide +kernel) (by decide +kernel)
set_option maxRecDepth 20000 in
theorem gX9_judgeOf_X9_isShut : GoodIn wsX9_judgeOf (wsV RX9 83 RX9 yX9_isShut wsX9_isShut) := goodIn_app (goodIn_of _ (by decide +kernel)) ggX9_judgeOf_X9_isShut
set_option maxRecDepth 20000 in
theorem ggX9_judgeOf_X9_isExcuse : GoodIn wsX9_judgeOf wsX9_isExcuse := goodIn_r _ [30, 6, 1, 2, 3, 4, 5, 23, 24, 25, 26, 31, 32, 33, 34, 35, 36, 37, 38, 47, 48, 49, 50, 51, 52, 53, 54] (by decide +kernel) (by decide +kernel)
set_option maxRecDepth 20000 in
theorem gX9_judgeOf_X9_isExcuse : GoodIn wsX9_judgeOf (wsV RX9 86 RX9 yX9_isExcuse wsX9_isExcuse) := goodIn_app (goodIn_of _ (by decide +kernel)) ggX9_judgeOf_X9_isExcuse
set_option maxRecDepth 20000 in
theorem ggX9_judgeOf_X9_placeFor : GoodIn wsX9_judgeOf wsX9_placeFor := goodIn_r _ [42, 43, 44, 45, 4, 46, 6, 47, 48, 49, 50, 51, 52, 53, 54] (by decide +kernel) (by decide +kernel)
set_option maxRecDepth 20000 in
theorem gX9_judgeOf_X9_placeFor : GoodIn wsX9_judgeOf (wsV RX9 89 RX9 yX9_placeFor wsX9_placeFor) := goodIn_app (goodIn_of _ (by decide +kernel)) ggX9_judgeOf_X9_placeFor
theorem dX9_judgeOf_0 : decode cX9_judgeOf 0 = .ok (.aload_n 0, 1) := by decide +kernel
theorem dX9_judgeOf_1 : decode cX9_judgeOf 1 = .ok (.iload_n 1, 1) := by decide +kernel
theorem dX9_judgeOf_2 : decode cX9_judgeOf 2 = .ok (.invokevirtual 60, 3) := by decide +kernel
theorem dX9_judgeOf_5 : decode cX9_judgeOf 5 = .ok (.istore 4, 2) := by decide +kernel
theorem dX9_judgeOf_7 : decode cX9_judgeOf 7 = .ok (.aload_n 0, 1) := by decide +kernel
theorem dX9_judgeOf_8 : decode cX9_judgeOf 8 = .ok (.iload 4, 2) := by decide +kernel
theorem dX9_judgeOf_10 : decode cX9_judgeOf 10 = .ok (.invokevirtual 47, 3) := by decide +kernel
theorem dX9_judgeOf_13 : decode cX9_judgeOf 13 = .ok (.iconst 2, 1) := by decide +kernel
theorem dX9_judgeOf_14 : decode cX9_judgeOf 14 = .ok (.if_icmp .ne 5, 3) := by decide +kernel
theorem dX9_judgeOf_17 : decode cX9_judgeOf 17 = .ok (.iconst 3, 1) := by decide +kernel
theorem dX9_judgeOf_18 : decode cX9_judgeOf 18 = .ok (.ireturn, 1) := by decide +kernel
theorem dX9_judgeOf_19 : decode cX9_judgeOf 19 = .ok (.aload_n 0, 1) := by decide +kernel
theorem dX9_judgeOf_20 : decode cX9_judgeOf 20 = .ok (.iload 4, 2) := by decide +kernel
theorem dX9_judgeOf_22 : decode cX9_judgeOf 22 = .ok (.invokevirtual 83, 3) := by decide +kernel
theorem dX9_judgeOf_25 : decode cX9_judgeOf 25 = .ok (.ifCond .ne 5, 3) := by decide +kernel
theorem dX9_judgeOf_28 : decode cX9_judgeOf 28 = .ok (.iconst 0, 1) := by decide +kernel
theorem dX9_judgeOf_29 : decode cX9_judgeOf 29 = .ok (.ireturn, 1) := by decide +kernel
theorem dX9_judgeOf_30 : decode cX9_judgeOf 30 = .ok (.aload_n 0, 1) := by decide +kernel
theorem dX9_judgeOf_31 : decode cX9_judgeOf 31 = .ok (.iload_n 1, 1) := by decide +kernel
theorem dX9_judgeOf_32 : decode cX9_judgeOf 32 = .ok (.iload_n 2, 1) := by decide +kernel
theorem dX9_judgeOf_33 : decode cX9_judgeOf 33 = .ok (.iload_n 3, 1) := by decide +kernel
theorem dX9_judgeOf_34 : decode cX9_judgeOf 34 = .ok (.invokevirtual 86, 3) := by decide +kernel
theorem dX9_judgeOf_37 : decode cX9_judgeOf 37 = .ok (.ifCond .eq 15, 3) := by decide +kernel
theorem dX9_judgeOf_40 : decode cX9_judgeOf 40 = .ok (.aload_n 0, 1) := by decide +kernel
theorem dX9_judgeOf_41 : decode cX9_judgeOf 41 = .ok (.iload_n 3, 1) := by decide +kernel
theorem dX9_judgeOf_42 : decode cX9_judgeOf 42 = .ok (.invokevirtual 89, 3) := by decide +kernel
theorem dX9_judgeOf_45 : decode cX9_judgeOf 45 = .ok (.ifCond .lt 7, 3) := by decide +kernel
theorem dX9_judgeOf_48 : decode cX9_judgeOf 48 = .ok (.iconst 1, 1) := by decide +kernel
theorem dX9_judgeOf_49 : decode cX9_judgeOf 49 = .ok (.goto 4, 3) := by decide +kernel
theorem dX9_judgeOf_52 : decode cX9_judgeOf 52 = .ok (.iconst 2, 1) := by decide +kernel
theorem dX9_judgeOf_53 : decode cX9_judgeOf 53 = .ok (.ireturn, 1) := by decide +kernel
set_option maxRecDepth 20000 in
theorem ggX9_comes_X9_ofE : GoodIn wsX9_comes wsX9_ofE := goodIn_r _ [6, 1, 90, 91, 92, 93, 94, 95, 96, 97] (by decide +kernel) (by decide +kernel)
set_option maxRecDepth 20000 in
theorem gX9_comes_X9_ofE : GoodIn wsX9_comes (wsV RX9 53 RX9 yX9_ofE wsX9_ofE) := goodIn_app (goodIn_of _ (by decide +kernel)) ggX9_comes_X9_ofE
set_option maxRecDepth 20000 in
theorem ggX9_comes_X9_judgeOf : GoodIn wsX9_comes wsX9_judgeOf := goodIn_r _ [10, 11, 12, 13, 5, 14, 1, 15, 16, 17, 18, 19, 20, 21, 22, 23, 24, 25, 26, 27, 28, 29, 30, 31, 32, 33, 34, 35, 36, 37, 38, 39, 40, 41, 42, 2, 3, 4, 6, 43, 44, 45, 46, 47, 48, 49, 50, 90, 91, 92, 93, 94, 95, 96, 97] (by decide +kernel) (by decide +kernel)
set_option maxRecDepth 20000 in
theorem gX9_comes_X9_judgeOf : GoodIn wsX9_comes (wsV RX9 92 RX9 yX9_judgeOf wsX9_judgeOf) := goodIn_app (goodIn_of _ (by decide +kernel)) ggX9_comes_X9_judgeOf
set_option maxRecDepth 20000 in
theorem ggX9_comes_X9_paneAt : GoodIn wsX9_comes wsX9_paneAt := goodIn_r _ [14, 1, 90, 91, 92, 93, 94, 95, 96, 97] (by decide +kernel) (by decide +kernel)
set_option maxRecDepth 20000 in
theorem gX9_comes_X9_paneAt : GoodIn wsX9_comes (wsV RX9 60 RX9 yX9_paneAt wsX9_paneAt) := goodIn_app (goodIn_of _ (by decide +kernel)) ggX9_comes_X9_paneAt
set_option maxRecDepth 20000 in
theorem ggX9_comes_X9_keeps : GoodIn wsX9_comes wsX9_keeps := goodIn_r _ [54, 1, 19, 20, 21, 5, 22, 23, 24, 25, 26, 55, 56, 57, 58, 90, 91, 92, 93, 94, 95, 96, 97] (by decide +kernel) (by decide +kernel)
set_option maxRecDepth 20000 in
theorem gX9_comes_X9_keeps : GoodIn wsX9_comes (wsV RX9 96 RX9 yX9_keeps wsX9_keeps) := goodIn_app (goodIn_of _ (by decide +kernel)) ggX9_comes_X9_keeps
set_option maxRecDepth 20000 in
theorem ggX9_comes_X9_placeFor : GoodIn wsX9_comes wsX9_placeFor := goodIn_r _ [46, 47, 48, 49, 5, 50, 1, 90, 91, 92, 93, 94, 95, 96, 97] (by decide +kernel) (by decide +kernel)
set_option maxRecDepth 20000 in
theorem gX9_comes_X9_placeFor : GoodIn wsX9_comes (wsV RX9 89 RX9 yX9_placeFor wsX9_placeFor) := goodIn_app (goodIn_of _ (by decide +kernel)) ggX9_comes_X9_placeFor
set_option maxRecDepth 20000 in
theorem ggX9_comes_X9_takesBack : GoodIn wsX9_comes wsX9_takesBack := goodIn_r _ [62, 1, 23, 24, 25, 5, 26, 55, 56, 57, 58, 63, 64, 65, 66, 90, 91, 92, 93, 94, 95, 96, 97] (by decide +kernel) (by decide +kernel)
set_option maxRecDepth 20000 in
theorem gX9_comes_X9_takesBack : GoodIn wsX9_comes (wsV RX9 99 RX9 yX9_takesBack wsX9_takesBack) := goodIn_app (goodIn_of _ (by decide +kernel)) ggX9_comes_X9_takesBack
set_option maxRecDepth 20000 in
theorem ggX9_comes_X9_setsP : GoodIn wsX9_comes wsX9_setsP := goodIn_r _ [58, 1, 90, 91, 92, 93, 94, 95, 96, 97] (by decide +kernel) (by decide +kernel)
set_option maxRecDepth 20000 in
theorem gX9_comes_X9_setsP : GoodIn wsX9_comes (wsV RX9 43 RX9 yX9_setsP wsX9_setsP) := goodIn_app (goodIn_of _ (by decide +kernel)) ggX9_comes_X9_setsP
set_option maxRecDepth 20000 in
theorem ggX9_comes_X9_rises : GoodIn wsX9_comes wsX9_rises := goodIn_r _ [70, 1, 71, 72, 73, 5, 74, 23, 24, 25, 26, 31, 32, 33, 34, 75, 76, 77, 78, 79, 80, 81, 82, 83, 84, 85, 86, 2, 3, 4, 6, 87, 88, 89, 11, 12, 13, 14, 55, 56, 57, 58, 63, 64, 65, 66, 90, 91, 92, 93, 94, 95, 96, 97] (by decide +kernel) (by decide +kernel)
set_option maxRecDepth 20000 in
theorem gX9_comes_X9_rises : GoodIn wsX9_comes (wsV RX9 102 RX9 yX9_rises wsX9_rises) := goodIn_app (goodIn_of _ (by decide +kernel)) ggX9_comes_X9_rises
theorem dX9_comes_0 : decode cX9_comes 0 = .ok (.aload_n 0, 1) := by decide +kernel
theorem dX9_comes_1 : decode cX9_comes 1 = .ok (.getfield 7, 3) := by decide +kernel
theorem dX9_comes_4 : decode cX9_comes 4 = .ok (.bipush 11, 2) := by decide +kernel
theorem dX9_comes_6 : decode cX9_comes 6 = .ok (.iconst 1, 1) := by decide +kernel
theorem dX9_comes_7 : decode cX9_comes 7 = .ok (.iastore, 1) := by decide +kernel
theorem dX9_comes_8 : decode cX9_comes 8 = .ok (.aload_n 0, 1) := by decide +kernel
theorem dX9_comes_9 : decode cX9_comes 9 = .ok (.iload_n 1, 1) := by decide +kernel
theorem dX9_comes_10 : decode cX9_comes 10 = .ok (.iconst 0, 1) := by decide +kernel
theorem dX9_comes_11 : decode cX9_comes 11 = .ok (.invokevirtual 53, 3) := by decide +kernel
theorem dX9_comes_14 : decode cX9_comes 14 = .ok (.iconst 1, 1) := by decide +kernel
theorem dX9_comes_15 : decode cX9_comes 15 = .ok (.if_icmp .ne 15, 3) := by decide +kernel
theorem dX9_comes_18 : decode cX9_comes 18 = .ok (.aload_n 0, 1) := by decide +kernel
theorem dX9_comes_19 : decode cX9_comes 19 = .ok (.getfield 7, 3) := by decide +kernel
theorem dX9_comes_22 : decode cX9_comes 22 = .ok (.iconst 5, 1) := by decide +kernel
theorem dX9_comes_23 : decode cX9_comes 23 = .ok (.dup2, 1) := by decide +kernel
theorem dX9_comes_24 : decode cX9_comes 24 = .ok (.iaload, 1) := by decide +kernel
theorem dX9_comes_25 : decode cX9_comes 25 = .ok (.iconst 1, 1) := by decide +kernel
theorem dX9_comes_26 : decode cX9_comes 26 = .ok (.iadd, 1) := by decide +kernel
theorem dX9_comes_27 : decode cX9_comes 27 = .ok (.iastore, 1) := by decide +kernel
theorem dX9_comes_28 : decode cX9_comes 28 = .ok (.iconst 4, 1) := by decide +kernel
theorem dX9_comes_29 : decode cX9_comes 29 = .ok (.ireturn, 1) := by decide +kernel
theorem dX9_comes_30 : decode cX9_comes 30 = .ok (.aload_n 0, 1) := by decide +kernel
theorem dX9_comes_31 : decode cX9_comes 31 = .ok (.iload_n 2, 1) := by decide +kernel
theorem dX9_comes_32 : decode cX9_comes 32 = .ok (.iload_n 3, 1) := by decide +kernel
theorem dX9_comes_33 : decode cX9_comes 33 = .ok (.iload 5, 2) := by decide +kernel
theorem dX9_comes_35 : decode cX9_comes 35 = .ok (.invokevirtual 92, 3) := by decide +kernel
theorem dX9_comes_38 : decode cX9_comes 38 = .ok (.istore 6, 2) := by decide +kernel
theorem dX9_comes_40 : decode cX9_comes 40 = .ok (.aload_n 0, 1) := by decide +kernel
theorem dX9_comes_41 : decode cX9_comes 41 = .ok (.aload_n 0, 1) := by decide +kernel
theorem dX9_comes_42 : decode cX9_comes 42 = .ok (.iload_n 2, 1) := by decide +kernel
theorem dX9_comes_43 : decode cX9_comes 43 = .ok (.invokevirtual 60, 3) := by decide +kernel
theorem dX9_comes_46 : decode cX9_comes 46 = .ok (.invokevirtual 96, 3) := by decide +kernel
theorem dX9_comes_49 : decode cX9_comes 49 = .ok (.istore 7, 2) := by decide +kernel
theorem dX9_comes_51 : decode cX9_comes 51 = .ok (.iload 6, 2) := by decide +kernel
theorem dX9_comes_53 : decode cX9_comes 53 = .ok (.iconst 1, 1) := by decide +kernel
theorem dX9_comes_54 : decode cX9_comes 54 = .ok (.if_icmp .ne 54, 3) := by decide +kernel
theorem dX9_comes_57 : decode cX9_comes 57 = .ok (.aload_n 0, 1) := by decide +kernel
theorem dX9_comes_58 : decode cX9_comes 58 = .ok (.getfield 7, 3) := by decide +kernel
theorem dX9_comes_61 : decode cX9_comes 61 = .ok (.aload_n 0, 1) := by decide +kernel
theorem dX9_comes_62 : decode cX9_comes 62 = .ok (.iload 5, 2) := by decide +kernel
theorem dX9_comes_64 : decode cX9_comes 64 = .ok (.invokevirtual 89, 3) := by decide +kernel
theorem dX9_comes_67 : decode cX9_comes 67 = .ok (.iload_n 1, 1) := by decide +kernel
theorem dX9_comes_68 : decode cX9_comes 68 = .ok (.iconst 1, 1) := by decide +kernel
theorem dX9_comes_69 : decode cX9_comes 69 = .ok (.iadd, 1) := by decide +kernel
theorem dX9_comes_70 : decode cX9_comes 70 = .ok (.iastore, 1) := by decide +kernel
theorem dX9_comes_71 : decode cX9_comes 71 = .ok (.aload_n 0, 1) := by decide +kernel
theorem dX9_comes_72 : decode cX9_comes 72 = .ok (.iload 7, 2) := by decide +kernel
theorem dX9_comes_74 : decode cX9_comes 74 = .ok (.invokevirtual 99, 3) := by decide +kernel
theorem dX9_comes_77 : decode cX9_comes 77 = .ok (.aload_n 0, 1) := by decide +kernel
theorem dX9_comes_78 : decode cX9_comes 78 = .ok (.iload 7, 2) := by decide +kernel
theorem dX9_comes_80 : decode cX9_comes 80 = .ok (.iconst 1, 1) := by decide +kernel
theorem dX9_comes_81 : decode cX9_comes 81 = .ok (.iconst 1, 1) := by decide +kernel
theorem dX9_comes_82 : decode cX9_comes 82 = .ok (.invokevirtual 43, 3) := by decide +kernel
theorem dX9_comes_85 : decode cX9_comes 85 = .ok (.aload_n 0, 1) := by decide +kernel
theorem dX9_comes_86 : decode cX9_comes 86 = .ok (.iload 7, 2) := by decide +kernel
theorem dX9_comes_88 : decode cX9_comes 88 = .ok (.iconst 2, 1) := by decide +kernel
theorem dX9_comes_89 : decode cX9_comes 89 = .ok (.aload_n 0, 1) := by decide +kernel
theorem dX9_comes_90 : decode cX9_comes 90 = .ok (.getfield 7, 3) := by decide +kernel
theorem dX9_comes_93 : decode cX9_comes 93 = .ok (.iconst 0, 1) := by decide +kernel
theorem dX9_comes_94 : decode cX9_comes 94 = .ok (.iaload, 1) := by decide +kernel
theorem dX9_comes_95 : decode cX9_comes 95 = .ok (.aload_n 0, 1) := by decide +kernel
theorem dX9_comes_96 : decode cX9_comes 96 = .ok (.getfield 7, 3) := by decide +kernel
theorem dX9_comes_99 : decode cX9_comes 99 = .ok (.bipush 8, 2) := by decide +kernel
theorem dX9_comes_101 : decode cX9_comes 101 = .ok (.iaload, 1) := by decide +kernel
theorem dX9_comes_102 : decode cX9_comes 102 = .ok (.iadd, 1) := by decide +kernel
theorem dX9_comes_103 : decode cX9_comes 103 = .ok (.iconst 1, 1) := by decide +kernel
theorem dX9_comes_104 : decode cX9_comes 104 = .ok (.iadd, 1) := by decide +kernel
theorem dX9_comes_105 : decode cX9_comes 105 = .ok (.invokevirtual 43, 3) := by decide +kernel
theorem dX9_comes_108 : decode cX9_comes 108 = .ok (.bipush 12, 2) := by decide +kernel
theorem dX9_comes_110 : decode cX9_comes 110 = .ok (.bipush 6, 2) := by decide +kernel
theorem dX9_comes_112 : decode cX9_comes 112 = .ok (.iload_n 1, 1) := by decide +kernel
theorem dX9_comes_113 : decode cX9_comes 113 = .ok (.imul, 1) := by decide +kernel
theorem dX9_comes_114 : decode cX9_comes 114 = .ok (.iadd, 1) := by decide +kernel
theorem dX9_comes_115 : decode cX9_comes 115 = .ok (.istore 8, 2) := by decide +kernel
theorem dX9_comes_117 : decode cX9_comes 117 = .ok (.aload_n 0, 1) := by decide +kernel
theorem dX9_comes_118 : decode cX9_comes 118 = .ok (.getfield 7, 3) := by decide +kernel
theorem dX9_comes_121 : decode cX9_comes 121 = .ok (.iload 8, 2) := by decide +kernel
theorem dX9_comes_123 : decode cX9_comes 123 = .ok (.iconst 0, 1) := by decide +kernel
theorem dX9_comes_124 : decode cX9_comes 124 = .ok (.iadd, 1) := by decide +kernel
theorem dX9_comes_125 : decode cX9_comes 125 = .ok (.iconst 1, 1) := by decide +kernel
theorem dX9_comes_126 : decode cX9_comes 126 = .ok (.iastore, 1) := by decide +kernel
theorem dX9_comes_127 : decode cX9_comes 127 = .ok (.aload_n 0, 1) := by decide +kernel
theorem dX9_comes_128 : decode cX9_comes 128 = .ok (.getfield 7, 3) := by decide +kernel
theorem dX9_comes_131 : decode cX9_comes 131 = .ok (.iload 8, 2) := by decide +kernel
theorem dX9_comes_133 : decode cX9_comes 133 = .ok (.iconst 1, 1) := by decide +kernel
theorem dX9_comes_134 : decode cX9_comes 134 = .ok (.iadd, 1) := by decide +kernel
theorem dX9_comes_135 : decode cX9_comes 135 = .ok (.iload_n 2, 1) := by decide +kernel
theorem dX9_comes_136 : decode cX9_comes 136 = .ok (.iastore, 1) := by decide +kernel
theorem dX9_comes_137 : decode cX9_comes 137 = .ok (.aload_n 0, 1) := by decide +kernel
theorem dX9_comes_138 : decode cX9_comes 138 = .ok (.getfield 7, 3) := by decide +kernel
theorem dX9_comes_141 : decode cX9_comes 141 = .ok (.iload 8, 2) := by decide +kernel
theorem dX9_comes_143 : decode cX9_comes 143 = .ok (.iconst 2, 1) := by decide +kernel
theorem dX9_comes_144 : decode cX9_comes 144 = .ok (.iadd, 1) := by decide +kernel
theorem dX9_comes_145 : decode cX9_comes 145 = .ok (.iload_n 3, 1) := by decide +kernel
theorem dX9_comes_146 : decode cX9_comes 146 = .ok (.iastore, 1) := by decide +kernel
theorem dX9_comes_147 : decode cX9_comes 147 = .ok (.aload_n 0, 1) := by decide +kernel
theorem dX9_comes_148 : decode cX9_comes 148 = .ok (.getfield 7, 3) := by decide +kernel
theorem dX9_comes_151 : decode cX9_comes 151 = .ok (.iload 8, 2) := by decide +kernel
theorem dX9_comes_153 : decode cX9_comes 153 = .ok (.iconst 3, 1) := by decide +kernel
theorem dX9_comes_154 : decode cX9_comes 154 = .ok (.iadd, 1) := by decide +kernel
theorem dX9_comes_155 : decode cX9_comes 155 = .ok (.iload 4, 2) := by decide +kernel
theorem dX9_comes_157 : decode cX9_comes 157 = .ok (.iastore, 1) := by decide +kernel
theorem dX9_comes_158 : decode cX9_comes 158 = .ok (.aload_n 0, 1) := by decide +kernel
theorem dX9_comes_159 : decode cX9_comes 159 = .ok (.getfield 7, 3) := by decide +kernel
theorem dX9_comes_162 : decode cX9_comes 162 = .ok (.iload 8, 2) := by decide +kernel
theorem dX9_comes_164 : decode cX9_comes 164 = .ok (.iconst 4, 1) := by decide +kernel
theorem dX9_comes_165 : decode cX9_comes 165 = .ok (.iadd, 1) := by decide +kernel
theorem dX9_comes_166 : decode cX9_comes 166 = .ok (.iload 5, 2) := by decide +kernel
theorem dX9_comes_168 : decode cX9_comes 168 = .ok (.iastore, 1) := by decide +kernel
theorem dX9_comes_169 : decode cX9_comes 169 = .ok (.aload_n 0, 1) := by decide +kernel
theorem dX9_comes_170 : decode cX9_comes 170 = .ok (.getfield 7, 3) := by decide +kernel
theorem dX9_comes_173 : decode cX9_comes 173 = .ok (.iload 8, 2) := by decide +kernel
theorem dX9_comes_175 : decode cX9_comes 175 = .ok (.iconst 5, 1) := by decide +kernel
theorem dX9_comes_176 : decode cX9_comes 176 = .ok (.iadd, 1) := by decide +kernel
theorem dX9_comes_177 : decode cX9_comes 177 = .ok (.iload 6, 2) := by decide +kernel
theorem dX9_comes_179 : decode cX9_comes 179 = .ok (.iastore, 1) := by decide +kernel
theorem dX9_comes_180 : decode cX9_comes 180 = .ok (.iload_n 2, 1) := by decide +kernel
theorem dX9_comes_181 : decode cX9_comes 181 = .ok (.aload_n 0, 1) := by decide +kernel
theorem dX9_comes_182 : decode cX9_comes 182 = .ok (.getfield 7, 3) := by decide +kernel
theorem dX9_comes_185 : decode cX9_comes 185 = .ok (.iconst 1, 1) := by decide +kernel
theorem dX9_comes_186 : decode cX9_comes 186 = .ok (.iaload, 1) := by decide +kernel
theorem dX9_comes_187 : decode cX9_comes 187 = .ok (.if_icmp .le 41, 3) := by decide +kernel
theorem dX9_comes_190 : decode cX9_comes 190 = .ok (.aload_n 0, 1) := by decide +kernel
theorem dX9_comes_191 : decode cX9_comes 191 = .ok (.getfield 7, 3) := by decide +kernel
theorem dX9_comes_194 : decode cX9_comes 194 = .ok (.iconst 1, 1) := by decide +kernel
theorem dX9_comes_195 : decode cX9_comes 195 = .ok (.iload_n 2, 1) := by decide +kernel
theorem dX9_comes_196 : decode cX9_comes 196 = .ok (.iastore, 1) := by decide +kernel
theorem dX9_comes_197 : decode cX9_comes 197 = .ok (.iload_n 2, 1) := by decide +kernel
theorem dX9_comes_198 : decode cX9_comes 198 = .ok (.aload_n 0, 1) := by decide +kernel
theorem dX9_comes_199 : decode cX9_comes 199 = .ok (.getfield 7, 3) := by decide +kernel
theorem dX9_comes_202 : decode cX9_comes 202 = .ok (.bipush 7, 2) := by decide +kernel
theorem dX9_comes_204 : decode cX9_comes 204 = .ok (.iaload, 1) := by decide +kernel
theorem dX9_comes_205 : decode cX9_comes 205 = .ok (.isub, 1) := by decide +kernel
theorem dX9_comes_206 : decode cX9_comes 206 = .ok (.aload_n 0, 1) := by decide +kernel
theorem dX9_comes_207 : decode cX9_comes 207 = .ok (.getfield 7, 3) := by decide +kernel
theorem dX9_comes_210 : decode cX9_comes 210 = .ok (.iconst 0, 1) := by decide +kernel
theorem dX9_comes_211 : decode cX9_comes 211 = .ok (.iaload, 1) := by decide +kernel
theorem dX9_comes_212 : decode cX9_comes 212 = .ok (.if_icmp .le 16, 3) := by decide +kernel
theorem dX9_comes_215 : decode cX9_comes 215 = .ok (.aload_n 0, 1) := by decide +kernel
theorem dX9_comes_216 : decode cX9_comes 216 = .ok (.iload_n 2, 1) := by decide +kernel
theorem dX9_comes_217 : decode cX9_comes 217 = .ok (.aload_n 0, 1) := by decide +kernel
theorem dX9_comes_218 : decode cX9_comes 218 = .ok (.getfield 7, 3) := by decide +kernel
theorem dX9_comes_221 : decode cX9_comes 221 = .ok (.bipush 7, 2) := by decide +kernel
theorem dX9_comes_223 : decode cX9_comes 223 = .ok (.iaload, 1) := by decide +kernel
theorem dX9_comes_224 : decode cX9_comes 224 = .ok (.isub, 1) := by decide +kernel
theorem dX9_comes_225 : decode cX9_comes 225 = .ok (.invokevirtual 102, 3) := by decide +kernel
theorem dX9_comes_228 : decode cX9_comes 228 = .ok (.iload 6, 2) := by decide +kernel
theorem dX9_comes_230 : decode cX9_comes 230 = .ok (.ireturn, 1) := by decide +kernel
set_option maxRecDepth 20000 in
theorem ggX9_isEvent_X9_isIn : GoodIn wsX9_isEvent wsX9_isIn := goodIn_r _ [4] (by decide +kernel) (by decide +kernel)
set_option maxRecDepth 20000 in
theorem gX9_isEvent_X9_isIn : GoodIn wsX9_isEvent (va_wsS RX9 27 yX9_isIn wsX9_isIn) := goodIn_app (goodIn_of _ (by decide +kernel)) ggX9_isEvent_X9_isIn
theorem dX9_isEvent_0 : decode cX9_isEvent 0 = .ok (.iload_n 0, 1) := by decide +kernel
theorem dX9_isEvent_1 : decode cX9_isEvent 1 = .ok (.iconst 0, 1) := by decide +kernel
theorem dX9_isEvent_2 : decode cX9_isEvent 2 = .ok (.bipush 63, 2) := by decide +kernel
theorem dX9_isEvent_4 : decode cX9_isEvent 4 = .ok (.invokestatic 27, 3) := by decide +kernel
theorem dX9_isEvent_7 : decode cX9_isEvent 7 = .ok (.ifCond .eq 48, 3) := by decide +kernel
theorem dX9_isEvent_10 : decode cX9_isEvent 10 = .ok (.iload_n 1, 1) := by decide +kernel
theorem dX9_isEvent_11 : decode cX9_isEvent 11 = .ok (.iconst 0, 1) := by decide +kernel
theorem dX9_isEvent_12 : decode cX9_isEvent 12 = .ok (.sipush 1999, 3) := by decide +kernel
theorem dX9_isEvent_15 : decode cX9_isEvent 15 = .ok (.invokestatic 27, 3) := by decide +kernel
theorem dX9_isEvent_18 : decode cX9_isEvent 18 = .ok (.ifCond .eq 37, 3) := by decide +kernel
theorem dX9_isEvent_21 : decode cX9_isEvent 21 = .ok (.iload_n 2, 1) := by decide +kernel
theorem dX9_isEvent_22 : decode cX9_isEvent 22 = .ok (.iconst 0, 1) := by decide +kernel
theorem dX9_isEvent_23 : decode cX9_isEvent 23 = .ok (.iconst 5, 1) := by decide +kernel
theorem dX9_isEvent_24 : decode cX9_isEvent 24 = .ok (.invokestatic 27, 3) := by decide +kernel
theorem dX9_isEvent_27 : decode cX9_isEvent 27 = .ok (.ifCond .eq 28, 3) := by decide +kernel
theorem dX9_isEvent_30 : decode cX9_isEvent 30 = .ok (.iload_n 3, 1) := by decide +kernel
theorem dX9_isEvent_31 : decode cX9_isEvent 31 = .ok (.bipush (-100), 2) := by decide +kernel
theorem dX9_isEvent_33 : decode cX9_isEvent 33 = .ok (.bipush 100, 2) := by decide +kernel
theorem dX9_isEvent_35 : decode cX9_isEvent 35 = .ok (.invokestatic 27, 3) := by decide +kernel
theorem dX9_isEvent_38 : decode cX9_isEvent 38 = .ok (.ifCond .eq 17, 3) := by decide +kernel
theorem dX9_isEvent_41 : decode cX9_isEvent 41 = .ok (.iload 4, 2) := by decide +kernel
theorem dX9_isEvent_43 : decode cX9_isEvent 43 = .ok (.iconst 0, 1) := by decide +kernel
theorem dX9_isEvent_44 : decode cX9_isEvent 44 = .ok (.iconst 3, 1) := by decide +kernel
theorem dX9_isEvent_45 : decode cX9_isEvent 45 = .ok (.invokestatic 27, 3) := by decide +kernel
theorem dX9_isEvent_48 : decode cX9_isEvent 48 = .ok (.ifCond .eq 7, 3) := by decide +kernel
theorem dX9_isEvent_51 : decode cX9_isEvent 51 = .ok (.iconst 1, 1) := by decide +kernel
theorem dX9_isEvent_52 : decode cX9_isEvent 52 = .ok (.goto 4, 3) := by decide +kernel
theorem dX9_isEvent_55 : decode cX9_isEvent 55 = .ok (.iconst 0, 1) := by decide +kernel
theorem dX9_isEvent_56 : decode cX9_isEvent 56 = .ok (.ireturn, 1) := by decide +kernel
set_option maxRecDepth 20000 in
theorem ggX9_event_X9_isEvent : GoodIn wsX9_event wsX9_isEvent := goodIn_r _ [5, 6, 7, 4, 8] (by decide +kernel) (by decide +kernel)
set_option maxRecDepth 20000 in
theorem gX9_event_X9_isEvent : GoodIn wsX9_event (va_wsS RX9 105 yX9_isEvent wsX9_isEvent) := goodIn_app (goodIn_of _ (by decide +kernel)) ggX9_event_X9_isEvent
set_option maxRecDepth 20000 in
theorem ggX9_event_X9_records : GoodIn wsX9_event wsX9_records := goodIn_r _ [12, 13, 14, 15, 104, 105, 106, 107, 108, 109, 110, 111] (by decide +kernel) (by decide +kernel)
set_option maxRecDepth 20000 in
theorem gX9_event_X9_records : GoodIn wsX9_event (wsV RX9 32 RX9 yX9_records wsX9_records) := goodIn_app (goodIn_of _ (by decide +kernel)) ggX9_event_X9_records
set_option maxRecDepth 20000 in
theorem ggX9_event_X9_comes : GoodIn wsX9_event wsX9_comes := goodIn_r _ [19, 15, 20, 21, 22, 4, 23, 24, 25, 26, 27, 28, 29, 30, 31, 32, 33, 34, 35, 36, 37, 38, 39, 40, 41, 42, 43, 44, 45, 46, 47, 48, 49, 50, 51, 52, 53, 54, 55, 56, 57, 58, 59, 60, 61, 62, 63, 64, 65, 66, 67, 68, 69, 70, 71, 72, 73, 74, 75, 76, 77, 78, 79, 80, 81, 82, 83, 84, 85, 86, 87, 88, 89, 90, 91, 92, 93, 94, 95, 96, 97, 98, 99, 100, 101, 102, 103, 6, 7, 8, 104, 105, 106, 107, 108, 109, 110, 111] (by decide +kernel) (by decide +kernel)
set_option maxRecDepth 20000 in
theorem gX9_event_X9_comes : GoodIn wsX9_event (wsV RX9 109 RX9 yX9_comes wsX9_comes) := goodIn_app (goodIn_of _ (by decide +kernel)) ggX9_event_X9_comes
theorem dX9_event_0 : decode cX9_event 0 = .ok (.iload_n 1, 1) := by decide +kernel
theorem dX9_event_1 : decode cX9_event 1 = .ok (.iload_n 2, 1) := by decide +kernel
theorem dX9_event_2 : decode cX9_event 2 = .ok (.iload_n 3, 1) := by decide +kernel
theorem dX9_event_3 : decode cX9_event 3 = .ok (.iload 4, 2) := by decide +kernel
theorem dX9_event_5 : decode cX9_event 5 = .ok (.iload 5, 2) := by decide +kernel
theorem dX9_event_7 : decode cX9_event 7 = .ok (.invokestatic 105, 3) := by decide +kernel
theorem dX9_event_10 : decode cX9_event 10 = .ok (.ifCond .ne 6, 3) := by decide +kernel
theorem dX9_event_13 : decode cX9_event 13 = .ok (.ldc 31, 2) := by decide +kernel
theorem dX9_event_15 : decode cX9_event 15 = .ok (.ireturn, 1) := by decide +kernel
theorem dX9_event_16 : decode cX9_event 16 = .ok (.aload_n 0, 1) := by decide +kernel
theorem dX9_event_17 : decode cX9_event 17 = .ok (.invokevirtual 32, 3) := by decide +kernel
theorem dX9_event_20 : decode cX9_event 20 = .ok (.aload_n 0, 1) := by decide +kernel
theorem dX9_event_21 : decode cX9_event 21 = .ok (.iload_n 1, 1) := by decide +kernel
theorem dX9_event_22 : decode cX9_event 22 = .ok (.iload_n 2, 1) := by decide +kernel
theorem dX9_event_23 : decode cX9_event 23 = .ok (.iload_n 3, 1) := by decide +kernel
theorem dX9_event_24 : decode cX9_event 24 = .ok (.iload 4, 2) := by decide +kernel
theorem dX9_event_26 : decode cX9_event 26 = .ok (.iload 5, 2) := by decide +kernel
theorem dX9_event_28 : decode cX9_event 28 = .ok (.invokevirtual 109, 3) := by decide +kernel
theorem dX9_event_31 : decode cX9_event 31 = .ok (.ireturn, 1) := by decide +kernel
set_option maxRecDepth 20000 in
theorem ggX9_move_X9_isIn : GoodIn wsX9_move wsX9_isIn := goodIn_r _ [7] (by decide +kernel) (by decide +kernel)
set_option maxRecDepth 20000 in
theorem gX9_move_X9_isIn : GoodIn wsX9_move (va_wsS RX9 27 yX9_isIn wsX9_isIn) := goodIn_app (goodIn_of _ (by decide +kernel)) ggX9_move_X9_isIn
set_option maxRecDepth 20000 in
theorem ggX9_move_X9_records : GoodIn wsX9_move wsX9_records := goodIn_r _ [11, 12, 13, 2, 42, 43, 44, 45, 46, 47, 48, 49] (by decide +kernel) (by decide +kernel)
set_option maxRecDepth 20000 in
theorem gX9_move_X9_records : GoodIn wsX9_move (wsV RX9 32 RX9 yX9_records wsX9_records) := goodIn_app (goodIn_of _ (by decide +kernel)) ggX9_move_X9_records
set_option maxRecDepth 20000 in
theorem ggX9_move_X9_endOf : GoodIn wsX9_move wsX9_endOf := goodIn_r _ [17, 2, 42, 43, 44, 45, 46, 47, 48, 49] (by decide +kernel) (by decide +kernel)
set_option maxRecDepth 20000 in
theorem gX9_move_X9_endOf : GoodIn wsX9_move (wsV RX9 50 RX9 yX9_endOf wsX9_endOf) := goodIn_app (goodIn_of _ (by decide +kernel)) ggX9_move_X9_endOf
set_option maxRecDepth 20000 in
theorem ggX9_move_X9_modeOf : GoodIn wsX9_move wsX9_modeOf := goodIn_r _ [21, 22, 23, 24, 6, 25, 2, 26, 27, 28, 29, 42, 43, 44, 45, 46, 47, 48, 49] (by decide +kernel) (by decide +kernel)
set_option maxRecDepth 20000 in
theorem gX9_move_X9_modeOf : GoodIn wsX9_move (wsV RX9 47 RX9 yX9_modeOf wsX9_modeOf) := goodIn_app (goodIn_of _ (by decide +kernel)) ggX9_move_X9_modeOf
set_option maxRecDepth 20000 in
theorem ggX9_move_X9_find : GoodIn wsX9_move wsX9_find := goodIn_r _ [25, 2, 26, 27, 28, 6, 29, 42, 43, 44, 45, 46, 47, 48, 49] (by decide +kernel) (by decide +kernel)
set_option maxRecDepth 20000 in
theorem gX9_move_X9_find : GoodIn wsX9_move (wsV RX9 39 RX9 yX9_find wsX9_find) := goodIn_app (goodIn_of _ (by decide +kernel)) ggX9_move_X9_find
set_option maxRecDepth 20000 in
theorem ggX9_move_X9_takesBack : GoodIn wsX9_move wsX9_takesBack := goodIn_r _ [33, 2, 26, 27, 28, 6, 29, 34, 35, 36, 37, 38, 39, 40, 41, 42, 43, 44, 45, 46, 47, 48, 49] (by decide +kernel) (by decide +kernel)
set_option maxRecDepth 20000 in
theorem gX9_move_X9_takesBack : GoodIn wsX9_move (wsV RX9 99 RX9 yX9_takesBack wsX9_takesBack) := goodIn_app (goodIn_of _ (by decide +kernel)) ggX9_move_X9_takesBack
theorem dX9_move_0 : decode cX9_move 0 = .ok (.iload_n 1, 1) := by decide +kernel
theorem dX9_move_1 : decode cX9_move 1 = .ok (.iconst 1, 1) := by decide +kernel
theorem dX9_move_2 : decode cX9_move 2 = .ok (.bipush 100, 2) := by decide +kernel
theorem dX9_move_4 : decode cX9_move 4 = .ok (.invokestatic 27, 3) := by decide +kernel
theorem dX9_move_7 : decode cX9_move 7 = .ok (.ifCond .ne 6, 3) := by decide +kernel
theorem dX9_move_10 : decode cX9_move 10 = .ok (.ldc 31, 2) := by decide +kernel
theorem dX9_move_12 : decode cX9_move 12 = .ok (.ireturn, 1) := by decide +kernel
theorem dX9_move_13 : decode cX9_move 13 = .ok (.aload_n 0, 1) := by decide +kernel
theorem dX9_move_14 : decode cX9_move 14 = .ok (.getfield 7, 3) := by decide +kernel
theorem dX9_move_17 : decode cX9_move 17 = .ok (.iconst 2, 1) := by decide +kernel
theorem dX9_move_18 : decode cX9_move 18 = .ok (.iaload, 1) := by decide +kernel
theorem dX9_move_19 : decode cX9_move 19 = .ok (.iconst 1, 1) := by decide +kernel
theorem dX9_move_20 : decode cX9_move 20 = .ok (.if_icmp .eq 13, 3) := by decide +kernel
theorem dX9_move_23 : decode cX9_move 23 = .ok (.aload_n 0, 1) := by decide +kernel
theorem dX9_move_24 : decode cX9_move 24 = .ok (.getfield 7, 3) := by decide +kernel
theorem dX9_move_27 : decode cX9_move 27 = .ok (.iconst 0, 1) := by decide +kernel
theorem dX9_move_28 : decode cX9_move 28 = .ok (.iaload, 1) := by decide +kernel
theorem dX9_move_29 : decode cX9_move 29 = .ok (.iconst (-1), 1) := by decide +kernel
theorem dX9_move_30 : decode cX9_move 30 = .ok (.if_icmp .ne 6, 3) := by decide +kernel
theorem dX9_move_33 : decode cX9_move 33 = .ok (.ldc 26, 2) := by decide +kernel
theorem dX9_move_35 : decode cX9_move 35 = .ok (.ireturn, 1) := by decide +kernel
theorem dX9_move_36 : decode cX9_move 36 = .ok (.aload_n 0, 1) := by decide +kernel
theorem dX9_move_37 : decode cX9_move 37 = .ok (.invokevirtual 32, 3) := by decide +kernel
theorem dX9_move_40 : decode cX9_move 40 = .ok (.aload_n 0, 1) := by decide +kernel
theorem dX9_move_41 : decode cX9_move 41 = .ok (.getfield 7, 3) := by decide +kernel
theorem dX9_move_44 : decode cX9_move 44 = .ok (.iconst 0, 1) := by decide +kernel
theorem dX9_move_45 : decode cX9_move 45 = .ok (.iaload, 1) := by decide +kernel
theorem dX9_move_46 : decode cX9_move 46 = .ok (.istore_n 2, 1) := by decide +kernel
theorem dX9_move_47 : decode cX9_move 47 = .ok (.iload_n 2, 1) := by decide +kernel
theorem dX9_move_48 : decode cX9_move 48 = .ok (.iload_n 1, 1) := by decide +kernel
theorem dX9_move_49 : decode cX9_move 49 = .ok (.isub, 1) := by decide +kernel
theorem dX9_move_50 : decode cX9_move 50 = .ok (.iconst (-1), 1) := by decide +kernel
theorem dX9_move_51 : decode cX9_move 51 = .ok (.if_icmp .ge 7, 3) := by decide +kernel
theorem dX9_move_54 : decode cX9_move 54 = .ok (.iconst (-1), 1) := by decide +kernel
theorem dX9_move_55 : decode cX9_move 55 = .ok (.goto 6, 3) := by decide +kernel
theorem dX9_move_58 : decode cX9_move 58 = .ok (.iload_n 2, 1) := by decide +kernel
theorem dX9_move_59 : decode cX9_move 59 = .ok (.iload_n 1, 1) := by decide +kernel
theorem dX9_move_60 : decode cX9_move 60 = .ok (.isub, 1) := by decide +kernel
theorem dX9_move_61 : decode cX9_move 61 = .ok (.istore_n 3, 1) := by decide +kernel
theorem dX9_move_62 : decode cX9_move 62 = .ok (.iconst 0, 1) := by decide +kernel
theorem dX9_move_63 : decode cX9_move 63 = .ok (.istore 4, 2) := by decide +kernel
theorem dX9_move_65 : decode cX9_move 65 = .ok (.iconst 0, 1) := by decide +kernel
theorem dX9_move_66 : decode cX9_move 66 = .ok (.istore 5, 2) := by decide +kernel
theorem dX9_move_68 : decode cX9_move 68 = .ok (.aload_n 0, 1) := by decide +kernel
theorem dX9_move_69 : decode cX9_move 69 = .ok (.iload 5, 2) := by decide +kernel
theorem dX9_move_71 : decode cX9_move 71 = .ok (.invokevirtual 50, 3) := by decide +kernel
theorem dX9_move_74 : decode cX9_move 74 = .ok (.iload_n 2, 1) := by decide +kernel
theorem dX9_move_75 : decode cX9_move 75 = .ok (.if_icmp .gt 50, 3) := by decide +kernel
theorem dX9_move_78 : decode cX9_move 78 = .ok (.aload_n 0, 1) := by decide +kernel
theorem dX9_move_79 : decode cX9_move 79 = .ok (.iload 5, 2) := by decide +kernel
theorem dX9_move_81 : decode cX9_move 81 = .ok (.invokevirtual 50, 3) := by decide +kernel
theorem dX9_move_84 : decode cX9_move 84 = .ok (.iload_n 3, 1) := by decide +kernel
theorem dX9_move_85 : decode cX9_move 85 = .ok (.if_icmp .le 34, 3) := by decide +kernel
theorem dX9_move_88 : decode cX9_move 88 = .ok (.aload_n 0, 1) := by decide +kernel
theorem dX9_move_89 : decode cX9_move 89 = .ok (.iload 5, 2) := by decide +kernel
theorem dX9_move_91 : decode cX9_move 91 = .ok (.invokevirtual 47, 3) := by decide +kernel
theorem dX9_move_94 : decode cX9_move 94 = .ok (.ifCond .ne 25, 3) := by decide +kernel
theorem dX9_move_97 : decode cX9_move 97 = .ok (.iinc 4 1, 3) := by decide +kernel
theorem dX9_move_100 : decode cX9_move 100 = .ok (.aload_n 0, 1) := by decide +kernel
theorem dX9_move_101 : decode cX9_move 101 = .ok (.iload 5, 2) := by decide +kernel
theorem dX9_move_103 : decode cX9_move 103 = .ok (.invokevirtual 39, 3) := by decide +kernel
theorem dX9_move_106 : decode cX9_move 106 = .ok (.ifCond .lt 13, 3) := by decide +kernel
theorem dX9_move_109 : decode cX9_move 109 = .ok (.aload_n 0, 1) := by decide +kernel
theorem dX9_move_110 : decode cX9_move 110 = .ok (.aload_n 0, 1) := by decide +kernel
theorem dX9_move_111 : decode cX9_move 111 = .ok (.iload 5, 2) := by decide +kernel
theorem dX9_move_113 : decode cX9_move 113 = .ok (.invokevirtual 39, 3) := by decide +kernel
theorem dX9_move_116 : decode cX9_move 116 = .ok (.invokevirtual 99, 3) := by decide +kernel
theorem dX9_move_119 : decode cX9_move 119 = .ok (.iinc 5 1, 3) := by decide +kernel
theorem dX9_move_122 : decode cX9_move 122 = .ok (.goto (-54), 3) := by decide +kernel
theorem dX9_move_125 : decode cX9_move 125 = .ok (.aload_n 0, 1) := by decide +kernel
theorem dX9_move_126 : decode cX9_move 126 = .ok (.getfield 7, 3) := by decide +kernel
theorem dX9_move_129 : decode cX9_move 129 = .ok (.iconst 0, 1) := by decide +kernel
theorem dX9_move_130 : decode cX9_move 130 = .ok (.iload_n 3, 1) := by decide +kernel
theorem dX9_move_131 : decode cX9_move 131 = .ok (.iastore, 1) := by decide +kernel
theorem dX9_move_132 : decode cX9_move 132 = .ok (.aload_n 0, 1) := by decide +kernel
theorem dX9_move_133 : decode cX9_move 133 = .ok (.getfield 7, 3) := by decide +kernel
theorem dX9_move_136 : decode cX9_move 136 = .ok (.iconst 2, 1) := by decide +kernel
theorem dX9_move_137 : decode cX9_move 137 = .ok (.iconst 1, 1) := by decide +kernel
theorem dX9_move_138 : decode cX9_move 138 = .ok (.iastore, 1) := by decide +kernel
theorem dX9_move_139 : decode cX9_move 139 = .ok (.iload 4, 2) := by decide +kernel
theorem dX9_move_141 : decode cX9_move 141 = .ok (.ireturn, 1) := by decide +kernel
set_option maxRecDepth 20000 in
theorem ggX9_isPane_X9_isIn : GoodIn wsX9_isPane wsX9_isIn := goodIn_r _ [5] (by decide +kernel) (by decide +kernel)
set_option maxRecDepth 20000 in
theorem gX9_isPane_X9_isIn : GoodIn wsX9_isPane (va_wsS RX9 27 yX9_isIn wsX9_isIn) := goodIn_app (goodIn_of _ (by decide +kernel)) ggX9_isPane_X9_isIn
theorem dX9_isPane_0 : decode cX9_isPane 0 = .ok (.iload_n 1, 1) := by decide +kernel
theorem dX9_isPane_1 : decode cX9_isPane 1 = .ok (.iconst 0, 1) := by decide +kernel
theorem dX9_isPane_2 : decode cX9_isPane 2 = .ok (.sipush 1999, 3) := by decide +kernel
theorem dX9_isPane_5 : decode cX9_isPane 5 = .ok (.invokestatic 27, 3) := by decide +kernel
theorem dX9_isPane_8 : decode cX9_isPane 8 = .ok (.ifCond .eq 22, 3) := by decide +kernel
theorem dX9_isPane_11 : decode cX9_isPane 11 = .ok (.iload_n 1, 1) := by decide +kernel
theorem dX9_isPane_12 : decode cX9_isPane 12 = .ok (.aload_n 0, 1) := by decide +kernel
theorem dX9_isPane_13 : decode cX9_isPane 13 = .ok (.getfield 7, 3) := by decide +kernel
theorem dX9_isPane_16 : decode cX9_isPane 16 = .ok (.bipush 6, 2) := by decide +kernel
theorem dX9_isPane_18 : decode cX9_isPane 18 = .ok (.iaload, 1) := by decide +kernel
theorem dX9_isPane_19 : decode cX9_isPane 19 = .ok (.imul, 1) := by decide +kernel
theorem dX9_isPane_20 : decode cX9_isPane 20 = .ok (.sipush 2000, 3) := by decide +kernel
theorem dX9_isPane_23 : decode cX9_isPane 23 = .ok (.if_icmp .ge 7, 3) := by decide +kernel
theorem dX9_isPane_26 : decode cX9_isPane 26 = .ok (.iconst 1, 1) := by decide +kernel
theorem dX9_isPane_27 : decode cX9_isPane 27 = .ok (.goto 4, 3) := by decide +kernel
theorem dX9_isPane_30 : decode cX9_isPane 30 = .ok (.iconst 0, 1) := by decide +kernel
theorem dX9_isPane_31 : decode cX9_isPane 31 = .ok (.ireturn, 1) := by decide +kernel
set_option maxRecDepth 20000 in
theorem ggX9_stateOf_X9_modeOf : GoodIn wsX9_stateOf wsX9_modeOf := goodIn_r _ [5, 6, 7, 8, 4, 9, 10, 11, 12, 13, 14, 23, 24, 25, 26, 27, 28, 29, 30] (by decide +kernel) (by decide +kernel)
set_option maxRecDepth 20000 in
theorem gX9_stateOf_X9_modeOf : GoodIn wsX9_stateOf (wsV RX9 47 RX9 yX9_modeOf wsX9_modeOf) := goodIn_app (goodIn_of _ (by decide +kernel)) ggX9_stateOf_X9_modeOf
set_option maxRecDepth 20000 in
theorem ggX9_stateOf_X9_isShut : GoodIn wsX9_stateOf wsX9_isShut := goodIn_r _ [18, 10, 1, 2, 3, 4, 5, 6, 7, 8, 9, 11, 12, 13, 14, 19, 20, 21, 22, 23, 24, 25, 26, 27, 28, 29, 30] (by decide +kernel) (by decide +kernel)
set_option maxRecDepth 20000 in
theorem gX9_stateOf_X9_isShut : GoodIn wsX9_stateOf (wsV RX9 83 RX9 yX9_isShut wsX9_isShut) := goodIn_app (goodIn_of _ (by decide +kernel)) ggX9_stateOf_X9_isShut
theorem dX9_stateOf_0 : decode cX9_stateOf 0 = .ok (.aload_n 0, 1) := by decide +kernel
theorem dX9_stateOf_1 : decode cX9_stateOf 1 = .ok (.iload_n 1, 1) := by decide +kernel
theorem dX9_stateOf_2 : decode cX9_stateOf 2 = .ok (.invokevirtual 47, 3) := by decide +kernel
theorem dX9_stateOf_5 : decode cX9_stateOf 5 = .ok (.istore_n 2, 1) := by decide +kernel
theorem dX9_stateOf_6 : decode cX9_stateOf 6 = .ok (.iload_n 2, 1) := by decide +kernel
theorem dX9_stateOf_7 : decode cX9_stateOf 7 = .ok (.ifCond .eq 7, 3) := by decide +kernel
theorem dX9_stateOf_10 : decode cX9_stateOf 10 = .ok (.iload_n 2, 1) := by decide +kernel
theorem dX9_stateOf_11 : decode cX9_stateOf 11 = .ok (.iconst 1, 1) := by decide +kernel
theorem dX9_stateOf_12 : decode cX9_stateOf 12 = .ok (.iadd, 1) := by decide +kernel
theorem dX9_stateOf_13 : decode cX9_stateOf 13 = .ok (.ireturn, 1) := by decide +kernel
theorem dX9_stateOf_14 : decode cX9_stateOf 14 = .ok (.aload_n 0, 1) := by decide +kernel
theorem dX9_stateOf_15 : decode cX9_stateOf 15 = .ok (.iload_n 1, 1) := by decide +kernel
theorem dX9_stateOf_16 : decode cX9_stateOf 16 = .ok (.invokevirtual 83, 3) := by decide +kernel
theorem dX9_stateOf_19 : decode cX9_stateOf 19 = .ok (.ifCond .eq 7, 3) := by decide +kernel
theorem dX9_stateOf_22 : decode cX9_stateOf 22 = .ok (.iconst 1, 1) := by decide +kernel
theorem dX9_stateOf_23 : decode cX9_stateOf 23 = .ok (.goto 4, 3) := by decide +kernel
theorem dX9_stateOf_26 : decode cX9_stateOf 26 = .ok (.iconst 0, 1) := by decide +kernel
theorem dX9_stateOf_27 : decode cX9_stateOf 27 = .ok (.ireturn, 1) := by decide +kernel
set_option maxRecDepth 20000 in
theorem ggX9_paneOf_X9_isPane : GoodIn wsX9_paneOf wsX9_isPane := goodIn_r _ [7, 8, 9, 10, 6, 11, 52, 53, 54, 55, 56, 57, 58, 59] (by decide +kernel) (by decide +kernel)
set_option maxRecDepth 20000 in
theorem gX9_paneOf_X9_isPane : GoodIn wsX9_paneOf (wsV RX9 113 RX9 yX9_isPane wsX9_isPane) := goodIn_app (goodIn_of _ (by decide +kernel)) ggX9_paneOf_X9_isPane
set_option maxRecDepth 20000 in
theorem ggX9_paneOf_X9_isIn : GoodIn wsX9_paneOf wsX9_isIn := goodIn_r _ [11] (by decide +kernel) (by decide +kernel)
set_option maxRecDepth 20000 in
theorem gX9_paneOf_X9_isIn : GoodIn wsX9_paneOf (va_wsS RX9 27 yX9_isIn wsX9_isIn) := goodIn_app (goodIn_of _ (by decide +kernel)) ggX9_paneOf_X9_isIn
set_option maxRecDepth 20000 in
theorem ggX9_paneOf_X9_find : GoodIn wsX9_paneOf wsX9_find := goodIn_r _ [15, 8, 16, 17, 18, 6, 19, 52, 53, 54, 55, 56, 57, 58, 59] (by decide +kernel) (by decide +kernel)
set_option maxRecDepth 20000 in
theorem gX9_paneOf_X9_find : GoodIn wsX9_paneOf (wsV RX9 39 RX9 yX9_find wsX9_find) := goodIn_app (goodIn_of _ (by decide +kernel)) ggX9_paneOf_X9_find
set_option maxRecDepth 20000 in
theorem ggX9_paneOf_X9_stateOf : GoodIn wsX9_paneOf wsX9_stateOf := goodIn_r _ [23, 24, 25, 26, 6, 27, 12, 13, 14, 15, 8, 16, 17, 18, 19, 28, 29, 30, 31, 32, 33, 34, 35, 52, 53, 54, 55, 56, 57, 58, 59] (by decide +kernel) (by decide +kernel)
set_option maxRecDepth 20000 in
theorem gX9_paneOf_X9_stateOf : GoodIn wsX9_paneOf (wsV RX9 116 RX9 yX9_stateOf wsX9_stateOf) := goodIn_app (goodIn_of _ (by decide +kernel)) ggX9_paneOf_X9_stateOf
set_option maxRecDepth 20000 in
theorem ggX9_paneOf_X9_sumOf : GoodIn wsX9_paneOf wsX9_sumOf := goodIn_r _ [39, 40, 41, 42, 6, 43, 44, 45, 46, 47, 8, 9, 10, 11, 48, 49, 50, 51, 52, 53, 54, 55, 56, 57, 58, 59] (by decide +kernel) (by decide +kernel)
set_option maxRecDepth 20000 in
theorem gX9_paneOf_X9_sumOf : GoodIn wsX9_paneOf (wsV RX9 63 RX9 yX9_sumOf wsX9_sumOf) := goodIn_app (goodIn_of _ (by decide +kernel)) ggX9_paneOf_X9_sumOf
set_option maxRecDepth 20000 in
theorem ggX9_paneOf_X9_ofP : GoodIn wsX9_paneOf wsX9_ofP := goodIn_r _ [19, 8, 52, 53, 54, 55, 56, 57, 58, 59] (by decide +kernel) (by decide +kernel)
set_option maxRecDepth 20000 in
theorem gX9_paneOf_X9_ofP : GoodIn wsX9_paneOf (wsV RX9 35 RX9 yX9_ofP wsX9_ofP) := goodIn_app (goodIn_of _ (by decide +kernel)) ggX9_paneOf_X9_ofP
theorem dX9_paneOf_0 : decode cX9_paneOf 0 = .ok (.aload_n 0, 1) := by decide +kernel
theorem dX9_paneOf_1 : decode cX9_paneOf 1 = .ok (.iload_n 1, 1) := by decide +kernel
theorem dX9_paneOf_2 : decode cX9_paneOf 2 = .ok (.invokevirtual 113, 3) := by decide +kernel
theorem dX9_paneOf_5 : decode cX9_paneOf 5 = .ok (.ifCond .eq 13, 3) := by decide +kernel
theorem dX9_paneOf_8 : decode cX9_paneOf 8 = .ok (.iload_n 2, 1) := by decide +kernel
theorem dX9_paneOf_9 : decode cX9_paneOf 9 = .ok (.iconst 0, 1) := by decide +kernel
theorem dX9_paneOf_10 : decode cX9_paneOf 10 = .ok (.bipush 6, 2) := by decide +kernel
theorem dX9_paneOf_12 : decode cX9_paneOf 12 = .ok (.invokestatic 27, 3) := by decide +kernel
theorem dX9_paneOf_15 : decode cX9_paneOf 15 = .ok (.ifCond .ne 6, 3) := by decide +kernel
theorem dX9_paneOf_18 : decode cX9_paneOf 18 = .ok (.ldc 31, 2) := by decide +kernel
theorem dX9_paneOf_20 : decode cX9_paneOf 20 = .ok (.ireturn, 1) := by decide +kernel
theorem dX9_paneOf_21 : decode cX9_paneOf 21 = .ok (.aload_n 0, 1) := by decide +kernel
theorem dX9_paneOf_22 : decode cX9_paneOf 22 = .ok (.iload_n 1, 1) := by decide +kernel
theorem dX9_paneOf_23 : decode cX9_paneOf 23 = .ok (.invokevirtual 39, 3) := by decide +kernel
theorem dX9_paneOf_26 : decode cX9_paneOf 26 = .ok (.istore_n 3, 1) := by decide +kernel
theorem dX9_paneOf_27 : decode cX9_paneOf 27 = .ok (.iload_n 2, 1) := by decide +kernel
theorem dX9_paneOf_28 : decode cX9_paneOf 28 = .ok (.tableswitch 77 0 4 #[36, 42, 42, 42, 51], 36) := by decide +kernel
theorem dX9_paneOf_64 : decode cX9_paneOf 64 = .ok (.aload_n 0, 1) := by decide +kernel
theorem dX9_paneOf_65 : decode cX9_paneOf 65 = .ok (.iload_n 1, 1) := by decide +kernel
theorem dX9_paneOf_66 : decode cX9_paneOf 66 = .ok (.invokevirtual 116, 3) := by decide +kernel
theorem dX9_paneOf_69 : decode cX9_paneOf 69 = .ok (.ireturn, 1) := by decide +kernel
theorem dX9_paneOf_70 : decode cX9_paneOf 70 = .ok (.aload_n 0, 1) := by decide +kernel
theorem dX9_paneOf_71 : decode cX9_paneOf 71 = .ok (.iload_n 1, 1) := by decide +kernel
theorem dX9_paneOf_72 : decode cX9_paneOf 72 = .ok (.iload_n 2, 1) := by decide +kernel
theorem dX9_paneOf_73 : decode cX9_paneOf 73 = .ok (.iconst 1, 1) := by decide +kernel
theorem dX9_paneOf_74 : decode cX9_paneOf 74 = .ok (.isub, 1) := by decide +kernel
theorem dX9_paneOf_75 : decode cX9_paneOf 75 = .ok (.invokevirtual 63, 3) := by decide +kernel
theorem dX9_paneOf_78 : decode cX9_paneOf 78 = .ok (.ireturn, 1) := by decide +kernel
theorem dX9_paneOf_79 : decode cX9_paneOf 79 = .ok (.iload_n 3, 1) := by decide +kernel
theorem dX9_paneOf_80 : decode cX9_paneOf 80 = .ok (.ifCond .lt 13, 3) := by decide +kernel
theorem dX9_paneOf_83 : decode cX9_paneOf 83 = .ok (.aload_n 0, 1) := by decide +kernel
theorem dX9_paneOf_84 : decode cX9_paneOf 84 = .ok (.iload_n 3, 1) := by decide +kernel
theorem dX9_paneOf_85 : decode cX9_paneOf 85 = .ok (.iconst 1, 1) := by decide +kernel
theorem dX9_paneOf_86 : decode cX9_paneOf 86 = .ok (.invokevirtual 35, 3) := by decide +kernel
theorem dX9_paneOf_89 : decode cX9_paneOf 89 = .ok (.iconst 1, 1) := by decide +kernel
theorem dX9_paneOf_90 : decode cX9_paneOf 90 = .ok (.if_icmp .eq 8, 3) := by decide +kernel
theorem dX9_paneOf_93 : decode cX9_paneOf 93 = .ok (.ldc 119, 2) := by decide +kernel
theorem dX9_paneOf_95 : decode cX9_paneOf 95 = .ok (.goto 9, 3) := by decide +kernel
theorem dX9_paneOf_98 : decode cX9_paneOf 98 = .ok (.aload_n 0, 1) := by decide +kernel
theorem dX9_paneOf_99 : decode cX9_paneOf 99 = .ok (.iload_n 3, 1) := by decide +kernel
theorem dX9_paneOf_100 : decode cX9_paneOf 100 = .ok (.iconst 2, 1) := by decide +kernel
theorem dX9_paneOf_101 : decode cX9_paneOf 101 = .ok (.invokevirtual 35, 3) := by decide +kernel
theorem dX9_paneOf_104 : decode cX9_paneOf 104 = .ok (.ireturn, 1) := by decide +kernel
theorem dX9_paneOf_105 : decode cX9_paneOf 105 = .ok (.iload_n 3, 1) := by decide +kernel
theorem dX9_paneOf_106 : decode cX9_paneOf 106 = .ok (.ifCond .ge 7, 3) := by decide +kernel
theorem dX9_paneOf_109 : decode cX9_paneOf 109 = .ok (.iconst 0, 1) := by decide +kernel
theorem dX9_paneOf_110 : decode cX9_paneOf 110 = .ok (.goto 18, 3) := by decide +kernel
theorem dX9_paneOf_113 : decode cX9_paneOf 113 = .ok (.aload_n 0, 1) := by decide +kernel
theorem dX9_paneOf_114 : decode cX9_paneOf 114 = .ok (.iload_n 3, 1) := by decide +kernel
theorem dX9_paneOf_115 : decode cX9_paneOf 115 = .ok (.iload_n 2, 1) := by decide +kernel
theorem dX9_paneOf_116 : decode cX9_paneOf 116 = .ok (.iconst 5, 1) := by decide +kernel
theorem dX9_paneOf_117 : decode cX9_paneOf 117 = .ok (.if_icmp .ne 7, 3) := by decide +kernel
theorem dX9_paneOf_120 : decode cX9_paneOf 120 = .ok (.iconst 3, 1) := by decide +kernel
theorem dX9_paneOf_121 : decode cX9_paneOf 121 = .ok (.goto 4, 3) := by decide +kernel
theorem dX9_paneOf_124 : decode cX9_paneOf 124 = .ok (.iconst 4, 1) := by decide +kernel
theorem dX9_paneOf_125 : decode cX9_paneOf 125 = .ok (.invokevirtual 35, 3) := by decide +kernel
theorem dX9_paneOf_128 : decode cX9_paneOf 128 = .ok (.ireturn, 1) := by decide +kernel
theorem dX9_bitsOf_0 : decode cX9_bitsOf 0 = .ok (.fload_n 0, 1) := by decide +kernel
theorem dX9_bitsOf_1 : decode cX9_bitsOf 1 = .ok (.fconst 0, 1) := by decide +kernel
theorem dX9_bitsOf_2 : decode cX9_bitsOf 2 = .ok (.fcmp .l, 1) := by decide +kernel
theorem dX9_bitsOf_3 : decode cX9_bitsOf 3 = .ok (.ifCond .ne 5, 3) := by decide +kernel
theorem dX9_bitsOf_6 : decode cX9_bitsOf 6 = .ok (.iconst 0, 1) := by decide +kernel
theorem dX9_bitsOf_7 : decode cX9_bitsOf 7 = .ok (.ireturn, 1) := by decide +kernel
theorem dX9_bitsOf_8 : decode cX9_bitsOf 8 = .ok (.fload_n 0, 1) := by decide +kernel
theorem dX9_bitsOf_9 : decode cX9_bitsOf 9 = .ok (.fconst 0, 1) := by decide +kernel
theorem dX9_bitsOf_10 : decode cX9_bitsOf 10 = .ok (.fcmp .g, 1) := by decide +kernel
theorem dX9_bitsOf_11 : decode cX9_bitsOf 11 = .ok (.ifCond .ge 8, 3) := by decide +kernel
theorem dX9_bitsOf_14 : decode cX9_bitsOf 14 = .ok (.fload_n 0, 1) := by decide +kernel
theorem dX9_bitsOf_15 : decode cX9_bitsOf 15 = .ok (.fneg, 1) := by decide +kernel
theorem dX9_bitsOf_16 : decode cX9_bitsOf 16 = .ok (.goto 4, 3) := by decide +kernel
theorem dX9_bitsOf_19 : decode cX9_bitsOf 19 = .ok (.fload_n 0, 1) := by decide +kernel
theorem dX9_bitsOf_20 : decode cX9_bitsOf 20 = .ok (.fstore_n 1, 1) := by decide +kernel
theorem dX9_bitsOf_21 : decode cX9_bitsOf 21 = .ok (.bipush 127, 2) := by decide +kernel
theorem dX9_bitsOf_23 : decode cX9_bitsOf 23 = .ok (.istore_n 2, 1) := by decide +kernel
theorem dX9_bitsOf_24 : decode cX9_bitsOf 24 = .ok (.fload_n 1, 1) := by decide +kernel
theorem dX9_bitsOf_25 : decode cX9_bitsOf 25 = .ok (.fconst 2, 1) := by decide +kernel
theorem dX9_bitsOf_26 : decode cX9_bitsOf 26 = .ok (.fcmp .l, 1) := by decide +kernel
theorem dX9_bitsOf_27 : decode cX9_bitsOf 27 = .ok (.ifCond .lt 13, 3) := by decide +kernel
theorem dX9_bitsOf_30 : decode cX9_bitsOf 30 = .ok (.fload_n 1, 1) := by decide +kernel
theorem dX9_bitsOf_31 : decode cX9_bitsOf 31 = .ok (.fconst 2, 1) := by decide +kernel
theorem dX9_bitsOf_32 : decode cX9_bitsOf 32 = .ok (.fdiv, 1) := by decide +kernel
theorem dX9_bitsOf_33 : decode cX9_bitsOf 33 = .ok (.fstore_n 1, 1) := by decide +kernel
theorem dX9_bitsOf_34 : decode cX9_bitsOf 34 = .ok (.iinc 2 1, 3) := by decide +kernel
theorem dX9_bitsOf_37 : decode cX9_bitsOf 37 = .ok (.goto (-13), 3) := by decide +kernel
theorem dX9_bitsOf_40 : decode cX9_bitsOf 40 = .ok (.fload_n 1, 1) := by decide +kernel
theorem dX9_bitsOf_41 : decode cX9_bitsOf 41 = .ok (.fconst 1, 1) := by decide +kernel
theorem dX9_bitsOf_42 : decode cX9_bitsOf 42 = .ok (.fcmp .g, 1) := by decide +kernel
theorem dX9_bitsOf_43 : decode cX9_bitsOf 43 = .ok (.ifCond .ge 13, 3) := by decide +kernel
theorem dX9_bitsOf_46 : decode cX9_bitsOf 46 = .ok (.fload_n 1, 1) := by decide +kernel
theorem dX9_bitsOf_47 : decode cX9_bitsOf 47 = .ok (.fconst 2, 1) := by decide +kernel
theorem dX9_bitsOf_48 : decode cX9_bitsOf 48 = .ok (.fmul, 1) := by decide +kernel
theorem dX9_bitsOf_49 : decode cX9_bitsOf 49 = .ok (.fstore_n 1, 1) := by decide +kernel
theorem dX9_bitsOf_50 : decode cX9_bitsOf 50 = .ok (.iinc 2 (-1), 3) := by decide +kernel
theorem dX9_bitsOf_53 : decode cX9_bitsOf 53 = .ok (.goto (-13), 3) := by decide +kernel
theorem dX9_bitsOf_56 : decode cX9_bitsOf 56 = .ok (.iload_n 2, 1) := by decide +kernel
theorem dX9_bitsOf_57 : decode cX9_bitsOf 57 = .ok (.bipush 23, 2) := by decide +kernel
theorem dX9_bitsOf_59 : decode cX9_bitsOf 59 = .ok (.ishl, 1) := by decide +kernel
theorem dX9_bitsOf_60 : decode cX9_bitsOf 60 = .ok (.fload_n 1, 1) := by decide +kernel
theorem dX9_bitsOf_61 : decode cX9_bitsOf 61 = .ok (.fconst 1, 1) := by decide +kernel
theorem dX9_bitsOf_62 : decode cX9_bitsOf 62 = .ok (.fsub, 1) := by decide +kernel
theorem dX9_bitsOf_63 : decode cX9_bitsOf 63 = .ok (.ldc 120, 2) := by decide +kernel
theorem dX9_bitsOf_65 : decode cX9_bitsOf 65 = .ok (.fmul, 1) := by decide +kernel
theorem dX9_bitsOf_66 : decode cX9_bitsOf 66 = .ok (.f2i, 1) := by decide +kernel
theorem dX9_bitsOf_67 : decode cX9_bitsOf 67 = .ok (.iadd, 1) := by decide +kernel
theorem dX9_bitsOf_68 : decode cX9_bitsOf 68 = .ok (.istore_n 3, 1) := by decide +kernel
theorem dX9_bitsOf_69 : decode cX9_bitsOf 69 = .ok (.fload_n 0, 1) := by decide +kernel
theorem dX9_bitsOf_70 : decode cX9_bitsOf 70 = .ok (.fconst 0, 1) := by decide +kernel
theorem dX9_bitsOf_71 : decode cX9_bitsOf 71 = .ok (.fcmp .g, 1) := by decide +kernel
theorem dX9_bitsOf_72 : decode cX9_bitsOf 72 = .ok (.ifCond .ge 10, 3) := by decide +kernel
theorem dX9_bitsOf_75 : decode cX9_bitsOf 75 = .ok (.iload_n 3, 1) := by decide +kernel
theorem dX9_bitsOf_76 : decode cX9_bitsOf 76 = .ok (.ldc 121, 2) := by decide +kernel
theorem dX9_bitsOf_78 : decode cX9_bitsOf 78 = .ok (.ior, 1) := by decide +kernel
theorem dX9_bitsOf_79 : decode cX9_bitsOf 79 = .ok (.goto 4, 3) := by decide +kernel
theorem dX9_bitsOf_82 : decode cX9_bitsOf 82 = .ok (.iload_n 3, 1) := by decide +kernel
theorem dX9_bitsOf_83 : decode cX9_bitsOf 83 = .ok (.ireturn, 1) := by decide +kernel
set_option maxRecDepth 20000 in
theorem ggX9_mean_X9_isPane : GoodIn wsX9_mean wsX9_isPane := goodIn_r _ [7, 8, 9, 10, 6, 11, 33, 34, 35, 36, 37, 38, 39, 40] (by decide +kernel) (by decide +kernel)
set_option maxRecDepth 20000 in
theorem gX9_mean_X9_isPane : GoodIn wsX9_mean (wsV RX9 113 RX9 yX9_isPane wsX9_isPane) := goodIn_app (goodIn_of _ (by decide +kernel)) ggX9_mean_X9_isPane
set_option maxRecDepth 20000 in
theorem ggX9_mean_X9_sumOf : GoodIn wsX9_mean wsX9_sumOf := goodIn_r _ [15, 16, 17, 18, 6, 19, 20, 21, 22, 23, 8, 9, 10, 11, 24, 25, 26, 27, 33, 34, 35, 36, 37, 38, 39, 40] (by decide +kernel) (by decide +kernel)
set_option maxRecDepth 20000 in
theorem gX9_mean_X9_sumOf : GoodIn wsX9_mean (wsV RX9 63 RX9 yX9_sumOf wsX9_sumOf) := goodIn_app (goodIn_of _ (by decide +kernel)) ggX9_mean_X9_sumOf
set_option maxRecDepth 20000 in
theorem ggX9_mean_X9_bitsOf : GoodIn wsX9_mean wsX9_bitsOf := goodIn_r _ [30, 31, 32] (by decide +kernel) (by decide +kernel)
set_option maxRecDepth 20000 in
theorem gX9_mean_X9_bitsOf : GoodIn wsX9_mean (va_wsS RX9 122 yX9_bitsOf wsX9_bitsOf) := goodIn_app (goodIn_of _ (by decide +kernel)) ggX9_mean_X9_bitsOf
theorem dX9_mean_0 : decode cX9_mean 0 = .ok (.aload_n 0, 1) := by decide +kernel
theorem dX9_mean_1 : decode cX9_mean 1 = .ok (.iload_n 1, 1) := by decide +kernel
theorem dX9_mean_2 : decode cX9_mean 2 = .ok (.invokevirtual 113, 3) := by decide +kernel
theorem dX9_mean_5 : decode cX9_mean 5 = .ok (.ifCond .ne 6, 3) := by decide +kernel
theorem dX9_mean_8 : decode cX9_mean 8 = .ok (.ldc 31, 2) := by decide +kernel
theorem dX9_mean_10 : decode cX9_mean 10 = .ok (.ireturn, 1) := by decide +kernel
theorem dX9_mean_11 : decode cX9_mean 11 = .ok (.aload_n 0, 1) := by decide +kernel
theorem dX9_mean_12 : decode cX9_mean 12 = .ok (.iload_n 1, 1) := by decide +kernel
theorem dX9_mean_13 : decode cX9_mean 13 = .ok (.iconst 0, 1) := by decide +kernel
theorem dX9_mean_14 : decode cX9_mean 14 = .ok (.invokevirtual 63, 3) := by decide +kernel
theorem dX9_mean_17 : decode cX9_mean 17 = .ok (.istore_n 2, 1) := by decide +kernel
theorem dX9_mean_18 : decode cX9_mean 18 = .ok (.iload_n 2, 1) := by decide +kernel
theorem dX9_mean_19 : decode cX9_mean 19 = .ok (.ifCond .ne 8, 3) := by decide +kernel
theorem dX9_mean_22 : decode cX9_mean 22 = .ok (.ldc 119, 2) := by decide +kernel
theorem dX9_mean_24 : decode cX9_mean 24 = .ok (.goto 16, 3) := by decide +kernel
theorem dX9_mean_27 : decode cX9_mean 27 = .ok (.aload_n 0, 1) := by decide +kernel
theorem dX9_mean_28 : decode cX9_mean 28 = .ok (.iload_n 1, 1) := by decide +kernel
theorem dX9_mean_29 : decode cX9_mean 29 = .ok (.iconst 1, 1) := by decide +kernel
theorem dX9_mean_30 : decode cX9_mean 30 = .ok (.invokevirtual 63, 3) := by decide +kernel
theorem dX9_mean_33 : decode cX9_mean 33 = .ok (.i2f, 1) := by decide +kernel
theorem dX9_mean_34 : decode cX9_mean 34 = .ok (.iload_n 2, 1) := by decide +kernel
theorem dX9_mean_35 : decode cX9_mean 35 = .ok (.i2f, 1) := by decide +kernel
theorem dX9_mean_36 : decode cX9_mean 36 = .ok (.fdiv, 1) := by decide +kernel
theorem dX9_mean_37 : decode cX9_mean 37 = .ok (.invokestatic 122, 3) := by decide +kernel
theorem dX9_mean_40 : decode cX9_mean 40 = .ok (.ireturn, 1) := by decide +kernel
set_option maxRecDepth 20000 in
theorem ggX9_standing_X9_isPane : GoodIn wsX9_standing wsX9_isPane := goodIn_r _ [7, 8, 9, 10, 6, 11, 20, 21, 22, 23, 24, 25, 26, 27] (by decide +kernel) (by decide +kernel)
set_option maxRecDepth 20000 in
theorem gX9_standing_X9_isPane : GoodIn wsX9_standing (wsV RX9 113 RX9 yX9_isPane wsX9_isPane) := goodIn_app (goodIn_of _ (by decide +kernel)) ggX9_standing_X9_isPane
set_option maxRecDepth 20000 in
theorem ggX9_standing_X9_isIn : GoodIn wsX9_standing wsX9_isIn := goodIn_r _ [11] (by decide +kernel) (by decide +kernel)
set_option maxRecDepth 20000 in
theorem gX9_standing_X9_isIn : GoodIn wsX9_standing (va_wsS RX9 27 yX9_isIn wsX9_isIn) := goodIn_app (goodIn_of _ (by decide +kernel)) ggX9_standing_X9_isIn
set_option maxRecDepth 20000 in
theorem ggX9_standing_X9_find : GoodIn wsX9_standing wsX9_find := goodIn_r _ [15, 8, 16, 17, 18, 6, 19, 20, 21, 22, 23, 24, 25, 26, 27] (by decide +kernel) (by decide +kernel)
set_option maxRecDepth 20000 in
theorem gX9_standing_X9_find : GoodIn wsX9_standing (wsV RX9 39 RX9 yX9_find wsX9_find) := goodIn_app (goodIn_of _ (by decide +kernel)) ggX9_standing_X9_find
set_option maxRecDepth 20000 in
theorem ggX9_standing_X9_ofP : GoodIn wsX9_standing wsX9_ofP := goodIn_r _ [19, 8, 20, 21, 22, 23, 24, 25, 26, 27] (by decide +kernel) (by decide +kernel)
set_option maxRecDepth 20000 in
theorem gX9_standing_X9_ofP : GoodIn wsX9_standing (wsV RX9 35 RX9 yX9_ofP wsX9_ofP) := goodIn_app (goodIn_of _ (by decide +kernel)) ggX9_standing_X9_ofP
theorem dX9_standing_0 : decode cX9_standing 0 = .ok (.aload_n 0, 1) := by decide +kernel
theorem dX9_standing_1 : decode cX9_standing 1 = .ok (.iload_n 1, 1) := by decide +kernel
theorem dX9_standing_2 : decode cX9_standing 2 = .ok (.invokevirtual 113, 3) := by decide +kernel
theorem dX9_standing_5 : decode cX9_standing 5 = .ok (.ifCond .eq 12, 3) := by decide +kernel
theorem dX9_standing_8 : decode cX9_standing 8 = .ok (.iload_n 2, 1) := by decide +kernel
theorem dX9_standing_9 : decode cX9_standing 9 = .ok (.iconst 0, 1) := by decide +kernel
theorem dX9_standing_10 : decode cX9_standing 10 = .ok (.iconst 1, 1) := by decide +kernel
theorem dX9_standing_11 : decode cX9_standing 11 = .ok (.invokestatic 27, 3) := by decide +kernel
theorem dX9_standing_14 : decode cX9_standing 14 = .ok (.ifCond .ne 6, 3) := by decide +kernel
theorem dX9_standing_17 : decode cX9_standing 17 = .ok (.ldc 31, 2) := by decide +kernel
theorem dX9_standing_19 : decode cX9_standing 19 = .ok (.ireturn, 1) := by decide +kernel
theorem dX9_standing_20 : decode cX9_standing 20 = .ok (.aload_n 0, 1) := by decide +kernel
theorem dX9_standing_21 : decode cX9_standing 21 = .ok (.iload_n 1, 1) := by decide +kernel
theorem dX9_standing_22 : decode cX9_standing 22 = .ok (.invokevirtual 39, 3) := by decide +kernel
theorem dX9_standing_25 : decode cX9_standing 25 = .ok (.istore_n 3, 1) := by decide +kernel
theorem dX9_standing_26 : decode cX9_standing 26 = .ok (.iload_n 3, 1) := by decide +kernel
theorem dX9_standing_27 : decode cX9_standing 27 = .ok (.ifCond .lt 12, 3) := by decide +kernel
theorem dX9_standing_30 : decode cX9_standing 30 = .ok (.aload_n 0, 1) := by decide +kernel
theorem dX9_standing_31 : decode cX9_standing 31 = .ok (.iload_n 3, 1) := by decide +kernel
theorem dX9_standing_32 : decode cX9_standing 32 = .ok (.iconst 5, 1) := by decide +kernel
theorem dX9_standing_33 : decode cX9_standing 33 = .ok (.invokevirtual 35, 3) := by decide +kernel
theorem dX9_standing_36 : decode cX9_standing 36 = .ok (.ifCond .ne 8, 3) := by decide +kernel
theorem dX9_standing_39 : decode cX9_standing 39 = .ok (.ldc 119, 2) := by decide +kernel
theorem dX9_standing_41 : decode cX9_standing 41 = .ok (.goto 12, 3) := by decide +kernel
theorem dX9_standing_44 : decode cX9_standing 44 = .ok (.aload_n 0, 1) := by decide +kernel
theorem dX9_standing_45 : decode cX9_standing 45 = .ok (.iload_n 3, 1) := by decide +kernel
theorem dX9_standing_46 : decode cX9_standing 46 = .ok (.bipush 6, 2) := by decide +kernel
theorem dX9_standing_48 : decode cX9_standing 48 = .ok (.iload_n 2, 1) := by decide +kernel
theorem dX9_standing_49 : decode cX9_standing 49 = .ok (.iadd, 1) := by decide +kernel
theorem dX9_standing_50 : decode cX9_standing 50 = .ok (.invokevirtual 35, 3) := by decide +kernel
theorem dX9_standing_53 : decode cX9_standing 53 = .ok (.ireturn, 1) := by decide +kernel
set_option maxRecDepth 20000 in
theorem ggX9_nextPane_X9_isIn : GoodIn wsX9_nextPane wsX9_isIn := goodIn_r _ [6] (by decide +kernel) (by decide +kernel)
set_option maxRecDepth 20000 in
theorem gX9_nextPane_X9_isIn : GoodIn wsX9_nextPane (va_wsS RX9 27 yX9_isIn wsX9_isIn) := goodIn_app (goodIn_of _ (by decide +kernel)) ggX9_nextPane_X9_isIn
set_option maxRecDepth 20000 in
theorem ggX9_nextPane_X9_nextKept : GoodIn wsX9_nextPane wsX9_nextKept := goodIn_r _ [10, 11, 12, 13, 14, 5, 15, 32, 33, 34, 35, 36, 37, 38, 39] (by decide +kernel) (by decide +kernel)
set_option maxRecDepth 20000 in
theorem gX9_nextPane_X9_nextKept : GoodIn wsX9_nextPane (wsV RX9 70 RX9 yX9_nextKept wsX9_nextKept) := goodIn_app (goodIn_of _ (by decide +kernel)) ggX9_nextPane_X9_nextKept
set_option maxRecDepth 20000 in
theorem ggX9_nextPane_X9_ofP : GoodIn wsX9_nextPane wsX9_ofP := goodIn_r _ [15, 11, 32, 33, 34, 35, 36, 37, 38, 39] (by decide +kernel) (by decide +kernel)
set_option maxRecDepth 20000 in
theorem gX9_nextPane_X9_ofP : GoodIn wsX9_nextPane (wsV RX9 35 RX9 yX9_ofP wsX9_ofP) := goodIn_app (goodIn_of _ (by decide +kernel)) ggX9_nextPane_X9_ofP
set_option maxRecDepth 20000 in
theorem ggX9_nextPane_X9_sumOf : GoodIn wsX9_nextPane wsX9_sumOf := goodIn_r _ [19, 20, 21, 22, 5, 23, 24, 25, 26, 27, 11, 3, 4, 6, 28, 29, 30, 31, 32, 33, 34, 35, 36, 37, 38, 39] (by decide +kernel) (by decide +kernel)
set_option maxRecDepth 20000 in
theorem gX9_nextPane_X9_sumOf : GoodIn wsX9_nextPane (wsV RX9 63 RX9 yX9_sumOf wsX9_sumOf) := goodIn_app (goodIn_of _ (by decide +kernel)) ggX9_nextPane_X9_sumOf
theorem dX9_nextPane_0 : decode cX9_nextPane 0 = .ok (.iload_n 1, 1) := by decide +kernel
theorem dX9_nextPane_1 : decode cX9_nextPane 1 = .ok (.iconst (-1), 1) := by decide +kernel
theorem dX9_nextPane_2 : decode cX9_nextPane 2 = .ok (.sipush 1999, 3) := by decide +kernel
theorem dX9_nextPane_5 : decode cX9_nextPane 5 = .ok (.invokestatic 27, 3) := by decide +kernel
theorem dX9_nextPane_8 : decode cX9_nextPane 8 = .ok (.ifCond .ne 6, 3) := by decide +kernel
theorem dX9_nextPane_11 : decode cX9_nextPane 11 = .ok (.ldc 31, 2) := by decide +kernel
theorem dX9_nextPane_13 : decode cX9_nextPane 13 = .ok (.ireturn, 1) := by decide +kernel
theorem dX9_nextPane_14 : decode cX9_nextPane 14 = .ok (.aload_n 0, 1) := by decide +kernel
theorem dX9_nextPane_15 : decode cX9_nextPane 15 = .ok (.iload_n 1, 1) := by decide +kernel
theorem dX9_nextPane_16 : decode cX9_nextPane 16 = .ok (.invokevirtual 70, 3) := by decide +kernel
theorem dX9_nextPane_19 : decode cX9_nextPane 19 = .ok (.istore_n 2, 1) := by decide +kernel
theorem dX9_nextPane_20 : decode cX9_nextPane 20 = .ok (.iload_n 2, 1) := by decide +kernel
theorem dX9_nextPane_21 : decode cX9_nextPane 21 = .ok (.ifCond .lt 30, 3) := by decide +kernel
theorem dX9_nextPane_24 : decode cX9_nextPane 24 = .ok (.aload_n 0, 1) := by decide +kernel
theorem dX9_nextPane_25 : decode cX9_nextPane 25 = .ok (.iload_n 2, 1) := by decide +kernel
theorem dX9_nextPane_26 : decode cX9_nextPane 26 = .ok (.iconst 0, 1) := by decide +kernel
theorem dX9_nextPane_27 : decode cX9_nextPane 27 = .ok (.invokevirtual 35, 3) := by decide +kernel
theorem dX9_nextPane_30 : decode cX9_nextPane 30 = .ok (.istore_n 3, 1) := by decide +kernel
theorem dX9_nextPane_31 : decode cX9_nextPane 31 = .ok (.aload_n 0, 1) := by decide +kernel
theorem dX9_nextPane_32 : decode cX9_nextPane 32 = .ok (.iload_n 3, 1) := by decide +kernel
theorem dX9_nextPane_33 : decode cX9_nextPane 33 = .ok (.iconst 0, 1) := by decide +kernel
theorem dX9_nextPane_34 : decode cX9_nextPane 34 = .ok (.invokevirtual 63, 3) := by decide +kernel
theorem dX9_nextPane_37 : decode cX9_nextPane 37 = .ok (.ifCond .le 5, 3) := by decide +kernel
theorem dX9_nextPane_40 : decode cX9_nextPane 40 = .ok (.iload_n 3, 1) := by decide +kernel
theorem dX9_nextPane_41 : decode cX9_nextPane 41 = .ok (.ireturn, 1) := by decide +kernel
theorem dX9_nextPane_42 : decode cX9_nextPane 42 = .ok (.aload_n 0, 1) := by decide +kernel
theorem dX9_nextPane_43 : decode cX9_nextPane 43 = .ok (.iload_n 3, 1) := by decide +kernel
theorem dX9_nextPane_44 : decode cX9_nextPane 44 = .ok (.invokevirtual 70, 3) := by decide +kernel
theorem dX9_nextPane_47 : decode cX9_nextPane 47 = .ok (.istore_n 2, 1) := by decide +kernel
theorem dX9_nextPane_48 : decode cX9_nextPane 48 = .ok (.goto (-28), 3) := by decide +kernel
theorem dX9_nextPane_51 : decode cX9_nextPane 51 = .ok (.ldc 119, 2) := by decide +kernel
theorem dX9_nextPane_53 : decode cX9_nextPane 53 = .ok (.ireturn, 1) := by decide +kernel
set_option maxRecDepth 20000 in
theorem ggX9_wordAt_X9_isIn : GoodIn wsX9_wordAt wsX9_isIn := goodIn_r _ [7] (by decide +kernel) (by decide +kernel)
set_option maxRecDepth 20000 in
theorem gX9_wordAt_X9_isIn : GoodIn wsX9_wordAt (va_wsS RX9 27 yX9_isIn wsX9_isIn) := goodIn_app (goodIn_of _ (by decide +kernel)) ggX9_wordAt_X9_isIn
theorem dX9_wordAt_0 : decode cX9_wordAt 0 = .ok (.iload_n 1, 1) := by decide +kernel
theorem dX9_wordAt_1 : decode cX9_wordAt 1 = .ok (.ifCond .lt 12, 3) := by decide +kernel
theorem dX9_wordAt_4 : decode cX9_wordAt 4 = .ok (.iload_n 2, 1) := by decide +kernel
theorem dX9_wordAt_5 : decode cX9_wordAt 5 = .ok (.iconst 0, 1) := by decide +kernel
theorem dX9_wordAt_6 : decode cX9_wordAt 6 = .ok (.iconst 3, 1) := by decide +kernel
theorem dX9_wordAt_7 : decode cX9_wordAt 7 = .ok (.invokestatic 27, 3) := by decide +kernel
theorem dX9_wordAt_10 : decode cX9_wordAt 10 = .ok (.ifCond .ne 6, 3) := by decide +kernel
theorem dX9_wordAt_13 : decode cX9_wordAt 13 = .ok (.ldc 31, 2) := by decide +kernel
theorem dX9_wordAt_15 : decode cX9_wordAt 15 = .ok (.ireturn, 1) := by decide +kernel
theorem dX9_wordAt_16 : decode cX9_wordAt 16 = .ok (.iload_n 1, 1) := by decide +kernel
theorem dX9_wordAt_17 : decode cX9_wordAt 17 = .ok (.aload_n 0, 1) := by decide +kernel
theorem dX9_wordAt_18 : decode cX9_wordAt 18 = .ok (.getfield 7, 3) := by decide +kernel
theorem dX9_wordAt_21 : decode cX9_wordAt 21 = .ok (.bipush 9, 2) := by decide +kernel
theorem dX9_wordAt_23 : decode cX9_wordAt 23 = .ok (.iaload, 1) := by decide +kernel
theorem dX9_wordAt_24 : decode cX9_wordAt 24 = .ok (.if_icmp .ge 20, 3) := by decide +kernel
theorem dX9_wordAt_27 : decode cX9_wordAt 27 = .ok (.aload_n 0, 1) := by decide +kernel
theorem dX9_wordAt_28 : decode cX9_wordAt 28 = .ok (.getfield 7, 3) := by decide +kernel
theorem dX9_wordAt_31 : decode cX9_wordAt 31 = .ok (.sipush 908, 3) := by decide +kernel
theorem dX9_wordAt_34 : decode cX9_wordAt 34 = .ok (.iconst 4, 1) := by decide +kernel
theorem dX9_wordAt_35 : decode cX9_wordAt 35 = .ok (.iload_n 1, 1) := by decide +kernel
theorem dX9_wordAt_36 : decode cX9_wordAt 36 = .ok (.imul, 1) := by decide +kernel
theorem dX9_wordAt_37 : decode cX9_wordAt 37 = .ok (.iadd, 1) := by decide +kernel
theorem dX9_wordAt_38 : decode cX9_wordAt 38 = .ok (.iload_n 2, 1) := by decide +kernel
theorem dX9_wordAt_39 : decode cX9_wordAt 39 = .ok (.iadd, 1) := by decide +kernel
theorem dX9_wordAt_40 : decode cX9_wordAt 40 = .ok (.iaload, 1) := by decide +kernel
theorem dX9_wordAt_41 : decode cX9_wordAt 41 = .ok (.goto 5, 3) := by decide +kernel
theorem dX9_wordAt_44 : decode cX9_wordAt 44 = .ok (.ldc 119, 2) := by decide +kernel
theorem dX9_wordAt_46 : decode cX9_wordAt 46 = .ok (.ireturn, 1) := by decide +kernel
set_option maxRecDepth 20000 in
theorem ggX9_eventOf_X9_isIn : GoodIn wsX9_eventOf wsX9_isIn := goodIn_r _ [6] (by decide +kernel) (by decide +kernel)
set_option maxRecDepth 20000 in
theorem gX9_eventOf_X9_isIn : GoodIn wsX9_eventOf (va_wsS RX9 27 yX9_isIn wsX9_isIn) := goodIn_app (goodIn_of _ (by decide +kernel)) ggX9_eventOf_X9_isIn
set_option maxRecDepth 20000 in
theorem ggX9_eventOf_X9_ofE : GoodIn wsX9_eventOf wsX9_ofE := goodIn_r _ [10, 11, 16, 17, 18, 19, 20, 21, 22, 23] (by decide +kernel) (by decide +kernel)
set_option maxRecDepth 20000 in
theorem gX9_eventOf_X9_ofE : GoodIn wsX9_eventOf (wsV RX9 53 RX9 yX9_ofE wsX9_ofE) := goodIn_app (goodIn_of _ (by decide +kernel)) ggX9_eventOf_X9_ofE
set_option maxRecDepth 20000 in
theorem ggX9_eventOf_X9_paneAt : GoodIn wsX9_eventOf wsX9_paneAt := goodIn_r _ [15, 11, 16, 17, 18, 19, 20, 21, 22, 23] (by decide +kernel) (by decide +kernel)
set_option maxRecDepth 20000 in
theorem gX9_eventOf_X9_paneAt : GoodIn wsX9_eventOf (wsV RX9 60 RX9 yX9_paneAt wsX9_paneAt) := goodIn_app (goodIn_of _ (by decide +kernel)) ggX9_eventOf_X9_paneAt
theorem dX9_eventOf_0 : decode cX9_eventOf 0 = .ok (.iload_n 1, 1) := by decide +kernel
theorem dX9_eventOf_1 : decode cX9_eventOf 1 = .ok (.iconst 0, 1) := by decide +kernel
theorem dX9_eventOf_2 : decode cX9_eventOf 2 = .ok (.bipush 63, 2) := by decide +kernel
theorem dX9_eventOf_4 : decode cX9_eventOf 4 = .ok (.invokestatic 27, 3) := by decide +kernel
theorem dX9_eventOf_7 : decode cX9_eventOf 7 = .ok (.ifCond .eq 12, 3) := by decide +kernel
theorem dX9_eventOf_10 : decode cX9_eventOf 10 = .ok (.iload_n 2, 1) := by decide +kernel
theorem dX9_eventOf_11 : decode cX9_eventOf 11 = .ok (.iconst 0, 1) := by decide +kernel
theorem dX9_eventOf_12 : decode cX9_eventOf 12 = .ok (.iconst 5, 1) := by decide +kernel
theorem dX9_eventOf_13 : decode cX9_eventOf 13 = .ok (.invokestatic 27, 3) := by decide +kernel
theorem dX9_eventOf_16 : decode cX9_eventOf 16 = .ok (.ifCond .ne 6, 3) := by decide +kernel
theorem dX9_eventOf_19 : decode cX9_eventOf 19 = .ok (.ldc 31, 2) := by decide +kernel
theorem dX9_eventOf_21 : decode cX9_eventOf 21 = .ok (.ireturn, 1) := by decide +kernel
theorem dX9_eventOf_22 : decode cX9_eventOf 22 = .ok (.aload_n 0, 1) := by decide +kernel
theorem dX9_eventOf_23 : decode cX9_eventOf 23 = .ok (.iload_n 1, 1) := by decide +kernel
theorem dX9_eventOf_24 : decode cX9_eventOf 24 = .ok (.iconst 0, 1) := by decide +kernel
theorem dX9_eventOf_25 : decode cX9_eventOf 25 = .ok (.invokevirtual 53, 3) := by decide +kernel
theorem dX9_eventOf_28 : decode cX9_eventOf 28 = .ok (.ifCond .ne 6, 3) := by decide +kernel
theorem dX9_eventOf_31 : decode cX9_eventOf 31 = .ok (.ldc 119, 2) := by decide +kernel
theorem dX9_eventOf_33 : decode cX9_eventOf 33 = .ok (.ireturn, 1) := by decide +kernel
theorem dX9_eventOf_34 : decode cX9_eventOf 34 = .ok (.iload_n 2, 1) := by decide +kernel
theorem dX9_eventOf_35 : decode cX9_eventOf 35 = .ok (.iconst 5, 1) := by decide +kernel
theorem dX9_eventOf_36 : decode cX9_eventOf 36 = .ok (.if_icmp .ne 16, 3) := by decide +kernel
theorem dX9_eventOf_39 : decode cX9_eventOf 39 = .ok (.aload_n 0, 1) := by decide +kernel
theorem dX9_eventOf_40 : decode cX9_eventOf 40 = .ok (.aload_n 0, 1) := by decide +kernel
theorem dX9_eventOf_41 : decode cX9_eventOf 41 = .ok (.iload_n 1, 1) := by decide +kernel
theorem dX9_eventOf_42 : decode cX9_eventOf 42 = .ok (.iconst 1, 1) := by decide +kernel
theorem dX9_eventOf_43 : decode cX9_eventOf 43 = .ok (.invokevirtual 53, 3) := by decide +kernel
theorem dX9_eventOf_46 : decode cX9_eventOf 46 = .ok (.invokevirtual 60, 3) := by decide +kernel
theorem dX9_eventOf_49 : decode cX9_eventOf 49 = .ok (.goto 11, 3) := by decide +kernel
theorem dX9_eventOf_52 : decode cX9_eventOf 52 = .ok (.aload_n 0, 1) := by decide +kernel
theorem dX9_eventOf_53 : decode cX9_eventOf 53 = .ok (.iload_n 1, 1) := by decide +kernel
theorem dX9_eventOf_54 : decode cX9_eventOf 54 = .ok (.iload_n 2, 1) := by decide +kernel
theorem dX9_eventOf_55 : decode cX9_eventOf 55 = .ok (.iconst 1, 1) := by decide +kernel
theorem dX9_eventOf_56 : decode cX9_eventOf 56 = .ok (.iadd, 1) := by decide +kernel
theorem dX9_eventOf_57 : decode cX9_eventOf 57 = .ok (.invokevirtual 53, 3) := by decide +kernel
theorem dX9_eventOf_60 : decode cX9_eventOf 60 = .ok (.ireturn, 1) := by decide +kernel
set_option maxRecDepth 20000 in
theorem ggX9_judge_X9_isEvent : GoodIn wsX9_judge wsX9_isEvent := goodIn_r _ [5, 6, 7, 4, 8] (by decide +kernel) (by decide +kernel)
set_option maxRecDepth 20000 in
theorem gX9_judge_X9_isEvent : GoodIn wsX9_judge (va_wsS RX9 105 yX9_isEvent wsX9_isEvent) := goodIn_app (goodIn_of _ (by decide +kernel)) ggX9_judge_X9_isEvent
set_option maxRecDepth 20000 in
theorem ggX9_judge_X9_judgeOf : GoodIn wsX9_judge wsX9_judgeOf := goodIn_r _ [12, 13, 14, 15, 4, 16, 17, 18, 19, 20, 21, 22, 23, 24, 25, 26, 27, 28, 29, 30, 31, 32, 33, 34, 35, 36, 37, 38, 39, 40, 41, 42, 43, 44, 45, 46, 47, 48, 49, 50, 51, 52, 53, 54, 55, 56, 57, 58, 59, 60, 61, 62, 63, 64, 65] (by decide +kernel) (by decide +kernel)
set_option maxRecDepth 20000 in
theorem gX9_judge_X9_judgeOf : GoodIn wsX9_judge (wsV RX9 92 RX9 yX9_judgeOf wsX9_judgeOf) := goodIn_app (goodIn_of _ (by decide +kernel)) ggX9_judge_X9_judgeOf
theorem dX9_judge_0 : decode cX9_judge 0 = .ok (.iconst 0, 1) := by decide +kernel
theorem dX9_judge_1 : decode cX9_judge 1 = .ok (.iload_n 1, 1) := by decide +kernel
theorem dX9_judge_2 : decode cX9_judge 2 = .ok (.iload_n 2, 1) := by decide +kernel
theorem dX9_judge_3 : decode cX9_judge 3 = .ok (.iconst 0, 1) := by decide +kernel
theorem dX9_judge_4 : decode cX9_judge 4 = .ok (.iload_n 3, 1) := by decide +kernel
theorem dX9_judge_5 : decode cX9_judge 5 = .ok (.invokestatic 105, 3) := by decide +kernel
theorem dX9_judge_8 : decode cX9_judge 8 = .ok (.ifCond .eq 13, 3) := by decide +kernel
theorem dX9_judge_11 : decode cX9_judge 11 = .ok (.aload_n 0, 1) := by decide +kernel
theorem dX9_judge_12 : decode cX9_judge 12 = .ok (.iload_n 1, 1) := by decide +kernel
theorem dX9_judge_13 : decode cX9_judge 13 = .ok (.iload_n 2, 1) := by decide +kernel
theorem dX9_judge_14 : decode cX9_judge 14 = .ok (.iload_n 3, 1) := by decide +kernel
theorem dX9_judge_15 : decode cX9_judge 15 = .ok (.invokevirtual 92, 3) := by decide +kernel
theorem dX9_judge_18 : decode cX9_judge 18 = .ok (.goto 5, 3) := by decide +kernel
theorem dX9_judge_21 : decode cX9_judge 21 = .ok (.ldc 31, 2) := by decide +kernel
theorem dX9_judge_23 : decode cX9_judge 23 = .ok (.ireturn, 1) := by decide +kernel
set_option maxRecDepth 20000 in
theorem ggX9_lateness_X9_isIn : GoodIn wsX9_lateness wsX9_isIn := goodIn_r _ [7] (by decide +kernel) (by decide +kernel)
set_option maxRecDepth 20000 in
theorem gX9_lateness_X9_isIn : GoodIn wsX9_lateness (va_wsS RX9 27 yX9_isIn wsX9_isIn) := goodIn_app (goodIn_of _ (by decide +kernel)) ggX9_lateness_X9_isIn
set_option maxRecDepth 20000 in
theorem ggX9_lateness_X9_paneAt : GoodIn wsX9_lateness wsX9_paneAt := goodIn_r _ [11, 2, 32, 33, 34, 35, 36, 37, 38, 39] (by decide +kernel) (by decide +kernel)
set_option maxRecDepth 20000 in
theorem gX9_lateness_X9_paneAt : GoodIn wsX9_lateness (wsV RX9 60 RX9 yX9_paneAt wsX9_paneAt) := goodIn_app (goodIn_of _ (by decide +kernel)) ggX9_lateness_X9_paneAt
set_option maxRecDepth 20000 in
theorem ggX9_lateness_X9_isShut : GoodIn wsX9_lateness wsX9_isShut := goodIn_r _ [15, 2, 16, 17, 18, 6, 19, 20, 21, 22, 23, 24, 25, 26, 27, 28, 29, 30, 31, 32, 33, 34, 35, 36, 37, 38, 39] (by decide +kernel) (by decide +kernel)
set_option maxRecDepth 20000 in
theorem gX9_lateness_X9_isShut : GoodIn wsX9_lateness (wsV RX9 83 RX9 yX9_isShut wsX9_isShut) := goodIn_app (goodIn_of _ (by decide +kernel)) ggX9_lateness_X9_isShut
set_option maxRecDepth 20000 in
theorem ggX9_lateness_X9_endOf : GoodIn wsX9_lateness wsX9_endOf := goodIn_r _ [31, 2, 32, 33, 34, 35, 36, 37, 38, 39] (by decide +kernel) (by decide +kernel)
set_option maxRecDepth 20000 in
theorem gX9_lateness_X9_endOf : GoodIn wsX9_lateness (wsV RX9 50 RX9 yX9_endOf wsX9_endOf) := goodIn_app (goodIn_of _ (by decide +kernel)) ggX9_lateness_X9_endOf
theorem dX9_lateness_0 : decode cX9_lateness 0 = .ok (.iload_n 1, 1) := by decide +kernel
theorem dX9_lateness_1 : decode cX9_lateness 1 = .ok (.iconst 0, 1) := by decide +kernel
theorem dX9_lateness_2 : decode cX9_lateness 2 = .ok (.sipush 1999, 3) := by decide +kernel
theorem dX9_lateness_5 : decode cX9_lateness 5 = .ok (.invokestatic 27, 3) := by decide +kernel
theorem dX9_lateness_8 : decode cX9_lateness 8 = .ok (.ifCond .ne 6, 3) := by decide +kernel
theorem dX9_lateness_11 : decode cX9_lateness 11 = .ok (.ldc 31, 2) := by decide +kernel
theorem dX9_lateness_13 : decode cX9_lateness 13 = .ok (.ireturn, 1) := by decide +kernel
theorem dX9_lateness_14 : decode cX9_lateness 14 = .ok (.aload_n 0, 1) := by decide +kernel
theorem dX9_lateness_15 : decode cX9_lateness 15 = .ok (.iload_n 1, 1) := by decide +kernel
theorem dX9_lateness_16 : decode cX9_lateness 16 = .ok (.invokevirtual 60, 3) := by decide +kernel
theorem dX9_lateness_19 : decode cX9_lateness 19 = .ok (.istore_n 2, 1) := by decide +kernel
theorem dX9_lateness_20 : decode cX9_lateness 20 = .ok (.aload_n 0, 1) := by decide +kernel
theorem dX9_lateness_21 : decode cX9_lateness 21 = .ok (.iload_n 2, 1) := by decide +kernel
theorem dX9_lateness_22 : decode cX9_lateness 22 = .ok (.invokevirtual 83, 3) := by decide +kernel
theorem dX9_lateness_25 : decode cX9_lateness 25 = .ok (.ifCond .eq 20, 3) := by decide +kernel
theorem dX9_lateness_28 : decode cX9_lateness 28 = .ok (.aload_n 0, 1) := by decide +kernel
theorem dX9_lateness_29 : decode cX9_lateness 29 = .ok (.getfield 7, 3) := by decide +kernel
theorem dX9_lateness_32 : decode cX9_lateness 32 = .ok (.iconst 0, 1) := by decide +kernel
theorem dX9_lateness_33 : decode cX9_lateness 33 = .ok (.iaload, 1) := by decide +kernel
theorem dX9_lateness_34 : decode cX9_lateness 34 = .ok (.aload_n 0, 1) := by decide +kernel
theorem dX9_lateness_35 : decode cX9_lateness 35 = .ok (.iload_n 2, 1) := by decide +kernel
theorem dX9_lateness_36 : decode cX9_lateness 36 = .ok (.invokevirtual 50, 3) := by decide +kernel
theorem dX9_lateness_39 : decode cX9_lateness 39 = .ok (.isub, 1) := by decide +kernel
theorem dX9_lateness_40 : decode cX9_lateness 40 = .ok (.iconst 1, 1) := by decide +kernel
theorem dX9_lateness_41 : decode cX9_lateness 41 = .ok (.iadd, 1) := by decide +kernel
theorem dX9_lateness_42 : decode cX9_lateness 42 = .ok (.goto 5, 3) := by decide +kernel
theorem dX9_lateness_45 : decode cX9_lateness 45 = .ok (.ldc 119, 2) := by decide +kernel
theorem dX9_lateness_47 : decode cX9_lateness 47 = .ok (.ireturn, 1) := by decide +kernel
set_option maxRecDepth 20000 in
theorem ggX9_latestExcused_X9_isIn : GoodIn wsX9_latestExcused wsX9_isIn := goodIn_r _ [6] (by decide +kernel) (by decide +kernel)
set_option maxRecDepth 20000 in
theorem gX9_latestExcused_X9_isIn : GoodIn wsX9_latestExcused (va_wsS RX9 27 yX9_isIn wsX9_isIn) := goodIn_app (goodIn_of _ (by decide +kernel)) ggX9_latestExcused_X9_isIn
set_option maxRecDepth 20000 in
theorem ggX9_latestExcused_X9_paneAt : GoodIn wsX9_latestExcused wsX9_paneAt := goodIn_r _ [10, 11, 44, 45, 46, 47, 48, 49, 50, 51] (by decide +kernel) (by decide +kernel)
set_option maxRecDepth 20000 in
theorem gX9_latestExcused_X9_paneAt : GoodIn wsX9_latestExcused (wsV RX9 60 RX9 yX9_paneAt wsX9_paneAt) := goodIn_app (goodIn_of _ (by decide +kernel)) ggX9_latestExcused_X9_paneAt
set_option maxRecDepth 20000 in
theorem ggX9_latestExcused_X9_isShut : GoodIn wsX9_latestExcused wsX9_isShut := goodIn_r _ [15, 11, 16, 17, 18, 5, 19, 20, 21, 22, 23, 24, 25, 26, 27, 28, 29, 30, 31, 44, 45, 46, 47, 48, 49, 50, 51] (by decide +kernel) (by decide +kernel)
set_option maxRecDepth 20000 in
theorem gX9_latestExcused_X9_isShut : GoodIn wsX9_latestExcused (wsV RX9 83 RX9 yX9_isShut wsX9_isShut) := goodIn_app (goodIn_of _ (by decide +kernel)) ggX9_latestExcused_X9_isShut
set_option maxRecDepth 20000 in
theorem ggX9_latestExcused_X9_isExcuse : GoodIn wsX9_latestExcused wsX9_isExcuse := goodIn_r _ [35, 11, 7, 8, 9, 5, 10, 28, 29, 30, 31, 36, 37, 38, 39, 40, 41, 42, 43, 44, 45, 46, 47, 48, 49, 50, 51] (by decide +kernel) (by decide +kernel)
set_option maxRecDepth 20000 in
theorem gX9_latestExcused_X9_isExcuse : GoodIn wsX9_latestExcused (wsV RX9 86 RX9 yX9_isExcuse wsX9_isExcuse) := goodIn_app (goodIn_of _ (by decide +kernel)) ggX9_latestExcused_X9_isExcuse
theorem dX9_latestExcused_0 : decode cX9_latestExcused 0 = .ok (.iload_n 1, 1) := by decide +kernel
theorem dX9_latestExcused_1 : decode cX9_latestExcused 1 = .ok (.iconst 0, 1) := by decide +kernel
theorem dX9_latestExcused_2 : decode cX9_latestExcused 2 = .ok (.iconst 5, 1) := by decide +kernel
theorem dX9_latestExcused_3 : decode cX9_latestExcused 3 = .ok (.invokestatic 27, 3) := by decide +kernel
theorem dX9_latestExcused_6 : decode cX9_latestExcused 6 = .ok (.ifCond .eq 12, 3) := by decide +kernel
theorem dX9_latestExcused_9 : decode cX9_latestExcused 9 = .ok (.iload_n 2, 1) := by decide +kernel
theorem dX9_latestExcused_10 : decode cX9_latestExcused 10 = .ok (.iconst 1, 1) := by decide +kernel
theorem dX9_latestExcused_11 : decode cX9_latestExcused 11 = .ok (.iconst 3, 1) := by decide +kernel
theorem dX9_latestExcused_12 : decode cX9_latestExcused 12 = .ok (.invokestatic 27, 3) := by decide +kernel
theorem dX9_latestExcused_15 : decode cX9_latestExcused 15 = .ok (.ifCond .ne 6, 3) := by decide +kernel
theorem dX9_latestExcused_18 : decode cX9_latestExcused 18 = .ok (.ldc 31, 2) := by decide +kernel
theorem dX9_latestExcused_20 : decode cX9_latestExcused 20 = .ok (.ireturn, 1) := by decide +kernel
theorem dX9_latestExcused_21 : decode cX9_latestExcused 21 = .ok (.sipush 1999, 3) := by decide +kernel
theorem dX9_latestExcused_24 : decode cX9_latestExcused 24 = .ok (.istore_n 3, 1) := by decide +kernel
theorem dX9_latestExcused_25 : decode cX9_latestExcused 25 = .ok (.iload_n 3, 1) := by decide +kernel
theorem dX9_latestExcused_26 : decode cX9_latestExcused 26 = .ok (.ifCond .lt 33, 3) := by decide +kernel
theorem dX9_latestExcused_29 : decode cX9_latestExcused 29 = .ok (.aload_n 0, 1) := by decide +kernel
theorem dX9_latestExcused_30 : decode cX9_latestExcused 30 = .ok (.aload_n 0, 1) := by decide +kernel
theorem dX9_latestExcused_31 : decode cX9_latestExcused 31 = .ok (.iload_n 3, 1) := by decide +kernel
theorem dX9_latestExcused_32 : decode cX9_latestExcused 32 = .ok (.invokevirtual 60, 3) := by decide +kernel
theorem dX9_latestExcused_35 : decode cX9_latestExcused 35 = .ok (.invokevirtual 83, 3) := by decide +kernel
theorem dX9_latestExcused_38 : decode cX9_latestExcused 38 = .ok (.ifCond .eq 15, 3) := by decide +kernel
theorem dX9_latestExcused_41 : decode cX9_latestExcused 41 = .ok (.aload_n 0, 1) := by decide +kernel
theorem dX9_latestExcused_42 : decode cX9_latestExcused 42 = .ok (.iload_n 3, 1) := by decide +kernel
theorem dX9_latestExcused_43 : decode cX9_latestExcused 43 = .ok (.iload_n 1, 1) := by decide +kernel
theorem dX9_latestExcused_44 : decode cX9_latestExcused 44 = .ok (.iload_n 2, 1) := by decide +kernel
theorem dX9_latestExcused_45 : decode cX9_latestExcused 45 = .ok (.invokevirtual 86, 3) := by decide +kernel
theorem dX9_latestExcused_48 : decode cX9_latestExcused 48 = .ok (.ifCond .eq 5, 3) := by decide +kernel
theorem dX9_latestExcused_51 : decode cX9_latestExcused 51 = .ok (.iload_n 3, 1) := by decide +kernel
theorem dX9_latestExcused_52 : decode cX9_latestExcused 52 = .ok (.ireturn, 1) := by decide +kernel
theorem dX9_latestExcused_53 : decode cX9_latestExcused 53 = .ok (.iinc 3 (-1), 3) := by decide +kernel
theorem dX9_latestExcused_56 : decode cX9_latestExcused 56 = .ok (.goto (-31), 3) := by decide +kernel
theorem dX9_latestExcused_59 : decode cX9_latestExcused 59 = .ok (.ldc 119, 2) := by decide +kernel
theorem dX9_latestExcused_61 : decode cX9_latestExcused 61 = .ok (.ireturn, 1) := by decide +kernel
set_option maxRecDepth 20000 in
theorem ggX9_filed_X9_isIn : GoodIn wsX9_filed wsX9_isIn := goodIn_r _ [7] (by decide +kernel) (by decide +kernel)
set_option maxRecDepth 20000 in
theorem gX9_filed_X9_isIn : GoodIn wsX9_filed (va_wsS RX9 27 yX9_isIn wsX9_isIn) := goodIn_app (goodIn_of _ (by decide +kernel)) ggX9_filed_X9_isIn
theorem dX9_filed_0 : decode cX9_filed 0 = .ok (.iload_n 1, 1) := by decide +kernel
theorem dX9_filed_1 : decode cX9_filed 1 = .ok (.iconst 0, 1) := by decide +kernel
theorem dX9_filed_2 : decode cX9_filed 2 = .ok (.iconst 2, 1) := by decide +kernel
theorem dX9_filed_3 : decode cX9_filed 3 = .ok (.invokestatic 27, 3) := by decide +kernel
theorem dX9_filed_6 : decode cX9_filed 6 = .ok (.ifCond .eq 12, 3) := by decide +kernel
theorem dX9_filed_9 : decode cX9_filed 9 = .ok (.iload_n 2, 1) := by decide +kernel
theorem dX9_filed_10 : decode cX9_filed 10 = .ok (.iconst 0, 1) := by decide +kernel
theorem dX9_filed_11 : decode cX9_filed 11 = .ok (.iconst 3, 1) := by decide +kernel
theorem dX9_filed_12 : decode cX9_filed 12 = .ok (.invokestatic 27, 3) := by decide +kernel
theorem dX9_filed_15 : decode cX9_filed 15 = .ok (.ifCond .ne 6, 3) := by decide +kernel
theorem dX9_filed_18 : decode cX9_filed 18 = .ok (.ldc 31, 2) := by decide +kernel
theorem dX9_filed_20 : decode cX9_filed 20 = .ok (.ireturn, 1) := by decide +kernel
theorem dX9_filed_21 : decode cX9_filed 21 = .ok (.aload_n 0, 1) := by decide +kernel
theorem dX9_filed_22 : decode cX9_filed 22 = .ok (.getfield 7, 3) := by decide +kernel
theorem dX9_filed_25 : decode cX9_filed 25 = .ok (.sipush 1068, 3) := by decide +kernel
theorem dX9_filed_28 : decode cX9_filed 28 = .ok (.iconst 4, 1) := by decide +kernel
theorem dX9_filed_29 : decode cX9_filed 29 = .ok (.iload_n 1, 1) := by decide +kernel
theorem dX9_filed_30 : decode cX9_filed 30 = .ok (.imul, 1) := by decide +kernel
theorem dX9_filed_31 : decode cX9_filed 31 = .ok (.iadd, 1) := by decide +kernel
theorem dX9_filed_32 : decode cX9_filed 32 = .ok (.iload_n 2, 1) := by decide +kernel
theorem dX9_filed_33 : decode cX9_filed 33 = .ok (.iadd, 1) := by decide +kernel
theorem dX9_filed_34 : decode cX9_filed 34 = .ok (.iaload, 1) := by decide +kernel
theorem dX9_filed_35 : decode cX9_filed 35 = .ok (.istore_n 3, 1) := by decide +kernel
theorem dX9_filed_36 : decode cX9_filed 36 = .ok (.iload_n 3, 1) := by decide +kernel
theorem dX9_filed_37 : decode cX9_filed 37 = .ok (.ifCond .ne 8, 3) := by decide +kernel
theorem dX9_filed_40 : decode cX9_filed 40 = .ok (.ldc 119, 2) := by decide +kernel
theorem dX9_filed_42 : decode cX9_filed 42 = .ok (.goto 6, 3) := by decide +kernel
theorem dX9_filed_45 : decode cX9_filed 45 = .ok (.iload_n 3, 1) := by decide +kernel
theorem dX9_filed_46 : decode cX9_filed 46 = .ok (.iconst 1, 1) := by decide +kernel
theorem dX9_filed_47 : decode cX9_filed 47 = .ok (.isub, 1) := by decide +kernel
theorem dX9_filed_48 : decode cX9_filed 48 = .ok (.ireturn, 1) := by decide +kernel
set_option maxRecDepth 20000 in
theorem ggX9_trust_X9_isIn : GoodIn wsX9_trust wsX9_isIn := goodIn_r _ [7] (by decide +kernel) (by decide +kernel)
set_option maxRecDepth 20000 in
theorem gX9_trust_X9_isIn : GoodIn wsX9_trust (va_wsS RX9 27 yX9_isIn wsX9_isIn) := goodIn_app (goodIn_of _ (by decide +kernel)) ggX9_trust_X9_isIn
set_option maxRecDepth 20000 in
theorem ggX9_trust_X9_ofE : GoodIn wsX9_trust wsX9_ofE := goodIn_r _ [11, 12, 18, 19, 20, 21, 22, 23, 24, 25] (by decide +kernel) (by decide +kernel)
set_option maxRecDepth 20000 in
theorem gX9_trust_X9_ofE : GoodIn wsX9_trust (wsV RX9 53 RX9 yX9_ofE wsX9_ofE) := goodIn_app (goodIn_of _ (by decide +kernel)) ggX9_trust_X9_ofE
set_option maxRecDepth 20000 in
theorem ggX9_trust_X9_bitsOf : GoodIn wsX9_trust wsX9_bitsOf := goodIn_r _ [15, 16, 17] (by decide +kernel) (by decide +kernel)
set_option maxRecDepth 20000 in
theorem gX9_trust_X9_bitsOf : GoodIn wsX9_trust (va_wsS RX9 122 yX9_bitsOf wsX9_bitsOf) := goodIn_app (goodIn_of _ (by decide +kernel)) ggX9_trust_X9_bitsOf
theorem dX9_trust_0 : decode cX9_trust 0 = .ok (.iload_n 1, 1) := by decide +kernel
theorem dX9_trust_1 : decode cX9_trust 1 = .ok (.iconst 0, 1) := by decide +kernel
theorem dX9_trust_2 : decode cX9_trust 2 = .ok (.iconst 5, 1) := by decide +kernel
theorem dX9_trust_3 : decode cX9_trust 3 = .ok (.invokestatic 27, 3) := by decide +kernel
theorem dX9_trust_6 : decode cX9_trust 6 = .ok (.ifCond .ne 6, 3) := by decide +kernel
theorem dX9_trust_9 : decode cX9_trust 9 = .ok (.ldc 31, 2) := by decide +kernel
theorem dX9_trust_11 : decode cX9_trust 11 = .ok (.ireturn, 1) := by decide +kernel
theorem dX9_trust_12 : decode cX9_trust 12 = .ok (.fconst 0, 1) := by decide +kernel
theorem dX9_trust_13 : decode cX9_trust 13 = .ok (.fstore_n 2, 1) := by decide +kernel
theorem dX9_trust_14 : decode cX9_trust 14 = .ok (.iconst 0, 1) := by decide +kernel
theorem dX9_trust_15 : decode cX9_trust 15 = .ok (.istore_n 3, 1) := by decide +kernel
theorem dX9_trust_16 : decode cX9_trust 16 = .ok (.iconst 0, 1) := by decide +kernel
theorem dX9_trust_17 : decode cX9_trust 17 = .ok (.istore 4, 2) := by decide +kernel
theorem dX9_trust_19 : decode cX9_trust 19 = .ok (.iload 4, 2) := by decide +kernel
theorem dX9_trust_21 : decode cX9_trust 21 = .ok (.bipush 64, 2) := by decide +kernel
theorem dX9_trust_23 : decode cX9_trust 23 = .ok (.if_icmp .ge 68, 3) := by decide +kernel
theorem dX9_trust_26 : decode cX9_trust 26 = .ok (.aload_n 0, 1) := by decide +kernel
theorem dX9_trust_27 : decode cX9_trust 27 = .ok (.iload 4, 2) := by decide +kernel
theorem dX9_trust_29 : decode cX9_trust 29 = .ok (.iconst 0, 1) := by decide +kernel
theorem dX9_trust_30 : decode cX9_trust 30 = .ok (.invokevirtual 53, 3) := by decide +kernel
theorem dX9_trust_33 : decode cX9_trust 33 = .ok (.iconst 1, 1) := by decide +kernel
theorem dX9_trust_34 : decode cX9_trust 34 = .ok (.if_icmp .ne 51, 3) := by decide +kernel
theorem dX9_trust_37 : decode cX9_trust 37 = .ok (.aload_n 0, 1) := by decide +kernel
theorem dX9_trust_38 : decode cX9_trust 38 = .ok (.iload 4, 2) := by decide +kernel
theorem dX9_trust_40 : decode cX9_trust 40 = .ok (.iconst 2, 1) := by decide +kernel
theorem dX9_trust_41 : decode cX9_trust 41 = .ok (.invokevirtual 53, 3) := by decide +kernel
theorem dX9_trust_44 : decode cX9_trust 44 = .ok (.iload_n 1, 1) := by decide +kernel
theorem dX9_trust_45 : decode cX9_trust 45 = .ok (.if_icmp .ne 40, 3) := by decide +kernel
theorem dX9_trust_48 : decode cX9_trust 48 = .ok (.iinc 3 1, 3) := by decide +kernel
theorem dX9_trust_51 : decode cX9_trust 51 = .ok (.fload_n 2, 1) := by decide +kernel
theorem dX9_trust_52 : decode cX9_trust 52 = .ok (.aload_n 0, 1) := by decide +kernel
theorem dX9_trust_53 : decode cX9_trust 53 = .ok (.iload 4, 2) := by decide +kernel
theorem dX9_trust_55 : decode cX9_trust 55 = .ok (.iconst 5, 1) := by decide +kernel
theorem dX9_trust_56 : decode cX9_trust 56 = .ok (.invokevirtual 53, 3) := by decide +kernel
theorem dX9_trust_59 : decode cX9_trust 59 = .ok (.ifCond .ne 7, 3) := by decide +kernel
theorem dX9_trust_62 : decode cX9_trust 62 = .ok (.fconst 1, 1) := by decide +kernel
theorem dX9_trust_63 : decode cX9_trust 63 = .ok (.goto 20, 3) := by decide +kernel
theorem dX9_trust_66 : decode cX9_trust 66 = .ok (.aload_n 0, 1) := by decide +kernel
theorem dX9_trust_67 : decode cX9_trust 67 = .ok (.iload 4, 2) := by decide +kernel
theorem dX9_trust_69 : decode cX9_trust 69 = .ok (.iconst 5, 1) := by decide +kernel
theorem dX9_trust_70 : decode cX9_trust 70 = .ok (.invokevirtual 53, 3) := by decide +kernel
theorem dX9_trust_73 : decode cX9_trust 73 = .ok (.iconst 1, 1) := by decide +kernel
theorem dX9_trust_74 : decode cX9_trust 74 = .ok (.if_icmp .ne 8, 3) := by decide +kernel
theorem dX9_trust_77 : decode cX9_trust 77 = .ok (.ldc 126, 2) := by decide +kernel
theorem dX9_trust_79 : decode cX9_trust 79 = .ok (.goto 4, 3) := by decide +kernel
theorem dX9_trust_82 : decode cX9_trust 82 = .ok (.fconst 0, 1) := by decide +kernel
theorem dX9_trust_83 : decode cX9_trust 83 = .ok (.fadd, 1) := by decide +kernel
theorem dX9_trust_84 : decode cX9_trust 84 = .ok (.fstore_n 2, 1) := by decide +kernel
theorem dX9_trust_85 : decode cX9_trust 85 = .ok (.iinc 4 1, 3) := by decide +kernel
theorem dX9_trust_88 : decode cX9_trust 88 = .ok (.goto (-69), 3) := by decide +kernel
theorem dX9_trust_91 : decode cX9_trust 91 = .ok (.iload_n 3, 1) := by decide +kernel
theorem dX9_trust_92 : decode cX9_trust 92 = .ok (.ifCond .ne 8, 3) := by decide +kernel
theorem dX9_trust_95 : decode cX9_trust 95 = .ok (.ldc 119, 2) := by decide +kernel
theorem dX9_trust_97 : decode cX9_trust 97 = .ok (.goto 10, 3) := by decide +kernel
theorem dX9_trust_100 : decode cX9_trust 100 = .ok (.fload_n 2, 1) := by decide +kernel
theorem dX9_trust_101 : decode cX9_trust 101 = .ok (.iload_n 3, 1) := by decide +kernel
theorem dX9_trust_102 : decode cX9_trust 102 = .ok (.i2f, 1) := by decide +kernel
theorem dX9_trust_103 : decode cX9_trust 103 = .ok (.fdiv, 1) := by decide +kernel
theorem dX9_trust_104 : decode cX9_trust 104 = .ok (.invokestatic 122, 3) := by decide +kernel
theorem dX9_trust_107 : decode cX9_trust 107 = .ok (.ireturn, 1) := by decide +kernel
set_option maxRecDepth 20000 in
theorem ggX9_results_X9_ofE : GoodIn wsX9_results wsX9_ofE := goodIn_r _ [5, 6, 10, 11, 12, 13, 14, 15, 16, 17] (by decide +kernel) (by decide +kernel)
set_option maxRecDepth 20000 in
theorem gX9_results_X9_ofE : GoodIn wsX9_results (wsV RX9 53 RX9 yX9_ofE wsX9_ofE) := goodIn_app (goodIn_of _ (by decide +kernel)) ggX9_results_X9_ofE
set_option maxRecDepth 20000 in
theorem ggX9_results_X9_isIn : GoodIn wsX9_results wsX9_isIn := goodIn_r _ [9] (by decide +kernel) (by decide +kernel)
set_option maxRecDepth 20000 in
theorem gX9_results_X9_isIn : GoodIn wsX9_results (va_wsS RX9 27 yX9_isIn wsX9_isIn) := goodIn_app (goodIn_of _ (by decide +kernel)) ggX9_results_X9_isIn
theorem dX9_results_0 : decode cX9_results 0 = .ok (.iconst 0, 1) := by decide +kernel
theorem dX9_results_1 : decode cX9_results 1 = .ok (.istore_n 3, 1) := by decide +kernel
theorem dX9_results_2 : decode cX9_results 2 = .ok (.iconst 0, 1) := by decide +kernel
theorem dX9_results_3 : decode cX9_results 3 = .ok (.istore 4, 2) := by decide +kernel
theorem dX9_results_5 : decode cX9_results 5 = .ok (.iload 4, 2) := by decide +kernel
theorem dX9_results_7 : decode cX9_results 7 = .ok (.bipush 64, 2) := by decide +kernel
theorem dX9_results_9 : decode cX9_results 9 = .ok (.if_icmp .ge 43, 3) := by decide +kernel
theorem dX9_results_12 : decode cX9_results 12 = .ok (.iload_n 3, 1) := by decide +kernel
theorem dX9_results_13 : decode cX9_results 13 = .ok (.aload_n 0, 1) := by decide +kernel
theorem dX9_results_14 : decode cX9_results 14 = .ok (.iload 4, 2) := by decide +kernel
theorem dX9_results_16 : decode cX9_results 16 = .ok (.iconst 0, 1) := by decide +kernel
theorem dX9_results_17 : decode cX9_results 17 = .ok (.invokevirtual 53, 3) := by decide +kernel
theorem dX9_results_20 : decode cX9_results 20 = .ok (.iconst 1, 1) := by decide +kernel
theorem dX9_results_21 : decode cX9_results 21 = .ok (.if_icmp .ne 22, 3) := by decide +kernel
theorem dX9_results_24 : decode cX9_results 24 = .ok (.aload_n 0, 1) := by decide +kernel
theorem dX9_results_25 : decode cX9_results 25 = .ok (.iload 4, 2) := by decide +kernel
theorem dX9_results_27 : decode cX9_results 27 = .ok (.iconst 5, 1) := by decide +kernel
theorem dX9_results_28 : decode cX9_results 28 = .ok (.invokevirtual 53, 3) := by decide +kernel
theorem dX9_results_31 : decode cX9_results 31 = .ok (.iload_n 1, 1) := by decide +kernel
theorem dX9_results_32 : decode cX9_results 32 = .ok (.iload_n 2, 1) := by decide +kernel
theorem dX9_results_33 : decode cX9_results 33 = .ok (.invokestatic 27, 3) := by decide +kernel
theorem dX9_results_36 : decode cX9_results 36 = .ok (.ifCond .eq 7, 3) := by decide +kernel
theorem dX9_results_39 : decode cX9_results 39 = .ok (.iconst 1, 1) := by decide +kernel
theorem dX9_results_40 : decode cX9_results 40 = .ok (.goto 4, 3) := by decide +kernel
theorem dX9_results_43 : decode cX9_results 43 = .ok (.iconst 0, 1) := by decide +kernel
theorem dX9_results_44 : decode cX9_results 44 = .ok (.iadd, 1) := by decide +kernel
theorem dX9_results_45 : decode cX9_results 45 = .ok (.istore_n 3, 1) := by decide +kernel
theorem dX9_results_46 : decode cX9_results 46 = .ok (.iinc 4 1, 3) := by decide +kernel
theorem dX9_results_49 : decode cX9_results 49 = .ok (.goto (-44), 3) := by decide +kernel
theorem dX9_results_52 : decode cX9_results 52 = .ok (.iload_n 3, 1) := by decide +kernel
theorem dX9_results_53 : decode cX9_results 53 = .ok (.ireturn, 1) := by decide +kernel
set_option maxRecDepth 20000 in
theorem ggX9_cases_X9_ofP : GoodIn wsX9_cases wsX9_ofP := goodIn_r _ [6, 1, 7, 8, 9, 10, 11, 12, 13, 14] (by decide +kernel) (by decide +kernel)
set_option maxRecDepth 20000 in
theorem gX9_cases_X9_ofP : GoodIn wsX9_cases (wsV RX9 35 RX9 yX9_ofP wsX9_ofP) := goodIn_app (goodIn_of _ (by decide +kernel)) ggX9_cases_X9_ofP
theorem dX9_cases_0 : decode cX9_cases 0 = .ok (.iconst 0, 1) := by decide +kernel
theorem dX9_cases_1 : decode cX9_cases 1 = .ok (.istore_n 1, 1) := by decide +kernel
theorem dX9_cases_2 : decode cX9_cases 2 = .ok (.iconst 0, 1) := by decide +kernel
theorem dX9_cases_3 : decode cX9_cases 3 = .ok (.istore_n 2, 1) := by decide +kernel
theorem dX9_cases_4 : decode cX9_cases 4 = .ok (.iload_n 2, 1) := by decide +kernel
theorem dX9_cases_5 : decode cX9_cases 5 = .ok (.aload_n 0, 1) := by decide +kernel
theorem dX9_cases_6 : decode cX9_cases 6 = .ok (.getfield 7, 3) := by decide +kernel
theorem dX9_cases_9 : decode cX9_cases 9 = .ok (.bipush 10, 2) := by decide +kernel
theorem dX9_cases_11 : decode cX9_cases 11 = .ok (.iaload, 1) := by decide +kernel
theorem dX9_cases_12 : decode cX9_cases 12 = .ok (.if_icmp .ge 27, 3) := by decide +kernel
theorem dX9_cases_15 : decode cX9_cases 15 = .ok (.iload_n 1, 1) := by decide +kernel
theorem dX9_cases_16 : decode cX9_cases 16 = .ok (.aload_n 0, 1) := by decide +kernel
theorem dX9_cases_17 : decode cX9_cases 17 = .ok (.iload_n 2, 1) := by decide +kernel
theorem dX9_cases_18 : decode cX9_cases 18 = .ok (.iconst 1, 1) := by decide +kernel
theorem dX9_cases_19 : decode cX9_cases 19 = .ok (.invokevirtual 35, 3) := by decide +kernel
theorem dX9_cases_22 : decode cX9_cases 22 = .ok (.iconst 2, 1) := by decide +kernel
theorem dX9_cases_23 : decode cX9_cases 23 = .ok (.if_icmp .ne 7, 3) := by decide +kernel
theorem dX9_cases_26 : decode cX9_cases 26 = .ok (.iconst 1, 1) := by decide +kernel
theorem dX9_cases_27 : decode cX9_cases 27 = .ok (.goto 4, 3) := by decide +kernel
theorem dX9_cases_30 : decode cX9_cases 30 = .ok (.iconst 0, 1) := by decide +kernel
theorem dX9_cases_31 : decode cX9_cases 31 = .ok (.iadd, 1) := by decide +kernel
theorem dX9_cases_32 : decode cX9_cases 32 = .ok (.istore_n 1, 1) := by decide +kernel
theorem dX9_cases_33 : decode cX9_cases 33 = .ok (.iinc 2 1, 3) := by decide +kernel
theorem dX9_cases_36 : decode cX9_cases 36 = .ok (.goto (-32), 3) := by decide +kernel
theorem dX9_cases_39 : decode cX9_cases 39 = .ok (.iload_n 1, 1) := by decide +kernel
theorem dX9_cases_40 : decode cX9_cases 40 = .ok (.ireturn, 1) := by decide +kernel
set_option maxRecDepth 20000 in
theorem ggX9_count_X9_isIn : GoodIn wsX9_count wsX9_isIn := goodIn_r _ [8] (by decide +kernel) (by decide +kernel)
set_option maxRecDepth 20000 in
theorem gX9_count_X9_isIn : GoodIn wsX9_count (va_wsS RX9 27 yX9_isIn wsX9_isIn) := goodIn_app (goodIn_of _ (by decide +kernel)) ggX9_count_X9_isIn
set_option maxRecDepth 20000 in
theorem ggX9_count_X9_results : GoodIn wsX9_count wsX9_results := goodIn_r _ [12, 13, 14, 15, 7, 16, 1, 5, 6, 8, 25, 26, 27, 28, 29, 30, 31, 32] (by decide +kernel) (by decide +kernel)
set_option maxRecDepth 20000 in
theorem gX9_count_X9_results : GoodIn wsX9_count (wsV RX9 127 RX9 yX9_results wsX9_results) := goodIn_app (goodIn_of _ (by decide +kernel)) ggX9_count_X9_results
set_option maxRecDepth 20000 in
theorem ggX9_count_X9_cases : GoodIn wsX9_count wsX9_cases := goodIn_r _ [20, 1, 21, 22, 23, 7, 24, 25, 26, 27, 28, 29, 30, 31, 32] (by decide +kernel) (by decide +kernel)
set_option maxRecDepth 20000 in
theorem gX9_count_X9_cases : GoodIn wsX9_count (wsV RX9 130 RX9 yX9_cases wsX9_cases) := goodIn_app (goodIn_of _ (by decide +kernel)) ggX9_count_X9_cases
theorem dX9_count_0 : decode cX9_count 0 = .ok (.iload_n 1, 1) := by decide +kernel
theorem dX9_count_1 : decode cX9_count 1 = .ok (.bipush 20, 2) := by decide +kernel
theorem dX9_count_3 : decode cX9_count 3 = .ok (.bipush 22, 2) := by decide +kernel
theorem dX9_count_5 : decode cX9_count 5 = .ok (.invokestatic 27, 3) := by decide +kernel
theorem dX9_count_8 : decode cX9_count 8 = .ok (.ifCond .eq 16, 3) := by decide +kernel
theorem dX9_count_11 : decode cX9_count 11 = .ok (.aload_n 0, 1) := by decide +kernel
theorem dX9_count_12 : decode cX9_count 12 = .ok (.getfield 7, 3) := by decide +kernel
theorem dX9_count_15 : decode cX9_count 15 = .ok (.bipush 6, 2) := by decide +kernel
theorem dX9_count_17 : decode cX9_count 17 = .ok (.iload_n 1, 1) := by decide +kernel
theorem dX9_count_18 : decode cX9_count 18 = .ok (.iadd, 1) := by decide +kernel
theorem dX9_count_19 : decode cX9_count 19 = .ok (.bipush 20, 2) := by decide +kernel
theorem dX9_count_21 : decode cX9_count 21 = .ok (.isub, 1) := by decide +kernel
theorem dX9_count_22 : decode cX9_count 22 = .ok (.iaload, 1) := by decide +kernel
theorem dX9_count_23 : decode cX9_count 23 = .ok (.ireturn, 1) := by decide +kernel
theorem dX9_count_24 : decode cX9_count 24 = .ok (.iload_n 1, 1) := by decide +kernel
theorem dX9_count_25 : decode cX9_count 25 = .ok (.tableswitch 164 0 13 #[71, 78, 85, 92, 99, 106, 113, 120, 128, 135, 142, 147, 154, 159], 71) := by decide +kernel
theorem dX9_count_96 : decode cX9_count 96 = .ok (.aload_n 0, 1) := by decide +kernel
theorem dX9_count_97 : decode cX9_count 97 = .ok (.iconst 0, 1) := by decide +kernel
theorem dX9_count_98 : decode cX9_count 98 = .ok (.iconst 3, 1) := by decide +kernel
theorem dX9_count_99 : decode cX9_count 99 = .ok (.invokevirtual 127, 3) := by decide +kernel
theorem dX9_count_102 : decode cX9_count 102 = .ok (.ireturn, 1) := by decide +kernel
theorem dX9_count_103 : decode cX9_count 103 = .ok (.aload_n 0, 1) := by decide +kernel
theorem dX9_count_104 : decode cX9_count 104 = .ok (.iconst 0, 1) := by decide +kernel
theorem dX9_count_105 : decode cX9_count 105 = .ok (.iconst 1, 1) := by decide +kernel
theorem dX9_count_106 : decode cX9_count 106 = .ok (.invokevirtual 127, 3) := by decide +kernel
theorem dX9_count_109 : decode cX9_count 109 = .ok (.ireturn, 1) := by decide +kernel
theorem dX9_count_110 : decode cX9_count 110 = .ok (.aload_n 0, 1) := by decide +kernel
theorem dX9_count_111 : decode cX9_count 111 = .ok (.iconst 1, 1) := by decide +kernel
theorem dX9_count_112 : decode cX9_count 112 = .ok (.iconst 1, 1) := by decide +kernel
theorem dX9_count_113 : decode cX9_count 113 = .ok (.invokevirtual 127, 3) := by decide +kernel
theorem dX9_count_116 : decode cX9_count 116 = .ok (.ireturn, 1) := by decide +kernel
theorem dX9_count_117 : decode cX9_count 117 = .ok (.aload_n 0, 1) := by decide +kernel
theorem dX9_count_118 : decode cX9_count 118 = .ok (.iconst 2, 1) := by decide +kernel
theorem dX9_count_119 : decode cX9_count 119 = .ok (.iconst 3, 1) := by decide +kernel
theorem dX9_count_120 : decode cX9_count 120 = .ok (.invokevirtual 127, 3) := by decide +kernel
theorem dX9_count_123 : decode cX9_count 123 = .ok (.ireturn, 1) := by decide +kernel
theorem dX9_count_124 : decode cX9_count 124 = .ok (.aload_n 0, 1) := by decide +kernel
theorem dX9_count_125 : decode cX9_count 125 = .ok (.getfield 7, 3) := by decide +kernel
theorem dX9_count_128 : decode cX9_count 128 = .ok (.iconst 5, 1) := by decide +kernel
theorem dX9_count_129 : decode cX9_count 129 = .ok (.iaload, 1) := by decide +kernel
theorem dX9_count_130 : decode cX9_count 130 = .ok (.ireturn, 1) := by decide +kernel
theorem dX9_count_131 : decode cX9_count 131 = .ok (.aload_n 0, 1) := by decide +kernel
theorem dX9_count_132 : decode cX9_count 132 = .ok (.getfield 7, 3) := by decide +kernel
theorem dX9_count_135 : decode cX9_count 135 = .ok (.iconst 0, 1) := by decide +kernel
theorem dX9_count_136 : decode cX9_count 136 = .ok (.iaload, 1) := by decide +kernel
theorem dX9_count_137 : decode cX9_count 137 = .ok (.ireturn, 1) := by decide +kernel
theorem dX9_count_138 : decode cX9_count 138 = .ok (.aload_n 0, 1) := by decide +kernel
theorem dX9_count_139 : decode cX9_count 139 = .ok (.getfield 7, 3) := by decide +kernel
theorem dX9_count_142 : decode cX9_count 142 = .ok (.iconst 1, 1) := by decide +kernel
theorem dX9_count_143 : decode cX9_count 143 = .ok (.iaload, 1) := by decide +kernel
theorem dX9_count_144 : decode cX9_count 144 = .ok (.ireturn, 1) := by decide +kernel
theorem dX9_count_145 : decode cX9_count 145 = .ok (.aload_n 0, 1) := by decide +kernel
theorem dX9_count_146 : decode cX9_count 146 = .ok (.getfield 7, 3) := by decide +kernel
theorem dX9_count_149 : decode cX9_count 149 = .ok (.bipush 9, 2) := by decide +kernel
theorem dX9_count_151 : decode cX9_count 151 = .ok (.iaload, 1) := by decide +kernel
theorem dX9_count_152 : decode cX9_count 152 = .ok (.ireturn, 1) := by decide +kernel
theorem dX9_count_153 : decode cX9_count 153 = .ok (.aload_n 0, 1) := by decide +kernel
theorem dX9_count_154 : decode cX9_count 154 = .ok (.getfield 7, 3) := by decide +kernel
theorem dX9_count_157 : decode cX9_count 157 = .ok (.iconst 3, 1) := by decide +kernel
theorem dX9_count_158 : decode cX9_count 158 = .ok (.iaload, 1) := by decide +kernel
theorem dX9_count_159 : decode cX9_count 159 = .ok (.ireturn, 1) := by decide +kernel
theorem dX9_count_160 : decode cX9_count 160 = .ok (.aload_n 0, 1) := by decide +kernel
theorem dX9_count_161 : decode cX9_count 161 = .ok (.getfield 7, 3) := by decide +kernel
theorem dX9_count_164 : decode cX9_count 164 = .ok (.iconst 4, 1) := by decide +kernel
theorem dX9_count_165 : decode cX9_count 165 = .ok (.iaload, 1) := by decide +kernel
theorem dX9_count_166 : decode cX9_count 166 = .ok (.ireturn, 1) := by decide +kernel
theorem dX9_count_167 : decode cX9_count 167 = .ok (.aload_n 0, 1) := by decide +kernel
theorem dX9_count_168 : decode cX9_count 168 = .ok (.invokevirtual 130, 3) := by decide +kernel
theorem dX9_count_171 : decode cX9_count 171 = .ok (.ireturn, 1) := by decide +kernel
theorem dX9_count_172 : decode cX9_count 172 = .ok (.aload_n 0, 1) := by decide +kernel
theorem dX9_count_173 : decode cX9_count 173 = .ok (.getfield 7, 3) := by decide +kernel
theorem dX9_count_176 : decode cX9_count 176 = .ok (.iconst 2, 1) := by decide +kernel
theorem dX9_count_177 : decode cX9_count 177 = .ok (.iaload, 1) := by decide +kernel
theorem dX9_count_178 : decode cX9_count 178 = .ok (.ireturn, 1) := by decide +kernel
theorem dX9_count_179 : decode cX9_count 179 = .ok (.aload_n 0, 1) := by decide +kernel
theorem dX9_count_180 : decode cX9_count 180 = .ok (.getfield 22, 3) := by decide +kernel
theorem dX9_count_183 : decode cX9_count 183 = .ok (.ireturn, 1) := by decide +kernel
theorem dX9_count_184 : decode cX9_count 184 = .ok (.aload_n 0, 1) := by decide +kernel
theorem dX9_count_185 : decode cX9_count 185 = .ok (.getfield 134, 3) := by decide +kernel
theorem dX9_count_188 : decode cX9_count 188 = .ok (.ireturn, 1) := by decide +kernel
theorem dX9_count_189 : decode cX9_count 189 = .ok (.ldc 31, 2) := by decide +kernel
theorem dX9_count_191 : decode cX9_count 191 = .ok (.ireturn, 1) := by decide +kernel
set_option maxRecDepth 20000 in
theorem ggX9_type_X9_isIn : GoodIn wsX9_type wsX9_isIn := goodIn_r _ [8] (by decide +kernel) (by decide +kernel)
set_option maxRecDepth 20000 in
theorem gX9_type_X9_isIn : GoodIn wsX9_type (va_wsS RX9 27 yX9_isIn wsX9_isIn) := goodIn_app (goodIn_of _ (by decide +kernel)) ggX9_type_X9_isIn
theorem dX9_type_0 : decode cX9_type 0 = .ok (.iload_n 1, 1) := by decide +kernel
theorem dX9_type_1 : decode cX9_type 1 = .ok (.bipush 32, 2) := by decide +kernel
theorem dX9_type_3 : decode cX9_type 3 = .ok (.bipush 126, 2) := by decide +kernel
theorem dX9_type_5 : decode cX9_type 5 = .ok (.invokestatic 27, 3) := by decide +kernel
theorem dX9_type_8 : decode cX9_type 8 = .ok (.ifCond .ne 6, 3) := by decide +kernel
theorem dX9_type_11 : decode cX9_type 11 = .ok (.ldc 31, 2) := by decide +kernel
theorem dX9_type_13 : decode cX9_type 13 = .ok (.ireturn, 1) := by decide +kernel
theorem dX9_type_14 : decode cX9_type 14 = .ok (.aload_n 0, 1) := by decide +kernel
theorem dX9_type_15 : decode cX9_type 15 = .ok (.getfield 134, 3) := by decide +kernel
theorem dX9_type_18 : decode cX9_type 18 = .ok (.bipush 80, 2) := by decide +kernel
theorem dX9_type_20 : decode cX9_type 20 = .ok (.if_icmp .ne 6, 3) := by decide +kernel
theorem dX9_type_23 : decode cX9_type 23 = .ok (.ldc 137, 2) := by decide +kernel
theorem dX9_type_25 : decode cX9_type 25 = .ok (.ireturn, 1) := by decide +kernel
theorem dX9_type_26 : decode cX9_type 26 = .ok (.aload_n 0, 1) := by decide +kernel
theorem dX9_type_27 : decode cX9_type 27 = .ok (.getfield 16, 3) := by decide +kernel
theorem dX9_type_30 : decode cX9_type 30 = .ok (.aload_n 0, 1) := by decide +kernel
theorem dX9_type_31 : decode cX9_type 31 = .ok (.getfield 134, 3) := by decide +kernel
theorem dX9_type_34 : decode cX9_type 34 = .ok (.iload_n 1, 1) := by decide +kernel
theorem dX9_type_35 : decode cX9_type 35 = .ok (.iastore, 1) := by decide +kernel
theorem dX9_type_36 : decode cX9_type 36 = .ok (.aload_n 0, 1) := by decide +kernel
theorem dX9_type_37 : decode cX9_type 37 = .ok (.dup, 1) := by decide +kernel
theorem dX9_type_38 : decode cX9_type 38 = .ok (.getfield 134, 3) := by decide +kernel
theorem dX9_type_41 : decode cX9_type 41 = .ok (.iconst 1, 1) := by decide +kernel
theorem dX9_type_42 : decode cX9_type 42 = .ok (.iadd, 1) := by decide +kernel
theorem dX9_type_43 : decode cX9_type 43 = .ok (.putfield 134, 3) := by decide +kernel
theorem dX9_type_46 : decode cX9_type 46 = .ok (.aload_n 0, 1) := by decide +kernel
theorem dX9_type_47 : decode cX9_type 47 = .ok (.getfield 134, 3) := by decide +kernel
theorem dX9_type_50 : decode cX9_type 50 = .ok (.ireturn, 1) := by decide +kernel
theorem dX9_clearText_0 : decode cX9_clearText 0 = .ok (.aload_n 0, 1) := by decide +kernel
theorem dX9_clearText_1 : decode cX9_clearText 1 = .ok (.getfield 134, 3) := by decide +kernel
theorem dX9_clearText_4 : decode cX9_clearText 4 = .ok (.istore_n 1, 1) := by decide +kernel
theorem dX9_clearText_5 : decode cX9_clearText 5 = .ok (.aload_n 0, 1) := by decide +kernel
theorem dX9_clearText_6 : decode cX9_clearText 6 = .ok (.iconst 0, 1) := by decide +kernel
theorem dX9_clearText_7 : decode cX9_clearText 7 = .ok (.putfield 134, 3) := by decide +kernel
theorem dX9_clearText_10 : decode cX9_clearText 10 = .ok (.iload_n 1, 1) := by decide +kernel
theorem dX9_clearText_11 : decode cX9_clearText 11 = .ok (.ireturn, 1) := by decide +kernel
theorem dX9_passes_0 : decode cX9_passes 0 = .ok (.aload_n 0, 1) := by decide +kernel
theorem dX9_passes_1 : decode cX9_passes 1 = .ok (.getfield 138, 3) := by decide +kernel
theorem dX9_passes_4 : decode cX9_passes 4 = .ok (.aload_n 0, 1) := by decide +kernel
theorem dX9_passes_5 : decode cX9_passes 5 = .ok (.getfield 134, 3) := by decide +kernel
theorem dX9_passes_8 : decode cX9_passes 8 = .ok (.if_icmp .ge 20, 3) := by decide +kernel
theorem dX9_passes_11 : decode cX9_passes 11 = .ok (.aload_n 0, 1) := by decide +kernel
theorem dX9_passes_12 : decode cX9_passes 12 = .ok (.getfield 16, 3) := by decide +kernel
theorem dX9_passes_15 : decode cX9_passes 15 = .ok (.aload_n 0, 1) := by decide +kernel
theorem dX9_passes_16 : decode cX9_passes 16 = .ok (.getfield 138, 3) := by decide +kernel
theorem dX9_passes_19 : decode cX9_passes 19 = .ok (.iaload, 1) := by decide +kernel
theorem dX9_passes_20 : decode cX9_passes 20 = .ok (.iload_n 1, 1) := by decide +kernel
theorem dX9_passes_21 : decode cX9_passes 21 = .ok (.if_icmp .ne 7, 3) := by decide +kernel
theorem dX9_passes_24 : decode cX9_passes 24 = .ok (.iconst 1, 1) := by decide +kernel
theorem dX9_passes_25 : decode cX9_passes 25 = .ok (.goto 4, 3) := by decide +kernel
theorem dX9_passes_28 : decode cX9_passes 28 = .ok (.iconst 0, 1) := by decide +kernel
theorem dX9_passes_29 : decode cX9_passes 29 = .ok (.istore_n 2, 1) := by decide +kernel
theorem dX9_passes_30 : decode cX9_passes 30 = .ok (.aload_n 0, 1) := by decide +kernel
theorem dX9_passes_31 : decode cX9_passes 31 = .ok (.dup, 1) := by decide +kernel
theorem dX9_passes_32 : decode cX9_passes 32 = .ok (.getfield 138, 3) := by decide +kernel
theorem dX9_passes_35 : decode cX9_passes 35 = .ok (.iload_n 2, 1) := by decide +kernel
theorem dX9_passes_36 : decode cX9_passes 36 = .ok (.ifCond .eq 7, 3) := by decide +kernel
theorem dX9_passes_39 : decode cX9_passes 39 = .ok (.iconst 1, 1) := by decide +kernel
theorem dX9_passes_40 : decode cX9_passes 40 = .ok (.goto 4, 3) := by decide +kernel
theorem dX9_passes_43 : decode cX9_passes 43 = .ok (.iconst 0, 1) := by decide +kernel
theorem dX9_passes_44 : decode cX9_passes 44 = .ok (.iadd, 1) := by decide +kernel
theorem dX9_passes_45 : decode cX9_passes 45 = .ok (.putfield 138, 3) := by decide +kernel
theorem dX9_passes_48 : decode cX9_passes 48 = .ok (.iload_n 2, 1) := by decide +kernel
theorem dX9_passes_49 : decode cX9_passes 49 = .ok (.ireturn, 1) := by decide +kernel
set_option maxRecDepth 20000 in
theorem ggX9_passesNumber_X9_isIn : GoodIn wsX9_passesNumber wsX9_isIn := goodIn_r _ [8] (by decide +kernel) (by decide +kernel)
set_option maxRecDepth 20000 in
theorem gX9_passesNumber_X9_isIn : GoodIn wsX9_passesNumber (va_wsS RX9 27 yX9_isIn wsX9_isIn) := goodIn_app (goodIn_of _ (by decide +kernel)) ggX9_passesNumber_X9_isIn
theorem dX9_passesNumber_0 : decode cX9_passesNumber 0 = .ok (.iconst 0, 1) := by decide +kernel
theorem dX9_passesNumber_1 : decode cX9_passesNumber 1 = .ok (.istore_n 1, 1) := by decide +kernel
theorem dX9_passesNumber_2 : decode cX9_passesNumber 2 = .ok (.aload_n 0, 1) := by decide +kernel
theorem dX9_passesNumber_3 : decode cX9_passesNumber 3 = .ok (.iconst 0, 1) := by decide +kernel
theorem dX9_passesNumber_4 : decode cX9_passesNumber 4 = .ok (.putfield 141, 3) := by decide +kernel
theorem dX9_passesNumber_7 : decode cX9_passesNumber 7 = .ok (.aload_n 0, 1) := by decide +kernel
theorem dX9_passesNumber_8 : decode cX9_passesNumber 8 = .ok (.getfield 138, 3) := by decide +kernel
theorem dX9_passesNumber_11 : decode cX9_passesNumber 11 = .ok (.aload_n 0, 1) := by decide +kernel
theorem dX9_passesNumber_12 : decode cX9_passesNumber 12 = .ok (.getfield 134, 3) := by decide +kernel
theorem dX9_passesNumber_15 : decode cX9_passesNumber 15 = .ok (.if_icmp .ge 67, 3) := by decide +kernel
theorem dX9_passesNumber_18 : decode cX9_passesNumber 18 = .ok (.aload_n 0, 1) := by decide +kernel
theorem dX9_passesNumber_19 : decode cX9_passesNumber 19 = .ok (.getfield 16, 3) := by decide +kernel
theorem dX9_passesNumber_22 : decode cX9_passesNumber 22 = .ok (.aload_n 0, 1) := by decide +kernel
theorem dX9_passesNumber_23 : decode cX9_passesNumber 23 = .ok (.getfield 138, 3) := by decide +kernel
theorem dX9_passesNumber_26 : decode cX9_passesNumber 26 = .ok (.iaload, 1) := by decide +kernel
theorem dX9_passesNumber_27 : decode cX9_passesNumber 27 = .ok (.bipush 48, 2) := by decide +kernel
theorem dX9_passesNumber_29 : decode cX9_passesNumber 29 = .ok (.bipush 57, 2) := by decide +kernel
theorem dX9_passesNumber_31 : decode cX9_passesNumber 31 = .ok (.invokestatic 27, 3) := by decide +kernel
theorem dX9_passesNumber_34 : decode cX9_passesNumber 34 = .ok (.ifCond .eq 48, 3) := by decide +kernel
theorem dX9_passesNumber_37 : decode cX9_passesNumber 37 = .ok (.iload_n 1, 1) := by decide +kernel
theorem dX9_passesNumber_38 : decode cX9_passesNumber 38 = .ok (.iconst 5, 1) := by decide +kernel
theorem dX9_passesNumber_39 : decode cX9_passesNumber 39 = .ok (.if_icmp .ge 43, 3) := by decide +kernel
theorem dX9_passesNumber_42 : decode cX9_passesNumber 42 = .ok (.aload_n 0, 1) := by decide +kernel
theorem dX9_passesNumber_43 : decode cX9_passesNumber 43 = .ok (.bipush 10, 2) := by decide +kernel
theorem dX9_passesNumber_45 : decode cX9_passesNumber 45 = .ok (.aload_n 0, 1) := by decide +kernel
theorem dX9_passesNumber_46 : decode cX9_passesNumber 46 = .ok (.getfield 141, 3) := by decide +kernel
theorem dX9_passesNumber_49 : decode cX9_passesNumber 49 = .ok (.imul, 1) := by decide +kernel
theorem dX9_passesNumber_50 : decode cX9_passesNumber 50 = .ok (.aload_n 0, 1) := by decide +kernel
theorem dX9_passesNumber_51 : decode cX9_passesNumber 51 = .ok (.getfield 16, 3) := by decide +kernel
theorem dX9_passesNumber_54 : decode cX9_passesNumber 54 = .ok (.aload_n 0, 1) := by decide +kernel
theorem dX9_passesNumber_55 : decode cX9_passesNumber 55 = .ok (.getfield 138, 3) := by decide +kernel
theorem dX9_passesNumber_58 : decode cX9_passesNumber 58 = .ok (.iaload, 1) := by decide +kernel
theorem dX9_passesNumber_59 : decode cX9_passesNumber 59 = .ok (.iadd, 1) := by decide +kernel
theorem dX9_passesNumber_60 : decode cX9_passesNumber 60 = .ok (.bipush 48, 2) := by decide +kernel
theorem dX9_passesNumber_62 : decode cX9_passesNumber 62 = .ok (.isub, 1) := by decide +kernel
theorem dX9_passesNumber_63 : decode cX9_passesNumber 63 = .ok (.putfield 141, 3) := by decide +kernel
theorem dX9_passesNumber_66 : decode cX9_passesNumber 66 = .ok (.iinc 1 1, 3) := by decide +kernel
theorem dX9_passesNumber_69 : decode cX9_passesNumber 69 = .ok (.aload_n 0, 1) := by decide +kernel
theorem dX9_passesNumber_70 : decode cX9_passesNumber 70 = .ok (.dup, 1) := by decide +kernel
theorem dX9_passesNumber_71 : decode cX9_passesNumber 71 = .ok (.getfield 138, 3) := by decide +kernel
theorem dX9_passesNumber_74 : decode cX9_passesNumber 74 = .ok (.iconst 1, 1) := by decide +kernel
theorem dX9_passesNumber_75 : decode cX9_passesNumber 75 = .ok (.iadd, 1) := by decide +kernel
theorem dX9_passesNumber_76 : decode cX9_passesNumber 76 = .ok (.putfield 138, 3) := by decide +kernel
theorem dX9_passesNumber_79 : decode cX9_passesNumber 79 = .ok (.goto (-72), 3) := by decide +kernel
theorem dX9_passesNumber_82 : decode cX9_passesNumber 82 = .ok (.iload_n 1, 1) := by decide +kernel
theorem dX9_passesNumber_83 : decode cX9_passesNumber 83 = .ok (.iconst 1, 1) := by decide +kernel
theorem dX9_passesNumber_84 : decode cX9_passesNumber 84 = .ok (.iconst 4, 1) := by decide +kernel
theorem dX9_passesNumber_85 : decode cX9_passesNumber 85 = .ok (.invokestatic 27, 3) := by decide +kernel
theorem dX9_passesNumber_88 : decode cX9_passesNumber 88 = .ok (.ireturn, 1) := by decide +kernel
set_option maxRecDepth 20000 in
theorem ggX9_excuseHere_X9_passes : GoodIn wsX9_excuseHere wsX9_passes := goodIn_r _ [5, 6, 7, 8, 9, 10, 11, 12, 13, 14, 15, 16] (by decide +kernel) (by decide +kernel)
set_option maxRecDepth 20000 in
theorem gX9_excuseHere_X9_passes : GoodIn wsX9_excuseHere (wsV RX9 144 RX9 yX9_passes wsX9_passes) := goodIn_app (goodIn_of _ (by decide +kernel)) ggX9_excuseHere_X9_passes
theorem dX9_excuseHere_0 : decode cX9_excuseHere 0 = .ok (.aload_n 0, 1) := by decide +kernel
theorem dX9_excuseHere_1 : decode cX9_excuseHere 1 = .ok (.bipush 110, 2) := by decide +kernel
theorem dX9_excuseHere_3 : decode cX9_excuseHere 3 = .ok (.invokevirtual 144, 3) := by decide +kernel
theorem dX9_excuseHere_6 : decode cX9_excuseHere 6 = .ok (.ifCond .eq 7, 3) := by decide +kernel
theorem dX9_excuseHere_9 : decode cX9_excuseHere 9 = .ok (.iconst 1, 1) := by decide +kernel
theorem dX9_excuseHere_10 : decode cX9_excuseHere 10 = .ok (.goto 30, 3) := by decide +kernel
theorem dX9_excuseHere_13 : decode cX9_excuseHere 13 = .ok (.aload_n 0, 1) := by decide +kernel
theorem dX9_excuseHere_14 : decode cX9_excuseHere 14 = .ok (.bipush 105, 2) := by decide +kernel
theorem dX9_excuseHere_16 : decode cX9_excuseHere 16 = .ok (.invokevirtual 144, 3) := by decide +kernel
theorem dX9_excuseHere_19 : decode cX9_excuseHere 19 = .ok (.ifCond .eq 7, 3) := by decide +kernel
theorem dX9_excuseHere_22 : decode cX9_excuseHere 22 = .ok (.iconst 2, 1) := by decide +kernel
theorem dX9_excuseHere_23 : decode cX9_excuseHere 23 = .ok (.goto 17, 3) := by decide +kernel
theorem dX9_excuseHere_26 : decode cX9_excuseHere 26 = .ok (.aload_n 0, 1) := by decide +kernel
theorem dX9_excuseHere_27 : decode cX9_excuseHere 27 = .ok (.bipush 102, 2) := by decide +kernel
theorem dX9_excuseHere_29 : decode cX9_excuseHere 29 = .ok (.invokevirtual 144, 3) := by decide +kernel
theorem dX9_excuseHere_32 : decode cX9_excuseHere 32 = .ok (.ifCond .eq 7, 3) := by decide +kernel
theorem dX9_excuseHere_35 : decode cX9_excuseHere 35 = .ok (.iconst 3, 1) := by decide +kernel
theorem dX9_excuseHere_36 : decode cX9_excuseHere 36 = .ok (.goto 4, 3) := by decide +kernel
theorem dX9_excuseHere_39 : decode cX9_excuseHere 39 = .ok (.iconst 0, 1) := by decide +kernel
theorem dX9_excuseHere_40 : decode cX9_excuseHere 40 = .ok (.ireturn, 1) := by decide +kernel
set_option maxRecDepth 20000 in
theorem ggX9_passesEvent_X9_passesNumber : GoodIn wsX9_passesEvent wsX9_passesNumber := goodIn_r _ [7, 2, 8, 9, 10, 11, 12, 6, 13, 22, 23, 24, 25, 26, 27, 28, 29] (by decide +kernel) (by decide +kernel)
set_option maxRecDepth 20000 in
theorem gX9_passesEvent_X9_passesNumber : GoodIn wsX9_passesEvent (wsV RX9 147 RX9 yX9_passesNumber wsX9_passesNumber) := goodIn_app (goodIn_of _ (by decide +kernel)) ggX9_passesEvent_X9_passesNumber
set_option maxRecDepth 20000 in
theorem ggX9_passesEvent_X9_passes : GoodIn wsX9_passesEvent wsX9_passes := goodIn_r _ [17, 8, 9, 10, 22, 23, 24, 25, 26, 27, 28, 29] (by decide +kernel) (by decide +kernel)
set_option maxRecDepth 20000 in
theorem gX9_passesEvent_X9_passes : GoodIn wsX9_passesEvent (wsV RX9 144 RX9 yX9_passes wsX9_passes) := goodIn_app (goodIn_of _ (by decide +kernel)) ggX9_passesEvent_X9_passes
set_option maxRecDepth 20000 in
theorem ggX9_passesEvent_X9_excuseHere : GoodIn wsX9_passesEvent wsX9_excuseHere := goodIn_r _ [21, 14, 15, 16, 6, 17, 8, 9, 10, 22, 23, 24, 25, 26, 27, 28, 29] (by decide +kernel) (by decide +kernel)
set_option maxRecDepth 20000 in
theorem gX9_passesEvent_X9_excuseHere : GoodIn wsX9_passesEvent (wsV RX9 151 RX9 yX9_excuseHere wsX9_excuseHere) := goodIn_app (goodIn_of _ (by decide +kernel)) ggX9_passesEvent_X9_excuseHere
theorem dX9_passesEvent_0 : decode cX9_passesEvent 0 = .ok (.iconst 0, 1) := by decide +kernel
theorem dX9_passesEvent_1 : decode cX9_passesEvent 1 = .ok (.istore_n 1, 1) := by decide +kernel
theorem dX9_passesEvent_2 : decode cX9_passesEvent 2 = .ok (.iload_n 1, 1) := by decide +kernel
theorem dX9_passesEvent_3 : decode cX9_passesEvent 3 = .ok (.iconst 3, 1) := by decide +kernel
theorem dX9_passesEvent_4 : decode cX9_passesEvent 4 = .ok (.if_icmp .ge 39, 3) := by decide +kernel
theorem dX9_passesEvent_7 : decode cX9_passesEvent 7 = .ok (.aload_n 0, 1) := by decide +kernel
theorem dX9_passesEvent_8 : decode cX9_passesEvent 8 = .ok (.invokevirtual 147, 3) := by decide +kernel
theorem dX9_passesEvent_11 : decode cX9_passesEvent 11 = .ok (.ifCond .ne 5, 3) := by decide +kernel
theorem dX9_passesEvent_14 : decode cX9_passesEvent 14 = .ok (.iconst 0, 1) := by decide +kernel
theorem dX9_passesEvent_15 : decode cX9_passesEvent 15 = .ok (.ireturn, 1) := by decide +kernel
theorem dX9_passesEvent_16 : decode cX9_passesEvent 16 = .ok (.aload_n 0, 1) := by decide +kernel
theorem dX9_passesEvent_17 : decode cX9_passesEvent 17 = .ok (.getfield 19, 3) := by decide +kernel
theorem dX9_passesEvent_20 : decode cX9_passesEvent 20 = .ok (.iload_n 1, 1) := by decide +kernel
theorem dX9_passesEvent_21 : decode cX9_passesEvent 21 = .ok (.aload_n 0, 1) := by decide +kernel
theorem dX9_passesEvent_22 : decode cX9_passesEvent 22 = .ok (.getfield 141, 3) := by decide +kernel
theorem dX9_passesEvent_25 : decode cX9_passesEvent 25 = .ok (.iastore, 1) := by decide +kernel
theorem dX9_passesEvent_26 : decode cX9_passesEvent 26 = .ok (.aload_n 0, 1) := by decide +kernel
theorem dX9_passesEvent_27 : decode cX9_passesEvent 27 = .ok (.bipush 44, 2) := by decide +kernel
theorem dX9_passesEvent_29 : decode cX9_passesEvent 29 = .ok (.invokevirtual 144, 3) := by decide +kernel
theorem dX9_passesEvent_32 : decode cX9_passesEvent 32 = .ok (.ifCond .ne 5, 3) := by decide +kernel
theorem dX9_passesEvent_35 : decode cX9_passesEvent 35 = .ok (.iconst 0, 1) := by decide +kernel
theorem dX9_passesEvent_36 : decode cX9_passesEvent 36 = .ok (.ireturn, 1) := by decide +kernel
theorem dX9_passesEvent_37 : decode cX9_passesEvent 37 = .ok (.iinc 1 1, 3) := by decide +kernel
theorem dX9_passesEvent_40 : decode cX9_passesEvent 40 = .ok (.goto (-38), 3) := by decide +kernel
theorem dX9_passesEvent_43 : decode cX9_passesEvent 43 = .ok (.aload_n 0, 1) := by decide +kernel
theorem dX9_passesEvent_44 : decode cX9_passesEvent 44 = .ok (.bipush 45, 2) := by decide +kernel
theorem dX9_passesEvent_46 : decode cX9_passesEvent 46 = .ok (.invokevirtual 144, 3) := by decide +kernel
theorem dX9_passesEvent_49 : decode cX9_passesEvent 49 = .ok (.istore_n 1, 1) := by decide +kernel
theorem dX9_passesEvent_50 : decode cX9_passesEvent 50 = .ok (.aload_n 0, 1) := by decide +kernel
theorem dX9_passesEvent_51 : decode cX9_passesEvent 51 = .ok (.invokevirtual 147, 3) := by decide +kernel
theorem dX9_passesEvent_54 : decode cX9_passesEvent 54 = .ok (.ifCond .ne 5, 3) := by decide +kernel
theorem dX9_passesEvent_57 : decode cX9_passesEvent 57 = .ok (.iconst 0, 1) := by decide +kernel
theorem dX9_passesEvent_58 : decode cX9_passesEvent 58 = .ok (.ireturn, 1) := by decide +kernel
theorem dX9_passesEvent_59 : decode cX9_passesEvent 59 = .ok (.aload_n 0, 1) := by decide +kernel
theorem dX9_passesEvent_60 : decode cX9_passesEvent 60 = .ok (.getfield 19, 3) := by decide +kernel
theorem dX9_passesEvent_63 : decode cX9_passesEvent 63 = .ok (.iconst 3, 1) := by decide +kernel
theorem dX9_passesEvent_64 : decode cX9_passesEvent 64 = .ok (.iload_n 1, 1) := by decide +kernel
theorem dX9_passesEvent_65 : decode cX9_passesEvent 65 = .ok (.ifCond .eq 11, 3) := by decide +kernel
theorem dX9_passesEvent_68 : decode cX9_passesEvent 68 = .ok (.aload_n 0, 1) := by decide +kernel
theorem dX9_passesEvent_69 : decode cX9_passesEvent 69 = .ok (.getfield 141, 3) := by decide +kernel
theorem dX9_passesEvent_72 : decode cX9_passesEvent 72 = .ok (.ineg, 1) := by decide +kernel
theorem dX9_passesEvent_73 : decode cX9_passesEvent 73 = .ok (.goto 7, 3) := by decide +kernel
theorem dX9_passesEvent_76 : decode cX9_passesEvent 76 = .ok (.aload_n 0, 1) := by decide +kernel
theorem dX9_passesEvent_77 : decode cX9_passesEvent 77 = .ok (.getfield 141, 3) := by decide +kernel
theorem dX9_passesEvent_80 : decode cX9_passesEvent 80 = .ok (.iastore, 1) := by decide +kernel
theorem dX9_passesEvent_81 : decode cX9_passesEvent 81 = .ok (.aload_n 0, 1) := by decide +kernel
theorem dX9_passesEvent_82 : decode cX9_passesEvent 82 = .ok (.getfield 19, 3) := by decide +kernel
theorem dX9_passesEvent_85 : decode cX9_passesEvent 85 = .ok (.iconst 4, 1) := by decide +kernel
theorem dX9_passesEvent_86 : decode cX9_passesEvent 86 = .ok (.aload_n 0, 1) := by decide +kernel
theorem dX9_passesEvent_87 : decode cX9_passesEvent 87 = .ok (.invokevirtual 151, 3) := by decide +kernel
theorem dX9_passesEvent_90 : decode cX9_passesEvent 90 = .ok (.iastore, 1) := by decide +kernel
theorem dX9_passesEvent_91 : decode cX9_passesEvent 91 = .ok (.aload_n 0, 1) := by decide +kernel
theorem dX9_passesEvent_92 : decode cX9_passesEvent 92 = .ok (.bipush 59, 2) := by decide +kernel
theorem dX9_passesEvent_94 : decode cX9_passesEvent 94 = .ok (.invokevirtual 144, 3) := by decide +kernel
theorem dX9_passesEvent_97 : decode cX9_passesEvent 97 = .ok (.ireturn, 1) := by decide +kernel
set_option maxRecDepth 20000 in
theorem ggX9_faultOf_X9_passesEvent : GoodIn wsX9_faultOf wsX9_passesEvent := goodIn_r _ [8, 3, 9, 10, 11, 12, 7, 13, 1, 2, 14, 15, 16, 17, 18, 19, 20, 21, 22, 23, 24, 25, 29, 30, 31, 32, 33, 34, 35, 36] (by decide +kernel) (by decide +kernel)
set_option maxRecDepth 20000 in
theorem gX9_faultOf_X9_passesEvent : GoodIn wsX9_faultOf (wsV RX9 154 RX9 yX9_passesEvent wsX9_passesEvent) := goodIn_app (goodIn_of _ (by decide +kernel)) ggX9_faultOf_X9_passesEvent
set_option maxRecDepth 20000 in
theorem ggX9_faultOf_X9_isEvent : GoodIn wsX9_faultOf wsX9_isEvent := goodIn_r _ [28, 15, 16, 7, 17] (by decide +kernel) (by decide +kernel)
set_option maxRecDepth 20000 in
theorem gX9_faultOf_X9_isEvent : GoodIn wsX9_faultOf (va_wsS RX9 105 yX9_isEvent wsX9_isEvent) := goodIn_app (goodIn_of _ (by decide +kernel)) ggX9_faultOf_X9_isEvent
theorem dX9_faultOf_0 : decode cX9_faultOf 0 = .ok (.aload_n 0, 1) := by decide +kernel
theorem dX9_faultOf_1 : decode cX9_faultOf 1 = .ok (.iconst 0, 1) := by decide +kernel
theorem dX9_faultOf_2 : decode cX9_faultOf 2 = .ok (.putfield 138, 3) := by decide +kernel
theorem dX9_faultOf_5 : decode cX9_faultOf 5 = .ok (.aload_n 0, 1) := by decide +kernel
theorem dX9_faultOf_6 : decode cX9_faultOf 6 = .ok (.getfield 138, 3) := by decide +kernel
theorem dX9_faultOf_9 : decode cX9_faultOf 9 = .ok (.aload_n 0, 1) := by decide +kernel
theorem dX9_faultOf_10 : decode cX9_faultOf 10 = .ok (.getfield 134, 3) := by decide +kernel
theorem dX9_faultOf_13 : decode cX9_faultOf 13 = .ok (.if_icmp .ge 66, 3) := by decide +kernel
theorem dX9_faultOf_16 : decode cX9_faultOf 16 = .ok (.aload_n 0, 1) := by decide +kernel
theorem dX9_faultOf_17 : decode cX9_faultOf 17 = .ok (.getfield 138, 3) := by decide +kernel
theorem dX9_faultOf_20 : decode cX9_faultOf 20 = .ok (.istore_n 1, 1) := by decide +kernel
theorem dX9_faultOf_21 : decode cX9_faultOf 21 = .ok (.aload_n 0, 1) := by decide +kernel
theorem dX9_faultOf_22 : decode cX9_faultOf 22 = .ok (.invokevirtual 154, 3) := by decide +kernel
theorem dX9_faultOf_25 : decode cX9_faultOf 25 = .ok (.ifCond .ne 9, 3) := by decide +kernel
theorem dX9_faultOf_28 : decode cX9_faultOf 28 = .ok (.sipush 1000, 3) := by decide +kernel
theorem dX9_faultOf_31 : decode cX9_faultOf 31 = .ok (.iload_n 1, 1) := by decide +kernel
theorem dX9_faultOf_32 : decode cX9_faultOf 32 = .ok (.iadd, 1) := by decide +kernel
theorem dX9_faultOf_33 : decode cX9_faultOf 33 = .ok (.ireturn, 1) := by decide +kernel
theorem dX9_faultOf_34 : decode cX9_faultOf 34 = .ok (.aload_n 0, 1) := by decide +kernel
theorem dX9_faultOf_35 : decode cX9_faultOf 35 = .ok (.getfield 19, 3) := by decide +kernel
theorem dX9_faultOf_38 : decode cX9_faultOf 38 = .ok (.iconst 0, 1) := by decide +kernel
theorem dX9_faultOf_39 : decode cX9_faultOf 39 = .ok (.iaload, 1) := by decide +kernel
theorem dX9_faultOf_40 : decode cX9_faultOf 40 = .ok (.aload_n 0, 1) := by decide +kernel
theorem dX9_faultOf_41 : decode cX9_faultOf 41 = .ok (.getfield 19, 3) := by decide +kernel
theorem dX9_faultOf_44 : decode cX9_faultOf 44 = .ok (.iconst 1, 1) := by decide +kernel
theorem dX9_faultOf_45 : decode cX9_faultOf 45 = .ok (.iaload, 1) := by decide +kernel
theorem dX9_faultOf_46 : decode cX9_faultOf 46 = .ok (.aload_n 0, 1) := by decide +kernel
theorem dX9_faultOf_47 : decode cX9_faultOf 47 = .ok (.getfield 19, 3) := by decide +kernel
theorem dX9_faultOf_50 : decode cX9_faultOf 50 = .ok (.iconst 2, 1) := by decide +kernel
theorem dX9_faultOf_51 : decode cX9_faultOf 51 = .ok (.iaload, 1) := by decide +kernel
theorem dX9_faultOf_52 : decode cX9_faultOf 52 = .ok (.aload_n 0, 1) := by decide +kernel
theorem dX9_faultOf_53 : decode cX9_faultOf 53 = .ok (.getfield 19, 3) := by decide +kernel
theorem dX9_faultOf_56 : decode cX9_faultOf 56 = .ok (.iconst 3, 1) := by decide +kernel
theorem dX9_faultOf_57 : decode cX9_faultOf 57 = .ok (.iaload, 1) := by decide +kernel
theorem dX9_faultOf_58 : decode cX9_faultOf 58 = .ok (.aload_n 0, 1) := by decide +kernel
theorem dX9_faultOf_59 : decode cX9_faultOf 59 = .ok (.getfield 19, 3) := by decide +kernel
theorem dX9_faultOf_62 : decode cX9_faultOf 62 = .ok (.iconst 4, 1) := by decide +kernel
theorem dX9_faultOf_63 : decode cX9_faultOf 63 = .ok (.iaload, 1) := by decide +kernel
theorem dX9_faultOf_64 : decode cX9_faultOf 64 = .ok (.invokestatic 105, 3) := by decide +kernel
theorem dX9_faultOf_67 : decode cX9_faultOf 67 = .ok (.ifCond .ne 9, 3) := by decide +kernel
theorem dX9_faultOf_70 : decode cX9_faultOf 70 = .ok (.sipush 2000, 3) := by decide +kernel
theorem dX9_faultOf_73 : decode cX9_faultOf 73 = .ok (.iload_n 1, 1) := by decide +kernel
theorem dX9_faultOf_74 : decode cX9_faultOf 74 = .ok (.iadd, 1) := by decide +kernel
theorem dX9_faultOf_75 : decode cX9_faultOf 75 = .ok (.ireturn, 1) := by decide +kernel
theorem dX9_faultOf_76 : decode cX9_faultOf 76 = .ok (.goto (-71), 3) := by decide +kernel
theorem dX9_faultOf_79 : decode cX9_faultOf 79 = .ok (.iconst (-1), 1) := by decide +kernel
theorem dX9_faultOf_80 : decode cX9_faultOf 80 = .ok (.ireturn, 1) := by decide +kernel
set_option maxRecDepth 20000 in
theorem ggX9_fault_X9_isIn : GoodIn wsX9_fault wsX9_isIn := goodIn_r _ [6] (by decide +kernel) (by decide +kernel)
set_option maxRecDepth 20000 in
theorem gX9_fault_X9_isIn : GoodIn wsX9_fault (va_wsS RX9 27 yX9_isIn wsX9_isIn) := goodIn_app (goodIn_of _ (by decide +kernel)) ggX9_fault_X9_isIn
set_option maxRecDepth 20000 in
theorem ggX9_fault_X9_faultOf : GoodIn wsX9_fault wsX9_faultOf := goodIn_r _ [10, 11, 12, 13, 14, 15, 16, 5, 17, 18, 19, 20, 21, 22, 23, 3, 4, 6, 24, 25, 26, 27, 28, 29, 30, 31, 32, 33, 34, 35, 36, 37, 38, 39, 40, 41, 42] (by decide +kernel) (by decide +kernel)
set_option maxRecDepth 20000 in
theorem gX9_fault_X9_faultOf : GoodIn wsX9_fault (wsV RX9 157 RX9 yX9_faultOf wsX9_faultOf) := goodIn_app (goodIn_of _ (by decide +kernel)) ggX9_fault_X9_faultOf
theorem dX9_fault_0 : decode cX9_fault 0 = .ok (.iload_n 1, 1) := by decide +kernel
theorem dX9_fault_1 : decode cX9_fault 1 = .ok (.iconst 0, 1) := by decide +kernel
theorem dX9_fault_2 : decode cX9_fault 2 = .ok (.iconst 1, 1) := by decide +kernel
theorem dX9_fault_3 : decode cX9_fault 3 = .ok (.invokestatic 27, 3) := by decide +kernel
theorem dX9_fault_6 : decode cX9_fault 6 = .ok (.ifCond .ne 6, 3) := by decide +kernel
theorem dX9_fault_9 : decode cX9_fault 9 = .ok (.ldc 31, 2) := by decide +kernel
theorem dX9_fault_11 : decode cX9_fault 11 = .ok (.ireturn, 1) := by decide +kernel
theorem dX9_fault_12 : decode cX9_fault 12 = .ok (.aload_n 0, 1) := by decide +kernel
theorem dX9_fault_13 : decode cX9_fault 13 = .ok (.invokevirtual 157, 3) := by decide +kernel
theorem dX9_fault_16 : decode cX9_fault 16 = .ok (.istore_n 2, 1) := by decide +kernel
theorem dX9_fault_17 : decode cX9_fault 17 = .ok (.iload_n 2, 1) := by decide +kernel
theorem dX9_fault_18 : decode cX9_fault 18 = .ok (.ifCond .ge 6, 3) := by decide +kernel
theorem dX9_fault_21 : decode cX9_fault 21 = .ok (.ldc 119, 2) := by decide +kernel
theorem dX9_fault_23 : decode cX9_fault 23 = .ok (.ireturn, 1) := by decide +kernel
theorem dX9_fault_24 : decode cX9_fault 24 = .ok (.iload_n 1, 1) := by decide +kernel
theorem dX9_fault_25 : decode cX9_fault 25 = .ok (.ifCond .ne 11, 3) := by decide +kernel
theorem dX9_fault_28 : decode cX9_fault 28 = .ok (.iload_n 2, 1) := by decide +kernel
theorem dX9_fault_29 : decode cX9_fault 29 = .ok (.sipush 1000, 3) := by decide +kernel
theorem dX9_fault_32 : decode cX9_fault 32 = .ok (.irem, 1) := by decide +kernel
theorem dX9_fault_33 : decode cX9_fault 33 = .ok (.goto 8, 3) := by decide +kernel
theorem dX9_fault_36 : decode cX9_fault 36 = .ok (.iload_n 2, 1) := by decide +kernel
theorem dX9_fault_37 : decode cX9_fault 37 = .ok (.sipush 1000, 3) := by decide +kernel
theorem dX9_fault_40 : decode cX9_fault 40 = .ok (.idiv, 1) := by decide +kernel
theorem dX9_fault_41 : decode cX9_fault 41 = .ok (.ireturn, 1) := by decide +kernel
set_option maxRecDepth 20000 in
theorem ggX9_play_X9_faultOf : GoodIn wsX9_play wsX9_faultOf := goodIn_r _ [9, 2, 3, 4, 10, 11, 12, 8, 13, 14, 15, 16, 17, 18, 19, 20, 21, 22, 23, 24, 25, 26, 27, 28, 29, 30, 31, 32, 33, 129, 130, 131, 132, 133, 134, 135, 136] (by decide +kernel) (by decide +kernel)
set_option maxRecDepth 20000 in
theorem gX9_play_X9_faultOf : GoodIn wsX9_play (wsV RX9 157 RX9 yX9_faultOf wsX9_faultOf) := goodIn_app (goodIn_of _ (by decide +kernel)) ggX9_play_X9_faultOf
set_option maxRecDepth 20000 in
theorem ggX9_play_X9_records : GoodIn wsX9_play wsX9_records := goodIn_r _ [37, 38, 39, 40, 129, 130, 131, 132, 133, 134, 135, 136] (by decide +kernel) (by decide +kernel)
set_option maxRecDepth 20000 in
theorem gX9_play_X9_records : GoodIn wsX9_play (wsV RX9 32 RX9 yX9_records wsX9_records) := goodIn_app (goodIn_of _ (by decide +kernel)) ggX9_play_X9_records
set_option maxRecDepth 20000 in
theorem ggX9_play_X9_passesEvent : GoodIn wsX9_play wsX9_passesEvent := goodIn_r _ [13, 4, 14, 15, 16, 17, 8, 18, 2, 3, 19, 20, 21, 22, 23, 24, 25, 26, 27, 28, 29, 30, 129, 130, 131, 132, 133, 134, 135, 136] (by decide +kernel) (by decide +kernel)
set_option maxRecDepth 20000 in
theorem gX9_play_X9_passesEvent : GoodIn wsX9_play (wsV RX9 154 RX9 yX9_passesEvent wsX9_passesEvent) := goodIn_app (goodIn_of _ (by decide +kernel)) ggX9_play_X9_passesEvent
set_option maxRecDepth 20000 in
theorem ggX9_play_X9_comes : GoodIn wsX9_play wsX9_comes := goodIn_r _ [44, 40, 45, 46, 47, 8, 48, 49, 50, 51, 52, 53, 54, 55, 56, 57, 58, 59, 60, 61, 62, 63, 64, 65, 66, 67, 68, 69, 70, 71, 72, 73, 74, 75, 76, 77, 78, 79, 80, 81, 82, 83, 84, 85, 86, 87, 88, 89, 90, 91, 92, 93, 94, 95, 96, 97, 98, 99, 100, 101, 102, 103, 104, 105, 106, 107, 108, 109, 110, 111, 112, 113, 114, 115, 116, 117, 118, 119, 120, 121, 122, 123, 124, 125, 126, 127, 128, 20, 21, 22, 129, 130, 131, 132, 133, 134, 135, 136] (by decide +kernel) (by decide +kernel)
set_option maxRecDepth 20000 in
theorem gX9_play_X9_comes : GoodIn wsX9_play (wsV RX9 109 RX9 yX9_comes wsX9_comes) := goodIn_app (goodIn_of _ (by decide +kernel)) ggX9_play_X9_comes
theorem dX9_play_0 : decode cX9_play 0 = .ok (.aload_n 0, 1) := by decide +kernel
theorem dX9_play_1 : decode cX9_play 1 = .ok (.invokevirtual 157, 3) := by decide +kernel
theorem dX9_play_4 : decode cX9_play 4 = .ok (.ifCond .lt 6, 3) := by decide +kernel
theorem dX9_play_7 : decode cX9_play 7 = .ok (.ldc 26, 2) := by decide +kernel
theorem dX9_play_9 : decode cX9_play 9 = .ok (.ireturn, 1) := by decide +kernel
theorem dX9_play_10 : decode cX9_play 10 = .ok (.aload_n 0, 1) := by decide +kernel
theorem dX9_play_11 : decode cX9_play 11 = .ok (.invokevirtual 32, 3) := by decide +kernel
theorem dX9_play_14 : decode cX9_play 14 = .ok (.iconst 0, 1) := by decide +kernel
theorem dX9_play_15 : decode cX9_play 15 = .ok (.istore_n 1, 1) := by decide +kernel
theorem dX9_play_16 : decode cX9_play 16 = .ok (.aload_n 0, 1) := by decide +kernel
theorem dX9_play_17 : decode cX9_play 17 = .ok (.iconst 0, 1) := by decide +kernel
theorem dX9_play_18 : decode cX9_play 18 = .ok (.putfield 138, 3) := by decide +kernel
theorem dX9_play_21 : decode cX9_play 21 = .ok (.aload_n 0, 1) := by decide +kernel
theorem dX9_play_22 : decode cX9_play 22 = .ok (.getfield 138, 3) := by decide +kernel
theorem dX9_play_25 : decode cX9_play 25 = .ok (.aload_n 0, 1) := by decide +kernel
theorem dX9_play_26 : decode cX9_play 26 = .ok (.getfield 134, 3) := by decide +kernel
theorem dX9_play_29 : decode cX9_play 29 = .ok (.if_icmp .ge 61, 3) := by decide +kernel
theorem dX9_play_32 : decode cX9_play 32 = .ok (.aload_n 0, 1) := by decide +kernel
theorem dX9_play_33 : decode cX9_play 33 = .ok (.invokevirtual 154, 3) := by decide +kernel
theorem dX9_play_36 : decode cX9_play 36 = .ok (.istore_n 2, 1) := by decide +kernel
theorem dX9_play_37 : decode cX9_play 37 = .ok (.iload_n 1, 1) := by decide +kernel
theorem dX9_play_38 : decode cX9_play 38 = .ok (.iload_n 2, 1) := by decide +kernel
theorem dX9_play_39 : decode cX9_play 39 = .ok (.ifCond .eq 45, 3) := by decide +kernel
theorem dX9_play_42 : decode cX9_play 42 = .ok (.aload_n 0, 1) := by decide +kernel
theorem dX9_play_43 : decode cX9_play 43 = .ok (.aload_n 0, 1) := by decide +kernel
theorem dX9_play_44 : decode cX9_play 44 = .ok (.getfield 19, 3) := by decide +kernel
theorem dX9_play_47 : decode cX9_play 47 = .ok (.iconst 0, 1) := by decide +kernel
theorem dX9_play_48 : decode cX9_play 48 = .ok (.iaload, 1) := by decide +kernel
theorem dX9_play_49 : decode cX9_play 49 = .ok (.aload_n 0, 1) := by decide +kernel
theorem dX9_play_50 : decode cX9_play 50 = .ok (.getfield 19, 3) := by decide +kernel
theorem dX9_play_53 : decode cX9_play 53 = .ok (.iconst 1, 1) := by decide +kernel
theorem dX9_play_54 : decode cX9_play 54 = .ok (.iaload, 1) := by decide +kernel
theorem dX9_play_55 : decode cX9_play 55 = .ok (.aload_n 0, 1) := by decide +kernel
theorem dX9_play_56 : decode cX9_play 56 = .ok (.getfield 19, 3) := by decide +kernel
theorem dX9_play_59 : decode cX9_play 59 = .ok (.iconst 2, 1) := by decide +kernel
theorem dX9_play_60 : decode cX9_play 60 = .ok (.iaload, 1) := by decide +kernel
theorem dX9_play_61 : decode cX9_play 61 = .ok (.aload_n 0, 1) := by decide +kernel
theorem dX9_play_62 : decode cX9_play 62 = .ok (.getfield 19, 3) := by decide +kernel
theorem dX9_play_65 : decode cX9_play 65 = .ok (.iconst 3, 1) := by decide +kernel
theorem dX9_play_66 : decode cX9_play 66 = .ok (.iaload, 1) := by decide +kernel
theorem dX9_play_67 : decode cX9_play 67 = .ok (.aload_n 0, 1) := by decide +kernel
theorem dX9_play_68 : decode cX9_play 68 = .ok (.getfield 19, 3) := by decide +kernel
theorem dX9_play_71 : decode cX9_play 71 = .ok (.iconst 4, 1) := by decide +kernel
theorem dX9_play_72 : decode cX9_play 72 = .ok (.iaload, 1) := by decide +kernel
theorem dX9_play_73 : decode cX9_play 73 = .ok (.invokevirtual 109, 3) := by decide +kernel
theorem dX9_play_76 : decode cX9_play 76 = .ok (.iconst 2, 1) := by decide +kernel
theorem dX9_play_77 : decode cX9_play 77 = .ok (.if_icmp .ge 7, 3) := by decide +kernel
theorem dX9_play_80 : decode cX9_play 80 = .ok (.iconst 1, 1) := by decide +kernel
theorem dX9_play_81 : decode cX9_play 81 = .ok (.goto 4, 3) := by decide +kernel
theorem dX9_play_84 : decode cX9_play 84 = .ok (.iconst 0, 1) := by decide +kernel
theorem dX9_play_85 : decode cX9_play 85 = .ok (.iadd, 1) := by decide +kernel
theorem dX9_play_86 : decode cX9_play 86 = .ok (.istore_n 1, 1) := by decide +kernel
theorem dX9_play_87 : decode cX9_play 87 = .ok (.goto (-66), 3) := by decide +kernel
theorem dX9_play_90 : decode cX9_play 90 = .ok (.iload_n 1, 1) := by decide +kernel
theorem dX9_play_91 : decode cX9_play 91 = .ok (.ireturn, 1) := by decide +kernel
end
section
/-! contracts of methods that make nothing: a world before, a world behind -/
abbrev kTy : Type := List (ClassId × FieldType)
/-- the calls of private members of nest mates: own class, place, method -/
def kNests : List (String × Nat × MethodName) := [(RX8, 9, yX1_init), (RX8, 18, yX3_init), (RX8, 25, yX6_init), (RX1, 11, yX2_init), (RX1, 20, yX4_init), (RX1, 27, yX0_init), (RX1, 75, yX8_isWithin), (RX3, 22, yX1_init), (RX4, 22, yX7_init), (RX4, 68, yX8_isWithin), (RX6, 41, yX8_isEvent), (RX6, 70, yX8_isWithin)]
/-- LateExcuses reads the text's own fields: place, name -/
def kNestF : List (Nat × String) := [(175, "id"), (179, "time"), (182, "key"), (185, "amount"), (188, "excuse")]
def kE (D : va_G) (ty : kTy) (U : State) : Prop := va_K D vwCl ty U ∧ (∀ q ∈ kNests, va_Nw (.methodLinkNest q.1 q.2.1 q.2.2 RX8) U) ∧ ∀ q ∈ kNestF, va_Nw (.fieldLinkNest RX8 q.1 RX6 q.2 "I" RX8) U
theorem kE.warm {D : va_G} {ty : kTy} {s U : State} (hW : s.WarmedH U.vm) (h : kE D ty s) : kE D ty U := ⟨va_K.moved hW.alike h.1, fun q hq => va_Nw.warmM hW (h.2.1 q hq), fun q hq => va_Nw.warmF hW (h.2.2 q hq)⟩
theorem kE.nest {D : va_G} {ty : kTy} {s : State} (h : kE D ty s) (i : Nat) {q : String × Nat × MethodName} (hi : kNests[i]? = some q) : va_Nw (.methodLinkNest q.1 q.2.1 q.2.2 RX8) s := h.2.1 q (List.mem_of_getElem? hi)
theorem kE.nestF {D : va_G} {ty : kTy} {s : State} (h : kE D ty s) (i : Nat) {q : Nat × String} (hi : kNestF[i]? = some q) : va_Nw (.fieldLinkNest RX8 q.1 RX6 q.2 "I" RX8) s := h.2.2 q (List.mem_of_getElem? hi)
def kPre (D : va_G) (ty : kTy) (sz : Nat) (ws : va_W) : State → Prop := fun U => U.heap.size = sz ∧ va_P D vwCl ws U.heap ∧ kE D ty U ∧ va_D (fun _ => True) ws
abbrev kQi (D : va_G) (sz : Nat) (ws ws' : va_W) (r : Int32) : Array Value → State → Outcome → State → Prop := va_Qi (fun (q : Int32) (_ : Unit) => q = r) (fun _ t => va_P D vwCl ws' t.heap ∧ va_D (va_A ws sz) ws') (va_A ws sz)
abbrev kQv (D : va_G) (sz : Nat) (ws ws' : va_W) : Array Value → State → Outcome → State → Prop := va_Qv (fun (_ : Unit) => True) (fun _ t => va_P D vwCl ws' t.heap ∧ va_D (va_A ws sz) ws') (va_A ws sz)
abbrev kQr (D : va_G) (sz : Nat) (ws ws' : va_W) (a : Nat) : Array Value → State → Outcome → State → Prop := va_Qr (fun (_ : Unit) => True) (fun _ b t => b = a ∧ va_P D vwCl ws' t.heap ∧ va_D (va_A ws sz) ws') (va_A ws sz)
def KI (l : Launch) (D : va_G) (ty : kTy) (y : MethodName) (wm : List Cond) (rm : Room) (av : List Value) (ws ws' : va_W) (r : Int32) : Prop :=
  ∀ sz : Nat, Met l y wm rm (va_Pc av (kPre D ty sz ws)) (kQi D sz ws ws' r) 0 0 (va_A ws sz)
def KV (l : Launch) (D : va_G) (ty : kTy) (y : MethodName) (wm : List Cond) (rm : Room) (av : List Value) (ws ws' : va_W) : Prop :=
  ∀ sz : Nat, Met l y wm rm (va_Pc av (kPre D ty sz ws)) (kQv D sz ws ws') 0 0 (va_A ws sz)
def KR (l : Launch) (D : va_G) (ty : kTy) (y : MethodName) (wm : List Cond) (rm : Room) (av : List Value) (ws ws' : va_W) (a : Nat) : Prop :=
  ∀ sz : Nat, Met l y wm rm (va_Pc av (kPre D ty sz ws)) (kQr D sz ws ws' a) 0 0 (va_A ws sz)
theorem k_setup {D : va_G} {ty : kTy} {ws : va_W} {sz : Nat} {U : State} (h : kPre D ty sz ws U) : ∃ A : Nat → Prop, va_A ws sz = A ∧ (∀ q : Nat, U.heap.size ≤ q → A q) ∧ va_P D vwCl ws U.heap ∧ kE D ty U ∧ va_D A ws ∧ va_S A U.heap U.heap [] := by
  obtain ⟨hsz, hP, hK, hD0⟩ := h
  subst hsz
  exact ⟨_, rfl, fun q hq => Or.inr hq, hP, hK, hD0.self, va_S.rf⟩
theorem KI.of {l : Launch} {D : va_G} {ty : kTy} {y : MethodName} {wm : List Cond} {rm : Room} {av : List Value} {ws ws' : va_W} {r : Int32} {cc : ByteArray} {maxL : Nat} {rt : FieldType} {w0 : List Cond} {own : String}
    (hy : plainName y.cls = true) (hw : wm = Cond.code y cc maxL (some rt) :: w0) (ho : y.cls = own) (hlen : (lg_sl av).length ≤ maxL)
    (body : ∀ (p : Program) (e : Env) (s : State) (m : MethodId) (below : List Frame) (meth : Method) (c : Code) (A : Nat → Prop) (Q : State → Prop) (ls : Array Slot),
      p.tables.exec = Jvm.exec → c.code = cc → c.maxLocals = maxL → s.vm.findClass own = some m.cls → (∀ w ∈ wm, w.before av.toArray s = true) → kE D ty s → (∀ q : Nat, s.heap.size ≤ q → A q) →
      va_P D vwCl ws s.heap → va_D A ws → va_S A s.heap s.heap [] → lv_has ls maxL (lv_args 0 av) →
      (∀ (H : Heap) (locs : List Loc) (pc : Nat) (ls : Array Slot) (v : Int32) (ws9 : va_W), va_P D vwCl ws9 H → va_D A ws9 → va_S A s.heap H locs → decode cc pc = .ok (.ireturn, 1) → narrow rt (.int v) = .int v → ws9 = ws' → v = r →
        W p l e rm s m av.toArray below meth c H locs 0 0 Q (F0 m pc ls [.int v])) →
      W p l e rm s m av.toArray below meth c s.heap [] 0 0 Q (F0 m 0 ls [])) : KI l D ty y wm rm av ws ws' r := by
  intro sz
  refine Met.ofW (cc := cc) (maxL := maxL) (ret := some rt) hy hw ?_
  intro p e s m args below meth c s₁ B hml hv
  obtain ⟨rfl, hpre⟩ := hv
  have hown : s.vm.findClass own = some m.cls := ho ▸ findClass_of_methodNamed B.named
  obtain ⟨A, hAe, hA, hP, hK, hD, hS⟩ := k_setup hpre
  have hl := lv_entry av (n := maxL) hlen
  rw [lg_entry_eq]
  generalize (lg_sl av ++ List.replicate (maxL - (lg_sl av).length) Slot.unset).toArray = ls at hl ⊢
  refine body p e s m below meth c A _ ls B.exec B.bytes hml hown (atoms_spec B.pre) hK hA hP hD hS hl ?_
  intro H locs pc ls v ws9 hP9 hD9 hS9 hdg hn e1 e2
  subst e1; subst e2
  have hlocks := B.notSynchronized
  refine W.zret B.exec B.bytes B.returns hn (fun t ht hW => ⟨⟨v, (), rfl, rfl, by rw [ht]; exact hP9, by rw [hAe]; exact hD9⟩, by rw [hAe]; exact hS9.F ht⟩) (by rw [hAe]; exact hS9.2.2) hdg
theorem KV.of {l : Launch} {D : va_G} {ty : kTy} {y : MethodName} {wm : List Cond} {rm : Room} {av : List Value} {ws ws' : va_W} {cc : ByteArray} {maxL : Nat} {w0 : List Cond} {own : String}
    (hy : plainName y.cls = true) (hw : wm = Cond.code y cc maxL none :: w0) (ho : y.cls = own) (hlen : (lg_sl av).length ≤ maxL)
    (body : ∀ (p : Program) (e : Env) (s : State) (m : MethodId) (below : List Frame) (meth : Method) (c : Code) (A : Nat → Prop) (Q : State → Prop) (ls : Array Slot),
      p.tables.exec = Jvm.exec → c.code = cc → c.maxLocals = maxL → s.vm.findClass own = some m.cls → (∀ w ∈ wm, w.before av.toArray s = true) → kE D ty s → (∀ q : Nat, s.heap.size ≤ q → A q) →
      va_P D vwCl ws s.heap → va_D A ws → va_S A s.heap s.heap [] → lv_has ls maxL (lv_args 0 av) →
      (∀ (H : Heap) (locs : List Loc) (pc : Nat) (ls : Array Slot) (ws9 : va_W), va_P D vwCl ws9 H → va_D A ws9 → va_S A s.heap H locs → decode cc pc = .ok (.return_, 1) → ws9 = ws' →
        W p l e rm s m av.toArray below meth c H locs 0 0 Q (F0 m pc ls [])) →
      W p l e rm s m av.toArray below meth c s.heap [] 0 0 Q (F0 m 0 ls [])) : KV l D ty y wm rm av ws ws' := by
  intro sz
  refine Met.ofW (cc := cc) (maxL := maxL) (ret := none) hy hw ?_
  intro p e s m args below meth c s₁ B hml hv
  obtain ⟨rfl, hpre⟩ := hv
  have hown : s.vm.findClass own = some m.cls := ho ▸ findClass_of_methodNamed B.named
  obtain ⟨A, hAe, hA, hP, hK, hD, hS⟩ := k_setup hpre
  have hl := lv_entry av (n := maxL) hlen
  rw [lg_entry_eq]
  generalize (lg_sl av ++ List.replicate (maxL - (lg_sl av).length) Slot.unset).toArray = ls at hl ⊢
  refine body p e s m below meth c A _ ls B.exec B.bytes hml hown (atoms_spec B.pre) hK hA hP hD hS hl ?_
  intro H locs pc ls ws9 hP9 hD9 hS9 hdg e1
  subst e1
  have hlocks := B.notSynchronized
  refine W.vret B.exec B.bytes B.returns (fun t ht hW => ⟨⟨(), rfl, trivial, by rw [ht]; exact hP9, by rw [hAe]; exact hD9⟩, by rw [hAe]; exact hS9.F ht⟩) (by rw [hAe]; exact hS9.2.2) hdg
theorem KR.of {l : Launch} {D : va_G} {ty : kTy} {y : MethodName} {wm : List Cond} {rm : Room} {av : List Value} {ws ws' : va_W} {a : Nat} {cc : ByteArray} {maxL : Nat} {rt : FieldType} {w0 : List Cond} {own : String}
    (hy : plainName y.cls = true) (hw : wm = Cond.code y cc maxL (some rt) :: w0) (ho : y.cls = own) (hlen : (lg_sl av).length ≤ maxL) (hrt : (∃ n, rt = .object n) ∨ ∃ t, rt = .array t)
    (body : ∀ (p : Program) (e : Env) (s : State) (m : MethodId) (below : List Frame) (meth : Method) (c : Code) (A : Nat → Prop) (Q : State → Prop) (ls : Array Slot),
      p.tables.exec = Jvm.exec → c.code = cc → c.maxLocals = maxL → s.vm.findClass own = some m.cls → (∀ w ∈ wm, w.before av.toArray s = true) → kE D ty s → (∀ q : Nat, s.heap.size ≤ q → A q) →
      va_P D vwCl ws s.heap → va_D A ws → va_S A s.heap s.heap [] → lv_has ls maxL (lv_args 0 av) →
      (∀ (H : Heap) (locs : List Loc) (pc : Nat) (ls : Array Slot) (b : Nat) (ws9 : va_W), va_P D vwCl ws9 H → va_D A ws9 → va_S A s.heap H locs → decode cc pc = .ok (.areturn, 1) → ws9 = ws' → b = a →
        W p l e rm s m av.toArray below meth c H locs 0 0 Q (F0 m pc ls [.ref b])) →
      W p l e rm s m av.toArray below meth c s.heap [] 0 0 Q (F0 m 0 ls [])) : KR l D ty y wm rm av ws ws' a := by
  intro sz
  refine Met.ofW (cc := cc) (maxL := maxL) (ret := some rt) hy hw ?_
  intro p e s m args below meth c s₁ B hml hv
  obtain ⟨rfl, hpre⟩ := hv
  have hown : s.vm.findClass own = some m.cls := ho ▸ findClass_of_methodNamed B.named
  obtain ⟨A, hAe, hA, hP, hK, hD, hS⟩ := k_setup hpre
  have hl := lv_entry av (n := maxL) hlen
  rw [lg_entry_eq]
  generalize (lg_sl av ++ List.replicate (maxL - (lg_sl av).length) Slot.unset).toArray = ls at hl ⊢
  refine body p e s m below meth c A _ ls B.exec B.bytes hml hown (atoms_spec B.pre) hK hA hP hD hS hl ?_
  intro H locs pc ls b ws9 hP9 hD9 hS9 hdg e1 e2
  subst e1; subst e2
  have hlocks := B.notSynchronized
  refine W.aret B.exec B.bytes B.returns hrt (Or.inr ⟨_, rfl⟩) (fun t ht hW => ⟨⟨(), b, rfl, trivial, rfl, by rw [ht]; exact hP9, by rw [hAe]; exact hD9⟩, by rw [hAe]; exact hS9.F ht⟩) (by rw [hAe]; exact hS9.2.2) hdg
/-! the start of a call -/
theorem kPre_blind {D : va_G} {ty : kTy} {sz : Nat} {av : List Value} {ws : va_W} : FrameBlind (va_Pc av (kPre D ty sz ws)) := by
  intro a U g mk q
  obtain ⟨q0, q1, qP, qK, qD⟩ := q
  exact ⟨q0, q1, qP, ⟨va_K.moved (u := U) (U := U.calling g mk a) (Vm.Alike.refl U.vm) qK.1, fun w hw => va_Nw.same (u := U) (U := U.calling g mk a) rfl rfl (qK.2.1 w hw), fun w hw => va_Nw.same (u := U) (U := U.calling g mk a) rfl rfl (qK.2.2 w hw)⟩, qD⟩
theorem kPreS {D : va_G} {ty : kTy} {A : Nat → Prop} {As : List Value} {ws : va_W} {s : State} {H : Heap} (hK : kE D ty s) (hP : va_P D vwCl ws H) (hD : va_D A ws) : PreS s H (va_Pc As (kPre D ty H.size ws)) As :=
  ⟨kPre_blind, fun U hU hW => ⟨rfl, by rw [hU], by rw [hU]; exact hP, hK.warm hW, hD.weaken (fun _ _ _ _ => trivial)⟩⟩
theorem kPreV {D : va_G} {ty : kTy} {A : Nat → Prop} {As : List Value} {ws : va_W} {s : State} {H : Heap} {b q0 ci : Nat} {q : vw_C} {fs : List Value} (hK : kE D ty s) (hP : va_P D vwCl ws H) (hD : va_D A ws) (hc : vwCl[ci]? = some q) (he : ws[q0]? = some (b, .inr (ci, fs))) : PreV s H q.1 b (va_Pc (.ref b :: As) (kPre D ty H.size ws)) As :=
  ⟨kPre_blind, va_recv hK.1 hP hc he, fun U hU hW => ⟨rfl, by rw [hU], by rw [hU]; exact hP, hK.warm hW, hD.weaken (fun _ _ _ _ => trivial)⟩⟩
theorem k_fm {α β : Type} {f : α → Option β} : ∀ {is : List α} {w : List β}, is.map f = w.map some → is.filterMap f = w
  | [], [], _ => rfl
  | [], _ :: _, h => by simp at h
  | _ :: _, [], h => by simp at h
  | i :: is, b :: w, h => by
    simp only [List.map_cons, List.cons.injEq] at h
    rw [List.filterMap_cons, h.1, k_fm h.2]
/-- the whole world behind a call of a part of it: by places -/
theorem k_back {A0 : Nat → Prop} {D : va_G} {ws wc wr w1 ws' : va_W} {H H1 : Heap} (hP : va_P D vwCl ws H) (hD : va_D A0 ws) (hF : ∀ q, va_A wc H.size q → A0 q) (isC isR isP : List Nat) (hC : isC.map (fun i => ws[i]?) = wc.map some) (hR : isR.map (fun i => ws[i]?) = wr.map some) (hn : va_nd isR = true) (hdis : ∀ i ∈ isR, i ∉ isC)
    (hp : isP.map (fun i => (wr ++ w1)[i]?) = ws'.map some) (hpn : va_nd isP = true)
    (hk : ∀ q : Nat, q < H.size → ¬ va_A wc H.size q → H1[q]? = H[q]?) (hP1 : va_P D vwCl w1 H1) (hD1 : va_D (va_A wc H.size) w1) : va_P D vwCl ws' H1 ∧ va_D A0 ws' := by
  obtain ⟨h1, h2⟩ := va_join hP hD isC isR hC hR hn hdis hk hF hP1 hD1
  exact ⟨h1.sub isP (k_fm hp), h2.sub isP hpn hp⟩
section KCALL
variable {p : Program} {l : Launch} {e : Env} {R : Room} {s : State} {m : MethodId} {args : Array Value} {below : List Frame} {meth : Method} {c : Code} {H : Heap} {locs : List Loc} {cells slots : Nat} {Q : State → Prop}
variable {pc : Nat} {ls : Array Slot} {rest st0 : List Value} {a : Array Value} {A0 : Nat → Prop} {H0 : Heap} {D : va_G} {ws wc wc' wr ws' : va_W}
theorem k_hF (hD : va_D A0 ws) (hS : va_S A0 H0 H locs) (hA : ∀ q, H0.size ≤ q → A0 q) (isC : List Nat) (hC : isC.map (fun i => ws[i]?) = wc.map some) : ∀ q, va_A wc H.size q → A0 q := va_free hD hS hA isC hC
/-- int answer, a part of the world -/
theorem k_i {r : Int32} (hr : va_Run p l e R s m args below meth c H locs cells slots 0 0 (F0 m pc ls st0) rest (kQi D H.size wc wc' r a) (va_A wc H.size)) (hP : va_P D vwCl ws H) (hD : va_D A0 ws) (hS : va_S A0 H0 H locs) (hA : ∀ q, H0.size ≤ q → A0 q) (isC isR isP : List Nat) (hC : isC.map (fun i => ws[i]?) = wc.map some) (hR : isR.map (fun i => ws[i]?) = wr.map some) (hn : va_nd isR = true) (hdis : ∀ i ∈ isR, i ∉ isC)
    (hp : isP.map (fun i => (wr ++ wc')[i]?) = ws'.map some) (hpn : va_nd isP = true)
    (kk : ∀ (H1 : Heap) (locs1 : List Loc), va_P D vwCl ws' H1 → va_D A0 ws' → va_S A0 H0 H1 locs1 → W p l e R s m args below meth c H1 locs1 cells slots Q (F0 m (pc + 3) ls (.int r :: rest))) : W p l e R s m args below meth c H locs cells slots Q (F0 m pc ls st0) := by
  have hF := va_free hD hS hA isC hC
  refine va_calli hr hS (fun q _ h => hF q h) hF (fun r' u t H1 locs1 ht hvm hw hB hz hk hS1 => ?_)
  obtain ⟨hP1, hD1⟩ := hB
  rw [ht] at hP1
  obtain ⟨g1, g2⟩ := k_back hP hD hF isC isR isP hC hR hn hdis hp hpn hk hP1 hD1
  rw [hw]
  exact kk H1 locs1 g1 g2 hS1
theorem k_v (hr : va_Run p l e R s m args below meth c H locs cells slots 0 0 (F0 m pc ls st0) rest (kQv D H.size wc wc' a) (va_A wc H.size)) (hP : va_P D vwCl ws H) (hD : va_D A0 ws) (hS : va_S A0 H0 H locs) (hA : ∀ q, H0.size ≤ q → A0 q) (isC isR isP : List Nat) (hC : isC.map (fun i => ws[i]?) = wc.map some) (hR : isR.map (fun i => ws[i]?) = wr.map some) (hn : va_nd isR = true) (hdis : ∀ i ∈ isR, i ∉ isC)
    (hp : isP.map (fun i => (wr ++ wc')[i]?) = ws'.map some) (hpn : va_nd isP = true)
    (kk : ∀ (H1 : Heap) (locs1 : List Loc), va_P D vwCl ws' H1 → va_D A0 ws' → va_S A0 H0 H1 locs1 → W p l e R s m args below meth c H1 locs1 cells slots Q (F0 m (pc + 3) ls rest)) : W p l e R s m args below meth c H locs cells slots Q (F0 m pc ls st0) := by
  have hF := va_free hD hS hA isC hC
  refine va_callv hr hS (fun q _ h => hF q h) hF (fun u t H1 locs1 ht hvm hw hB hz hk hS1 => ?_)
  obtain ⟨hP1, hD1⟩ := hB
  rw [ht] at hP1
  obtain ⟨g1, g2⟩ := k_back hP hD hF isC isR isP hC hR hn hdis hp hpn hk hP1 hD1
  exact kk H1 locs1 g1 g2 hS1
theorem k_r {ra : Nat} (hr : va_Run p l e R s m args below meth c H locs cells slots 0 0 (F0 m pc ls st0) rest (kQr D H.size wc wc' ra a) (va_A wc H.size)) (hP : va_P D vwCl ws H) (hD : va_D A0 ws) (hS : va_S A0 H0 H locs) (hA : ∀ q, H0.size ≤ q → A0 q) (isC isR isP : List Nat) (hC : isC.map (fun i => ws[i]?) = wc.map some) (hR : isR.map (fun i => ws[i]?) = wr.map some) (hn : va_nd isR = true) (hdis : ∀ i ∈ isR, i ∉ isC)
    (hp : isP.map (fun i => (wr ++ wc')[i]?) = ws'.map some) (hpn : va_nd isP = true)
    (kk : ∀ (H1 : Heap) (locs1 : List Loc), va_P D vwCl ws' H1 → va_D A0 ws' → va_S A0 H0 H1 locs1 → W p l e R s m args below meth c H1 locs1 cells slots Q (F0 m (pc + 3) ls (.ref ra :: rest))) : W p l e R s m args below meth c H locs cells slots Q (F0 m pc ls st0) := by
  have hF := va_free hD hS hA isC hC
  refine va_callr hr hS (fun q _ h => hF q h) hF (fun u r' t H1 locs1 ht hvm hw hB hz hk hS1 => ?_)
  obtain ⟨he, hP1, hD1⟩ := hB
  rw [ht] at hP1
  obtain ⟨g1, g2⟩ := k_back hP hD hF isC isR isP hC hR hn hdis hp hpn hk hP1 hD1
  rw [he]
  exact kk H1 locs1 g1 g2 hS1
theorem k_fullF (hD : va_D A0 ws) (hS : va_S A0 H0 H locs) (hA : ∀ q, H0.size ≤ q → A0 q) : ∀ q, va_A ws H.size q → A0 q := by
  intro q h
  rcases h with ⟨k, e, h⟩ | h
  · exact hD.2 k _ h
  · exact hA q (Nat.le_trans hS.1 h)
theorem k_fullD (hD : va_D A0 ws) (hS : va_S A0 H0 H locs) (hA : ∀ q, H0.size ≤ q → A0 q) (hD1 : va_D (va_A ws H.size) ws') : va_D A0 ws' := hD1.weaken (fun _ q _ h => k_fullF hD hS hA q.1 h)
/-- int answer, the whole world -/
theorem k_iF {r : Int32} (hr : va_Run p l e R s m args below meth c H locs cells slots 0 0 (F0 m pc ls st0) rest (kQi D H.size ws ws' r a) (va_A ws H.size)) (hD : va_D A0 ws) (hS : va_S A0 H0 H locs) (hA : ∀ q, H0.size ≤ q → A0 q)
    (kk : ∀ (H1 : Heap) (locs1 : List Loc), va_P D vwCl ws' H1 → va_D A0 ws' → va_S A0 H0 H1 locs1 → W p l e R s m args below meth c H1 locs1 cells slots Q (F0 m (pc + 3) ls (.int r :: rest))) : W p l e R s m args below meth c H locs cells slots Q (F0 m pc ls st0) := by
  have hF := k_fullF hD hS hA
  refine va_calli hr hS (fun q _ h => hF q h) hF (fun r' u t H1 locs1 ht hvm hw hB hz hk hS1 => ?_)
  obtain ⟨hP1, hD1⟩ := hB
  rw [ht] at hP1
  rw [hw]
  exact kk H1 locs1 hP1 (k_fullD hD hS hA hD1) hS1
theorem k_vF (hr : va_Run p l e R s m args below meth c H locs cells slots 0 0 (F0 m pc ls st0) rest (kQv D H.size ws ws' a) (va_A ws H.size)) (hD : va_D A0 ws) (hS : va_S A0 H0 H locs) (hA : ∀ q, H0.size ≤ q → A0 q)
    (kk : ∀ (H1 : Heap) (locs1 : List Loc), va_P D vwCl ws' H1 → va_D A0 ws' → va_S A0 H0 H1 locs1 → W p l e R s m args below meth c H1 locs1 cells slots Q (F0 m (pc + 3) ls rest)) : W p l e R s m args below meth c H locs cells slots Q (F0 m pc ls st0) := by
  have hF := k_fullF hD hS hA
  refine va_callv hr hS (fun q _ h => hF q h) hF (fun u t H1 locs1 ht hvm hw hB hz hk hS1 => ?_)
  obtain ⟨hP1, hD1⟩ := hB
  rw [ht] at hP1
  exact kk H1 locs1 hP1 (k_fullD hD hS hA hD1) hS1
theorem k_rF {ra : Nat} (hr : va_Run p l e R s m args below meth c H locs cells slots 0 0 (F0 m pc ls st0) rest (kQr D H.size ws ws' ra a) (va_A ws H.size)) (hD : va_D A0 ws) (hS : va_S A0 H0 H locs) (hA : ∀ q, H0.size ≤ q → A0 q)
    (kk : ∀ (H1 : Heap) (locs1 : List Loc), va_P D vwCl ws' H1 → va_D A0 ws' → va_S A0 H0 H1 locs1 → W p l e R s m args below meth c H1 locs1 cells slots Q (F0 m (pc + 3) ls (.ref ra :: rest))) : W p l e R s m args below meth c H locs cells slots Q (F0 m pc ls st0) := by
  have hF := k_fullF hD hS hA
  refine va_callr hr hS (fun q _ h => hF q h) hF (fun u r' t H1 locs1 ht hvm hw hB hz hk hS1 => ?_)
  obtain ⟨he, hP1, hD1⟩ := hB
  rw [ht] at hP1
  rw [he]
  exact kk H1 locs1 hP1 (k_fullD hD hS hA hD1) hS1
/-- int answer of a method that has no world -/
theorem k_i0 {r : Int32} (hr : va_Run p l e R s m args below meth c H locs cells slots 0 0 (F0 m pc ls st0) rest (kQi D H.size [] [] r a) (va_A [] H.size)) (hP : va_P D vwCl ws H) (hS : va_S A0 H0 H locs) (hA : ∀ q, H0.size ≤ q → A0 q)
    (kk : ∀ (H1 : Heap) (locs1 : List Loc), va_P D vwCl ws H1 → va_S A0 H0 H1 locs1 → W p l e R s m args below meth c H1 locs1 cells slots Q (F0 m (pc + 3) ls (.int r :: rest))) : W p l e R s m args below meth c H locs cells slots Q (F0 m pc ls st0) := by
  have hF : ∀ q, va_A [] H.size q → A0 q := by
    intro q h
    rcases h with ⟨k, e, h⟩ | h
    · simp at h
    · exact hA q (Nat.le_trans hS.1 h)
  refine va_calli hr hS (fun q _ h => hF q h) hF (fun r' u t H1 locs1 ht hvm hw hB hz hk hS1 => ?_)
  rw [hw]
  refine kk H1 locs1 (hP.kept (fun k q hq => hk q.1 (hP k q hq).lt ?_)) hS1
  intro h
  rcases h with ⟨k2, e, h⟩ | h
  · simp at h
  · exact absurd (hP k q hq).lt (Nat.not_lt.mpr h)
end KCALL
end
section
theorem nI_inc (a : Nat) : nI a + Int32.ofInt 1 = nI (a + 1) := nI_add a 1
theorem k_mul (a b : Nat) : nI a * nI b = nI (a * b) := pk_mul a b
theorem k_toNat {i : Int32} {j n : Nat} (hi : i = nI j) (hj : j < n) (hn : n < 2 ^ 31) : i.toNatClampNeg = j := by rw [hi]; exact nI_clamp (by omega)
theorem k_vpin {i : Int32} {j n : Nat} (hi : i = nI j) (hj : j < n) (hn : n < 2 ^ 31) : vp_in i n := by rw [hi]; exact vp_in_nI hj hn
section KROWS
variable {p : Program} {l : Launch} {e : Env} {R : Room} {s : State} {m : MethodId} {args : Array Value} {below : List Frame} {meth : Method} {c : Code} {H : Heap} {locs : List Loc} {cells slots : Nat} {Q : State → Prop}
variable {cc : ByteArray} {pc : Nat} {ls : Array Slot} {rest : List Value} {D : va_G} {A : Nat → Prop} {a : Nat} {tys : List (ClassId × FieldType)} {ws : va_W} {H0 : Heap}
theorem k_top {x y : Int32} (h : x = y) (k : W p l e R s m args below meth c H locs cells slots Q (F0 m pc ls (.int y :: rest))) : W p l e R s m args below meth c H locs cells slots Q (F0 m pc ls (.int x :: rest)) := by rw [h]; exact k
theorem k_iadd {x y v : Int32} (hexec : p.tables.exec = Jvm.exec) (hb : c.code = cc) (hdg : decode cc pc = .ok (.iadd, 1)) (hv : x + y = v) (k : W p l e R s m args below meth c H locs cells slots Q (F0 m (pc + 1) ls (.int v :: rest))) : W p l e R s m args below meth c H locs cells slots Q (F0 m pc ls (.int y :: .int x :: rest)) := lv_iadd hexec hb hdg (by rw [hv]; exact k)
theorem k_isub {x y v : Int32} (hexec : p.tables.exec = Jvm.exec) (hb : c.code = cc) (hdg : decode cc pc = .ok (.isub, 1)) (hv : x - y = v) (k : W p l e R s m args below meth c H locs cells slots Q (F0 m (pc + 1) ls (.int v :: rest))) : W p l e R s m args below meth c H locs cells slots Q (F0 m pc ls (.int y :: .int x :: rest)) := lv_isub hexec hb hdg (by rw [hv]; exact k)
theorem k_imul {x y v : Int32} (hexec : p.tables.exec = Jvm.exec) (hb : c.code = cc) (hdg : decode cc pc = .ok (.imul, 1)) (hv : x * y = v) (k : W p l e R s m args below meth c H locs cells slots Q (F0 m (pc + 1) ls (.int v :: rest))) : W p l e R s m args below meth c H locs cells slots Q (F0 m pc ls (.int y :: .int x :: rest)) := lv_imul hexec hb hdg (by rw [hv]; exact k)
theorem k_idiv {x y v : Int32} (hexec : p.tables.exec = Jvm.exec) (hb : c.code = cc) (hdg : decode cc pc = .ok (.idiv, 1)) (hv : (¬ y = 0) ∧ x / y = v) (k : W p l e R s m args below meth c H locs cells slots Q (F0 m (pc + 1) ls (.int v :: rest))) : W p l e R s m args below meth c H locs cells slots Q (F0 m pc ls (.int y :: .int x :: rest)) := lv_idiv hexec hb hdg hv.1 (by rw [hv.2]; exact k)
theorem k_irem {x y v : Int32} (hexec : p.tables.exec = Jvm.exec) (hb : c.code = cc) (hdg : decode cc pc = .ok (.irem, 1)) (hv : (¬ y = 0) ∧ x - x / y * y = v) (k : W p l e R s m args below meth c H locs cells slots Q (F0 m (pc + 1) ls (.int v :: rest))) : W p l e R s m args below meth c H locs cells slots Q (F0 m pc ls (.int y :: .int x :: rest)) := lv_irem hexec hb hdg hv.1 (by rw [hv.2]; exact k)
theorem k_divN {a b : Nat} (ha : a < 2 ^ 31) (h0 : 0 < b) (hb : b < 2 ^ 31) : (¬ nI b = 0) ∧ nI a / nI b = nI (a / b) := ⟨nI_ne0 h0 hb, pk_div ha h0 hb⟩
theorem k_remN {a b : Nat} (ha : a < 2 ^ 31) (h0 : 0 < b) (hb : b < 2 ^ 31) : (¬ nI b = 0) ∧ nI a - nI a / nI b * nI b = nI (a % b) := ⟨nI_ne0 h0 hb, pk_rem ha h0 hb⟩
theorem k_iald {i v : Int32} {j n : Nat} {f : Nat → Int32} (hexec : p.tables.exec = Jvm.exec) (hb : c.code = cc) (hK : va_K D vwCl tys s) (hP : va_P D vwCl ws H) (q0 t0 : Nat) {cA : ClassId} (ha : ws[q0]? = some (a, .inl (cA, n, .inl f))) (ht : tys[t0]? = some (cA, .int)) (hi : i = nI j) (hj : j < n) (hn : n < 2 ^ 31) (hv : f j = v) (hdg : decode cc pc = .ok (.iaload, 1))
    (kk : W p l e R s m args below meth c H locs cells slots Q (F0 m (pc + 1) ls (.int v :: rest))) : W p l e R s m args below meth c H locs cells slots Q (F0 m pc ls (.int i :: .ref a :: rest)) :=
  va_iald hexec hb hK hP q0 t0 ha ht (k_vpin hi hj hn) hdg (by rw [k_toNat hi hj hn, hv]; exact kk)
theorem k_cald {i v : Int32} {j n : Nat} {f : Nat → Int32} (hexec : p.tables.exec = Jvm.exec) (hb : c.code = cc) (hK : va_K D vwCl tys s) (hP : va_P D vwCl ws H) (q0 t0 : Nat) {cA : ClassId} (ha : ws[q0]? = some (a, .inl (cA, n, .inl f))) (ht : tys[t0]? = some (cA, .char)) (hi : i = nI j) (hj : j < n) (hn : n < 2 ^ 31) (hv : f j = v) (hdg : decode cc pc = .ok (.caload, 1))
    (kk : W p l e R s m args below meth c H locs cells slots Q (F0 m (pc + 1) ls (.int v :: rest))) : W p l e R s m args below meth c H locs cells slots Q (F0 m pc ls (.int i :: .ref a :: rest)) :=
  va_cald hexec hb hK hP q0 t0 ha ht (k_vpin hi hj hn) hdg (by rw [k_toNat hi hj hn, hv]; exact kk)
theorem k_iast {i x : Int32} {j n : Nat} {f : Nat → Int32} (hexec : p.tables.exec = Jvm.exec) (hb : c.code = cc) (hK : va_K D vwCl tys s) (hP : va_P D vwCl ws H) (hD : va_D A ws) (hS : va_S A H0 H locs) (q0 t0 : Nat) {cA : ClassId} (ha : ws[q0]? = some (a, .inl (cA, n, .inl f))) (ht : tys[t0]? = some (cA, .int)) (hi : i = nI j) (hj : j < n) (hn : n < 2 ^ 31) (hdg : decode cc pc = .ok (.iastore, 1))
    (kk : ∀ (H1 : Heap) (locs1 : List Loc), va_P D vwCl (ws.set q0 (a, .inl (cA, n, .inl (upd f j x)))) H1 → va_D A (ws.set q0 (a, .inl (cA, n, .inl (upd f j x)))) → va_S A H0 H1 locs1 → W p l e R s m args below meth c H1 locs1 cells slots Q (F0 m (pc + 1) ls rest)) : W p l e R s m args below meth c H locs cells slots Q (F0 m pc ls (.int x :: .int i :: .ref a :: rest)) :=
  va_iast hexec hb hK hP hD hS q0 t0 ha ht (k_vpin hi hj hn) hdg (by rw [k_toNat hi hj hn]; exact kk)
theorem k_cast {i x : Int32} {j n : Nat} {f : Nat → Int32} (hexec : p.tables.exec = Jvm.exec) (hb : c.code = cc) (hK : va_K D vwCl tys s) (hP : va_P D vwCl ws H) (hD : va_D A ws) (hS : va_S A H0 H locs) (q0 t0 : Nat) {cA : ClassId} (ha : ws[q0]? = some (a, .inl (cA, n, .inl f))) (ht : tys[t0]? = some (cA, .char)) (hi : i = nI j) (hj : j < n) (hn : n < 2 ^ 31) (hx : vp_nar .char x = x) (hdg : decode cc pc = .ok (.castore, 1))
    (kk : ∀ (H1 : Heap) (locs1 : List Loc), va_P D vwCl (ws.set q0 (a, .inl (cA, n, .inl (upd f j x)))) H1 → va_D A (ws.set q0 (a, .inl (cA, n, .inl (upd f j x)))) → va_S A H0 H1 locs1 → W p l e R s m args below meth c H1 locs1 cells slots Q (F0 m (pc + 1) ls rest)) : W p l e R s m args below meth c H locs cells slots Q (F0 m pc ls (.int x :: .int i :: .ref a :: rest)) :=
  va_cast hexec hb hK hP hD hS q0 t0 ha ht (k_vpin hi hj hn) hdg (by rw [k_toNat hi hj hn, hx]; exact kk)
theorem k_copyi {cc : ByteArray} {sp dp n : Nat} (hexec : p.tables.exec = Jvm.exec) (hb : c.code = cc) (hml : c.maxLocals = ls.size) {own : String} {index : Nat} (hown : s.vm.findClass own = some m.cls) (hlink : (Cond.methodLink own index arraycopyName).before args s = true) (hnat : (Cond.native arraycopyName).before args s = true) (hstat : (Cond.static arraycopyName).before args s = true) (hini : (Cond.initialized "java/lang/System").before args s = true)
    (hK : va_K D vwCl tys s) (hP : va_P D vwCl ws H) (hD : va_D A ws) (hS : va_S A H0 H locs) (q0 q1 t0 t1 : Nat) {a0 : Nat} {c0 c1 : ClassId} {n0 n1 : Nat} {f g : Nat → Int32} (ha0 : ws[q0]? = some (a0, .inl (c0, n0, .inl f))) (ha1 : ws[q1]? = some (a, .inl (c1, n1, .inl g))) (ht0 : tys[t0]? = some (c0, .int)) (ht1 : tys[t1]? = some (c1, .int))
    (hb3 : sp + n ≤ n0 ∧ dp + n ≤ n1 ∧ n0 < 2 ^ 31 ∧ n1 < 2 ^ 31)
    (hframes : 1 ≤ R.frames) (hlocals : (rest.map fun v => v.category).sum + (nativeFrameWords "java/lang/System" "arraycopy" 5 + 11) ≤ R.locals) (hdg : decode cc pc = .ok (.invokestatic index, 3))
    (kk : ∀ (H1 : Heap) (locs1 : List Loc), va_P D vwCl (ws.set q1 (a, .inl (c1, n1, .inl (va_cpy f g sp dp n)))) H1 → va_D A (ws.set q1 (a, .inl (c1, n1, .inl (va_cpy f g sp dp n)))) → va_S A H0 H1 locs1 → W p l e R s m args below meth c H1 locs1 cells slots Q (F0 m (pc + 3) ls rest)) : W p l e R s m args below meth c H locs cells slots Q (F0 m pc ls (.int (nI n) :: .int (nI dp) :: .ref a :: .int (nI sp) :: .ref a0 :: rest)) := by
  obtain ⟨h1, h2, h3, h4⟩ := hb3
  have e1 : (nI sp).toNatClampNeg = sp := nI_clamp (by omega)
  have e2 : (nI dp).toNatClampNeg = dp := nI_clamp (by omega)
  have e3 : (nI n).toNatClampNeg = n := nI_clamp (by omega)
  refine va_copyi hexec hb hml hown hlink hnat hstat hini hK hP hD hS q0 q1 t0 t1 ha0 ha1 ht0 ht1 rfl (nI_pos (by omega)) (nI_pos (by omega)) (nI_pos (by omega)) (by rw [e1, e3]; exact h1) (by rw [e2, e3]; exact h2) (fun _ _ => rfl) hframes hlocals hdg ?_
  rw [e1, e2, e3]
  exact kk
end KROWS
theorem k_swOut {x lo hi : Int32} {a b : Int} (h1 : lo.toInt = a) (h2 : hi.toInt = b) (h : x < lo ∨ hi < x) : x.toInt < a ∨ b < x.toInt := by
  rw [← h1, ← h2, ← Int32.lt_iff_toInt_lt, ← Int32.lt_iff_toInt_lt]
  exact h
theorem k_swIn {x lo hi : Int32} {n : Nat} (h0 : lo = nI lo.toInt.toNat) (h1 : 0 ≤ lo.toInt) (h2 : hi = nI (lo.toInt.toNat + n)) (h3 : lo.toInt.toNat + n < 2 ^ 31) (h : ¬ (x < lo ∨ hi < x)) : ∃ j : Nat, j < n + 1 ∧ x = nI (lo.toInt.toNat + j) := by
  simp only [not_or, Int32.not_lt] at h
  obtain ⟨ha, hb⟩ := h
  rw [Int32.le_iff_toInt_le] at ha hb
  rw [h2, nI_toInt h3] at hb
  refine ⟨x.toInt.toNat - lo.toInt.toNat, by omega, ?_⟩
  rw [← Int32.toInt_inj, nI_toInt (by omega)]
  omega
/-! the worlds: the reference's object; the class's objects, each with what it reaches -/
abbrev tyL (I C Q : ClassId) : kTy := [(I, .int), (C, .char), (Q, .object RX1)]
abbrev wM (I : ClassId) (a0 a1 a2 a3 a4 : Nat) (now kept : Nat → Int32) (st : Int32) (text : Nat → Int32) (len att num : Int32) (rd : Nat → Int32) : va_W := [(a0, .inr (9, [.ref a1, .ref a2, .int st, .ref a3, .int len, .int att, .int num, .ref a4])), (a1, .inl (I, 1080, .inl now)), (a2, .inl (I, 4320, .inl kept)), (a3, .inl (I, 80, .inl text)), (a4, .inl (I, 5, .inl rd))]
abbrev wT (I : ClassId) (b0 b1 : Nat) (rn cn : Nat) (cf : Nat → Int32) : va_W := [(b0, .inr (5, [.int (nI rn), .int (nI cn), .ref b1])), (b1, .inl (I, rn * cn, .inl cf))]
abbrev wEv (I : ClassId) (e0 e1 e2 : Nat) (ev : Nat → Int32) (dbl : Int32) : va_W := [(e0, .inr (2, [.ref e1, .int dbl])), (e1, .inr (5, [.int (nI 64), .int (nI 7), .ref e2])), (e2, .inl (I, 64 * 7, .inl ev))]
abbrev wWd (I : ClassId) (w0 w1 w2 : Nat) (wd : Nat → Int32) (kp tl tk : Int32) : va_W := [(w0, .inr (7, [.ref w1, .int kp, .int tl, .int tk])), (w1, .inr (5, [.int (nI 40), .int (nI 4), .ref w2])), (w2, .inl (I, 40 * 4, .inl wd))]
abbrev wCb (I : ClassId) (g0 g1 g2 : Nat) (cb : Nat → Int32) : va_W := [(g0, .inr (0, [.ref g1])), (g1, .inr (5, [.int (nI 3), .int (nI 5), .ref g2])), (g2, .inl (I, 3 * 5, .inl cb))]
abbrev wPn (I : ClassId) (p0 p1 p2 w0 w1 w2 : Nat) (pn : Nat → Int32) (us : Int32) (wd : Nat → Int32) (kp tl tk : Int32) : va_W := [(p0, .inr (4, [.ref p1, .ref w0, .int us])), (p1, .inr (5, [.int (nI 64), .int (nI 8), .ref p2])), (p2, .inl (I, 64 * 8, .inl pn)), (w0, .inr (7, [.ref w1, .int kp, .int tl, .int tk])), (w1, .inr (5, [.int (nI 40), .int (nI 4), .ref w2])), (w2, .inl (I, 40 * 4, .inl wd))]
abbrev wC (I : ClassId) (c0 e0 e1 e2 p0 p1 p2 w0 w1 w2 g0 g1 g2 : Nat) (ev : Nat → Int32) (dbl : Int32) (pn : Nat → Int32) (us : Int32) (wd : Nat → Int32) (kp tl tk : Int32) (cb : Nat → Int32) (sz lg gr wt lt mv : Int32) : va_W := [(c0, .inr (1, [.ref e0, .ref p0, .ref g0, .int sz, .int lg, .int gr, .int wt, .int lt, .int mv])),
  (e0, .inr (2, [.ref e1, .int dbl])), (e1, .inr (5, [.int (nI 64), .int (nI 7), .ref e2])), (e2, .inl (I, 64 * 7, .inl ev)),
  (p0, .inr (4, [.ref p1, .ref w0, .int us])), (p1, .inr (5, [.int (nI 64), .int (nI 8), .ref p2])), (p2, .inl (I, 64 * 8, .inl pn)), (w0, .inr (7, [.ref w1, .int kp, .int tl, .int tk])), (w1, .inr (5, [.int (nI 40), .int (nI 4), .ref w2])), (w2, .inl (I, 40 * 4, .inl wd)),
  (g0, .inr (0, [.ref g1])), (g1, .inr (5, [.int (nI 3), .int (nI 5), .ref g2])), (g2, .inl (I, 3 * 5, .inl cb))]
abbrev wX (I C : ClassId) (x0 x1 : Nat) (sg : Nat → Int32) (xl xp xn xi xt xk xa xe xf xr : Int32) : va_W := [(x0, .inr (6, [.ref x1, .int xl, .int xp, .int xn, .int xi, .int xt, .int xk, .int xa, .int xe, .int xf, .int xr])), (x1, .inl (C, 80, .inl sg))]
theorem k_P0 {D : va_G} {H : Heap} : va_P D vwCl [] H := fun k q h => by simp at h
theorem k_D0 {A : Nat → Prop} : va_D A [] := ⟨fun i j p q h => by simp at h, fun k q h => by simp at h⟩
end
section
/-! floats: the halves of trust -/
def f_h (k : Nat) : UInt32 := FP.fdiv (FP.i2f (nI k)) 1073741824
theorem f_h1 : ∀ k < 129, FP.fadd (f_h k) 1065353216 = f_h (k + 2) := by decide +kernel
theorem f_h5 : ∀ k < 129, FP.fadd (f_h k) 1056964608 = f_h (k + 1) := by decide +kernel
theorem f_hz : ∀ k < 129, FP.fadd (f_h k) 0 = f_h k := by decide +kernel
theorem f_h00 : f_h 0 = 0 := by decide +kernel
theorem f_hs : ∀ a < 65, ∀ b < 65 - a, FP.fadd (FP.i2f (nI a)) (FP.fdiv (FP.i2f (nI b)) 1073741824) = f_h (2 * a + b) := by decide +kernel
theorem f_hN : ∀ k < 131, vf_n32 (f_h k) := by unfold vf_n32; decide +kernel
end
section
/-! floats: the steps of the two normalisations, exact -/
theorem f_two : FP.Core.val32 1073741824 = .fin false 8388608 (-22) := by decide
theorem f_one : FP.Core.val32 1065353216 = .fin false 8388608 (-23) := by decide
theorem f_p23 : FP.Core.val32 1258291200 = .fin false 8388608 0 := by decide
theorem f_zero : FP.Core.val32 0 = .fin false 0 (-149) := by decide
theorem f_sb (s : Bool) : (s != false) = s := by cases s <;> rfl
/-- times two -/
theorem f_dbl {x : UInt32} {s : Bool} {c : Nat} {q : Int} (h : FP.Core.val32 x = .fin s c q) (h1 : 8388608 ≤ c) (h2 : c < 16777216) (h3 : -149 ≤ q) (h4 : q ≤ 103) :
    FP.Core.val32 (FP.Core.fmul x 1073741824) = .fin s c (q + 1) := by
  rw [FP.Core.val32_fmul, h, f_two]
  show FP.Core.roundRatio FP.Core.b32 (s != false) (c * 8388608) 1 (q + -22) = _
  rw [f_sb]
  refine FP.Core.roundRatio_exact FP.Core.good_b32 (by decide) ⟨h2, ?_, ?_, .inr h1⟩ ?_
  · show (-149 : Int) ≤ q + 1; omega
  · show q + 1 ≤ (104 : Int); omega
  · rw [show ((q + -22) - (q + 1)).toNat = 0 by omega, show ((q + 1) - (q + -22)).toNat = 23 by omega]
    omega
/-- half -/
theorem f_half {x : UInt32} {s : Bool} {c : Nat} {q : Int} (h : FP.Core.val32 x = .fin s c q) (h1 : 8388608 ≤ c) (h2 : c < 16777216) (h3 : -148 ≤ q) (h4 : q ≤ 104) :
    FP.Core.val32 (FP.Core.fdiv x 1073741824) = .fin s c (q - 1) := by
  rw [FP.Core.val32_fdiv, h, f_two]
  show FP.Core.roundRatio FP.Core.b32 (s != false) c 8388608 (q - -22) = _
  rw [f_sb]
  refine FP.Core.roundRatio_exact FP.Core.good_b32 (by decide) ⟨h2, ?_, ?_, .inr h1⟩ ?_
  · show (-149 : Int) ≤ q - 1; omega
  · show q - 1 ≤ (104 : Int); omega
  · rw [show ((q - -22) - (q - 1)).toNat = 23 by omega, show ((q - 1) - (q - -22)).toNat = 0 by omega]
    omega
theorem f_cut {v : Int} {c : Nat} (h : v = (c : Int)) (hc : c < 16777216) : Int32.ofInt (max (-2 ^ 31) (min (2 ^ 31 - 1) v)) = nI c := by
  subst h
  rw [show max (-2 ^ 31) (min (2 ^ 31 - 1) (c : Int)) = (c : Int) by omega]
  rfl
/-- a whole number between 2^23 and 2^24, told -/
theorem f_f2i {x : UInt32} {c : Nat} (h : FP.Core.val32 x = .fin false c 0) (h2 : c < 16777216) : FP.Core.f2i x = nI c := by
  show FP.Core.toI (FP.Core.val32 x) = _
  rw [h]
  exact f_cut (by rw [show FP.Core.truncate false c 0 = FP.Core.signed false (c * 2 ^ (0 : Int).toNat / 2 ^ (-(0 : Int)).toNat) from rfl]; simp [FP.Core.signed]) (by omega)
theorem f_norm {m : Nat} (h0 : 0 < m) (h1 : m < 16777216) : ∃ j, j ≤ 23 ∧ 8388608 ≤ m * 2 ^ j ∧ m * 2 ^ j < 16777216 := by
  have a1 : 2 ^ m.log2 ≤ m := Nat.log2_self_le (by omega)
  have a2 : m < 2 ^ (m.log2 + 1) := Nat.lt_log2_self
  have a3 : m.log2 ≤ 23 := by
    refine Nat.le_of_lt_succ ((Nat.pow_lt_pow_iff_right (a := 2) (by decide)).mp (Nat.lt_of_le_of_lt a1 h1))
  refine ⟨23 - m.log2, by omega, ?_, ?_⟩
  · have h := Nat.mul_le_mul_right (2 ^ (23 - m.log2)) a1
    rw [← Nat.pow_add, show m.log2 + (23 - m.log2) = 23 by omega] at h
    exact h
  · have h := Nat.mul_lt_mul_of_pos_right a2 (Nat.two_pow_pos (23 - m.log2))
    rw [← Nat.pow_add, show m.log2 + 1 + (23 - m.log2) = 24 by omega] at h
    exact h
theorem f_sub1 {x : UInt32} {c : Nat} (h : FP.Core.val32 x = .fin false c (-23)) (h1 : 8388608 ≤ c) :
    FP.Core.val32 (FP.Core.fsub x 1065353216) = FP.Core.roundRatio FP.Core.b32 false (c - 8388608) 1 (-23) := by
  have hv : FP.Core.sumUnits false c (-23) true 8388608 (-23) (min (-23) (-23)) = ((c - 8388608 : Nat) : Int) := by
    simp [FP.Core.sumUnits, FP.Core.signed, FP.Core.inUnits]; omega
  rw [FP.Core.val32_fsub, h, f_one]
  simp only [FP.Core.negate, Bool.not_false, FP.Core.exactSum, hv]
  clear hv
  generalize c - 8388608 = m
  have hsg : FP.Core.sumSign false true ((m : Nat) : Int) = false := by
    unfold FP.Core.sumSign
    split
    · rfl
    · exact decide_eq_false (by omega)
  rw [hsg, Int.natAbs_natCast, show min (-23 : Int) (-23) = -23 by decide]
  rfl
/-- what X9 keeps of a number between 1 and 2: (x - 1) * 2^23 -/
theorem f_frac {x : UInt32} {c : Nat} (h : FP.Core.val32 x = .fin false c (-23)) (h1 : 8388608 ≤ c) (h2 : c < 16777216) :
    FP.Core.f2i (FP.Core.fmul (FP.Core.fsub x 1065353216) 1258291200) = nI (c - 8388608) := by
  have hs := f_sub1 h h1
  show FP.Core.toI (FP.Core.val32 _) = _
  rw [FP.Core.val32_fmul, hs, f_p23]
  by_cases h0 : c - 8388608 = 0
  · rw [h0]; rfl
  · obtain ⟨j, j1, j2, j3⟩ := f_norm (m := c - 8388608) (by omega) (by omega)
    have hm : c - 8388608 < 16777216 := by omega
    generalize c - 8388608 = m at *
    rw [show FP.Core.roundRatio FP.Core.b32 false m 1 (-23) = .fin false (m * 2 ^ j) (-23 - (j : Int)) from by
      refine FP.Core.roundRatio_exact FP.Core.good_b32 (by decide) ⟨j3, ?_, ?_, .inr j2⟩ ?_
      · show (-149 : Int) ≤ -23 - (j : Int); omega
      · show -23 - (j : Int) ≤ (104 : Int); omega
      · rw [show ((-23 : Int) - (-23 - (j : Int))).toNat = j by omega, show ((-23 - (j : Int)) - (-23)).toNat = 0 by omega]; omega]
    show FP.Core.toI (FP.Core.roundRatio FP.Core.b32 (false != false) (m * 2 ^ j * 8388608) 1 (-23 - (j : Int) + 0)) = _
    rw [show FP.Core.roundRatio FP.Core.b32 (false != false) (m * 2 ^ j * 8388608) 1 (-23 - (j : Int) + 0) = .fin false (m * 2 ^ j) (-(j : Int)) from by
      rw [f_sb]
      refine FP.Core.roundRatio_exact FP.Core.good_b32 (by decide) ⟨j3, ?_, ?_, .inr j2⟩ ?_
      · show (-149 : Int) ≤ -(j : Int); omega
      · show -(j : Int) ≤ (104 : Int); omega
      · rw [show ((-23 - (j : Int) + 0) - (-(j : Int))).toNat = 0 by omega, show ((-(j : Int)) - (-23 - (j : Int) + 0)).toNat = 23 by omega]; omega]
    refine f_cut ?_ (by omega)
    show FP.Core.signed false (m * 2 ^ j * 2 ^ (-(j : Int)).toNat / 2 ^ (- -(j : Int)).toNat) = _
    rw [show (-(j : Int)).toNat = 0 by omega, show (- -(j : Int)).toNat = j by omega, Nat.pow_zero, Nat.mul_one, Nat.mul_div_cancel _ (Nat.two_pow_pos j)]
    rfl
end
section
/-! floats: comparisons -/
theorem f_ordK {x K : UInt32} {d e : FP.Core.Datum} (hx : FP.Core.val32 x = d) (hK : FP.Core.val32 K = e) : FP.fcmp x K = FP.Core.order d e := by
  subst hx; subst hK; rfl
theorem f_pow1 {n : Nat} (h : 1 ≤ n) : 2 ≤ 2 ^ n := Nat.pow_le_pow_right (n := 2) (by decide) h
theorem f_lt {x K : UInt32} {c : Nat} {q r : Int} (hx : FP.Core.val32 x = .fin false c q) (hK : FP.Core.val32 K = .fin false 8388608 r) (h2 : c < 16777216) (hq : q < r) : FP.fcmp x K = some .lt := by
  rw [f_ordK hx hK, FP.Core.order]
  refine congrArg some ?_
  rw [show min q r = q by omega]
  unfold FP.Core.signed FP.Core.inUnits
  rw [show (q - q).toNat = 0 by omega, if_neg (by decide), if_neg (by decide)]
  have h := f_pow1 (n := (r - q).toNat) (by omega)
  generalize 2 ^ (r - q).toNat = k at h
  show compareOfLessAndEq _ _ = _
  rw [compareOfLessAndEq, if_pos (by omega)]
theorem f_ge {x K : UInt32} {c : Nat} {q r : Int} (hx : FP.Core.val32 x = .fin false c q) (hK : FP.Core.val32 K = .fin false 8388608 r) (h1 : 8388608 ≤ c) (hq : r ≤ q) : FP.fcmp x K = some .eq ∨ FP.fcmp x K = some .gt := by
  rw [f_ordK hx hK, FP.Core.order]
  rw [show min q r = r by omega]
  unfold FP.Core.signed FP.Core.inUnits
  rw [show (r - r).toNat = 0 by omega, if_neg (by decide), if_neg (by decide)]
  have h := Nat.two_pow_pos (q - r).toNat
  generalize 2 ^ (q - r).toNat = k at h
  have h3 : 8388608 ≤ c * k := Nat.le_trans h1 (Nat.le_mul_of_pos_right c h)
  have h4 : ¬ ((c * k : Nat) : Int) < ((8388608 * 2 ^ 0 : Nat) : Int) := by omega
  have h5 : ∀ a b : Int, ¬ a < b → some (compare a b) = some .eq ∨ some (compare a b) = some .gt := fun a b hab => by
    show some (compareOfLessAndEq a b) = _ ∨ some (compareOfLessAndEq a b) = _
    rw [compareOfLessAndEq, if_neg hab]
    split
    · exact .inl rfl
    · exact .inr rfl
  exact h5 _ _ h4
theorem f_neg0 {x : UInt32} {c : Nat} {q : Int} (hx : FP.Core.val32 x = .fin true c q) (h0 : 0 < c) : FP.fcmp x 0 = some .lt := by
  rw [f_ordK hx f_zero, FP.Core.order]
  refine congrArg some ?_
  unfold FP.Core.signed FP.Core.inUnits
  rw [if_pos rfl, if_neg (by decide), Nat.zero_mul]
  have h := Nat.two_pow_pos (q - min q (-149)).toNat
  generalize 2 ^ (q - min q (-149)).toNat = k at h
  have h3 : 0 < c * k := Nat.mul_pos h0 h
  generalize c * k = m at h3
  show compareOfLessAndEq _ _ = _
  rw [compareOfLessAndEq, if_pos (by omega)]
theorem f_pos0 {x : UInt32} {c : Nat} {q : Int} (hx : FP.Core.val32 x = .fin false c q) (h0 : 0 < c) : FP.fcmp x 0 = some .gt := by
  rw [f_ordK hx f_zero, FP.Core.order]
  refine congrArg some ?_
  unfold FP.Core.signed FP.Core.inUnits
  rw [if_neg (by decide), if_neg (by decide), Nat.zero_mul]
  have h := Nat.two_pow_pos (q - min q (-149)).toNat
  generalize 2 ^ (q - min q (-149)).toNat = k at h
  have h3 : 0 < c * k := Nat.mul_pos h0 h
  generalize c * k = m at h3
  show compareOfLessAndEq _ _ = _
  rw [compareOfLessAndEq, if_neg (by omega), if_neg (by omega)]
theorem f_neg {x : UInt32} {s : Bool} {c : Nat} {q : Int} (hx : FP.Core.val32 x = .fin s c q) : FP.Core.val32 (FP.Core.fneg x) = .fin (!s) c q := by
  rw [FP.Core.val32_fneg, hx]; rfl
theorem f_nn {x : UInt32} {s : Bool} {c : Nat} {q : Int} (h : FP.Core.val32 x = .fin s c q) : vf_n32 x := by
  unfold vf_n32
  refine Decidable.byContradiction fun hn => ?_
  rw [UInt32.le_iff_toNat_le, UInt32.toNat_and, show (2147483647 : UInt32).toNat = 2 ^ 31 - 1 by decide, Nat.and_two_pow_sub_one_eq_mod, show (2139095040 : UInt32).toNat = 2139095040 by decide] at hn
  have hE : FP.Core.fieldE FP.Core.b32 x.toNat = 255 := by
    show x.toNat / 8388608 % 256 = 255
    omega
  have hT : ¬ FP.Core.fieldT FP.Core.b32 x.toNat = 0 := by
    show ¬ x.toNat % 8388608 = 0
    omega
  unfold FP.Core.val32 FP.Core.decode at h
  rw [if_pos (show FP.Core.fieldE FP.Core.b32 x.toNat = FP.Core.b32.exps - 1 from hE), if_neg hT] at h
  exact absurd h (by simp)
theorem f_dec (k : Nat) : nI (k + 1) + (-1) = nI k := by
  rw [← nI_add k 1, Int32.add_assoc, show (nI 1 + (-1) : Int32) = 0 by decide, Int32.add_zero]
end
section
/-! floats: a quotient of two numbers of like size is normal -/
theorem f_rr {s : Bool} {A B k : Nat} {e q : Int} (hk : (e - q).toNat = k) (hk0 : (q - e).toNat = 0) (hA : 0 < A) (hB : 0 < B) (hl : 8388608 * B ≤ A * 2 ^ k) (hu : A * 2 ^ k < 16777216 * B) (h1 : -149 ≤ q) (h2 : q ≤ 100) :
    ∃ c r, FP.Core.roundRatio FP.Core.b32 s A B e = .fin s c r ∧ 8388608 ≤ c ∧ c < 16777216 ∧ q ≤ r ∧ r ≤ q + 1 := by
  have hq : FP.Core.quantum FP.Core.b32 A B e = q := by
    refine FP.Core.quantum_eq hA hB h1 ?_ (.inr fun hb => ?_)
    · refine (FP.Core.units_below A B e q 24).mp ?_
      unfold FP.Core.unitsNum FP.Core.unitsDen
      rw [hk, hk0]
      omega
    · have h := (FP.Core.units_below A B e q 23).mpr hb
      unfold FP.Core.unitsNum FP.Core.unitsDen at h
      rw [hk, hk0] at h
      omega
  unfold FP.Core.roundRatio
  rw [if_neg (by omega), hq]
  unfold FP.Core.roundAt FP.Core.unitsNum FP.Core.unitsDen
  rw [hk, hk0, Nat.pow_zero, Nat.mul_one]
  have n1 := FP.Core.nearest_ge (A := A * 2 ^ k) hB hl
  have n2 := FP.Core.nearest_le (A := A * 2 ^ k) hB (Nat.le_of_lt hu)
  generalize FP.Core.nearest (A * 2 ^ k) B = N at n1 n2
  unfold FP.Core.settle FP.Core.bound
  by_cases hN : N < 16777216
  · refine ⟨N, q, ?_, n1, hN, by omega, by omega⟩
    rw [if_pos (show N < 2 ^ FP.Core.b32.p from hN), if_pos (show q ≤ FP.Core.b32.qmax from (show q ≤ (104 : Int) by omega))]
  · refine ⟨8388608, q + 1, ?_, by decide, by decide, by omega, by omega⟩
    rw [if_neg (show ¬ N < 2 ^ FP.Core.b32.p from hN), if_pos (show q + 1 ≤ FP.Core.b32.qmax from (show q + 1 ≤ (104 : Int) by omega))]
    rfl
theorem f_quo {x y : UInt32} {s : Bool} {c d : Nat} {q r : Int} (hx : FP.Core.val32 x = .fin s c q) (hy : FP.Core.val32 y = .fin false d r) (c1 : 8388608 ≤ c) (c2 : c < 16777216) (d1 : 8388608 ≤ d) (d2 : d < 16777216) (h1 : -90 ≤ q - r) (h2 : q - r ≤ 90) :
    ∃ a b, FP.Core.val32 (FP.Core.fdiv x y) = .fin s a b ∧ 8388608 ≤ a ∧ a < 16777216 ∧ q - r - 24 ≤ b ∧ b ≤ q - r - 22 := by
  rw [FP.Core.val32_fdiv, hx, hy]
  unfold FP.Core.quotient
  simp only [show ¬ d = 0 by omega, if_false, f_sb]
  by_cases h : d ≤ c
  · obtain ⟨a, b, e1, e2, e3, e4, e5⟩ := f_rr (s := s) (A := c) (B := d) (k := 23) (e := q - r) (q := q - r - 23) (by omega) (by omega) (by omega) (by omega) (by omega) (by omega) (by omega) (by omega)
    exact ⟨a, b, e1, e2, e3, by omega, by omega⟩
  · obtain ⟨a, b, e1, e2, e3, e4, e5⟩ := f_rr (s := s) (A := c) (B := d) (k := 24) (e := q - r) (q := q - r - 24) (by omega) (by omega) (by omega) (by omega) (by omega) (by omega) (by omega) (by omega)
    exact ⟨a, b, e1, e2, e3, by omega, by omega⟩
/-- a whole number, exactly -/
theorem f_i2f {a : Int32} {m : Nat} (hm : a.toInt.natAbs = m) (h0 : 0 < m) (h1 : m < 16777216) : ∃ j : Nat, j ≤ 23 ∧ FP.Core.val32 (FP.Core.i2f a) = .fin (decide (a.toInt < 0)) (m * 2 ^ j) (-(j : Int)) ∧ 8388608 ≤ m * 2 ^ j ∧ m * 2 ^ j < 16777216 := by
  obtain ⟨j, j1, j2, j3⟩ := f_norm h0 h1
  refine ⟨j, j1, ?_, j2, j3⟩
  rw [FP.Core.val32_i2f]
  unfold FP.Core.ofInt
  rw [hm]
  show FP.Core.roundRatio FP.Core.b32 _ m 1 0 = _
  refine FP.Core.roundRatio_exact FP.Core.good_b32 (by decide) ⟨j3, ?_, ?_, .inr j2⟩ ?_
  · show (-149 : Int) ≤ -(j : Int); omega
  · show -(j : Int) ≤ (104 : Int); omega
  · rw [show ((0 : Int) - -(j : Int)).toNat = j by omega, show (-(j : Int) - 0).toNat = 0 by omega]; omega
end
section
/-! floats: no NaN in X9's end, means and trusts -/
theorem f_subN {x : UInt32} {c : Nat} (h : FP.Core.val32 x = .fin false c (-23)) (h1 : 8388608 ≤ c) (h2 : c < 16777216) : ∃ (m : Nat) (q : Int), FP.Core.val32 (FP.Core.fsub x 1065353216) = .fin false m q := by
  rw [f_sub1 h h1]
  by_cases h0 : c - 8388608 = 0
  · rw [h0]; exact ⟨_, _, rfl⟩
  · obtain ⟨j, j1, j2, j3⟩ := f_norm (m := c - 8388608) (by omega) (by omega)
    have hm : c - 8388608 < 16777216 := by omega
    generalize c - 8388608 = m at *
    refine ⟨m * 2 ^ j, -23 - (j : Int), FP.Core.roundRatio_exact FP.Core.good_b32 (by decide) ⟨j3, ?_, ?_, .inr j2⟩ ?_⟩
    · show (-149 : Int) ≤ -23 - (j : Int); omega
    · show -23 - (j : Int) ≤ (104 : Int); omega
    · rw [show ((-23 : Int) - (-23 - (j : Int))).toNat = j by omega, show ((-23 - (j : Int)) - (-23)).toNat = 0 by omega]; omega
theorem f_mulN {x : UInt32} {c : Nat} (h : FP.Core.val32 x = .fin false c (-23)) (h1 : 8388608 ≤ c) (h2 : c < 16777216) : ∃ (m : Nat) (q : Int), FP.Core.val32 (FP.Core.fmul (FP.Core.fsub x 1065353216) 1258291200) = .fin false m q := by
  rw [FP.Core.val32_fmul, f_sub1 h h1, f_p23]
  by_cases h0 : c - 8388608 = 0
  · rw [h0]; exact ⟨_, _, rfl⟩
  · obtain ⟨j, j1, j2, j3⟩ := f_norm (m := c - 8388608) (by omega) (by omega)
    have hm : c - 8388608 < 16777216 := by omega
    generalize c - 8388608 = m at *
    rw [show FP.Core.roundRatio FP.Core.b32 false m 1 (-23) = .fin false (m * 2 ^ j) (-23 - (j : Int)) from by
      refine FP.Core.roundRatio_exact FP.Core.good_b32 (by decide) ⟨j3, ?_, ?_, .inr j2⟩ ?_
      · show (-149 : Int) ≤ -23 - (j : Int); omega
      · show -23 - (j : Int) ≤ (104 : Int); omega
      · rw [show ((-23 : Int) - (-23 - (j : Int))).toNat = j by omega, show ((-23 - (j : Int)) - (-23)).toNat = 0 by omega]; omega]
    show ∃ (a : Nat) (q : Int), FP.Core.roundRatio FP.Core.b32 (false != false) (m * 2 ^ j * 8388608) 1 (-23 - (j : Int) + 0) = .fin false a q
    rw [f_sb]
    refine ⟨m * 2 ^ j, -(j : Int), FP.Core.roundRatio_exact FP.Core.good_b32 (by decide) ⟨j3, ?_, ?_, .inr j2⟩ ?_⟩
    · show (-149 : Int) ≤ -(j : Int); omega
    · show -(j : Int) ≤ (104 : Int); omega
    · rw [show ((-23 - (j : Int) + 0) - (-(j : Int))).toNat = 0 by omega, show ((-(j : Int)) - (-23 - (j : Int) + 0)).toNat = 23 by omega]; omega
theorem f_nnS {x : UInt32} {c : Nat} (h : FP.Core.val32 x = .fin false c (-23)) (h1 : 8388608 ≤ c) (h2 : c < 16777216) : vf_n32 (FP.Core.fsub x 1065353216) := by
  obtain ⟨m, q, e⟩ := f_subN h h1 h2
  exact f_nn e
theorem f_nnM {x : UInt32} {c : Nat} (h : FP.Core.val32 x = .fin false c (-23)) (h1 : 8388608 ≤ c) (h2 : c < 16777216) : vf_n32 (FP.Core.fmul (FP.Core.fsub x 1065353216) 1258291200) := by
  obtain ⟨m, q, e⟩ := f_mulN h h1 h2
  exact f_nn e
/-- a float that is 0, or normal and of a moderate size -/
def f_ok (x : UInt32) : Prop := x = 0 ∨ ∃ (s : Bool) (u w : Nat), FP.Core.val32 x = .fin s u (-(w : Int)) ∧ 8388608 ≤ u ∧ u < 16777216 ∧ w ≤ 60
noncomputable def f_bits (x : UInt32) : Int32 := if x = 0 then 0 else match FP.Core.val32 x with
  | .fin s u q => if s = true then ((nI (150 - (-q).toNat) <<< (23 &&& 31)) + (nI u - 8388608)) ||| (-2147483648) else (nI (150 - (-q).toNat) <<< (23 &&& 31)) + (nI u - 8388608)
  | _ => 0
theorem f_bits0 : f_bits 0 = 0 := if_pos rfl
theorem f_ok0 {x : UInt32} {s : Bool} {u : Nat} {q : Int} (h : FP.Core.val32 x = .fin s u q) (h1 : 8388608 ≤ u) : ¬ x = 0 := by
  intro e
  rw [e, f_zero] at h
  injection h with _ h2 _
  omega
theorem f_bitsP {x : UInt32} {u w : Nat} (h : FP.Core.val32 x = .fin false u (-(w : Int))) (h1 : 8388608 ≤ u) : f_bits x = (nI (150 - w) <<< (23 &&& 31)) + (nI u - 8388608) := by
  unfold f_bits
  rw [if_neg (f_ok0 h h1), h]
  simp only [Bool.false_eq_true, if_false, Int.neg_neg, Int.toNat_natCast]
theorem f_bitsM {x : UInt32} {u w : Nat} (h : FP.Core.val32 x = .fin true u (-(w : Int))) (h1 : 8388608 ≤ u) : f_bits x = ((nI (150 - w) <<< (23 &&& 31)) + (nI u - 8388608)) ||| (-2147483648) := by
  unfold f_bits
  rw [if_neg (f_ok0 h h1), h]
  simp only [if_true, Int.neg_neg, Int.toNat_natCast]
theorem f_okN {x : UInt32} (h : f_ok x) : vf_n32 x := by
  rcases h with h | ⟨s, u, w, h, -, -, -⟩
  · rw [h]; unfold vf_n32; decide
  · exact f_nn h
theorem f_z0 : ∀ n < 65, 0 < n → FP.Core.fdiv 0 (FP.Core.i2f (nI n)) = 0 := by decide +kernel
theorem f_zi : FP.Core.i2f 0 = 0 := by decide +kernel
theorem f_jlo {m j B : Nat} (hm : m ≤ B) (hB : B * 1024 < 8388608) (h : 8388608 ≤ m * 2 ^ j) : 11 ≤ j := by
  refine Nat.lt_of_not_le fun hj => ?_
  have h1 : 2 ^ j ≤ 2 ^ 10 := Nat.pow_le_pow_right (n := 2) (by decide) hj
  have h2 : m * 2 ^ j ≤ B * 2 ^ 10 := Nat.mul_le_mul hm h1
  omega
theorem f_nIabs {n : Nat} (h : n ≤ 128) : (nI n).toInt.natAbs = n := by rw [nI_toInt (by omega)]; omega
/-- a mean -/
theorem f_okQ {a : Int32} {n : Nat} (ha : a.toInt.natAbs ≤ 6400) (h0 : 0 < n) (hn : n ≤ 64) : f_ok (FP.Core.fdiv (FP.Core.i2f a) (FP.Core.i2f (nI n))) := by
  by_cases hz : a = 0
  · left; rw [hz, f_zi]; exact f_z0 n (by omega) h0
  · right
    have hm : 0 < a.toInt.natAbs := by
      rcases Nat.eq_zero_or_pos a.toInt.natAbs with h | h
      · exact absurd (Int32.toInt_inj.mp (show a.toInt = (0 : Int32).toInt by rw [show (0 : Int32).toInt = 0 by decide]; omega)) hz
      · exact h
    obtain ⟨j, j1, jv, j2, j3⟩ := f_i2f (a := a) rfl hm (by omega)
    obtain ⟨k, k1, kv, k2, k3⟩ := f_i2f (a := nI n) (f_nIabs (by omega)) h0 (by omega)
    have hj := f_jlo ha (by decide) j2
    rw [show decide ((nI n).toInt < 0) = false from decide_eq_false (by rw [nI_toInt (by omega)]; omega)] at kv
    obtain ⟨u, b, e1, e2, e3, e4, e5⟩ := f_quo jv kv j2 j3 k2 k3 (by omega) (by omega)
    refine ⟨_, u, (-b).toNat, ?_, e2, e3, by omega⟩
    rw [e1, show -(((-b).toNat : Nat) : Int) = b by omega]
/-- half a whole number -/
theorem f_hV {k : Nat} (h0 : 0 < k) (hk : k ≤ 128) : ∃ (c j : Nat), FP.Core.val32 (f_h k) = .fin false c (-(j : Int)) ∧ 8388608 ≤ c ∧ c < 16777216 ∧ 12 ≤ j ∧ j ≤ 24 := by
  obtain ⟨j, j1, jv, j2, j3⟩ := f_i2f (a := nI k) (f_nIabs (by omega)) h0 (by omega)
  have hj := f_jlo hk (by decide) j2
  rw [show decide ((nI k).toInt < 0) = false from decide_eq_false (by rw [nI_toInt (by omega)]; omega)] at jv
  refine ⟨k * 2 ^ j, j + 1, ?_, j2, j3, by omega, by omega⟩
  have h := f_half jv j2 j3 (by omega) (by omega)
  rw [show (-(((j + 1 : Nat)) : Int)) = -(j : Int) - 1 by omega]
  exact h
/-- a trust -/
theorem f_okH {k n : Nat} (hk : k ≤ 128) (h0 : 0 < n) (hn : n ≤ 64) : f_ok (FP.Core.fdiv (f_h k) (FP.Core.i2f (nI n))) := by
  rcases Nat.eq_zero_or_pos k with hz | hz
  · left; rw [hz, f_h00]; exact f_z0 n (by omega) h0
  · right
    obtain ⟨c, j, cv, c1, c2, c3, c4⟩ := f_hV hz hk
    obtain ⟨i, k1, kv, k2, k3⟩ := f_i2f (a := nI n) (f_nIabs (by omega)) h0 (by omega)
    rw [show decide ((nI n).toInt < 0) = false from decide_eq_false (by rw [nI_toInt (by omega)]; omega)] at kv
    obtain ⟨u, b, e1, e2, e3, e4, e5⟩ := f_quo cv kv c1 c2 k2 k3 (by omega) (by omega)
    refine ⟨_, u, (-b).toNat, ?_, e2, e3, by omega⟩
    rw [e1, show -(((-b).toNat : Nat) : Int) = b by omega]
end
section
set_option maxHeartbeats 400000 in
set_option maxRecDepth 100000 in
theorem c_X8_bitsOfZ (l : Launch) (D : va_G) (I C Q : ClassId) (x : UInt32) (h0 : x = 0) : KI l D (tyL I C Q) yX8_bitsOf wsX8_bitsOf { frames := 0, cells := 0, slots := 0, locals := 0 } [.float x] [] [] 0 := by
  refine KI.of (cc := cX8_bitsOf) (maxL := 4) (rt := .int) (own := RX8) (by decide) rfl rfl (Nat.le_of_ble_eq_true rfl) ?_
  intro p e s m below meth c A Q0 ls hx hb hml hown hts hE hA hP hD hS hl hend
  have hK := hE.1
  have hF : CallFix p m c cX8_bitsOf 4 s [.float x].toArray wsX8_bitsOf RX8 := ⟨hx, hb, hml, hown, hts⟩
  have hl : lv_has ls 4 [(0, .float x)] := hl
  refine lv_fload_n hx hb dX8_bitsOf_0 rfl (lv_at hl 0 rfl) ?_
  refine lv_fconst0 hx hb dX8_bitsOf_1 ?_
  refine lv_fcmp hx hb dX8_bitsOf_2 ?_
  refine lv_if_ne (tgt := 8) hx hb dX8_bitsOf_3 (by decide) (fun c_3 => ?_) (fun c_3 => ?_)
  · exact absurd (by rw [h0]; decide +kernel) c_3
  · refine lv_iconst (v := 0) hx hb dX8_bitsOf_6 (by decide) ?_
    exact hend _ _ _ _ _ _ hP hD hS dX8_bitsOf_7 rfl rfl rfl
set_option maxHeartbeats 400000 in
set_option maxRecDepth 100000 in
theorem c_X9_bitsOfZ (l : Launch) (D : va_G) (I C Q : ClassId) (x : UInt32) (h0 : x = 0) : KI l D (tyL I C Q) yX9_bitsOf wsX9_bitsOf { frames := 0, cells := 0, slots := 0, locals := 0 } [.float x] [] [] 0 := by
  refine KI.of (cc := cX9_bitsOf) (maxL := 4) (rt := .int) (own := RX9) (by decide) rfl rfl (Nat.le_of_ble_eq_true rfl) ?_
  intro p e s m below meth c A Q0 ls hx hb hml hown hts hE hA hP hD hS hl hend
  have hK := hE.1
  have hF : CallFix p m c cX9_bitsOf 4 s [.float x].toArray wsX9_bitsOf RX9 := ⟨hx, hb, hml, hown, hts⟩
  have hl : lv_has ls 4 [(0, .float x)] := hl
  refine lv_fload_n hx hb dX9_bitsOf_0 rfl (lv_at hl 0 rfl) ?_
  refine lv_fconst0 hx hb dX9_bitsOf_1 ?_
  refine lv_fcmp hx hb dX9_bitsOf_2 ?_
  refine lv_if_ne (tgt := 8) hx hb dX9_bitsOf_3 (by decide) (fun c_3 => ?_) (fun c_3 => ?_)
  · exact absurd (by rw [h0]; decide +kernel) c_3
  · refine lv_iconst (v := 0) hx hb dX9_bitsOf_6 (by decide) ?_
    exact hend _ _ _ _ _ _ hP hD hS dX9_bitsOf_7 rfl rfl rfl
end
section
set_option maxHeartbeats 400000 in
set_option maxRecDepth 100000 in
theorem c_X8_bitsOfP (l : Launch) (D : va_G) (I C Q : ClassId) (u : Nat) (w : Nat) (x : UInt32) (hvx : FP.Core.val32 x = .fin false u (-(w : Int))) (hc1 : 8388608 ≤ u) (hc2 : u < 16777216) (hw : w ≤ 60) : KI l D (tyL I C Q) yX8_bitsOf wsX8_bitsOf { frames := 0, cells := 0, slots := 0, locals := 0 } [.float x] [] [] ((nI (150 - w) <<< (23 &&& 31)) + (nI u - 8388608)) := by
  refine KI.of (cc := cX8_bitsOf) (maxL := 4) (rt := .int) (own := RX8) (by decide) rfl rfl (Nat.le_of_ble_eq_true rfl) ?_
  intro p e s m below meth c A Q0 ls hx hb hml hown hts hE hA hP hD hS hl hend
  have hK := hE.1
  have hF : CallFix p m c cX8_bitsOf 4 s [.float x].toArray wsX8_bitsOf RX8 := ⟨hx, hb, hml, hown, hts⟩
  have k0 := hts (.constantFloat RX8 191 (1258291200)) (List.mem_of_getElem? (i := 1) rfl)
  have k1 := hts (.constant RX8 192 (8388608)) (List.mem_of_getElem? (i := 2) rfl)
  have hl : lv_has ls 4 [(0, .float x)] := hl
  refine lv_fload_n hx hb dX8_bitsOf_0 rfl (lv_at hl 0 rfl) ?_
  refine lv_fconst0 hx hb dX8_bitsOf_1 ?_
  refine lv_fcmp hx hb dX8_bitsOf_2 ?_
  refine lv_if_ne (tgt := 8) hx hb dX8_bitsOf_3 (by decide) (fun c_3 => ?_) (fun c_3 => ?_)
  · refine lv_fload_n hx hb dX8_bitsOf_8 rfl (lv_at hl 0 rfl) ?_
    refine lv_fconst0 hx hb dX8_bitsOf_9 ?_
    refine lv_fcmp hx hb dX8_bitsOf_10 ?_
    refine lv_if_ge (tgt := 19) hx hb dX8_bitsOf_11 (by decide) (fun c_11 => ?_) (fun c_11 => ?_)
    · refine lv_fload_n hx hb dX8_bitsOf_19 rfl (lv_at hl 0 rfl) ?_
      refine lv_fstore_n (lv' := [(1, .float x), (0, .float x)]) hx hb dX8_bitsOf_20 rfl hl (by decide) rfl (fun ls hl => ?_)
      refine lv_sipush (v := 150) hx hb dX8_bitsOf_21 (by decide) ?_
      refine lv_istore_n (lv' := [(2, .int 150), (1, .float x), (0, .float x)]) hx hb dX8_bitsOf_24 rfl hl (by decide) rfl (fun ls hl => ?_)
      refine lv_iconst (v := 0) hx hb dX8_bitsOf_25 (by decide) ?_
      refine lv_istore_n (lv' := [(3, .int 0), (2, .int 150), (1, .float x), (0, .float x)]) hx hb dX8_bitsOf_26 rfl hl (by decide) rfl (fun ls hl => ?_)
      have loop27 : ∀ (n : Nat) (f : UInt32) (i : Nat) (g : Int32), (FP.Core.val32 f = .fin false u (-(w : Int) + (i : Int))) → (i ≤ w) → (i + n = 150) → (g = nI (150 - i)) → ∀ (H : Heap) (locs : List Loc) (ls : Array Slot), va_P D vwCl [] H → va_D A [] → va_S A s.heap H locs → lv_has ls 4 [(0, .float x), (1, .float f), (2, .int g), (3, .int (nI i))] → W p l e ({ frames := 0, cells := 0, slots := 0, locals := 0 } : Room) s m [.float x].toArray below meth c H locs 0 0 Q0 (F0 m 27 ls []) := by
        intro n
        induction n with
        | zero =>
          intro f i g hfi hiw hin hg H locs ls hP hD hS hl
          refine lv_iload_n hx hb dX8_bitsOf_27 rfl (lv_at hl 3 rfl) ?_
          refine lv_sipush (v := 150) hx hb dX8_bitsOf_28 (by decide) ?_
          refine lv_icmp_ge (tgt := 54) hx hb dX8_bitsOf_31 (by decide) (fun c_31 => ?_) (fun c_31 => ?_)
          · exact absurd ((nI_leI (a := 150) (b := i) (by omega) (by omega)).mp c_31) (by omega)
          · exact absurd hin (by omega)
        | succ n ih =>
          intro f i g hfi hiw hin hg H locs ls hP hD hS hl
          refine lv_iload_n hx hb dX8_bitsOf_27 rfl (lv_at hl 3 rfl) ?_
          refine lv_sipush (v := 150) hx hb dX8_bitsOf_28 (by decide) ?_
          refine lv_icmp_ge (tgt := 54) hx hb dX8_bitsOf_31 (by decide) (fun c_31 => ?_) (fun c_31 => ?_)
          · exact absurd ((nI_leI (a := 150) (b := i) (by omega) (by omega)).mp c_31) (by omega)
          · refine lv_fload_n hx hb dX8_bitsOf_34 rfl (lv_at hl 1 rfl) ?_
            refine lv_ldcf (v := (1258291200)) hx hb hown k0 dX8_bitsOf_35 ?_
            refine lv_fcmp hx hb dX8_bitsOf_37 ?_
            refine lv_if_ge (tgt := 54) hx hb dX8_bitsOf_38 (by decide) (fun c_38 => ?_) (fun c_38 => ?_)
            · have he38 : i = w := by rcases (show i < w ∨ i = w by omega) with h | h; rw [f_lt hfi f_p23 hc2 (by omega)] at c_38; exact absurd c_38 (by decide); exact h
              refine lv_iload_n hx hb dX8_bitsOf_54 rfl (lv_at hl 2 rfl) ?_
              refine lv_bipush (v := 23) hx hb dX8_bitsOf_55 (by decide) ?_
              refine lv_ishl hx hb dX8_bitsOf_57 ?_
              refine lv_fload_n hx hb dX8_bitsOf_58 rfl (lv_at hl 1 rfl) ?_
              refine lv_f2i hx hb dX8_bitsOf_59 ?_
              refine lv_ldc (v := (8388608)) hx hb hown k1 dX8_bitsOf_60 ?_
              refine lv_isub hx hb dX8_bitsOf_62 ?_
              refine lv_iadd hx hb dX8_bitsOf_63 ?_
              refine lv_istore_n (lv' := [(3, .int ((g <<< (23 &&& 31)) + ((FP.f2i f) - (8388608)))), (0, .float x), (1, .float f), (2, .int g)]) hx hb dX8_bitsOf_64 rfl hl (by decide) rfl (fun ls hl => ?_)
              refine lv_fload_n hx hb dX8_bitsOf_65 rfl (lv_at hl 1 rfl) ?_
              refine lv_fconst0 hx hb dX8_bitsOf_66 ?_
              refine lv_fcmp hx hb dX8_bitsOf_67 ?_
              refine lv_if_ge (tgt := 78) hx hb dX8_bitsOf_68 (by decide) (fun c_68 => ?_) (fun c_68 => ?_)
              · refine lv_iload_n hx hb dX8_bitsOf_78 rfl (lv_at hl 0 rfl) ?_
                exact hend _ _ _ _ _ _ hP hD hS dX8_bitsOf_79 rfl rfl (by rw [hg, he38, show FP.f2i f = nI u from f_f2i (by rw [hfi, he38, Int.add_left_neg]) hc2])
              · exact absurd (show (0 : Int32) ≤ Op.cmpValue (FP.fcmp x 0) .g by rw [f_pos0 hvx (by omega)]; decide) c_68
            · have he38 : i < w := by rcases (show i < w ∨ i = w by omega) with h | h; exact h; rcases f_ge hfi f_p23 hc1 (by omega) with h2 | h2 <;> rw [h2] at c_38 <;> exact absurd (by decide) c_38
              refine lv_fload_n hx hb dX8_bitsOf_41 rfl (lv_at hl 1 rfl) ?_
              refine lv_fconst2 hx hb dX8_bitsOf_42 ?_
              refine lv_fmul hx hb dX8_bitsOf_43 (f_nn (f_dbl hfi hc1 hc2 (by omega) (by omega))) ?_
              refine lv_fstore_n (lv' := [(1, .float (FP.fmul f FP.fconst2)), (0, .float x), (2, .int g), (3, .int (nI i))]) hx hb dX8_bitsOf_44 rfl hl (by decide) rfl (fun ls hl => ?_)
              refine lv_iinc (v := g + (-1)) (lv' := [(2, .int (g + (-1))), (1, .float (FP.fmul f FP.fconst2)), (0, .float x), (3, .int (nI i))]) hx hb dX8_bitsOf_45 hl (k := 2) rfl rfl (by decide) rfl (fun ls hl => ?_)
              refine lv_iinc (v := nI (i + 1)) (lv' := [(3, .int (nI (i + 1))), (2, .int (g + (-1))), (1, .float (FP.fmul f FP.fconst2)), (0, .float x)]) hx hb dX8_bitsOf_48 hl (k := 3) rfl (nI_inc i) (by decide) rfl (fun ls hl => ?_)
              refine lv_goto (tgt := 27) hx hb dX8_bitsOf_51 (by decide) ?_
              exact ih (FP.fmul f FP.fconst2) (i + 1) (g + (-1)) (by rw [show (-(w : Int) + ((i + 1 : Nat) : Int)) = (-(w : Int) + (i : Int)) + 1 by omega]; exact f_dbl hfi hc1 hc2 (by omega) (by omega)) (by omega) (by omega) (by rw [hg, show 150 - i = (150 - (i + 1)) + 1 by omega]; exact f_dec _) _ _ _ hP hD hS (lv_sub hl [3, 2, 1, 0] rfl) 
      exact loop27 150 x 0 150 (by rw [hvx]; simp) (by omega) (by omega) rfl _ _ _ hP hD hS (lv_sub hl [3, 2, 1, 0] rfl) 
    · exact absurd (show (0 : Int32) ≤ Op.cmpValue (FP.fcmp x 0) .g by rw [f_pos0 hvx (by omega)]; decide) c_11
  · exact absurd c_3 (by show ¬ Op.cmpValue (FP.fcmp x 0) .l = 0; rw [f_pos0 hvx (by omega)]; decide)
end
section
set_option maxHeartbeats 400000 in
set_option maxRecDepth 100000 in
theorem c_X9_bitsOfP (l : Launch) (D : va_G) (I C Q : ClassId) (u : Nat) (w : Nat) (x : UInt32) (hvx : FP.Core.val32 x = .fin false u (-(w : Int))) (hc1 : 8388608 ≤ u) (hc2 : u < 16777216) (hw : w ≤ 60) : KI l D (tyL I C Q) yX9_bitsOf wsX9_bitsOf { frames := 0, cells := 0, slots := 0, locals := 0 } [.float x] [] [] ((nI (150 - w) <<< (23 &&& 31)) + (nI u - 8388608)) := by
  refine KI.of (cc := cX9_bitsOf) (maxL := 4) (rt := .int) (own := RX9) (by decide) rfl rfl (Nat.le_of_ble_eq_true rfl) ?_
  intro p e s m below meth c A Q0 ls hx hb hml hown hts hE hA hP hD hS hl hend
  have hK := hE.1
  have hF : CallFix p m c cX9_bitsOf 4 s [.float x].toArray wsX9_bitsOf RX9 := ⟨hx, hb, hml, hown, hts⟩
  have k0 := hts (.constantFloat RX9 120 (1258291200)) (List.mem_of_getElem? (i := 1) rfl)
  have hl : lv_has ls 4 [(0, .float x)] := hl
  refine lv_fload_n hx hb dX9_bitsOf_0 rfl (lv_at hl 0 rfl) ?_
  refine lv_fconst0 hx hb dX9_bitsOf_1 ?_
  refine lv_fcmp hx hb dX9_bitsOf_2 ?_
  refine lv_if_ne (tgt := 8) hx hb dX9_bitsOf_3 (by decide) (fun c_3 => ?_) (fun c_3 => ?_)
  · refine lv_fload_n hx hb dX9_bitsOf_8 rfl (lv_at hl 0 rfl) ?_
    refine lv_fconst0 hx hb dX9_bitsOf_9 ?_
    refine lv_fcmp hx hb dX9_bitsOf_10 ?_
    refine lv_if_ge (tgt := 19) hx hb dX9_bitsOf_11 (by decide) (fun c_11 => ?_) (fun c_11 => ?_)
    · refine lv_fload_n hx hb dX9_bitsOf_19 rfl (lv_at hl 0 rfl) ?_
      refine lv_fstore_n (lv' := [(1, .float x), (0, .float x)]) hx hb dX9_bitsOf_20 rfl hl (by decide) rfl (fun ls hl => ?_)
      refine lv_bipush (v := 127) hx hb dX9_bitsOf_21 (by decide) ?_
      refine lv_istore_n (lv' := [(2, .int 127), (1, .float x), (0, .float x)]) hx hb dX9_bitsOf_23 rfl hl (by decide) rfl (fun ls hl => ?_)
      have loop24 : ∀ (n : Nat) (f : UInt32) (i : Nat) (g : Int32), (FP.Core.val32 f = .fin false u (-(w : Int) - (i : Int))) → (i = 0 ∨ w + i ≤ 23) → (i + n = 24) → (g = nI (127 + i)) → ∀ (H : Heap) (locs : List Loc) (ls : Array Slot), va_P D vwCl [] H → va_D A [] → va_S A s.heap H locs → lv_has ls 4 [(0, .float x), (1, .float f), (2, .int g)] → W p l e ({ frames := 0, cells := 0, slots := 0, locals := 0 } : Room) s m [.float x].toArray below meth c H locs 0 0 Q0 (F0 m 24 ls []) := by
        intro n
        induction n with
        | zero =>
          intro f i g hfi hiw hin hg H locs ls hP hD hS hl
          refine lv_fload_n hx hb dX9_bitsOf_24 rfl (lv_at hl 1 rfl) ?_
          refine lv_fconst2 hx hb dX9_bitsOf_25 ?_
          refine lv_fcmp hx hb dX9_bitsOf_26 ?_
          refine lv_if_lt (tgt := 40) hx hb dX9_bitsOf_27 (by decide) (fun c_27 => ?_) (fun c_27 => ?_)
          · exact absurd hin (by omega)
          · exact absurd hin (by omega)
        | succ n ih =>
          intro f i g hfi hiw hin hg H locs ls hP hD hS hl
          refine lv_fload_n hx hb dX9_bitsOf_24 rfl (lv_at hl 1 rfl) ?_
          refine lv_fconst2 hx hb dX9_bitsOf_25 ?_
          refine lv_fcmp hx hb dX9_bitsOf_26 ?_
          refine lv_if_lt (tgt := 40) hx hb dX9_bitsOf_27 (by decide) (fun c_27 => ?_) (fun c_27 => ?_)
          · have he27 : 23 ≤ w + i := by rcases (show 23 ≤ w + i ∨ w + i < 23 by omega) with h | h; exact h; rcases f_ge hfi f_two hc1 (by omega) with h2 | h2 <;> rw [h2] at c_27 <;> exact absurd c_27 (by decide)
            have loop40 : ∀ (n : Nat) (f2 : UInt32) (j : Nat) (g2 : Int32), (FP.Core.val32 f2 = .fin false u (-((w + i : Nat) : Int) + (j : Int))) → (j + n = w + i - 23) → (g2 = nI (127 + i - j)) → ∀ (H : Heap) (locs : List Loc) (ls : Array Slot), va_P D vwCl [] H → va_D A [] → va_S A s.heap H locs → lv_has ls 4 [(0, .float x), (1, .float f2), (2, .int g2)] → W p l e ({ frames := 0, cells := 0, slots := 0, locals := 0 } : Room) s m [.float x].toArray below meth c H locs 0 0 Q0 (F0 m 40 ls []) := by
              intro n
              induction n with
              | zero =>
                intro f2 j g2 hfj hjw hg2 H locs ls hP hD hS hl
                refine lv_fload_n hx hb dX9_bitsOf_40 rfl (lv_at hl 1 rfl) ?_
                refine lv_fconst1 hx hb dX9_bitsOf_41 ?_
                refine lv_fcmp hx hb dX9_bitsOf_42 ?_
                refine lv_if_ge (tgt := 56) hx hb dX9_bitsOf_43 (by decide) (fun c_43 => ?_) (fun c_43 => ?_)
                · have he43 : j = w + i - 23 := by rcases (show j < w + i - 23 ∨ j = w + i - 23 by omega) with h | h; rw [f_lt hfj f_one hc2 (by omega)] at c_43; exact absurd c_43 (by decide); exact h
                  refine lv_iload_n hx hb dX9_bitsOf_56 rfl (lv_at hl 2 rfl) ?_
                  refine lv_bipush (v := 23) hx hb dX9_bitsOf_57 (by decide) ?_
                  refine lv_ishl hx hb dX9_bitsOf_59 ?_
                  refine lv_fload_n hx hb dX9_bitsOf_60 rfl (lv_at hl 1 rfl) ?_
                  refine lv_fconst1 hx hb dX9_bitsOf_61 ?_
                  have hfz : FP.Core.val32 f2 = .fin false u (-23) := by rw [hfj]; congr 1; omega
                  refine lv_fsub hx hb dX9_bitsOf_62 (f_nnS hfz hc1 hc2) ?_
                  refine lv_ldcf (v := (1258291200)) hx hb hown k0 dX9_bitsOf_63 ?_
                  refine lv_fmul hx hb dX9_bitsOf_65 (f_nnM hfz hc1 hc2) ?_
                  refine lv_f2i hx hb dX9_bitsOf_66 ?_
                  refine lv_iadd hx hb dX9_bitsOf_67 ?_
                  refine lv_istore_n (lv' := [(3, .int ((g2 <<< (23 &&& 31)) + (FP.f2i (FP.fmul (FP.fsub f2 FP.fconst1) (1258291200))))), (0, .float x), (1, .float f2), (2, .int g2)]) hx hb dX9_bitsOf_68 rfl hl (by decide) rfl (fun ls hl => ?_)
                  refine lv_fload_n hx hb dX9_bitsOf_69 rfl (lv_at hl 1 rfl) ?_
                  refine lv_fconst0 hx hb dX9_bitsOf_70 ?_
                  refine lv_fcmp hx hb dX9_bitsOf_71 ?_
                  refine lv_if_ge (tgt := 82) hx hb dX9_bitsOf_72 (by decide) (fun c_72 => ?_) (fun c_72 => ?_)
                  · refine lv_iload_n hx hb dX9_bitsOf_82 rfl (lv_at hl 0 rfl) ?_
                    exact hend _ _ _ _ _ _ hP hD hS dX9_bitsOf_83 rfl rfl (by rw [hg2, show FP.f2i (FP.fmul (FP.fsub f2 FP.fconst1) 1258291200) = nI (u - 8388608) from f_frac hfz hc1 hc2, show 127 + i - j = 150 - w by omega, show nI u - 8388608 = nI (u - 8388608) from pk_sub (a := u) (b := 8388608) (by omega)])
                  · exact absurd (show (0 : Int32) ≤ Op.cmpValue (FP.fcmp x 0) .g by rw [f_pos0 hvx (by omega)]; decide) c_72
                · exact absurd (show (0 : Int32) ≤ Op.cmpValue (FP.fcmp f2 FP.fconst1) .g by rcases f_ge hfj f_one hc1 (by omega) with h2 | h2 <;> rw [show FP.fcmp f2 FP.fconst1 = _ from h2] <;> decide) c_43
              | succ n ih =>
                intro f2 j g2 hfj hjw hg2 H locs ls hP hD hS hl
                refine lv_fload_n hx hb dX9_bitsOf_40 rfl (lv_at hl 1 rfl) ?_
                refine lv_fconst1 hx hb dX9_bitsOf_41 ?_
                refine lv_fcmp hx hb dX9_bitsOf_42 ?_
                refine lv_if_ge (tgt := 56) hx hb dX9_bitsOf_43 (by decide) (fun c_43 => ?_) (fun c_43 => ?_)
                · have he43 : j = w + i - 23 := by rcases (show j < w + i - 23 ∨ j = w + i - 23 by omega) with h | h; rw [f_lt hfj f_one hc2 (by omega)] at c_43; exact absurd c_43 (by decide); exact h
                  refine lv_iload_n hx hb dX9_bitsOf_56 rfl (lv_at hl 2 rfl) ?_
                  refine lv_bipush (v := 23) hx hb dX9_bitsOf_57 (by decide) ?_
                  refine lv_ishl hx hb dX9_bitsOf_59 ?_
                  refine lv_fload_n hx hb dX9_bitsOf_60 rfl (lv_at hl 1 rfl) ?_
                  refine lv_fconst1 hx hb dX9_bitsOf_61 ?_
                  have hfz : FP.Core.val32 f2 = .fin false u (-23) := by rw [hfj]; congr 1; omega
                  refine lv_fsub hx hb dX9_bitsOf_62 (f_nnS hfz hc1 hc2) ?_
                  refine lv_ldcf (v := (1258291200)) hx hb hown k0 dX9_bitsOf_63 ?_
                  refine lv_fmul hx hb dX9_bitsOf_65 (f_nnM hfz hc1 hc2) ?_
                  refine lv_f2i hx hb dX9_bitsOf_66 ?_
                  refine lv_iadd hx hb dX9_bitsOf_67 ?_
                  refine lv_istore_n (lv' := [(3, .int ((g2 <<< (23 &&& 31)) + (FP.f2i (FP.fmul (FP.fsub f2 FP.fconst1) (1258291200))))), (0, .float x), (1, .float f2), (2, .int g2)]) hx hb dX9_bitsOf_68 rfl hl (by decide) rfl (fun ls hl => ?_)
                  refine lv_fload_n hx hb dX9_bitsOf_69 rfl (lv_at hl 1 rfl) ?_
                  refine lv_fconst0 hx hb dX9_bitsOf_70 ?_
                  refine lv_fcmp hx hb dX9_bitsOf_71 ?_
                  refine lv_if_ge (tgt := 82) hx hb dX9_bitsOf_72 (by decide) (fun c_72 => ?_) (fun c_72 => ?_)
                  · refine lv_iload_n hx hb dX9_bitsOf_82 rfl (lv_at hl 0 rfl) ?_
                    exact hend _ _ _ _ _ _ hP hD hS dX9_bitsOf_83 rfl rfl (by rw [hg2, show FP.f2i (FP.fmul (FP.fsub f2 FP.fconst1) 1258291200) = nI (u - 8388608) from f_frac hfz hc1 hc2, show 127 + i - j = 150 - w by omega, show nI u - 8388608 = nI (u - 8388608) from pk_sub (a := u) (b := 8388608) (by omega)])
                  · exact absurd (show (0 : Int32) ≤ Op.cmpValue (FP.fcmp x 0) .g by rw [f_pos0 hvx (by omega)]; decide) c_72
                · have he43 : j < w + i - 23 := by rcases (show j < w + i - 23 ∨ j = w + i - 23 by omega) with h | h; exact h; rcases f_ge hfj f_one hc1 (by omega) with h2 | h2 <;> rw [h2] at c_43 <;> exact absurd (by decide) c_43
                  refine lv_fload_n hx hb dX9_bitsOf_46 rfl (lv_at hl 1 rfl) ?_
                  refine lv_fconst2 hx hb dX9_bitsOf_47 ?_
                  refine lv_fmul hx hb dX9_bitsOf_48 (f_nn (f_dbl hfj hc1 hc2 (by omega) (by omega))) ?_
                  refine lv_fstore_n (lv' := [(1, .float (FP.fmul f2 FP.fconst2)), (0, .float x), (2, .int g2)]) hx hb dX9_bitsOf_49 rfl hl (by decide) rfl (fun ls hl => ?_)
                  refine lv_iinc (v := g2 + (-1)) (lv' := [(2, .int (g2 + (-1))), (1, .float (FP.fmul f2 FP.fconst2)), (0, .float x)]) hx hb dX9_bitsOf_50 hl (k := 2) rfl rfl (by decide) rfl (fun ls hl => ?_)
                  refine lv_goto (tgt := 40) hx hb dX9_bitsOf_53 (by decide) ?_
                  exact ih (FP.fmul f2 FP.fconst2) (j + 1) (g2 + (-1)) (by rw [show (-((w + i : Nat) : Int) + ((j + 1 : Nat) : Int)) = (-((w + i : Nat) : Int) + (j : Int)) + 1 by omega]; exact f_dbl hfj hc1 hc2 (by omega) (by omega)) (by omega) (by rw [hg2, show 127 + i - j = (127 + i - (j + 1)) + 1 by omega]; exact f_dec _) _ _ _ hP hD hS (lv_sub hl [2, 1, 0] rfl) 
            exact loop40 (w + i - 23) f 0 g (by rw [hfi]; congr 1; omega) (by omega) hg _ _ _ hP hD hS (lv_sub hl [0, 1, 2] rfl) 
          · have he27 : w + i < 23 := by rcases (show 23 ≤ w + i ∨ w + i < 23 by omega) with h | h; rw [f_lt hfi f_two hc2 (by omega)] at c_27; exact absurd (by decide) c_27; exact h
            refine lv_fload_n hx hb dX9_bitsOf_30 rfl (lv_at hl 1 rfl) ?_
            refine lv_fconst2 hx hb dX9_bitsOf_31 ?_
            refine lv_fdiv hx hb dX9_bitsOf_32 (f_nn (f_half hfi hc1 hc2 (by omega) (by omega))) ?_
            refine lv_fstore_n (lv' := [(1, .float (FP.fdiv f FP.fconst2)), (0, .float x), (2, .int g)]) hx hb dX9_bitsOf_33 rfl hl (by decide) rfl (fun ls hl => ?_)
            refine lv_iinc (v := g + 1) (lv' := [(2, .int (g + 1)), (1, .float (FP.fdiv f FP.fconst2)), (0, .float x)]) hx hb dX9_bitsOf_34 hl (k := 2) rfl rfl (by decide) rfl (fun ls hl => ?_)
            refine lv_goto (tgt := 24) hx hb dX9_bitsOf_37 (by decide) ?_
            exact ih (FP.fdiv f FP.fconst2) (i + 1) (g + 1) (by rw [show (-(w : Int) - ((i + 1 : Nat) : Int)) = (-(w : Int) - (i : Int)) - 1 by omega]; exact f_half hfi hc1 hc2 (by omega) (by omega)) (by omega) (by omega) (by rw [hg]; exact nI_inc _) _ _ _ hP hD hS (lv_sub hl [2, 1, 0] rfl) 
      exact loop24 24 x 0 127 (by rw [hvx]; simp) (by omega) (by omega) rfl _ _ _ hP hD hS (lv_sub hl [2, 1, 0] rfl) 
    · exact absurd (show (0 : Int32) ≤ Op.cmpValue (FP.fcmp x 0) .g by rw [f_pos0 hvx (by omega)]; decide) c_11
  · exact absurd c_3 (by show ¬ Op.cmpValue (FP.fcmp x 0) .l = 0; rw [f_pos0 hvx (by omega)]; decide)
end
section
set_option maxHeartbeats 400000 in
set_option maxRecDepth 100000 in
theorem c_X8_bitsOfM (l : Launch) (D : va_G) (I C Q : ClassId) (u : Nat) (w : Nat) (x : UInt32) (hvx : FP.Core.val32 x = .fin true u (-(w : Int))) (hc1 : 8388608 ≤ u) (hc2 : u < 16777216) (hw : w ≤ 60) : KI l D (tyL I C Q) yX8_bitsOf wsX8_bitsOf { frames := 0, cells := 0, slots := 0, locals := 0 } [.float x] [] [] (((nI (150 - w) <<< (23 &&& 31)) + (nI u - 8388608)) ||| (-2147483648)) := by
  refine KI.of (cc := cX8_bitsOf) (maxL := 4) (rt := .int) (own := RX8) (by decide) rfl rfl (Nat.le_of_ble_eq_true rfl) ?_
  intro p e s m below meth c A Q0 ls hx hb hml hown hts hE hA hP hD hS hl hend
  have hK := hE.1
  have hF : CallFix p m c cX8_bitsOf 4 s [.float x].toArray wsX8_bitsOf RX8 := ⟨hx, hb, hml, hown, hts⟩
  have k0 := hts (.constantFloat RX8 191 (1258291200)) (List.mem_of_getElem? (i := 1) rfl)
  have k1 := hts (.constant RX8 192 (8388608)) (List.mem_of_getElem? (i := 2) rfl)
  have k2 := hts (.constant RX8 193 (-2147483648)) (List.mem_of_getElem? (i := 3) rfl)
  have hl : lv_has ls 4 [(0, .float x)] := hl
  refine lv_fload_n hx hb dX8_bitsOf_0 rfl (lv_at hl 0 rfl) ?_
  refine lv_fconst0 hx hb dX8_bitsOf_1 ?_
  refine lv_fcmp hx hb dX8_bitsOf_2 ?_
  refine lv_if_ne (tgt := 8) hx hb dX8_bitsOf_3 (by decide) (fun c_3 => ?_) (fun c_3 => ?_)
  · refine lv_fload_n hx hb dX8_bitsOf_8 rfl (lv_at hl 0 rfl) ?_
    refine lv_fconst0 hx hb dX8_bitsOf_9 ?_
    refine lv_fcmp hx hb dX8_bitsOf_10 ?_
    refine lv_if_ge (tgt := 19) hx hb dX8_bitsOf_11 (by decide) (fun c_11 => ?_) (fun c_11 => ?_)
    · exact absurd c_11 (show ¬ (0 : Int32) ≤ Op.cmpValue (FP.fcmp x 0) .g by rw [f_neg0 hvx (by omega)]; decide)
    · refine lv_fload_n hx hb dX8_bitsOf_14 rfl (lv_at hl 0 rfl) ?_
      refine lv_fneg hx hb dX8_bitsOf_15 ?_
      refine lv_goto (tgt := 20) hx hb dX8_bitsOf_16 (by decide) ?_
      refine lv_fstore_n (lv' := [(1, .float (FP.fneg x)), (0, .float x)]) hx hb dX8_bitsOf_20 rfl hl (by decide) rfl (fun ls hl => ?_)
      refine lv_sipush (v := 150) hx hb dX8_bitsOf_21 (by decide) ?_
      refine lv_istore_n (lv' := [(2, .int 150), (1, .float (FP.fneg x)), (0, .float x)]) hx hb dX8_bitsOf_24 rfl hl (by decide) rfl (fun ls hl => ?_)
      refine lv_iconst (v := 0) hx hb dX8_bitsOf_25 (by decide) ?_
      refine lv_istore_n (lv' := [(3, .int 0), (2, .int 150), (1, .float (FP.fneg x)), (0, .float x)]) hx hb dX8_bitsOf_26 rfl hl (by decide) rfl (fun ls hl => ?_)
      have loop27 : ∀ (n : Nat) (f : UInt32) (i : Nat) (g : Int32), (FP.Core.val32 f = .fin false u (-(w : Int) + (i : Int))) → (i ≤ w) → (i + n = 150) → (g = nI (150 - i)) → ∀ (H : Heap) (locs : List Loc) (ls : Array Slot), va_P D vwCl [] H → va_D A [] → va_S A s.heap H locs → lv_has ls 4 [(0, .float x), (1, .float f), (2, .int g), (3, .int (nI i))] → W p l e ({ frames := 0, cells := 0, slots := 0, locals := 0 } : Room) s m [.float x].toArray below meth c H locs 0 0 Q0 (F0 m 27 ls []) := by
        intro n
        induction n with
        | zero =>
          intro f i g hfi hiw hin hg H locs ls hP hD hS hl
          refine lv_iload_n hx hb dX8_bitsOf_27 rfl (lv_at hl 3 rfl) ?_
          refine lv_sipush (v := 150) hx hb dX8_bitsOf_28 (by decide) ?_
          refine lv_icmp_ge (tgt := 54) hx hb dX8_bitsOf_31 (by decide) (fun c_31 => ?_) (fun c_31 => ?_)
          · exact absurd ((nI_leI (a := 150) (b := i) (by omega) (by omega)).mp c_31) (by omega)
          · exact absurd hin (by omega)
        | succ n ih =>
          intro f i g hfi hiw hin hg H locs ls hP hD hS hl
          refine lv_iload_n hx hb dX8_bitsOf_27 rfl (lv_at hl 3 rfl) ?_
          refine lv_sipush (v := 150) hx hb dX8_bitsOf_28 (by decide) ?_
          refine lv_icmp_ge (tgt := 54) hx hb dX8_bitsOf_31 (by decide) (fun c_31 => ?_) (fun c_31 => ?_)
          · exact absurd ((nI_leI (a := 150) (b := i) (by omega) (by omega)).mp c_31) (by omega)
          · refine lv_fload_n hx hb dX8_bitsOf_34 rfl (lv_at hl 1 rfl) ?_
            refine lv_ldcf (v := (1258291200)) hx hb hown k0 dX8_bitsOf_35 ?_
            refine lv_fcmp hx hb dX8_bitsOf_37 ?_
            refine lv_if_ge (tgt := 54) hx hb dX8_bitsOf_38 (by decide) (fun c_38 => ?_) (fun c_38 => ?_)
            · have he38 : i = w := by rcases (show i < w ∨ i = w by omega) with h | h; rw [f_lt hfi f_p23 hc2 (by omega)] at c_38; exact absurd c_38 (by decide); exact h
              refine lv_iload_n hx hb dX8_bitsOf_54 rfl (lv_at hl 2 rfl) ?_
              refine lv_bipush (v := 23) hx hb dX8_bitsOf_55 (by decide) ?_
              refine lv_ishl hx hb dX8_bitsOf_57 ?_
              refine lv_fload_n hx hb dX8_bitsOf_58 rfl (lv_at hl 1 rfl) ?_
              refine lv_f2i hx hb dX8_bitsOf_59 ?_
              refine lv_ldc (v := (8388608)) hx hb hown k1 dX8_bitsOf_60 ?_
              refine lv_isub hx hb dX8_bitsOf_62 ?_
              refine lv_iadd hx hb dX8_bitsOf_63 ?_
              refine lv_istore_n (lv' := [(3, .int ((g <<< (23 &&& 31)) + ((FP.f2i f) - (8388608)))), (0, .float x), (1, .float f), (2, .int g)]) hx hb dX8_bitsOf_64 rfl hl (by decide) rfl (fun ls hl => ?_)
              refine lv_fload_n hx hb dX8_bitsOf_65 rfl (lv_at hl 1 rfl) ?_
              refine lv_fconst0 hx hb dX8_bitsOf_66 ?_
              refine lv_fcmp hx hb dX8_bitsOf_67 ?_
              refine lv_if_ge (tgt := 78) hx hb dX8_bitsOf_68 (by decide) (fun c_68 => ?_) (fun c_68 => ?_)
              · exact absurd c_68 (show ¬ (0 : Int32) ≤ Op.cmpValue (FP.fcmp x 0) .g by rw [f_neg0 hvx (by omega)]; decide)
              · refine lv_iload_n hx hb dX8_bitsOf_71 rfl (lv_at hl 0 rfl) ?_
                refine lv_ldc (v := (-2147483648)) hx hb hown k2 dX8_bitsOf_72 ?_
                refine lv_ior hx hb dX8_bitsOf_74 ?_
                refine lv_goto (tgt := 79) hx hb dX8_bitsOf_75 (by decide) ?_
                exact hend _ _ _ _ _ _ hP hD hS dX8_bitsOf_79 rfl rfl (by rw [hg, he38, show FP.f2i f = nI u from f_f2i (by rw [hfi, he38, Int.add_left_neg]) hc2])
            · have he38 : i < w := by rcases (show i < w ∨ i = w by omega) with h | h; exact h; rcases f_ge hfi f_p23 hc1 (by omega) with h2 | h2 <;> rw [h2] at c_38 <;> exact absurd (by decide) c_38
              refine lv_fload_n hx hb dX8_bitsOf_41 rfl (lv_at hl 1 rfl) ?_
              refine lv_fconst2 hx hb dX8_bitsOf_42 ?_
              refine lv_fmul hx hb dX8_bitsOf_43 (f_nn (f_dbl hfi hc1 hc2 (by omega) (by omega))) ?_
              refine lv_fstore_n (lv' := [(1, .float (FP.fmul f FP.fconst2)), (0, .float x), (2, .int g), (3, .int (nI i))]) hx hb dX8_bitsOf_44 rfl hl (by decide) rfl (fun ls hl => ?_)
              refine lv_iinc (v := g + (-1)) (lv' := [(2, .int (g + (-1))), (1, .float (FP.fmul f FP.fconst2)), (0, .float x), (3, .int (nI i))]) hx hb dX8_bitsOf_45 hl (k := 2) rfl rfl (by decide) rfl (fun ls hl => ?_)
              refine lv_iinc (v := nI (i + 1)) (lv' := [(3, .int (nI (i + 1))), (2, .int (g + (-1))), (1, .float (FP.fmul f FP.fconst2)), (0, .float x)]) hx hb dX8_bitsOf_48 hl (k := 3) rfl (nI_inc i) (by decide) rfl (fun ls hl => ?_)
              refine lv_goto (tgt := 27) hx hb dX8_bitsOf_51 (by decide) ?_
              exact ih (FP.fmul f FP.fconst2) (i + 1) (g + (-1)) (by rw [show (-(w : Int) + ((i + 1 : Nat) : Int)) = (-(w : Int) + (i : Int)) + 1 by omega]; exact f_dbl hfi hc1 hc2 (by omega) (by omega)) (by omega) (by omega) (by rw [hg, show 150 - i = (150 - (i + 1)) + 1 by omega]; exact f_dec _) _ _ _ hP hD hS (lv_sub hl [3, 2, 1, 0] rfl) 
      exact loop27 150 (FP.fneg x) 0 150 (by rw [show FP.Core.val32 (FP.fneg x) = FP.Core.val32 (FP.Core.fneg x) from rfl, f_neg hvx]; simp) (by omega) (by omega) rfl _ _ _ hP hD hS (lv_sub hl [3, 2, 1, 0] rfl) 
  · exact absurd c_3 (by show ¬ Op.cmpValue (FP.fcmp x 0) .l = 0; rw [f_neg0 hvx (by omega)]; decide)
end
section
set_option maxHeartbeats 400000 in
set_option maxRecDepth 100000 in
theorem c_X9_bitsOfM (l : Launch) (D : va_G) (I C Q : ClassId) (u : Nat) (w : Nat) (x : UInt32) (hvx : FP.Core.val32 x = .fin true u (-(w : Int))) (hc1 : 8388608 ≤ u) (hc2 : u < 16777216) (hw : w ≤ 60) : KI l D (tyL I C Q) yX9_bitsOf wsX9_bitsOf { frames := 0, cells := 0, slots := 0, locals := 0 } [.float x] [] [] (((nI (150 - w) <<< (23 &&& 31)) + (nI u - 8388608)) ||| (-2147483648)) := by
  refine KI.of (cc := cX9_bitsOf) (maxL := 4) (rt := .int) (own := RX9) (by decide) rfl rfl (Nat.le_of_ble_eq_true rfl) ?_
  intro p e s m below meth c A Q0 ls hx hb hml hown hts hE hA hP hD hS hl hend
  have hK := hE.1
  have hF : CallFix p m c cX9_bitsOf 4 s [.float x].toArray wsX9_bitsOf RX9 := ⟨hx, hb, hml, hown, hts⟩
  have k0 := hts (.constantFloat RX9 120 (1258291200)) (List.mem_of_getElem? (i := 1) rfl)
  have k1 := hts (.constant RX9 121 (-2147483648)) (List.mem_of_getElem? (i := 2) rfl)
  have hl : lv_has ls 4 [(0, .float x)] := hl
  refine lv_fload_n hx hb dX9_bitsOf_0 rfl (lv_at hl 0 rfl) ?_
  refine lv_fconst0 hx hb dX9_bitsOf_1 ?_
  refine lv_fcmp hx hb dX9_bitsOf_2 ?_
  refine lv_if_ne (tgt := 8) hx hb dX9_bitsOf_3 (by decide) (fun c_3 => ?_) (fun c_3 => ?_)
  · refine lv_fload_n hx hb dX9_bitsOf_8 rfl (lv_at hl 0 rfl) ?_
    refine lv_fconst0 hx hb dX9_bitsOf_9 ?_
    refine lv_fcmp hx hb dX9_bitsOf_10 ?_
    refine lv_if_ge (tgt := 19) hx hb dX9_bitsOf_11 (by decide) (fun c_11 => ?_) (fun c_11 => ?_)
    · exact absurd c_11 (show ¬ (0 : Int32) ≤ Op.cmpValue (FP.fcmp x 0) .g by rw [f_neg0 hvx (by omega)]; decide)
    · refine lv_fload_n hx hb dX9_bitsOf_14 rfl (lv_at hl 0 rfl) ?_
      refine lv_fneg hx hb dX9_bitsOf_15 ?_
      refine lv_goto (tgt := 20) hx hb dX9_bitsOf_16 (by decide) ?_
      refine lv_fstore_n (lv' := [(1, .float (FP.fneg x)), (0, .float x)]) hx hb dX9_bitsOf_20 rfl hl (by decide) rfl (fun ls hl => ?_)
      refine lv_bipush (v := 127) hx hb dX9_bitsOf_21 (by decide) ?_
      refine lv_istore_n (lv' := [(2, .int 127), (1, .float (FP.fneg x)), (0, .float x)]) hx hb dX9_bitsOf_23 rfl hl (by decide) rfl (fun ls hl => ?_)
      have loop24 : ∀ (n : Nat) (f : UInt32) (i : Nat) (g : Int32), (FP.Core.val32 f = .fin false u (-(w : Int) - (i : Int))) → (i = 0 ∨ w + i ≤ 23) → (i + n = 24) → (g = nI (127 + i)) → ∀ (H : Heap) (locs : List Loc) (ls : Array Slot), va_P D vwCl [] H → va_D A [] → va_S A s.heap H locs → lv_has ls 4 [(0, .float x), (1, .float f), (2, .int g)] → W p l e ({ frames := 0, cells := 0, slots := 0, locals := 0 } : Room) s m [.float x].toArray below meth c H locs 0 0 Q0 (F0 m 24 ls []) := by
        intro n
        induction n with
        | zero =>
          intro f i g hfi hiw hin hg H locs ls hP hD hS hl
          refine lv_fload_n hx hb dX9_bitsOf_24 rfl (lv_at hl 1 rfl) ?_
          refine lv_fconst2 hx hb dX9_bitsOf_25 ?_
          refine lv_fcmp hx hb dX9_bitsOf_26 ?_
          refine lv_if_lt (tgt := 40) hx hb dX9_bitsOf_27 (by decide) (fun c_27 => ?_) (fun c_27 => ?_)
          · exact absurd hin (by omega)
          · exact absurd hin (by omega)
        | succ n ih =>
          intro f i g hfi hiw hin hg H locs ls hP hD hS hl
          refine lv_fload_n hx hb dX9_bitsOf_24 rfl (lv_at hl 1 rfl) ?_
          refine lv_fconst2 hx hb dX9_bitsOf_25 ?_
          refine lv_fcmp hx hb dX9_bitsOf_26 ?_
          refine lv_if_lt (tgt := 40) hx hb dX9_bitsOf_27 (by decide) (fun c_27 => ?_) (fun c_27 => ?_)
          · have he27 : 23 ≤ w + i := by rcases (show 23 ≤ w + i ∨ w + i < 23 by omega) with h | h; exact h; rcases f_ge hfi f_two hc1 (by omega) with h2 | h2 <;> rw [h2] at c_27 <;> exact absurd c_27 (by decide)
            have loop40 : ∀ (n : Nat) (f2 : UInt32) (j : Nat) (g2 : Int32), (FP.Core.val32 f2 = .fin false u (-((w + i : Nat) : Int) + (j : Int))) → (j + n = w + i - 23) → (g2 = nI (127 + i - j)) → ∀ (H : Heap) (locs : List Loc) (ls : Array Slot), va_P D vwCl [] H → va_D A [] → va_S A s.heap H locs → lv_has ls 4 [(0, .float x), (1, .float f2), (2, .int g2)] → W p l e ({ frames := 0, cells := 0, slots := 0, locals := 0 } : Room) s m [.float x].toArray below meth c H locs 0 0 Q0 (F0 m 40 ls []) := by
              intro n
              induction n with
              | zero =>
                intro f2 j g2 hfj hjw hg2 H locs ls hP hD hS hl
                refine lv_fload_n hx hb dX9_bitsOf_40 rfl (lv_at hl 1 rfl) ?_
                refine lv_fconst1 hx hb dX9_bitsOf_41 ?_
                refine lv_fcmp hx hb dX9_bitsOf_42 ?_
                refine lv_if_ge (tgt := 56) hx hb dX9_bitsOf_43 (by decide) (fun c_43 => ?_) (fun c_43 => ?_)
                · have he43 : j = w + i - 23 := by rcases (show j < w + i - 23 ∨ j = w + i - 23 by omega) with h | h; rw [f_lt hfj f_one hc2 (by omega)] at c_43; exact absurd c_43 (by decide); exact h
                  refine lv_iload_n hx hb dX9_bitsOf_56 rfl (lv_at hl 2 rfl) ?_
                  refine lv_bipush (v := 23) hx hb dX9_bitsOf_57 (by decide) ?_
                  refine lv_ishl hx hb dX9_bitsOf_59 ?_
                  refine lv_fload_n hx hb dX9_bitsOf_60 rfl (lv_at hl 1 rfl) ?_
                  refine lv_fconst1 hx hb dX9_bitsOf_61 ?_
                  have hfz : FP.Core.val32 f2 = .fin false u (-23) := by rw [hfj]; congr 1; omega
                  refine lv_fsub hx hb dX9_bitsOf_62 (f_nnS hfz hc1 hc2) ?_
                  refine lv_ldcf (v := (1258291200)) hx hb hown k0 dX9_bitsOf_63 ?_
                  refine lv_fmul hx hb dX9_bitsOf_65 (f_nnM hfz hc1 hc2) ?_
                  refine lv_f2i hx hb dX9_bitsOf_66 ?_
                  refine lv_iadd hx hb dX9_bitsOf_67 ?_
                  refine lv_istore_n (lv' := [(3, .int ((g2 <<< (23 &&& 31)) + (FP.f2i (FP.fmul (FP.fsub f2 FP.fconst1) (1258291200))))), (0, .float x), (1, .float f2), (2, .int g2)]) hx hb dX9_bitsOf_68 rfl hl (by decide) rfl (fun ls hl => ?_)
                  refine lv_fload_n hx hb dX9_bitsOf_69 rfl (lv_at hl 1 rfl) ?_
                  refine lv_fconst0 hx hb dX9_bitsOf_70 ?_
                  refine lv_fcmp hx hb dX9_bitsOf_71 ?_
                  refine lv_if_ge (tgt := 82) hx hb dX9_bitsOf_72 (by decide) (fun c_72 => ?_) (fun c_72 => ?_)
                  · exact absurd c_72 (show ¬ (0 : Int32) ≤ Op.cmpValue (FP.fcmp x 0) .g by rw [f_neg0 hvx (by omega)]; decide)
                  · refine lv_iload_n hx hb dX9_bitsOf_75 rfl (lv_at hl 0 rfl) ?_
                    refine lv_ldc (v := (-2147483648)) hx hb hown k1 dX9_bitsOf_76 ?_
                    refine lv_ior hx hb dX9_bitsOf_78 ?_
                    refine lv_goto (tgt := 83) hx hb dX9_bitsOf_79 (by decide) ?_
                    exact hend _ _ _ _ _ _ hP hD hS dX9_bitsOf_83 rfl rfl (by rw [hg2, show FP.f2i (FP.fmul (FP.fsub f2 FP.fconst1) 1258291200) = nI (u - 8388608) from f_frac hfz hc1 hc2, show 127 + i - j = 150 - w by omega, show nI u - 8388608 = nI (u - 8388608) from pk_sub (a := u) (b := 8388608) (by omega)])
                · exact absurd (show (0 : Int32) ≤ Op.cmpValue (FP.fcmp f2 FP.fconst1) .g by rcases f_ge hfj f_one hc1 (by omega) with h2 | h2 <;> rw [show FP.fcmp f2 FP.fconst1 = _ from h2] <;> decide) c_43
              | succ n ih =>
                intro f2 j g2 hfj hjw hg2 H locs ls hP hD hS hl
                refine lv_fload_n hx hb dX9_bitsOf_40 rfl (lv_at hl 1 rfl) ?_
                refine lv_fconst1 hx hb dX9_bitsOf_41 ?_
                refine lv_fcmp hx hb dX9_bitsOf_42 ?_
                refine lv_if_ge (tgt := 56) hx hb dX9_bitsOf_43 (by decide) (fun c_43 => ?_) (fun c_43 => ?_)
                · have he43 : j = w + i - 23 := by rcases (show j < w + i - 23 ∨ j = w + i - 23 by omega) with h | h; rw [f_lt hfj f_one hc2 (by omega)] at c_43; exact absurd c_43 (by decide); exact h
                  refine lv_iload_n hx hb dX9_bitsOf_56 rfl (lv_at hl 2 rfl) ?_
                  refine lv_bipush (v := 23) hx hb dX9_bitsOf_57 (by decide) ?_
                  refine lv_ishl hx hb dX9_bitsOf_59 ?_
                  refine lv_fload_n hx hb dX9_bitsOf_60 rfl (lv_at hl 1 rfl) ?_
                  refine lv_fconst1 hx hb dX9_bitsOf_61 ?_
                  have hfz : FP.Core.val32 f2 = .fin false u (-23) := by rw [hfj]; congr 1; omega
                  refine lv_fsub hx hb dX9_bitsOf_62 (f_nnS hfz hc1 hc2) ?_
                  refine lv_ldcf (v := (1258291200)) hx hb hown k0 dX9_bitsOf_63 ?_
                  refine lv_fmul hx hb dX9_bitsOf_65 (f_nnM hfz hc1 hc2) ?_
                  refine lv_f2i hx hb dX9_bitsOf_66 ?_
                  refine lv_iadd hx hb dX9_bitsOf_67 ?_
                  refine lv_istore_n (lv' := [(3, .int ((g2 <<< (23 &&& 31)) + (FP.f2i (FP.fmul (FP.fsub f2 FP.fconst1) (1258291200))))), (0, .float x), (1, .float f2), (2, .int g2)]) hx hb dX9_bitsOf_68 rfl hl (by decide) rfl (fun ls hl => ?_)
                  refine lv_fload_n hx hb dX9_bitsOf_69 rfl (lv_at hl 1 rfl) ?_
                  refine lv_fconst0 hx hb dX9_bitsOf_70 ?_
                  refine lv_fcmp hx hb dX9_bitsOf_71 ?_
                  refine lv_if_ge (tgt := 82) hx hb dX9_bitsOf_72 (by decide) (fun c_72 => ?_) (fun c_72 => ?_)
                  · exact absurd c_72 (show ¬ (0 : Int32) ≤ Op.cmpValue (FP.fcmp x 0) .g by rw [f_neg0 hvx (by omega)]; decide)
                  · refine lv_iload_n hx hb dX9_bitsOf_75 rfl (lv_at hl 0 rfl) ?_
                    refine lv_ldc (v := (-2147483648)) hx hb hown k1 dX9_bitsOf_76 ?_
                    refine lv_ior hx hb dX9_bitsOf_78 ?_
                    refine lv_goto (tgt := 83) hx hb dX9_bitsOf_79 (by decide) ?_
                    exact hend _ _ _ _ _ _ hP hD hS dX9_bitsOf_83 rfl rfl (by rw [hg2, show FP.f2i (FP.fmul (FP.fsub f2 FP.fconst1) 1258291200) = nI (u - 8388608) from f_frac hfz hc1 hc2, show 127 + i - j = 150 - w by omega, show nI u - 8388608 = nI (u - 8388608) from pk_sub (a := u) (b := 8388608) (by omega)])
                · have he43 : j < w + i - 23 := by rcases (show j < w + i - 23 ∨ j = w + i - 23 by omega) with h | h; exact h; rcases f_ge hfj f_one hc1 (by omega) with h2 | h2 <;> rw [h2] at c_43 <;> exact absurd (by decide) c_43
                  refine lv_fload_n hx hb dX9_bitsOf_46 rfl (lv_at hl 1 rfl) ?_
                  refine lv_fconst2 hx hb dX9_bitsOf_47 ?_
                  refine lv_fmul hx hb dX9_bitsOf_48 (f_nn (f_dbl hfj hc1 hc2 (by omega) (by omega))) ?_
                  refine lv_fstore_n (lv' := [(1, .float (FP.fmul f2 FP.fconst2)), (0, .float x), (2, .int g2)]) hx hb dX9_bitsOf_49 rfl hl (by decide) rfl (fun ls hl => ?_)
                  refine lv_iinc (v := g2 + (-1)) (lv' := [(2, .int (g2 + (-1))), (1, .float (FP.fmul f2 FP.fconst2)), (0, .float x)]) hx hb dX9_bitsOf_50 hl (k := 2) rfl rfl (by decide) rfl (fun ls hl => ?_)
                  refine lv_goto (tgt := 40) hx hb dX9_bitsOf_53 (by decide) ?_
                  exact ih (FP.fmul f2 FP.fconst2) (j + 1) (g2 + (-1)) (by rw [show (-((w + i : Nat) : Int) + ((j + 1 : Nat) : Int)) = (-((w + i : Nat) : Int) + (j : Int)) + 1 by omega]; exact f_dbl hfj hc1 hc2 (by omega) (by omega)) (by omega) (by rw [hg2, show 127 + i - j = (127 + i - (j + 1)) + 1 by omega]; exact f_dec _) _ _ _ hP hD hS (lv_sub hl [2, 1, 0] rfl) 
            exact loop40 (w + i - 23) f 0 g (by rw [hfi]; congr 1; omega) (by omega) hg _ _ _ hP hD hS (lv_sub hl [0, 1, 2] rfl) 
          · have he27 : w + i < 23 := by rcases (show 23 ≤ w + i ∨ w + i < 23 by omega) with h | h; rw [f_lt hfi f_two hc2 (by omega)] at c_27; exact absurd (by decide) c_27; exact h
            refine lv_fload_n hx hb dX9_bitsOf_30 rfl (lv_at hl 1 rfl) ?_
            refine lv_fconst2 hx hb dX9_bitsOf_31 ?_
            refine lv_fdiv hx hb dX9_bitsOf_32 (f_nn (f_half hfi hc1 hc2 (by omega) (by omega))) ?_
            refine lv_fstore_n (lv' := [(1, .float (FP.fdiv f FP.fconst2)), (0, .float x), (2, .int g)]) hx hb dX9_bitsOf_33 rfl hl (by decide) rfl (fun ls hl => ?_)
            refine lv_iinc (v := g + 1) (lv' := [(2, .int (g + 1)), (1, .float (FP.fdiv f FP.fconst2)), (0, .float x)]) hx hb dX9_bitsOf_34 hl (k := 2) rfl rfl (by decide) rfl (fun ls hl => ?_)
            refine lv_goto (tgt := 24) hx hb dX9_bitsOf_37 (by decide) ?_
            exact ih (FP.fdiv f FP.fconst2) (i + 1) (g + 1) (by rw [show (-(w : Int) - ((i + 1 : Nat) : Int)) = (-(w : Int) - (i : Int)) - 1 by omega]; exact f_half hfi hc1 hc2 (by omega) (by omega)) (by omega) (by omega) (by rw [hg]; exact nI_inc _) _ _ _ hP hD hS (lv_sub hl [2, 1, 0] rfl) 
      exact loop24 24 (FP.fneg x) 0 127 (by rw [show FP.Core.val32 (FP.fneg x) = FP.Core.val32 (FP.Core.fneg x) from rfl, f_neg hvx]; simp) (by omega) (by omega) rfl _ _ _ hP hD hS (lv_sub hl [2, 1, 0] rfl) 
  · exact absurd c_3 (by show ¬ Op.cmpValue (FP.fcmp x 0) .l = 0; rw [f_neg0 hvx (by omega)]; decide)
end
section
theorem c_X8_bitsOf (l : Launch) (D : va_G) (I C Q : ClassId) (x : UInt32) (hfk : f_ok x) : KI l D (tyL I C Q) yX8_bitsOf wsX8_bitsOf { frames := 0, cells := 0, slots := 0, locals := 0 } [.float x] [] [] (f_bits x) := by
  rcases hfk with h | ⟨s, u, w, hv, h1, h2, h3⟩
  · rw [h, f_bits0]
    exact c_X8_bitsOfZ l D I C Q 0 rfl
  · cases s
    · rw [f_bitsP hv h1]
      exact c_X8_bitsOfP l D I C Q u w x hv h1 h2 h3
    · rw [f_bitsM hv h1]
      exact c_X8_bitsOfM l D I C Q u w x hv h1 h2 h3
theorem c_X9_bitsOf (l : Launch) (D : va_G) (I C Q : ClassId) (x : UInt32) (hfk : f_ok x) : KI l D (tyL I C Q) yX9_bitsOf wsX9_bitsOf { frames := 0, cells := 0, slots := 0, locals := 0 } [.float x] [] [] (f_bits x) := by
  rcases hfk with h | ⟨s, u, w, hv, h1, h2, h3⟩
  · rw [h, f_bits0]
    exact c_X9_bitsOfZ l D I C Q 0 rfl
  · cases s
    · rw [f_bitsP hv h1]
      exact c_X9_bitsOfP l D I C Q u w x hv h1 h2 h3
    · rw [f_bitsM hv h1]
      exact c_X9_bitsOfM l D I C Q u w x hv h1 h2 h3
end
