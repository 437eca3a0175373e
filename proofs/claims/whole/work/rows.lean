section
-- ===== PART A: goes FIRST, ahead of the names: the tables' words, and 'selects' of the private methods out of them =====
/-- a private method of a class that the tables say can be made, by its rows of tables_1 -/
def lw_okq (q : MethodName × Nat) : Prop := (q.1.cls ≠ "java/lang/invoke/MethodHandle" ∧ q.1.cls ≠ "java/lang/invoke/VarHandle") ∧ Cond.instantiable q.1.cls q.2 ∈ tables_1 ∧ Cond.privateMethod q.1 ∈ tables_1 ∧ Cond.instanceMethod q.1 ∈ tables_1
theorem lw_p0 : lw_okq (⟨"LateExcuses$Events", "hasOutcome", "(III)Z"⟩, 2) := ⟨⟨by decide +kernel, by decide +kernel⟩, List.mem_of_getElem? (i := 28) (by decide +kernel), List.mem_of_getElem? (i := 230) (by decide +kernel), List.mem_of_getElem? (i := 231) (by decide +kernel)⟩
theorem lw_p1 : lw_okq (⟨"LateExcuses$Panes", "rowOf", "(I)I"⟩, 3) := ⟨⟨by decide +kernel, by decide +kernel⟩, List.mem_of_getElem? (i := 61) (by decide +kernel), List.mem_of_getElem? (i := 317) (by decide +kernel), List.mem_of_getElem? (i := 318) (by decide +kernel)⟩
theorem lw_p2 : lw_okq (⟨"LateExcuses$Court", "endOf", "(I)I"⟩, 9) := ⟨⟨by decide +kernel, by decide +kernel⟩, List.mem_of_getElem? (i := 22) (by decide +kernel), List.mem_of_getElem? (i := 322) (by decide +kernel), List.mem_of_getElem? (i := 323) (by decide +kernel)⟩
theorem lw_p3 : lw_okq (⟨"LateExcuses$Court", "isAcceptable", "(III)Z"⟩, 9) := ⟨⟨by decide +kernel, by decide +kernel⟩, List.mem_of_getElem? (i := 22) (by decide +kernel), List.mem_of_getElem? (i := 326) (by decide +kernel), List.mem_of_getElem? (i := 327) (by decide +kernel)⟩
theorem lw_p4 : lw_okq (⟨"LateExcuses$Cabinets", "cabinetFor", "(I)I"⟩, 1) := ⟨⟨by decide +kernel, by decide +kernel⟩, List.mem_of_getElem? (i := 100) (by decide +kernel), List.mem_of_getElem? (i := 342) (by decide +kernel), List.mem_of_getElem? (i := 343) (by decide +kernel)⟩
theorem lw_p5 : lw_okq (⟨"LateExcuses$Cabinets", "isFull", "(I)Z"⟩, 1) := ⟨⟨by decide +kernel, by decide +kernel⟩, List.mem_of_getElem? (i := 100) (by decide +kernel), List.mem_of_getElem? (i := 346) (by decide +kernel), List.mem_of_getElem? (i := 347) (by decide +kernel)⟩
theorem lw_p6 : lw_okq (⟨"LateExcuses$Panes", "rowMadeFor", "(I)I"⟩, 3) := ⟨⟨by decide +kernel, by decide +kernel⟩, List.mem_of_getElem? (i := 61) (by decide +kernel), List.mem_of_getElem? (i := 372) (by decide +kernel), List.mem_of_getElem? (i := 373) (by decide +kernel)⟩
theorem lw_p7 : lw_okq (⟨"LateExcuses$Panes", "rowBehind", "(I)I"⟩, 3) := ⟨⟨by decide +kernel, by decide +kernel⟩, List.mem_of_getElem? (i := 61) (by decide +kernel), List.mem_of_getElem? (i := 376) (by decide +kernel), List.mem_of_getElem? (i := 377) (by decide +kernel)⟩
theorem lw_p8 : lw_okq (⟨"LateExcuses$Panes", "takeBack", "(I)V"⟩, 3) := ⟨⟨by decide +kernel, by decide +kernel⟩, List.mem_of_getElem? (i := 61) (by decide +kernel), List.mem_of_getElem? (i := 386) (by decide +kernel), List.mem_of_getElem? (i := 387) (by decide +kernel)⟩
theorem lw_p9 : lw_okq (⟨"LateExcuses$Panes", "isStanding", "(I)Z"⟩, 3) := ⟨⟨by decide +kernel, by decide +kernel⟩, List.mem_of_getElem? (i := 61) (by decide +kernel), List.mem_of_getElem? (i := 390) (by decide +kernel), List.mem_of_getElem? (i := 391) (by decide +kernel)⟩
theorem lw_p10 : lw_okq (⟨"LateExcuses$Court", "raiseWatermark", "(I)V"⟩, 9) := ⟨⟨by decide +kernel, by decide +kernel⟩, List.mem_of_getElem? (i := 22) (by decide +kernel), List.mem_of_getElem? (i := 407) (by decide +kernel), List.mem_of_getElem? (i := 408) (by decide +kernel)⟩
theorem lw_p11 : lw_okq (⟨"LateExcuses$Panes", "tellWord", "(I)V"⟩, 3) := ⟨⟨by decide +kernel, by decide +kernel⟩, List.mem_of_getElem? (i := 61) (by decide +kernel), List.mem_of_getElem? (i := 417) (by decide +kernel), List.mem_of_getElem? (i := 418) (by decide +kernel)⟩
theorem lw_p12 : lw_okq (⟨"LateExcuses$Court", "latestIn", "(III)I"⟩, 9) := ⟨⟨by decide +kernel, by decide +kernel⟩, List.mem_of_getElem? (i := 22) (by decide +kernel), List.mem_of_getElem? (i := 527) (by decide +kernel), List.mem_of_getElem? (i := 528) (by decide +kernel)⟩
theorem lw_p13 : lw_okq (⟨"LateExcuses$Text", "readNumber", "()Z"⟩, 11) := ⟨⟨by decide +kernel, by decide +kernel⟩, List.mem_of_getElem? (i := 158) (by decide +kernel), List.mem_of_getElem? (i := 628) (by decide +kernel), List.mem_of_getElem? (i := 629) (by decide +kernel)⟩
theorem lw_p14 : lw_okq (⟨"LateExcuses$Text", "signHere", "()C"⟩, 11) := ⟨⟨by decide +kernel, by decide +kernel⟩, List.mem_of_getElem? (i := 158) (by decide +kernel), List.mem_of_getElem? (i := 632) (by decide +kernel), List.mem_of_getElem? (i := 633) (by decide +kernel)⟩
theorem lw_p15 : lw_okq (⟨"LateExcuses$Text", "readSign", "(C)Z"⟩, 11) := ⟨⟨by decide +kernel, by decide +kernel⟩, List.mem_of_getElem? (i := 158) (by decide +kernel), List.mem_of_getElem? (i := 637) (by decide +kernel), List.mem_of_getElem? (i := 638) (by decide +kernel)⟩
def lw_privs_1 : List (MethodName × Nat) := [(⟨"LateExcuses$Events", "hasOutcome", "(III)Z"⟩, 2), (⟨"LateExcuses$Panes", "rowOf", "(I)I"⟩, 3), (⟨"LateExcuses$Court", "endOf", "(I)I"⟩, 9), (⟨"LateExcuses$Court", "isAcceptable", "(III)Z"⟩, 9), (⟨"LateExcuses$Cabinets", "cabinetFor", "(I)I"⟩, 1), (⟨"LateExcuses$Cabinets", "isFull", "(I)Z"⟩, 1), (⟨"LateExcuses$Panes", "rowMadeFor", "(I)I"⟩, 3), (⟨"LateExcuses$Panes", "rowBehind", "(I)I"⟩, 3), (⟨"LateExcuses$Panes", "takeBack", "(I)V"⟩, 3), (⟨"LateExcuses$Panes", "isStanding", "(I)Z"⟩, 3), (⟨"LateExcuses$Court", "raiseWatermark", "(I)V"⟩, 9), (⟨"LateExcuses$Panes", "tellWord", "(I)V"⟩, 3), (⟨"LateExcuses$Court", "latestIn", "(III)I"⟩, 9), (⟨"LateExcuses$Text", "readNumber", "()Z"⟩, 11), (⟨"LateExcuses$Text", "signHere", "()C"⟩, 11), (⟨"LateExcuses$Text", "readSign", "(C)Z"⟩, 11)]
theorem lw_r1 : ∀ q ∈ lw_privs_1, lw_okq q := List.forall_mem_cons.mpr ⟨lw_p0, List.forall_mem_cons.mpr ⟨lw_p1, List.forall_mem_cons.mpr ⟨lw_p2, List.forall_mem_cons.mpr ⟨lw_p3, List.forall_mem_cons.mpr ⟨lw_p4, List.forall_mem_cons.mpr ⟨lw_p5, List.forall_mem_cons.mpr ⟨lw_p6, List.forall_mem_cons.mpr ⟨lw_p7, List.forall_mem_cons.mpr ⟨lw_p8, List.forall_mem_cons.mpr ⟨lw_p9, List.forall_mem_cons.mpr ⟨lw_p10, List.forall_mem_cons.mpr ⟨lw_p11, List.forall_mem_cons.mpr ⟨lw_p12, List.forall_mem_cons.mpr ⟨lw_p13, List.forall_mem_cons.mpr ⟨lw_p14, List.forall_mem_cons.mpr ⟨lw_p15, fun _ h => absurd h List.not_mem_nil⟩⟩⟩⟩⟩⟩⟩⟩⟩⟩⟩⟩⟩⟩⟩⟩
theorem lw_p16 : lw_okq (⟨"LateExcuses$Text", "readExcuse", "()I"⟩, 11) := ⟨⟨by decide +kernel, by decide +kernel⟩, List.mem_of_getElem? (i := 158) (by decide +kernel), List.mem_of_getElem? (i := 641) (by decide +kernel), List.mem_of_getElem? (i := 642) (by decide +kernel)⟩
theorem lw_p17 : lw_okq (⟨"LateExcusesModel", "records", "()V"⟩, 8) := ⟨⟨by decide +kernel, by decide +kernel⟩, List.mem_of_getElem? (i := 659) (by decide +kernel), List.mem_of_getElem? (i := 703) (by decide +kernel), List.mem_of_getElem? (i := 704) (by decide +kernel)⟩
theorem lw_p18 : lw_okq (⟨"LateExcusesModel", "comes", "(IIIII)I"⟩, 8) := ⟨⟨by decide +kernel, by decide +kernel⟩, List.mem_of_getElem? (i := 659) (by decide +kernel), List.mem_of_getElem? (i := 714) (by decide +kernel), List.mem_of_getElem? (i := 715) (by decide +kernel)⟩
theorem lw_p19 : lw_okq (⟨"LateExcusesModel", "ofE", "(II)I"⟩, 8) := ⟨⟨by decide +kernel, by decide +kernel⟩, List.mem_of_getElem? (i := 659) (by decide +kernel), List.mem_of_getElem? (i := 718) (by decide +kernel), List.mem_of_getElem? (i := 719) (by decide +kernel)⟩
theorem lw_p20 : lw_okq (⟨"LateExcusesModel", "judgeOf", "(III)I"⟩, 8) := ⟨⟨by decide +kernel, by decide +kernel⟩, List.mem_of_getElem? (i := 659) (by decide +kernel), List.mem_of_getElem? (i := 722) (by decide +kernel), List.mem_of_getElem? (i := 723) (by decide +kernel)⟩
theorem lw_p21 : lw_okq (⟨"LateExcusesModel", "paneAt", "(I)I"⟩, 8) := ⟨⟨by decide +kernel, by decide +kernel⟩, List.mem_of_getElem? (i := 659) (by decide +kernel), List.mem_of_getElem? (i := 726) (by decide +kernel), List.mem_of_getElem? (i := 727) (by decide +kernel)⟩
theorem lw_p22 : lw_okq (⟨"LateExcusesModel", "modeOf", "(I)I"⟩, 8) := ⟨⟨by decide +kernel, by decide +kernel⟩, List.mem_of_getElem? (i := 659) (by decide +kernel), List.mem_of_getElem? (i := 730) (by decide +kernel), List.mem_of_getElem? (i := 731) (by decide +kernel)⟩
theorem lw_p23 : lw_okq (⟨"LateExcusesModel", "find", "(I)I"⟩, 8) := ⟨⟨by decide +kernel, by decide +kernel⟩, List.mem_of_getElem? (i := 659) (by decide +kernel), List.mem_of_getElem? (i := 734) (by decide +kernel), List.mem_of_getElem? (i := 735) (by decide +kernel)⟩
theorem lw_p24 : lw_okq (⟨"LateExcusesModel", "ofP", "(II)I"⟩, 8) := ⟨⟨by decide +kernel, by decide +kernel⟩, List.mem_of_getElem? (i := 659) (by decide +kernel), List.mem_of_getElem? (i := 738) (by decide +kernel), List.mem_of_getElem? (i := 739) (by decide +kernel)⟩
theorem lw_p25 : lw_okq (⟨"LateExcusesModel", "isShut", "(I)Z"⟩, 8) := ⟨⟨by decide +kernel, by decide +kernel⟩, List.mem_of_getElem? (i := 659) (by decide +kernel), List.mem_of_getElem? (i := 742) (by decide +kernel), List.mem_of_getElem? (i := 743) (by decide +kernel)⟩
theorem lw_p26 : lw_okq (⟨"LateExcusesModel", "endOf", "(I)I"⟩, 8) := ⟨⟨by decide +kernel, by decide +kernel⟩, List.mem_of_getElem? (i := 659) (by decide +kernel), List.mem_of_getElem? (i := 746) (by decide +kernel), List.mem_of_getElem? (i := 747) (by decide +kernel)⟩
theorem lw_p27 : lw_okq (⟨"LateExcusesModel", "isExcuse", "(III)Z"⟩, 8) := ⟨⟨by decide +kernel, by decide +kernel⟩, List.mem_of_getElem? (i := 659) (by decide +kernel), List.mem_of_getElem? (i := 750) (by decide +kernel), List.mem_of_getElem? (i := 751) (by decide +kernel)⟩
theorem lw_p28 : lw_okq (⟨"LateExcusesModel", "wasIll", "(I)Z"⟩, 8) := ⟨⟨by decide +kernel, by decide +kernel⟩, List.mem_of_getElem? (i := 659) (by decide +kernel), List.mem_of_getElem? (i := 754) (by decide +kernel), List.mem_of_getElem? (i := 755) (by decide +kernel)⟩
theorem lw_p29 : lw_okq (⟨"LateExcusesModel", "placeFor", "(I)I"⟩, 8) := ⟨⟨by decide +kernel, by decide +kernel⟩, List.mem_of_getElem? (i := 659) (by decide +kernel), List.mem_of_getElem? (i := 758) (by decide +kernel), List.mem_of_getElem? (i := 759) (by decide +kernel)⟩
theorem lw_p30 : lw_okq (⟨"LateExcusesModel", "placeIn", "(I)I"⟩, 8) := ⟨⟨by decide +kernel, by decide +kernel⟩, List.mem_of_getElem? (i := 659) (by decide +kernel), List.mem_of_getElem? (i := 762) (by decide +kernel), List.mem_of_getElem? (i := 763) (by decide +kernel)⟩
theorem lw_p31 : lw_okq (⟨"LateExcusesModel", "keeps", "(I)I"⟩, 8) := ⟨⟨by decide +kernel, by decide +kernel⟩, List.mem_of_getElem? (i := 659) (by decide +kernel), List.mem_of_getElem? (i := 766) (by decide +kernel), List.mem_of_getElem? (i := 767) (by decide +kernel)⟩
def lw_privs_2 : List (MethodName × Nat) := [(⟨"LateExcuses$Text", "readExcuse", "()I"⟩, 11), (⟨"LateExcusesModel", "records", "()V"⟩, 8), (⟨"LateExcusesModel", "comes", "(IIIII)I"⟩, 8), (⟨"LateExcusesModel", "ofE", "(II)I"⟩, 8), (⟨"LateExcusesModel", "judgeOf", "(III)I"⟩, 8), (⟨"LateExcusesModel", "paneAt", "(I)I"⟩, 8), (⟨"LateExcusesModel", "modeOf", "(I)I"⟩, 8), (⟨"LateExcusesModel", "find", "(I)I"⟩, 8), (⟨"LateExcusesModel", "ofP", "(II)I"⟩, 8), (⟨"LateExcusesModel", "isShut", "(I)Z"⟩, 8), (⟨"LateExcusesModel", "endOf", "(I)I"⟩, 8), (⟨"LateExcusesModel", "isExcuse", "(III)Z"⟩, 8), (⟨"LateExcusesModel", "wasIll", "(I)Z"⟩, 8), (⟨"LateExcusesModel", "placeFor", "(I)I"⟩, 8), (⟨"LateExcusesModel", "placeIn", "(I)I"⟩, 8), (⟨"LateExcusesModel", "keeps", "(I)I"⟩, 8)]
theorem lw_r2 : ∀ q ∈ lw_privs_2, lw_okq q := List.forall_mem_cons.mpr ⟨lw_p16, List.forall_mem_cons.mpr ⟨lw_p17, List.forall_mem_cons.mpr ⟨lw_p18, List.forall_mem_cons.mpr ⟨lw_p19, List.forall_mem_cons.mpr ⟨lw_p20, List.forall_mem_cons.mpr ⟨lw_p21, List.forall_mem_cons.mpr ⟨lw_p22, List.forall_mem_cons.mpr ⟨lw_p23, List.forall_mem_cons.mpr ⟨lw_p24, List.forall_mem_cons.mpr ⟨lw_p25, List.forall_mem_cons.mpr ⟨lw_p26, List.forall_mem_cons.mpr ⟨lw_p27, List.forall_mem_cons.mpr ⟨lw_p28, List.forall_mem_cons.mpr ⟨lw_p29, List.forall_mem_cons.mpr ⟨lw_p30, List.forall_mem_cons.mpr ⟨lw_p31, fun _ h => absurd h List.not_mem_nil⟩⟩⟩⟩⟩⟩⟩⟩⟩⟩⟩⟩⟩⟩⟩⟩
theorem lw_p32 : lw_okq (⟨"LateExcusesModel", "setsP", "(III)V"⟩, 8) := ⟨⟨by decide +kernel, by decide +kernel⟩, List.mem_of_getElem? (i := 659) (by decide +kernel), List.mem_of_getElem? (i := 770) (by decide +kernel), List.mem_of_getElem? (i := 771) (by decide +kernel)⟩
theorem lw_p33 : lw_okq (⟨"LateExcusesModel", "takesBack", "(I)V"⟩, 8) := ⟨⟨by decide +kernel, by decide +kernel⟩, List.mem_of_getElem? (i := 659) (by decide +kernel), List.mem_of_getElem? (i := 774) (by decide +kernel), List.mem_of_getElem? (i := 775) (by decide +kernel)⟩
theorem lw_p34 : lw_okq (⟨"LateExcusesModel", "says", "(IIII)V"⟩, 8) := ⟨⟨by decide +kernel, by decide +kernel⟩, List.mem_of_getElem? (i := 659) (by decide +kernel), List.mem_of_getElem? (i := 778) (by decide +kernel), List.mem_of_getElem? (i := 779) (by decide +kernel)⟩
theorem lw_p35 : lw_okq (⟨"LateExcusesModel", "rises", "(I)V"⟩, 8) := ⟨⟨by decide +kernel, by decide +kernel⟩, List.mem_of_getElem? (i := 659) (by decide +kernel), List.mem_of_getElem? (i := 782) (by decide +kernel), List.mem_of_getElem? (i := 783) (by decide +kernel)⟩
theorem lw_p36 : lw_okq (⟨"LateExcusesModel", "nextKept", "(I)I"⟩, 8) := ⟨⟨by decide +kernel, by decide +kernel⟩, List.mem_of_getElem? (i := 659) (by decide +kernel), List.mem_of_getElem? (i := 786) (by decide +kernel), List.mem_of_getElem? (i := 787) (by decide +kernel)⟩
theorem lw_p37 : lw_okq (⟨"LateExcusesModel", "tells", "(I)V"⟩, 8) := ⟨⟨by decide +kernel, by decide +kernel⟩, List.mem_of_getElem? (i := 659) (by decide +kernel), List.mem_of_getElem? (i := 790) (by decide +kernel), List.mem_of_getElem? (i := 791) (by decide +kernel)⟩
theorem lw_p38 : lw_okq (⟨"LateExcusesModel", "sumOf", "(II)I"⟩, 8) := ⟨⟨by decide +kernel, by decide +kernel⟩, List.mem_of_getElem? (i := 659) (by decide +kernel), List.mem_of_getElem? (i := 794) (by decide +kernel), List.mem_of_getElem? (i := 795) (by decide +kernel)⟩
theorem lw_p39 : lw_okq (⟨"LateExcusesModel", "counts", "(I)Z"⟩, 8) := ⟨⟨by decide +kernel, by decide +kernel⟩, List.mem_of_getElem? (i := 659) (by decide +kernel), List.mem_of_getElem? (i := 798) (by decide +kernel), List.mem_of_getElem? (i := 799) (by decide +kernel)⟩
theorem lw_p40 : lw_okq (⟨"LateExcusesModel", "isPane", "(I)Z"⟩, 8) := ⟨⟨by decide +kernel, by decide +kernel⟩, List.mem_of_getElem? (i := 659) (by decide +kernel), List.mem_of_getElem? (i := 810) (by decide +kernel), List.mem_of_getElem? (i := 811) (by decide +kernel)⟩
theorem lw_p41 : lw_okq (⟨"LateExcusesModel", "stateOf", "(I)I"⟩, 8) := ⟨⟨by decide +kernel, by decide +kernel⟩, List.mem_of_getElem? (i := 659) (by decide +kernel), List.mem_of_getElem? (i := 814) (by decide +kernel), List.mem_of_getElem? (i := 815) (by decide +kernel)⟩
theorem lw_p42 : lw_okq (⟨"LateExcusesModel", "results", "(II)I"⟩, 8) := ⟨⟨by decide +kernel, by decide +kernel⟩, List.mem_of_getElem? (i := 659) (by decide +kernel), List.mem_of_getElem? (i := 869) (by decide +kernel), List.mem_of_getElem? (i := 870) (by decide +kernel)⟩
theorem lw_p43 : lw_okq (⟨"LateExcusesModel", "cases", "()I"⟩, 8) := ⟨⟨by decide +kernel, by decide +kernel⟩, List.mem_of_getElem? (i := 659) (by decide +kernel), List.mem_of_getElem? (i := 873) (by decide +kernel), List.mem_of_getElem? (i := 874) (by decide +kernel)⟩
theorem lw_p44 : lw_okq (⟨"LateExcusesModel", "faultOf", "()I"⟩, 8) := ⟨⟨by decide +kernel, by decide +kernel⟩, List.mem_of_getElem? (i := 659) (by decide +kernel), List.mem_of_getElem? (i := 890) (by decide +kernel), List.mem_of_getElem? (i := 891) (by decide +kernel)⟩
theorem lw_p45 : lw_okq (⟨"LateExcusesModel", "passesEvent", "()Z"⟩, 8) := ⟨⟨by decide +kernel, by decide +kernel⟩, List.mem_of_getElem? (i := 659) (by decide +kernel), List.mem_of_getElem? (i := 894) (by decide +kernel), List.mem_of_getElem? (i := 895) (by decide +kernel)⟩
theorem lw_p46 : lw_okq (⟨"LateExcusesModel", "passesNumber", "()Z"⟩, 8) := ⟨⟨by decide +kernel, by decide +kernel⟩, List.mem_of_getElem? (i := 659) (by decide +kernel), List.mem_of_getElem? (i := 898) (by decide +kernel), List.mem_of_getElem? (i := 899) (by decide +kernel)⟩
theorem lw_p47 : lw_okq (⟨"LateExcusesModel", "passes", "(I)Z"⟩, 8) := ⟨⟨by decide +kernel, by decide +kernel⟩, List.mem_of_getElem? (i := 659) (by decide +kernel), List.mem_of_getElem? (i := 902) (by decide +kernel), List.mem_of_getElem? (i := 903) (by decide +kernel)⟩
def lw_privs_3 : List (MethodName × Nat) := [(⟨"LateExcusesModel", "setsP", "(III)V"⟩, 8), (⟨"LateExcusesModel", "takesBack", "(I)V"⟩, 8), (⟨"LateExcusesModel", "says", "(IIII)V"⟩, 8), (⟨"LateExcusesModel", "rises", "(I)V"⟩, 8), (⟨"LateExcusesModel", "nextKept", "(I)I"⟩, 8), (⟨"LateExcusesModel", "tells", "(I)V"⟩, 8), (⟨"LateExcusesModel", "sumOf", "(II)I"⟩, 8), (⟨"LateExcusesModel", "counts", "(I)Z"⟩, 8), (⟨"LateExcusesModel", "isPane", "(I)Z"⟩, 8), (⟨"LateExcusesModel", "stateOf", "(I)I"⟩, 8), (⟨"LateExcusesModel", "results", "(II)I"⟩, 8), (⟨"LateExcusesModel", "cases", "()I"⟩, 8), (⟨"LateExcusesModel", "faultOf", "()I"⟩, 8), (⟨"LateExcusesModel", "passesEvent", "()Z"⟩, 8), (⟨"LateExcusesModel", "passesNumber", "()Z"⟩, 8), (⟨"LateExcusesModel", "passes", "(I)Z"⟩, 8)]
theorem lw_r3 : ∀ q ∈ lw_privs_3, lw_okq q := List.forall_mem_cons.mpr ⟨lw_p32, List.forall_mem_cons.mpr ⟨lw_p33, List.forall_mem_cons.mpr ⟨lw_p34, List.forall_mem_cons.mpr ⟨lw_p35, List.forall_mem_cons.mpr ⟨lw_p36, List.forall_mem_cons.mpr ⟨lw_p37, List.forall_mem_cons.mpr ⟨lw_p38, List.forall_mem_cons.mpr ⟨lw_p39, List.forall_mem_cons.mpr ⟨lw_p40, List.forall_mem_cons.mpr ⟨lw_p41, List.forall_mem_cons.mpr ⟨lw_p42, List.forall_mem_cons.mpr ⟨lw_p43, List.forall_mem_cons.mpr ⟨lw_p44, List.forall_mem_cons.mpr ⟨lw_p45, List.forall_mem_cons.mpr ⟨lw_p46, List.forall_mem_cons.mpr ⟨lw_p47, fun _ h => absurd h List.not_mem_nil⟩⟩⟩⟩⟩⟩⟩⟩⟩⟩⟩⟩⟩⟩⟩⟩
theorem lw_p48 : lw_okq (⟨"LateExcusesModel", "excuseHere", "()I"⟩, 8) := ⟨⟨by decide +kernel, by decide +kernel⟩, List.mem_of_getElem? (i := 659) (by decide +kernel), List.mem_of_getElem? (i := 906) (by decide +kernel), List.mem_of_getElem? (i := 907) (by decide +kernel)⟩
def lw_privs_4 : List (MethodName × Nat) := [(⟨"LateExcusesModel", "excuseHere", "()I"⟩, 8)]
theorem lw_r4 : ∀ q ∈ lw_privs_4, lw_okq q := List.forall_mem_cons.mpr ⟨lw_p48, fun _ h => absurd h List.not_mem_nil⟩
def lw_privs : List (MethodName × Nat) := lw_privs_1 ++ (lw_privs_2 ++ (lw_privs_3 ++ (lw_privs_4)))
def lw_tbl : List Cond := k2_sels lw_privs ++ tables_1
theorem lw_privs_ok : ∀ q ∈ lw_privs, lw_okq q := by
  show ∀ q ∈ lw_privs_1 ++ (lw_privs_2 ++ (lw_privs_3 ++ (lw_privs_4))), lw_okq q
  exact List.forall_mem_append.mpr ⟨lw_r1, List.forall_mem_append.mpr ⟨lw_r2, List.forall_mem_append.mpr ⟨lw_r3, lw_r4⟩⟩⟩
/-- the streams that the claim lets the run draw from -/
abbrev lw_cs : List Choice := [Jvm.Choice.named "NaN.bits"]
theorem lw_bits : nanBits ∈ lw_cs := by first | decide | exact List.mem_cons_self | simp [lw_cs, nanBits]
end
section
/-! ===== BEGIN words of one list among another's, by their places ===== -/
theorem goodIn_r {big : List Cond} (ws : List Cond) (ps : List Nat) (hp : ws = ps.filterMap (fun i => big[i]?)) (h : ws.all goodWord = true) : GoodIn big ws := by
  intro w hw
  have h1 := List.all_eq_true.mp h w hw
  rw [hp] at hw
  obtain ⟨i, -, hi⟩ := List.mem_filterMap.mp hw
  have hm : w ∈ big := by first | exact List.mem_of_getElem? hi | exact List.getElem?_mem hi
  exact ⟨hm, good_of_word h1⟩
theorem goodIn_app {big a b : List Cond} (ha : GoodIn big a) (hb : GoodIn big b) : GoodIn big (a ++ b) := fun w h => (List.mem_append.mp h).elim (ha w) (hb w)
theorem goodIn_ca {big a b : List Cond} {c : Cond} (ha : GoodIn big (c :: a)) (hb : GoodIn big b) : GoodIn big (c :: (a ++ b)) := fun w h => (List.mem_cons.mp h).elim (fun e => ha w (List.mem_cons.mpr (Or.inl e))) (fun h => (List.mem_append.mp h).elim (fun h => ha w (List.mem_cons.mpr (Or.inr h))) (hb w))
theorem goodIn_sub {big ws : List Cond} (hm : ∀ w ∈ ws, w ∈ big) (h : ws.all goodWord = true) : GoodIn big ws := fun w hw => ⟨hm w hw, good_of_word (List.all_eq_true.mp h w hw)⟩
/-! ===== END ===== -/

/-! ===== BEGIN printed: names, fields, word lists, decode rows ===== -/
def RX0 : String := "LateExcuses$Cabinets"
def TX0 : u_T := fun k => match k with
  | _ => ("LateExcuses$Cabinets", "rows", "LLateExcuses$Table;", true)
def tyX0 : Nat → FieldType := fun k => match k with
  | _ => .object "LateExcuses$Table"
abbrev wsX00 : List Cond := u_ws RX0 TX0 1
theorem nmX0 : ∀ a, a < 1 → ∀ b, b < 1 → a ≠ b → (TX0 a).2.1 ≠ (TX0 b).2.1 := by decide +kernel
theorem tyX0_ok : ∀ k, k < 1 → parseFieldDescriptor (TX0 k).2.2.1 = some (tyX0 k) := by decide +kernel
abbrev cX0_init : ByteArray := prog_2_method_1_code
def yX0_init : MethodName := ⟨RX0, "<init>", "()V"⟩
abbrev cX0_copyFrom : ByteArray := prog_2_method_2_code
def yX0_copyFrom : MethodName := ⟨RX0, "copyFrom", "(LLateExcuses$Cabinets;)V"⟩
abbrev cX0_read : ByteArray := prog_2_method_3_code
def yX0_read : MethodName := ⟨RX0, "read", "(II)I"⟩
abbrev cX0_hasPlaceFor : ByteArray := prog_2_method_4_code
def yX0_hasPlaceFor : MethodName := ⟨RX0, "hasPlaceFor", "(I)Z"⟩
abbrev cX0_file : ByteArray := prog_2_method_5_code
def yX0_file : MethodName := ⟨RX0, "file", "(II)V"⟩
abbrev cX0_cabinetFor : ByteArray := prog_2_method_6_code
def yX0_cabinetFor : MethodName := ⟨RX0, "cabinetFor", "(I)I"⟩
abbrev cX0_isFull : ByteArray := prog_2_method_7_code
def yX0_isFull : MethodName := ⟨RX0, "isFull", "(I)Z"⟩
def RX1 : String := "LateExcuses$Court"
def TX1 : u_T := fun k => match k with
  | 0 => ("LateExcuses$Court", "events", "LLateExcuses$Events;", true)
  | 1 => ("LateExcuses$Court", "panes", "LLateExcuses$Panes;", true)
  | 2 => ("LateExcuses$Court", "cabinets", "LLateExcuses$Cabinets;", true)
  | 3 => ("LateExcuses$Court", "size", "I", false)
  | 4 => ("LateExcuses$Court", "lag", "I", false)
  | 5 => ("LateExcuses$Court", "grace", "I", false)
  | 6 => ("LateExcuses$Court", "watermark", "I", false)
  | 7 => ("LateExcuses$Court", "latest", "I", false)
  | _ => ("LateExcuses$Court", "moved", "Z", false)
def tyX1 : Nat → FieldType := fun k => match k with
  | 0 => .object "LateExcuses$Events"
  | 1 => .object "LateExcuses$Panes"
  | 2 => .object "LateExcuses$Cabinets"
  | 3 => .int
  | 4 => .int
  | 5 => .int
  | 6 => .int
  | 7 => .int
  | _ => .boolean
abbrev wsX10 : List Cond := u_ws RX1 TX1 9
theorem nmX1 : ∀ a, a < 9 → ∀ b, b < 9 → a ≠ b → (TX1 a).2.1 ≠ (TX1 b).2.1 := by decide +kernel
theorem tyX1_ok : ∀ k, k < 9 → parseFieldDescriptor (TX1 k).2.2.1 = some (tyX1 k) := by decide +kernel
abbrev cX1_init : ByteArray := prog_3_method_1_code
def yX1_init : MethodName := ⟨RX1, "<init>", "()V"⟩
abbrev cX1_events : ByteArray := prog_3_method_2_code
def yX1_events : MethodName := ⟨RX1, "events", "()LLateExcuses$Events;"⟩
abbrev cX1_panes : ByteArray := prog_3_method_3_code
def yX1_panes : MethodName := ⟨RX1, "panes", "()LLateExcuses$Panes;"⟩
abbrev cX1_cabinets : ByteArray := prog_3_method_4_code
def yX1_cabinets : MethodName := ⟨RX1, "cabinets", "()LLateExcuses$Cabinets;"⟩
abbrev cX1_copyFrom : ByteArray := prog_3_method_5_code
def yX1_copyFrom : MethodName := ⟨RX1, "copyFrom", "(LLateExcuses$Court;)V"⟩
abbrev cX1_setting : ByteArray := prog_3_method_6_code
def yX1_setting : MethodName := ⟨RX1, "setting", "(I)I"⟩
abbrev cX1_changeSetting : ByteArray := prog_3_method_7_code
def yX1_changeSetting : MethodName := ⟨RX1, "changeSetting", "(II)I"⟩
abbrev cX1_hasEvents : ByteArray := prog_3_method_8_code
def yX1_hasEvents : MethodName := ⟨RX1, "hasEvents", "()Z"⟩
abbrev cX1_number : ByteArray := prog_3_method_9_code
def yX1_number : MethodName := ⟨RX1, "number", "(I)I"⟩
abbrev cX1_paneAt : ByteArray := prog_3_method_10_code
def yX1_paneAt : MethodName := ⟨RX1, "paneAt", "(I)I"⟩
abbrev cX1_endOf : ByteArray := prog_3_method_11_code
def yX1_endOf : MethodName := ⟨RX1, "endOf", "(I)I"⟩
abbrev cX1_hasTimes : ByteArray := prog_3_method_12_code
def yX1_hasTimes : MethodName := ⟨RX1, "hasTimes", "(I)Z"⟩
abbrev cX1_stateOf : ByteArray := prog_3_method_13_code
def yX1_stateOf : MethodName := ⟨RX1, "stateOf", "(I)I"⟩
abbrev cX1_lateBy : ByteArray := prog_3_method_14_code
def yX1_lateBy : MethodName := ⟨RX1, "lateBy", "(I)I"⟩
abbrev cX1_verdict : ByteArray := prog_3_method_15_code
def yX1_verdict : MethodName := ⟨RX1, "verdict", "(III)I"⟩
abbrev cX1_isAcceptable : ByteArray := prog_3_method_16_code
def yX1_isAcceptable : MethodName := ⟨RX1, "isAcceptable", "(III)Z"⟩
abbrev cX1_latestAcceptable : ByteArray := prog_3_method_17_code
def yX1_latestAcceptable : MethodName := ⟨RX1, "latestAcceptable", "(II)I"⟩
abbrev cX1_latestIn : ByteArray := prog_3_method_18_code
def yX1_latestIn : MethodName := ⟨RX1, "latestIn", "(III)I"⟩
abbrev cX1_admit : ByteArray := prog_3_method_19_code
def yX1_admit : MethodName := ⟨RX1, "admit", "(IIIII)I"⟩
abbrev cX1_raiseWatermark : ByteArray := prog_3_method_20_code
def yX1_raiseWatermark : MethodName := ⟨RX1, "raiseWatermark", "(I)V"⟩
abbrev cX1_canMoveBack : ByteArray := prog_3_method_21_code
def yX1_canMoveBack : MethodName := ⟨RX1, "canMoveBack", "()Z"⟩
abbrev cX1_moveBack : ByteArray := prog_3_method_22_code
def yX1_moveBack : MethodName := ⟨RX1, "moveBack", "(I)I"⟩
def RX2 : String := "LateExcuses$Events"
def TX2 : u_T := fun k => match k with
  | 0 => ("LateExcuses$Events", "rows", "LLateExcuses$Table;", true)
  | _ => ("LateExcuses$Events", "doubles", "I", false)
def tyX2 : Nat → FieldType := fun k => match k with
  | 0 => .object "LateExcuses$Table"
  | _ => .int
abbrev wsX20 : List Cond := u_ws RX2 TX2 2
theorem nmX2 : ∀ a, a < 2 → ∀ b, b < 2 → a ≠ b → (TX2 a).2.1 ≠ (TX2 b).2.1 := by decide +kernel
theorem tyX2_ok : ∀ k, k < 2 → parseFieldDescriptor (TX2 k).2.2.1 = some (tyX2 k) := by decide +kernel
abbrev cX2_init : ByteArray := prog_4_method_1_code
def yX2_init : MethodName := ⟨RX2, "<init>", "()V"⟩
abbrev cX2_copyFrom : ByteArray := prog_4_method_2_code
def yX2_copyFrom : MethodName := ⟨RX2, "copyFrom", "(LLateExcuses$Events;)V"⟩
abbrev cX2_hasCome : ByteArray := prog_4_method_3_code
def yX2_hasCome : MethodName := ⟨RX2, "hasCome", "(I)Z"⟩
abbrev cX2_read : ByteArray := prog_4_method_4_code
def yX2_read : MethodName := ⟨RX2, "read", "(II)I"⟩
abbrev cX2_enter : ByteArray := prog_4_method_5_code
def yX2_enter : MethodName := ⟨RX2, "enter", "(IIIII)V"⟩
abbrev cX2_conclude : ByteArray := prog_4_method_6_code
def yX2_conclude : MethodName := ⟨RX2, "conclude", "(III)V"⟩
abbrev cX2_addDouble : ByteArray := prog_4_method_7_code
def yX2_addDouble : MethodName := ⟨RX2, "addDouble", "()V"⟩
abbrev cX2_doubles : ByteArray := prog_4_method_8_code
def yX2_doubles : MethodName := ⟨RX2, "doubles", "()I"⟩
abbrev cX2_withOutcome : ByteArray := prog_4_method_9_code
def yX2_withOutcome : MethodName := ⟨RX2, "withOutcome", "(II)I"⟩
abbrev cX2_ofKey : ByteArray := prog_4_method_10_code
def yX2_ofKey : MethodName := ⟨RX2, "ofKey", "(III)I"⟩
abbrev cX2_hadIllness : ByteArray := prog_4_method_11_code
def yX2_hadIllness : MethodName := ⟨RX2, "hadIllness", "(I)Z"⟩
abbrev cX2_hasOutcome : ByteArray := prog_4_method_12_code
def yX2_hasOutcome : MethodName := ⟨RX2, "hasOutcome", "(III)Z"⟩
def RX3 : String := "LateExcuses$History"
def TX3 : u_T := fun k => match k with
  | 0 => ("LateExcuses$History", "past", "[LLateExcuses$Court;", true)
  | 1 => ("LateExcuses$History", "oldest", "I", false)
  | _ => ("LateExcuses$History", "states", "I", false)
def tyX3 : Nat → FieldType := fun k => match k with
  | 0 => .array (.object "LateExcuses$Court")
  | 1 => .int
  | _ => .int
abbrev wsX30 : List Cond := u_ws RX3 TX3 3
theorem nmX3 : ∀ a, a < 3 → ∀ b, b < 3 → a ≠ b → (TX3 a).2.1 ≠ (TX3 b).2.1 := by decide +kernel
theorem tyX3_ok : ∀ k, k < 3 → parseFieldDescriptor (TX3 k).2.2.1 = some (tyX3 k) := by decide +kernel
abbrev cX3_init : ByteArray := prog_5_method_1_code
def yX3_init : MethodName := ⟨RX3, "<init>", "()V"⟩
abbrev cX3_states : ByteArray := prog_5_method_2_code
def yX3_states : MethodName := ⟨RX3, "states", "()I"⟩
abbrev cX3_keep : ByteArray := prog_5_method_3_code
def yX3_keep : MethodName := ⟨RX3, "keep", "(LLateExcuses$Court;)V"⟩
abbrev cX3_restore : ByteArray := prog_5_method_4_code
def yX3_restore : MethodName := ⟨RX3, "restore", "(LLateExcuses$Court;)V"⟩
def RX4 : String := "LateExcuses$Panes"
def TX4 : u_T := fun k => match k with
  | 0 => ("LateExcuses$Panes", "rows", "LLateExcuses$Table;", true)
  | 1 => ("LateExcuses$Panes", "words", "LLateExcuses$Words;", true)
  | _ => ("LateExcuses$Panes", "used", "I", false)
def tyX4 : Nat → FieldType := fun k => match k with
  | 0 => .object "LateExcuses$Table"
  | 1 => .object "LateExcuses$Words"
  | _ => .int
abbrev wsX40 : List Cond := u_ws RX4 TX4 3
theorem nmX4 : ∀ a, a < 3 → ∀ b, b < 3 → a ≠ b → (TX4 a).2.1 ≠ (TX4 b).2.1 := by decide +kernel
theorem tyX4_ok : ∀ k, k < 3 → parseFieldDescriptor (TX4 k).2.2.1 = some (tyX4 k) := by decide +kernel
abbrev cX4_init : ByteArray := prog_6_method_1_code
def yX4_init : MethodName := ⟨RX4, "<init>", "()V"⟩
abbrev cX4_words : ByteArray := prog_6_method_2_code
def yX4_words : MethodName := ⟨RX4, "words", "()LLateExcuses$Words;"⟩
abbrev cX4_copyFrom : ByteArray := prog_6_method_3_code
def yX4_copyFrom : MethodName := ⟨RX4, "copyFrom", "(LLateExcuses$Panes;)V"⟩
abbrev cX4_rowOf : ByteArray := prog_6_method_4_code
def yX4_rowOf : MethodName := ⟨RX4, "rowOf", "(I)I"⟩
abbrev cX4_rowBehind : ByteArray := prog_6_method_5_code
def yX4_rowBehind : MethodName := ⟨RX4, "rowBehind", "(I)I"⟩
abbrev cX4_rowMadeFor : ByteArray := prog_6_method_6_code
def yX4_rowMadeFor : MethodName := ⟨RX4, "rowMadeFor", "(I)I"⟩
abbrev cX4_read : ByteArray := prog_6_method_7_code
def yX4_read : MethodName := ⟨RX4, "read", "(II)I"⟩
abbrev cX4_behind : ByteArray := prog_6_method_8_code
def yX4_behind : MethodName := ⟨RX4, "behind", "(I)I"⟩
abbrev cX4_hasWord : ByteArray := prog_6_method_9_code
def yX4_hasWord : MethodName := ⟨RX4, "hasWord", "(I)Z"⟩
abbrev cX4_isStanding : ByteArray := prog_6_method_10_code
def yX4_isStanding : MethodName := ⟨RX4, "isStanding", "(I)Z"⟩
abbrev cX4_closedCases : ByteArray := prog_6_method_11_code
def yX4_closedCases : MethodName := ⟨RX4, "closedCases", "()I"⟩
abbrev cX4_add : ByteArray := prog_6_method_12_code
def yX4_add : MethodName := ⟨RX4, "add", "(III)V"⟩
abbrev cX4_reopen : ByteArray := prog_6_method_13_code
def yX4_reopen : MethodName := ⟨RX4, "reopen", "(II)V"⟩
abbrev cX4_shutAndClose : ByteArray := prog_6_method_14_code
def yX4_shutAndClose : MethodName := ⟨RX4, "shutAndClose", "(III)V"⟩
abbrev cX4_tellWord : ByteArray := prog_6_method_15_code
def yX4_tellWord : MethodName := ⟨RX4, "tellWord", "(I)V"⟩
abbrev cX4_takeBackWord : ByteArray := prog_6_method_16_code
def yX4_takeBackWord : MethodName := ⟨RX4, "takeBackWord", "(I)V"⟩
abbrev cX4_takeBack : ByteArray := prog_6_method_17_code
def yX4_takeBack : MethodName := ⟨RX4, "takeBack", "(I)V"⟩
def RX5 : String := "LateExcuses$Table"
def TX5 : u_T := fun k => match k with
  | 0 => ("LateExcuses$Table", "rows", "I", true)
  | 1 => ("LateExcuses$Table", "columns", "I", true)
  | _ => ("LateExcuses$Table", "cells", "[I", true)
def tyX5 : Nat → FieldType := fun k => match k with
  | 0 => .int
  | 1 => .int
  | _ => .array .int
abbrev wsX50 : List Cond := u_ws RX5 TX5 3
theorem nmX5 : ∀ a, a < 3 → ∀ b, b < 3 → a ≠ b → (TX5 a).2.1 ≠ (TX5 b).2.1 := by decide +kernel
theorem tyX5_ok : ∀ k, k < 3 → parseFieldDescriptor (TX5 k).2.2.1 = some (tyX5 k) := by decide +kernel
abbrev cX5_init : ByteArray := prog_7_method_1_code
def yX5_init : MethodName := ⟨RX5, "<init>", "(II)V"⟩
abbrev cX5_copyFrom : ByteArray := prog_7_method_2_code
def yX5_copyFrom : MethodName := ⟨RX5, "copyFrom", "(LLateExcuses$Table;)V"⟩
abbrev cX5_get : ByteArray := prog_7_method_3_code
def yX5_get : MethodName := ⟨RX5, "get", "(II)I"⟩
abbrev cX5_put : ByteArray := prog_7_method_4_code
def yX5_put : MethodName := ⟨RX5, "put", "(III)V"⟩
abbrev cX5_openRow : ByteArray := prog_7_method_5_code
def yX5_openRow : MethodName := ⟨RX5, "openRow", "(I)V"⟩
abbrev cX5_dropFirstRow : ByteArray := prog_7_method_6_code
def yX5_dropFirstRow : MethodName := ⟨RX5, "dropFirstRow", "()V"⟩
def RX6 : String := "LateExcuses$Text"
def TX6 : u_T := fun k => match k with
  | 0 => ("LateExcuses$Text", "signs", "[C", true)
  | 1 => ("LateExcuses$Text", "length", "I", false)
  | 2 => ("LateExcuses$Text", "place", "I", false)
  | 3 => ("LateExcuses$Text", "number", "I", false)
  | 4 => ("LateExcuses$Text", "id", "I", false)
  | 5 => ("LateExcuses$Text", "time", "I", false)
  | 6 => ("LateExcuses$Text", "key", "I", false)
  | 7 => ("LateExcuses$Text", "amount", "I", false)
  | 8 => ("LateExcuses$Text", "excuse", "I", false)
  | 9 => ("LateExcuses$Text", "faultPlace", "I", false)
  | _ => ("LateExcuses$Text", "faultReason", "I", false)
def tyX6 : Nat → FieldType := fun k => match k with
  | 0 => .array .char
  | 1 => .int
  | 2 => .int
  | 3 => .int
  | 4 => .int
  | 5 => .int
  | 6 => .int
  | 7 => .int
  | 8 => .int
  | 9 => .int
  | _ => .int
abbrev wsX60 : List Cond := u_ws RX6 TX6 11
theorem nmX6 : ∀ a, a < 11 → ∀ b, b < 11 → a ≠ b → (TX6 a).2.1 ≠ (TX6 b).2.1 := by decide +kernel
theorem tyX6_ok : ∀ k, k < 11 → parseFieldDescriptor (TX6 k).2.2.1 = some (tyX6 k) := by decide +kernel
abbrev cX6_init : ByteArray := prog_8_method_1_code
def yX6_init : MethodName := ⟨RX6, "<init>", "()V"⟩
abbrev cX6_length : ByteArray := prog_8_method_2_code
def yX6_length : MethodName := ⟨RX6, "length", "()I"⟩
abbrev cX6_append : ByteArray := prog_8_method_3_code
def yX6_append : MethodName := ⟨RX6, "append", "(C)Z"⟩
abbrev cX6_empty : ByteArray := prog_8_method_4_code
def yX6_empty : MethodName := ⟨RX6, "empty", "()V"⟩
abbrev cX6_faultPlace : ByteArray := prog_8_method_5_code
def yX6_faultPlace : MethodName := ⟨RX6, "faultPlace", "()I"⟩
abbrev cX6_faultReason : ByteArray := prog_8_method_6_code
def yX6_faultReason : MethodName := ⟨RX6, "faultReason", "()I"⟩
abbrev cX6_hasFault : ByteArray := prog_8_method_7_code
def yX6_hasFault : MethodName := ⟨RX6, "hasFault", "()Z"⟩
abbrev cX6_readEvent : ByteArray := prog_8_method_8_code
def yX6_readEvent : MethodName := ⟨RX6, "readEvent", "(I)I"⟩
abbrev cX6_readNumber : ByteArray := prog_8_method_9_code
def yX6_readNumber : MethodName := ⟨RX6, "readNumber", "()Z"⟩
abbrev cX6_readSign : ByteArray := prog_8_method_10_code
def yX6_readSign : MethodName := ⟨RX6, "readSign", "(C)Z"⟩
abbrev cX6_readExcuse : ByteArray := prog_8_method_11_code
def yX6_readExcuse : MethodName := ⟨RX6, "readExcuse", "()I"⟩
abbrev cX6_signHere : ByteArray := prog_8_method_12_code
def yX6_signHere : MethodName := ⟨RX6, "signHere", "()C"⟩
def RX7 : String := "LateExcuses$Words"
def TX7 : u_T := fun k => match k with
  | 0 => ("LateExcuses$Words", "rows", "LLateExcuses$Table;", true)
  | 1 => ("LateExcuses$Words", "kept", "I", false)
  | 2 => ("LateExcuses$Words", "told", "I", false)
  | _ => ("LateExcuses$Words", "takenBack", "I", false)
def tyX7 : Nat → FieldType := fun k => match k with
  | 0 => .object "LateExcuses$Table"
  | 1 => .int
  | 2 => .int
  | _ => .int
abbrev wsX70 : List Cond := u_ws RX7 TX7 4
theorem nmX7 : ∀ a, a < 4 → ∀ b, b < 4 → a ≠ b → (TX7 a).2.1 ≠ (TX7 b).2.1 := by decide +kernel
theorem tyX7_ok : ∀ k, k < 4 → parseFieldDescriptor (TX7 k).2.2.1 = some (tyX7 k) := by decide +kernel
abbrev cX7_init : ByteArray := prog_9_method_1_code
def yX7_init : MethodName := ⟨RX7, "<init>", "()V"⟩
abbrev cX7_copyFrom : ByteArray := prog_9_method_2_code
def yX7_copyFrom : MethodName := ⟨RX7, "copyFrom", "(LLateExcuses$Words;)V"⟩
abbrev cX7_kept : ByteArray := prog_9_method_3_code
def yX7_kept : MethodName := ⟨RX7, "kept", "()I"⟩
abbrev cX7_told : ByteArray := prog_9_method_4_code
def yX7_told : MethodName := ⟨RX7, "told", "()I"⟩
abbrev cX7_takenBack : ByteArray := prog_9_method_5_code
def yX7_takenBack : MethodName := ⟨RX7, "takenBack", "()I"⟩
abbrev cX7_read : ByteArray := prog_9_method_6_code
def yX7_read : MethodName := ⟨RX7, "read", "(II)I"⟩
abbrev cX7_add : ByteArray := prog_9_method_7_code
def yX7_add : MethodName := ⟨RX7, "add", "(IIII)V"⟩
def RX8 : String := "LateExcuses"
def TX8 : u_T := fun k => match k with
  | 0 => ("LateExcuses", "court", "LLateExcuses$Court;", true)
  | 1 => ("LateExcuses", "history", "LLateExcuses$History;", true)
  | _ => ("LateExcuses", "text", "LLateExcuses$Text;", true)
def tyX8 : Nat → FieldType := fun k => match k with
  | 0 => .object "LateExcuses$Court"
  | 1 => .object "LateExcuses$History"
  | _ => .object "LateExcuses$Text"
abbrev wsX80 : List Cond := u_ws RX8 TX8 3
theorem nmX8 : ∀ a, a < 3 → ∀ b, b < 3 → a ≠ b → (TX8 a).2.1 ≠ (TX8 b).2.1 := by decide +kernel
theorem tyX8_ok : ∀ k, k < 3 → parseFieldDescriptor (TX8 k).2.2.1 = some (tyX8 k) := by decide +kernel
abbrev cX8_init : ByteArray := prog_1_method_1_code
def yX8_init : MethodName := ⟨RX8, "<init>", "()V"⟩
abbrev cX8_set : ByteArray := prog_1_method_2_code
def yX8_set : MethodName := ⟨RX8, "set", "(II)I"⟩
abbrev cX8_event : ByteArray := prog_1_method_3_code
def yX8_event : MethodName := ⟨RX8, "event", "(IIIII)I"⟩
abbrev cX8_move : ByteArray := prog_1_method_4_code
def yX8_move : MethodName := ⟨RX8, "move", "(I)I"⟩
abbrev cX8_paneOf : ByteArray := prog_1_method_5_code
def yX8_paneOf : MethodName := ⟨RX8, "paneOf", "(II)I"⟩
abbrev cX8_mean : ByteArray := prog_1_method_6_code
def yX8_mean : MethodName := ⟨RX8, "mean", "(I)I"⟩
abbrev cX8_standing : ByteArray := prog_1_method_7_code
def yX8_standing : MethodName := ⟨RX8, "standing", "(II)I"⟩
abbrev cX8_nextPane : ByteArray := prog_1_method_8_code
def yX8_nextPane : MethodName := ⟨RX8, "nextPane", "(I)I"⟩
abbrev cX8_wordAt : ByteArray := prog_1_method_9_code
def yX8_wordAt : MethodName := ⟨RX8, "wordAt", "(II)I"⟩
abbrev cX8_eventOf : ByteArray := prog_1_method_10_code
def yX8_eventOf : MethodName := ⟨RX8, "eventOf", "(II)I"⟩
abbrev cX8_judge : ByteArray := prog_1_method_11_code
def yX8_judge : MethodName := ⟨RX8, "judge", "(III)I"⟩
abbrev cX8_lateness : ByteArray := prog_1_method_12_code
def yX8_lateness : MethodName := ⟨RX8, "lateness", "(I)I"⟩
abbrev cX8_latestExcused : ByteArray := prog_1_method_13_code
def yX8_latestExcused : MethodName := ⟨RX8, "latestExcused", "(II)I"⟩
abbrev cX8_filed : ByteArray := prog_1_method_14_code
def yX8_filed : MethodName := ⟨RX8, "filed", "(II)I"⟩
abbrev cX8_trust : ByteArray := prog_1_method_15_code
def yX8_trust : MethodName := ⟨RX8, "trust", "(I)I"⟩
abbrev cX8_count : ByteArray := prog_1_method_16_code
def yX8_count : MethodName := ⟨RX8, "count", "(I)I"⟩
abbrev cX8_undo : ByteArray := prog_1_method_17_code
def yX8_undo : MethodName := ⟨RX8, "undo", "()I"⟩
abbrev cX8_type : ByteArray := prog_1_method_18_code
def yX8_type : MethodName := ⟨RX8, "type", "(I)I"⟩
abbrev cX8_clearText : ByteArray := prog_1_method_19_code
def yX8_clearText : MethodName := ⟨RX8, "clearText", "()I"⟩
abbrev cX8_fault : ByteArray := prog_1_method_20_code
def yX8_fault : MethodName := ⟨RX8, "fault", "(I)I"⟩
abbrev cX8_play : ByteArray := prog_1_method_21_code
def yX8_play : MethodName := ⟨RX8, "play", "()I"⟩
abbrev cX8_isWithin : ByteArray := prog_1_method_22_code
def yX8_isWithin : MethodName := ⟨RX8, "isWithin", "(III)Z"⟩
abbrev cX8_isEvent : ByteArray := prog_1_method_23_code
def yX8_isEvent : MethodName := ⟨RX8, "isEvent", "(IIII)Z"⟩
abbrev cX8_bitsOf : ByteArray := prog_1_method_24_code
def yX8_bitsOf : MethodName := ⟨RX8, "bitsOf", "(F)I"⟩
def RX9 : String := "LateExcusesModel"
def TX9 : u_T := fun k => match k with
  | 0 => ("LateExcusesModel", "now", "[I", true)
  | 1 => ("LateExcusesModel", "kept", "[I", true)
  | 2 => ("LateExcusesModel", "states", "I", false)
  | 3 => ("LateExcusesModel", "text", "[I", true)
  | 4 => ("LateExcusesModel", "length", "I", false)
  | 5 => ("LateExcusesModel", "at", "I", false)
  | 6 => ("LateExcusesModel", "number", "I", false)
  | _ => ("LateExcusesModel", "read", "[I", true)
def tyX9 : Nat → FieldType := fun k => match k with
  | 0 => .array .int
  | 1 => .array .int
  | 2 => .int
  | 3 => .array .int
  | 4 => .int
  | 5 => .int
  | 6 => .int
  | _ => .array .int
abbrev wsX90 : List Cond := u_ws RX9 TX9 8
theorem nmX9 : ∀ a, a < 8 → ∀ b, b < 8 → a ≠ b → (TX9 a).2.1 ≠ (TX9 b).2.1 := by decide +kernel
theorem tyX9_ok : ∀ k, k < 8 → parseFieldDescriptor (TX9 k).2.2.1 = some (tyX9 k) := by decide +kernel
abbrev cX9_init : ByteArray := prog_11_method_1_code
def yX9_init : MethodName := ⟨RX9, "<init>", "()V"⟩
abbrev cX9_isIn : ByteArray := prog_11_method_2_code
def yX9_isIn : MethodName := ⟨RX9, "isIn", "(III)Z"⟩
abbrev cX9_ofE : ByteArray := prog_11_method_3_code
def yX9_ofE : MethodName := ⟨RX9, "ofE", "(II)I"⟩
abbrev cX9_ofP : ByteArray := prog_11_method_4_code
def yX9_ofP : MethodName := ⟨RX9, "ofP", "(II)I"⟩
abbrev cX9_setsP : ByteArray := prog_11_method_5_code
def yX9_setsP : MethodName := ⟨RX9, "setsP", "(III)V"⟩
abbrev cX9_records : ByteArray := prog_11_method_6_code
def yX9_records : MethodName := ⟨RX9, "records", "()V"⟩
abbrev cX9_undo : ByteArray := prog_11_method_7_code
def yX9_undo : MethodName := ⟨RX9, "undo", "()I"⟩
abbrev cX9_set : ByteArray := prog_11_method_8_code
def yX9_set : MethodName := ⟨RX9, "set", "(II)I"⟩
abbrev cX9_paneAt : ByteArray := prog_11_method_9_code
def yX9_paneAt : MethodName := ⟨RX9, "paneAt", "(I)I"⟩
abbrev cX9_endOf : ByteArray := prog_11_method_10_code
def yX9_endOf : MethodName := ⟨RX9, "endOf", "(I)I"⟩
abbrev cX9_find : ByteArray := prog_11_method_11_code
def yX9_find : MethodName := ⟨RX9, "find", "(I)I"⟩
abbrev cX9_modeOf : ByteArray := prog_11_method_12_code
def yX9_modeOf : MethodName := ⟨RX9, "modeOf", "(I)I"⟩
abbrev cX9_keeps : ByteArray := prog_11_method_13_code
def yX9_keeps : MethodName := ⟨RX9, "keeps", "(I)I"⟩
abbrev cX9_isShut : ByteArray := prog_11_method_14_code
def yX9_isShut : MethodName := ⟨RX9, "isShut", "(I)Z"⟩
abbrev cX9_counts : ByteArray := prog_11_method_15_code
def yX9_counts : MethodName := ⟨RX9, "counts", "(I)Z"⟩
abbrev cX9_sumOf : ByteArray := prog_11_method_16_code
def yX9_sumOf : MethodName := ⟨RX9, "sumOf", "(II)I"⟩
abbrev cX9_says : ByteArray := prog_11_method_17_code
def yX9_says : MethodName := ⟨RX9, "says", "(IIII)V"⟩
abbrev cX9_tells : ByteArray := prog_11_method_18_code
def yX9_tells : MethodName := ⟨RX9, "tells", "(I)V"⟩
abbrev cX9_takesBack : ByteArray := prog_11_method_19_code
def yX9_takesBack : MethodName := ⟨RX9, "takesBack", "(I)V"⟩
abbrev cX9_nextKept : ByteArray := prog_11_method_20_code
def yX9_nextKept : MethodName := ⟨RX9, "nextKept", "(I)I"⟩
abbrev cX9_rises : ByteArray := prog_11_method_21_code
def yX9_rises : MethodName := ⟨RX9, "rises", "(I)V"⟩
abbrev cX9_wasIll : ByteArray := prog_11_method_22_code
def yX9_wasIll : MethodName := ⟨RX9, "wasIll", "(I)Z"⟩
abbrev cX9_isExcuse : ByteArray := prog_11_method_23_code
def yX9_isExcuse : MethodName := ⟨RX9, "isExcuse", "(III)Z"⟩
abbrev cX9_placeIn : ByteArray := prog_11_method_24_code
def yX9_placeIn : MethodName := ⟨RX9, "placeIn", "(I)I"⟩
abbrev cX9_placeFor : ByteArray := prog_11_method_25_code
def yX9_placeFor : MethodName := ⟨RX9, "placeFor", "(I)I"⟩
abbrev cX9_judgeOf : ByteArray := prog_11_method_26_code
def yX9_judgeOf : MethodName := ⟨RX9, "judgeOf", "(III)I"⟩
abbrev cX9_comes : ByteArray := prog_11_method_27_code
def yX9_comes : MethodName := ⟨RX9, "comes", "(IIIII)I"⟩
abbrev cX9_isEvent : ByteArray := prog_11_method_28_code
def yX9_isEvent : MethodName := ⟨RX9, "isEvent", "(IIIII)Z"⟩
abbrev cX9_event : ByteArray := prog_11_method_29_code
def yX9_event : MethodName := ⟨RX9, "event", "(IIIII)I"⟩
abbrev cX9_move : ByteArray := prog_11_method_30_code
def yX9_move : MethodName := ⟨RX9, "move", "(I)I"⟩
abbrev cX9_isPane : ByteArray := prog_11_method_31_code
def yX9_isPane : MethodName := ⟨RX9, "isPane", "(I)Z"⟩
abbrev cX9_stateOf : ByteArray := prog_11_method_32_code
def yX9_stateOf : MethodName := ⟨RX9, "stateOf", "(I)I"⟩
abbrev cX9_paneOf : ByteArray := prog_11_method_33_code
def yX9_paneOf : MethodName := ⟨RX9, "paneOf", "(II)I"⟩
abbrev cX9_bitsOf : ByteArray := prog_11_method_34_code
def yX9_bitsOf : MethodName := ⟨RX9, "bitsOf", "(F)I"⟩
abbrev cX9_mean : ByteArray := prog_11_method_35_code
def yX9_mean : MethodName := ⟨RX9, "mean", "(I)I"⟩
abbrev cX9_standing : ByteArray := prog_11_method_36_code
def yX9_standing : MethodName := ⟨RX9, "standing", "(II)I"⟩
abbrev cX9_nextPane : ByteArray := prog_11_method_37_code
def yX9_nextPane : MethodName := ⟨RX9, "nextPane", "(I)I"⟩
abbrev cX9_wordAt : ByteArray := prog_11_method_38_code
def yX9_wordAt : MethodName := ⟨RX9, "wordAt", "(II)I"⟩
abbrev cX9_eventOf : ByteArray := prog_11_method_39_code
def yX9_eventOf : MethodName := ⟨RX9, "eventOf", "(II)I"⟩
abbrev cX9_judge : ByteArray := prog_11_method_40_code
def yX9_judge : MethodName := ⟨RX9, "judge", "(III)I"⟩
abbrev cX9_lateness : ByteArray := prog_11_method_41_code
def yX9_lateness : MethodName := ⟨RX9, "lateness", "(I)I"⟩
abbrev cX9_latestExcused : ByteArray := prog_11_method_42_code
def yX9_latestExcused : MethodName := ⟨RX9, "latestExcused", "(II)I"⟩
abbrev cX9_filed : ByteArray := prog_11_method_43_code
def yX9_filed : MethodName := ⟨RX9, "filed", "(II)I"⟩
abbrev cX9_trust : ByteArray := prog_11_method_44_code
def yX9_trust : MethodName := ⟨RX9, "trust", "(I)I"⟩
abbrev cX9_results : ByteArray := prog_11_method_45_code
def yX9_results : MethodName := ⟨RX9, "results", "(II)I"⟩
abbrev cX9_cases : ByteArray := prog_11_method_46_code
def yX9_cases : MethodName := ⟨RX9, "cases", "()I"⟩
abbrev cX9_count : ByteArray := prog_11_method_47_code
def yX9_count : MethodName := ⟨RX9, "count", "(I)I"⟩
abbrev cX9_type : ByteArray := prog_11_method_48_code
def yX9_type : MethodName := ⟨RX9, "type", "(I)I"⟩
abbrev cX9_clearText : ByteArray := prog_11_method_49_code
def yX9_clearText : MethodName := ⟨RX9, "clearText", "()I"⟩
abbrev cX9_passes : ByteArray := prog_11_method_50_code
def yX9_passes : MethodName := ⟨RX9, "passes", "(I)Z"⟩
abbrev cX9_passesNumber : ByteArray := prog_11_method_51_code
def yX9_passesNumber : MethodName := ⟨RX9, "passesNumber", "()Z"⟩
abbrev cX9_excuseHere : ByteArray := prog_11_method_52_code
def yX9_excuseHere : MethodName := ⟨RX9, "excuseHere", "()I"⟩
abbrev cX9_passesEvent : ByteArray := prog_11_method_53_code
def yX9_passesEvent : MethodName := ⟨RX9, "passesEvent", "()Z"⟩
abbrev cX9_faultOf : ByteArray := prog_11_method_54_code
def yX9_faultOf : MethodName := ⟨RX9, "faultOf", "()I"⟩
abbrev cX9_fault : ByteArray := prog_11_method_55_code
def yX9_fault : MethodName := ⟨RX9, "fault", "(I)I"⟩
abbrev cX9_play : ByteArray := prog_11_method_56_code
def yX9_play : MethodName := ⟨RX9, "play", "()I"⟩
def RJ9 : String := "java/lang/Math"
def TJ9 : u_T := fun k => match k with
  | _ => ("", "", "", false)
def tyJ9 : Nat → FieldType := fun k => match k with
  | _ => .int
abbrev wsJ90 : List Cond := u_ws RJ9 TJ9 0
theorem nmJ9 : ∀ a, a < 0 → ∀ b, b < 0 → a ≠ b → (TJ9 a).2.1 ≠ (TJ9 b).2.1 := by decide +kernel
theorem tyJ9_ok : ∀ k, k < 0 → parseFieldDescriptor (TJ9 k).2.2.1 = some (tyJ9 k) := by decide +kernel
abbrev cJ9_max_7cf53 : ByteArray := prog_12_method_65_code
def yJ9_max_7cf53 : MethodName := ⟨RJ9, "max", "(II)I"⟩
def RJ10 : String := "java/lang/System"
def TJ10 : u_T := fun k => match k with
  | _ => ("", "", "", false)
def tyJ10 : Nat → FieldType := fun k => match k with
  | _ => .int
abbrev wsJ100 : List Cond := u_ws RJ10 TJ10 0
theorem nmJ10 : ∀ a, a < 0 → ∀ b, b < 0 → a ≠ b → (TJ10 a).2.1 ≠ (TJ10 b).2.1 := by decide +kernel
theorem tyJ10_ok : ∀ k, k < 0 → parseFieldDescriptor (TJ10 k).2.2.1 = some (tyJ10 k) := by decide +kernel
def RL : String := "LateExcusesLaw"
abbrev cL_law : ByteArray := code
def yL_law : MethodName := ⟨RL, "law", "([I)Z"⟩
def wsX5_init : List Cond := .code yX5_init cX5_init 3 none :: ([.methodLink RX5 1 objectInit, .instanceMethod objectInit, .code objectInit ⟨#[0xb1]⟩ 1 none, .methodLink RX5 7 Lib.Math.max.name, .static Lib.Math.max.name, .initialized "java/lang/Math", .code Lib.Math.max.name Lib.Math.max.code 2 (some .int), .fieldLink RX5 13 "LateExcuses$Table" "rows" "I", .fieldLink RX5 19 "LateExcuses$Table" "columns" "I", .arrayClass .int, .fieldLink RX5 22 "LateExcuses$Table" "cells" "[I"] ++ wsX50)
def wsX0_init : List Cond := .code yX0_init cX0_init 1 none :: ([.methodLink RX0 5 objectInit, .instanceMethod objectInit, .code objectInit ⟨#[0xb1]⟩ 1 none, .classLink RX0 11 RX5, .instantiable RX5 3, .initialized RX5, .fieldLink RX0 16 "LateExcuses$Cabinets" "rows" "LLateExcuses$Table;", .methodLink RX0 13 yX5_init, .instanceMethod yX5_init, .code yX5_init cX5_init 3 none, .methodLink RX5 1 objectInit, .methodLink RX5 7 Lib.Math.max.name, .static Lib.Math.max.name, .initialized "java/lang/Math", .code Lib.Math.max.name Lib.Math.max.code 2 (some .int), .fieldLink RX5 13 "LateExcuses$Table" "rows" "I", .fieldLink RX5 19 "LateExcuses$Table" "columns" "I", .arrayClass .int, .fieldLink RX5 22 "LateExcuses$Table" "cells" "[I"] ++ wsX50 ++ wsX00)
def wsX5_copyFrom : List Cond := .code yX5_copyFrom cX5_copyFrom 2 none :: ([.fieldLink RX5 22 "LateExcuses$Table" "cells" "[I", .methodLink RX5 26 arraycopyName, .native arraycopyName, .static arraycopyName, .initialized "java/lang/System"] ++ wsX50)
def wsX0_copyFrom : List Cond := .code yX0_copyFrom cX0_copyFrom 2 none :: ([.fieldLink RX0 16 "LateExcuses$Cabinets" "rows" "LLateExcuses$Table;", .methodLink RX0 20 yX5_copyFrom, .instanceMethod yX5_copyFrom, .selects RX5 yX5_copyFrom yX5_copyFrom, .initialized RX5, .code yX5_copyFrom cX5_copyFrom 2 none, .fieldLink RX5 22 "LateExcuses$Table" "cells" "[I", .methodLink RX5 26 arraycopyName, .native arraycopyName, .static arraycopyName, .initialized "java/lang/System"] ++ wsX00 ++ wsX50)
def wsX5_get : List Cond := .code yX5_get cX5_get 4 (some .int) :: ([.fieldLink RX5 13 "LateExcuses$Table" "rows" "I", .fieldLink RX5 19 "LateExcuses$Table" "columns" "I", .fieldLink RX5 22 "LateExcuses$Table" "cells" "[I"] ++ wsX50)
def wsX0_read : List Cond := .code yX0_read cX0_read 3 (some .int) :: ([.fieldLink RX0 16 "LateExcuses$Cabinets" "rows" "LLateExcuses$Table;", .constant RX0 28 (-1000004), .methodLink RX0 24 yX5_get, .instanceMethod yX5_get, .selects RX5 yX5_get yX5_get, .initialized RX5, .code yX5_get cX5_get 4 (some .int), .fieldLink RX5 13 "LateExcuses$Table" "rows" "I", .fieldLink RX5 19 "LateExcuses$Table" "columns" "I", .fieldLink RX5 22 "LateExcuses$Table" "cells" "[I"] ++ wsX00 ++ wsX50)
def wsX0_isFull : List Cond := .code yX0_isFull cX0_isFull 2 (some .boolean) :: ([.fieldLink RX0 16 "LateExcuses$Cabinets" "rows" "LLateExcuses$Table;", .methodLink RX0 24 yX5_get, .instanceMethod yX5_get, .selects RX5 yX5_get yX5_get, .initialized RX5, .code yX5_get cX5_get 4 (some .int), .fieldLink RX5 13 "LateExcuses$Table" "rows" "I", .fieldLink RX5 19 "LateExcuses$Table" "columns" "I", .fieldLink RX5 22 "LateExcuses$Table" "cells" "[I"] ++ wsX00 ++ wsX50)
def wsX0_cabinetFor : List Cond := .code yX0_cabinetFor cX0_cabinetFor 2 (some .int) :: ([.methodLink RX0 33 yX0_isFull, .instanceMethod yX0_isFull, .selects RX0 yX0_isFull yX0_isFull, .initialized RX0, .code yX0_isFull cX0_isFull 2 (some .boolean), .fieldLink RX0 16 "LateExcuses$Cabinets" "rows" "LLateExcuses$Table;", .methodLink RX0 24 yX5_get, .instanceMethod yX5_get, .selects RX5 yX5_get yX5_get, .initialized RX5, .code yX5_get cX5_get 4 (some .int), .fieldLink RX5 13 "LateExcuses$Table" "rows" "I", .fieldLink RX5 19 "LateExcuses$Table" "columns" "I", .fieldLink RX5 22 "LateExcuses$Table" "cells" "[I"] ++ wsX00 ++ wsX50)
def wsX0_hasPlaceFor : List Cond := .code yX0_hasPlaceFor cX0_hasPlaceFor 2 (some .boolean) :: ([.methodLink RX0 29 yX0_cabinetFor, .instanceMethod yX0_cabinetFor, .selects RX0 yX0_cabinetFor yX0_cabinetFor, .initialized RX0, .code yX0_cabinetFor cX0_cabinetFor 2 (some .int), .methodLink RX0 33 yX0_isFull, .instanceMethod yX0_isFull, .selects RX0 yX0_isFull yX0_isFull, .code yX0_isFull cX0_isFull 2 (some .boolean), .fieldLink RX0 16 "LateExcuses$Cabinets" "rows" "LLateExcuses$Table;", .methodLink RX0 24 yX5_get, .instanceMethod yX5_get, .selects RX5 yX5_get yX5_get, .initialized RX5, .code yX5_get cX5_get 4 (some .int), .fieldLink RX5 13 "LateExcuses$Table" "rows" "I", .fieldLink RX5 19 "LateExcuses$Table" "columns" "I", .fieldLink RX5 22 "LateExcuses$Table" "cells" "[I"] ++ wsX00 ++ wsX50)
def wsX5_put : List Cond := .code yX5_put cX5_put 5 none :: ([.fieldLink RX5 13 "LateExcuses$Table" "rows" "I", .fieldLink RX5 19 "LateExcuses$Table" "columns" "I", .fieldLink RX5 22 "LateExcuses$Table" "cells" "[I"] ++ wsX50)
def wsX0_file : List Cond := .code yX0_file cX0_file 5 none :: ([.fieldLink RX0 16 "LateExcuses$Cabinets" "rows" "LLateExcuses$Table;", .methodLink RX0 29 yX0_cabinetFor, .instanceMethod yX0_cabinetFor, .selects RX0 yX0_cabinetFor yX0_cabinetFor, .initialized RX0, .code yX0_cabinetFor cX0_cabinetFor 2 (some .int), .methodLink RX0 33 yX0_isFull, .instanceMethod yX0_isFull, .selects RX0 yX0_isFull yX0_isFull, .code yX0_isFull cX0_isFull 2 (some .boolean), .methodLink RX0 24 yX5_get, .instanceMethod yX5_get, .selects RX5 yX5_get yX5_get, .initialized RX5, .code yX5_get cX5_get 4 (some .int), .fieldLink RX5 13 "LateExcuses$Table" "rows" "I", .fieldLink RX5 19 "LateExcuses$Table" "columns" "I", .fieldLink RX5 22 "LateExcuses$Table" "cells" "[I", .methodLink RX0 37 yX5_put, .instanceMethod yX5_put, .selects RX5 yX5_put yX5_put, .code yX5_put cX5_put 5 none] ++ wsX00 ++ wsX50)
def wsX2_init : List Cond := .code yX2_init cX2_init 1 none :: ([.methodLink RX2 3 objectInit, .instanceMethod objectInit, .code objectInit ⟨#[0xb1]⟩ 1 none, .classLink RX2 9 RX5, .instantiable RX5 3, .initialized RX5, .fieldLink RX2 14 "LateExcuses$Events" "rows" "LLateExcuses$Table;", .methodLink RX2 11 yX5_init, .instanceMethod yX5_init, .code yX5_init cX5_init 3 none, .methodLink RX5 1 objectInit, .methodLink RX5 7 Lib.Math.max.name, .static Lib.Math.max.name, .initialized "java/lang/Math", .code Lib.Math.max.name Lib.Math.max.code 2 (some .int), .fieldLink RX5 13 "LateExcuses$Table" "rows" "I", .fieldLink RX5 19 "LateExcuses$Table" "columns" "I", .arrayClass .int, .fieldLink RX5 22 "LateExcuses$Table" "cells" "[I"] ++ wsX50 ++ wsX20)
def wsX7_init : List Cond := .code yX7_init cX7_init 1 none :: ([.methodLink RX7 3 objectInit, .instanceMethod objectInit, .code objectInit ⟨#[0xb1]⟩ 1 none, .classLink RX7 9 RX5, .instantiable RX5 3, .initialized RX5, .fieldLink RX7 16 "LateExcuses$Words" "rows" "LLateExcuses$Table;", .methodLink RX7 13 yX5_init, .instanceMethod yX5_init, .code yX5_init cX5_init 3 none, .methodLink RX5 1 objectInit, .methodLink RX5 7 Lib.Math.max.name, .static Lib.Math.max.name, .initialized "java/lang/Math", .code Lib.Math.max.name Lib.Math.max.code 2 (some .int), .fieldLink RX5 13 "LateExcuses$Table" "rows" "I", .fieldLink RX5 19 "LateExcuses$Table" "columns" "I", .arrayClass .int, .fieldLink RX5 22 "LateExcuses$Table" "cells" "[I"] ++ wsX50 ++ wsX70)
def wsX4_init_r1 : List Cond := [Cond.methodLink RX4 3 objectInit, Cond.instanceMethod objectInit, Cond.code objectInit ⟨#[0xb1]⟩ 1 none, Cond.classLink RX4 9 RX5, Cond.instantiable RX5 3, Cond.initialized RX5, Cond.fieldLink RX4 16 "LateExcuses$Panes" "rows" "LLateExcuses$Table;", Cond.classLink RX4 20 RX7, Cond.instantiable RX7 4, Cond.initialized RX7, Cond.fieldLink RX4 23 "LateExcuses$Panes" "words" "LLateExcuses$Words;", Cond.methodLink RX4 13 yX5_init, Cond.instanceMethod yX5_init, Cond.code yX5_init cX5_init 3 none, Cond.methodLink RX5 1 objectInit, Cond.methodLink RX5 7 Lib.Math.max.name, Cond.static Lib.Math.max.name, Cond.initialized "java/lang/Math", Cond.code Lib.Math.max.name Lib.Math.max.code 2 (some .int), Cond.fieldLink RX5 13 "LateExcuses$Table" "rows" "I", Cond.fieldLink RX5 19 "LateExcuses$Table" "columns" "I", Cond.arrayClass .int, Cond.fieldLink RX5 22 "LateExcuses$Table" "cells" "[I", Cond.instanceMethod yX7_init]
def wsX4_init_r2 : List Cond := [Cond.code yX7_init cX7_init 1 none, Cond.methodLink RX7 3 objectInit, Cond.classLink RX7 9 RX5, Cond.fieldLink RX7 16 "LateExcuses$Words" "rows" "LLateExcuses$Table;", Cond.methodLink RX7 13 yX5_init]
def wsX4_init : List Cond := .code yX4_init cX4_init 1 none :: ((wsX4_init_r1 ++ wsX4_init_r2) ++ wsX50 ++ wsX40 ++ wsX70)
def wsX1_init_r1 : List Cond := [Cond.methodLink RX1 3 objectInit, Cond.instanceMethod objectInit, Cond.code objectInit ⟨#[0xb1]⟩ 1 none, Cond.classLink RX1 9 RX2, Cond.instantiable RX2 2, Cond.initialized RX2, Cond.fieldLink RX1 12 "LateExcuses$Court" "events" "LLateExcuses$Events;", Cond.classLink RX1 18 RX4, Cond.instantiable RX4 3, Cond.initialized RX4, Cond.fieldLink RX1 21 "LateExcuses$Court" "panes" "LLateExcuses$Panes;", Cond.classLink RX1 25 RX0, Cond.instantiable RX0 1, Cond.initialized RX0, Cond.fieldLink RX1 28 "LateExcuses$Court" "cabinets" "LLateExcuses$Cabinets;", Cond.fieldLink RX1 32 "LateExcuses$Court" "size" "I", Cond.fieldLink RX1 36 "LateExcuses$Court" "lag" "I", Cond.fieldLink RX1 39 "LateExcuses$Court" "grace" "I", Cond.fieldLink RX1 42 "LateExcuses$Court" "watermark" "I", Cond.fieldLink RX1 45 "LateExcuses$Court" "latest" "I", Cond.instanceMethod yX2_init, Cond.code yX2_init cX2_init 1 none, Cond.methodLink RX2 3 objectInit, Cond.classLink RX2 9 RX5]
def wsX1_init_r2 : List Cond := [Cond.instantiable RX5 3, Cond.initialized RX5, Cond.fieldLink RX2 14 "LateExcuses$Events" "rows" "LLateExcuses$Table;", Cond.methodLink RX2 11 yX5_init, Cond.instanceMethod yX5_init, Cond.code yX5_init cX5_init 3 none, Cond.methodLink RX5 1 objectInit, Cond.methodLink RX5 7 Lib.Math.max.name, Cond.static Lib.Math.max.name, Cond.initialized "java/lang/Math", Cond.code Lib.Math.max.name Lib.Math.max.code 2 (some .int), Cond.fieldLink RX5 13 "LateExcuses$Table" "rows" "I", Cond.fieldLink RX5 19 "LateExcuses$Table" "columns" "I", Cond.arrayClass .int, Cond.fieldLink RX5 22 "LateExcuses$Table" "cells" "[I", Cond.instanceMethod yX4_init, Cond.code yX4_init cX4_init 1 none, Cond.methodLink RX4 3 objectInit, Cond.classLink RX4 9 RX5, Cond.fieldLink RX4 16 "LateExcuses$Panes" "rows" "LLateExcuses$Table;", Cond.classLink RX4 20 RX7, Cond.instantiable RX7 4, Cond.initialized RX7, Cond.fieldLink RX4 23 "LateExcuses$Panes" "words" "LLateExcuses$Words;"]
def wsX1_init_r3 : List Cond := [Cond.methodLink RX4 13 yX5_init, Cond.instanceMethod yX7_init, Cond.code yX7_init cX7_init 1 none, Cond.methodLink RX7 3 objectInit, Cond.classLink RX7 9 RX5, Cond.fieldLink RX7 16 "LateExcuses$Words" "rows" "LLateExcuses$Table;", Cond.methodLink RX7 13 yX5_init, Cond.instanceMethod yX0_init, Cond.code yX0_init cX0_init 1 none, Cond.methodLink RX0 5 objectInit, Cond.classLink RX0 11 RX5, Cond.fieldLink RX0 16 "LateExcuses$Cabinets" "rows" "LLateExcuses$Table;", Cond.methodLink RX0 13 yX5_init]
def wsX1_init : List Cond := .code yX1_init cX1_init 1 none :: ((wsX1_init_r1 ++ (wsX1_init_r2 ++ wsX1_init_r3)) ++ wsX20 ++ wsX10 ++ wsX40 ++ wsX00 ++ wsX50 ++ wsX70)
def wsX1_events : List Cond := .code yX1_events cX1_events 1 (some (.object "LateExcuses$Events")) :: ([.fieldLink RX1 12 "LateExcuses$Court" "events" "LLateExcuses$Events;"] ++ wsX10)
def wsX1_panes : List Cond := .code yX1_panes cX1_panes 1 (some (.object "LateExcuses$Panes")) :: ([.fieldLink RX1 21 "LateExcuses$Court" "panes" "LLateExcuses$Panes;"] ++ wsX10)
def wsX1_cabinets : List Cond := .code yX1_cabinets cX1_cabinets 1 (some (.object "LateExcuses$Cabinets")) :: ([.fieldLink RX1 28 "LateExcuses$Court" "cabinets" "LLateExcuses$Cabinets;"] ++ wsX10)
def wsX2_copyFrom : List Cond := .code yX2_copyFrom cX2_copyFrom 2 none :: ([.fieldLink RX2 14 "LateExcuses$Events" "rows" "LLateExcuses$Table;", .fieldLink RX2 24 "LateExcuses$Events" "doubles" "I", .methodLink RX2 20 yX5_copyFrom, .instanceMethod yX5_copyFrom, .selects RX5 yX5_copyFrom yX5_copyFrom, .initialized RX5, .code yX5_copyFrom cX5_copyFrom 2 none, .fieldLink RX5 22 "LateExcuses$Table" "cells" "[I", .methodLink RX5 26 arraycopyName, .native arraycopyName, .static arraycopyName, .initialized "java/lang/System"] ++ wsX20 ++ wsX50)
def wsX7_copyFrom : List Cond := .code yX7_copyFrom cX7_copyFrom 2 none :: ([.fieldLink RX7 16 "LateExcuses$Words" "rows" "LLateExcuses$Table;", .fieldLink RX7 24 "LateExcuses$Words" "kept" "I", .fieldLink RX7 28 "LateExcuses$Words" "told" "I", .fieldLink RX7 31 "LateExcuses$Words" "takenBack" "I", .methodLink RX7 20 yX5_copyFrom, .instanceMethod yX5_copyFrom, .selects RX5 yX5_copyFrom yX5_copyFrom, .initialized RX5, .code yX5_copyFrom cX5_copyFrom 2 none, .fieldLink RX5 22 "LateExcuses$Table" "cells" "[I", .methodLink RX5 26 arraycopyName, .native arraycopyName, .static arraycopyName, .initialized "java/lang/System"] ++ wsX70 ++ wsX50)
def wsX4_copyFrom : List Cond := .code yX4_copyFrom cX4_copyFrom 2 none :: ([.fieldLink RX4 16 "LateExcuses$Panes" "rows" "LLateExcuses$Table;", .fieldLink RX4 23 "LateExcuses$Panes" "words" "LLateExcuses$Words;", .fieldLink RX4 34 "LateExcuses$Panes" "used" "I", .methodLink RX4 27 yX5_copyFrom, .instanceMethod yX5_copyFrom, .selects RX5 yX5_copyFrom yX5_copyFrom, .initialized RX5, .code yX5_copyFrom cX5_copyFrom 2 none, .fieldLink RX5 22 "LateExcuses$Table" "cells" "[I", .methodLink RX5 26 arraycopyName, .native arraycopyName, .static arraycopyName, .initialized "java/lang/System", .methodLink RX4 31 yX7_copyFrom, .instanceMethod yX7_copyFrom, .selects RX7 yX7_copyFrom yX7_copyFrom, .initialized RX7, .code yX7_copyFrom cX7_copyFrom 2 none, .fieldLink RX7 16 "LateExcuses$Words" "rows" "LLateExcuses$Table;", .fieldLink RX7 24 "LateExcuses$Words" "kept" "I", .fieldLink RX7 28 "LateExcuses$Words" "told" "I", .fieldLink RX7 31 "LateExcuses$Words" "takenBack" "I", .methodLink RX7 20 yX5_copyFrom] ++ wsX40 ++ wsX50 ++ wsX70)
def wsX1_copyFrom_r1 : List Cond := [Cond.fieldLink RX1 12 "LateExcuses$Court" "events" "LLateExcuses$Events;", Cond.fieldLink RX1 21 "LateExcuses$Court" "panes" "LLateExcuses$Panes;", Cond.fieldLink RX1 28 "LateExcuses$Court" "cabinets" "LLateExcuses$Cabinets;", Cond.fieldLink RX1 32 "LateExcuses$Court" "size" "I", Cond.fieldLink RX1 36 "LateExcuses$Court" "lag" "I", Cond.fieldLink RX1 39 "LateExcuses$Court" "grace" "I", Cond.fieldLink RX1 42 "LateExcuses$Court" "watermark" "I", Cond.fieldLink RX1 45 "LateExcuses$Court" "latest" "I", Cond.fieldLink RX1 58 "LateExcuses$Court" "moved" "Z", Cond.methodLink RX1 48 yX2_copyFrom, Cond.instanceMethod yX2_copyFrom, Cond.selects RX2 yX2_copyFrom yX2_copyFrom, Cond.initialized RX2, Cond.code yX2_copyFrom cX2_copyFrom 2 none, Cond.fieldLink RX2 14 "LateExcuses$Events" "rows" "LLateExcuses$Table;", Cond.fieldLink RX2 24 "LateExcuses$Events" "doubles" "I", Cond.methodLink RX2 20 yX5_copyFrom, Cond.instanceMethod yX5_copyFrom, Cond.selects RX5 yX5_copyFrom yX5_copyFrom, Cond.initialized RX5, Cond.code yX5_copyFrom cX5_copyFrom 2 none, Cond.fieldLink RX5 22 "LateExcuses$Table" "cells" "[I", Cond.methodLink RX5 26 arraycopyName, Cond.native arraycopyName]
def wsX1_copyFrom_r2 : List Cond := [Cond.static arraycopyName, Cond.initialized "java/lang/System", Cond.methodLink RX1 52 yX4_copyFrom, Cond.instanceMethod yX4_copyFrom, Cond.selects RX4 yX4_copyFrom yX4_copyFrom, Cond.initialized RX4, Cond.code yX4_copyFrom cX4_copyFrom 2 none, Cond.fieldLink RX4 16 "LateExcuses$Panes" "rows" "LLateExcuses$Table;", Cond.fieldLink RX4 23 "LateExcuses$Panes" "words" "LLateExcuses$Words;", Cond.fieldLink RX4 34 "LateExcuses$Panes" "used" "I", Cond.methodLink RX4 27 yX5_copyFrom, Cond.methodLink RX4 31 yX7_copyFrom, Cond.instanceMethod yX7_copyFrom, Cond.selects RX7 yX7_copyFrom yX7_copyFrom, Cond.initialized RX7, Cond.code yX7_copyFrom cX7_copyFrom 2 none, Cond.fieldLink RX7 16 "LateExcuses$Words" "rows" "LLateExcuses$Table;", Cond.fieldLink RX7 24 "LateExcuses$Words" "kept" "I", Cond.fieldLink RX7 28 "LateExcuses$Words" "told" "I", Cond.fieldLink RX7 31 "LateExcuses$Words" "takenBack" "I", Cond.methodLink RX7 20 yX5_copyFrom, Cond.methodLink RX1 55 yX0_copyFrom, Cond.instanceMethod yX0_copyFrom, Cond.selects RX0 yX0_copyFrom yX0_copyFrom]
def wsX1_copyFrom_r3 : List Cond := [Cond.initialized RX0, Cond.code yX0_copyFrom cX0_copyFrom 2 none, Cond.fieldLink RX0 16 "LateExcuses$Cabinets" "rows" "LLateExcuses$Table;", Cond.methodLink RX0 20 yX5_copyFrom]
def wsX1_copyFrom : List Cond := .code yX1_copyFrom cX1_copyFrom 2 none :: ((wsX1_copyFrom_r1 ++ (wsX1_copyFrom_r2 ++ wsX1_copyFrom_r3)) ++ wsX10 ++ wsX20 ++ wsX50 ++ wsX40 ++ wsX70 ++ wsX00)
def wsX1_setting : List Cond := .code yX1_setting cX1_setting 2 (some .int) :: ([.fieldLink RX1 32 "LateExcuses$Court" "size" "I", .fieldLink RX1 36 "LateExcuses$Court" "lag" "I", .fieldLink RX1 39 "LateExcuses$Court" "grace" "I"] ++ wsX10)
def wsX1_changeSetting : List Cond := .code yX1_changeSetting cX1_changeSetting 4 (some .int) :: ([.fieldLink RX1 32 "LateExcuses$Court" "size" "I", .fieldLink RX1 36 "LateExcuses$Court" "lag" "I", .fieldLink RX1 39 "LateExcuses$Court" "grace" "I", .methodLink RX1 62 yX1_setting, .instanceMethod yX1_setting, .selects RX1 yX1_setting yX1_setting, .initialized RX1, .code yX1_setting cX1_setting 2 (some .int)] ++ wsX10)
def wsX2_hasOutcome : List Cond := .code yX2_hasOutcome cX2_hasOutcome 5 (some .boolean) :: ([.fieldLink RX2 14 "LateExcuses$Events" "rows" "LLateExcuses$Table;", .methodLink RX2 28 yX5_get, .instanceMethod yX5_get, .selects RX5 yX5_get yX5_get, .initialized RX5, .code yX5_get cX5_get 4 (some .int), .fieldLink RX5 13 "LateExcuses$Table" "rows" "I", .fieldLink RX5 19 "LateExcuses$Table" "columns" "I", .fieldLink RX5 22 "LateExcuses$Table" "cells" "[I"] ++ wsX20 ++ wsX50)
def wsX2_withOutcome : List Cond := .code yX2_withOutcome cX2_withOutcome 5 (some .int) :: ([.methodLink RX2 41 yX2_hasOutcome, .instanceMethod yX2_hasOutcome, .selects RX2 yX2_hasOutcome yX2_hasOutcome, .initialized RX2, .code yX2_hasOutcome cX2_hasOutcome 5 (some .boolean), .fieldLink RX2 14 "LateExcuses$Events" "rows" "LLateExcuses$Table;", .methodLink RX2 28 yX5_get, .instanceMethod yX5_get, .selects RX5 yX5_get yX5_get, .initialized RX5, .code yX5_get cX5_get 4 (some .int), .fieldLink RX5 13 "LateExcuses$Table" "rows" "I", .fieldLink RX5 19 "LateExcuses$Table" "columns" "I", .fieldLink RX5 22 "LateExcuses$Table" "cells" "[I"] ++ wsX20 ++ wsX50)
def wsX1_hasEvents : List Cond := .code yX1_hasEvents cX1_hasEvents 1 (some .boolean) :: ([.fieldLink RX1 12 "LateExcuses$Court" "events" "LLateExcuses$Events;", .methodLink RX1 66 yX2_withOutcome, .instanceMethod yX2_withOutcome, .selects RX2 yX2_withOutcome yX2_withOutcome, .initialized RX2, .code yX2_withOutcome cX2_withOutcome 5 (some .int), .methodLink RX2 41 yX2_hasOutcome, .instanceMethod yX2_hasOutcome, .selects RX2 yX2_hasOutcome yX2_hasOutcome, .code yX2_hasOutcome cX2_hasOutcome 5 (some .boolean), .fieldLink RX2 14 "LateExcuses$Events" "rows" "LLateExcuses$Table;", .methodLink RX2 28 yX5_get, .instanceMethod yX5_get, .selects RX5 yX5_get yX5_get, .initialized RX5, .code yX5_get cX5_get 4 (some .int), .fieldLink RX5 13 "LateExcuses$Table" "rows" "I", .fieldLink RX5 19 "LateExcuses$Table" "columns" "I", .fieldLink RX5 22 "LateExcuses$Table" "cells" "[I"] ++ wsX10 ++ wsX20 ++ wsX50)
def wsX2_doubles : List Cond := .code yX2_doubles cX2_doubles 1 (some .int) :: ([.fieldLink RX2 24 "LateExcuses$Events" "doubles" "I"] ++ wsX20)
def wsX1_number_r1 : List Cond := [Cond.fieldLink RX1 12 "LateExcuses$Court" "events" "LLateExcuses$Events;", Cond.fieldLink RX1 42 "LateExcuses$Court" "watermark" "I", Cond.fieldLink RX1 45 "LateExcuses$Court" "latest" "I", Cond.fieldLink RX1 58 "LateExcuses$Court" "moved" "Z", Cond.constant RX1 74 (-1000001), Cond.methodLink RX1 66 yX2_withOutcome, Cond.instanceMethod yX2_withOutcome, Cond.selects RX2 yX2_withOutcome yX2_withOutcome, Cond.initialized RX2, Cond.code yX2_withOutcome cX2_withOutcome 5 (some .int), Cond.methodLink RX2 41 yX2_hasOutcome, Cond.instanceMethod yX2_hasOutcome, Cond.selects RX2 yX2_hasOutcome yX2_hasOutcome, Cond.code yX2_hasOutcome cX2_hasOutcome 5 (some .boolean), Cond.fieldLink RX2 14 "LateExcuses$Events" "rows" "LLateExcuses$Table;", Cond.methodLink RX2 28 yX5_get, Cond.instanceMethod yX5_get, Cond.selects RX5 yX5_get yX5_get, Cond.initialized RX5, Cond.code yX5_get cX5_get 4 (some .int), Cond.fieldLink RX5 13 "LateExcuses$Table" "rows" "I", Cond.fieldLink RX5 19 "LateExcuses$Table" "columns" "I", Cond.fieldLink RX5 22 "LateExcuses$Table" "cells" "[I", Cond.methodLink RX1 70 yX2_doubles]
def wsX1_number_r2 : List Cond := [Cond.instanceMethod yX2_doubles, Cond.selects RX2 yX2_doubles yX2_doubles, Cond.code yX2_doubles cX2_doubles 1 (some .int), Cond.fieldLink RX2 24 "LateExcuses$Events" "doubles" "I"]
def wsX1_number : List Cond := .code yX1_number cX1_number 2 (some .int) :: ((wsX1_number_r1 ++ wsX1_number_r2) ++ wsX10 ++ wsX20 ++ wsX50)
def wsX1_paneAt : List Cond := .code yX1_paneAt cX1_paneAt 2 (some .int) :: ([.fieldLink RX1 32 "LateExcuses$Court" "size" "I"] ++ wsX10)
def wsX1_endOf : List Cond := .code yX1_endOf cX1_endOf 2 (some .int) :: ([.fieldLink RX1 32 "LateExcuses$Court" "size" "I"] ++ wsX10)
def wsX8_isWithin : List Cond := .code yX8_isWithin cX8_isWithin 3 (some .boolean) :: ([])
def wsX1_hasTimes : List Cond := .code yX1_hasTimes cX1_hasTimes 2 (some .boolean) :: ([.fieldLink RX1 32 "LateExcuses$Court" "size" "I", .static yX8_isWithin, .initialized RX8, .code yX8_isWithin cX8_isWithin 3 (some .boolean)] ++ wsX10)
def wsX4_rowOf : List Cond := .code yX4_rowOf cX4_rowOf 3 (some .int) :: ([.fieldLink RX4 34 "LateExcuses$Panes" "used" "I", .fieldLink RX4 16 "LateExcuses$Panes" "rows" "LLateExcuses$Table;", .methodLink RX4 38 yX5_get, .instanceMethod yX5_get, .selects RX5 yX5_get yX5_get, .initialized RX5, .code yX5_get cX5_get 4 (some .int), .fieldLink RX5 13 "LateExcuses$Table" "rows" "I", .fieldLink RX5 19 "LateExcuses$Table" "columns" "I", .fieldLink RX5 22 "LateExcuses$Table" "cells" "[I"] ++ wsX40 ++ wsX50)
def wsX4_read : List Cond := .code yX4_read cX4_read 3 (some .int) :: ([.fieldLink RX4 16 "LateExcuses$Panes" "rows" "LLateExcuses$Table;", .methodLink RX4 42 yX4_rowOf, .instanceMethod yX4_rowOf, .selects RX4 yX4_rowOf yX4_rowOf, .initialized RX4, .code yX4_rowOf cX4_rowOf 3 (some .int), .fieldLink RX4 34 "LateExcuses$Panes" "used" "I", .methodLink RX4 38 yX5_get, .instanceMethod yX5_get, .selects RX5 yX5_get yX5_get, .initialized RX5, .code yX5_get cX5_get 4 (some .int), .fieldLink RX5 13 "LateExcuses$Table" "rows" "I", .fieldLink RX5 19 "LateExcuses$Table" "columns" "I", .fieldLink RX5 22 "LateExcuses$Table" "cells" "[I"] ++ wsX40 ++ wsX50)
def wsX1_stateOf_r1 : List Cond := [Cond.fieldLink RX1 21 "LateExcuses$Court" "panes" "LLateExcuses$Panes;", Cond.fieldLink RX1 42 "LateExcuses$Court" "watermark" "I", Cond.methodLink RX1 79 yX4_read, Cond.instanceMethod yX4_read, Cond.selects RX4 yX4_read yX4_read, Cond.initialized RX4, Cond.code yX4_read cX4_read 3 (some .int), Cond.fieldLink RX4 16 "LateExcuses$Panes" "rows" "LLateExcuses$Table;", Cond.methodLink RX4 42 yX4_rowOf, Cond.instanceMethod yX4_rowOf, Cond.selects RX4 yX4_rowOf yX4_rowOf, Cond.code yX4_rowOf cX4_rowOf 3 (some .int), Cond.fieldLink RX4 34 "LateExcuses$Panes" "used" "I", Cond.methodLink RX4 38 yX5_get, Cond.instanceMethod yX5_get, Cond.selects RX5 yX5_get yX5_get, Cond.initialized RX5, Cond.code yX5_get cX5_get 4 (some .int), Cond.fieldLink RX5 13 "LateExcuses$Table" "rows" "I", Cond.fieldLink RX5 19 "LateExcuses$Table" "columns" "I", Cond.fieldLink RX5 22 "LateExcuses$Table" "cells" "[I", Cond.methodLink RX1 82 yX1_endOf, Cond.instanceMethod yX1_endOf, Cond.selects RX1 yX1_endOf yX1_endOf]
def wsX1_stateOf_r2 : List Cond := [Cond.initialized RX1, Cond.code yX1_endOf cX1_endOf 2 (some .int), Cond.fieldLink RX1 32 "LateExcuses$Court" "size" "I"]
def wsX1_stateOf : List Cond := .code yX1_stateOf cX1_stateOf 3 (some .int) :: ((wsX1_stateOf_r1 ++ wsX1_stateOf_r2) ++ wsX10 ++ wsX40 ++ wsX50)
def wsX1_lateBy : List Cond := .code yX1_lateBy cX1_lateBy 2 (some .int) :: ([.fieldLink RX1 42 "LateExcuses$Court" "watermark" "I", .methodLink RX1 82 yX1_endOf, .instanceMethod yX1_endOf, .selects RX1 yX1_endOf yX1_endOf, .initialized RX1, .code yX1_endOf cX1_endOf 2 (some .int), .fieldLink RX1 32 "LateExcuses$Court" "size" "I"] ++ wsX10)
def wsX2_hadIllness : List Cond := .code yX2_hadIllness cX2_hadIllness 3 (some .boolean) :: ([.fieldLink RX2 14 "LateExcuses$Events" "rows" "LLateExcuses$Table;", .methodLink RX2 28 yX5_get, .instanceMethod yX5_get, .selects RX5 yX5_get yX5_get, .initialized RX5, .code yX5_get cX5_get 4 (some .int), .fieldLink RX5 13 "LateExcuses$Table" "rows" "I", .fieldLink RX5 19 "LateExcuses$Table" "columns" "I", .fieldLink RX5 22 "LateExcuses$Table" "cells" "[I", .methodLink RX2 41 yX2_hasOutcome, .instanceMethod yX2_hasOutcome, .selects RX2 yX2_hasOutcome yX2_hasOutcome, .initialized RX2, .code yX2_hasOutcome cX2_hasOutcome 5 (some .boolean)] ++ wsX20 ++ wsX50)
def wsX1_isAcceptable_r1 : List Cond := [Cond.fieldLink RX1 12 "LateExcuses$Court" "events" "LLateExcuses$Events;", Cond.methodLink RX1 85 yX1_paneAt, Cond.instanceMethod yX1_paneAt, Cond.selects RX1 yX1_paneAt yX1_paneAt, Cond.initialized RX1, Cond.code yX1_paneAt cX1_paneAt 2 (some .int), Cond.fieldLink RX1 32 "LateExcuses$Court" "size" "I", Cond.methodLink RX1 98 yX1_lateBy, Cond.instanceMethod yX1_lateBy, Cond.selects RX1 yX1_lateBy yX1_lateBy, Cond.code yX1_lateBy cX1_lateBy 2 (some .int), Cond.fieldLink RX1 42 "LateExcuses$Court" "watermark" "I", Cond.methodLink RX1 82 yX1_endOf, Cond.instanceMethod yX1_endOf, Cond.selects RX1 yX1_endOf yX1_endOf, Cond.code yX1_endOf cX1_endOf 2 (some .int), Cond.methodLink RX1 101 yX2_hadIllness, Cond.instanceMethod yX2_hadIllness, Cond.selects RX2 yX2_hadIllness yX2_hadIllness, Cond.initialized RX2, Cond.code yX2_hadIllness cX2_hadIllness 3 (some .boolean), Cond.fieldLink RX2 14 "LateExcuses$Events" "rows" "LLateExcuses$Table;", Cond.methodLink RX2 28 yX5_get, Cond.instanceMethod yX5_get]
def wsX1_isAcceptable_r2 : List Cond := [Cond.selects RX5 yX5_get yX5_get, Cond.initialized RX5, Cond.code yX5_get cX5_get 4 (some .int), Cond.fieldLink RX5 13 "LateExcuses$Table" "rows" "I", Cond.fieldLink RX5 19 "LateExcuses$Table" "columns" "I", Cond.fieldLink RX5 22 "LateExcuses$Table" "cells" "[I", Cond.methodLink RX2 41 yX2_hasOutcome, Cond.instanceMethod yX2_hasOutcome, Cond.selects RX2 yX2_hasOutcome yX2_hasOutcome, Cond.code yX2_hasOutcome cX2_hasOutcome 5 (some .boolean)]
def wsX1_isAcceptable : List Cond := .code yX1_isAcceptable cX1_isAcceptable 5 (some .boolean) :: ((wsX1_isAcceptable_r1 ++ wsX1_isAcceptable_r2) ++ wsX10 ++ wsX20 ++ wsX50)
def wsX1_verdict_r1 : List Cond := [Cond.fieldLink RX1 28 "LateExcuses$Court" "cabinets" "LLateExcuses$Cabinets;", Cond.methodLink RX1 85 yX1_paneAt, Cond.instanceMethod yX1_paneAt, Cond.selects RX1 yX1_paneAt yX1_paneAt, Cond.initialized RX1, Cond.code yX1_paneAt cX1_paneAt 2 (some .int), Cond.fieldLink RX1 32 "LateExcuses$Court" "size" "I", Cond.methodLink RX1 88 yX1_stateOf, Cond.instanceMethod yX1_stateOf, Cond.selects RX1 yX1_stateOf yX1_stateOf, Cond.code yX1_stateOf cX1_stateOf 3 (some .int), Cond.fieldLink RX1 21 "LateExcuses$Court" "panes" "LLateExcuses$Panes;", Cond.fieldLink RX1 42 "LateExcuses$Court" "watermark" "I", Cond.methodLink RX1 79 yX4_read, Cond.instanceMethod yX4_read, Cond.selects RX4 yX4_read yX4_read, Cond.initialized RX4, Cond.code yX4_read cX4_read 3 (some .int), Cond.fieldLink RX4 16 "LateExcuses$Panes" "rows" "LLateExcuses$Table;", Cond.methodLink RX4 42 yX4_rowOf, Cond.instanceMethod yX4_rowOf, Cond.selects RX4 yX4_rowOf yX4_rowOf, Cond.code yX4_rowOf cX4_rowOf 3 (some .int), Cond.fieldLink RX4 34 "LateExcuses$Panes" "used" "I"]
def wsX1_verdict_r2 : List Cond := [Cond.methodLink RX4 38 yX5_get, Cond.instanceMethod yX5_get, Cond.selects RX5 yX5_get yX5_get, Cond.initialized RX5, Cond.code yX5_get cX5_get 4 (some .int), Cond.fieldLink RX5 13 "LateExcuses$Table" "rows" "I", Cond.fieldLink RX5 19 "LateExcuses$Table" "columns" "I", Cond.fieldLink RX5 22 "LateExcuses$Table" "cells" "[I", Cond.methodLink RX1 82 yX1_endOf, Cond.instanceMethod yX1_endOf, Cond.selects RX1 yX1_endOf yX1_endOf, Cond.code yX1_endOf cX1_endOf 2 (some .int), Cond.methodLink RX1 91 yX1_isAcceptable, Cond.instanceMethod yX1_isAcceptable, Cond.selects RX1 yX1_isAcceptable yX1_isAcceptable, Cond.code yX1_isAcceptable cX1_isAcceptable 5 (some .boolean), Cond.fieldLink RX1 12 "LateExcuses$Court" "events" "LLateExcuses$Events;", Cond.methodLink RX1 98 yX1_lateBy, Cond.instanceMethod yX1_lateBy, Cond.selects RX1 yX1_lateBy yX1_lateBy, Cond.code yX1_lateBy cX1_lateBy 2 (some .int), Cond.methodLink RX1 101 yX2_hadIllness, Cond.instanceMethod yX2_hadIllness, Cond.selects RX2 yX2_hadIllness yX2_hadIllness]
def wsX1_verdict_r3 : List Cond := [Cond.initialized RX2, Cond.code yX2_hadIllness cX2_hadIllness 3 (some .boolean), Cond.fieldLink RX2 14 "LateExcuses$Events" "rows" "LLateExcuses$Table;", Cond.methodLink RX2 28 yX5_get, Cond.methodLink RX2 41 yX2_hasOutcome, Cond.instanceMethod yX2_hasOutcome, Cond.selects RX2 yX2_hasOutcome yX2_hasOutcome, Cond.code yX2_hasOutcome cX2_hasOutcome 5 (some .boolean), Cond.methodLink RX1 94 yX0_hasPlaceFor, Cond.instanceMethod yX0_hasPlaceFor, Cond.selects RX0 yX0_hasPlaceFor yX0_hasPlaceFor, Cond.initialized RX0, Cond.code yX0_hasPlaceFor cX0_hasPlaceFor 2 (some .boolean), Cond.methodLink RX0 29 yX0_cabinetFor, Cond.instanceMethod yX0_cabinetFor, Cond.selects RX0 yX0_cabinetFor yX0_cabinetFor, Cond.code yX0_cabinetFor cX0_cabinetFor 2 (some .int), Cond.methodLink RX0 33 yX0_isFull, Cond.instanceMethod yX0_isFull, Cond.selects RX0 yX0_isFull yX0_isFull, Cond.code yX0_isFull cX0_isFull 2 (some .boolean), Cond.fieldLink RX0 16 "LateExcuses$Cabinets" "rows" "LLateExcuses$Table;", Cond.methodLink RX0 24 yX5_get]
def wsX1_verdict : List Cond := .code yX1_verdict cX1_verdict 6 (some .int) :: ((wsX1_verdict_r1 ++ (wsX1_verdict_r2 ++ wsX1_verdict_r3)) ++ wsX10 ++ wsX40 ++ wsX50 ++ wsX20 ++ wsX00)
def wsX1_latestIn_r1 : List Cond := [Cond.fieldLink RX1 32 "LateExcuses$Court" "size" "I", Cond.methodLink RX1 109 Lib.Math.max.name, Cond.static Lib.Math.max.name, Cond.initialized "java/lang/Math", Cond.code Lib.Math.max.name Lib.Math.max.code 2 (some .int), Cond.constant RX1 108 (-1000004), Cond.methodLink RX1 82 yX1_endOf, Cond.instanceMethod yX1_endOf, Cond.selects RX1 yX1_endOf yX1_endOf, Cond.initialized RX1, Cond.code yX1_endOf cX1_endOf 2 (some .int), Cond.methodLink RX1 91 yX1_isAcceptable, Cond.instanceMethod yX1_isAcceptable, Cond.selects RX1 yX1_isAcceptable yX1_isAcceptable, Cond.code yX1_isAcceptable cX1_isAcceptable 5 (some .boolean), Cond.fieldLink RX1 12 "LateExcuses$Court" "events" "LLateExcuses$Events;", Cond.methodLink RX1 85 yX1_paneAt, Cond.instanceMethod yX1_paneAt, Cond.selects RX1 yX1_paneAt yX1_paneAt, Cond.code yX1_paneAt cX1_paneAt 2 (some .int), Cond.methodLink RX1 98 yX1_lateBy, Cond.instanceMethod yX1_lateBy, Cond.selects RX1 yX1_lateBy yX1_lateBy, Cond.code yX1_lateBy cX1_lateBy 2 (some .int)]
def wsX1_latestIn_r2 : List Cond := [Cond.fieldLink RX1 42 "LateExcuses$Court" "watermark" "I", Cond.methodLink RX1 101 yX2_hadIllness, Cond.instanceMethod yX2_hadIllness, Cond.selects RX2 yX2_hadIllness yX2_hadIllness, Cond.initialized RX2, Cond.code yX2_hadIllness cX2_hadIllness 3 (some .boolean), Cond.fieldLink RX2 14 "LateExcuses$Events" "rows" "LLateExcuses$Table;", Cond.methodLink RX2 28 yX5_get, Cond.instanceMethod yX5_get, Cond.selects RX5 yX5_get yX5_get, Cond.initialized RX5, Cond.code yX5_get cX5_get 4 (some .int), Cond.fieldLink RX5 13 "LateExcuses$Table" "rows" "I", Cond.fieldLink RX5 19 "LateExcuses$Table" "columns" "I", Cond.fieldLink RX5 22 "LateExcuses$Table" "cells" "[I", Cond.methodLink RX2 41 yX2_hasOutcome, Cond.instanceMethod yX2_hasOutcome, Cond.selects RX2 yX2_hasOutcome yX2_hasOutcome, Cond.code yX2_hasOutcome cX2_hasOutcome 5 (some .boolean)]
def wsX1_latestIn : List Cond := .code yX1_latestIn cX1_latestIn 6 (some .int) :: ((wsX1_latestIn_r1 ++ wsX1_latestIn_r2) ++ wsX10 ++ wsX20 ++ wsX50)
def wsX1_latestAcceptable_r1 : List Cond := [Cond.fieldLink RX1 42 "LateExcuses$Court" "watermark" "I", Cond.constant RX1 108 (-1000004), Cond.methodLink RX1 85 yX1_paneAt, Cond.instanceMethod yX1_paneAt, Cond.selects RX1 yX1_paneAt yX1_paneAt, Cond.initialized RX1, Cond.code yX1_paneAt cX1_paneAt 2 (some .int), Cond.fieldLink RX1 32 "LateExcuses$Court" "size" "I", Cond.methodLink RX1 88 yX1_stateOf, Cond.instanceMethod yX1_stateOf, Cond.selects RX1 yX1_stateOf yX1_stateOf, Cond.code yX1_stateOf cX1_stateOf 3 (some .int), Cond.fieldLink RX1 21 "LateExcuses$Court" "panes" "LLateExcuses$Panes;", Cond.methodLink RX1 79 yX4_read, Cond.instanceMethod yX4_read, Cond.selects RX4 yX4_read yX4_read, Cond.initialized RX4, Cond.code yX4_read cX4_read 3 (some .int), Cond.fieldLink RX4 16 "LateExcuses$Panes" "rows" "LLateExcuses$Table;", Cond.methodLink RX4 42 yX4_rowOf, Cond.instanceMethod yX4_rowOf, Cond.selects RX4 yX4_rowOf yX4_rowOf, Cond.code yX4_rowOf cX4_rowOf 3 (some .int), Cond.fieldLink RX4 34 "LateExcuses$Panes" "used" "I"]
def wsX1_latestAcceptable_r2 : List Cond := [Cond.methodLink RX4 38 yX5_get, Cond.instanceMethod yX5_get, Cond.selects RX5 yX5_get yX5_get, Cond.initialized RX5, Cond.code yX5_get cX5_get 4 (some .int), Cond.fieldLink RX5 13 "LateExcuses$Table" "rows" "I", Cond.fieldLink RX5 19 "LateExcuses$Table" "columns" "I", Cond.fieldLink RX5 22 "LateExcuses$Table" "cells" "[I", Cond.methodLink RX1 82 yX1_endOf, Cond.instanceMethod yX1_endOf, Cond.selects RX1 yX1_endOf yX1_endOf, Cond.code yX1_endOf cX1_endOf 2 (some .int), Cond.methodLink RX1 104 yX1_latestIn, Cond.instanceMethod yX1_latestIn, Cond.selects RX1 yX1_latestIn yX1_latestIn, Cond.code yX1_latestIn cX1_latestIn 6 (some .int), Cond.methodLink RX1 109 Lib.Math.max.name, Cond.static Lib.Math.max.name, Cond.initialized "java/lang/Math", Cond.code Lib.Math.max.name Lib.Math.max.code 2 (some .int), Cond.methodLink RX1 91 yX1_isAcceptable, Cond.instanceMethod yX1_isAcceptable, Cond.selects RX1 yX1_isAcceptable yX1_isAcceptable, Cond.code yX1_isAcceptable cX1_isAcceptable 5 (some .boolean)]
def wsX1_latestAcceptable_r3 : List Cond := [Cond.fieldLink RX1 12 "LateExcuses$Court" "events" "LLateExcuses$Events;", Cond.methodLink RX1 98 yX1_lateBy, Cond.instanceMethod yX1_lateBy, Cond.selects RX1 yX1_lateBy yX1_lateBy, Cond.code yX1_lateBy cX1_lateBy 2 (some .int), Cond.methodLink RX1 101 yX2_hadIllness, Cond.instanceMethod yX2_hadIllness, Cond.selects RX2 yX2_hadIllness yX2_hadIllness, Cond.initialized RX2, Cond.code yX2_hadIllness cX2_hadIllness 3 (some .boolean), Cond.fieldLink RX2 14 "LateExcuses$Events" "rows" "LLateExcuses$Table;", Cond.methodLink RX2 28 yX5_get, Cond.methodLink RX2 41 yX2_hasOutcome, Cond.instanceMethod yX2_hasOutcome, Cond.selects RX2 yX2_hasOutcome yX2_hasOutcome, Cond.code yX2_hasOutcome cX2_hasOutcome 5 (some .boolean)]
def wsX1_latestAcceptable : List Cond := .code yX1_latestAcceptable cX1_latestAcceptable 5 (some .int) :: ((wsX1_latestAcceptable_r1 ++ (wsX1_latestAcceptable_r2 ++ wsX1_latestAcceptable_r3)) ++ wsX10 ++ wsX40 ++ wsX50 ++ wsX20)
def wsX2_hasCome : List Cond := .code yX2_hasCome cX2_hasCome 2 (some .boolean) :: ([.fieldLink RX2 14 "LateExcuses$Events" "rows" "LLateExcuses$Table;", .methodLink RX2 28 yX5_get, .instanceMethod yX5_get, .selects RX5 yX5_get yX5_get, .initialized RX5, .code yX5_get cX5_get 4 (some .int), .fieldLink RX5 13 "LateExcuses$Table" "rows" "I", .fieldLink RX5 19 "LateExcuses$Table" "columns" "I", .fieldLink RX5 22 "LateExcuses$Table" "cells" "[I"] ++ wsX20 ++ wsX50)
def wsX2_addDouble : List Cond := .code yX2_addDouble cX2_addDouble 1 none :: ([.fieldLink RX2 24 "LateExcuses$Events" "doubles" "I"] ++ wsX20)
def wsX2_enter : List Cond := .code yX2_enter cX2_enter 6 none :: ([.fieldLink RX2 14 "LateExcuses$Events" "rows" "LLateExcuses$Table;", .methodLink RX2 37 yX5_put, .instanceMethod yX5_put, .selects RX5 yX5_put yX5_put, .initialized RX5, .code yX5_put cX5_put 5 none, .fieldLink RX5 13 "LateExcuses$Table" "rows" "I", .fieldLink RX5 19 "LateExcuses$Table" "columns" "I", .fieldLink RX5 22 "LateExcuses$Table" "cells" "[I"] ++ wsX20 ++ wsX50)
def wsX2_conclude : List Cond := .code yX2_conclude cX2_conclude 4 none :: ([.fieldLink RX2 14 "LateExcuses$Events" "rows" "LLateExcuses$Table;", .methodLink RX2 37 yX5_put, .instanceMethod yX5_put, .selects RX5 yX5_put yX5_put, .initialized RX5, .code yX5_put cX5_put 5 none, .fieldLink RX5 13 "LateExcuses$Table" "rows" "I", .fieldLink RX5 19 "LateExcuses$Table" "columns" "I", .fieldLink RX5 22 "LateExcuses$Table" "cells" "[I"] ++ wsX20 ++ wsX50)
def wsX4_rowBehind : List Cond := .code yX4_rowBehind cX4_rowBehind 3 (some .int) :: ([.fieldLink RX4 34 "LateExcuses$Panes" "used" "I", .fieldLink RX4 16 "LateExcuses$Panes" "rows" "LLateExcuses$Table;", .methodLink RX4 38 yX5_get, .instanceMethod yX5_get, .selects RX5 yX5_get yX5_get, .initialized RX5, .code yX5_get cX5_get 4 (some .int), .fieldLink RX5 13 "LateExcuses$Table" "rows" "I", .fieldLink RX5 19 "LateExcuses$Table" "columns" "I", .fieldLink RX5 22 "LateExcuses$Table" "cells" "[I"] ++ wsX40 ++ wsX50)
def wsX5_openRow : List Cond := .code yX5_openRow cX5_openRow 5 none :: ([.fieldLink RX5 13 "LateExcuses$Table" "rows" "I", .fieldLink RX5 19 "LateExcuses$Table" "columns" "I", .fieldLink RX5 22 "LateExcuses$Table" "cells" "[I", .methodLink RX5 26 arraycopyName, .native arraycopyName, .static arraycopyName, .initialized "java/lang/System", .methodLink RX5 32 yX5_put, .instanceMethod yX5_put, .selects RX5 yX5_put yX5_put, .initialized RX5, .code yX5_put cX5_put 5 none] ++ wsX50)
def wsX4_rowMadeFor_r1 : List Cond := [Cond.fieldLink RX4 34 "LateExcuses$Panes" "used" "I", Cond.fieldLink RX4 16 "LateExcuses$Panes" "rows" "LLateExcuses$Table;", Cond.methodLink RX4 42 yX4_rowOf, Cond.instanceMethod yX4_rowOf, Cond.selects RX4 yX4_rowOf yX4_rowOf, Cond.initialized RX4, Cond.code yX4_rowOf cX4_rowOf 3 (some .int), Cond.methodLink RX4 38 yX5_get, Cond.instanceMethod yX5_get, Cond.selects RX5 yX5_get yX5_get, Cond.initialized RX5, Cond.code yX5_get cX5_get 4 (some .int), Cond.fieldLink RX5 13 "LateExcuses$Table" "rows" "I", Cond.fieldLink RX5 19 "LateExcuses$Table" "columns" "I", Cond.fieldLink RX5 22 "LateExcuses$Table" "cells" "[I", Cond.methodLink RX4 46 yX4_rowBehind, Cond.instanceMethod yX4_rowBehind, Cond.selects RX4 yX4_rowBehind yX4_rowBehind, Cond.code yX4_rowBehind cX4_rowBehind 3 (some .int), Cond.methodLink RX4 49 yX5_openRow, Cond.instanceMethod yX5_openRow, Cond.selects RX5 yX5_openRow yX5_openRow, Cond.code yX5_openRow cX5_openRow 5 none, Cond.methodLink RX5 26 arraycopyName]
def wsX4_rowMadeFor_r2 : List Cond := [Cond.native arraycopyName, Cond.static arraycopyName, Cond.initialized "java/lang/System", Cond.methodLink RX5 32 yX5_put, Cond.instanceMethod yX5_put, Cond.selects RX5 yX5_put yX5_put, Cond.code yX5_put cX5_put 5 none, Cond.methodLink RX4 53 yX5_put]
def wsX4_rowMadeFor : List Cond := .code yX4_rowMadeFor cX4_rowMadeFor 3 (some .int) :: ((wsX4_rowMadeFor_r1 ++ wsX4_rowMadeFor_r2) ++ wsX40 ++ wsX50)
def wsX4_isStanding : List Cond := .code yX4_isStanding cX4_isStanding 2 (some .boolean) :: ([.fieldLink RX4 16 "LateExcuses$Panes" "rows" "LLateExcuses$Table;", .methodLink RX4 38 yX5_get, .instanceMethod yX5_get, .selects RX5 yX5_get yX5_get, .initialized RX5, .code yX5_get cX5_get 4 (some .int), .fieldLink RX5 13 "LateExcuses$Table" "rows" "I", .fieldLink RX5 19 "LateExcuses$Table" "columns" "I", .fieldLink RX5 22 "LateExcuses$Table" "cells" "[I"] ++ wsX40 ++ wsX50)
def wsX5_dropFirstRow : List Cond := .code yX5_dropFirstRow cX5_dropFirstRow 1 none :: ([.fieldLink RX5 13 "LateExcuses$Table" "rows" "I", .fieldLink RX5 22 "LateExcuses$Table" "cells" "[I", .fieldLink RX5 19 "LateExcuses$Table" "columns" "I", .methodLink RX5 26 arraycopyName, .native arraycopyName, .static arraycopyName, .initialized "java/lang/System"] ++ wsX50)
def wsX7_add : List Cond := .code yX7_add cX7_add 5 none :: ([.fieldLink RX7 24 "LateExcuses$Words" "kept" "I", .fieldLink RX7 16 "LateExcuses$Words" "rows" "LLateExcuses$Table;", .fieldLink RX7 28 "LateExcuses$Words" "told" "I", .fieldLink RX7 31 "LateExcuses$Words" "takenBack" "I", .methodLink RX7 39 yX5_dropFirstRow, .instanceMethod yX5_dropFirstRow, .selects RX5 yX5_dropFirstRow yX5_dropFirstRow, .initialized RX5, .code yX5_dropFirstRow cX5_dropFirstRow 1 none, .fieldLink RX5 13 "LateExcuses$Table" "rows" "I", .fieldLink RX5 22 "LateExcuses$Table" "cells" "[I", .fieldLink RX5 19 "LateExcuses$Table" "columns" "I", .methodLink RX5 26 arraycopyName, .native arraycopyName, .static arraycopyName, .initialized "java/lang/System", .methodLink RX7 42 yX5_put, .instanceMethod yX5_put, .selects RX5 yX5_put yX5_put, .code yX5_put cX5_put 5 none] ++ wsX70 ++ wsX50)
def wsX4_takeBack_r1 : List Cond := [Cond.fieldLink RX4 16 "LateExcuses$Panes" "rows" "LLateExcuses$Table;", Cond.fieldLink RX4 23 "LateExcuses$Panes" "words" "LLateExcuses$Words;", Cond.methodLink RX4 58 yX4_isStanding, Cond.instanceMethod yX4_isStanding, Cond.selects RX4 yX4_isStanding yX4_isStanding, Cond.initialized RX4, Cond.code yX4_isStanding cX4_isStanding 2 (some .boolean), Cond.methodLink RX4 38 yX5_get, Cond.instanceMethod yX5_get, Cond.selects RX5 yX5_get yX5_get, Cond.initialized RX5, Cond.code yX5_get cX5_get 4 (some .int), Cond.fieldLink RX5 13 "LateExcuses$Table" "rows" "I", Cond.fieldLink RX5 19 "LateExcuses$Table" "columns" "I", Cond.fieldLink RX5 22 "LateExcuses$Table" "cells" "[I", Cond.methodLink RX4 53 yX5_put, Cond.instanceMethod yX5_put, Cond.selects RX5 yX5_put yX5_put, Cond.code yX5_put cX5_put 5 none, Cond.methodLink RX4 75 yX7_add, Cond.instanceMethod yX7_add, Cond.selects RX7 yX7_add yX7_add, Cond.initialized RX7, Cond.code yX7_add cX7_add 5 none]
def wsX4_takeBack_r2 : List Cond := [Cond.fieldLink RX7 24 "LateExcuses$Words" "kept" "I", Cond.fieldLink RX7 16 "LateExcuses$Words" "rows" "LLateExcuses$Table;", Cond.fieldLink RX7 28 "LateExcuses$Words" "told" "I", Cond.fieldLink RX7 31 "LateExcuses$Words" "takenBack" "I", Cond.methodLink RX7 39 yX5_dropFirstRow, Cond.instanceMethod yX5_dropFirstRow, Cond.selects RX5 yX5_dropFirstRow yX5_dropFirstRow, Cond.code yX5_dropFirstRow cX5_dropFirstRow 1 none, Cond.methodLink RX5 26 arraycopyName, Cond.native arraycopyName, Cond.static arraycopyName, Cond.initialized "java/lang/System", Cond.methodLink RX7 42 yX5_put]
def wsX4_takeBack : List Cond := .code yX4_takeBack cX4_takeBack 3 none :: ((wsX4_takeBack_r1 ++ wsX4_takeBack_r2) ++ wsX40 ++ wsX50 ++ wsX70)
def wsX4_reopen_r1 : List Cond := [Cond.fieldLink RX4 16 "LateExcuses$Panes" "rows" "LLateExcuses$Table;", Cond.methodLink RX4 62 yX4_rowMadeFor, Cond.instanceMethod yX4_rowMadeFor, Cond.selects RX4 yX4_rowMadeFor yX4_rowMadeFor, Cond.initialized RX4, Cond.code yX4_rowMadeFor cX4_rowMadeFor 3 (some .int), Cond.fieldLink RX4 34 "LateExcuses$Panes" "used" "I", Cond.methodLink RX4 42 yX4_rowOf, Cond.instanceMethod yX4_rowOf, Cond.selects RX4 yX4_rowOf yX4_rowOf, Cond.code yX4_rowOf cX4_rowOf 3 (some .int), Cond.methodLink RX4 38 yX5_get, Cond.instanceMethod yX5_get, Cond.selects RX5 yX5_get yX5_get, Cond.initialized RX5, Cond.code yX5_get cX5_get 4 (some .int), Cond.fieldLink RX5 13 "LateExcuses$Table" "rows" "I", Cond.fieldLink RX5 19 "LateExcuses$Table" "columns" "I", Cond.fieldLink RX5 22 "LateExcuses$Table" "cells" "[I", Cond.methodLink RX4 46 yX4_rowBehind, Cond.instanceMethod yX4_rowBehind, Cond.selects RX4 yX4_rowBehind yX4_rowBehind, Cond.code yX4_rowBehind cX4_rowBehind 3 (some .int), Cond.methodLink RX4 49 yX5_openRow]
def wsX4_reopen_r2 : List Cond := [Cond.instanceMethod yX5_openRow, Cond.selects RX5 yX5_openRow yX5_openRow, Cond.code yX5_openRow cX5_openRow 5 none, Cond.methodLink RX5 26 arraycopyName, Cond.native arraycopyName, Cond.static arraycopyName, Cond.initialized "java/lang/System", Cond.methodLink RX5 32 yX5_put, Cond.instanceMethod yX5_put, Cond.selects RX5 yX5_put yX5_put, Cond.code yX5_put cX5_put 5 none, Cond.methodLink RX4 53 yX5_put, Cond.methodLink RX4 65 yX4_takeBack, Cond.instanceMethod yX4_takeBack, Cond.selects RX4 yX4_takeBack yX4_takeBack, Cond.code yX4_takeBack cX4_takeBack 3 none, Cond.fieldLink RX4 23 "LateExcuses$Panes" "words" "LLateExcuses$Words;", Cond.methodLink RX4 58 yX4_isStanding, Cond.instanceMethod yX4_isStanding, Cond.selects RX4 yX4_isStanding yX4_isStanding, Cond.code yX4_isStanding cX4_isStanding 2 (some .boolean), Cond.methodLink RX4 75 yX7_add, Cond.instanceMethod yX7_add, Cond.selects RX7 yX7_add yX7_add]
def wsX4_reopen_r3 : List Cond := [Cond.initialized RX7, Cond.code yX7_add cX7_add 5 none, Cond.fieldLink RX7 24 "LateExcuses$Words" "kept" "I", Cond.fieldLink RX7 16 "LateExcuses$Words" "rows" "LLateExcuses$Table;", Cond.fieldLink RX7 28 "LateExcuses$Words" "told" "I", Cond.fieldLink RX7 31 "LateExcuses$Words" "takenBack" "I", Cond.methodLink RX7 39 yX5_dropFirstRow, Cond.instanceMethod yX5_dropFirstRow, Cond.selects RX5 yX5_dropFirstRow yX5_dropFirstRow, Cond.code yX5_dropFirstRow cX5_dropFirstRow 1 none, Cond.methodLink RX7 42 yX5_put]
def wsX4_reopen : List Cond := .code yX4_reopen cX4_reopen 4 none :: ((wsX4_reopen_r1 ++ (wsX4_reopen_r2 ++ wsX4_reopen_r3)) ++ wsX40 ++ wsX50 ++ wsX70)
def wsX4_add_r1 : List Cond := [Cond.fieldLink RX4 16 "LateExcuses$Panes" "rows" "LLateExcuses$Table;", Cond.methodLink RX4 62 yX4_rowMadeFor, Cond.instanceMethod yX4_rowMadeFor, Cond.selects RX4 yX4_rowMadeFor yX4_rowMadeFor, Cond.initialized RX4, Cond.code yX4_rowMadeFor cX4_rowMadeFor 3 (some .int), Cond.fieldLink RX4 34 "LateExcuses$Panes" "used" "I", Cond.methodLink RX4 42 yX4_rowOf, Cond.instanceMethod yX4_rowOf, Cond.selects RX4 yX4_rowOf yX4_rowOf, Cond.code yX4_rowOf cX4_rowOf 3 (some .int), Cond.methodLink RX4 38 yX5_get, Cond.instanceMethod yX5_get, Cond.selects RX5 yX5_get yX5_get, Cond.initialized RX5, Cond.code yX5_get cX5_get 4 (some .int), Cond.fieldLink RX5 13 "LateExcuses$Table" "rows" "I", Cond.fieldLink RX5 19 "LateExcuses$Table" "columns" "I", Cond.fieldLink RX5 22 "LateExcuses$Table" "cells" "[I", Cond.methodLink RX4 46 yX4_rowBehind, Cond.instanceMethod yX4_rowBehind, Cond.selects RX4 yX4_rowBehind yX4_rowBehind, Cond.code yX4_rowBehind cX4_rowBehind 3 (some .int), Cond.methodLink RX4 49 yX5_openRow]
def wsX4_add_r2 : List Cond := [Cond.instanceMethod yX5_openRow, Cond.selects RX5 yX5_openRow yX5_openRow, Cond.code yX5_openRow cX5_openRow 5 none, Cond.methodLink RX5 26 arraycopyName, Cond.native arraycopyName, Cond.static arraycopyName, Cond.initialized "java/lang/System", Cond.methodLink RX5 32 yX5_put, Cond.instanceMethod yX5_put, Cond.selects RX5 yX5_put yX5_put, Cond.code yX5_put cX5_put 5 none, Cond.methodLink RX4 53 yX5_put]
def wsX4_add : List Cond := .code yX4_add cX4_add 5 none :: ((wsX4_add_r1 ++ wsX4_add_r2) ++ wsX40 ++ wsX50)
def wsX4_tellWord_r1 : List Cond := [Cond.fieldLink RX4 16 "LateExcuses$Panes" "rows" "LLateExcuses$Table;", Cond.fieldLink RX4 23 "LateExcuses$Panes" "words" "LLateExcuses$Words;", Cond.methodLink RX4 38 yX5_get, Cond.instanceMethod yX5_get, Cond.selects RX5 yX5_get yX5_get, Cond.initialized RX5, Cond.code yX5_get cX5_get 4 (some .int), Cond.fieldLink RX5 13 "LateExcuses$Table" "rows" "I", Cond.fieldLink RX5 19 "LateExcuses$Table" "columns" "I", Cond.fieldLink RX5 22 "LateExcuses$Table" "cells" "[I", Cond.methodLink RX4 53 yX5_put, Cond.instanceMethod yX5_put, Cond.selects RX5 yX5_put yX5_put, Cond.code yX5_put cX5_put 5 none, Cond.methodLink RX4 75 yX7_add, Cond.instanceMethod yX7_add, Cond.selects RX7 yX7_add yX7_add, Cond.initialized RX7, Cond.code yX7_add cX7_add 5 none, Cond.fieldLink RX7 24 "LateExcuses$Words" "kept" "I", Cond.fieldLink RX7 16 "LateExcuses$Words" "rows" "LLateExcuses$Table;", Cond.fieldLink RX7 28 "LateExcuses$Words" "told" "I", Cond.fieldLink RX7 31 "LateExcuses$Words" "takenBack" "I", Cond.methodLink RX7 39 yX5_dropFirstRow]
def wsX4_tellWord_r2 : List Cond := [Cond.instanceMethod yX5_dropFirstRow, Cond.selects RX5 yX5_dropFirstRow yX5_dropFirstRow, Cond.code yX5_dropFirstRow cX5_dropFirstRow 1 none, Cond.methodLink RX5 26 arraycopyName, Cond.native arraycopyName, Cond.static arraycopyName, Cond.initialized "java/lang/System", Cond.methodLink RX7 42 yX5_put]
def wsX4_tellWord : List Cond := .code yX4_tellWord cX4_tellWord 3 none :: ((wsX4_tellWord_r1 ++ wsX4_tellWord_r2) ++ wsX40 ++ wsX50 ++ wsX70)
def wsX4_shutAndClose_r1 : List Cond := [Cond.fieldLink RX4 34 "LateExcuses$Panes" "used" "I", Cond.fieldLink RX4 16 "LateExcuses$Panes" "rows" "LLateExcuses$Table;", Cond.methodLink RX4 38 yX5_get, Cond.instanceMethod yX5_get, Cond.selects RX5 yX5_get yX5_get, Cond.initialized RX5, Cond.code yX5_get cX5_get 4 (some .int), Cond.fieldLink RX5 13 "LateExcuses$Table" "rows" "I", Cond.fieldLink RX5 19 "LateExcuses$Table" "columns" "I", Cond.fieldLink RX5 22 "LateExcuses$Table" "cells" "[I", Cond.static yX8_isWithin, Cond.initialized RX8, Cond.code yX8_isWithin cX8_isWithin 3 (some .boolean), Cond.methodLink RX4 72 yX4_tellWord, Cond.instanceMethod yX4_tellWord, Cond.selects RX4 yX4_tellWord yX4_tellWord, Cond.initialized RX4, Cond.code yX4_tellWord cX4_tellWord 3 none, Cond.fieldLink RX4 23 "LateExcuses$Panes" "words" "LLateExcuses$Words;", Cond.methodLink RX4 53 yX5_put, Cond.instanceMethod yX5_put, Cond.selects RX5 yX5_put yX5_put, Cond.code yX5_put cX5_put 5 none, Cond.methodLink RX4 75 yX7_add]
def wsX4_shutAndClose_r2 : List Cond := [Cond.instanceMethod yX7_add, Cond.selects RX7 yX7_add yX7_add, Cond.initialized RX7, Cond.code yX7_add cX7_add 5 none, Cond.fieldLink RX7 24 "LateExcuses$Words" "kept" "I", Cond.fieldLink RX7 16 "LateExcuses$Words" "rows" "LLateExcuses$Table;", Cond.fieldLink RX7 28 "LateExcuses$Words" "told" "I", Cond.fieldLink RX7 31 "LateExcuses$Words" "takenBack" "I", Cond.methodLink RX7 39 yX5_dropFirstRow, Cond.instanceMethod yX5_dropFirstRow, Cond.selects RX5 yX5_dropFirstRow yX5_dropFirstRow, Cond.code yX5_dropFirstRow cX5_dropFirstRow 1 none, Cond.methodLink RX5 26 arraycopyName, Cond.native arraycopyName, Cond.static arraycopyName, Cond.initialized "java/lang/System", Cond.methodLink RX7 42 yX5_put]
def wsX4_shutAndClose : List Cond := .code yX4_shutAndClose cX4_shutAndClose 6 none :: ((wsX4_shutAndClose_r1 ++ wsX4_shutAndClose_r2) ++ wsX40 ++ wsX50 ++ wsX70)
def wsX1_raiseWatermark_r1 : List Cond := [Cond.fieldLink RX1 42 "LateExcuses$Court" "watermark" "I", Cond.methodLink RX1 109 Lib.Math.max.name, Cond.static Lib.Math.max.name, Cond.initialized "java/lang/Math", Cond.code Lib.Math.max.name Lib.Math.max.code 2 (some .int), Cond.fieldLink RX1 21 "LateExcuses$Court" "panes" "LLateExcuses$Panes;", Cond.methodLink RX1 85 yX1_paneAt, Cond.instanceMethod yX1_paneAt, Cond.selects RX1 yX1_paneAt yX1_paneAt, Cond.initialized RX1, Cond.code yX1_paneAt cX1_paneAt 2 (some .int), Cond.fieldLink RX1 32 "LateExcuses$Court" "size" "I", Cond.methodLink RX1 145 yX4_shutAndClose, Cond.instanceMethod yX4_shutAndClose, Cond.selects RX4 yX4_shutAndClose yX4_shutAndClose, Cond.initialized RX4, Cond.code yX4_shutAndClose cX4_shutAndClose 6 none, Cond.fieldLink RX4 34 "LateExcuses$Panes" "used" "I", Cond.fieldLink RX4 16 "LateExcuses$Panes" "rows" "LLateExcuses$Table;", Cond.methodLink RX4 38 yX5_get, Cond.instanceMethod yX5_get, Cond.selects RX5 yX5_get yX5_get, Cond.initialized RX5, Cond.code yX5_get cX5_get 4 (some .int)]
def wsX1_raiseWatermark_r2 : List Cond := [Cond.fieldLink RX5 13 "LateExcuses$Table" "rows" "I", Cond.fieldLink RX5 19 "LateExcuses$Table" "columns" "I", Cond.fieldLink RX5 22 "LateExcuses$Table" "cells" "[I", Cond.static yX8_isWithin, Cond.initialized RX8, Cond.code yX8_isWithin cX8_isWithin 3 (some .boolean), Cond.methodLink RX4 72 yX4_tellWord, Cond.instanceMethod yX4_tellWord, Cond.selects RX4 yX4_tellWord yX4_tellWord, Cond.code yX4_tellWord cX4_tellWord 3 none, Cond.fieldLink RX4 23 "LateExcuses$Panes" "words" "LLateExcuses$Words;", Cond.methodLink RX4 53 yX5_put, Cond.instanceMethod yX5_put, Cond.selects RX5 yX5_put yX5_put, Cond.code yX5_put cX5_put 5 none, Cond.methodLink RX4 75 yX7_add, Cond.instanceMethod yX7_add, Cond.selects RX7 yX7_add yX7_add, Cond.initialized RX7, Cond.code yX7_add cX7_add 5 none, Cond.fieldLink RX7 24 "LateExcuses$Words" "kept" "I", Cond.fieldLink RX7 16 "LateExcuses$Words" "rows" "LLateExcuses$Table;", Cond.fieldLink RX7 28 "LateExcuses$Words" "told" "I", Cond.fieldLink RX7 31 "LateExcuses$Words" "takenBack" "I"]
def wsX1_raiseWatermark_r3 : List Cond := [Cond.methodLink RX7 39 yX5_dropFirstRow, Cond.instanceMethod yX5_dropFirstRow, Cond.selects RX5 yX5_dropFirstRow yX5_dropFirstRow, Cond.code yX5_dropFirstRow cX5_dropFirstRow 1 none, Cond.methodLink RX5 26 arraycopyName, Cond.native arraycopyName, Cond.static arraycopyName, Cond.initialized "java/lang/System", Cond.methodLink RX7 42 yX5_put]
def wsX1_raiseWatermark : List Cond := .code yX1_raiseWatermark cX1_raiseWatermark 3 none :: ((wsX1_raiseWatermark_r1 ++ (wsX1_raiseWatermark_r2 ++ wsX1_raiseWatermark_r3)) ++ wsX10 ++ wsX40 ++ wsX50 ++ wsX70)
def wsX1_admit_r1 : List Cond := [Cond.fieldLink RX1 12 "LateExcuses$Court" "events" "LLateExcuses$Events;", Cond.fieldLink RX1 28 "LateExcuses$Court" "cabinets" "LLateExcuses$Cabinets;", Cond.fieldLink RX1 21 "LateExcuses$Court" "panes" "LLateExcuses$Panes;", Cond.fieldLink RX1 42 "LateExcuses$Court" "watermark" "I", Cond.fieldLink RX1 39 "LateExcuses$Court" "grace" "I", Cond.fieldLink RX1 45 "LateExcuses$Court" "latest" "I", Cond.fieldLink RX1 36 "LateExcuses$Court" "lag" "I", Cond.methodLink RX1 114 yX2_hasCome, Cond.instanceMethod yX2_hasCome, Cond.selects RX2 yX2_hasCome yX2_hasCome, Cond.initialized RX2, Cond.code yX2_hasCome cX2_hasCome 2 (some .boolean), Cond.fieldLink RX2 14 "LateExcuses$Events" "rows" "LLateExcuses$Table;", Cond.methodLink RX2 28 yX5_get, Cond.instanceMethod yX5_get, Cond.selects RX5 yX5_get yX5_get, Cond.initialized RX5, Cond.code yX5_get cX5_get 4 (some .int), Cond.fieldLink RX5 13 "LateExcuses$Table" "rows" "I", Cond.fieldLink RX5 19 "LateExcuses$Table" "columns" "I", Cond.fieldLink RX5 22 "LateExcuses$Table" "cells" "[I", Cond.methodLink RX1 117 yX2_addDouble, Cond.instanceMethod yX2_addDouble, Cond.selects RX2 yX2_addDouble yX2_addDouble]
def wsX1_admit_r2 : List Cond := [Cond.code yX2_addDouble cX2_addDouble 1 none, Cond.fieldLink RX2 24 "LateExcuses$Events" "doubles" "I", Cond.methodLink RX1 120 yX1_verdict, Cond.instanceMethod yX1_verdict, Cond.selects RX1 yX1_verdict yX1_verdict, Cond.initialized RX1, Cond.code yX1_verdict cX1_verdict 6 (some .int), Cond.methodLink RX1 85 yX1_paneAt, Cond.instanceMethod yX1_paneAt, Cond.selects RX1 yX1_paneAt yX1_paneAt, Cond.code yX1_paneAt cX1_paneAt 2 (some .int), Cond.fieldLink RX1 32 "LateExcuses$Court" "size" "I", Cond.methodLink RX1 88 yX1_stateOf, Cond.instanceMethod yX1_stateOf, Cond.selects RX1 yX1_stateOf yX1_stateOf, Cond.code yX1_stateOf cX1_stateOf 3 (some .int), Cond.methodLink RX1 79 yX4_read, Cond.instanceMethod yX4_read, Cond.selects RX4 yX4_read yX4_read, Cond.initialized RX4, Cond.code yX4_read cX4_read 3 (some .int), Cond.fieldLink RX4 16 "LateExcuses$Panes" "rows" "LLateExcuses$Table;", Cond.methodLink RX4 42 yX4_rowOf, Cond.instanceMethod yX4_rowOf]
def wsX1_admit_r3 : List Cond := [Cond.selects RX4 yX4_rowOf yX4_rowOf, Cond.code yX4_rowOf cX4_rowOf 3 (some .int), Cond.fieldLink RX4 34 "LateExcuses$Panes" "used" "I", Cond.methodLink RX4 38 yX5_get, Cond.methodLink RX1 82 yX1_endOf, Cond.instanceMethod yX1_endOf, Cond.selects RX1 yX1_endOf yX1_endOf, Cond.code yX1_endOf cX1_endOf 2 (some .int), Cond.methodLink RX1 91 yX1_isAcceptable, Cond.instanceMethod yX1_isAcceptable, Cond.selects RX1 yX1_isAcceptable yX1_isAcceptable, Cond.code yX1_isAcceptable cX1_isAcceptable 5 (some .boolean), Cond.methodLink RX1 98 yX1_lateBy, Cond.instanceMethod yX1_lateBy, Cond.selects RX1 yX1_lateBy yX1_lateBy, Cond.code yX1_lateBy cX1_lateBy 2 (some .int), Cond.methodLink RX1 101 yX2_hadIllness, Cond.instanceMethod yX2_hadIllness, Cond.selects RX2 yX2_hadIllness yX2_hadIllness, Cond.code yX2_hadIllness cX2_hadIllness 3 (some .boolean), Cond.methodLink RX2 41 yX2_hasOutcome, Cond.instanceMethod yX2_hasOutcome, Cond.selects RX2 yX2_hasOutcome yX2_hasOutcome, Cond.code yX2_hasOutcome cX2_hasOutcome 5 (some .boolean)]
def wsX1_admit_r4 : List Cond := [Cond.methodLink RX1 94 yX0_hasPlaceFor, Cond.instanceMethod yX0_hasPlaceFor, Cond.selects RX0 yX0_hasPlaceFor yX0_hasPlaceFor, Cond.initialized RX0, Cond.code yX0_hasPlaceFor cX0_hasPlaceFor 2 (some .boolean), Cond.methodLink RX0 29 yX0_cabinetFor, Cond.instanceMethod yX0_cabinetFor, Cond.selects RX0 yX0_cabinetFor yX0_cabinetFor, Cond.code yX0_cabinetFor cX0_cabinetFor 2 (some .int), Cond.methodLink RX0 33 yX0_isFull, Cond.instanceMethod yX0_isFull, Cond.selects RX0 yX0_isFull yX0_isFull, Cond.code yX0_isFull cX0_isFull 2 (some .boolean), Cond.fieldLink RX0 16 "LateExcuses$Cabinets" "rows" "LLateExcuses$Table;", Cond.methodLink RX0 24 yX5_get, Cond.methodLink RX1 123 yX2_enter, Cond.instanceMethod yX2_enter, Cond.selects RX2 yX2_enter yX2_enter, Cond.code yX2_enter cX2_enter 6 none, Cond.methodLink RX2 37 yX5_put, Cond.instanceMethod yX5_put, Cond.selects RX5 yX5_put yX5_put, Cond.code yX5_put cX5_put 5 none, Cond.methodLink RX1 127 yX2_conclude]
def wsX1_admit_r5 : List Cond := [Cond.instanceMethod yX2_conclude, Cond.selects RX2 yX2_conclude yX2_conclude, Cond.code yX2_conclude cX2_conclude 4 none, Cond.methodLink RX1 131 yX0_file, Cond.instanceMethod yX0_file, Cond.selects RX0 yX0_file yX0_file, Cond.code yX0_file cX0_file 5 none, Cond.methodLink RX0 37 yX5_put, Cond.methodLink RX1 135 yX4_reopen, Cond.instanceMethod yX4_reopen, Cond.selects RX4 yX4_reopen yX4_reopen, Cond.code yX4_reopen cX4_reopen 4 none, Cond.methodLink RX4 62 yX4_rowMadeFor, Cond.instanceMethod yX4_rowMadeFor, Cond.selects RX4 yX4_rowMadeFor yX4_rowMadeFor, Cond.code yX4_rowMadeFor cX4_rowMadeFor 3 (some .int), Cond.methodLink RX4 46 yX4_rowBehind, Cond.instanceMethod yX4_rowBehind, Cond.selects RX4 yX4_rowBehind yX4_rowBehind, Cond.code yX4_rowBehind cX4_rowBehind 3 (some .int), Cond.methodLink RX4 49 yX5_openRow, Cond.instanceMethod yX5_openRow, Cond.selects RX5 yX5_openRow yX5_openRow, Cond.code yX5_openRow cX5_openRow 5 none]
def wsX1_admit_r6 : List Cond := [Cond.methodLink RX5 26 arraycopyName, Cond.native arraycopyName, Cond.static arraycopyName, Cond.initialized "java/lang/System", Cond.methodLink RX5 32 yX5_put, Cond.methodLink RX4 53 yX5_put, Cond.methodLink RX4 65 yX4_takeBack, Cond.instanceMethod yX4_takeBack, Cond.selects RX4 yX4_takeBack yX4_takeBack, Cond.code yX4_takeBack cX4_takeBack 3 none, Cond.fieldLink RX4 23 "LateExcuses$Panes" "words" "LLateExcuses$Words;", Cond.methodLink RX4 58 yX4_isStanding, Cond.instanceMethod yX4_isStanding, Cond.selects RX4 yX4_isStanding yX4_isStanding, Cond.code yX4_isStanding cX4_isStanding 2 (some .boolean), Cond.methodLink RX4 75 yX7_add, Cond.instanceMethod yX7_add, Cond.selects RX7 yX7_add yX7_add, Cond.initialized RX7, Cond.code yX7_add cX7_add 5 none, Cond.fieldLink RX7 24 "LateExcuses$Words" "kept" "I", Cond.fieldLink RX7 16 "LateExcuses$Words" "rows" "LLateExcuses$Table;", Cond.fieldLink RX7 28 "LateExcuses$Words" "told" "I", Cond.fieldLink RX7 31 "LateExcuses$Words" "takenBack" "I"]
def wsX1_admit_r7 : List Cond := [Cond.methodLink RX7 39 yX5_dropFirstRow, Cond.instanceMethod yX5_dropFirstRow, Cond.selects RX5 yX5_dropFirstRow yX5_dropFirstRow, Cond.code yX5_dropFirstRow cX5_dropFirstRow 1 none, Cond.methodLink RX7 42 yX5_put, Cond.methodLink RX1 138 yX4_add, Cond.instanceMethod yX4_add, Cond.selects RX4 yX4_add yX4_add, Cond.code yX4_add cX4_add 5 none, Cond.methodLink RX1 141 yX1_raiseWatermark, Cond.instanceMethod yX1_raiseWatermark, Cond.selects RX1 yX1_raiseWatermark yX1_raiseWatermark, Cond.code yX1_raiseWatermark cX1_raiseWatermark 3 none, Cond.methodLink RX1 109 Lib.Math.max.name, Cond.static Lib.Math.max.name, Cond.initialized "java/lang/Math", Cond.code Lib.Math.max.name Lib.Math.max.code 2 (some .int), Cond.methodLink RX1 145 yX4_shutAndClose, Cond.instanceMethod yX4_shutAndClose, Cond.selects RX4 yX4_shutAndClose yX4_shutAndClose, Cond.code yX4_shutAndClose cX4_shutAndClose 6 none, Cond.static yX8_isWithin, Cond.initialized RX8, Cond.code yX8_isWithin cX8_isWithin 3 (some .boolean)]
def wsX1_admit_r8 : List Cond := [Cond.methodLink RX4 72 yX4_tellWord, Cond.instanceMethod yX4_tellWord, Cond.selects RX4 yX4_tellWord yX4_tellWord, Cond.code yX4_tellWord cX4_tellWord 3 none]
def wsX1_admit : List Cond := .code yX1_admit cX1_admit 8 (some .int) :: ((wsX1_admit_r1 ++ (wsX1_admit_r2 ++ (wsX1_admit_r3 ++ (wsX1_admit_r4 ++ (wsX1_admit_r5 ++ (wsX1_admit_r6 ++ (wsX1_admit_r7 ++ wsX1_admit_r8))))))) ++ wsX10 ++ wsX20 ++ wsX50 ++ wsX40 ++ wsX00 ++ wsX70)
def wsX1_canMoveBack : List Cond := .code yX1_canMoveBack cX1_canMoveBack 1 (some .boolean) :: ([.fieldLink RX1 58 "LateExcuses$Court" "moved" "Z", .fieldLink RX1 42 "LateExcuses$Court" "watermark" "I"] ++ wsX10)
def wsX4_takeBackWord_r1 : List Cond := [Cond.methodLink RX4 42 yX4_rowOf, Cond.instanceMethod yX4_rowOf, Cond.selects RX4 yX4_rowOf yX4_rowOf, Cond.initialized RX4, Cond.code yX4_rowOf cX4_rowOf 3 (some .int), Cond.fieldLink RX4 34 "LateExcuses$Panes" "used" "I", Cond.fieldLink RX4 16 "LateExcuses$Panes" "rows" "LLateExcuses$Table;", Cond.methodLink RX4 38 yX5_get, Cond.instanceMethod yX5_get, Cond.selects RX5 yX5_get yX5_get, Cond.initialized RX5, Cond.code yX5_get cX5_get 4 (some .int), Cond.fieldLink RX5 13 "LateExcuses$Table" "rows" "I", Cond.fieldLink RX5 19 "LateExcuses$Table" "columns" "I", Cond.fieldLink RX5 22 "LateExcuses$Table" "cells" "[I", Cond.methodLink RX4 65 yX4_takeBack, Cond.instanceMethod yX4_takeBack, Cond.selects RX4 yX4_takeBack yX4_takeBack, Cond.code yX4_takeBack cX4_takeBack 3 none, Cond.fieldLink RX4 23 "LateExcuses$Panes" "words" "LLateExcuses$Words;", Cond.methodLink RX4 58 yX4_isStanding, Cond.instanceMethod yX4_isStanding, Cond.selects RX4 yX4_isStanding yX4_isStanding, Cond.code yX4_isStanding cX4_isStanding 2 (some .boolean)]
def wsX4_takeBackWord_r2 : List Cond := [Cond.methodLink RX4 53 yX5_put, Cond.instanceMethod yX5_put, Cond.selects RX5 yX5_put yX5_put, Cond.code yX5_put cX5_put 5 none, Cond.methodLink RX4 75 yX7_add, Cond.instanceMethod yX7_add, Cond.selects RX7 yX7_add yX7_add, Cond.initialized RX7, Cond.code yX7_add cX7_add 5 none, Cond.fieldLink RX7 24 "LateExcuses$Words" "kept" "I", Cond.fieldLink RX7 16 "LateExcuses$Words" "rows" "LLateExcuses$Table;", Cond.fieldLink RX7 28 "LateExcuses$Words" "told" "I", Cond.fieldLink RX7 31 "LateExcuses$Words" "takenBack" "I", Cond.methodLink RX7 39 yX5_dropFirstRow, Cond.instanceMethod yX5_dropFirstRow, Cond.selects RX5 yX5_dropFirstRow yX5_dropFirstRow, Cond.code yX5_dropFirstRow cX5_dropFirstRow 1 none, Cond.methodLink RX5 26 arraycopyName, Cond.native arraycopyName, Cond.static arraycopyName, Cond.initialized "java/lang/System", Cond.methodLink RX7 42 yX5_put]
def wsX4_takeBackWord : List Cond := .code yX4_takeBackWord cX4_takeBackWord 2 none :: ((wsX4_takeBackWord_r1 ++ wsX4_takeBackWord_r2) ++ wsX40 ++ wsX50 ++ wsX70)
def wsX1_moveBack_r1 : List Cond := [Cond.fieldLink RX1 42 "LateExcuses$Court" "watermark" "I", Cond.methodLink RX1 109 Lib.Math.max.name, Cond.static Lib.Math.max.name, Cond.initialized "java/lang/Math", Cond.code Lib.Math.max.name Lib.Math.max.code 2 (some .int), Cond.fieldLink RX1 21 "LateExcuses$Court" "panes" "LLateExcuses$Panes;", Cond.fieldLink RX1 58 "LateExcuses$Court" "moved" "Z", Cond.methodLink RX1 85 yX1_paneAt, Cond.instanceMethod yX1_paneAt, Cond.selects RX1 yX1_paneAt yX1_paneAt, Cond.initialized RX1, Cond.code yX1_paneAt cX1_paneAt 2 (some .int), Cond.fieldLink RX1 32 "LateExcuses$Court" "size" "I", Cond.methodLink RX1 88 yX1_stateOf, Cond.instanceMethod yX1_stateOf, Cond.selects RX1 yX1_stateOf yX1_stateOf, Cond.code yX1_stateOf cX1_stateOf 3 (some .int), Cond.methodLink RX1 79 yX4_read, Cond.instanceMethod yX4_read, Cond.selects RX4 yX4_read yX4_read, Cond.initialized RX4, Cond.code yX4_read cX4_read 3 (some .int), Cond.fieldLink RX4 16 "LateExcuses$Panes" "rows" "LLateExcuses$Table;", Cond.methodLink RX4 42 yX4_rowOf]
def wsX1_moveBack_r2 : List Cond := [Cond.instanceMethod yX4_rowOf, Cond.selects RX4 yX4_rowOf yX4_rowOf, Cond.code yX4_rowOf cX4_rowOf 3 (some .int), Cond.fieldLink RX4 34 "LateExcuses$Panes" "used" "I", Cond.methodLink RX4 38 yX5_get, Cond.instanceMethod yX5_get, Cond.selects RX5 yX5_get yX5_get, Cond.initialized RX5, Cond.code yX5_get cX5_get 4 (some .int), Cond.fieldLink RX5 13 "LateExcuses$Table" "rows" "I", Cond.fieldLink RX5 19 "LateExcuses$Table" "columns" "I", Cond.fieldLink RX5 22 "LateExcuses$Table" "cells" "[I", Cond.methodLink RX1 82 yX1_endOf, Cond.instanceMethod yX1_endOf, Cond.selects RX1 yX1_endOf yX1_endOf, Cond.code yX1_endOf cX1_endOf 2 (some .int), Cond.methodLink RX1 148 yX4_takeBackWord, Cond.instanceMethod yX4_takeBackWord, Cond.selects RX4 yX4_takeBackWord yX4_takeBackWord, Cond.code yX4_takeBackWord cX4_takeBackWord 2 none, Cond.methodLink RX4 65 yX4_takeBack, Cond.instanceMethod yX4_takeBack, Cond.selects RX4 yX4_takeBack yX4_takeBack, Cond.code yX4_takeBack cX4_takeBack 3 none]
def wsX1_moveBack_r3 : List Cond := [Cond.fieldLink RX4 23 "LateExcuses$Panes" "words" "LLateExcuses$Words;", Cond.methodLink RX4 58 yX4_isStanding, Cond.instanceMethod yX4_isStanding, Cond.selects RX4 yX4_isStanding yX4_isStanding, Cond.code yX4_isStanding cX4_isStanding 2 (some .boolean), Cond.methodLink RX4 53 yX5_put, Cond.instanceMethod yX5_put, Cond.selects RX5 yX5_put yX5_put, Cond.code yX5_put cX5_put 5 none, Cond.methodLink RX4 75 yX7_add, Cond.instanceMethod yX7_add, Cond.selects RX7 yX7_add yX7_add, Cond.initialized RX7, Cond.code yX7_add cX7_add 5 none, Cond.fieldLink RX7 24 "LateExcuses$Words" "kept" "I", Cond.fieldLink RX7 16 "LateExcuses$Words" "rows" "LLateExcuses$Table;", Cond.fieldLink RX7 28 "LateExcuses$Words" "told" "I", Cond.fieldLink RX7 31 "LateExcuses$Words" "takenBack" "I", Cond.methodLink RX7 39 yX5_dropFirstRow, Cond.instanceMethod yX5_dropFirstRow, Cond.selects RX5 yX5_dropFirstRow yX5_dropFirstRow, Cond.code yX5_dropFirstRow cX5_dropFirstRow 1 none, Cond.methodLink RX5 26 arraycopyName, Cond.native arraycopyName]
def wsX1_moveBack_r4 : List Cond := [Cond.static arraycopyName, Cond.initialized "java/lang/System", Cond.methodLink RX7 42 yX5_put]
def wsX1_moveBack : List Cond := .code yX1_moveBack cX1_moveBack 6 (some .int) :: ((wsX1_moveBack_r1 ++ (wsX1_moveBack_r2 ++ (wsX1_moveBack_r3 ++ wsX1_moveBack_r4))) ++ wsX10 ++ wsX40 ++ wsX50 ++ wsX70)
def wsX2_read : List Cond := .code yX2_read cX2_read 3 (some .int) :: ([.fieldLink RX2 14 "LateExcuses$Events" "rows" "LLateExcuses$Table;", .constant RX2 36 (-1000004), .methodLink RX2 32 yX2_hasCome, .instanceMethod yX2_hasCome, .selects RX2 yX2_hasCome yX2_hasCome, .initialized RX2, .code yX2_hasCome cX2_hasCome 2 (some .boolean), .methodLink RX2 28 yX5_get, .instanceMethod yX5_get, .selects RX5 yX5_get yX5_get, .initialized RX5, .code yX5_get cX5_get 4 (some .int), .fieldLink RX5 13 "LateExcuses$Table" "rows" "I", .fieldLink RX5 19 "LateExcuses$Table" "columns" "I", .fieldLink RX5 22 "LateExcuses$Table" "cells" "[I"] ++ wsX20 ++ wsX50)
def wsX2_ofKey : List Cond := .code yX2_ofKey cX2_ofKey 6 (some .int) :: ([.fieldLink RX2 14 "LateExcuses$Events" "rows" "LLateExcuses$Table;", .methodLink RX2 28 yX5_get, .instanceMethod yX5_get, .selects RX5 yX5_get yX5_get, .initialized RX5, .code yX5_get cX5_get 4 (some .int), .fieldLink RX5 13 "LateExcuses$Table" "rows" "I", .fieldLink RX5 19 "LateExcuses$Table" "columns" "I", .fieldLink RX5 22 "LateExcuses$Table" "cells" "[I", .methodLink RX2 41 yX2_hasOutcome, .instanceMethod yX2_hasOutcome, .selects RX2 yX2_hasOutcome yX2_hasOutcome, .initialized RX2, .code yX2_hasOutcome cX2_hasOutcome 5 (some .boolean)] ++ wsX20 ++ wsX50)
def wsX3_init : List Cond := .code yX3_init cX3_init 1 none :: ([.methodLink RX3 1 objectInit, .instanceMethod objectInit, .code objectInit ⟨#[0xb1]⟩ 1 none, .classLink RX3 9 RX1, .fieldLink RX3 11 "LateExcuses$History" "past" "[LLateExcuses$Court;"] ++ wsX30)
def wsX3_states : List Cond := .code yX3_states cX3_states 1 (some .int) :: ([.fieldLink RX3 15 "LateExcuses$History" "states" "I"] ++ wsX30)
def wsX3_keep_r1 : List Cond := [Cond.fieldLink RX3 15 "LateExcuses$History" "states" "I", Cond.fieldLink RX3 19 "LateExcuses$History" "oldest" "I", Cond.fieldLink RX3 11 "LateExcuses$History" "past" "[LLateExcuses$Court;", Cond.classLink RX3 9 RX1, Cond.instantiable RX1 9, Cond.initialized RX1, Cond.instanceMethod yX1_init, Cond.code yX1_init cX1_init 1 none, Cond.methodLink RX1 3 objectInit, Cond.instanceMethod objectInit, Cond.code objectInit ⟨#[0xb1]⟩ 1 none, Cond.classLink RX1 9 RX2, Cond.instantiable RX2 2, Cond.initialized RX2, Cond.fieldLink RX1 12 "LateExcuses$Court" "events" "LLateExcuses$Events;", Cond.classLink RX1 18 RX4, Cond.instantiable RX4 3, Cond.initialized RX4, Cond.fieldLink RX1 21 "LateExcuses$Court" "panes" "LLateExcuses$Panes;", Cond.classLink RX1 25 RX0, Cond.instantiable RX0 1, Cond.initialized RX0, Cond.fieldLink RX1 28 "LateExcuses$Court" "cabinets" "LLateExcuses$Cabinets;", Cond.fieldLink RX1 32 "LateExcuses$Court" "size" "I"]
def wsX3_keep_r2 : List Cond := [Cond.fieldLink RX1 36 "LateExcuses$Court" "lag" "I", Cond.fieldLink RX1 39 "LateExcuses$Court" "grace" "I", Cond.fieldLink RX1 42 "LateExcuses$Court" "watermark" "I", Cond.fieldLink RX1 45 "LateExcuses$Court" "latest" "I", Cond.instanceMethod yX2_init, Cond.code yX2_init cX2_init 1 none, Cond.methodLink RX2 3 objectInit, Cond.classLink RX2 9 RX5, Cond.instantiable RX5 3, Cond.initialized RX5, Cond.fieldLink RX2 14 "LateExcuses$Events" "rows" "LLateExcuses$Table;", Cond.methodLink RX2 11 yX5_init, Cond.instanceMethod yX5_init, Cond.code yX5_init cX5_init 3 none, Cond.methodLink RX5 1 objectInit, Cond.methodLink RX5 7 Lib.Math.max.name, Cond.static Lib.Math.max.name, Cond.initialized "java/lang/Math", Cond.code Lib.Math.max.name Lib.Math.max.code 2 (some .int), Cond.fieldLink RX5 13 "LateExcuses$Table" "rows" "I", Cond.fieldLink RX5 19 "LateExcuses$Table" "columns" "I", Cond.arrayClass .int, Cond.fieldLink RX5 22 "LateExcuses$Table" "cells" "[I", Cond.instanceMethod yX4_init]
def wsX3_keep_r3 : List Cond := [Cond.code yX4_init cX4_init 1 none, Cond.methodLink RX4 3 objectInit, Cond.classLink RX4 9 RX5, Cond.fieldLink RX4 16 "LateExcuses$Panes" "rows" "LLateExcuses$Table;", Cond.classLink RX4 20 RX7, Cond.instantiable RX7 4, Cond.initialized RX7, Cond.fieldLink RX4 23 "LateExcuses$Panes" "words" "LLateExcuses$Words;", Cond.methodLink RX4 13 yX5_init, Cond.instanceMethod yX7_init, Cond.code yX7_init cX7_init 1 none, Cond.methodLink RX7 3 objectInit, Cond.classLink RX7 9 RX5, Cond.fieldLink RX7 16 "LateExcuses$Words" "rows" "LLateExcuses$Table;", Cond.methodLink RX7 13 yX5_init, Cond.instanceMethod yX0_init, Cond.code yX0_init cX0_init 1 none, Cond.methodLink RX0 5 objectInit, Cond.classLink RX0 11 RX5, Cond.fieldLink RX0 16 "LateExcuses$Cabinets" "rows" "LLateExcuses$Table;", Cond.methodLink RX0 13 yX5_init, Cond.methodLink RX3 23 yX1_copyFrom, Cond.instanceMethod yX1_copyFrom, Cond.selects RX1 yX1_copyFrom yX1_copyFrom]
def wsX3_keep_r4 : List Cond := [Cond.code yX1_copyFrom cX1_copyFrom 2 none, Cond.fieldLink RX1 58 "LateExcuses$Court" "moved" "Z", Cond.methodLink RX1 48 yX2_copyFrom, Cond.instanceMethod yX2_copyFrom, Cond.selects RX2 yX2_copyFrom yX2_copyFrom, Cond.code yX2_copyFrom cX2_copyFrom 2 none, Cond.fieldLink RX2 24 "LateExcuses$Events" "doubles" "I", Cond.methodLink RX2 20 yX5_copyFrom, Cond.instanceMethod yX5_copyFrom, Cond.selects RX5 yX5_copyFrom yX5_copyFrom, Cond.code yX5_copyFrom cX5_copyFrom 2 none, Cond.methodLink RX5 26 arraycopyName, Cond.native arraycopyName, Cond.static arraycopyName, Cond.initialized "java/lang/System", Cond.methodLink RX1 52 yX4_copyFrom, Cond.instanceMethod yX4_copyFrom, Cond.selects RX4 yX4_copyFrom yX4_copyFrom, Cond.code yX4_copyFrom cX4_copyFrom 2 none, Cond.fieldLink RX4 34 "LateExcuses$Panes" "used" "I", Cond.methodLink RX4 27 yX5_copyFrom, Cond.methodLink RX4 31 yX7_copyFrom, Cond.instanceMethod yX7_copyFrom, Cond.selects RX7 yX7_copyFrom yX7_copyFrom]
def wsX3_keep_r5 : List Cond := [Cond.code yX7_copyFrom cX7_copyFrom 2 none, Cond.fieldLink RX7 24 "LateExcuses$Words" "kept" "I", Cond.fieldLink RX7 28 "LateExcuses$Words" "told" "I", Cond.fieldLink RX7 31 "LateExcuses$Words" "takenBack" "I", Cond.methodLink RX7 20 yX5_copyFrom, Cond.methodLink RX1 55 yX0_copyFrom, Cond.instanceMethod yX0_copyFrom, Cond.selects RX0 yX0_copyFrom yX0_copyFrom, Cond.code yX0_copyFrom cX0_copyFrom 2 none, Cond.methodLink RX0 20 yX5_copyFrom]
def wsX3_keep : List Cond := .code yX3_keep cX3_keep 4 none :: ((wsX3_keep_r1 ++ (wsX3_keep_r2 ++ (wsX3_keep_r3 ++ (wsX3_keep_r4 ++ wsX3_keep_r5)))) ++ wsX30 ++ wsX10 ++ wsX20 ++ wsX40 ++ wsX00 ++ wsX50 ++ wsX70)
def wsX3_restore_r1 : List Cond := [Cond.fieldLink RX3 19 "LateExcuses$History" "oldest" "I", Cond.fieldLink RX3 15 "LateExcuses$History" "states" "I", Cond.fieldLink RX3 11 "LateExcuses$History" "past" "[LLateExcuses$Court;", Cond.methodLink RX3 23 yX1_copyFrom, Cond.instanceMethod yX1_copyFrom, Cond.selects RX1 yX1_copyFrom yX1_copyFrom, Cond.initialized RX1, Cond.code yX1_copyFrom cX1_copyFrom 2 none, Cond.fieldLink RX1 12 "LateExcuses$Court" "events" "LLateExcuses$Events;", Cond.fieldLink RX1 21 "LateExcuses$Court" "panes" "LLateExcuses$Panes;", Cond.fieldLink RX1 28 "LateExcuses$Court" "cabinets" "LLateExcuses$Cabinets;", Cond.fieldLink RX1 32 "LateExcuses$Court" "size" "I", Cond.fieldLink RX1 36 "LateExcuses$Court" "lag" "I", Cond.fieldLink RX1 39 "LateExcuses$Court" "grace" "I", Cond.fieldLink RX1 42 "LateExcuses$Court" "watermark" "I", Cond.fieldLink RX1 45 "LateExcuses$Court" "latest" "I", Cond.fieldLink RX1 58 "LateExcuses$Court" "moved" "Z", Cond.methodLink RX1 48 yX2_copyFrom, Cond.instanceMethod yX2_copyFrom, Cond.selects RX2 yX2_copyFrom yX2_copyFrom, Cond.initialized RX2, Cond.code yX2_copyFrom cX2_copyFrom 2 none, Cond.fieldLink RX2 14 "LateExcuses$Events" "rows" "LLateExcuses$Table;", Cond.fieldLink RX2 24 "LateExcuses$Events" "doubles" "I"]
def wsX3_restore_r2 : List Cond := [Cond.methodLink RX2 20 yX5_copyFrom, Cond.instanceMethod yX5_copyFrom, Cond.selects RX5 yX5_copyFrom yX5_copyFrom, Cond.initialized RX5, Cond.code yX5_copyFrom cX5_copyFrom 2 none, Cond.fieldLink RX5 22 "LateExcuses$Table" "cells" "[I", Cond.methodLink RX5 26 arraycopyName, Cond.native arraycopyName, Cond.static arraycopyName, Cond.initialized "java/lang/System", Cond.methodLink RX1 52 yX4_copyFrom, Cond.instanceMethod yX4_copyFrom, Cond.selects RX4 yX4_copyFrom yX4_copyFrom, Cond.initialized RX4, Cond.code yX4_copyFrom cX4_copyFrom 2 none, Cond.fieldLink RX4 16 "LateExcuses$Panes" "rows" "LLateExcuses$Table;", Cond.fieldLink RX4 23 "LateExcuses$Panes" "words" "LLateExcuses$Words;", Cond.fieldLink RX4 34 "LateExcuses$Panes" "used" "I", Cond.methodLink RX4 27 yX5_copyFrom, Cond.methodLink RX4 31 yX7_copyFrom, Cond.instanceMethod yX7_copyFrom, Cond.selects RX7 yX7_copyFrom yX7_copyFrom, Cond.initialized RX7, Cond.code yX7_copyFrom cX7_copyFrom 2 none]
def wsX3_restore_r3 : List Cond := [Cond.fieldLink RX7 16 "LateExcuses$Words" "rows" "LLateExcuses$Table;", Cond.fieldLink RX7 24 "LateExcuses$Words" "kept" "I", Cond.fieldLink RX7 28 "LateExcuses$Words" "told" "I", Cond.fieldLink RX7 31 "LateExcuses$Words" "takenBack" "I", Cond.methodLink RX7 20 yX5_copyFrom, Cond.methodLink RX1 55 yX0_copyFrom, Cond.instanceMethod yX0_copyFrom, Cond.selects RX0 yX0_copyFrom yX0_copyFrom, Cond.initialized RX0, Cond.code yX0_copyFrom cX0_copyFrom 2 none, Cond.fieldLink RX0 16 "LateExcuses$Cabinets" "rows" "LLateExcuses$Table;", Cond.methodLink RX0 20 yX5_copyFrom]
def wsX3_restore : List Cond := .code yX3_restore cX3_restore 4 none :: ((wsX3_restore_r1 ++ (wsX3_restore_r2 ++ wsX3_restore_r3)) ++ wsX30 ++ wsX10 ++ wsX20 ++ wsX50 ++ wsX40 ++ wsX70 ++ wsX00)
def wsX4_words : List Cond := .code yX4_words cX4_words 1 (some (.object "LateExcuses$Words")) :: ([.fieldLink RX4 23 "LateExcuses$Panes" "words" "LLateExcuses$Words;"] ++ wsX40)
def wsX4_behind : List Cond := .code yX4_behind cX4_behind 3 (some .int) :: ([.fieldLink RX4 34 "LateExcuses$Panes" "used" "I", .fieldLink RX4 16 "LateExcuses$Panes" "rows" "LLateExcuses$Table;", .constant RX4 57 (-1000004), .methodLink RX4 46 yX4_rowBehind, .instanceMethod yX4_rowBehind, .selects RX4 yX4_rowBehind yX4_rowBehind, .initialized RX4, .code yX4_rowBehind cX4_rowBehind 3 (some .int), .methodLink RX4 38 yX5_get, .instanceMethod yX5_get, .selects RX5 yX5_get yX5_get, .initialized RX5, .code yX5_get cX5_get 4 (some .int), .fieldLink RX5 13 "LateExcuses$Table" "rows" "I", .fieldLink RX5 19 "LateExcuses$Table" "columns" "I", .fieldLink RX5 22 "LateExcuses$Table" "cells" "[I"] ++ wsX40 ++ wsX50)
def wsX4_hasWord : List Cond := .code yX4_hasWord cX4_hasWord 2 (some .boolean) :: ([.methodLink RX4 42 yX4_rowOf, .instanceMethod yX4_rowOf, .selects RX4 yX4_rowOf yX4_rowOf, .initialized RX4, .code yX4_rowOf cX4_rowOf 3 (some .int), .fieldLink RX4 34 "LateExcuses$Panes" "used" "I", .fieldLink RX4 16 "LateExcuses$Panes" "rows" "LLateExcuses$Table;", .methodLink RX4 38 yX5_get, .instanceMethod yX5_get, .selects RX5 yX5_get yX5_get, .initialized RX5, .code yX5_get cX5_get 4 (some .int), .fieldLink RX5 13 "LateExcuses$Table" "rows" "I", .fieldLink RX5 19 "LateExcuses$Table" "columns" "I", .fieldLink RX5 22 "LateExcuses$Table" "cells" "[I", .methodLink RX4 58 yX4_isStanding, .instanceMethod yX4_isStanding, .selects RX4 yX4_isStanding yX4_isStanding, .code yX4_isStanding cX4_isStanding 2 (some .boolean)] ++ wsX40 ++ wsX50)
def wsX4_closedCases : List Cond := .code yX4_closedCases cX4_closedCases 3 (some .int) :: ([.fieldLink RX4 34 "LateExcuses$Panes" "used" "I", .fieldLink RX4 16 "LateExcuses$Panes" "rows" "LLateExcuses$Table;", .methodLink RX4 38 yX5_get, .instanceMethod yX5_get, .selects RX5 yX5_get yX5_get, .initialized RX5, .code yX5_get cX5_get 4 (some .int), .fieldLink RX5 13 "LateExcuses$Table" "rows" "I", .fieldLink RX5 19 "LateExcuses$Table" "columns" "I", .fieldLink RX5 22 "LateExcuses$Table" "cells" "[I"] ++ wsX40 ++ wsX50)
def wsX6_init : List Cond := .code yX6_init cX6_init 1 none :: ([.methodLink RX6 3 objectInit, .instanceMethod objectInit, .code objectInit ⟨#[0xb1]⟩ 1 none, .arrayClass .char, .fieldLink RX6 11 "LateExcuses$Text" "signs" "[C"] ++ wsX60)
def wsX6_length : List Cond := .code yX6_length cX6_length 1 (some .int) :: ([.fieldLink RX6 15 "LateExcuses$Text" "length" "I"] ++ wsX60)
def wsX6_append : List Cond := .code yX6_append cX6_append 2 (some .boolean) :: ([.fieldLink RX6 15 "LateExcuses$Text" "length" "I", .fieldLink RX6 11 "LateExcuses$Text" "signs" "[C"] ++ wsX60)
def wsX6_empty : List Cond := .code yX6_empty cX6_empty 1 none :: ([.fieldLink RX6 15 "LateExcuses$Text" "length" "I"] ++ wsX60)
def wsX6_faultPlace : List Cond := .code yX6_faultPlace cX6_faultPlace 1 (some .int) :: ([.fieldLink RX6 19 "LateExcuses$Text" "faultPlace" "I"] ++ wsX60)
def wsX6_faultReason : List Cond := .code yX6_faultReason cX6_faultReason 1 (some .int) :: ([.fieldLink RX6 22 "LateExcuses$Text" "faultReason" "I"] ++ wsX60)
def wsX6_signHere : List Cond := .code yX6_signHere cX6_signHere 1 (some .char) :: ([.fieldLink RX6 45 "LateExcuses$Text" "place" "I", .fieldLink RX6 15 "LateExcuses$Text" "length" "I", .fieldLink RX6 11 "LateExcuses$Text" "signs" "[C"] ++ wsX60)
def wsX6_readNumber : List Cond := .code yX6_readNumber cX6_readNumber 2 (some .boolean) :: ([.fieldLink RX6 52 "LateExcuses$Text" "number" "I", .fieldLink RX6 45 "LateExcuses$Text" "place" "I", .methodLink RX6 66 yX6_signHere, .instanceMethod yX6_signHere, .selects RX6 yX6_signHere yX6_signHere, .initialized RX6, .code yX6_signHere cX6_signHere 1 (some .char), .fieldLink RX6 15 "LateExcuses$Text" "length" "I", .fieldLink RX6 11 "LateExcuses$Text" "signs" "[C", .static yX8_isWithin, .initialized RX8, .code yX8_isWithin cX8_isWithin 3 (some .boolean)] ++ wsX60)
def wsX6_readSign : List Cond := .code yX6_readSign cX6_readSign 2 (some .boolean) :: ([.fieldLink RX6 45 "LateExcuses$Text" "place" "I", .methodLink RX6 66 yX6_signHere, .instanceMethod yX6_signHere, .selects RX6 yX6_signHere yX6_signHere, .initialized RX6, .code yX6_signHere cX6_signHere 1 (some .char), .fieldLink RX6 15 "LateExcuses$Text" "length" "I", .fieldLink RX6 11 "LateExcuses$Text" "signs" "[C"] ++ wsX60)
def wsX6_readExcuse : List Cond := .code yX6_readExcuse cX6_readExcuse 1 (some .int) :: ([.methodLink RX6 55 yX6_readSign, .instanceMethod yX6_readSign, .selects RX6 yX6_readSign yX6_readSign, .initialized RX6, .code yX6_readSign cX6_readSign 2 (some .boolean), .fieldLink RX6 45 "LateExcuses$Text" "place" "I", .methodLink RX6 66 yX6_signHere, .instanceMethod yX6_signHere, .selects RX6 yX6_signHere yX6_signHere, .code yX6_signHere cX6_signHere 1 (some .char), .fieldLink RX6 15 "LateExcuses$Text" "length" "I", .fieldLink RX6 11 "LateExcuses$Text" "signs" "[C"] ++ wsX60)
def wsX6_readEvent_r1 : List Cond := [Cond.fieldLink RX6 45 "LateExcuses$Text" "place" "I", Cond.fieldLink RX6 52 "LateExcuses$Text" "number" "I", Cond.fieldLink RX6 29 "LateExcuses$Text" "id" "I", Cond.fieldLink RX6 32 "LateExcuses$Text" "time" "I", Cond.fieldLink RX6 35 "LateExcuses$Text" "key" "I", Cond.fieldLink RX6 38 "LateExcuses$Text" "amount" "I", Cond.fieldLink RX6 63 "LateExcuses$Text" "excuse" "I", Cond.methodLink RX6 48 yX6_readNumber, Cond.instanceMethod yX6_readNumber, Cond.selects RX6 yX6_readNumber yX6_readNumber, Cond.initialized RX6, Cond.code yX6_readNumber cX6_readNumber 2 (some .boolean), Cond.methodLink RX6 66 yX6_signHere, Cond.instanceMethod yX6_signHere, Cond.selects RX6 yX6_signHere yX6_signHere, Cond.code yX6_signHere cX6_signHere 1 (some .char), Cond.fieldLink RX6 15 "LateExcuses$Text" "length" "I", Cond.fieldLink RX6 11 "LateExcuses$Text" "signs" "[C", Cond.static yX8_isWithin, Cond.initialized RX8, Cond.code yX8_isWithin cX8_isWithin 3 (some .boolean), Cond.methodLink RX6 55 yX6_readSign, Cond.instanceMethod yX6_readSign, Cond.selects RX6 yX6_readSign yX6_readSign]
def wsX6_readEvent_r2 : List Cond := [Cond.code yX6_readSign cX6_readSign 2 (some .boolean), Cond.methodLink RX6 59 yX6_readExcuse, Cond.instanceMethod yX6_readExcuse, Cond.selects RX6 yX6_readExcuse yX6_readExcuse, Cond.code yX6_readExcuse cX6_readExcuse 1 (some .int)]
def wsX6_readEvent : List Cond := .code yX6_readEvent cX6_readEvent 4 (some .int) :: ((wsX6_readEvent_r1 ++ wsX6_readEvent_r2) ++ wsX60)
def wsX8_isEvent : List Cond := .code yX8_isEvent cX8_isEvent 4 (some .boolean) :: ([.methodLink RX8 30 yX8_isWithin, .static yX8_isWithin, .initialized RX8, .code yX8_isWithin cX8_isWithin 3 (some .boolean)])
def wsX6_hasFault_r1 : List Cond := [Cond.fieldLink RX6 15 "LateExcuses$Text" "length" "I", Cond.fieldLink RX6 29 "LateExcuses$Text" "id" "I", Cond.fieldLink RX6 32 "LateExcuses$Text" "time" "I", Cond.fieldLink RX6 35 "LateExcuses$Text" "key" "I", Cond.fieldLink RX6 38 "LateExcuses$Text" "amount" "I", Cond.fieldLink RX6 19 "LateExcuses$Text" "faultPlace" "I", Cond.fieldLink RX6 22 "LateExcuses$Text" "faultReason" "I", Cond.methodLink RX6 25 yX6_readEvent, Cond.instanceMethod yX6_readEvent, Cond.selects RX6 yX6_readEvent yX6_readEvent, Cond.initialized RX6, Cond.code yX6_readEvent cX6_readEvent 4 (some .int), Cond.fieldLink RX6 45 "LateExcuses$Text" "place" "I", Cond.fieldLink RX6 52 "LateExcuses$Text" "number" "I", Cond.fieldLink RX6 63 "LateExcuses$Text" "excuse" "I", Cond.methodLink RX6 48 yX6_readNumber, Cond.instanceMethod yX6_readNumber, Cond.selects RX6 yX6_readNumber yX6_readNumber, Cond.code yX6_readNumber cX6_readNumber 2 (some .boolean), Cond.methodLink RX6 66 yX6_signHere, Cond.instanceMethod yX6_signHere, Cond.selects RX6 yX6_signHere yX6_signHere, Cond.code yX6_signHere cX6_signHere 1 (some .char), Cond.fieldLink RX6 11 "LateExcuses$Text" "signs" "[C"]
def wsX6_hasFault_r2 : List Cond := [Cond.static yX8_isWithin, Cond.initialized RX8, Cond.code yX8_isWithin cX8_isWithin 3 (some .boolean), Cond.methodLink RX6 55 yX6_readSign, Cond.instanceMethod yX6_readSign, Cond.selects RX6 yX6_readSign yX6_readSign, Cond.code yX6_readSign cX6_readSign 2 (some .boolean), Cond.methodLink RX6 59 yX6_readExcuse, Cond.instanceMethod yX6_readExcuse, Cond.selects RX6 yX6_readExcuse yX6_readExcuse, Cond.code yX6_readExcuse cX6_readExcuse 1 (some .int), Cond.static yX8_isEvent, Cond.code yX8_isEvent cX8_isEvent 4 (some .boolean), Cond.methodLink RX8 30 yX8_isWithin]
def wsX6_hasFault : List Cond := .code yX6_hasFault cX6_hasFault 4 (some .boolean) :: ((wsX6_hasFault_r1 ++ wsX6_hasFault_r2) ++ wsX60)
def wsX7_kept : List Cond := .code yX7_kept cX7_kept 1 (some .int) :: ([.fieldLink RX7 24 "LateExcuses$Words" "kept" "I"] ++ wsX70)
def wsX7_told : List Cond := .code yX7_told cX7_told 1 (some .int) :: ([.fieldLink RX7 28 "LateExcuses$Words" "told" "I"] ++ wsX70)
def wsX7_takenBack : List Cond := .code yX7_takenBack cX7_takenBack 1 (some .int) :: ([.fieldLink RX7 31 "LateExcuses$Words" "takenBack" "I"] ++ wsX70)
def wsX7_read : List Cond := .code yX7_read cX7_read 3 (some .int) :: ([.fieldLink RX7 24 "LateExcuses$Words" "kept" "I", .fieldLink RX7 16 "LateExcuses$Words" "rows" "LLateExcuses$Table;", .constant RX7 38 (-1000004), .methodLink RX7 34 yX5_get, .instanceMethod yX5_get, .selects RX5 yX5_get yX5_get, .initialized RX5, .code yX5_get cX5_get 4 (some .int), .fieldLink RX5 13 "LateExcuses$Table" "rows" "I", .fieldLink RX5 19 "LateExcuses$Table" "columns" "I", .fieldLink RX5 22 "LateExcuses$Table" "cells" "[I"] ++ wsX70 ++ wsX50)
def wsX8_init_r1 : List Cond := [Cond.methodLink RX8 1 objectInit, Cond.instanceMethod objectInit, Cond.code objectInit ⟨#[0xb1]⟩ 1 none, Cond.classLink RX8 7 RX1, Cond.instantiable RX1 9, Cond.initialized RX1, Cond.fieldLink RX8 10 "LateExcuses" "court" "LLateExcuses$Court;", Cond.classLink RX8 16 RX3, Cond.instantiable RX3 3, Cond.initialized RX3, Cond.fieldLink RX8 19 "LateExcuses" "history" "LLateExcuses$History;", Cond.classLink RX8 23 RX6, Cond.instantiable RX6 11, Cond.initialized RX6, Cond.fieldLink RX8 26 "LateExcuses" "text" "LLateExcuses$Text;", Cond.instanceMethod yX1_init, Cond.code yX1_init cX1_init 1 none, Cond.methodLink RX1 3 objectInit, Cond.classLink RX1 9 RX2, Cond.instantiable RX2 2, Cond.initialized RX2, Cond.fieldLink RX1 12 "LateExcuses$Court" "events" "LLateExcuses$Events;", Cond.classLink RX1 18 RX4, Cond.instantiable RX4 3]
def wsX8_init_r2 : List Cond := [Cond.initialized RX4, Cond.fieldLink RX1 21 "LateExcuses$Court" "panes" "LLateExcuses$Panes;", Cond.classLink RX1 25 RX0, Cond.instantiable RX0 1, Cond.initialized RX0, Cond.fieldLink RX1 28 "LateExcuses$Court" "cabinets" "LLateExcuses$Cabinets;", Cond.fieldLink RX1 32 "LateExcuses$Court" "size" "I", Cond.fieldLink RX1 36 "LateExcuses$Court" "lag" "I", Cond.fieldLink RX1 39 "LateExcuses$Court" "grace" "I", Cond.fieldLink RX1 42 "LateExcuses$Court" "watermark" "I", Cond.fieldLink RX1 45 "LateExcuses$Court" "latest" "I", Cond.instanceMethod yX2_init, Cond.code yX2_init cX2_init 1 none, Cond.methodLink RX2 3 objectInit, Cond.classLink RX2 9 RX5, Cond.instantiable RX5 3, Cond.initialized RX5, Cond.fieldLink RX2 14 "LateExcuses$Events" "rows" "LLateExcuses$Table;", Cond.methodLink RX2 11 yX5_init, Cond.instanceMethod yX5_init, Cond.code yX5_init cX5_init 3 none, Cond.methodLink RX5 1 objectInit, Cond.methodLink RX5 7 Lib.Math.max.name, Cond.static Lib.Math.max.name]
def wsX8_init_r3 : List Cond := [Cond.initialized "java/lang/Math", Cond.code Lib.Math.max.name Lib.Math.max.code 2 (some .int), Cond.fieldLink RX5 13 "LateExcuses$Table" "rows" "I", Cond.fieldLink RX5 19 "LateExcuses$Table" "columns" "I", Cond.arrayClass .int, Cond.fieldLink RX5 22 "LateExcuses$Table" "cells" "[I", Cond.instanceMethod yX4_init, Cond.code yX4_init cX4_init 1 none, Cond.methodLink RX4 3 objectInit, Cond.classLink RX4 9 RX5, Cond.fieldLink RX4 16 "LateExcuses$Panes" "rows" "LLateExcuses$Table;", Cond.classLink RX4 20 RX7, Cond.instantiable RX7 4, Cond.initialized RX7, Cond.fieldLink RX4 23 "LateExcuses$Panes" "words" "LLateExcuses$Words;", Cond.methodLink RX4 13 yX5_init, Cond.instanceMethod yX7_init, Cond.code yX7_init cX7_init 1 none, Cond.methodLink RX7 3 objectInit, Cond.classLink RX7 9 RX5, Cond.fieldLink RX7 16 "LateExcuses$Words" "rows" "LLateExcuses$Table;", Cond.methodLink RX7 13 yX5_init, Cond.instanceMethod yX0_init, Cond.code yX0_init cX0_init 1 none]
def wsX8_init_r4 : List Cond := [Cond.methodLink RX0 5 objectInit, Cond.classLink RX0 11 RX5, Cond.fieldLink RX0 16 "LateExcuses$Cabinets" "rows" "LLateExcuses$Table;", Cond.methodLink RX0 13 yX5_init, Cond.instanceMethod yX3_init, Cond.code yX3_init cX3_init 1 none, Cond.methodLink RX3 1 objectInit, Cond.classLink RX3 9 RX1, Cond.fieldLink RX3 11 "LateExcuses$History" "past" "[LLateExcuses$Court;", Cond.instanceMethod yX6_init, Cond.code yX6_init cX6_init 1 none, Cond.methodLink RX6 3 objectInit, Cond.arrayClass .char, Cond.fieldLink RX6 11 "LateExcuses$Text" "signs" "[C"]
def wsX8_init : List Cond := .code yX8_init cX8_init 1 none :: ((wsX8_init_r1 ++ (wsX8_init_r2 ++ (wsX8_init_r3 ++ wsX8_init_r4))) ++ wsX10 ++ wsX80 ++ wsX30 ++ wsX60 ++ wsX20 ++ wsX40 ++ wsX00 ++ wsX50 ++ wsX70)
def wsX8_set_r1 : List Cond := [Cond.constant RX8 34 (-1000001), Cond.fieldLink RX8 10 "LateExcuses" "court" "LLateExcuses$Court;", Cond.constant RX8 39 (-1000002), Cond.fieldLink RX8 19 "LateExcuses" "history" "LLateExcuses$History;", Cond.methodLink RX8 30 yX8_isWithin, Cond.static yX8_isWithin, Cond.initialized RX8, Cond.code yX8_isWithin cX8_isWithin 3 (some .boolean), Cond.methodLink RX8 35 yX1_hasEvents, Cond.instanceMethod yX1_hasEvents, Cond.selects RX1 yX1_hasEvents yX1_hasEvents, Cond.initialized RX1, Cond.code yX1_hasEvents cX1_hasEvents 1 (some .boolean), Cond.fieldLink RX1 12 "LateExcuses$Court" "events" "LLateExcuses$Events;", Cond.methodLink RX1 66 yX2_withOutcome, Cond.instanceMethod yX2_withOutcome, Cond.selects RX2 yX2_withOutcome yX2_withOutcome, Cond.initialized RX2, Cond.code yX2_withOutcome cX2_withOutcome 5 (some .int), Cond.methodLink RX2 41 yX2_hasOutcome, Cond.instanceMethod yX2_hasOutcome, Cond.selects RX2 yX2_hasOutcome yX2_hasOutcome, Cond.code yX2_hasOutcome cX2_hasOutcome 5 (some .boolean), Cond.fieldLink RX2 14 "LateExcuses$Events" "rows" "LLateExcuses$Table;"]
def wsX8_set_r2 : List Cond := [Cond.methodLink RX2 28 yX5_get, Cond.instanceMethod yX5_get, Cond.selects RX5 yX5_get yX5_get, Cond.initialized RX5, Cond.code yX5_get cX5_get 4 (some .int), Cond.fieldLink RX5 13 "LateExcuses$Table" "rows" "I", Cond.fieldLink RX5 19 "LateExcuses$Table" "columns" "I", Cond.fieldLink RX5 22 "LateExcuses$Table" "cells" "[I", Cond.methodLink RX8 40 yX3_keep, Cond.instanceMethod yX3_keep, Cond.selects RX3 yX3_keep yX3_keep, Cond.initialized RX3, Cond.code yX3_keep cX3_keep 4 none, Cond.fieldLink RX3 15 "LateExcuses$History" "states" "I", Cond.fieldLink RX3 19 "LateExcuses$History" "oldest" "I", Cond.fieldLink RX3 11 "LateExcuses$History" "past" "[LLateExcuses$Court;", Cond.classLink RX3 9 RX1, Cond.instantiable RX1 9, Cond.instanceMethod yX1_init, Cond.code yX1_init cX1_init 1 none, Cond.methodLink RX1 3 objectInit, Cond.instanceMethod objectInit, Cond.code objectInit ⟨#[0xb1]⟩ 1 none, Cond.classLink RX1 9 RX2]
def wsX8_set_r3 : List Cond := [Cond.instantiable RX2 2, Cond.classLink RX1 18 RX4, Cond.instantiable RX4 3, Cond.initialized RX4, Cond.fieldLink RX1 21 "LateExcuses$Court" "panes" "LLateExcuses$Panes;", Cond.classLink RX1 25 RX0, Cond.instantiable RX0 1, Cond.initialized RX0, Cond.fieldLink RX1 28 "LateExcuses$Court" "cabinets" "LLateExcuses$Cabinets;", Cond.fieldLink RX1 32 "LateExcuses$Court" "size" "I", Cond.fieldLink RX1 36 "LateExcuses$Court" "lag" "I", Cond.fieldLink RX1 39 "LateExcuses$Court" "grace" "I", Cond.fieldLink RX1 42 "LateExcuses$Court" "watermark" "I", Cond.fieldLink RX1 45 "LateExcuses$Court" "latest" "I", Cond.instanceMethod yX2_init, Cond.code yX2_init cX2_init 1 none, Cond.methodLink RX2 3 objectInit, Cond.classLink RX2 9 RX5, Cond.instantiable RX5 3, Cond.methodLink RX2 11 yX5_init, Cond.instanceMethod yX5_init, Cond.code yX5_init cX5_init 3 none, Cond.methodLink RX5 1 objectInit, Cond.methodLink RX5 7 Lib.Math.max.name]
def wsX8_set_r4 : List Cond := [Cond.static Lib.Math.max.name, Cond.initialized "java/lang/Math", Cond.code Lib.Math.max.name Lib.Math.max.code 2 (some .int), Cond.arrayClass .int, Cond.instanceMethod yX4_init, Cond.code yX4_init cX4_init 1 none, Cond.methodLink RX4 3 objectInit, Cond.classLink RX4 9 RX5, Cond.fieldLink RX4 16 "LateExcuses$Panes" "rows" "LLateExcuses$Table;", Cond.classLink RX4 20 RX7, Cond.instantiable RX7 4, Cond.initialized RX7, Cond.fieldLink RX4 23 "LateExcuses$Panes" "words" "LLateExcuses$Words;", Cond.methodLink RX4 13 yX5_init, Cond.instanceMethod yX7_init, Cond.code yX7_init cX7_init 1 none, Cond.methodLink RX7 3 objectInit, Cond.classLink RX7 9 RX5, Cond.fieldLink RX7 16 "LateExcuses$Words" "rows" "LLateExcuses$Table;", Cond.methodLink RX7 13 yX5_init, Cond.instanceMethod yX0_init, Cond.code yX0_init cX0_init 1 none, Cond.methodLink RX0 5 objectInit, Cond.classLink RX0 11 RX5]
def wsX8_set_r5 : List Cond := [Cond.fieldLink RX0 16 "LateExcuses$Cabinets" "rows" "LLateExcuses$Table;", Cond.methodLink RX0 13 yX5_init, Cond.methodLink RX3 23 yX1_copyFrom, Cond.instanceMethod yX1_copyFrom, Cond.selects RX1 yX1_copyFrom yX1_copyFrom, Cond.code yX1_copyFrom cX1_copyFrom 2 none, Cond.fieldLink RX1 58 "LateExcuses$Court" "moved" "Z", Cond.methodLink RX1 48 yX2_copyFrom, Cond.instanceMethod yX2_copyFrom, Cond.selects RX2 yX2_copyFrom yX2_copyFrom, Cond.code yX2_copyFrom cX2_copyFrom 2 none, Cond.fieldLink RX2 24 "LateExcuses$Events" "doubles" "I", Cond.methodLink RX2 20 yX5_copyFrom, Cond.instanceMethod yX5_copyFrom, Cond.selects RX5 yX5_copyFrom yX5_copyFrom, Cond.code yX5_copyFrom cX5_copyFrom 2 none, Cond.methodLink RX5 26 arraycopyName, Cond.native arraycopyName, Cond.static arraycopyName, Cond.initialized "java/lang/System", Cond.methodLink RX1 52 yX4_copyFrom, Cond.instanceMethod yX4_copyFrom, Cond.selects RX4 yX4_copyFrom yX4_copyFrom, Cond.code yX4_copyFrom cX4_copyFrom 2 none]
def wsX8_set_r6 : List Cond := [Cond.fieldLink RX4 34 "LateExcuses$Panes" "used" "I", Cond.methodLink RX4 27 yX5_copyFrom, Cond.methodLink RX4 31 yX7_copyFrom, Cond.instanceMethod yX7_copyFrom, Cond.selects RX7 yX7_copyFrom yX7_copyFrom, Cond.code yX7_copyFrom cX7_copyFrom 2 none, Cond.fieldLink RX7 24 "LateExcuses$Words" "kept" "I", Cond.fieldLink RX7 28 "LateExcuses$Words" "told" "I", Cond.fieldLink RX7 31 "LateExcuses$Words" "takenBack" "I", Cond.methodLink RX7 20 yX5_copyFrom, Cond.methodLink RX1 55 yX0_copyFrom, Cond.instanceMethod yX0_copyFrom, Cond.selects RX0 yX0_copyFrom yX0_copyFrom, Cond.code yX0_copyFrom cX0_copyFrom 2 none, Cond.methodLink RX0 20 yX5_copyFrom, Cond.methodLink RX8 44 yX1_changeSetting, Cond.instanceMethod yX1_changeSetting, Cond.selects RX1 yX1_changeSetting yX1_changeSetting, Cond.code yX1_changeSetting cX1_changeSetting 4 (some .int), Cond.methodLink RX1 62 yX1_setting, Cond.instanceMethod yX1_setting, Cond.selects RX1 yX1_setting yX1_setting, Cond.code yX1_setting cX1_setting 2 (some .int)]
def wsX8_set : List Cond := .code yX8_set cX8_set 3 (some .int) :: ((wsX8_set_r1 ++ (wsX8_set_r2 ++ (wsX8_set_r3 ++ (wsX8_set_r4 ++ (wsX8_set_r5 ++ wsX8_set_r6))))) ++ wsX80 ++ wsX10 ++ wsX20 ++ wsX50 ++ wsX30 ++ wsX40 ++ wsX00 ++ wsX70)
def wsX8_event_r1 : List Cond := [Cond.constant RX8 34 (-1000001), Cond.fieldLink RX8 19 "LateExcuses" "history" "LLateExcuses$History;", Cond.fieldLink RX8 10 "LateExcuses" "court" "LLateExcuses$Court;", Cond.methodLink RX8 48 yX8_isEvent, Cond.static yX8_isEvent, Cond.initialized RX8, Cond.code yX8_isEvent cX8_isEvent 4 (some .boolean), Cond.methodLink RX8 30 yX8_isWithin, Cond.static yX8_isWithin, Cond.code yX8_isWithin cX8_isWithin 3 (some .boolean), Cond.methodLink RX8 40 yX3_keep, Cond.instanceMethod yX3_keep, Cond.selects RX3 yX3_keep yX3_keep, Cond.initialized RX3, Cond.code yX3_keep cX3_keep 4 none, Cond.fieldLink RX3 15 "LateExcuses$History" "states" "I", Cond.fieldLink RX3 19 "LateExcuses$History" "oldest" "I", Cond.fieldLink RX3 11 "LateExcuses$History" "past" "[LLateExcuses$Court;", Cond.classLink RX3 9 RX1, Cond.instantiable RX1 9, Cond.initialized RX1, Cond.instanceMethod yX1_init, Cond.code yX1_init cX1_init 1 none, Cond.methodLink RX1 3 objectInit]
def wsX8_event_r2 : List Cond := [Cond.instanceMethod objectInit, Cond.code objectInit ⟨#[0xb1]⟩ 1 none, Cond.classLink RX1 9 RX2, Cond.instantiable RX2 2, Cond.initialized RX2, Cond.fieldLink RX1 12 "LateExcuses$Court" "events" "LLateExcuses$Events;", Cond.classLink RX1 18 RX4, Cond.instantiable RX4 3, Cond.initialized RX4, Cond.fieldLink RX1 21 "LateExcuses$Court" "panes" "LLateExcuses$Panes;", Cond.classLink RX1 25 RX0, Cond.instantiable RX0 1, Cond.initialized RX0, Cond.fieldLink RX1 28 "LateExcuses$Court" "cabinets" "LLateExcuses$Cabinets;", Cond.fieldLink RX1 32 "LateExcuses$Court" "size" "I", Cond.fieldLink RX1 36 "LateExcuses$Court" "lag" "I", Cond.fieldLink RX1 39 "LateExcuses$Court" "grace" "I", Cond.fieldLink RX1 42 "LateExcuses$Court" "watermark" "I", Cond.fieldLink RX1 45 "LateExcuses$Court" "latest" "I", Cond.instanceMethod yX2_init, Cond.code yX2_init cX2_init 1 none, Cond.methodLink RX2 3 objectInit, Cond.classLink RX2 9 RX5, Cond.instantiable RX5 3]
def wsX8_event_r3 : List Cond := [Cond.initialized RX5, Cond.fieldLink RX2 14 "LateExcuses$Events" "rows" "LLateExcuses$Table;", Cond.methodLink RX2 11 yX5_init, Cond.instanceMethod yX5_init, Cond.code yX5_init cX5_init 3 none, Cond.methodLink RX5 1 objectInit, Cond.methodLink RX5 7 Lib.Math.max.name, Cond.static Lib.Math.max.name, Cond.initialized "java/lang/Math", Cond.code Lib.Math.max.name Lib.Math.max.code 2 (some .int), Cond.fieldLink RX5 13 "LateExcuses$Table" "rows" "I", Cond.fieldLink RX5 19 "LateExcuses$Table" "columns" "I", Cond.arrayClass .int, Cond.fieldLink RX5 22 "LateExcuses$Table" "cells" "[I", Cond.instanceMethod yX4_init, Cond.code yX4_init cX4_init 1 none, Cond.methodLink RX4 3 objectInit, Cond.classLink RX4 9 RX5, Cond.fieldLink RX4 16 "LateExcuses$Panes" "rows" "LLateExcuses$Table;", Cond.classLink RX4 20 RX7, Cond.instantiable RX7 4, Cond.initialized RX7, Cond.fieldLink RX4 23 "LateExcuses$Panes" "words" "LLateExcuses$Words;", Cond.methodLink RX4 13 yX5_init]
def wsX8_event_r4 : List Cond := [Cond.instanceMethod yX7_init, Cond.code yX7_init cX7_init 1 none, Cond.methodLink RX7 3 objectInit, Cond.classLink RX7 9 RX5, Cond.fieldLink RX7 16 "LateExcuses$Words" "rows" "LLateExcuses$Table;", Cond.methodLink RX7 13 yX5_init, Cond.instanceMethod yX0_init, Cond.code yX0_init cX0_init 1 none, Cond.methodLink RX0 5 objectInit, Cond.classLink RX0 11 RX5, Cond.fieldLink RX0 16 "LateExcuses$Cabinets" "rows" "LLateExcuses$Table;", Cond.methodLink RX0 13 yX5_init, Cond.methodLink RX3 23 yX1_copyFrom, Cond.instanceMethod yX1_copyFrom, Cond.selects RX1 yX1_copyFrom yX1_copyFrom, Cond.code yX1_copyFrom cX1_copyFrom 2 none, Cond.fieldLink RX1 58 "LateExcuses$Court" "moved" "Z", Cond.methodLink RX1 48 yX2_copyFrom, Cond.instanceMethod yX2_copyFrom, Cond.selects RX2 yX2_copyFrom yX2_copyFrom, Cond.code yX2_copyFrom cX2_copyFrom 2 none, Cond.fieldLink RX2 24 "LateExcuses$Events" "doubles" "I", Cond.methodLink RX2 20 yX5_copyFrom, Cond.instanceMethod yX5_copyFrom]
def wsX8_event_r5 : List Cond := [Cond.selects RX5 yX5_copyFrom yX5_copyFrom, Cond.code yX5_copyFrom cX5_copyFrom 2 none, Cond.methodLink RX5 26 arraycopyName, Cond.native arraycopyName, Cond.static arraycopyName, Cond.initialized "java/lang/System", Cond.methodLink RX1 52 yX4_copyFrom, Cond.instanceMethod yX4_copyFrom, Cond.selects RX4 yX4_copyFrom yX4_copyFrom, Cond.code yX4_copyFrom cX4_copyFrom 2 none, Cond.fieldLink RX4 34 "LateExcuses$Panes" "used" "I", Cond.methodLink RX4 27 yX5_copyFrom, Cond.methodLink RX4 31 yX7_copyFrom, Cond.instanceMethod yX7_copyFrom, Cond.selects RX7 yX7_copyFrom yX7_copyFrom, Cond.code yX7_copyFrom cX7_copyFrom 2 none, Cond.fieldLink RX7 24 "LateExcuses$Words" "kept" "I", Cond.fieldLink RX7 28 "LateExcuses$Words" "told" "I", Cond.fieldLink RX7 31 "LateExcuses$Words" "takenBack" "I", Cond.methodLink RX7 20 yX5_copyFrom, Cond.methodLink RX1 55 yX0_copyFrom, Cond.instanceMethod yX0_copyFrom, Cond.selects RX0 yX0_copyFrom yX0_copyFrom, Cond.code yX0_copyFrom cX0_copyFrom 2 none]
def wsX8_event_r6 : List Cond := [Cond.methodLink RX0 20 yX5_copyFrom, Cond.methodLink RX8 52 yX1_admit, Cond.instanceMethod yX1_admit, Cond.selects RX1 yX1_admit yX1_admit, Cond.code yX1_admit cX1_admit 8 (some .int), Cond.methodLink RX1 114 yX2_hasCome, Cond.instanceMethod yX2_hasCome, Cond.selects RX2 yX2_hasCome yX2_hasCome, Cond.code yX2_hasCome cX2_hasCome 2 (some .boolean), Cond.methodLink RX2 28 yX5_get, Cond.instanceMethod yX5_get, Cond.selects RX5 yX5_get yX5_get, Cond.code yX5_get cX5_get 4 (some .int), Cond.methodLink RX1 117 yX2_addDouble, Cond.instanceMethod yX2_addDouble, Cond.selects RX2 yX2_addDouble yX2_addDouble, Cond.code yX2_addDouble cX2_addDouble 1 none, Cond.methodLink RX1 120 yX1_verdict, Cond.instanceMethod yX1_verdict, Cond.selects RX1 yX1_verdict yX1_verdict, Cond.code yX1_verdict cX1_verdict 6 (some .int), Cond.methodLink RX1 85 yX1_paneAt, Cond.instanceMethod yX1_paneAt, Cond.selects RX1 yX1_paneAt yX1_paneAt]
def wsX8_event_r7 : List Cond := [Cond.code yX1_paneAt cX1_paneAt 2 (some .int), Cond.methodLink RX1 88 yX1_stateOf, Cond.instanceMethod yX1_stateOf, Cond.selects RX1 yX1_stateOf yX1_stateOf, Cond.code yX1_stateOf cX1_stateOf 3 (some .int), Cond.methodLink RX1 79 yX4_read, Cond.instanceMethod yX4_read, Cond.selects RX4 yX4_read yX4_read, Cond.code yX4_read cX4_read 3 (some .int), Cond.methodLink RX4 42 yX4_rowOf, Cond.instanceMethod yX4_rowOf, Cond.selects RX4 yX4_rowOf yX4_rowOf, Cond.code yX4_rowOf cX4_rowOf 3 (some .int), Cond.methodLink RX4 38 yX5_get, Cond.methodLink RX1 82 yX1_endOf, Cond.instanceMethod yX1_endOf, Cond.selects RX1 yX1_endOf yX1_endOf, Cond.code yX1_endOf cX1_endOf 2 (some .int), Cond.methodLink RX1 91 yX1_isAcceptable, Cond.instanceMethod yX1_isAcceptable, Cond.selects RX1 yX1_isAcceptable yX1_isAcceptable, Cond.code yX1_isAcceptable cX1_isAcceptable 5 (some .boolean), Cond.methodLink RX1 98 yX1_lateBy, Cond.instanceMethod yX1_lateBy]
def wsX8_event_r8 : List Cond := [Cond.selects RX1 yX1_lateBy yX1_lateBy, Cond.code yX1_lateBy cX1_lateBy 2 (some .int), Cond.methodLink RX1 101 yX2_hadIllness, Cond.instanceMethod yX2_hadIllness, Cond.selects RX2 yX2_hadIllness yX2_hadIllness, Cond.code yX2_hadIllness cX2_hadIllness 3 (some .boolean), Cond.methodLink RX2 41 yX2_hasOutcome, Cond.instanceMethod yX2_hasOutcome, Cond.selects RX2 yX2_hasOutcome yX2_hasOutcome, Cond.code yX2_hasOutcome cX2_hasOutcome 5 (some .boolean), Cond.methodLink RX1 94 yX0_hasPlaceFor, Cond.instanceMethod yX0_hasPlaceFor, Cond.selects RX0 yX0_hasPlaceFor yX0_hasPlaceFor, Cond.code yX0_hasPlaceFor cX0_hasPlaceFor 2 (some .boolean), Cond.methodLink RX0 29 yX0_cabinetFor, Cond.instanceMethod yX0_cabinetFor, Cond.selects RX0 yX0_cabinetFor yX0_cabinetFor, Cond.code yX0_cabinetFor cX0_cabinetFor 2 (some .int), Cond.methodLink RX0 33 yX0_isFull, Cond.instanceMethod yX0_isFull, Cond.selects RX0 yX0_isFull yX0_isFull, Cond.code yX0_isFull cX0_isFull 2 (some .boolean), Cond.methodLink RX0 24 yX5_get, Cond.methodLink RX1 123 yX2_enter]
def wsX8_event_r9 : List Cond := [Cond.instanceMethod yX2_enter, Cond.selects RX2 yX2_enter yX2_enter, Cond.code yX2_enter cX2_enter 6 none, Cond.methodLink RX2 37 yX5_put, Cond.instanceMethod yX5_put, Cond.selects RX5 yX5_put yX5_put, Cond.code yX5_put cX5_put 5 none, Cond.methodLink RX1 127 yX2_conclude, Cond.instanceMethod yX2_conclude, Cond.selects RX2 yX2_conclude yX2_conclude, Cond.code yX2_conclude cX2_conclude 4 none, Cond.methodLink RX1 131 yX0_file, Cond.instanceMethod yX0_file, Cond.selects RX0 yX0_file yX0_file, Cond.code yX0_file cX0_file 5 none, Cond.methodLink RX0 37 yX5_put, Cond.methodLink RX1 135 yX4_reopen, Cond.instanceMethod yX4_reopen, Cond.selects RX4 yX4_reopen yX4_reopen, Cond.code yX4_reopen cX4_reopen 4 none, Cond.methodLink RX4 62 yX4_rowMadeFor, Cond.instanceMethod yX4_rowMadeFor, Cond.selects RX4 yX4_rowMadeFor yX4_rowMadeFor, Cond.code yX4_rowMadeFor cX4_rowMadeFor 3 (some .int)]
def wsX8_event_r10 : List Cond := [Cond.methodLink RX4 46 yX4_rowBehind, Cond.instanceMethod yX4_rowBehind, Cond.selects RX4 yX4_rowBehind yX4_rowBehind, Cond.code yX4_rowBehind cX4_rowBehind 3 (some .int), Cond.methodLink RX4 49 yX5_openRow, Cond.instanceMethod yX5_openRow, Cond.selects RX5 yX5_openRow yX5_openRow, Cond.code yX5_openRow cX5_openRow 5 none, Cond.methodLink RX5 32 yX5_put, Cond.methodLink RX4 53 yX5_put, Cond.methodLink RX4 65 yX4_takeBack, Cond.instanceMethod yX4_takeBack, Cond.selects RX4 yX4_takeBack yX4_takeBack, Cond.code yX4_takeBack cX4_takeBack 3 none, Cond.methodLink RX4 58 yX4_isStanding, Cond.instanceMethod yX4_isStanding, Cond.selects RX4 yX4_isStanding yX4_isStanding, Cond.code yX4_isStanding cX4_isStanding 2 (some .boolean), Cond.methodLink RX4 75 yX7_add, Cond.instanceMethod yX7_add, Cond.selects RX7 yX7_add yX7_add, Cond.code yX7_add cX7_add 5 none, Cond.methodLink RX7 39 yX5_dropFirstRow, Cond.instanceMethod yX5_dropFirstRow]
def wsX8_event_r11 : List Cond := [Cond.selects RX5 yX5_dropFirstRow yX5_dropFirstRow, Cond.code yX5_dropFirstRow cX5_dropFirstRow 1 none, Cond.methodLink RX7 42 yX5_put, Cond.methodLink RX1 138 yX4_add, Cond.instanceMethod yX4_add, Cond.selects RX4 yX4_add yX4_add, Cond.code yX4_add cX4_add 5 none, Cond.methodLink RX1 141 yX1_raiseWatermark, Cond.instanceMethod yX1_raiseWatermark, Cond.selects RX1 yX1_raiseWatermark yX1_raiseWatermark, Cond.code yX1_raiseWatermark cX1_raiseWatermark 3 none, Cond.methodLink RX1 109 Lib.Math.max.name, Cond.methodLink RX1 145 yX4_shutAndClose, Cond.instanceMethod yX4_shutAndClose, Cond.selects RX4 yX4_shutAndClose yX4_shutAndClose, Cond.code yX4_shutAndClose cX4_shutAndClose 6 none, Cond.methodLink RX4 72 yX4_tellWord, Cond.instanceMethod yX4_tellWord, Cond.selects RX4 yX4_tellWord yX4_tellWord, Cond.code yX4_tellWord cX4_tellWord 3 none]
def wsX8_event : List Cond := .code yX8_event cX8_event 6 (some .int) :: ((wsX8_event_r1 ++ (wsX8_event_r2 ++ (wsX8_event_r3 ++ (wsX8_event_r4 ++ (wsX8_event_r5 ++ (wsX8_event_r6 ++ (wsX8_event_r7 ++ (wsX8_event_r8 ++ (wsX8_event_r9 ++ (wsX8_event_r10 ++ wsX8_event_r11)))))))))) ++ wsX80 ++ wsX30 ++ wsX10 ++ wsX20 ++ wsX40 ++ wsX00 ++ wsX50 ++ wsX70)
def wsX8_move_r1 : List Cond := [Cond.constant RX8 34 (-1000001), Cond.fieldLink RX8 10 "LateExcuses" "court" "LLateExcuses$Court;", Cond.constant RX8 39 (-1000002), Cond.fieldLink RX8 19 "LateExcuses" "history" "LLateExcuses$History;", Cond.methodLink RX8 30 yX8_isWithin, Cond.static yX8_isWithin, Cond.initialized RX8, Cond.code yX8_isWithin cX8_isWithin 3 (some .boolean), Cond.methodLink RX8 56 yX1_canMoveBack, Cond.instanceMethod yX1_canMoveBack, Cond.selects RX1 yX1_canMoveBack yX1_canMoveBack, Cond.initialized RX1, Cond.code yX1_canMoveBack cX1_canMoveBack 1 (some .boolean), Cond.fieldLink RX1 58 "LateExcuses$Court" "moved" "Z", Cond.fieldLink RX1 42 "LateExcuses$Court" "watermark" "I", Cond.methodLink RX8 40 yX3_keep, Cond.instanceMethod yX3_keep, Cond.selects RX3 yX3_keep yX3_keep, Cond.initialized RX3, Cond.code yX3_keep cX3_keep 4 none, Cond.fieldLink RX3 15 "LateExcuses$History" "states" "I", Cond.fieldLink RX3 19 "LateExcuses$History" "oldest" "I", Cond.fieldLink RX3 11 "LateExcuses$History" "past" "[LLateExcuses$Court;", Cond.classLink RX3 9 RX1]
def wsX8_move_r2 : List Cond := [Cond.instantiable RX1 9, Cond.instanceMethod yX1_init, Cond.code yX1_init cX1_init 1 none, Cond.methodLink RX1 3 objectInit, Cond.instanceMethod objectInit, Cond.code objectInit ⟨#[0xb1]⟩ 1 none, Cond.classLink RX1 9 RX2, Cond.instantiable RX2 2, Cond.initialized RX2, Cond.fieldLink RX1 12 "LateExcuses$Court" "events" "LLateExcuses$Events;", Cond.classLink RX1 18 RX4, Cond.instantiable RX4 3, Cond.initialized RX4, Cond.fieldLink RX1 21 "LateExcuses$Court" "panes" "LLateExcuses$Panes;", Cond.classLink RX1 25 RX0, Cond.instantiable RX0 1, Cond.initialized RX0, Cond.fieldLink RX1 28 "LateExcuses$Court" "cabinets" "LLateExcuses$Cabinets;", Cond.fieldLink RX1 32 "LateExcuses$Court" "size" "I", Cond.fieldLink RX1 36 "LateExcuses$Court" "lag" "I", Cond.fieldLink RX1 39 "LateExcuses$Court" "grace" "I", Cond.fieldLink RX1 45 "LateExcuses$Court" "latest" "I", Cond.instanceMethod yX2_init, Cond.code yX2_init cX2_init 1 none]
def wsX8_move_r3 : List Cond := [Cond.methodLink RX2 3 objectInit, Cond.classLink RX2 9 RX5, Cond.instantiable RX5 3, Cond.initialized RX5, Cond.fieldLink RX2 14 "LateExcuses$Events" "rows" "LLateExcuses$Table;", Cond.methodLink RX2 11 yX5_init, Cond.instanceMethod yX5_init, Cond.code yX5_init cX5_init 3 none, Cond.methodLink RX5 1 objectInit, Cond.methodLink RX5 7 Lib.Math.max.name, Cond.static Lib.Math.max.name, Cond.initialized "java/lang/Math", Cond.code Lib.Math.max.name Lib.Math.max.code 2 (some .int), Cond.fieldLink RX5 13 "LateExcuses$Table" "rows" "I", Cond.fieldLink RX5 19 "LateExcuses$Table" "columns" "I", Cond.arrayClass .int, Cond.fieldLink RX5 22 "LateExcuses$Table" "cells" "[I", Cond.instanceMethod yX4_init, Cond.code yX4_init cX4_init 1 none, Cond.methodLink RX4 3 objectInit, Cond.classLink RX4 9 RX5, Cond.fieldLink RX4 16 "LateExcuses$Panes" "rows" "LLateExcuses$Table;", Cond.classLink RX4 20 RX7, Cond.instantiable RX7 4]
def wsX8_move_r4 : List Cond := [Cond.initialized RX7, Cond.fieldLink RX4 23 "LateExcuses$Panes" "words" "LLateExcuses$Words;", Cond.methodLink RX4 13 yX5_init, Cond.instanceMethod yX7_init, Cond.code yX7_init cX7_init 1 none, Cond.methodLink RX7 3 objectInit, Cond.classLink RX7 9 RX5, Cond.fieldLink RX7 16 "LateExcuses$Words" "rows" "LLateExcuses$Table;", Cond.methodLink RX7 13 yX5_init, Cond.instanceMethod yX0_init, Cond.code yX0_init cX0_init 1 none, Cond.methodLink RX0 5 objectInit, Cond.classLink RX0 11 RX5, Cond.fieldLink RX0 16 "LateExcuses$Cabinets" "rows" "LLateExcuses$Table;", Cond.methodLink RX0 13 yX5_init, Cond.methodLink RX3 23 yX1_copyFrom, Cond.instanceMethod yX1_copyFrom, Cond.selects RX1 yX1_copyFrom yX1_copyFrom, Cond.code yX1_copyFrom cX1_copyFrom 2 none, Cond.methodLink RX1 48 yX2_copyFrom, Cond.instanceMethod yX2_copyFrom, Cond.selects RX2 yX2_copyFrom yX2_copyFrom, Cond.code yX2_copyFrom cX2_copyFrom 2 none, Cond.fieldLink RX2 24 "LateExcuses$Events" "doubles" "I"]
def wsX8_move_r5 : List Cond := [Cond.methodLink RX2 20 yX5_copyFrom, Cond.instanceMethod yX5_copyFrom, Cond.selects RX5 yX5_copyFrom yX5_copyFrom, Cond.code yX5_copyFrom cX5_copyFrom 2 none, Cond.methodLink RX5 26 arraycopyName, Cond.native arraycopyName, Cond.static arraycopyName, Cond.initialized "java/lang/System", Cond.methodLink RX1 52 yX4_copyFrom, Cond.instanceMethod yX4_copyFrom, Cond.selects RX4 yX4_copyFrom yX4_copyFrom, Cond.code yX4_copyFrom cX4_copyFrom 2 none, Cond.fieldLink RX4 34 "LateExcuses$Panes" "used" "I", Cond.methodLink RX4 27 yX5_copyFrom, Cond.methodLink RX4 31 yX7_copyFrom, Cond.instanceMethod yX7_copyFrom, Cond.selects RX7 yX7_copyFrom yX7_copyFrom, Cond.code yX7_copyFrom cX7_copyFrom 2 none, Cond.fieldLink RX7 24 "LateExcuses$Words" "kept" "I", Cond.fieldLink RX7 28 "LateExcuses$Words" "told" "I", Cond.fieldLink RX7 31 "LateExcuses$Words" "takenBack" "I", Cond.methodLink RX7 20 yX5_copyFrom, Cond.methodLink RX1 55 yX0_copyFrom, Cond.instanceMethod yX0_copyFrom]
def wsX8_move_r6 : List Cond := [Cond.selects RX0 yX0_copyFrom yX0_copyFrom, Cond.code yX0_copyFrom cX0_copyFrom 2 none, Cond.methodLink RX0 20 yX5_copyFrom, Cond.methodLink RX8 59 yX1_moveBack, Cond.instanceMethod yX1_moveBack, Cond.selects RX1 yX1_moveBack yX1_moveBack, Cond.code yX1_moveBack cX1_moveBack 6 (some .int), Cond.methodLink RX1 109 Lib.Math.max.name, Cond.methodLink RX1 85 yX1_paneAt, Cond.instanceMethod yX1_paneAt, Cond.selects RX1 yX1_paneAt yX1_paneAt, Cond.code yX1_paneAt cX1_paneAt 2 (some .int), Cond.methodLink RX1 88 yX1_stateOf, Cond.instanceMethod yX1_stateOf, Cond.selects RX1 yX1_stateOf yX1_stateOf, Cond.code yX1_stateOf cX1_stateOf 3 (some .int), Cond.methodLink RX1 79 yX4_read, Cond.instanceMethod yX4_read, Cond.selects RX4 yX4_read yX4_read, Cond.code yX4_read cX4_read 3 (some .int), Cond.methodLink RX4 42 yX4_rowOf, Cond.instanceMethod yX4_rowOf, Cond.selects RX4 yX4_rowOf yX4_rowOf, Cond.code yX4_rowOf cX4_rowOf 3 (some .int)]
def wsX8_move_r7 : List Cond := [Cond.methodLink RX4 38 yX5_get, Cond.instanceMethod yX5_get, Cond.selects RX5 yX5_get yX5_get, Cond.code yX5_get cX5_get 4 (some .int), Cond.methodLink RX1 82 yX1_endOf, Cond.instanceMethod yX1_endOf, Cond.selects RX1 yX1_endOf yX1_endOf, Cond.code yX1_endOf cX1_endOf 2 (some .int), Cond.methodLink RX1 148 yX4_takeBackWord, Cond.instanceMethod yX4_takeBackWord, Cond.selects RX4 yX4_takeBackWord yX4_takeBackWord, Cond.code yX4_takeBackWord cX4_takeBackWord 2 none, Cond.methodLink RX4 65 yX4_takeBack, Cond.instanceMethod yX4_takeBack, Cond.selects RX4 yX4_takeBack yX4_takeBack, Cond.code yX4_takeBack cX4_takeBack 3 none, Cond.methodLink RX4 58 yX4_isStanding, Cond.instanceMethod yX4_isStanding, Cond.selects RX4 yX4_isStanding yX4_isStanding, Cond.code yX4_isStanding cX4_isStanding 2 (some .boolean), Cond.methodLink RX4 53 yX5_put, Cond.instanceMethod yX5_put, Cond.selects RX5 yX5_put yX5_put, Cond.code yX5_put cX5_put 5 none]
def wsX8_move_r8 : List Cond := [Cond.methodLink RX4 75 yX7_add, Cond.instanceMethod yX7_add, Cond.selects RX7 yX7_add yX7_add, Cond.code yX7_add cX7_add 5 none, Cond.methodLink RX7 39 yX5_dropFirstRow, Cond.instanceMethod yX5_dropFirstRow, Cond.selects RX5 yX5_dropFirstRow yX5_dropFirstRow, Cond.code yX5_dropFirstRow cX5_dropFirstRow 1 none, Cond.methodLink RX7 42 yX5_put]
def wsX8_move : List Cond := .code yX8_move cX8_move 2 (some .int) :: ((wsX8_move_r1 ++ (wsX8_move_r2 ++ (wsX8_move_r3 ++ (wsX8_move_r4 ++ (wsX8_move_r5 ++ (wsX8_move_r6 ++ (wsX8_move_r7 ++ wsX8_move_r8))))))) ++ wsX80 ++ wsX10 ++ wsX30 ++ wsX20 ++ wsX40 ++ wsX00 ++ wsX50 ++ wsX70)
def wsX8_paneOf_r1 : List Cond := [Cond.fieldLink RX8 10 "LateExcuses" "court" "LLateExcuses$Court;", Cond.constant RX8 34 (-1000001), Cond.constant RX8 72 (-1000004), Cond.methodLink RX8 63 yX1_hasTimes, Cond.instanceMethod yX1_hasTimes, Cond.selects RX1 yX1_hasTimes yX1_hasTimes, Cond.initialized RX1, Cond.code yX1_hasTimes cX1_hasTimes 2 (some .boolean), Cond.fieldLink RX1 32 "LateExcuses$Court" "size" "I", Cond.static yX8_isWithin, Cond.initialized RX8, Cond.code yX8_isWithin cX8_isWithin 3 (some .boolean), Cond.methodLink RX8 30 yX8_isWithin, Cond.methodLink RX8 67 yX1_stateOf, Cond.instanceMethod yX1_stateOf, Cond.selects RX1 yX1_stateOf yX1_stateOf, Cond.code yX1_stateOf cX1_stateOf 3 (some .int), Cond.fieldLink RX1 21 "LateExcuses$Court" "panes" "LLateExcuses$Panes;", Cond.fieldLink RX1 42 "LateExcuses$Court" "watermark" "I", Cond.methodLink RX1 79 yX4_read, Cond.instanceMethod yX4_read, Cond.selects RX4 yX4_read yX4_read, Cond.initialized RX4, Cond.code yX4_read cX4_read 3 (some .int)]
def wsX8_paneOf_r2 : List Cond := [Cond.fieldLink RX4 16 "LateExcuses$Panes" "rows" "LLateExcuses$Table;", Cond.methodLink RX4 42 yX4_rowOf, Cond.instanceMethod yX4_rowOf, Cond.selects RX4 yX4_rowOf yX4_rowOf, Cond.code yX4_rowOf cX4_rowOf 3 (some .int), Cond.fieldLink RX4 34 "LateExcuses$Panes" "used" "I", Cond.methodLink RX4 38 yX5_get, Cond.instanceMethod yX5_get, Cond.selects RX5 yX5_get yX5_get, Cond.initialized RX5, Cond.code yX5_get cX5_get 4 (some .int), Cond.fieldLink RX5 13 "LateExcuses$Table" "rows" "I", Cond.fieldLink RX5 19 "LateExcuses$Table" "columns" "I", Cond.fieldLink RX5 22 "LateExcuses$Table" "cells" "[I", Cond.methodLink RX1 82 yX1_endOf, Cond.instanceMethod yX1_endOf, Cond.selects RX1 yX1_endOf yX1_endOf, Cond.code yX1_endOf cX1_endOf 2 (some .int), Cond.methodLink RX8 73 yX1_panes, Cond.instanceMethod yX1_panes, Cond.selects RX1 yX1_panes yX1_panes, Cond.code yX1_panes cX1_panes 1 (some (.object "LateExcuses$Panes")), Cond.methodLink RX8 77 yX4_read]
def wsX8_paneOf : List Cond := .code yX8_paneOf cX8_paneOf 3 (some .int) :: ((wsX8_paneOf_r1 ++ wsX8_paneOf_r2) ++ wsX80 ++ wsX10 ++ wsX40 ++ wsX50)
def wsX8_bitsOf : List Cond := .code yX8_bitsOf cX8_bitsOf 4 (some .int) :: ([.constantFloat RX8 191 (1258291200), .constant RX8 192 (8388608), .constant RX8 193 (-2147483648)])
def wsX8_mean_r1 : List Cond := [Cond.fieldLink RX8 10 "LateExcuses" "court" "LLateExcuses$Court;", Cond.constant RX8 34 (-1000001), Cond.constant RX8 72 (-1000004), Cond.methodLink RX8 63 yX1_hasTimes, Cond.instanceMethod yX1_hasTimes, Cond.selects RX1 yX1_hasTimes yX1_hasTimes, Cond.initialized RX1, Cond.code yX1_hasTimes cX1_hasTimes 2 (some .boolean), Cond.fieldLink RX1 32 "LateExcuses$Court" "size" "I", Cond.static yX8_isWithin, Cond.initialized RX8, Cond.code yX8_isWithin cX8_isWithin 3 (some .boolean), Cond.methodLink RX8 73 yX1_panes, Cond.instanceMethod yX1_panes, Cond.selects RX1 yX1_panes yX1_panes, Cond.code yX1_panes cX1_panes 1 (some (.object "LateExcuses$Panes")), Cond.fieldLink RX1 21 "LateExcuses$Court" "panes" "LLateExcuses$Panes;", Cond.methodLink RX8 77 yX4_read, Cond.instanceMethod yX4_read, Cond.selects RX4 yX4_read yX4_read, Cond.initialized RX4, Cond.code yX4_read cX4_read 3 (some .int), Cond.fieldLink RX4 16 "LateExcuses$Panes" "rows" "LLateExcuses$Table;", Cond.methodLink RX4 42 yX4_rowOf]
def wsX8_mean_r2 : List Cond := [Cond.instanceMethod yX4_rowOf, Cond.selects RX4 yX4_rowOf yX4_rowOf, Cond.code yX4_rowOf cX4_rowOf 3 (some .int), Cond.fieldLink RX4 34 "LateExcuses$Panes" "used" "I", Cond.methodLink RX4 38 yX5_get, Cond.instanceMethod yX5_get, Cond.selects RX5 yX5_get yX5_get, Cond.initialized RX5, Cond.code yX5_get cX5_get 4 (some .int), Cond.fieldLink RX5 13 "LateExcuses$Table" "rows" "I", Cond.fieldLink RX5 19 "LateExcuses$Table" "columns" "I", Cond.fieldLink RX5 22 "LateExcuses$Table" "cells" "[I", Cond.methodLink RX8 80 yX8_bitsOf, Cond.static yX8_bitsOf, Cond.code yX8_bitsOf cX8_bitsOf 4 (some .int), Cond.constantFloat RX8 191 (1258291200), Cond.constant RX8 192 (8388608), Cond.constant RX8 193 (-2147483648)]
def wsX8_mean : List Cond := .code yX8_mean cX8_mean 3 (some .int) :: ((wsX8_mean_r1 ++ wsX8_mean_r2) ++ wsX80 ++ wsX10 ++ wsX40 ++ wsX50)
def wsX8_standing_r1 : List Cond := [Cond.fieldLink RX8 10 "LateExcuses" "court" "LLateExcuses$Court;", Cond.constant RX8 34 (-1000001), Cond.constant RX8 72 (-1000004), Cond.methodLink RX8 63 yX1_hasTimes, Cond.instanceMethod yX1_hasTimes, Cond.selects RX1 yX1_hasTimes yX1_hasTimes, Cond.initialized RX1, Cond.code yX1_hasTimes cX1_hasTimes 2 (some .boolean), Cond.fieldLink RX1 32 "LateExcuses$Court" "size" "I", Cond.static yX8_isWithin, Cond.initialized RX8, Cond.code yX8_isWithin cX8_isWithin 3 (some .boolean), Cond.methodLink RX8 30 yX8_isWithin, Cond.methodLink RX8 73 yX1_panes, Cond.instanceMethod yX1_panes, Cond.selects RX1 yX1_panes yX1_panes, Cond.code yX1_panes cX1_panes 1 (some (.object "LateExcuses$Panes")), Cond.fieldLink RX1 21 "LateExcuses$Court" "panes" "LLateExcuses$Panes;", Cond.methodLink RX8 84 yX4_hasWord, Cond.instanceMethod yX4_hasWord, Cond.selects RX4 yX4_hasWord yX4_hasWord, Cond.initialized RX4, Cond.code yX4_hasWord cX4_hasWord 2 (some .boolean), Cond.methodLink RX4 42 yX4_rowOf]
def wsX8_standing_r2 : List Cond := [Cond.instanceMethod yX4_rowOf, Cond.selects RX4 yX4_rowOf yX4_rowOf, Cond.code yX4_rowOf cX4_rowOf 3 (some .int), Cond.fieldLink RX4 34 "LateExcuses$Panes" "used" "I", Cond.fieldLink RX4 16 "LateExcuses$Panes" "rows" "LLateExcuses$Table;", Cond.methodLink RX4 38 yX5_get, Cond.instanceMethod yX5_get, Cond.selects RX5 yX5_get yX5_get, Cond.initialized RX5, Cond.code yX5_get cX5_get 4 (some .int), Cond.fieldLink RX5 13 "LateExcuses$Table" "rows" "I", Cond.fieldLink RX5 19 "LateExcuses$Table" "columns" "I", Cond.fieldLink RX5 22 "LateExcuses$Table" "cells" "[I", Cond.methodLink RX4 58 yX4_isStanding, Cond.instanceMethod yX4_isStanding, Cond.selects RX4 yX4_isStanding yX4_isStanding, Cond.code yX4_isStanding cX4_isStanding 2 (some .boolean), Cond.methodLink RX8 77 yX4_read, Cond.instanceMethod yX4_read, Cond.selects RX4 yX4_read yX4_read, Cond.code yX4_read cX4_read 3 (some .int)]
def wsX8_standing : List Cond := .code yX8_standing cX8_standing 3 (some .int) :: ((wsX8_standing_r1 ++ wsX8_standing_r2) ++ wsX80 ++ wsX10 ++ wsX40 ++ wsX50)
def wsX8_nextPane_r1 : List Cond := [Cond.constant RX8 34 (-1000001), Cond.fieldLink RX8 10 "LateExcuses" "court" "LLateExcuses$Court;", Cond.methodLink RX8 30 yX8_isWithin, Cond.static yX8_isWithin, Cond.initialized RX8, Cond.code yX8_isWithin cX8_isWithin 3 (some .boolean), Cond.methodLink RX8 73 yX1_panes, Cond.instanceMethod yX1_panes, Cond.selects RX1 yX1_panes yX1_panes, Cond.initialized RX1, Cond.code yX1_panes cX1_panes 1 (some (.object "LateExcuses$Panes")), Cond.fieldLink RX1 21 "LateExcuses$Court" "panes" "LLateExcuses$Panes;", Cond.methodLink RX8 87 yX4_behind, Cond.instanceMethod yX4_behind, Cond.selects RX4 yX4_behind yX4_behind, Cond.initialized RX4, Cond.code yX4_behind cX4_behind 3 (some .int), Cond.fieldLink RX4 34 "LateExcuses$Panes" "used" "I", Cond.fieldLink RX4 16 "LateExcuses$Panes" "rows" "LLateExcuses$Table;", Cond.constant RX4 57 (-1000004), Cond.methodLink RX4 46 yX4_rowBehind, Cond.instanceMethod yX4_rowBehind, Cond.selects RX4 yX4_rowBehind yX4_rowBehind, Cond.code yX4_rowBehind cX4_rowBehind 3 (some .int)]
def wsX8_nextPane_r2 : List Cond := [Cond.methodLink RX4 38 yX5_get, Cond.instanceMethod yX5_get, Cond.selects RX5 yX5_get yX5_get, Cond.initialized RX5, Cond.code yX5_get cX5_get 4 (some .int), Cond.fieldLink RX5 13 "LateExcuses$Table" "rows" "I", Cond.fieldLink RX5 19 "LateExcuses$Table" "columns" "I", Cond.fieldLink RX5 22 "LateExcuses$Table" "cells" "[I"]
def wsX8_nextPane : List Cond := .code yX8_nextPane cX8_nextPane 2 (some .int) :: ((wsX8_nextPane_r1 ++ wsX8_nextPane_r2) ++ wsX80 ++ wsX10 ++ wsX40 ++ wsX50)
def wsX8_wordAt_r1 : List Cond := [Cond.constant RX8 34 (-1000001), Cond.fieldLink RX8 10 "LateExcuses" "court" "LLateExcuses$Court;", Cond.methodLink RX8 30 yX8_isWithin, Cond.static yX8_isWithin, Cond.initialized RX8, Cond.code yX8_isWithin cX8_isWithin 3 (some .boolean), Cond.methodLink RX8 73 yX1_panes, Cond.instanceMethod yX1_panes, Cond.selects RX1 yX1_panes yX1_panes, Cond.initialized RX1, Cond.code yX1_panes cX1_panes 1 (some (.object "LateExcuses$Panes")), Cond.fieldLink RX1 21 "LateExcuses$Court" "panes" "LLateExcuses$Panes;", Cond.methodLink RX8 90 yX4_words, Cond.instanceMethod yX4_words, Cond.selects RX4 yX4_words yX4_words, Cond.initialized RX4, Cond.code yX4_words cX4_words 1 (some (.object "LateExcuses$Words")), Cond.fieldLink RX4 23 "LateExcuses$Panes" "words" "LLateExcuses$Words;", Cond.methodLink RX8 94 yX7_read, Cond.instanceMethod yX7_read, Cond.selects RX7 yX7_read yX7_read, Cond.initialized RX7, Cond.code yX7_read cX7_read 3 (some .int), Cond.fieldLink RX7 24 "LateExcuses$Words" "kept" "I"]
def wsX8_wordAt_r2 : List Cond := [Cond.fieldLink RX7 16 "LateExcuses$Words" "rows" "LLateExcuses$Table;", Cond.constant RX7 38 (-1000004), Cond.methodLink RX7 34 yX5_get, Cond.instanceMethod yX5_get, Cond.selects RX5 yX5_get yX5_get, Cond.initialized RX5, Cond.code yX5_get cX5_get 4 (some .int), Cond.fieldLink RX5 13 "LateExcuses$Table" "rows" "I", Cond.fieldLink RX5 19 "LateExcuses$Table" "columns" "I", Cond.fieldLink RX5 22 "LateExcuses$Table" "cells" "[I"]
def wsX8_wordAt : List Cond := .code yX8_wordAt cX8_wordAt 3 (some .int) :: ((wsX8_wordAt_r1 ++ wsX8_wordAt_r2) ++ wsX80 ++ wsX10 ++ wsX40 ++ wsX70 ++ wsX50)
def wsX8_eventOf_r1 : List Cond := [Cond.constant RX8 34 (-1000001), Cond.fieldLink RX8 10 "LateExcuses" "court" "LLateExcuses$Court;", Cond.methodLink RX8 30 yX8_isWithin, Cond.static yX8_isWithin, Cond.initialized RX8, Cond.code yX8_isWithin cX8_isWithin 3 (some .boolean), Cond.methodLink RX8 97 yX1_events, Cond.instanceMethod yX1_events, Cond.selects RX1 yX1_events yX1_events, Cond.initialized RX1, Cond.code yX1_events cX1_events 1 (some (.object "LateExcuses$Events")), Cond.fieldLink RX1 12 "LateExcuses$Court" "events" "LLateExcuses$Events;", Cond.methodLink RX8 101 yX2_read, Cond.instanceMethod yX2_read, Cond.selects RX2 yX2_read yX2_read, Cond.initialized RX2, Cond.code yX2_read cX2_read 3 (some .int), Cond.fieldLink RX2 14 "LateExcuses$Events" "rows" "LLateExcuses$Table;", Cond.constant RX2 36 (-1000004), Cond.methodLink RX2 32 yX2_hasCome, Cond.instanceMethod yX2_hasCome, Cond.selects RX2 yX2_hasCome yX2_hasCome, Cond.code yX2_hasCome cX2_hasCome 2 (some .boolean), Cond.methodLink RX2 28 yX5_get]
def wsX8_eventOf_r2 : List Cond := [Cond.instanceMethod yX5_get, Cond.selects RX5 yX5_get yX5_get, Cond.initialized RX5, Cond.code yX5_get cX5_get 4 (some .int), Cond.fieldLink RX5 13 "LateExcuses$Table" "rows" "I", Cond.fieldLink RX5 19 "LateExcuses$Table" "columns" "I", Cond.fieldLink RX5 22 "LateExcuses$Table" "cells" "[I"]
def wsX8_eventOf : List Cond := .code yX8_eventOf cX8_eventOf 3 (some .int) :: ((wsX8_eventOf_r1 ++ wsX8_eventOf_r2) ++ wsX80 ++ wsX10 ++ wsX20 ++ wsX50)
def wsX8_judge_r1 : List Cond := [Cond.fieldLink RX8 10 "LateExcuses" "court" "LLateExcuses$Court;", Cond.constant RX8 34 (-1000001), Cond.methodLink RX8 30 yX8_isWithin, Cond.static yX8_isWithin, Cond.initialized RX8, Cond.code yX8_isWithin cX8_isWithin 3 (some .boolean), Cond.methodLink RX8 104 yX1_verdict, Cond.instanceMethod yX1_verdict, Cond.selects RX1 yX1_verdict yX1_verdict, Cond.initialized RX1, Cond.code yX1_verdict cX1_verdict 6 (some .int), Cond.fieldLink RX1 28 "LateExcuses$Court" "cabinets" "LLateExcuses$Cabinets;", Cond.methodLink RX1 85 yX1_paneAt, Cond.instanceMethod yX1_paneAt, Cond.selects RX1 yX1_paneAt yX1_paneAt, Cond.code yX1_paneAt cX1_paneAt 2 (some .int), Cond.fieldLink RX1 32 "LateExcuses$Court" "size" "I", Cond.methodLink RX1 88 yX1_stateOf, Cond.instanceMethod yX1_stateOf, Cond.selects RX1 yX1_stateOf yX1_stateOf, Cond.code yX1_stateOf cX1_stateOf 3 (some .int), Cond.fieldLink RX1 21 "LateExcuses$Court" "panes" "LLateExcuses$Panes;", Cond.fieldLink RX1 42 "LateExcuses$Court" "watermark" "I", Cond.methodLink RX1 79 yX4_read]
def wsX8_judge_r2 : List Cond := [Cond.instanceMethod yX4_read, Cond.selects RX4 yX4_read yX4_read, Cond.initialized RX4, Cond.code yX4_read cX4_read 3 (some .int), Cond.fieldLink RX4 16 "LateExcuses$Panes" "rows" "LLateExcuses$Table;", Cond.methodLink RX4 42 yX4_rowOf, Cond.instanceMethod yX4_rowOf, Cond.selects RX4 yX4_rowOf yX4_rowOf, Cond.code yX4_rowOf cX4_rowOf 3 (some .int), Cond.fieldLink RX4 34 "LateExcuses$Panes" "used" "I", Cond.methodLink RX4 38 yX5_get, Cond.instanceMethod yX5_get, Cond.selects RX5 yX5_get yX5_get, Cond.initialized RX5, Cond.code yX5_get cX5_get 4 (some .int), Cond.fieldLink RX5 13 "LateExcuses$Table" "rows" "I", Cond.fieldLink RX5 19 "LateExcuses$Table" "columns" "I", Cond.fieldLink RX5 22 "LateExcuses$Table" "cells" "[I", Cond.methodLink RX1 82 yX1_endOf, Cond.instanceMethod yX1_endOf, Cond.selects RX1 yX1_endOf yX1_endOf, Cond.code yX1_endOf cX1_endOf 2 (some .int), Cond.methodLink RX1 91 yX1_isAcceptable, Cond.instanceMethod yX1_isAcceptable]
def wsX8_judge_r3 : List Cond := [Cond.selects RX1 yX1_isAcceptable yX1_isAcceptable, Cond.code yX1_isAcceptable cX1_isAcceptable 5 (some .boolean), Cond.fieldLink RX1 12 "LateExcuses$Court" "events" "LLateExcuses$Events;", Cond.methodLink RX1 98 yX1_lateBy, Cond.instanceMethod yX1_lateBy, Cond.selects RX1 yX1_lateBy yX1_lateBy, Cond.code yX1_lateBy cX1_lateBy 2 (some .int), Cond.methodLink RX1 101 yX2_hadIllness, Cond.instanceMethod yX2_hadIllness, Cond.selects RX2 yX2_hadIllness yX2_hadIllness, Cond.initialized RX2, Cond.code yX2_hadIllness cX2_hadIllness 3 (some .boolean), Cond.fieldLink RX2 14 "LateExcuses$Events" "rows" "LLateExcuses$Table;", Cond.methodLink RX2 28 yX5_get, Cond.methodLink RX2 41 yX2_hasOutcome, Cond.instanceMethod yX2_hasOutcome, Cond.selects RX2 yX2_hasOutcome yX2_hasOutcome, Cond.code yX2_hasOutcome cX2_hasOutcome 5 (some .boolean), Cond.methodLink RX1 94 yX0_hasPlaceFor, Cond.instanceMethod yX0_hasPlaceFor, Cond.selects RX0 yX0_hasPlaceFor yX0_hasPlaceFor, Cond.initialized RX0, Cond.code yX0_hasPlaceFor cX0_hasPlaceFor 2 (some .boolean), Cond.methodLink RX0 29 yX0_cabinetFor]
def wsX8_judge_r4 : List Cond := [Cond.instanceMethod yX0_cabinetFor, Cond.selects RX0 yX0_cabinetFor yX0_cabinetFor, Cond.code yX0_cabinetFor cX0_cabinetFor 2 (some .int), Cond.methodLink RX0 33 yX0_isFull, Cond.instanceMethod yX0_isFull, Cond.selects RX0 yX0_isFull yX0_isFull, Cond.code yX0_isFull cX0_isFull 2 (some .boolean), Cond.fieldLink RX0 16 "LateExcuses$Cabinets" "rows" "LLateExcuses$Table;", Cond.methodLink RX0 24 yX5_get]
def wsX8_judge : List Cond := .code yX8_judge cX8_judge 5 (some .int) :: ((wsX8_judge_r1 ++ (wsX8_judge_r2 ++ (wsX8_judge_r3 ++ wsX8_judge_r4))) ++ wsX80 ++ wsX10 ++ wsX40 ++ wsX50 ++ wsX20 ++ wsX00)
def wsX8_lateness_r1 : List Cond := [Cond.constant RX8 34 (-1000001), Cond.fieldLink RX8 10 "LateExcuses" "court" "LLateExcuses$Court;", Cond.constant RX8 72 (-1000004), Cond.methodLink RX8 30 yX8_isWithin, Cond.static yX8_isWithin, Cond.initialized RX8, Cond.code yX8_isWithin cX8_isWithin 3 (some .boolean), Cond.methodLink RX8 108 yX1_paneAt, Cond.instanceMethod yX1_paneAt, Cond.selects RX1 yX1_paneAt yX1_paneAt, Cond.initialized RX1, Cond.code yX1_paneAt cX1_paneAt 2 (some .int), Cond.fieldLink RX1 32 "LateExcuses$Court" "size" "I", Cond.methodLink RX8 67 yX1_stateOf, Cond.instanceMethod yX1_stateOf, Cond.selects RX1 yX1_stateOf yX1_stateOf, Cond.code yX1_stateOf cX1_stateOf 3 (some .int), Cond.fieldLink RX1 21 "LateExcuses$Court" "panes" "LLateExcuses$Panes;", Cond.fieldLink RX1 42 "LateExcuses$Court" "watermark" "I", Cond.methodLink RX1 79 yX4_read, Cond.instanceMethod yX4_read, Cond.selects RX4 yX4_read yX4_read, Cond.initialized RX4, Cond.code yX4_read cX4_read 3 (some .int)]
def wsX8_lateness_r2 : List Cond := [Cond.fieldLink RX4 16 "LateExcuses$Panes" "rows" "LLateExcuses$Table;", Cond.methodLink RX4 42 yX4_rowOf, Cond.instanceMethod yX4_rowOf, Cond.selects RX4 yX4_rowOf yX4_rowOf, Cond.code yX4_rowOf cX4_rowOf 3 (some .int), Cond.fieldLink RX4 34 "LateExcuses$Panes" "used" "I", Cond.methodLink RX4 38 yX5_get, Cond.instanceMethod yX5_get, Cond.selects RX5 yX5_get yX5_get, Cond.initialized RX5, Cond.code yX5_get cX5_get 4 (some .int), Cond.fieldLink RX5 13 "LateExcuses$Table" "rows" "I", Cond.fieldLink RX5 19 "LateExcuses$Table" "columns" "I", Cond.fieldLink RX5 22 "LateExcuses$Table" "cells" "[I", Cond.methodLink RX1 82 yX1_endOf, Cond.instanceMethod yX1_endOf, Cond.selects RX1 yX1_endOf yX1_endOf, Cond.code yX1_endOf cX1_endOf 2 (some .int), Cond.methodLink RX8 111 yX1_lateBy, Cond.instanceMethod yX1_lateBy, Cond.selects RX1 yX1_lateBy yX1_lateBy, Cond.code yX1_lateBy cX1_lateBy 2 (some .int)]
def wsX8_lateness : List Cond := .code yX8_lateness cX8_lateness 3 (some .int) :: ((wsX8_lateness_r1 ++ wsX8_lateness_r2) ++ wsX80 ++ wsX10 ++ wsX40 ++ wsX50)
def wsX8_latestExcused_r1 : List Cond := [Cond.constant RX8 34 (-1000001), Cond.fieldLink RX8 10 "LateExcuses" "court" "LLateExcuses$Court;", Cond.methodLink RX8 30 yX8_isWithin, Cond.static yX8_isWithin, Cond.initialized RX8, Cond.code yX8_isWithin cX8_isWithin 3 (some .boolean), Cond.methodLink RX8 114 yX1_latestAcceptable, Cond.instanceMethod yX1_latestAcceptable, Cond.selects RX1 yX1_latestAcceptable yX1_latestAcceptable, Cond.initialized RX1, Cond.code yX1_latestAcceptable cX1_latestAcceptable 5 (some .int), Cond.fieldLink RX1 42 "LateExcuses$Court" "watermark" "I", Cond.constant RX1 108 (-1000004), Cond.methodLink RX1 85 yX1_paneAt, Cond.instanceMethod yX1_paneAt, Cond.selects RX1 yX1_paneAt yX1_paneAt, Cond.code yX1_paneAt cX1_paneAt 2 (some .int), Cond.fieldLink RX1 32 "LateExcuses$Court" "size" "I", Cond.methodLink RX1 88 yX1_stateOf, Cond.instanceMethod yX1_stateOf, Cond.selects RX1 yX1_stateOf yX1_stateOf, Cond.code yX1_stateOf cX1_stateOf 3 (some .int), Cond.fieldLink RX1 21 "LateExcuses$Court" "panes" "LLateExcuses$Panes;", Cond.methodLink RX1 79 yX4_read]
def wsX8_latestExcused_r2 : List Cond := [Cond.instanceMethod yX4_read, Cond.selects RX4 yX4_read yX4_read, Cond.initialized RX4, Cond.code yX4_read cX4_read 3 (some .int), Cond.fieldLink RX4 16 "LateExcuses$Panes" "rows" "LLateExcuses$Table;", Cond.methodLink RX4 42 yX4_rowOf, Cond.instanceMethod yX4_rowOf, Cond.selects RX4 yX4_rowOf yX4_rowOf, Cond.code yX4_rowOf cX4_rowOf 3 (some .int), Cond.fieldLink RX4 34 "LateExcuses$Panes" "used" "I", Cond.methodLink RX4 38 yX5_get, Cond.instanceMethod yX5_get, Cond.selects RX5 yX5_get yX5_get, Cond.initialized RX5, Cond.code yX5_get cX5_get 4 (some .int), Cond.fieldLink RX5 13 "LateExcuses$Table" "rows" "I", Cond.fieldLink RX5 19 "LateExcuses$Table" "columns" "I", Cond.fieldLink RX5 22 "LateExcuses$Table" "cells" "[I", Cond.methodLink RX1 82 yX1_endOf, Cond.instanceMethod yX1_endOf, Cond.selects RX1 yX1_endOf yX1_endOf, Cond.code yX1_endOf cX1_endOf 2 (some .int), Cond.methodLink RX1 104 yX1_latestIn, Cond.instanceMethod yX1_latestIn]
def wsX8_latestExcused_r3 : List Cond := [Cond.selects RX1 yX1_latestIn yX1_latestIn, Cond.code yX1_latestIn cX1_latestIn 6 (some .int), Cond.methodLink RX1 109 Lib.Math.max.name, Cond.static Lib.Math.max.name, Cond.initialized "java/lang/Math", Cond.code Lib.Math.max.name Lib.Math.max.code 2 (some .int), Cond.methodLink RX1 91 yX1_isAcceptable, Cond.instanceMethod yX1_isAcceptable, Cond.selects RX1 yX1_isAcceptable yX1_isAcceptable, Cond.code yX1_isAcceptable cX1_isAcceptable 5 (some .boolean), Cond.fieldLink RX1 12 "LateExcuses$Court" "events" "LLateExcuses$Events;", Cond.methodLink RX1 98 yX1_lateBy, Cond.instanceMethod yX1_lateBy, Cond.selects RX1 yX1_lateBy yX1_lateBy, Cond.code yX1_lateBy cX1_lateBy 2 (some .int), Cond.methodLink RX1 101 yX2_hadIllness, Cond.instanceMethod yX2_hadIllness, Cond.selects RX2 yX2_hadIllness yX2_hadIllness, Cond.initialized RX2, Cond.code yX2_hadIllness cX2_hadIllness 3 (some .boolean), Cond.fieldLink RX2 14 "LateExcuses$Events" "rows" "LLateExcuses$Table;", Cond.methodLink RX2 28 yX5_get, Cond.methodLink RX2 41 yX2_hasOutcome, Cond.instanceMethod yX2_hasOutcome]
def wsX8_latestExcused_r4 : List Cond := [Cond.selects RX2 yX2_hasOutcome yX2_hasOutcome, Cond.code yX2_hasOutcome cX2_hasOutcome 5 (some .boolean)]
def wsX8_latestExcused : List Cond := .code yX8_latestExcused cX8_latestExcused 3 (some .int) :: ((wsX8_latestExcused_r1 ++ (wsX8_latestExcused_r2 ++ (wsX8_latestExcused_r3 ++ wsX8_latestExcused_r4))) ++ wsX80 ++ wsX10 ++ wsX40 ++ wsX50 ++ wsX20)
def wsX8_filed_r1 : List Cond := [Cond.constant RX8 34 (-1000001), Cond.fieldLink RX8 10 "LateExcuses" "court" "LLateExcuses$Court;", Cond.methodLink RX8 30 yX8_isWithin, Cond.static yX8_isWithin, Cond.initialized RX8, Cond.code yX8_isWithin cX8_isWithin 3 (some .boolean), Cond.methodLink RX8 119 yX1_cabinets, Cond.instanceMethod yX1_cabinets, Cond.selects RX1 yX1_cabinets yX1_cabinets, Cond.initialized RX1, Cond.code yX1_cabinets cX1_cabinets 1 (some (.object "LateExcuses$Cabinets")), Cond.fieldLink RX1 28 "LateExcuses$Court" "cabinets" "LLateExcuses$Cabinets;", Cond.methodLink RX8 123 yX0_read, Cond.instanceMethod yX0_read, Cond.selects RX0 yX0_read yX0_read, Cond.initialized RX0, Cond.code yX0_read cX0_read 3 (some .int), Cond.fieldLink RX0 16 "LateExcuses$Cabinets" "rows" "LLateExcuses$Table;", Cond.constant RX0 28 (-1000004), Cond.methodLink RX0 24 yX5_get, Cond.instanceMethod yX5_get, Cond.selects RX5 yX5_get yX5_get, Cond.initialized RX5, Cond.code yX5_get cX5_get 4 (some .int)]
def wsX8_filed_r2 : List Cond := [Cond.fieldLink RX5 13 "LateExcuses$Table" "rows" "I", Cond.fieldLink RX5 19 "LateExcuses$Table" "columns" "I", Cond.fieldLink RX5 22 "LateExcuses$Table" "cells" "[I"]
def wsX8_filed : List Cond := .code yX8_filed cX8_filed 3 (some .int) :: ((wsX8_filed_r1 ++ wsX8_filed_r2) ++ wsX80 ++ wsX10 ++ wsX00 ++ wsX50)
def wsX8_trust_r1 : List Cond := [Cond.constant RX8 34 (-1000001), Cond.fieldLink RX8 10 "LateExcuses" "court" "LLateExcuses$Court;", Cond.constant RX8 72 (-1000004), Cond.methodLink RX8 30 yX8_isWithin, Cond.static yX8_isWithin, Cond.initialized RX8, Cond.code yX8_isWithin cX8_isWithin 3 (some .boolean), Cond.methodLink RX8 97 yX1_events, Cond.instanceMethod yX1_events, Cond.selects RX1 yX1_events yX1_events, Cond.initialized RX1, Cond.code yX1_events cX1_events 1 (some (.object "LateExcuses$Events")), Cond.fieldLink RX1 12 "LateExcuses$Court" "events" "LLateExcuses$Events;", Cond.methodLink RX8 124 yX2_ofKey, Cond.instanceMethod yX2_ofKey, Cond.selects RX2 yX2_ofKey yX2_ofKey, Cond.initialized RX2, Cond.code yX2_ofKey cX2_ofKey 6 (some .int), Cond.fieldLink RX2 14 "LateExcuses$Events" "rows" "LLateExcuses$Table;", Cond.methodLink RX2 28 yX5_get, Cond.instanceMethod yX5_get, Cond.selects RX5 yX5_get yX5_get, Cond.initialized RX5, Cond.code yX5_get cX5_get 4 (some .int)]
def wsX8_trust_r2 : List Cond := [Cond.fieldLink RX5 13 "LateExcuses$Table" "rows" "I", Cond.fieldLink RX5 19 "LateExcuses$Table" "columns" "I", Cond.fieldLink RX5 22 "LateExcuses$Table" "cells" "[I", Cond.methodLink RX2 41 yX2_hasOutcome, Cond.instanceMethod yX2_hasOutcome, Cond.selects RX2 yX2_hasOutcome yX2_hasOutcome, Cond.code yX2_hasOutcome cX2_hasOutcome 5 (some .boolean), Cond.methodLink RX8 80 yX8_bitsOf, Cond.static yX8_bitsOf, Cond.code yX8_bitsOf cX8_bitsOf 4 (some .int), Cond.constantFloat RX8 191 (1258291200), Cond.constant RX8 192 (8388608), Cond.constant RX8 193 (-2147483648)]
def wsX8_trust : List Cond := .code yX8_trust cX8_trust 6 (some .int) :: ((wsX8_trust_r1 ++ wsX8_trust_r2) ++ wsX80 ++ wsX10 ++ wsX20 ++ wsX50)
def wsX8_count_r1 : List Cond := [Cond.fieldLink RX8 10 "LateExcuses" "court" "LLateExcuses$Court;", Cond.fieldLink RX8 19 "LateExcuses" "history" "LLateExcuses$History;", Cond.fieldLink RX8 26 "LateExcuses" "text" "LLateExcuses$Text;", Cond.methodLink RX8 30 yX8_isWithin, Cond.static yX8_isWithin, Cond.initialized RX8, Cond.code yX8_isWithin cX8_isWithin 3 (some .boolean), Cond.methodLink RX8 127 yX1_setting, Cond.instanceMethod yX1_setting, Cond.selects RX1 yX1_setting yX1_setting, Cond.initialized RX1, Cond.code yX1_setting cX1_setting 2 (some .int), Cond.fieldLink RX1 32 "LateExcuses$Court" "size" "I", Cond.fieldLink RX1 36 "LateExcuses$Court" "lag" "I", Cond.fieldLink RX1 39 "LateExcuses$Court" "grace" "I", Cond.methodLink RX8 73 yX1_panes, Cond.instanceMethod yX1_panes, Cond.selects RX1 yX1_panes yX1_panes, Cond.code yX1_panes cX1_panes 1 (some (.object "LateExcuses$Panes")), Cond.fieldLink RX1 21 "LateExcuses$Court" "panes" "LLateExcuses$Panes;", Cond.methodLink RX8 90 yX4_words, Cond.instanceMethod yX4_words, Cond.selects RX4 yX4_words yX4_words, Cond.initialized RX4]
def wsX8_count_r2 : List Cond := [Cond.code yX4_words cX4_words 1 (some (.object "LateExcuses$Words")), Cond.fieldLink RX4 23 "LateExcuses$Panes" "words" "LLateExcuses$Words;", Cond.methodLink RX8 130 yX7_kept, Cond.instanceMethod yX7_kept, Cond.selects RX7 yX7_kept yX7_kept, Cond.initialized RX7, Cond.code yX7_kept cX7_kept 1 (some .int), Cond.fieldLink RX7 24 "LateExcuses$Words" "kept" "I", Cond.methodLink RX8 134 yX7_told, Cond.instanceMethod yX7_told, Cond.selects RX7 yX7_told yX7_told, Cond.code yX7_told cX7_told 1 (some .int), Cond.fieldLink RX7 28 "LateExcuses$Words" "told" "I", Cond.methodLink RX8 137 yX7_takenBack, Cond.instanceMethod yX7_takenBack, Cond.selects RX7 yX7_takenBack yX7_takenBack, Cond.code yX7_takenBack cX7_takenBack 1 (some .int), Cond.fieldLink RX7 31 "LateExcuses$Words" "takenBack" "I", Cond.methodLink RX8 140 yX4_closedCases, Cond.instanceMethod yX4_closedCases, Cond.selects RX4 yX4_closedCases yX4_closedCases, Cond.code yX4_closedCases cX4_closedCases 3 (some .int), Cond.fieldLink RX4 34 "LateExcuses$Panes" "used" "I", Cond.fieldLink RX4 16 "LateExcuses$Panes" "rows" "LLateExcuses$Table;"]
def wsX8_count_r3 : List Cond := [Cond.methodLink RX4 38 yX5_get, Cond.instanceMethod yX5_get, Cond.selects RX5 yX5_get yX5_get, Cond.initialized RX5, Cond.code yX5_get cX5_get 4 (some .int), Cond.fieldLink RX5 13 "LateExcuses$Table" "rows" "I", Cond.fieldLink RX5 19 "LateExcuses$Table" "columns" "I", Cond.fieldLink RX5 22 "LateExcuses$Table" "cells" "[I", Cond.methodLink RX8 143 yX3_states, Cond.instanceMethod yX3_states, Cond.selects RX3 yX3_states yX3_states, Cond.initialized RX3, Cond.code yX3_states cX3_states 1 (some .int), Cond.fieldLink RX3 15 "LateExcuses$History" "states" "I", Cond.methodLink RX8 146 yX6_length, Cond.instanceMethod yX6_length, Cond.selects RX6 yX6_length yX6_length, Cond.initialized RX6, Cond.code yX6_length cX6_length 1 (some .int), Cond.fieldLink RX6 15 "LateExcuses$Text" "length" "I", Cond.methodLink RX8 149 yX1_number, Cond.instanceMethod yX1_number, Cond.selects RX1 yX1_number yX1_number, Cond.code yX1_number cX1_number 2 (some .int)]
def wsX8_count_r4 : List Cond := [Cond.fieldLink RX1 12 "LateExcuses$Court" "events" "LLateExcuses$Events;", Cond.fieldLink RX1 42 "LateExcuses$Court" "watermark" "I", Cond.fieldLink RX1 45 "LateExcuses$Court" "latest" "I", Cond.fieldLink RX1 58 "LateExcuses$Court" "moved" "Z", Cond.constant RX1 74 (-1000001), Cond.methodLink RX1 66 yX2_withOutcome, Cond.instanceMethod yX2_withOutcome, Cond.selects RX2 yX2_withOutcome yX2_withOutcome, Cond.initialized RX2, Cond.code yX2_withOutcome cX2_withOutcome 5 (some .int), Cond.methodLink RX2 41 yX2_hasOutcome, Cond.instanceMethod yX2_hasOutcome, Cond.selects RX2 yX2_hasOutcome yX2_hasOutcome, Cond.code yX2_hasOutcome cX2_hasOutcome 5 (some .boolean), Cond.fieldLink RX2 14 "LateExcuses$Events" "rows" "LLateExcuses$Table;", Cond.methodLink RX2 28 yX5_get, Cond.methodLink RX1 70 yX2_doubles, Cond.instanceMethod yX2_doubles, Cond.selects RX2 yX2_doubles yX2_doubles, Cond.code yX2_doubles cX2_doubles 1 (some .int), Cond.fieldLink RX2 24 "LateExcuses$Events" "doubles" "I"]
def wsX8_count : List Cond := .code yX8_count cX8_count 2 (some .int) :: ((wsX8_count_r1 ++ (wsX8_count_r2 ++ (wsX8_count_r3 ++ wsX8_count_r4))) ++ wsX80 ++ wsX10 ++ wsX40 ++ wsX70 ++ wsX50 ++ wsX30 ++ wsX60 ++ wsX20)
def wsX8_undo_r1 : List Cond := [Cond.fieldLink RX8 19 "LateExcuses" "history" "LLateExcuses$History;", Cond.constant RX8 39 (-1000002), Cond.fieldLink RX8 10 "LateExcuses" "court" "LLateExcuses$Court;", Cond.methodLink RX8 143 yX3_states, Cond.instanceMethod yX3_states, Cond.selects RX3 yX3_states yX3_states, Cond.initialized RX3, Cond.code yX3_states cX3_states 1 (some .int), Cond.fieldLink RX3 15 "LateExcuses$History" "states" "I", Cond.methodLink RX8 152 yX3_restore, Cond.instanceMethod yX3_restore, Cond.selects RX3 yX3_restore yX3_restore, Cond.code yX3_restore cX3_restore 4 none, Cond.fieldLink RX3 19 "LateExcuses$History" "oldest" "I", Cond.fieldLink RX3 11 "LateExcuses$History" "past" "[LLateExcuses$Court;", Cond.methodLink RX3 23 yX1_copyFrom, Cond.instanceMethod yX1_copyFrom, Cond.selects RX1 yX1_copyFrom yX1_copyFrom, Cond.initialized RX1, Cond.code yX1_copyFrom cX1_copyFrom 2 none, Cond.fieldLink RX1 12 "LateExcuses$Court" "events" "LLateExcuses$Events;", Cond.fieldLink RX1 21 "LateExcuses$Court" "panes" "LLateExcuses$Panes;", Cond.fieldLink RX1 28 "LateExcuses$Court" "cabinets" "LLateExcuses$Cabinets;", Cond.fieldLink RX1 32 "LateExcuses$Court" "size" "I"]
def wsX8_undo_r2 : List Cond := [Cond.fieldLink RX1 36 "LateExcuses$Court" "lag" "I", Cond.fieldLink RX1 39 "LateExcuses$Court" "grace" "I", Cond.fieldLink RX1 42 "LateExcuses$Court" "watermark" "I", Cond.fieldLink RX1 45 "LateExcuses$Court" "latest" "I", Cond.fieldLink RX1 58 "LateExcuses$Court" "moved" "Z", Cond.methodLink RX1 48 yX2_copyFrom, Cond.instanceMethod yX2_copyFrom, Cond.selects RX2 yX2_copyFrom yX2_copyFrom, Cond.initialized RX2, Cond.code yX2_copyFrom cX2_copyFrom 2 none, Cond.fieldLink RX2 14 "LateExcuses$Events" "rows" "LLateExcuses$Table;", Cond.fieldLink RX2 24 "LateExcuses$Events" "doubles" "I", Cond.methodLink RX2 20 yX5_copyFrom, Cond.instanceMethod yX5_copyFrom, Cond.selects RX5 yX5_copyFrom yX5_copyFrom, Cond.initialized RX5, Cond.code yX5_copyFrom cX5_copyFrom 2 none, Cond.fieldLink RX5 22 "LateExcuses$Table" "cells" "[I", Cond.methodLink RX5 26 arraycopyName, Cond.native arraycopyName, Cond.static arraycopyName, Cond.initialized "java/lang/System", Cond.methodLink RX1 52 yX4_copyFrom, Cond.instanceMethod yX4_copyFrom]
def wsX8_undo_r3 : List Cond := [Cond.selects RX4 yX4_copyFrom yX4_copyFrom, Cond.initialized RX4, Cond.code yX4_copyFrom cX4_copyFrom 2 none, Cond.fieldLink RX4 16 "LateExcuses$Panes" "rows" "LLateExcuses$Table;", Cond.fieldLink RX4 23 "LateExcuses$Panes" "words" "LLateExcuses$Words;", Cond.fieldLink RX4 34 "LateExcuses$Panes" "used" "I", Cond.methodLink RX4 27 yX5_copyFrom, Cond.methodLink RX4 31 yX7_copyFrom, Cond.instanceMethod yX7_copyFrom, Cond.selects RX7 yX7_copyFrom yX7_copyFrom, Cond.initialized RX7, Cond.code yX7_copyFrom cX7_copyFrom 2 none, Cond.fieldLink RX7 16 "LateExcuses$Words" "rows" "LLateExcuses$Table;", Cond.fieldLink RX7 24 "LateExcuses$Words" "kept" "I", Cond.fieldLink RX7 28 "LateExcuses$Words" "told" "I", Cond.fieldLink RX7 31 "LateExcuses$Words" "takenBack" "I", Cond.methodLink RX7 20 yX5_copyFrom, Cond.methodLink RX1 55 yX0_copyFrom, Cond.instanceMethod yX0_copyFrom, Cond.selects RX0 yX0_copyFrom yX0_copyFrom, Cond.initialized RX0, Cond.code yX0_copyFrom cX0_copyFrom 2 none, Cond.fieldLink RX0 16 "LateExcuses$Cabinets" "rows" "LLateExcuses$Table;", Cond.methodLink RX0 20 yX5_copyFrom]
def wsX8_undo : List Cond := .code yX8_undo cX8_undo 1 (some .int) :: ((wsX8_undo_r1 ++ (wsX8_undo_r2 ++ wsX8_undo_r3)) ++ wsX80 ++ wsX30 ++ wsX10 ++ wsX20 ++ wsX50 ++ wsX40 ++ wsX70 ++ wsX00)
def wsX8_type : List Cond := .code yX8_type cX8_type 2 (some .int) :: ([.constant RX8 34 (-1000001), .fieldLink RX8 26 "LateExcuses" "text" "LLateExcuses$Text;", .constant RX8 159 (-1000003), .methodLink RX8 30 yX8_isWithin, .static yX8_isWithin, .initialized RX8, .code yX8_isWithin cX8_isWithin 3 (some .boolean), .methodLink RX8 155 yX6_append, .instanceMethod yX6_append, .selects RX6 yX6_append yX6_append, .initialized RX6, .code yX6_append cX6_append 2 (some .boolean), .fieldLink RX6 15 "LateExcuses$Text" "length" "I", .fieldLink RX6 11 "LateExcuses$Text" "signs" "[C", .methodLink RX8 146 yX6_length, .instanceMethod yX6_length, .selects RX6 yX6_length yX6_length, .code yX6_length cX6_length 1 (some .int)] ++ wsX80 ++ wsX60)
def wsX8_clearText : List Cond := .code yX8_clearText cX8_clearText 2 (some .int) :: ([.fieldLink RX8 26 "LateExcuses" "text" "LLateExcuses$Text;", .methodLink RX8 146 yX6_length, .instanceMethod yX6_length, .selects RX6 yX6_length yX6_length, .initialized RX6, .code yX6_length cX6_length 1 (some .int), .fieldLink RX6 15 "LateExcuses$Text" "length" "I", .methodLink RX8 160 yX6_empty, .instanceMethod yX6_empty, .selects RX6 yX6_empty yX6_empty, .code yX6_empty cX6_empty 1 none] ++ wsX80 ++ wsX60)
def wsX8_fault_r1 : List Cond := [Cond.constant RX8 34 (-1000001), Cond.fieldLink RX8 26 "LateExcuses" "text" "LLateExcuses$Text;", Cond.constant RX8 72 (-1000004), Cond.methodLink RX8 30 yX8_isWithin, Cond.static yX8_isWithin, Cond.initialized RX8, Cond.code yX8_isWithin cX8_isWithin 3 (some .boolean), Cond.methodLink RX8 163 yX6_hasFault, Cond.instanceMethod yX6_hasFault, Cond.selects RX6 yX6_hasFault yX6_hasFault, Cond.initialized RX6, Cond.code yX6_hasFault cX6_hasFault 4 (some .boolean), Cond.fieldLink RX6 15 "LateExcuses$Text" "length" "I", Cond.fieldLink RX6 29 "LateExcuses$Text" "id" "I", Cond.fieldLink RX6 32 "LateExcuses$Text" "time" "I", Cond.fieldLink RX6 35 "LateExcuses$Text" "key" "I", Cond.fieldLink RX6 38 "LateExcuses$Text" "amount" "I", Cond.fieldLink RX6 19 "LateExcuses$Text" "faultPlace" "I", Cond.fieldLink RX6 22 "LateExcuses$Text" "faultReason" "I", Cond.methodLink RX6 25 yX6_readEvent, Cond.instanceMethod yX6_readEvent, Cond.selects RX6 yX6_readEvent yX6_readEvent, Cond.code yX6_readEvent cX6_readEvent 4 (some .int), Cond.fieldLink RX6 45 "LateExcuses$Text" "place" "I"]
def wsX8_fault_r2 : List Cond := [Cond.fieldLink RX6 52 "LateExcuses$Text" "number" "I", Cond.fieldLink RX6 63 "LateExcuses$Text" "excuse" "I", Cond.methodLink RX6 48 yX6_readNumber, Cond.instanceMethod yX6_readNumber, Cond.selects RX6 yX6_readNumber yX6_readNumber, Cond.code yX6_readNumber cX6_readNumber 2 (some .boolean), Cond.methodLink RX6 66 yX6_signHere, Cond.instanceMethod yX6_signHere, Cond.selects RX6 yX6_signHere yX6_signHere, Cond.code yX6_signHere cX6_signHere 1 (some .char), Cond.fieldLink RX6 11 "LateExcuses$Text" "signs" "[C", Cond.methodLink RX6 55 yX6_readSign, Cond.instanceMethod yX6_readSign, Cond.selects RX6 yX6_readSign yX6_readSign, Cond.code yX6_readSign cX6_readSign 2 (some .boolean), Cond.methodLink RX6 59 yX6_readExcuse, Cond.instanceMethod yX6_readExcuse, Cond.selects RX6 yX6_readExcuse yX6_readExcuse, Cond.code yX6_readExcuse cX6_readExcuse 1 (some .int), Cond.static yX8_isEvent, Cond.code yX8_isEvent cX8_isEvent 4 (some .boolean), Cond.methodLink RX8 166 yX6_faultPlace, Cond.instanceMethod yX6_faultPlace, Cond.selects RX6 yX6_faultPlace yX6_faultPlace]
def wsX8_fault_r3 : List Cond := [Cond.code yX6_faultPlace cX6_faultPlace 1 (some .int), Cond.methodLink RX8 169 yX6_faultReason, Cond.instanceMethod yX6_faultReason, Cond.selects RX6 yX6_faultReason yX6_faultReason, Cond.code yX6_faultReason cX6_faultReason 1 (some .int)]
def wsX8_fault : List Cond := .code yX8_fault cX8_fault 2 (some .int) :: ((wsX8_fault_r1 ++ (wsX8_fault_r2 ++ wsX8_fault_r3)) ++ wsX80 ++ wsX60)
def wsX8_play_r1 : List Cond := [Cond.fieldLink RX8 26 "LateExcuses" "text" "LLateExcuses$Text;", Cond.constant RX8 39 (-1000002), Cond.fieldLink RX8 19 "LateExcuses" "history" "LLateExcuses$History;", Cond.fieldLink RX8 10 "LateExcuses" "court" "LLateExcuses$Court;", Cond.methodLink RX8 163 yX6_hasFault, Cond.instanceMethod yX6_hasFault, Cond.selects RX6 yX6_hasFault yX6_hasFault, Cond.initialized RX6, Cond.code yX6_hasFault cX6_hasFault 4 (some .boolean), Cond.fieldLink RX6 15 "LateExcuses$Text" "length" "I", Cond.fieldLink RX6 29 "LateExcuses$Text" "id" "I", Cond.fieldLink RX6 32 "LateExcuses$Text" "time" "I", Cond.fieldLink RX6 35 "LateExcuses$Text" "key" "I", Cond.fieldLink RX6 38 "LateExcuses$Text" "amount" "I", Cond.fieldLink RX6 19 "LateExcuses$Text" "faultPlace" "I", Cond.fieldLink RX6 22 "LateExcuses$Text" "faultReason" "I", Cond.methodLink RX6 25 yX6_readEvent, Cond.instanceMethod yX6_readEvent, Cond.selects RX6 yX6_readEvent yX6_readEvent, Cond.code yX6_readEvent cX6_readEvent 4 (some .int), Cond.fieldLink RX6 45 "LateExcuses$Text" "place" "I", Cond.fieldLink RX6 52 "LateExcuses$Text" "number" "I", Cond.fieldLink RX6 63 "LateExcuses$Text" "excuse" "I", Cond.methodLink RX6 48 yX6_readNumber]
def wsX8_play_r2 : List Cond := [Cond.instanceMethod yX6_readNumber, Cond.selects RX6 yX6_readNumber yX6_readNumber, Cond.code yX6_readNumber cX6_readNumber 2 (some .boolean), Cond.methodLink RX6 66 yX6_signHere, Cond.instanceMethod yX6_signHere, Cond.selects RX6 yX6_signHere yX6_signHere, Cond.code yX6_signHere cX6_signHere 1 (some .char), Cond.fieldLink RX6 11 "LateExcuses$Text" "signs" "[C", Cond.static yX8_isWithin, Cond.initialized RX8, Cond.code yX8_isWithin cX8_isWithin 3 (some .boolean), Cond.methodLink RX6 55 yX6_readSign, Cond.instanceMethod yX6_readSign, Cond.selects RX6 yX6_readSign yX6_readSign, Cond.code yX6_readSign cX6_readSign 2 (some .boolean), Cond.methodLink RX6 59 yX6_readExcuse, Cond.instanceMethod yX6_readExcuse, Cond.selects RX6 yX6_readExcuse yX6_readExcuse, Cond.code yX6_readExcuse cX6_readExcuse 1 (some .int), Cond.static yX8_isEvent, Cond.code yX8_isEvent cX8_isEvent 4 (some .boolean), Cond.methodLink RX8 30 yX8_isWithin, Cond.methodLink RX8 40 yX3_keep, Cond.instanceMethod yX3_keep]
def wsX8_play_r3 : List Cond := [Cond.selects RX3 yX3_keep yX3_keep, Cond.initialized RX3, Cond.code yX3_keep cX3_keep 4 none, Cond.fieldLink RX3 15 "LateExcuses$History" "states" "I", Cond.fieldLink RX3 19 "LateExcuses$History" "oldest" "I", Cond.fieldLink RX3 11 "LateExcuses$History" "past" "[LLateExcuses$Court;", Cond.classLink RX3 9 RX1, Cond.instantiable RX1 9, Cond.initialized RX1, Cond.instanceMethod yX1_init, Cond.code yX1_init cX1_init 1 none, Cond.methodLink RX1 3 objectInit, Cond.instanceMethod objectInit, Cond.code objectInit ⟨#[0xb1]⟩ 1 none, Cond.classLink RX1 9 RX2, Cond.instantiable RX2 2, Cond.initialized RX2, Cond.fieldLink RX1 12 "LateExcuses$Court" "events" "LLateExcuses$Events;", Cond.classLink RX1 18 RX4, Cond.instantiable RX4 3, Cond.initialized RX4, Cond.fieldLink RX1 21 "LateExcuses$Court" "panes" "LLateExcuses$Panes;", Cond.classLink RX1 25 RX0, Cond.instantiable RX0 1]
def wsX8_play_r4 : List Cond := [Cond.initialized RX0, Cond.fieldLink RX1 28 "LateExcuses$Court" "cabinets" "LLateExcuses$Cabinets;", Cond.fieldLink RX1 32 "LateExcuses$Court" "size" "I", Cond.fieldLink RX1 36 "LateExcuses$Court" "lag" "I", Cond.fieldLink RX1 39 "LateExcuses$Court" "grace" "I", Cond.fieldLink RX1 42 "LateExcuses$Court" "watermark" "I", Cond.fieldLink RX1 45 "LateExcuses$Court" "latest" "I", Cond.instanceMethod yX2_init, Cond.code yX2_init cX2_init 1 none, Cond.methodLink RX2 3 objectInit, Cond.classLink RX2 9 RX5, Cond.instantiable RX5 3, Cond.initialized RX5, Cond.fieldLink RX2 14 "LateExcuses$Events" "rows" "LLateExcuses$Table;", Cond.methodLink RX2 11 yX5_init, Cond.instanceMethod yX5_init, Cond.code yX5_init cX5_init 3 none, Cond.methodLink RX5 1 objectInit, Cond.methodLink RX5 7 Lib.Math.max.name, Cond.static Lib.Math.max.name, Cond.initialized "java/lang/Math", Cond.code Lib.Math.max.name Lib.Math.max.code 2 (some .int), Cond.fieldLink RX5 13 "LateExcuses$Table" "rows" "I", Cond.fieldLink RX5 19 "LateExcuses$Table" "columns" "I"]
def wsX8_play_r5 : List Cond := [Cond.arrayClass .int, Cond.fieldLink RX5 22 "LateExcuses$Table" "cells" "[I", Cond.instanceMethod yX4_init, Cond.code yX4_init cX4_init 1 none, Cond.methodLink RX4 3 objectInit, Cond.classLink RX4 9 RX5, Cond.fieldLink RX4 16 "LateExcuses$Panes" "rows" "LLateExcuses$Table;", Cond.classLink RX4 20 RX7, Cond.instantiable RX7 4, Cond.initialized RX7, Cond.fieldLink RX4 23 "LateExcuses$Panes" "words" "LLateExcuses$Words;", Cond.methodLink RX4 13 yX5_init, Cond.instanceMethod yX7_init, Cond.code yX7_init cX7_init 1 none, Cond.methodLink RX7 3 objectInit, Cond.classLink RX7 9 RX5, Cond.fieldLink RX7 16 "LateExcuses$Words" "rows" "LLateExcuses$Table;", Cond.methodLink RX7 13 yX5_init, Cond.instanceMethod yX0_init, Cond.code yX0_init cX0_init 1 none, Cond.methodLink RX0 5 objectInit, Cond.classLink RX0 11 RX5, Cond.fieldLink RX0 16 "LateExcuses$Cabinets" "rows" "LLateExcuses$Table;", Cond.methodLink RX0 13 yX5_init]
def wsX8_play_r6 : List Cond := [Cond.methodLink RX3 23 yX1_copyFrom, Cond.instanceMethod yX1_copyFrom, Cond.selects RX1 yX1_copyFrom yX1_copyFrom, Cond.code yX1_copyFrom cX1_copyFrom 2 none, Cond.fieldLink RX1 58 "LateExcuses$Court" "moved" "Z", Cond.methodLink RX1 48 yX2_copyFrom, Cond.instanceMethod yX2_copyFrom, Cond.selects RX2 yX2_copyFrom yX2_copyFrom, Cond.code yX2_copyFrom cX2_copyFrom 2 none, Cond.fieldLink RX2 24 "LateExcuses$Events" "doubles" "I", Cond.methodLink RX2 20 yX5_copyFrom, Cond.instanceMethod yX5_copyFrom, Cond.selects RX5 yX5_copyFrom yX5_copyFrom, Cond.code yX5_copyFrom cX5_copyFrom 2 none, Cond.methodLink RX5 26 arraycopyName, Cond.native arraycopyName, Cond.static arraycopyName, Cond.initialized "java/lang/System", Cond.methodLink RX1 52 yX4_copyFrom, Cond.instanceMethod yX4_copyFrom, Cond.selects RX4 yX4_copyFrom yX4_copyFrom, Cond.code yX4_copyFrom cX4_copyFrom 2 none, Cond.fieldLink RX4 34 "LateExcuses$Panes" "used" "I", Cond.methodLink RX4 27 yX5_copyFrom]
def wsX8_play_r7 : List Cond := [Cond.methodLink RX4 31 yX7_copyFrom, Cond.instanceMethod yX7_copyFrom, Cond.selects RX7 yX7_copyFrom yX7_copyFrom, Cond.code yX7_copyFrom cX7_copyFrom 2 none, Cond.fieldLink RX7 24 "LateExcuses$Words" "kept" "I", Cond.fieldLink RX7 28 "LateExcuses$Words" "told" "I", Cond.fieldLink RX7 31 "LateExcuses$Words" "takenBack" "I", Cond.methodLink RX7 20 yX5_copyFrom, Cond.methodLink RX1 55 yX0_copyFrom, Cond.instanceMethod yX0_copyFrom, Cond.selects RX0 yX0_copyFrom yX0_copyFrom, Cond.code yX0_copyFrom cX0_copyFrom 2 none, Cond.methodLink RX0 20 yX5_copyFrom, Cond.methodLink RX8 146 yX6_length, Cond.instanceMethod yX6_length, Cond.selects RX6 yX6_length yX6_length, Cond.code yX6_length cX6_length 1 (some .int), Cond.methodLink RX8 172 yX6_readEvent, Cond.methodLink RX8 52 yX1_admit, Cond.instanceMethod yX1_admit, Cond.selects RX1 yX1_admit yX1_admit, Cond.code yX1_admit cX1_admit 8 (some .int), Cond.methodLink RX1 114 yX2_hasCome, Cond.instanceMethod yX2_hasCome]
def wsX8_play_r8 : List Cond := [Cond.selects RX2 yX2_hasCome yX2_hasCome, Cond.code yX2_hasCome cX2_hasCome 2 (some .boolean), Cond.methodLink RX2 28 yX5_get, Cond.instanceMethod yX5_get, Cond.selects RX5 yX5_get yX5_get, Cond.code yX5_get cX5_get 4 (some .int), Cond.methodLink RX1 117 yX2_addDouble, Cond.instanceMethod yX2_addDouble, Cond.selects RX2 yX2_addDouble yX2_addDouble, Cond.code yX2_addDouble cX2_addDouble 1 none, Cond.methodLink RX1 120 yX1_verdict, Cond.instanceMethod yX1_verdict, Cond.selects RX1 yX1_verdict yX1_verdict, Cond.code yX1_verdict cX1_verdict 6 (some .int), Cond.methodLink RX1 85 yX1_paneAt, Cond.instanceMethod yX1_paneAt, Cond.selects RX1 yX1_paneAt yX1_paneAt, Cond.code yX1_paneAt cX1_paneAt 2 (some .int), Cond.methodLink RX1 88 yX1_stateOf, Cond.instanceMethod yX1_stateOf, Cond.selects RX1 yX1_stateOf yX1_stateOf, Cond.code yX1_stateOf cX1_stateOf 3 (some .int), Cond.methodLink RX1 79 yX4_read, Cond.instanceMethod yX4_read]
def wsX8_play_r9 : List Cond := [Cond.selects RX4 yX4_read yX4_read, Cond.code yX4_read cX4_read 3 (some .int), Cond.methodLink RX4 42 yX4_rowOf, Cond.instanceMethod yX4_rowOf, Cond.selects RX4 yX4_rowOf yX4_rowOf, Cond.code yX4_rowOf cX4_rowOf 3 (some .int), Cond.methodLink RX4 38 yX5_get, Cond.methodLink RX1 82 yX1_endOf, Cond.instanceMethod yX1_endOf, Cond.selects RX1 yX1_endOf yX1_endOf, Cond.code yX1_endOf cX1_endOf 2 (some .int), Cond.methodLink RX1 91 yX1_isAcceptable, Cond.instanceMethod yX1_isAcceptable, Cond.selects RX1 yX1_isAcceptable yX1_isAcceptable, Cond.code yX1_isAcceptable cX1_isAcceptable 5 (some .boolean), Cond.methodLink RX1 98 yX1_lateBy, Cond.instanceMethod yX1_lateBy, Cond.selects RX1 yX1_lateBy yX1_lateBy, Cond.code yX1_lateBy cX1_lateBy 2 (some .int), Cond.methodLink RX1 101 yX2_hadIllness, Cond.instanceMethod yX2_hadIllness, Cond.selects RX2 yX2_hadIllness yX2_hadIllness, Cond.code yX2_hadIllness cX2_hadIllness 3 (some .boolean), Cond.methodLink RX2 41 yX2_hasOutcome]
def wsX8_play_r10 : List Cond := [Cond.instanceMethod yX2_hasOutcome, Cond.selects RX2 yX2_hasOutcome yX2_hasOutcome, Cond.code yX2_hasOutcome cX2_hasOutcome 5 (some .boolean), Cond.methodLink RX1 94 yX0_hasPlaceFor, Cond.instanceMethod yX0_hasPlaceFor, Cond.selects RX0 yX0_hasPlaceFor yX0_hasPlaceFor, Cond.code yX0_hasPlaceFor cX0_hasPlaceFor 2 (some .boolean), Cond.methodLink RX0 29 yX0_cabinetFor, Cond.instanceMethod yX0_cabinetFor, Cond.selects RX0 yX0_cabinetFor yX0_cabinetFor, Cond.code yX0_cabinetFor cX0_cabinetFor 2 (some .int), Cond.methodLink RX0 33 yX0_isFull, Cond.instanceMethod yX0_isFull, Cond.selects RX0 yX0_isFull yX0_isFull, Cond.code yX0_isFull cX0_isFull 2 (some .boolean), Cond.methodLink RX0 24 yX5_get, Cond.methodLink RX1 123 yX2_enter, Cond.instanceMethod yX2_enter, Cond.selects RX2 yX2_enter yX2_enter, Cond.code yX2_enter cX2_enter 6 none, Cond.methodLink RX2 37 yX5_put, Cond.instanceMethod yX5_put, Cond.selects RX5 yX5_put yX5_put, Cond.code yX5_put cX5_put 5 none]
def wsX8_play_r11 : List Cond := [Cond.methodLink RX1 127 yX2_conclude, Cond.instanceMethod yX2_conclude, Cond.selects RX2 yX2_conclude yX2_conclude, Cond.code yX2_conclude cX2_conclude 4 none, Cond.methodLink RX1 131 yX0_file, Cond.instanceMethod yX0_file, Cond.selects RX0 yX0_file yX0_file, Cond.code yX0_file cX0_file 5 none, Cond.methodLink RX0 37 yX5_put, Cond.methodLink RX1 135 yX4_reopen, Cond.instanceMethod yX4_reopen, Cond.selects RX4 yX4_reopen yX4_reopen, Cond.code yX4_reopen cX4_reopen 4 none, Cond.methodLink RX4 62 yX4_rowMadeFor, Cond.instanceMethod yX4_rowMadeFor, Cond.selects RX4 yX4_rowMadeFor yX4_rowMadeFor, Cond.code yX4_rowMadeFor cX4_rowMadeFor 3 (some .int), Cond.methodLink RX4 46 yX4_rowBehind, Cond.instanceMethod yX4_rowBehind, Cond.selects RX4 yX4_rowBehind yX4_rowBehind, Cond.code yX4_rowBehind cX4_rowBehind 3 (some .int), Cond.methodLink RX4 49 yX5_openRow, Cond.instanceMethod yX5_openRow, Cond.selects RX5 yX5_openRow yX5_openRow]
def wsX8_play_r12 : List Cond := [Cond.code yX5_openRow cX5_openRow 5 none, Cond.methodLink RX5 32 yX5_put, Cond.methodLink RX4 53 yX5_put, Cond.methodLink RX4 65 yX4_takeBack, Cond.instanceMethod yX4_takeBack, Cond.selects RX4 yX4_takeBack yX4_takeBack, Cond.code yX4_takeBack cX4_takeBack 3 none, Cond.methodLink RX4 58 yX4_isStanding, Cond.instanceMethod yX4_isStanding, Cond.selects RX4 yX4_isStanding yX4_isStanding, Cond.code yX4_isStanding cX4_isStanding 2 (some .boolean), Cond.methodLink RX4 75 yX7_add, Cond.instanceMethod yX7_add, Cond.selects RX7 yX7_add yX7_add, Cond.code yX7_add cX7_add 5 none, Cond.methodLink RX7 39 yX5_dropFirstRow, Cond.instanceMethod yX5_dropFirstRow, Cond.selects RX5 yX5_dropFirstRow yX5_dropFirstRow, Cond.code yX5_dropFirstRow cX5_dropFirstRow 1 none, Cond.methodLink RX7 42 yX5_put, Cond.methodLink RX1 138 yX4_add, Cond.instanceMethod yX4_add, Cond.selects RX4 yX4_add yX4_add, Cond.code yX4_add cX4_add 5 none]
def wsX8_play_r13 : List Cond := [Cond.methodLink RX1 141 yX1_raiseWatermark, Cond.instanceMethod yX1_raiseWatermark, Cond.selects RX1 yX1_raiseWatermark yX1_raiseWatermark, Cond.code yX1_raiseWatermark cX1_raiseWatermark 3 none, Cond.methodLink RX1 109 Lib.Math.max.name, Cond.methodLink RX1 145 yX4_shutAndClose, Cond.instanceMethod yX4_shutAndClose, Cond.selects RX4 yX4_shutAndClose yX4_shutAndClose, Cond.code yX4_shutAndClose cX4_shutAndClose 6 none, Cond.methodLink RX4 72 yX4_tellWord, Cond.instanceMethod yX4_tellWord, Cond.selects RX4 yX4_tellWord yX4_tellWord, Cond.code yX4_tellWord cX4_tellWord 3 none]
def wsX8_play : List Cond := .code yX8_play cX8_play 5 (some .int) :: ((wsX8_play_r1 ++ (wsX8_play_r2 ++ (wsX8_play_r3 ++ (wsX8_play_r4 ++ (wsX8_play_r5 ++ (wsX8_play_r6 ++ (wsX8_play_r7 ++ (wsX8_play_r8 ++ (wsX8_play_r9 ++ (wsX8_play_r10 ++ (wsX8_play_r11 ++ (wsX8_play_r12 ++ wsX8_play_r13)))))))))))) ++ wsX80 ++ wsX60 ++ wsX30 ++ wsX10 ++ wsX20 ++ wsX40 ++ wsX00 ++ wsX50 ++ wsX70)
def wsX9_init : List Cond := .code yX9_init cX9_init 1 none :: ([.methodLink RX9 1 objectInit, .instanceMethod objectInit, .code objectInit ⟨#[0xb1]⟩ 1 none, .arrayClass .int, .fieldLink RX9 7 "LateExcusesModel" "now" "[I", .fieldLink RX9 13 "LateExcusesModel" "kept" "[I", .fieldLink RX9 16 "LateExcusesModel" "text" "[I", .fieldLink RX9 19 "LateExcusesModel" "read" "[I"] ++ wsX90)
def wsX9_isIn : List Cond := .code yX9_isIn cX9_isIn 3 (some .boolean) :: ([])
def wsX9_ofE : List Cond := .code yX9_ofE cX9_ofE 3 (some .int) :: ([.fieldLink RX9 7 "LateExcusesModel" "now" "[I"] ++ wsX90)
def wsX9_ofP : List Cond := .code yX9_ofP cX9_ofP 3 (some .int) :: ([.fieldLink RX9 7 "LateExcusesModel" "now" "[I"] ++ wsX90)
def wsX9_setsP : List Cond := .code yX9_setsP cX9_setsP 4 none :: ([.fieldLink RX9 7 "LateExcusesModel" "now" "[I"] ++ wsX90)
def wsX9_records : List Cond := .code yX9_records cX9_records 2 none :: ([.fieldLink RX9 22 "LateExcusesModel" "states" "I", .fieldLink RX9 13 "LateExcusesModel" "kept" "[I", .fieldLink RX9 7 "LateExcusesModel" "now" "[I"] ++ wsX90)
def wsX9_undo : List Cond := .code yX9_undo cX9_undo 2 (some .int) :: ([.fieldLink RX9 22 "LateExcusesModel" "states" "I", .constant RX9 26 (-1000002), .fieldLink RX9 7 "LateExcusesModel" "now" "[I", .fieldLink RX9 13 "LateExcusesModel" "kept" "[I"] ++ wsX90)
def wsX9_set : List Cond := .code yX9_set cX9_set 4 (some .int) :: ([.constant RX9 31 (-1000001), .fieldLink RX9 7 "LateExcusesModel" "now" "[I", .constant RX9 26 (-1000002), .methodLink RX9 27 yX9_isIn, .static yX9_isIn, .initialized RX9, .code yX9_isIn cX9_isIn 3 (some .boolean), .methodLink RX9 32 yX9_records, .instanceMethod yX9_records, .selects RX9 yX9_records yX9_records, .code yX9_records cX9_records 2 none, .fieldLink RX9 22 "LateExcusesModel" "states" "I", .fieldLink RX9 13 "LateExcusesModel" "kept" "[I"] ++ wsX90)
def wsX9_paneAt : List Cond := .code yX9_paneAt cX9_paneAt 2 (some .int) :: ([.fieldLink RX9 7 "LateExcusesModel" "now" "[I"] ++ wsX90)
def wsX9_endOf : List Cond := .code yX9_endOf cX9_endOf 2 (some .int) :: ([.fieldLink RX9 7 "LateExcusesModel" "now" "[I"] ++ wsX90)
def wsX9_find : List Cond := .code yX9_find cX9_find 3 (some .int) :: ([.fieldLink RX9 7 "LateExcusesModel" "now" "[I", .methodLink RX9 35 yX9_ofP, .instanceMethod yX9_ofP, .selects RX9 yX9_ofP yX9_ofP, .initialized RX9, .code yX9_ofP cX9_ofP 3 (some .int)] ++ wsX90)
def wsX9_modeOf : List Cond := .code yX9_modeOf cX9_modeOf 3 (some .int) :: ([.methodLink RX9 39 yX9_find, .instanceMethod yX9_find, .selects RX9 yX9_find yX9_find, .initialized RX9, .code yX9_find cX9_find 3 (some .int), .fieldLink RX9 7 "LateExcusesModel" "now" "[I", .methodLink RX9 35 yX9_ofP, .instanceMethod yX9_ofP, .selects RX9 yX9_ofP yX9_ofP, .code yX9_ofP cX9_ofP 3 (some .int)] ++ wsX90)
def wsX9_keeps : List Cond := .code yX9_keeps cX9_keeps 4 (some .int) :: ([.fieldLink RX9 7 "LateExcusesModel" "now" "[I", .methodLink RX9 39 yX9_find, .instanceMethod yX9_find, .selects RX9 yX9_find yX9_find, .initialized RX9, .code yX9_find cX9_find 3 (some .int), .methodLink RX9 35 yX9_ofP, .instanceMethod yX9_ofP, .selects RX9 yX9_ofP yX9_ofP, .code yX9_ofP cX9_ofP 3 (some .int), .methodLink RX9 43 yX9_setsP, .instanceMethod yX9_setsP, .selects RX9 yX9_setsP yX9_setsP, .code yX9_setsP cX9_setsP 4 none] ++ wsX90)
def wsX9_isShut : List Cond := .code yX9_isShut cX9_isShut 2 (some .boolean) :: ([.fieldLink RX9 7 "LateExcusesModel" "now" "[I", .methodLink RX9 47 yX9_modeOf, .instanceMethod yX9_modeOf, .selects RX9 yX9_modeOf yX9_modeOf, .initialized RX9, .code yX9_modeOf cX9_modeOf 3 (some .int), .methodLink RX9 39 yX9_find, .instanceMethod yX9_find, .selects RX9 yX9_find yX9_find, .code yX9_find cX9_find 3 (some .int), .methodLink RX9 35 yX9_ofP, .instanceMethod yX9_ofP, .selects RX9 yX9_ofP yX9_ofP, .code yX9_ofP cX9_ofP 3 (some .int), .methodLink RX9 50 yX9_endOf, .instanceMethod yX9_endOf, .selects RX9 yX9_endOf yX9_endOf, .code yX9_endOf cX9_endOf 2 (some .int)] ++ wsX90)
def wsX9_counts : List Cond := .code yX9_counts cX9_counts 2 (some .boolean) :: ([.methodLink RX9 53 yX9_ofE, .instanceMethod yX9_ofE, .selects RX9 yX9_ofE yX9_ofE, .initialized RX9, .code yX9_ofE cX9_ofE 3 (some .int), .fieldLink RX9 7 "LateExcusesModel" "now" "[I", .methodLink RX9 27 yX9_isIn, .static yX9_isIn, .code yX9_isIn cX9_isIn 3 (some .boolean)] ++ wsX90)
def wsX9_sumOf : List Cond := .code yX9_sumOf cX9_sumOf 7 (some .int) :: ([.methodLink RX9 56 yX9_counts, .instanceMethod yX9_counts, .selects RX9 yX9_counts yX9_counts, .initialized RX9, .code yX9_counts cX9_counts 2 (some .boolean), .methodLink RX9 53 yX9_ofE, .instanceMethod yX9_ofE, .selects RX9 yX9_ofE yX9_ofE, .code yX9_ofE cX9_ofE 3 (some .int), .fieldLink RX9 7 "LateExcusesModel" "now" "[I", .methodLink RX9 27 yX9_isIn, .static yX9_isIn, .code yX9_isIn cX9_isIn 3 (some .boolean), .methodLink RX9 60 yX9_paneAt, .instanceMethod yX9_paneAt, .selects RX9 yX9_paneAt yX9_paneAt, .code yX9_paneAt cX9_paneAt 2 (some .int)] ++ wsX90)
def wsX9_says : List Cond := .code yX9_says cX9_says 6 none :: ([.fieldLink RX9 7 "LateExcusesModel" "now" "[I"] ++ wsX90)
def wsX9_tells_r1 : List Cond := [Cond.fieldLink RX9 7 "LateExcusesModel" "now" "[I", Cond.methodLink RX9 35 yX9_ofP, Cond.instanceMethod yX9_ofP, Cond.selects RX9 yX9_ofP yX9_ofP, Cond.initialized RX9, Cond.code yX9_ofP cX9_ofP 3 (some .int), Cond.methodLink RX9 63 yX9_sumOf, Cond.instanceMethod yX9_sumOf, Cond.selects RX9 yX9_sumOf yX9_sumOf, Cond.code yX9_sumOf cX9_sumOf 7 (some .int), Cond.methodLink RX9 56 yX9_counts, Cond.instanceMethod yX9_counts, Cond.selects RX9 yX9_counts yX9_counts, Cond.code yX9_counts cX9_counts 2 (some .boolean), Cond.methodLink RX9 53 yX9_ofE, Cond.instanceMethod yX9_ofE, Cond.selects RX9 yX9_ofE yX9_ofE, Cond.code yX9_ofE cX9_ofE 3 (some .int), Cond.methodLink RX9 27 yX9_isIn, Cond.static yX9_isIn, Cond.code yX9_isIn cX9_isIn 3 (some .boolean), Cond.methodLink RX9 60 yX9_paneAt, Cond.instanceMethod yX9_paneAt, Cond.selects RX9 yX9_paneAt yX9_paneAt]
def wsX9_tells_r2 : List Cond := [Cond.code yX9_paneAt cX9_paneAt 2 (some .int), Cond.methodLink RX9 43 yX9_setsP, Cond.instanceMethod yX9_setsP, Cond.selects RX9 yX9_setsP yX9_setsP, Cond.code yX9_setsP cX9_setsP 4 none, Cond.methodLink RX9 66 yX9_says, Cond.instanceMethod yX9_says, Cond.selects RX9 yX9_says yX9_says, Cond.code yX9_says cX9_says 6 none]
def wsX9_tells : List Cond := .code yX9_tells cX9_tells 4 none :: ((wsX9_tells_r1 ++ wsX9_tells_r2) ++ wsX90)
def wsX9_takesBack : List Cond := .code yX9_takesBack cX9_takesBack 2 none :: ([.fieldLink RX9 7 "LateExcusesModel" "now" "[I", .methodLink RX9 35 yX9_ofP, .instanceMethod yX9_ofP, .selects RX9 yX9_ofP yX9_ofP, .initialized RX9, .code yX9_ofP cX9_ofP 3 (some .int), .methodLink RX9 43 yX9_setsP, .instanceMethod yX9_setsP, .selects RX9 yX9_setsP yX9_setsP, .code yX9_setsP cX9_setsP 4 none, .methodLink RX9 66 yX9_says, .instanceMethod yX9_says, .selects RX9 yX9_says yX9_says, .code yX9_says cX9_says 6 none] ++ wsX90)
def wsX9_nextKept : List Cond := .code yX9_nextKept cX9_nextKept 4 (some .int) :: ([.fieldLink RX9 7 "LateExcusesModel" "now" "[I", .methodLink RX9 35 yX9_ofP, .instanceMethod yX9_ofP, .selects RX9 yX9_ofP yX9_ofP, .initialized RX9, .code yX9_ofP cX9_ofP 3 (some .int)] ++ wsX90)
def wsX9_rises_r1 : List Cond := [Cond.fieldLink RX9 7 "LateExcusesModel" "now" "[I", Cond.methodLink RX9 70 yX9_nextKept, Cond.instanceMethod yX9_nextKept, Cond.selects RX9 yX9_nextKept yX9_nextKept, Cond.initialized RX9, Cond.code yX9_nextKept cX9_nextKept 4 (some .int), Cond.methodLink RX9 35 yX9_ofP, Cond.instanceMethod yX9_ofP, Cond.selects RX9 yX9_ofP yX9_ofP, Cond.code yX9_ofP cX9_ofP 3 (some .int), Cond.methodLink RX9 50 yX9_endOf, Cond.instanceMethod yX9_endOf, Cond.selects RX9 yX9_endOf yX9_endOf, Cond.code yX9_endOf cX9_endOf 2 (some .int), Cond.methodLink RX9 73 yX9_tells, Cond.instanceMethod yX9_tells, Cond.selects RX9 yX9_tells yX9_tells, Cond.code yX9_tells cX9_tells 4 none, Cond.methodLink RX9 63 yX9_sumOf, Cond.instanceMethod yX9_sumOf, Cond.selects RX9 yX9_sumOf yX9_sumOf, Cond.code yX9_sumOf cX9_sumOf 7 (some .int), Cond.methodLink RX9 56 yX9_counts, Cond.instanceMethod yX9_counts]
def wsX9_rises_r2 : List Cond := [Cond.selects RX9 yX9_counts yX9_counts, Cond.code yX9_counts cX9_counts 2 (some .boolean), Cond.methodLink RX9 53 yX9_ofE, Cond.instanceMethod yX9_ofE, Cond.selects RX9 yX9_ofE yX9_ofE, Cond.code yX9_ofE cX9_ofE 3 (some .int), Cond.methodLink RX9 27 yX9_isIn, Cond.static yX9_isIn, Cond.code yX9_isIn cX9_isIn 3 (some .boolean), Cond.methodLink RX9 60 yX9_paneAt, Cond.instanceMethod yX9_paneAt, Cond.selects RX9 yX9_paneAt yX9_paneAt, Cond.code yX9_paneAt cX9_paneAt 2 (some .int), Cond.methodLink RX9 43 yX9_setsP, Cond.instanceMethod yX9_setsP, Cond.selects RX9 yX9_setsP yX9_setsP, Cond.code yX9_setsP cX9_setsP 4 none, Cond.methodLink RX9 66 yX9_says, Cond.instanceMethod yX9_says, Cond.selects RX9 yX9_says yX9_says, Cond.code yX9_says cX9_says 6 none]
def wsX9_rises : List Cond := .code yX9_rises cX9_rises 5 none :: ((wsX9_rises_r1 ++ wsX9_rises_r2) ++ wsX90)
def wsX9_wasIll : List Cond := .code yX9_wasIll cX9_wasIll 4 (some .boolean) :: ([.methodLink RX9 53 yX9_ofE, .instanceMethod yX9_ofE, .selects RX9 yX9_ofE yX9_ofE, .initialized RX9, .code yX9_ofE cX9_ofE 3 (some .int), .fieldLink RX9 7 "LateExcusesModel" "now" "[I"] ++ wsX90)
def wsX9_isExcuse : List Cond := .code yX9_isExcuse cX9_isExcuse 5 (some .boolean) :: ([.fieldLink RX9 7 "LateExcusesModel" "now" "[I", .methodLink RX9 60 yX9_paneAt, .instanceMethod yX9_paneAt, .selects RX9 yX9_paneAt yX9_paneAt, .initialized RX9, .code yX9_paneAt cX9_paneAt 2 (some .int), .methodLink RX9 50 yX9_endOf, .instanceMethod yX9_endOf, .selects RX9 yX9_endOf yX9_endOf, .code yX9_endOf cX9_endOf 2 (some .int), .methodLink RX9 77 yX9_wasIll, .instanceMethod yX9_wasIll, .selects RX9 yX9_wasIll yX9_wasIll, .code yX9_wasIll cX9_wasIll 4 (some .boolean), .methodLink RX9 53 yX9_ofE, .instanceMethod yX9_ofE, .selects RX9 yX9_ofE yX9_ofE, .code yX9_ofE cX9_ofE 3 (some .int)] ++ wsX90)
def wsX9_placeIn : List Cond := .code yX9_placeIn cX9_placeIn 3 (some .int) :: ([.fieldLink RX9 7 "LateExcusesModel" "now" "[I"] ++ wsX90)
def wsX9_placeFor : List Cond := .code yX9_placeFor cX9_placeFor 3 (some .int) :: ([.methodLink RX9 80 yX9_placeIn, .instanceMethod yX9_placeIn, .selects RX9 yX9_placeIn yX9_placeIn, .initialized RX9, .code yX9_placeIn cX9_placeIn 3 (some .int), .fieldLink RX9 7 "LateExcusesModel" "now" "[I"] ++ wsX90)
def wsX9_judgeOf_r1 : List Cond := [Cond.methodLink RX9 60 yX9_paneAt, Cond.instanceMethod yX9_paneAt, Cond.selects RX9 yX9_paneAt yX9_paneAt, Cond.initialized RX9, Cond.code yX9_paneAt cX9_paneAt 2 (some .int), Cond.fieldLink RX9 7 "LateExcusesModel" "now" "[I", Cond.methodLink RX9 47 yX9_modeOf, Cond.instanceMethod yX9_modeOf, Cond.selects RX9 yX9_modeOf yX9_modeOf, Cond.code yX9_modeOf cX9_modeOf 3 (some .int), Cond.methodLink RX9 39 yX9_find, Cond.instanceMethod yX9_find, Cond.selects RX9 yX9_find yX9_find, Cond.code yX9_find cX9_find 3 (some .int), Cond.methodLink RX9 35 yX9_ofP, Cond.instanceMethod yX9_ofP, Cond.selects RX9 yX9_ofP yX9_ofP, Cond.code yX9_ofP cX9_ofP 3 (some .int), Cond.methodLink RX9 83 yX9_isShut, Cond.instanceMethod yX9_isShut, Cond.selects RX9 yX9_isShut yX9_isShut, Cond.code yX9_isShut cX9_isShut 2 (some .boolean), Cond.methodLink RX9 50 yX9_endOf, Cond.instanceMethod yX9_endOf]
def wsX9_judgeOf_r2 : List Cond := [Cond.selects RX9 yX9_endOf yX9_endOf, Cond.code yX9_endOf cX9_endOf 2 (some .int), Cond.methodLink RX9 86 yX9_isExcuse, Cond.instanceMethod yX9_isExcuse, Cond.selects RX9 yX9_isExcuse yX9_isExcuse, Cond.code yX9_isExcuse cX9_isExcuse 5 (some .boolean), Cond.methodLink RX9 77 yX9_wasIll, Cond.instanceMethod yX9_wasIll, Cond.selects RX9 yX9_wasIll yX9_wasIll, Cond.code yX9_wasIll cX9_wasIll 4 (some .boolean), Cond.methodLink RX9 53 yX9_ofE, Cond.instanceMethod yX9_ofE, Cond.selects RX9 yX9_ofE yX9_ofE, Cond.code yX9_ofE cX9_ofE 3 (some .int), Cond.methodLink RX9 89 yX9_placeFor, Cond.instanceMethod yX9_placeFor, Cond.selects RX9 yX9_placeFor yX9_placeFor, Cond.code yX9_placeFor cX9_placeFor 3 (some .int), Cond.methodLink RX9 80 yX9_placeIn, Cond.instanceMethod yX9_placeIn, Cond.selects RX9 yX9_placeIn yX9_placeIn, Cond.code yX9_placeIn cX9_placeIn 3 (some .int)]
def wsX9_judgeOf : List Cond := .code yX9_judgeOf cX9_judgeOf 5 (some .int) :: ((wsX9_judgeOf_r1 ++ wsX9_judgeOf_r2) ++ wsX90)
def wsX9_comes_r1 : List Cond := [Cond.fieldLink RX9 7 "LateExcusesModel" "now" "[I", Cond.methodLink RX9 53 yX9_ofE, Cond.instanceMethod yX9_ofE, Cond.selects RX9 yX9_ofE yX9_ofE, Cond.initialized RX9, Cond.code yX9_ofE cX9_ofE 3 (some .int), Cond.methodLink RX9 92 yX9_judgeOf, Cond.instanceMethod yX9_judgeOf, Cond.selects RX9 yX9_judgeOf yX9_judgeOf, Cond.code yX9_judgeOf cX9_judgeOf 5 (some .int), Cond.methodLink RX9 60 yX9_paneAt, Cond.instanceMethod yX9_paneAt, Cond.selects RX9 yX9_paneAt yX9_paneAt, Cond.code yX9_paneAt cX9_paneAt 2 (some .int), Cond.methodLink RX9 47 yX9_modeOf, Cond.instanceMethod yX9_modeOf, Cond.selects RX9 yX9_modeOf yX9_modeOf, Cond.code yX9_modeOf cX9_modeOf 3 (some .int), Cond.methodLink RX9 39 yX9_find, Cond.instanceMethod yX9_find, Cond.selects RX9 yX9_find yX9_find, Cond.code yX9_find cX9_find 3 (some .int), Cond.methodLink RX9 35 yX9_ofP, Cond.instanceMethod yX9_ofP]
def wsX9_comes_r2 : List Cond := [Cond.selects RX9 yX9_ofP yX9_ofP, Cond.code yX9_ofP cX9_ofP 3 (some .int), Cond.methodLink RX9 83 yX9_isShut, Cond.instanceMethod yX9_isShut, Cond.selects RX9 yX9_isShut yX9_isShut, Cond.code yX9_isShut cX9_isShut 2 (some .boolean), Cond.methodLink RX9 50 yX9_endOf, Cond.instanceMethod yX9_endOf, Cond.selects RX9 yX9_endOf yX9_endOf, Cond.code yX9_endOf cX9_endOf 2 (some .int), Cond.methodLink RX9 86 yX9_isExcuse, Cond.instanceMethod yX9_isExcuse, Cond.selects RX9 yX9_isExcuse yX9_isExcuse, Cond.code yX9_isExcuse cX9_isExcuse 5 (some .boolean), Cond.methodLink RX9 77 yX9_wasIll, Cond.instanceMethod yX9_wasIll, Cond.selects RX9 yX9_wasIll yX9_wasIll, Cond.code yX9_wasIll cX9_wasIll 4 (some .boolean), Cond.methodLink RX9 89 yX9_placeFor, Cond.instanceMethod yX9_placeFor, Cond.selects RX9 yX9_placeFor yX9_placeFor, Cond.code yX9_placeFor cX9_placeFor 3 (some .int), Cond.methodLink RX9 80 yX9_placeIn, Cond.instanceMethod yX9_placeIn]
def wsX9_comes_r3 : List Cond := [Cond.selects RX9 yX9_placeIn yX9_placeIn, Cond.code yX9_placeIn cX9_placeIn 3 (some .int), Cond.methodLink RX9 96 yX9_keeps, Cond.instanceMethod yX9_keeps, Cond.selects RX9 yX9_keeps yX9_keeps, Cond.code yX9_keeps cX9_keeps 4 (some .int), Cond.methodLink RX9 43 yX9_setsP, Cond.instanceMethod yX9_setsP, Cond.selects RX9 yX9_setsP yX9_setsP, Cond.code yX9_setsP cX9_setsP 4 none, Cond.methodLink RX9 99 yX9_takesBack, Cond.instanceMethod yX9_takesBack, Cond.selects RX9 yX9_takesBack yX9_takesBack, Cond.code yX9_takesBack cX9_takesBack 2 none, Cond.methodLink RX9 66 yX9_says, Cond.instanceMethod yX9_says, Cond.selects RX9 yX9_says yX9_says, Cond.code yX9_says cX9_says 6 none, Cond.methodLink RX9 102 yX9_rises, Cond.instanceMethod yX9_rises, Cond.selects RX9 yX9_rises yX9_rises, Cond.code yX9_rises cX9_rises 5 none, Cond.methodLink RX9 70 yX9_nextKept, Cond.instanceMethod yX9_nextKept]
def wsX9_comes_r4 : List Cond := [Cond.selects RX9 yX9_nextKept yX9_nextKept, Cond.code yX9_nextKept cX9_nextKept 4 (some .int), Cond.methodLink RX9 73 yX9_tells, Cond.instanceMethod yX9_tells, Cond.selects RX9 yX9_tells yX9_tells, Cond.code yX9_tells cX9_tells 4 none, Cond.methodLink RX9 63 yX9_sumOf, Cond.instanceMethod yX9_sumOf, Cond.selects RX9 yX9_sumOf yX9_sumOf, Cond.code yX9_sumOf cX9_sumOf 7 (some .int), Cond.methodLink RX9 56 yX9_counts, Cond.instanceMethod yX9_counts, Cond.selects RX9 yX9_counts yX9_counts, Cond.code yX9_counts cX9_counts 2 (some .boolean), Cond.methodLink RX9 27 yX9_isIn, Cond.static yX9_isIn, Cond.code yX9_isIn cX9_isIn 3 (some .boolean)]
def wsX9_comes : List Cond := .code yX9_comes cX9_comes 9 (some .int) :: ((wsX9_comes_r1 ++ (wsX9_comes_r2 ++ (wsX9_comes_r3 ++ wsX9_comes_r4))) ++ wsX90)
def wsX9_isEvent : List Cond := .code yX9_isEvent cX9_isEvent 5 (some .boolean) :: ([.methodLink RX9 27 yX9_isIn, .static yX9_isIn, .initialized RX9, .code yX9_isIn cX9_isIn 3 (some .boolean)])
def wsX9_event_r1 : List Cond := [Cond.constant RX9 31 (-1000001), Cond.methodLink RX9 105 yX9_isEvent, Cond.static yX9_isEvent, Cond.initialized RX9, Cond.code yX9_isEvent cX9_isEvent 5 (some .boolean), Cond.methodLink RX9 27 yX9_isIn, Cond.static yX9_isIn, Cond.code yX9_isIn cX9_isIn 3 (some .boolean), Cond.methodLink RX9 32 yX9_records, Cond.instanceMethod yX9_records, Cond.selects RX9 yX9_records yX9_records, Cond.code yX9_records cX9_records 2 none, Cond.fieldLink RX9 22 "LateExcusesModel" "states" "I", Cond.fieldLink RX9 13 "LateExcusesModel" "kept" "[I", Cond.fieldLink RX9 7 "LateExcusesModel" "now" "[I", Cond.methodLink RX9 109 yX9_comes, Cond.instanceMethod yX9_comes, Cond.selects RX9 yX9_comes yX9_comes, Cond.code yX9_comes cX9_comes 9 (some .int), Cond.methodLink RX9 53 yX9_ofE, Cond.instanceMethod yX9_ofE, Cond.selects RX9 yX9_ofE yX9_ofE, Cond.code yX9_ofE cX9_ofE 3 (some .int), Cond.methodLink RX9 92 yX9_judgeOf]
def wsX9_event_r2 : List Cond := [Cond.instanceMethod yX9_judgeOf, Cond.selects RX9 yX9_judgeOf yX9_judgeOf, Cond.code yX9_judgeOf cX9_judgeOf 5 (some .int), Cond.methodLink RX9 60 yX9_paneAt, Cond.instanceMethod yX9_paneAt, Cond.selects RX9 yX9_paneAt yX9_paneAt, Cond.code yX9_paneAt cX9_paneAt 2 (some .int), Cond.methodLink RX9 47 yX9_modeOf, Cond.instanceMethod yX9_modeOf, Cond.selects RX9 yX9_modeOf yX9_modeOf, Cond.code yX9_modeOf cX9_modeOf 3 (some .int), Cond.methodLink RX9 39 yX9_find, Cond.instanceMethod yX9_find, Cond.selects RX9 yX9_find yX9_find, Cond.code yX9_find cX9_find 3 (some .int), Cond.methodLink RX9 35 yX9_ofP, Cond.instanceMethod yX9_ofP, Cond.selects RX9 yX9_ofP yX9_ofP, Cond.code yX9_ofP cX9_ofP 3 (some .int), Cond.methodLink RX9 83 yX9_isShut, Cond.instanceMethod yX9_isShut, Cond.selects RX9 yX9_isShut yX9_isShut, Cond.code yX9_isShut cX9_isShut 2 (some .boolean), Cond.methodLink RX9 50 yX9_endOf]
def wsX9_event_r3 : List Cond := [Cond.instanceMethod yX9_endOf, Cond.selects RX9 yX9_endOf yX9_endOf, Cond.code yX9_endOf cX9_endOf 2 (some .int), Cond.methodLink RX9 86 yX9_isExcuse, Cond.instanceMethod yX9_isExcuse, Cond.selects RX9 yX9_isExcuse yX9_isExcuse, Cond.code yX9_isExcuse cX9_isExcuse 5 (some .boolean), Cond.methodLink RX9 77 yX9_wasIll, Cond.instanceMethod yX9_wasIll, Cond.selects RX9 yX9_wasIll yX9_wasIll, Cond.code yX9_wasIll cX9_wasIll 4 (some .boolean), Cond.methodLink RX9 89 yX9_placeFor, Cond.instanceMethod yX9_placeFor, Cond.selects RX9 yX9_placeFor yX9_placeFor, Cond.code yX9_placeFor cX9_placeFor 3 (some .int), Cond.methodLink RX9 80 yX9_placeIn, Cond.instanceMethod yX9_placeIn, Cond.selects RX9 yX9_placeIn yX9_placeIn, Cond.code yX9_placeIn cX9_placeIn 3 (some .int), Cond.methodLink RX9 96 yX9_keeps, Cond.instanceMethod yX9_keeps, Cond.selects RX9 yX9_keeps yX9_keeps, Cond.code yX9_keeps cX9_keeps 4 (some .int), Cond.methodLink RX9 43 yX9_setsP]
def wsX9_event_r4 : List Cond := [Cond.instanceMethod yX9_setsP, Cond.selects RX9 yX9_setsP yX9_setsP, Cond.code yX9_setsP cX9_setsP 4 none, Cond.methodLink RX9 99 yX9_takesBack, Cond.instanceMethod yX9_takesBack, Cond.selects RX9 yX9_takesBack yX9_takesBack, Cond.code yX9_takesBack cX9_takesBack 2 none, Cond.methodLink RX9 66 yX9_says, Cond.instanceMethod yX9_says, Cond.selects RX9 yX9_says yX9_says, Cond.code yX9_says cX9_says 6 none, Cond.methodLink RX9 102 yX9_rises, Cond.instanceMethod yX9_rises, Cond.selects RX9 yX9_rises yX9_rises, Cond.code yX9_rises cX9_rises 5 none, Cond.methodLink RX9 70 yX9_nextKept, Cond.instanceMethod yX9_nextKept, Cond.selects RX9 yX9_nextKept yX9_nextKept, Cond.code yX9_nextKept cX9_nextKept 4 (some .int), Cond.methodLink RX9 73 yX9_tells, Cond.instanceMethod yX9_tells, Cond.selects RX9 yX9_tells yX9_tells, Cond.code yX9_tells cX9_tells 4 none, Cond.methodLink RX9 63 yX9_sumOf]
def wsX9_event_r5 : List Cond := [Cond.instanceMethod yX9_sumOf, Cond.selects RX9 yX9_sumOf yX9_sumOf, Cond.code yX9_sumOf cX9_sumOf 7 (some .int), Cond.methodLink RX9 56 yX9_counts, Cond.instanceMethod yX9_counts, Cond.selects RX9 yX9_counts yX9_counts, Cond.code yX9_counts cX9_counts 2 (some .boolean)]
def wsX9_event : List Cond := .code yX9_event cX9_event 6 (some .int) :: ((wsX9_event_r1 ++ (wsX9_event_r2 ++ (wsX9_event_r3 ++ (wsX9_event_r4 ++ wsX9_event_r5)))) ++ wsX90)
def wsX9_move_r1 : List Cond := [Cond.constant RX9 31 (-1000001), Cond.fieldLink RX9 7 "LateExcusesModel" "now" "[I", Cond.constant RX9 26 (-1000002), Cond.methodLink RX9 27 yX9_isIn, Cond.static yX9_isIn, Cond.initialized RX9, Cond.code yX9_isIn cX9_isIn 3 (some .boolean), Cond.methodLink RX9 32 yX9_records, Cond.instanceMethod yX9_records, Cond.selects RX9 yX9_records yX9_records, Cond.code yX9_records cX9_records 2 none, Cond.fieldLink RX9 22 "LateExcusesModel" "states" "I", Cond.fieldLink RX9 13 "LateExcusesModel" "kept" "[I", Cond.methodLink RX9 50 yX9_endOf, Cond.instanceMethod yX9_endOf, Cond.selects RX9 yX9_endOf yX9_endOf, Cond.code yX9_endOf cX9_endOf 2 (some .int), Cond.methodLink RX9 47 yX9_modeOf, Cond.instanceMethod yX9_modeOf, Cond.selects RX9 yX9_modeOf yX9_modeOf, Cond.code yX9_modeOf cX9_modeOf 3 (some .int), Cond.methodLink RX9 39 yX9_find, Cond.instanceMethod yX9_find, Cond.selects RX9 yX9_find yX9_find]
def wsX9_move_r2 : List Cond := [Cond.code yX9_find cX9_find 3 (some .int), Cond.methodLink RX9 35 yX9_ofP, Cond.instanceMethod yX9_ofP, Cond.selects RX9 yX9_ofP yX9_ofP, Cond.code yX9_ofP cX9_ofP 3 (some .int), Cond.methodLink RX9 99 yX9_takesBack, Cond.instanceMethod yX9_takesBack, Cond.selects RX9 yX9_takesBack yX9_takesBack, Cond.code yX9_takesBack cX9_takesBack 2 none, Cond.methodLink RX9 43 yX9_setsP, Cond.instanceMethod yX9_setsP, Cond.selects RX9 yX9_setsP yX9_setsP, Cond.code yX9_setsP cX9_setsP 4 none, Cond.methodLink RX9 66 yX9_says, Cond.instanceMethod yX9_says, Cond.selects RX9 yX9_says yX9_says, Cond.code yX9_says cX9_says 6 none]
def wsX9_move : List Cond := .code yX9_move cX9_move 6 (some .int) :: ((wsX9_move_r1 ++ wsX9_move_r2) ++ wsX90)
def wsX9_isPane : List Cond := .code yX9_isPane cX9_isPane 2 (some .boolean) :: ([.fieldLink RX9 7 "LateExcusesModel" "now" "[I", .methodLink RX9 27 yX9_isIn, .static yX9_isIn, .initialized RX9, .code yX9_isIn cX9_isIn 3 (some .boolean)] ++ wsX90)
def wsX9_stateOf : List Cond := .code yX9_stateOf cX9_stateOf 3 (some .int) :: ([.methodLink RX9 47 yX9_modeOf, .instanceMethod yX9_modeOf, .selects RX9 yX9_modeOf yX9_modeOf, .initialized RX9, .code yX9_modeOf cX9_modeOf 3 (some .int), .methodLink RX9 39 yX9_find, .instanceMethod yX9_find, .selects RX9 yX9_find yX9_find, .code yX9_find cX9_find 3 (some .int), .fieldLink RX9 7 "LateExcusesModel" "now" "[I", .methodLink RX9 35 yX9_ofP, .instanceMethod yX9_ofP, .selects RX9 yX9_ofP yX9_ofP, .code yX9_ofP cX9_ofP 3 (some .int), .methodLink RX9 83 yX9_isShut, .instanceMethod yX9_isShut, .selects RX9 yX9_isShut yX9_isShut, .code yX9_isShut cX9_isShut 2 (some .boolean), .methodLink RX9 50 yX9_endOf, .instanceMethod yX9_endOf, .selects RX9 yX9_endOf yX9_endOf, .code yX9_endOf cX9_endOf 2 (some .int)] ++ wsX90)
def wsX9_paneOf_r1 : List Cond := [Cond.constant RX9 31 (-1000001), Cond.constant RX9 119 (-1000004), Cond.methodLink RX9 113 yX9_isPane, Cond.instanceMethod yX9_isPane, Cond.selects RX9 yX9_isPane yX9_isPane, Cond.initialized RX9, Cond.code yX9_isPane cX9_isPane 2 (some .boolean), Cond.fieldLink RX9 7 "LateExcusesModel" "now" "[I", Cond.methodLink RX9 27 yX9_isIn, Cond.static yX9_isIn, Cond.code yX9_isIn cX9_isIn 3 (some .boolean), Cond.methodLink RX9 39 yX9_find, Cond.instanceMethod yX9_find, Cond.selects RX9 yX9_find yX9_find, Cond.code yX9_find cX9_find 3 (some .int), Cond.methodLink RX9 35 yX9_ofP, Cond.instanceMethod yX9_ofP, Cond.selects RX9 yX9_ofP yX9_ofP, Cond.code yX9_ofP cX9_ofP 3 (some .int), Cond.methodLink RX9 116 yX9_stateOf, Cond.instanceMethod yX9_stateOf, Cond.selects RX9 yX9_stateOf yX9_stateOf, Cond.code yX9_stateOf cX9_stateOf 3 (some .int), Cond.methodLink RX9 47 yX9_modeOf]
def wsX9_paneOf_r2 : List Cond := [Cond.instanceMethod yX9_modeOf, Cond.selects RX9 yX9_modeOf yX9_modeOf, Cond.code yX9_modeOf cX9_modeOf 3 (some .int), Cond.methodLink RX9 83 yX9_isShut, Cond.instanceMethod yX9_isShut, Cond.selects RX9 yX9_isShut yX9_isShut, Cond.code yX9_isShut cX9_isShut 2 (some .boolean), Cond.methodLink RX9 50 yX9_endOf, Cond.instanceMethod yX9_endOf, Cond.selects RX9 yX9_endOf yX9_endOf, Cond.code yX9_endOf cX9_endOf 2 (some .int), Cond.methodLink RX9 63 yX9_sumOf, Cond.instanceMethod yX9_sumOf, Cond.selects RX9 yX9_sumOf yX9_sumOf, Cond.code yX9_sumOf cX9_sumOf 7 (some .int), Cond.methodLink RX9 56 yX9_counts, Cond.instanceMethod yX9_counts, Cond.selects RX9 yX9_counts yX9_counts, Cond.code yX9_counts cX9_counts 2 (some .boolean), Cond.methodLink RX9 53 yX9_ofE, Cond.instanceMethod yX9_ofE, Cond.selects RX9 yX9_ofE yX9_ofE, Cond.code yX9_ofE cX9_ofE 3 (some .int), Cond.methodLink RX9 60 yX9_paneAt]
def wsX9_paneOf_r3 : List Cond := [Cond.instanceMethod yX9_paneAt, Cond.selects RX9 yX9_paneAt yX9_paneAt, Cond.code yX9_paneAt cX9_paneAt 2 (some .int)]
def wsX9_paneOf : List Cond := .code yX9_paneOf cX9_paneOf 4 (some .int) :: ((wsX9_paneOf_r1 ++ (wsX9_paneOf_r2 ++ wsX9_paneOf_r3)) ++ wsX90)
def wsX9_bitsOf : List Cond := .code yX9_bitsOf cX9_bitsOf 4 (some .int) :: ([.constantFloat RX9 120 (1258291200), .constant RX9 121 (-2147483648)])
def wsX9_mean_r1 : List Cond := [Cond.constant RX9 31 (-1000001), Cond.constant RX9 119 (-1000004), Cond.methodLink RX9 113 yX9_isPane, Cond.instanceMethod yX9_isPane, Cond.selects RX9 yX9_isPane yX9_isPane, Cond.initialized RX9, Cond.code yX9_isPane cX9_isPane 2 (some .boolean), Cond.fieldLink RX9 7 "LateExcusesModel" "now" "[I", Cond.methodLink RX9 27 yX9_isIn, Cond.static yX9_isIn, Cond.code yX9_isIn cX9_isIn 3 (some .boolean), Cond.methodLink RX9 63 yX9_sumOf, Cond.instanceMethod yX9_sumOf, Cond.selects RX9 yX9_sumOf yX9_sumOf, Cond.code yX9_sumOf cX9_sumOf 7 (some .int), Cond.methodLink RX9 56 yX9_counts, Cond.instanceMethod yX9_counts, Cond.selects RX9 yX9_counts yX9_counts, Cond.code yX9_counts cX9_counts 2 (some .boolean), Cond.methodLink RX9 53 yX9_ofE, Cond.instanceMethod yX9_ofE, Cond.selects RX9 yX9_ofE yX9_ofE, Cond.code yX9_ofE cX9_ofE 3 (some .int), Cond.methodLink RX9 60 yX9_paneAt]
def wsX9_mean_r2 : List Cond := [Cond.instanceMethod yX9_paneAt, Cond.selects RX9 yX9_paneAt yX9_paneAt, Cond.code yX9_paneAt cX9_paneAt 2 (some .int), Cond.methodLink RX9 122 yX9_bitsOf, Cond.static yX9_bitsOf, Cond.code yX9_bitsOf cX9_bitsOf 4 (some .int), Cond.constantFloat RX9 120 (1258291200), Cond.constant RX9 121 (-2147483648)]
def wsX9_mean : List Cond := .code yX9_mean cX9_mean 3 (some .int) :: ((wsX9_mean_r1 ++ wsX9_mean_r2) ++ wsX90)
def wsX9_standing : List Cond := .code yX9_standing cX9_standing 4 (some .int) :: ([.constant RX9 31 (-1000001), .constant RX9 119 (-1000004), .methodLink RX9 113 yX9_isPane, .instanceMethod yX9_isPane, .selects RX9 yX9_isPane yX9_isPane, .initialized RX9, .code yX9_isPane cX9_isPane 2 (some .boolean), .fieldLink RX9 7 "LateExcusesModel" "now" "[I", .methodLink RX9 27 yX9_isIn, .static yX9_isIn, .code yX9_isIn cX9_isIn 3 (some .boolean), .methodLink RX9 39 yX9_find, .instanceMethod yX9_find, .selects RX9 yX9_find yX9_find, .code yX9_find cX9_find 3 (some .int), .methodLink RX9 35 yX9_ofP, .instanceMethod yX9_ofP, .selects RX9 yX9_ofP yX9_ofP, .code yX9_ofP cX9_ofP 3 (some .int)] ++ wsX90)
def wsX9_nextPane_r1 : List Cond := [Cond.constant RX9 31 (-1000001), Cond.constant RX9 119 (-1000004), Cond.methodLink RX9 27 yX9_isIn, Cond.static yX9_isIn, Cond.initialized RX9, Cond.code yX9_isIn cX9_isIn 3 (some .boolean), Cond.methodLink RX9 70 yX9_nextKept, Cond.instanceMethod yX9_nextKept, Cond.selects RX9 yX9_nextKept yX9_nextKept, Cond.code yX9_nextKept cX9_nextKept 4 (some .int), Cond.fieldLink RX9 7 "LateExcusesModel" "now" "[I", Cond.methodLink RX9 35 yX9_ofP, Cond.instanceMethod yX9_ofP, Cond.selects RX9 yX9_ofP yX9_ofP, Cond.code yX9_ofP cX9_ofP 3 (some .int), Cond.methodLink RX9 63 yX9_sumOf, Cond.instanceMethod yX9_sumOf, Cond.selects RX9 yX9_sumOf yX9_sumOf, Cond.code yX9_sumOf cX9_sumOf 7 (some .int), Cond.methodLink RX9 56 yX9_counts, Cond.instanceMethod yX9_counts, Cond.selects RX9 yX9_counts yX9_counts, Cond.code yX9_counts cX9_counts 2 (some .boolean), Cond.methodLink RX9 53 yX9_ofE]
def wsX9_nextPane_r2 : List Cond := [Cond.instanceMethod yX9_ofE, Cond.selects RX9 yX9_ofE yX9_ofE, Cond.code yX9_ofE cX9_ofE 3 (some .int), Cond.methodLink RX9 60 yX9_paneAt, Cond.instanceMethod yX9_paneAt, Cond.selects RX9 yX9_paneAt yX9_paneAt, Cond.code yX9_paneAt cX9_paneAt 2 (some .int)]
def wsX9_nextPane : List Cond := .code yX9_nextPane cX9_nextPane 4 (some .int) :: ((wsX9_nextPane_r1 ++ wsX9_nextPane_r2) ++ wsX90)
def wsX9_wordAt : List Cond := .code yX9_wordAt cX9_wordAt 3 (some .int) :: ([.constant RX9 31 (-1000001), .fieldLink RX9 7 "LateExcusesModel" "now" "[I", .constant RX9 119 (-1000004), .methodLink RX9 27 yX9_isIn, .static yX9_isIn, .initialized RX9, .code yX9_isIn cX9_isIn 3 (some .boolean)] ++ wsX90)
def wsX9_eventOf : List Cond := .code yX9_eventOf cX9_eventOf 3 (some .int) :: ([.constant RX9 31 (-1000001), .constant RX9 119 (-1000004), .methodLink RX9 27 yX9_isIn, .static yX9_isIn, .initialized RX9, .code yX9_isIn cX9_isIn 3 (some .boolean), .methodLink RX9 53 yX9_ofE, .instanceMethod yX9_ofE, .selects RX9 yX9_ofE yX9_ofE, .code yX9_ofE cX9_ofE 3 (some .int), .fieldLink RX9 7 "LateExcusesModel" "now" "[I", .methodLink RX9 60 yX9_paneAt, .instanceMethod yX9_paneAt, .selects RX9 yX9_paneAt yX9_paneAt, .code yX9_paneAt cX9_paneAt 2 (some .int)] ++ wsX90)
def wsX9_judge_r1 : List Cond := [Cond.constant RX9 31 (-1000001), Cond.methodLink RX9 105 yX9_isEvent, Cond.static yX9_isEvent, Cond.initialized RX9, Cond.code yX9_isEvent cX9_isEvent 5 (some .boolean), Cond.methodLink RX9 27 yX9_isIn, Cond.static yX9_isIn, Cond.code yX9_isIn cX9_isIn 3 (some .boolean), Cond.methodLink RX9 92 yX9_judgeOf, Cond.instanceMethod yX9_judgeOf, Cond.selects RX9 yX9_judgeOf yX9_judgeOf, Cond.code yX9_judgeOf cX9_judgeOf 5 (some .int), Cond.methodLink RX9 60 yX9_paneAt, Cond.instanceMethod yX9_paneAt, Cond.selects RX9 yX9_paneAt yX9_paneAt, Cond.code yX9_paneAt cX9_paneAt 2 (some .int), Cond.fieldLink RX9 7 "LateExcusesModel" "now" "[I", Cond.methodLink RX9 47 yX9_modeOf, Cond.instanceMethod yX9_modeOf, Cond.selects RX9 yX9_modeOf yX9_modeOf, Cond.code yX9_modeOf cX9_modeOf 3 (some .int), Cond.methodLink RX9 39 yX9_find, Cond.instanceMethod yX9_find, Cond.selects RX9 yX9_find yX9_find]
def wsX9_judge_r2 : List Cond := [Cond.code yX9_find cX9_find 3 (some .int), Cond.methodLink RX9 35 yX9_ofP, Cond.instanceMethod yX9_ofP, Cond.selects RX9 yX9_ofP yX9_ofP, Cond.code yX9_ofP cX9_ofP 3 (some .int), Cond.methodLink RX9 83 yX9_isShut, Cond.instanceMethod yX9_isShut, Cond.selects RX9 yX9_isShut yX9_isShut, Cond.code yX9_isShut cX9_isShut 2 (some .boolean), Cond.methodLink RX9 50 yX9_endOf, Cond.instanceMethod yX9_endOf, Cond.selects RX9 yX9_endOf yX9_endOf, Cond.code yX9_endOf cX9_endOf 2 (some .int), Cond.methodLink RX9 86 yX9_isExcuse, Cond.instanceMethod yX9_isExcuse, Cond.selects RX9 yX9_isExcuse yX9_isExcuse, Cond.code yX9_isExcuse cX9_isExcuse 5 (some .boolean), Cond.methodLink RX9 77 yX9_wasIll, Cond.instanceMethod yX9_wasIll, Cond.selects RX9 yX9_wasIll yX9_wasIll, Cond.code yX9_wasIll cX9_wasIll 4 (some .boolean), Cond.methodLink RX9 53 yX9_ofE, Cond.instanceMethod yX9_ofE, Cond.selects RX9 yX9_ofE yX9_ofE]
def wsX9_judge_r3 : List Cond := [Cond.code yX9_ofE cX9_ofE 3 (some .int), Cond.methodLink RX9 89 yX9_placeFor, Cond.instanceMethod yX9_placeFor, Cond.selects RX9 yX9_placeFor yX9_placeFor, Cond.code yX9_placeFor cX9_placeFor 3 (some .int), Cond.methodLink RX9 80 yX9_placeIn, Cond.instanceMethod yX9_placeIn, Cond.selects RX9 yX9_placeIn yX9_placeIn, Cond.code yX9_placeIn cX9_placeIn 3 (some .int)]
def wsX9_judge : List Cond := .code yX9_judge cX9_judge 4 (some .int) :: ((wsX9_judge_r1 ++ (wsX9_judge_r2 ++ wsX9_judge_r3)) ++ wsX90)
def wsX9_lateness_r1 : List Cond := [Cond.constant RX9 31 (-1000001), Cond.fieldLink RX9 7 "LateExcusesModel" "now" "[I", Cond.constant RX9 119 (-1000004), Cond.methodLink RX9 27 yX9_isIn, Cond.static yX9_isIn, Cond.initialized RX9, Cond.code yX9_isIn cX9_isIn 3 (some .boolean), Cond.methodLink RX9 60 yX9_paneAt, Cond.instanceMethod yX9_paneAt, Cond.selects RX9 yX9_paneAt yX9_paneAt, Cond.code yX9_paneAt cX9_paneAt 2 (some .int), Cond.methodLink RX9 83 yX9_isShut, Cond.instanceMethod yX9_isShut, Cond.selects RX9 yX9_isShut yX9_isShut, Cond.code yX9_isShut cX9_isShut 2 (some .boolean), Cond.methodLink RX9 47 yX9_modeOf, Cond.instanceMethod yX9_modeOf, Cond.selects RX9 yX9_modeOf yX9_modeOf, Cond.code yX9_modeOf cX9_modeOf 3 (some .int), Cond.methodLink RX9 39 yX9_find, Cond.instanceMethod yX9_find, Cond.selects RX9 yX9_find yX9_find, Cond.code yX9_find cX9_find 3 (some .int), Cond.methodLink RX9 35 yX9_ofP]
def wsX9_lateness_r2 : List Cond := [Cond.instanceMethod yX9_ofP, Cond.selects RX9 yX9_ofP yX9_ofP, Cond.code yX9_ofP cX9_ofP 3 (some .int), Cond.methodLink RX9 50 yX9_endOf, Cond.instanceMethod yX9_endOf, Cond.selects RX9 yX9_endOf yX9_endOf, Cond.code yX9_endOf cX9_endOf 2 (some .int)]
def wsX9_lateness : List Cond := .code yX9_lateness cX9_lateness 3 (some .int) :: ((wsX9_lateness_r1 ++ wsX9_lateness_r2) ++ wsX90)
def wsX9_latestExcused_r1 : List Cond := [Cond.constant RX9 31 (-1000001), Cond.constant RX9 119 (-1000004), Cond.methodLink RX9 27 yX9_isIn, Cond.static yX9_isIn, Cond.initialized RX9, Cond.code yX9_isIn cX9_isIn 3 (some .boolean), Cond.methodLink RX9 60 yX9_paneAt, Cond.instanceMethod yX9_paneAt, Cond.selects RX9 yX9_paneAt yX9_paneAt, Cond.code yX9_paneAt cX9_paneAt 2 (some .int), Cond.fieldLink RX9 7 "LateExcusesModel" "now" "[I", Cond.methodLink RX9 83 yX9_isShut, Cond.instanceMethod yX9_isShut, Cond.selects RX9 yX9_isShut yX9_isShut, Cond.code yX9_isShut cX9_isShut 2 (some .boolean), Cond.methodLink RX9 47 yX9_modeOf, Cond.instanceMethod yX9_modeOf, Cond.selects RX9 yX9_modeOf yX9_modeOf, Cond.code yX9_modeOf cX9_modeOf 3 (some .int), Cond.methodLink RX9 39 yX9_find, Cond.instanceMethod yX9_find, Cond.selects RX9 yX9_find yX9_find, Cond.code yX9_find cX9_find 3 (some .int), Cond.methodLink RX9 35 yX9_ofP]
def wsX9_latestExcused_r2 : List Cond := [Cond.instanceMethod yX9_ofP, Cond.selects RX9 yX9_ofP yX9_ofP, Cond.code yX9_ofP cX9_ofP 3 (some .int), Cond.methodLink RX9 50 yX9_endOf, Cond.instanceMethod yX9_endOf, Cond.selects RX9 yX9_endOf yX9_endOf, Cond.code yX9_endOf cX9_endOf 2 (some .int), Cond.methodLink RX9 86 yX9_isExcuse, Cond.instanceMethod yX9_isExcuse, Cond.selects RX9 yX9_isExcuse yX9_isExcuse, Cond.code yX9_isExcuse cX9_isExcuse 5 (some .boolean), Cond.methodLink RX9 77 yX9_wasIll, Cond.instanceMethod yX9_wasIll, Cond.selects RX9 yX9_wasIll yX9_wasIll, Cond.code yX9_wasIll cX9_wasIll 4 (some .boolean), Cond.methodLink RX9 53 yX9_ofE, Cond.instanceMethod yX9_ofE, Cond.selects RX9 yX9_ofE yX9_ofE, Cond.code yX9_ofE cX9_ofE 3 (some .int)]
def wsX9_latestExcused : List Cond := .code yX9_latestExcused cX9_latestExcused 4 (some .int) :: ((wsX9_latestExcused_r1 ++ wsX9_latestExcused_r2) ++ wsX90)
def wsX9_filed : List Cond := .code yX9_filed cX9_filed 4 (some .int) :: ([.constant RX9 31 (-1000001), .fieldLink RX9 7 "LateExcusesModel" "now" "[I", .constant RX9 119 (-1000004), .methodLink RX9 27 yX9_isIn, .static yX9_isIn, .initialized RX9, .code yX9_isIn cX9_isIn 3 (some .boolean)] ++ wsX90)
def wsX9_trust : List Cond := .code yX9_trust cX9_trust 5 (some .int) :: ([.constant RX9 31 (-1000001), .constantFloat RX9 126 (1056964608), .constant RX9 119 (-1000004), .methodLink RX9 27 yX9_isIn, .static yX9_isIn, .initialized RX9, .code yX9_isIn cX9_isIn 3 (some .boolean), .methodLink RX9 53 yX9_ofE, .instanceMethod yX9_ofE, .selects RX9 yX9_ofE yX9_ofE, .code yX9_ofE cX9_ofE 3 (some .int), .fieldLink RX9 7 "LateExcusesModel" "now" "[I", .methodLink RX9 122 yX9_bitsOf, .static yX9_bitsOf, .code yX9_bitsOf cX9_bitsOf 4 (some .int), .constantFloat RX9 120 (1258291200), .constant RX9 121 (-2147483648)] ++ wsX90)
def wsX9_results : List Cond := .code yX9_results cX9_results 5 (some .int) :: ([.methodLink RX9 53 yX9_ofE, .instanceMethod yX9_ofE, .selects RX9 yX9_ofE yX9_ofE, .initialized RX9, .code yX9_ofE cX9_ofE 3 (some .int), .fieldLink RX9 7 "LateExcusesModel" "now" "[I", .methodLink RX9 27 yX9_isIn, .static yX9_isIn, .code yX9_isIn cX9_isIn 3 (some .boolean)] ++ wsX90)
def wsX9_cases : List Cond := .code yX9_cases cX9_cases 3 (some .int) :: ([.fieldLink RX9 7 "LateExcusesModel" "now" "[I", .methodLink RX9 35 yX9_ofP, .instanceMethod yX9_ofP, .selects RX9 yX9_ofP yX9_ofP, .initialized RX9, .code yX9_ofP cX9_ofP 3 (some .int)] ++ wsX90)
def wsX9_count : List Cond := .code yX9_count cX9_count 2 (some .int) :: ([.fieldLink RX9 7 "LateExcusesModel" "now" "[I", .fieldLink RX9 22 "LateExcusesModel" "states" "I", .fieldLink RX9 134 "LateExcusesModel" "length" "I", .constant RX9 31 (-1000001), .methodLink RX9 27 yX9_isIn, .static yX9_isIn, .initialized RX9, .code yX9_isIn cX9_isIn 3 (some .boolean), .methodLink RX9 127 yX9_results, .instanceMethod yX9_results, .selects RX9 yX9_results yX9_results, .code yX9_results cX9_results 5 (some .int), .methodLink RX9 53 yX9_ofE, .instanceMethod yX9_ofE, .selects RX9 yX9_ofE yX9_ofE, .code yX9_ofE cX9_ofE 3 (some .int), .methodLink RX9 130 yX9_cases, .instanceMethod yX9_cases, .selects RX9 yX9_cases yX9_cases, .code yX9_cases cX9_cases 3 (some .int), .methodLink RX9 35 yX9_ofP, .instanceMethod yX9_ofP, .selects RX9 yX9_ofP yX9_ofP, .code yX9_ofP cX9_ofP 3 (some .int)] ++ wsX90)
def wsX9_type : List Cond := .code yX9_type cX9_type 2 (some .int) :: ([.constant RX9 31 (-1000001), .fieldLink RX9 134 "LateExcusesModel" "length" "I", .constant RX9 137 (-1000003), .fieldLink RX9 16 "LateExcusesModel" "text" "[I", .methodLink RX9 27 yX9_isIn, .static yX9_isIn, .initialized RX9, .code yX9_isIn cX9_isIn 3 (some .boolean)] ++ wsX90)
def wsX9_clearText : List Cond := .code yX9_clearText cX9_clearText 2 (some .int) :: ([.fieldLink RX9 134 "LateExcusesModel" "length" "I"] ++ wsX90)
def wsX9_passes : List Cond := .code yX9_passes cX9_passes 3 (some .boolean) :: ([.fieldLink RX9 138 "LateExcusesModel" "at" "I", .fieldLink RX9 134 "LateExcusesModel" "length" "I", .fieldLink RX9 16 "LateExcusesModel" "text" "[I"] ++ wsX90)
def wsX9_passesNumber : List Cond := .code yX9_passesNumber cX9_passesNumber 2 (some .boolean) :: ([.fieldLink RX9 141 "LateExcusesModel" "number" "I", .fieldLink RX9 138 "LateExcusesModel" "at" "I", .fieldLink RX9 134 "LateExcusesModel" "length" "I", .fieldLink RX9 16 "LateExcusesModel" "text" "[I", .methodLink RX9 27 yX9_isIn, .static yX9_isIn, .initialized RX9, .code yX9_isIn cX9_isIn 3 (some .boolean)] ++ wsX90)
def wsX9_excuseHere : List Cond := .code yX9_excuseHere cX9_excuseHere 1 (some .int) :: ([.methodLink RX9 144 yX9_passes, .instanceMethod yX9_passes, .selects RX9 yX9_passes yX9_passes, .initialized RX9, .code yX9_passes cX9_passes 3 (some .boolean), .fieldLink RX9 138 "LateExcusesModel" "at" "I", .fieldLink RX9 134 "LateExcusesModel" "length" "I", .fieldLink RX9 16 "LateExcusesModel" "text" "[I"] ++ wsX90)
def wsX9_passesEvent : List Cond := .code yX9_passesEvent cX9_passesEvent 2 (some .boolean) :: ([.fieldLink RX9 19 "LateExcusesModel" "read" "[I", .fieldLink RX9 141 "LateExcusesModel" "number" "I", .methodLink RX9 147 yX9_passesNumber, .instanceMethod yX9_passesNumber, .selects RX9 yX9_passesNumber yX9_passesNumber, .initialized RX9, .code yX9_passesNumber cX9_passesNumber 2 (some .boolean), .fieldLink RX9 138 "LateExcusesModel" "at" "I", .fieldLink RX9 134 "LateExcusesModel" "length" "I", .fieldLink RX9 16 "LateExcusesModel" "text" "[I", .methodLink RX9 27 yX9_isIn, .static yX9_isIn, .code yX9_isIn cX9_isIn 3 (some .boolean), .methodLink RX9 144 yX9_passes, .instanceMethod yX9_passes, .selects RX9 yX9_passes yX9_passes, .code yX9_passes cX9_passes 3 (some .boolean), .methodLink RX9 151 yX9_excuseHere, .instanceMethod yX9_excuseHere, .selects RX9 yX9_excuseHere yX9_excuseHere, .code yX9_excuseHere cX9_excuseHere 1 (some .int)] ++ wsX90)
def wsX9_faultOf_r1 : List Cond := [Cond.fieldLink RX9 138 "LateExcusesModel" "at" "I", Cond.fieldLink RX9 134 "LateExcusesModel" "length" "I", Cond.fieldLink RX9 19 "LateExcusesModel" "read" "[I", Cond.methodLink RX9 154 yX9_passesEvent, Cond.instanceMethod yX9_passesEvent, Cond.selects RX9 yX9_passesEvent yX9_passesEvent, Cond.initialized RX9, Cond.code yX9_passesEvent cX9_passesEvent 2 (some .boolean), Cond.fieldLink RX9 141 "LateExcusesModel" "number" "I", Cond.methodLink RX9 147 yX9_passesNumber, Cond.instanceMethod yX9_passesNumber, Cond.selects RX9 yX9_passesNumber yX9_passesNumber, Cond.code yX9_passesNumber cX9_passesNumber 2 (some .boolean), Cond.fieldLink RX9 16 "LateExcusesModel" "text" "[I", Cond.methodLink RX9 27 yX9_isIn, Cond.static yX9_isIn, Cond.code yX9_isIn cX9_isIn 3 (some .boolean), Cond.methodLink RX9 144 yX9_passes, Cond.instanceMethod yX9_passes, Cond.selects RX9 yX9_passes yX9_passes, Cond.code yX9_passes cX9_passes 3 (some .boolean), Cond.methodLink RX9 151 yX9_excuseHere, Cond.instanceMethod yX9_excuseHere, Cond.selects RX9 yX9_excuseHere yX9_excuseHere]
def wsX9_faultOf_r2 : List Cond := [Cond.code yX9_excuseHere cX9_excuseHere 1 (some .int), Cond.methodLink RX9 105 yX9_isEvent, Cond.static yX9_isEvent, Cond.code yX9_isEvent cX9_isEvent 5 (some .boolean)]
def wsX9_faultOf : List Cond := .code yX9_faultOf cX9_faultOf 2 (some .int) :: ((wsX9_faultOf_r1 ++ wsX9_faultOf_r2) ++ wsX90)
def wsX9_fault_r1 : List Cond := [Cond.constant RX9 31 (-1000001), Cond.constant RX9 119 (-1000004), Cond.methodLink RX9 27 yX9_isIn, Cond.static yX9_isIn, Cond.initialized RX9, Cond.code yX9_isIn cX9_isIn 3 (some .boolean), Cond.methodLink RX9 157 yX9_faultOf, Cond.instanceMethod yX9_faultOf, Cond.selects RX9 yX9_faultOf yX9_faultOf, Cond.code yX9_faultOf cX9_faultOf 2 (some .int), Cond.fieldLink RX9 138 "LateExcusesModel" "at" "I", Cond.fieldLink RX9 134 "LateExcusesModel" "length" "I", Cond.fieldLink RX9 19 "LateExcusesModel" "read" "[I", Cond.methodLink RX9 154 yX9_passesEvent, Cond.instanceMethod yX9_passesEvent, Cond.selects RX9 yX9_passesEvent yX9_passesEvent, Cond.code yX9_passesEvent cX9_passesEvent 2 (some .boolean), Cond.fieldLink RX9 141 "LateExcusesModel" "number" "I", Cond.methodLink RX9 147 yX9_passesNumber, Cond.instanceMethod yX9_passesNumber, Cond.selects RX9 yX9_passesNumber yX9_passesNumber, Cond.code yX9_passesNumber cX9_passesNumber 2 (some .boolean), Cond.fieldLink RX9 16 "LateExcusesModel" "text" "[I", Cond.methodLink RX9 144 yX9_passes]
def wsX9_fault_r2 : List Cond := [Cond.instanceMethod yX9_passes, Cond.selects RX9 yX9_passes yX9_passes, Cond.code yX9_passes cX9_passes 3 (some .boolean), Cond.methodLink RX9 151 yX9_excuseHere, Cond.instanceMethod yX9_excuseHere, Cond.selects RX9 yX9_excuseHere yX9_excuseHere, Cond.code yX9_excuseHere cX9_excuseHere 1 (some .int), Cond.methodLink RX9 105 yX9_isEvent, Cond.static yX9_isEvent, Cond.code yX9_isEvent cX9_isEvent 5 (some .boolean)]
def wsX9_fault : List Cond := .code yX9_fault cX9_fault 3 (some .int) :: ((wsX9_fault_r1 ++ wsX9_fault_r2) ++ wsX90)
def wsX9_play_r1 : List Cond := [Cond.constant RX9 26 (-1000002), Cond.fieldLink RX9 138 "LateExcusesModel" "at" "I", Cond.fieldLink RX9 134 "LateExcusesModel" "length" "I", Cond.fieldLink RX9 19 "LateExcusesModel" "read" "[I", Cond.methodLink RX9 157 yX9_faultOf, Cond.instanceMethod yX9_faultOf, Cond.selects RX9 yX9_faultOf yX9_faultOf, Cond.initialized RX9, Cond.code yX9_faultOf cX9_faultOf 2 (some .int), Cond.methodLink RX9 154 yX9_passesEvent, Cond.instanceMethod yX9_passesEvent, Cond.selects RX9 yX9_passesEvent yX9_passesEvent, Cond.code yX9_passesEvent cX9_passesEvent 2 (some .boolean), Cond.fieldLink RX9 141 "LateExcusesModel" "number" "I", Cond.methodLink RX9 147 yX9_passesNumber, Cond.instanceMethod yX9_passesNumber, Cond.selects RX9 yX9_passesNumber yX9_passesNumber, Cond.code yX9_passesNumber cX9_passesNumber 2 (some .boolean), Cond.fieldLink RX9 16 "LateExcusesModel" "text" "[I", Cond.methodLink RX9 27 yX9_isIn, Cond.static yX9_isIn, Cond.code yX9_isIn cX9_isIn 3 (some .boolean), Cond.methodLink RX9 144 yX9_passes, Cond.instanceMethod yX9_passes]
def wsX9_play_r2 : List Cond := [Cond.selects RX9 yX9_passes yX9_passes, Cond.code yX9_passes cX9_passes 3 (some .boolean), Cond.methodLink RX9 151 yX9_excuseHere, Cond.instanceMethod yX9_excuseHere, Cond.selects RX9 yX9_excuseHere yX9_excuseHere, Cond.code yX9_excuseHere cX9_excuseHere 1 (some .int), Cond.methodLink RX9 105 yX9_isEvent, Cond.static yX9_isEvent, Cond.code yX9_isEvent cX9_isEvent 5 (some .boolean), Cond.methodLink RX9 32 yX9_records, Cond.instanceMethod yX9_records, Cond.selects RX9 yX9_records yX9_records, Cond.code yX9_records cX9_records 2 none, Cond.fieldLink RX9 22 "LateExcusesModel" "states" "I", Cond.fieldLink RX9 13 "LateExcusesModel" "kept" "[I", Cond.fieldLink RX9 7 "LateExcusesModel" "now" "[I", Cond.methodLink RX9 109 yX9_comes, Cond.instanceMethod yX9_comes, Cond.selects RX9 yX9_comes yX9_comes, Cond.code yX9_comes cX9_comes 9 (some .int), Cond.methodLink RX9 53 yX9_ofE, Cond.instanceMethod yX9_ofE, Cond.selects RX9 yX9_ofE yX9_ofE, Cond.code yX9_ofE cX9_ofE 3 (some .int)]
def wsX9_play_r3 : List Cond := [Cond.methodLink RX9 92 yX9_judgeOf, Cond.instanceMethod yX9_judgeOf, Cond.selects RX9 yX9_judgeOf yX9_judgeOf, Cond.code yX9_judgeOf cX9_judgeOf 5 (some .int), Cond.methodLink RX9 60 yX9_paneAt, Cond.instanceMethod yX9_paneAt, Cond.selects RX9 yX9_paneAt yX9_paneAt, Cond.code yX9_paneAt cX9_paneAt 2 (some .int), Cond.methodLink RX9 47 yX9_modeOf, Cond.instanceMethod yX9_modeOf, Cond.selects RX9 yX9_modeOf yX9_modeOf, Cond.code yX9_modeOf cX9_modeOf 3 (some .int), Cond.methodLink RX9 39 yX9_find, Cond.instanceMethod yX9_find, Cond.selects RX9 yX9_find yX9_find, Cond.code yX9_find cX9_find 3 (some .int), Cond.methodLink RX9 35 yX9_ofP, Cond.instanceMethod yX9_ofP, Cond.selects RX9 yX9_ofP yX9_ofP, Cond.code yX9_ofP cX9_ofP 3 (some .int), Cond.methodLink RX9 83 yX9_isShut, Cond.instanceMethod yX9_isShut, Cond.selects RX9 yX9_isShut yX9_isShut, Cond.code yX9_isShut cX9_isShut 2 (some .boolean)]
def wsX9_play_r4 : List Cond := [Cond.methodLink RX9 50 yX9_endOf, Cond.instanceMethod yX9_endOf, Cond.selects RX9 yX9_endOf yX9_endOf, Cond.code yX9_endOf cX9_endOf 2 (some .int), Cond.methodLink RX9 86 yX9_isExcuse, Cond.instanceMethod yX9_isExcuse, Cond.selects RX9 yX9_isExcuse yX9_isExcuse, Cond.code yX9_isExcuse cX9_isExcuse 5 (some .boolean), Cond.methodLink RX9 77 yX9_wasIll, Cond.instanceMethod yX9_wasIll, Cond.selects RX9 yX9_wasIll yX9_wasIll, Cond.code yX9_wasIll cX9_wasIll 4 (some .boolean), Cond.methodLink RX9 89 yX9_placeFor, Cond.instanceMethod yX9_placeFor, Cond.selects RX9 yX9_placeFor yX9_placeFor, Cond.code yX9_placeFor cX9_placeFor 3 (some .int), Cond.methodLink RX9 80 yX9_placeIn, Cond.instanceMethod yX9_placeIn, Cond.selects RX9 yX9_placeIn yX9_placeIn, Cond.code yX9_placeIn cX9_placeIn 3 (some .int), Cond.methodLink RX9 96 yX9_keeps, Cond.instanceMethod yX9_keeps, Cond.selects RX9 yX9_keeps yX9_keeps, Cond.code yX9_keeps cX9_keeps 4 (some .int)]
def wsX9_play_r5 : List Cond := [Cond.methodLink RX9 43 yX9_setsP, Cond.instanceMethod yX9_setsP, Cond.selects RX9 yX9_setsP yX9_setsP, Cond.code yX9_setsP cX9_setsP 4 none, Cond.methodLink RX9 99 yX9_takesBack, Cond.instanceMethod yX9_takesBack, Cond.selects RX9 yX9_takesBack yX9_takesBack, Cond.code yX9_takesBack cX9_takesBack 2 none, Cond.methodLink RX9 66 yX9_says, Cond.instanceMethod yX9_says, Cond.selects RX9 yX9_says yX9_says, Cond.code yX9_says cX9_says 6 none, Cond.methodLink RX9 102 yX9_rises, Cond.instanceMethod yX9_rises, Cond.selects RX9 yX9_rises yX9_rises, Cond.code yX9_rises cX9_rises 5 none, Cond.methodLink RX9 70 yX9_nextKept, Cond.instanceMethod yX9_nextKept, Cond.selects RX9 yX9_nextKept yX9_nextKept, Cond.code yX9_nextKept cX9_nextKept 4 (some .int), Cond.methodLink RX9 73 yX9_tells, Cond.instanceMethod yX9_tells, Cond.selects RX9 yX9_tells yX9_tells, Cond.code yX9_tells cX9_tells 4 none]
def wsX9_play_r6 : List Cond := [Cond.methodLink RX9 63 yX9_sumOf, Cond.instanceMethod yX9_sumOf, Cond.selects RX9 yX9_sumOf yX9_sumOf, Cond.code yX9_sumOf cX9_sumOf 7 (some .int), Cond.methodLink RX9 56 yX9_counts, Cond.instanceMethod yX9_counts, Cond.selects RX9 yX9_counts yX9_counts, Cond.code yX9_counts cX9_counts 2 (some .boolean)]
def wsX9_play : List Cond := .code yX9_play cX9_play 3 (some .int) :: ((wsX9_play_r1 ++ (wsX9_play_r2 ++ (wsX9_play_r3 ++ (wsX9_play_r4 ++ (wsX9_play_r5 ++ wsX9_play_r6))))) ++ wsX90)
def wsJ9_max_7cf53 : List Cond := .code yJ9_max_7cf53 cJ9_max_7cf53 2 (some .int) :: ([])
def wsL_law_r1 : List Cond := [Cond.classLink RL 7 RX8, Cond.instantiable RX8 3, Cond.initialized RX8, Cond.classLink RL 10 RX9, Cond.instantiable RX9 8, Cond.initialized RX9, Cond.methodLink RL 9 yX8_init, Cond.instanceMethod yX8_init, Cond.code yX8_init cX8_init 1 none, Cond.methodLink RX8 1 objectInit, Cond.instanceMethod objectInit, Cond.code objectInit ⟨#[0xb1]⟩ 1 none, Cond.classLink RX8 7 RX1, Cond.instantiable RX1 9, Cond.initialized RX1, Cond.fieldLink RX8 10 "LateExcuses" "court" "LLateExcuses$Court;", Cond.classLink RX8 16 RX3, Cond.instantiable RX3 3, Cond.initialized RX3, Cond.fieldLink RX8 19 "LateExcuses" "history" "LLateExcuses$History;", Cond.classLink RX8 23 RX6, Cond.instantiable RX6 11, Cond.initialized RX6, Cond.fieldLink RX8 26 "LateExcuses" "text" "LLateExcuses$Text;"]
def wsL_law_r2 : List Cond := [Cond.instanceMethod yX1_init, Cond.code yX1_init cX1_init 1 none, Cond.methodLink RX1 3 objectInit, Cond.classLink RX1 9 RX2, Cond.instantiable RX2 2, Cond.initialized RX2, Cond.fieldLink RX1 12 "LateExcuses$Court" "events" "LLateExcuses$Events;", Cond.classLink RX1 18 RX4, Cond.instantiable RX4 3, Cond.initialized RX4, Cond.fieldLink RX1 21 "LateExcuses$Court" "panes" "LLateExcuses$Panes;", Cond.classLink RX1 25 RX0, Cond.instantiable RX0 1, Cond.initialized RX0, Cond.fieldLink RX1 28 "LateExcuses$Court" "cabinets" "LLateExcuses$Cabinets;", Cond.fieldLink RX1 32 "LateExcuses$Court" "size" "I", Cond.fieldLink RX1 36 "LateExcuses$Court" "lag" "I", Cond.fieldLink RX1 39 "LateExcuses$Court" "grace" "I", Cond.fieldLink RX1 42 "LateExcuses$Court" "watermark" "I", Cond.fieldLink RX1 45 "LateExcuses$Court" "latest" "I", Cond.instanceMethod yX2_init, Cond.code yX2_init cX2_init 1 none, Cond.methodLink RX2 3 objectInit, Cond.classLink RX2 9 RX5]
def wsL_law_r3 : List Cond := [Cond.instantiable RX5 3, Cond.initialized RX5, Cond.fieldLink RX2 14 "LateExcuses$Events" "rows" "LLateExcuses$Table;", Cond.methodLink RX2 11 yX5_init, Cond.instanceMethod yX5_init, Cond.code yX5_init cX5_init 3 none, Cond.methodLink RX5 1 objectInit, Cond.methodLink RX5 7 Lib.Math.max.name, Cond.static Lib.Math.max.name, Cond.initialized "java/lang/Math", Cond.code Lib.Math.max.name Lib.Math.max.code 2 (some .int), Cond.fieldLink RX5 13 "LateExcuses$Table" "rows" "I", Cond.fieldLink RX5 19 "LateExcuses$Table" "columns" "I", Cond.arrayClass .int, Cond.fieldLink RX5 22 "LateExcuses$Table" "cells" "[I", Cond.instanceMethod yX4_init, Cond.code yX4_init cX4_init 1 none, Cond.methodLink RX4 3 objectInit, Cond.classLink RX4 9 RX5, Cond.fieldLink RX4 16 "LateExcuses$Panes" "rows" "LLateExcuses$Table;", Cond.classLink RX4 20 RX7, Cond.instantiable RX7 4, Cond.initialized RX7, Cond.fieldLink RX4 23 "LateExcuses$Panes" "words" "LLateExcuses$Words;"]
def wsL_law_r4 : List Cond := [Cond.methodLink RX4 13 yX5_init, Cond.instanceMethod yX7_init, Cond.code yX7_init cX7_init 1 none, Cond.methodLink RX7 3 objectInit, Cond.classLink RX7 9 RX5, Cond.fieldLink RX7 16 "LateExcuses$Words" "rows" "LLateExcuses$Table;", Cond.methodLink RX7 13 yX5_init, Cond.instanceMethod yX0_init, Cond.code yX0_init cX0_init 1 none, Cond.methodLink RX0 5 objectInit, Cond.classLink RX0 11 RX5, Cond.fieldLink RX0 16 "LateExcuses$Cabinets" "rows" "LLateExcuses$Table;", Cond.methodLink RX0 13 yX5_init, Cond.instanceMethod yX3_init, Cond.code yX3_init cX3_init 1 none, Cond.methodLink RX3 1 objectInit, Cond.classLink RX3 9 RX1, Cond.fieldLink RX3 11 "LateExcuses$History" "past" "[LLateExcuses$Court;", Cond.instanceMethod yX6_init, Cond.code yX6_init cX6_init 1 none, Cond.methodLink RX6 3 objectInit, Cond.arrayClass .char, Cond.fieldLink RX6 11 "LateExcuses$Text" "signs" "[C", Cond.methodLink RL 12 yX9_init]
def wsL_law_r5 : List Cond := [Cond.instanceMethod yX9_init, Cond.code yX9_init cX9_init 1 none, Cond.methodLink RX9 1 objectInit, Cond.fieldLink RX9 7 "LateExcusesModel" "now" "[I", Cond.fieldLink RX9 13 "LateExcusesModel" "kept" "[I", Cond.fieldLink RX9 16 "LateExcusesModel" "text" "[I", Cond.fieldLink RX9 19 "LateExcusesModel" "read" "[I", Cond.methodLink RL 13 yX8_set, Cond.instanceMethod yX8_set, Cond.selects RX8 yX8_set yX8_set, Cond.code yX8_set cX8_set 3 (some .int), Cond.constant RX8 34 (-1000001), Cond.constant RX8 39 (-1000002), Cond.methodLink RX8 30 yX8_isWithin, Cond.static yX8_isWithin, Cond.code yX8_isWithin cX8_isWithin 3 (some .boolean), Cond.methodLink RX8 35 yX1_hasEvents, Cond.instanceMethod yX1_hasEvents, Cond.selects RX1 yX1_hasEvents yX1_hasEvents, Cond.code yX1_hasEvents cX1_hasEvents 1 (some .boolean), Cond.methodLink RX1 66 yX2_withOutcome, Cond.instanceMethod yX2_withOutcome, Cond.selects RX2 yX2_withOutcome yX2_withOutcome, Cond.code yX2_withOutcome cX2_withOutcome 5 (some .int)]
def wsL_law_r6 : List Cond := [Cond.methodLink RX2 41 yX2_hasOutcome, Cond.instanceMethod yX2_hasOutcome, Cond.selects RX2 yX2_hasOutcome yX2_hasOutcome, Cond.code yX2_hasOutcome cX2_hasOutcome 5 (some .boolean), Cond.methodLink RX2 28 yX5_get, Cond.instanceMethod yX5_get, Cond.selects RX5 yX5_get yX5_get, Cond.code yX5_get cX5_get 4 (some .int), Cond.methodLink RX8 40 yX3_keep, Cond.instanceMethod yX3_keep, Cond.selects RX3 yX3_keep yX3_keep, Cond.code yX3_keep cX3_keep 4 none, Cond.fieldLink RX3 15 "LateExcuses$History" "states" "I", Cond.fieldLink RX3 19 "LateExcuses$History" "oldest" "I", Cond.methodLink RX3 23 yX1_copyFrom, Cond.instanceMethod yX1_copyFrom, Cond.selects RX1 yX1_copyFrom yX1_copyFrom, Cond.code yX1_copyFrom cX1_copyFrom 2 none, Cond.fieldLink RX1 58 "LateExcuses$Court" "moved" "Z", Cond.methodLink RX1 48 yX2_copyFrom, Cond.instanceMethod yX2_copyFrom, Cond.selects RX2 yX2_copyFrom yX2_copyFrom, Cond.code yX2_copyFrom cX2_copyFrom 2 none, Cond.fieldLink RX2 24 "LateExcuses$Events" "doubles" "I"]
def wsL_law_r7 : List Cond := [Cond.methodLink RX2 20 yX5_copyFrom, Cond.instanceMethod yX5_copyFrom, Cond.selects RX5 yX5_copyFrom yX5_copyFrom, Cond.code yX5_copyFrom cX5_copyFrom 2 none, Cond.methodLink RX5 26 arraycopyName, Cond.native arraycopyName, Cond.static arraycopyName, Cond.initialized "java/lang/System", Cond.methodLink RX1 52 yX4_copyFrom, Cond.instanceMethod yX4_copyFrom, Cond.selects RX4 yX4_copyFrom yX4_copyFrom, Cond.code yX4_copyFrom cX4_copyFrom 2 none, Cond.fieldLink RX4 34 "LateExcuses$Panes" "used" "I", Cond.methodLink RX4 27 yX5_copyFrom, Cond.methodLink RX4 31 yX7_copyFrom, Cond.instanceMethod yX7_copyFrom, Cond.selects RX7 yX7_copyFrom yX7_copyFrom, Cond.code yX7_copyFrom cX7_copyFrom 2 none, Cond.fieldLink RX7 24 "LateExcuses$Words" "kept" "I", Cond.fieldLink RX7 28 "LateExcuses$Words" "told" "I", Cond.fieldLink RX7 31 "LateExcuses$Words" "takenBack" "I", Cond.methodLink RX7 20 yX5_copyFrom, Cond.methodLink RX1 55 yX0_copyFrom, Cond.instanceMethod yX0_copyFrom]
def wsL_law_r8 : List Cond := [Cond.selects RX0 yX0_copyFrom yX0_copyFrom, Cond.code yX0_copyFrom cX0_copyFrom 2 none, Cond.methodLink RX0 20 yX5_copyFrom, Cond.methodLink RX8 44 yX1_changeSetting, Cond.instanceMethod yX1_changeSetting, Cond.selects RX1 yX1_changeSetting yX1_changeSetting, Cond.code yX1_changeSetting cX1_changeSetting 4 (some .int), Cond.methodLink RX1 62 yX1_setting, Cond.instanceMethod yX1_setting, Cond.selects RX1 yX1_setting yX1_setting, Cond.code yX1_setting cX1_setting 2 (some .int), Cond.methodLink RL 17 yX9_set, Cond.instanceMethod yX9_set, Cond.selects RX9 yX9_set yX9_set, Cond.code yX9_set cX9_set 4 (some .int), Cond.constant RX9 31 (-1000001), Cond.constant RX9 26 (-1000002), Cond.methodLink RX9 27 yX9_isIn, Cond.static yX9_isIn, Cond.code yX9_isIn cX9_isIn 3 (some .boolean), Cond.methodLink RX9 32 yX9_records, Cond.instanceMethod yX9_records, Cond.selects RX9 yX9_records yX9_records, Cond.code yX9_records cX9_records 2 none]
def wsL_law_r9 : List Cond := [Cond.fieldLink RX9 22 "LateExcusesModel" "states" "I", Cond.methodLink RL 18 yX8_event, Cond.instanceMethod yX8_event, Cond.selects RX8 yX8_event yX8_event, Cond.code yX8_event cX8_event 6 (some .int), Cond.methodLink RX8 48 yX8_isEvent, Cond.static yX8_isEvent, Cond.code yX8_isEvent cX8_isEvent 4 (some .boolean), Cond.methodLink RX8 52 yX1_admit, Cond.instanceMethod yX1_admit, Cond.selects RX1 yX1_admit yX1_admit, Cond.code yX1_admit cX1_admit 8 (some .int), Cond.methodLink RX1 114 yX2_hasCome, Cond.instanceMethod yX2_hasCome, Cond.selects RX2 yX2_hasCome yX2_hasCome, Cond.code yX2_hasCome cX2_hasCome 2 (some .boolean), Cond.methodLink RX1 117 yX2_addDouble, Cond.instanceMethod yX2_addDouble, Cond.selects RX2 yX2_addDouble yX2_addDouble, Cond.code yX2_addDouble cX2_addDouble 1 none, Cond.methodLink RX1 120 yX1_verdict, Cond.instanceMethod yX1_verdict, Cond.selects RX1 yX1_verdict yX1_verdict, Cond.code yX1_verdict cX1_verdict 6 (some .int)]
def wsL_law_r10 : List Cond := [Cond.methodLink RX1 85 yX1_paneAt, Cond.instanceMethod yX1_paneAt, Cond.selects RX1 yX1_paneAt yX1_paneAt, Cond.code yX1_paneAt cX1_paneAt 2 (some .int), Cond.methodLink RX1 88 yX1_stateOf, Cond.instanceMethod yX1_stateOf, Cond.selects RX1 yX1_stateOf yX1_stateOf, Cond.code yX1_stateOf cX1_stateOf 3 (some .int), Cond.methodLink RX1 79 yX4_read, Cond.instanceMethod yX4_read, Cond.selects RX4 yX4_read yX4_read, Cond.code yX4_read cX4_read 3 (some .int), Cond.methodLink RX4 42 yX4_rowOf, Cond.instanceMethod yX4_rowOf, Cond.selects RX4 yX4_rowOf yX4_rowOf, Cond.code yX4_rowOf cX4_rowOf 3 (some .int), Cond.methodLink RX4 38 yX5_get, Cond.methodLink RX1 82 yX1_endOf, Cond.instanceMethod yX1_endOf, Cond.selects RX1 yX1_endOf yX1_endOf, Cond.code yX1_endOf cX1_endOf 2 (some .int), Cond.methodLink RX1 91 yX1_isAcceptable, Cond.instanceMethod yX1_isAcceptable, Cond.selects RX1 yX1_isAcceptable yX1_isAcceptable]
def wsL_law_r11 : List Cond := [Cond.code yX1_isAcceptable cX1_isAcceptable 5 (some .boolean), Cond.methodLink RX1 98 yX1_lateBy, Cond.instanceMethod yX1_lateBy, Cond.selects RX1 yX1_lateBy yX1_lateBy, Cond.code yX1_lateBy cX1_lateBy 2 (some .int), Cond.methodLink RX1 101 yX2_hadIllness, Cond.instanceMethod yX2_hadIllness, Cond.selects RX2 yX2_hadIllness yX2_hadIllness, Cond.code yX2_hadIllness cX2_hadIllness 3 (some .boolean), Cond.methodLink RX1 94 yX0_hasPlaceFor, Cond.instanceMethod yX0_hasPlaceFor, Cond.selects RX0 yX0_hasPlaceFor yX0_hasPlaceFor, Cond.code yX0_hasPlaceFor cX0_hasPlaceFor 2 (some .boolean), Cond.methodLink RX0 29 yX0_cabinetFor, Cond.instanceMethod yX0_cabinetFor, Cond.selects RX0 yX0_cabinetFor yX0_cabinetFor, Cond.code yX0_cabinetFor cX0_cabinetFor 2 (some .int), Cond.methodLink RX0 33 yX0_isFull, Cond.instanceMethod yX0_isFull, Cond.selects RX0 yX0_isFull yX0_isFull, Cond.code yX0_isFull cX0_isFull 2 (some .boolean), Cond.methodLink RX0 24 yX5_get, Cond.methodLink RX1 123 yX2_enter, Cond.instanceMethod yX2_enter]
def wsL_law_r12 : List Cond := [Cond.selects RX2 yX2_enter yX2_enter, Cond.code yX2_enter cX2_enter 6 none, Cond.methodLink RX2 37 yX5_put, Cond.instanceMethod yX5_put, Cond.selects RX5 yX5_put yX5_put, Cond.code yX5_put cX5_put 5 none, Cond.methodLink RX1 127 yX2_conclude, Cond.instanceMethod yX2_conclude, Cond.selects RX2 yX2_conclude yX2_conclude, Cond.code yX2_conclude cX2_conclude 4 none, Cond.methodLink RX1 131 yX0_file, Cond.instanceMethod yX0_file, Cond.selects RX0 yX0_file yX0_file, Cond.code yX0_file cX0_file 5 none, Cond.methodLink RX0 37 yX5_put, Cond.methodLink RX1 135 yX4_reopen, Cond.instanceMethod yX4_reopen, Cond.selects RX4 yX4_reopen yX4_reopen, Cond.code yX4_reopen cX4_reopen 4 none, Cond.methodLink RX4 62 yX4_rowMadeFor, Cond.instanceMethod yX4_rowMadeFor, Cond.selects RX4 yX4_rowMadeFor yX4_rowMadeFor, Cond.code yX4_rowMadeFor cX4_rowMadeFor 3 (some .int), Cond.methodLink RX4 46 yX4_rowBehind]
def wsL_law_r13 : List Cond := [Cond.instanceMethod yX4_rowBehind, Cond.selects RX4 yX4_rowBehind yX4_rowBehind, Cond.code yX4_rowBehind cX4_rowBehind 3 (some .int), Cond.methodLink RX4 49 yX5_openRow, Cond.instanceMethod yX5_openRow, Cond.selects RX5 yX5_openRow yX5_openRow, Cond.code yX5_openRow cX5_openRow 5 none, Cond.methodLink RX5 32 yX5_put, Cond.methodLink RX4 53 yX5_put, Cond.methodLink RX4 65 yX4_takeBack, Cond.instanceMethod yX4_takeBack, Cond.selects RX4 yX4_takeBack yX4_takeBack, Cond.code yX4_takeBack cX4_takeBack 3 none, Cond.methodLink RX4 58 yX4_isStanding, Cond.instanceMethod yX4_isStanding, Cond.selects RX4 yX4_isStanding yX4_isStanding, Cond.code yX4_isStanding cX4_isStanding 2 (some .boolean), Cond.methodLink RX4 75 yX7_add, Cond.instanceMethod yX7_add, Cond.selects RX7 yX7_add yX7_add, Cond.code yX7_add cX7_add 5 none, Cond.methodLink RX7 39 yX5_dropFirstRow, Cond.instanceMethod yX5_dropFirstRow, Cond.selects RX5 yX5_dropFirstRow yX5_dropFirstRow]
def wsL_law_r14 : List Cond := [Cond.code yX5_dropFirstRow cX5_dropFirstRow 1 none, Cond.methodLink RX7 42 yX5_put, Cond.methodLink RX1 138 yX4_add, Cond.instanceMethod yX4_add, Cond.selects RX4 yX4_add yX4_add, Cond.code yX4_add cX4_add 5 none, Cond.methodLink RX1 141 yX1_raiseWatermark, Cond.instanceMethod yX1_raiseWatermark, Cond.selects RX1 yX1_raiseWatermark yX1_raiseWatermark, Cond.code yX1_raiseWatermark cX1_raiseWatermark 3 none, Cond.methodLink RX1 109 Lib.Math.max.name, Cond.methodLink RX1 145 yX4_shutAndClose, Cond.instanceMethod yX4_shutAndClose, Cond.selects RX4 yX4_shutAndClose yX4_shutAndClose, Cond.code yX4_shutAndClose cX4_shutAndClose 6 none, Cond.methodLink RX4 72 yX4_tellWord, Cond.instanceMethod yX4_tellWord, Cond.selects RX4 yX4_tellWord yX4_tellWord, Cond.code yX4_tellWord cX4_tellWord 3 none, Cond.methodLink RL 22 yX9_event, Cond.instanceMethod yX9_event, Cond.selects RX9 yX9_event yX9_event, Cond.code yX9_event cX9_event 6 (some .int), Cond.methodLink RX9 105 yX9_isEvent]
def wsL_law_r15 : List Cond := [Cond.static yX9_isEvent, Cond.code yX9_isEvent cX9_isEvent 5 (some .boolean), Cond.methodLink RX9 109 yX9_comes, Cond.instanceMethod yX9_comes, Cond.selects RX9 yX9_comes yX9_comes, Cond.code yX9_comes cX9_comes 9 (some .int), Cond.methodLink RX9 53 yX9_ofE, Cond.instanceMethod yX9_ofE, Cond.selects RX9 yX9_ofE yX9_ofE, Cond.code yX9_ofE cX9_ofE 3 (some .int), Cond.methodLink RX9 92 yX9_judgeOf, Cond.instanceMethod yX9_judgeOf, Cond.selects RX9 yX9_judgeOf yX9_judgeOf, Cond.code yX9_judgeOf cX9_judgeOf 5 (some .int), Cond.methodLink RX9 60 yX9_paneAt, Cond.instanceMethod yX9_paneAt, Cond.selects RX9 yX9_paneAt yX9_paneAt, Cond.code yX9_paneAt cX9_paneAt 2 (some .int), Cond.methodLink RX9 47 yX9_modeOf, Cond.instanceMethod yX9_modeOf, Cond.selects RX9 yX9_modeOf yX9_modeOf, Cond.code yX9_modeOf cX9_modeOf 3 (some .int), Cond.methodLink RX9 39 yX9_find, Cond.instanceMethod yX9_find]
def wsL_law_r16 : List Cond := [Cond.selects RX9 yX9_find yX9_find, Cond.code yX9_find cX9_find 3 (some .int), Cond.methodLink RX9 35 yX9_ofP, Cond.instanceMethod yX9_ofP, Cond.selects RX9 yX9_ofP yX9_ofP, Cond.code yX9_ofP cX9_ofP 3 (some .int), Cond.methodLink RX9 83 yX9_isShut, Cond.instanceMethod yX9_isShut, Cond.selects RX9 yX9_isShut yX9_isShut, Cond.code yX9_isShut cX9_isShut 2 (some .boolean), Cond.methodLink RX9 50 yX9_endOf, Cond.instanceMethod yX9_endOf, Cond.selects RX9 yX9_endOf yX9_endOf, Cond.code yX9_endOf cX9_endOf 2 (some .int), Cond.methodLink RX9 86 yX9_isExcuse, Cond.instanceMethod yX9_isExcuse, Cond.selects RX9 yX9_isExcuse yX9_isExcuse, Cond.code yX9_isExcuse cX9_isExcuse 5 (some .boolean), Cond.methodLink RX9 77 yX9_wasIll, Cond.instanceMethod yX9_wasIll, Cond.selects RX9 yX9_wasIll yX9_wasIll, Cond.code yX9_wasIll cX9_wasIll 4 (some .boolean), Cond.methodLink RX9 89 yX9_placeFor, Cond.instanceMethod yX9_placeFor]
def wsL_law_r17 : List Cond := [Cond.selects RX9 yX9_placeFor yX9_placeFor, Cond.code yX9_placeFor cX9_placeFor 3 (some .int), Cond.methodLink RX9 80 yX9_placeIn, Cond.instanceMethod yX9_placeIn, Cond.selects RX9 yX9_placeIn yX9_placeIn, Cond.code yX9_placeIn cX9_placeIn 3 (some .int), Cond.methodLink RX9 96 yX9_keeps, Cond.instanceMethod yX9_keeps, Cond.selects RX9 yX9_keeps yX9_keeps, Cond.code yX9_keeps cX9_keeps 4 (some .int), Cond.methodLink RX9 43 yX9_setsP, Cond.instanceMethod yX9_setsP, Cond.selects RX9 yX9_setsP yX9_setsP, Cond.code yX9_setsP cX9_setsP 4 none, Cond.methodLink RX9 99 yX9_takesBack, Cond.instanceMethod yX9_takesBack, Cond.selects RX9 yX9_takesBack yX9_takesBack, Cond.code yX9_takesBack cX9_takesBack 2 none, Cond.methodLink RX9 66 yX9_says, Cond.instanceMethod yX9_says, Cond.selects RX9 yX9_says yX9_says, Cond.code yX9_says cX9_says 6 none, Cond.methodLink RX9 102 yX9_rises, Cond.instanceMethod yX9_rises]
def wsL_law_r18 : List Cond := [Cond.selects RX9 yX9_rises yX9_rises, Cond.code yX9_rises cX9_rises 5 none, Cond.methodLink RX9 70 yX9_nextKept, Cond.instanceMethod yX9_nextKept, Cond.selects RX9 yX9_nextKept yX9_nextKept, Cond.code yX9_nextKept cX9_nextKept 4 (some .int), Cond.methodLink RX9 73 yX9_tells, Cond.instanceMethod yX9_tells, Cond.selects RX9 yX9_tells yX9_tells, Cond.code yX9_tells cX9_tells 4 none, Cond.methodLink RX9 63 yX9_sumOf, Cond.instanceMethod yX9_sumOf, Cond.selects RX9 yX9_sumOf yX9_sumOf, Cond.code yX9_sumOf cX9_sumOf 7 (some .int), Cond.methodLink RX9 56 yX9_counts, Cond.instanceMethod yX9_counts, Cond.selects RX9 yX9_counts yX9_counts, Cond.code yX9_counts cX9_counts 2 (some .boolean), Cond.methodLink RL 23 yX8_move, Cond.instanceMethod yX8_move, Cond.selects RX8 yX8_move yX8_move, Cond.code yX8_move cX8_move 2 (some .int), Cond.methodLink RX8 56 yX1_canMoveBack, Cond.instanceMethod yX1_canMoveBack]
def wsL_law_r19 : List Cond := [Cond.selects RX1 yX1_canMoveBack yX1_canMoveBack, Cond.code yX1_canMoveBack cX1_canMoveBack 1 (some .boolean), Cond.methodLink RX8 59 yX1_moveBack, Cond.instanceMethod yX1_moveBack, Cond.selects RX1 yX1_moveBack yX1_moveBack, Cond.code yX1_moveBack cX1_moveBack 6 (some .int), Cond.methodLink RX1 148 yX4_takeBackWord, Cond.instanceMethod yX4_takeBackWord, Cond.selects RX4 yX4_takeBackWord yX4_takeBackWord, Cond.code yX4_takeBackWord cX4_takeBackWord 2 none, Cond.methodLink RL 27 yX9_move, Cond.instanceMethod yX9_move, Cond.selects RX9 yX9_move yX9_move, Cond.code yX9_move cX9_move 6 (some .int), Cond.methodLink RL 28 yX8_paneOf, Cond.instanceMethod yX8_paneOf, Cond.selects RX8 yX8_paneOf yX8_paneOf, Cond.code yX8_paneOf cX8_paneOf 3 (some .int), Cond.constant RX8 72 (-1000004), Cond.methodLink RX8 63 yX1_hasTimes, Cond.instanceMethod yX1_hasTimes, Cond.selects RX1 yX1_hasTimes yX1_hasTimes, Cond.code yX1_hasTimes cX1_hasTimes 2 (some .boolean), Cond.methodLink RX8 67 yX1_stateOf]
def wsL_law_r20 : List Cond := [Cond.methodLink RX8 73 yX1_panes, Cond.instanceMethod yX1_panes, Cond.selects RX1 yX1_panes yX1_panes, Cond.code yX1_panes cX1_panes 1 (some (.object "LateExcuses$Panes")), Cond.methodLink RX8 77 yX4_read, Cond.methodLink RL 31 yX9_paneOf, Cond.instanceMethod yX9_paneOf, Cond.selects RX9 yX9_paneOf yX9_paneOf, Cond.code yX9_paneOf cX9_paneOf 4 (some .int), Cond.constant RX9 119 (-1000004), Cond.methodLink RX9 113 yX9_isPane, Cond.instanceMethod yX9_isPane, Cond.selects RX9 yX9_isPane yX9_isPane, Cond.code yX9_isPane cX9_isPane 2 (some .boolean), Cond.methodLink RX9 116 yX9_stateOf, Cond.instanceMethod yX9_stateOf, Cond.selects RX9 yX9_stateOf yX9_stateOf, Cond.code yX9_stateOf cX9_stateOf 3 (some .int), Cond.methodLink RL 32 yX8_mean, Cond.instanceMethod yX8_mean, Cond.selects RX8 yX8_mean yX8_mean, Cond.code yX8_mean cX8_mean 3 (some .int), Cond.methodLink RX8 80 yX8_bitsOf, Cond.static yX8_bitsOf]
def wsL_law_r21 : List Cond := [Cond.code yX8_bitsOf cX8_bitsOf 4 (some .int), Cond.constantFloat RX8 191 (1258291200), Cond.constant RX8 192 (8388608), Cond.constant RX8 193 (-2147483648), Cond.methodLink RL 35 yX9_mean, Cond.instanceMethod yX9_mean, Cond.selects RX9 yX9_mean yX9_mean, Cond.code yX9_mean cX9_mean 3 (some .int), Cond.methodLink RX9 122 yX9_bitsOf, Cond.static yX9_bitsOf, Cond.code yX9_bitsOf cX9_bitsOf 4 (some .int), Cond.constantFloat RX9 120 (1258291200), Cond.constant RX9 121 (-2147483648), Cond.methodLink RL 36 yX8_standing, Cond.instanceMethod yX8_standing, Cond.selects RX8 yX8_standing yX8_standing, Cond.code yX8_standing cX8_standing 3 (some .int), Cond.methodLink RX8 84 yX4_hasWord, Cond.instanceMethod yX4_hasWord, Cond.selects RX4 yX4_hasWord yX4_hasWord, Cond.code yX4_hasWord cX4_hasWord 2 (some .boolean), Cond.methodLink RL 39 yX9_standing, Cond.instanceMethod yX9_standing, Cond.selects RX9 yX9_standing yX9_standing]
def wsL_law_r22 : List Cond := [Cond.code yX9_standing cX9_standing 4 (some .int), Cond.methodLink RL 40 yX8_nextPane, Cond.instanceMethod yX8_nextPane, Cond.selects RX8 yX8_nextPane yX8_nextPane, Cond.code yX8_nextPane cX8_nextPane 2 (some .int), Cond.methodLink RX8 87 yX4_behind, Cond.instanceMethod yX4_behind, Cond.selects RX4 yX4_behind yX4_behind, Cond.code yX4_behind cX4_behind 3 (some .int), Cond.constant RX4 57 (-1000004), Cond.methodLink RL 43 yX9_nextPane, Cond.instanceMethod yX9_nextPane, Cond.selects RX9 yX9_nextPane yX9_nextPane, Cond.code yX9_nextPane cX9_nextPane 4 (some .int), Cond.methodLink RL 44 yX8_wordAt, Cond.instanceMethod yX8_wordAt, Cond.selects RX8 yX8_wordAt yX8_wordAt, Cond.code yX8_wordAt cX8_wordAt 3 (some .int), Cond.methodLink RX8 90 yX4_words, Cond.instanceMethod yX4_words, Cond.selects RX4 yX4_words yX4_words, Cond.code yX4_words cX4_words 1 (some (.object "LateExcuses$Words")), Cond.methodLink RX8 94 yX7_read, Cond.instanceMethod yX7_read]
def wsL_law_r23 : List Cond := [Cond.selects RX7 yX7_read yX7_read, Cond.code yX7_read cX7_read 3 (some .int), Cond.constant RX7 38 (-1000004), Cond.methodLink RX7 34 yX5_get, Cond.methodLink RL 47 yX9_wordAt, Cond.instanceMethod yX9_wordAt, Cond.selects RX9 yX9_wordAt yX9_wordAt, Cond.code yX9_wordAt cX9_wordAt 3 (some .int), Cond.methodLink RL 48 yX8_eventOf, Cond.instanceMethod yX8_eventOf, Cond.selects RX8 yX8_eventOf yX8_eventOf, Cond.code yX8_eventOf cX8_eventOf 3 (some .int), Cond.methodLink RX8 97 yX1_events, Cond.instanceMethod yX1_events, Cond.selects RX1 yX1_events yX1_events, Cond.code yX1_events cX1_events 1 (some (.object "LateExcuses$Events")), Cond.methodLink RX8 101 yX2_read, Cond.instanceMethod yX2_read, Cond.selects RX2 yX2_read yX2_read, Cond.code yX2_read cX2_read 3 (some .int), Cond.constant RX2 36 (-1000004), Cond.methodLink RX2 32 yX2_hasCome, Cond.methodLink RL 51 yX9_eventOf, Cond.instanceMethod yX9_eventOf]
def wsL_law_r24 : List Cond := [Cond.selects RX9 yX9_eventOf yX9_eventOf, Cond.code yX9_eventOf cX9_eventOf 3 (some .int), Cond.methodLink RL 52 yX8_judge, Cond.instanceMethod yX8_judge, Cond.selects RX8 yX8_judge yX8_judge, Cond.code yX8_judge cX8_judge 5 (some .int), Cond.methodLink RX8 104 yX1_verdict, Cond.methodLink RL 56 yX9_judge, Cond.instanceMethod yX9_judge, Cond.selects RX9 yX9_judge yX9_judge, Cond.code yX9_judge cX9_judge 4 (some .int), Cond.methodLink RL 57 yX8_lateness, Cond.instanceMethod yX8_lateness, Cond.selects RX8 yX8_lateness yX8_lateness, Cond.code yX8_lateness cX8_lateness 3 (some .int), Cond.methodLink RX8 108 yX1_paneAt, Cond.methodLink RX8 111 yX1_lateBy, Cond.methodLink RL 60 yX9_lateness, Cond.instanceMethod yX9_lateness, Cond.selects RX9 yX9_lateness yX9_lateness, Cond.code yX9_lateness cX9_lateness 3 (some .int), Cond.methodLink RL 61 yX8_latestExcused, Cond.instanceMethod yX8_latestExcused, Cond.selects RX8 yX8_latestExcused yX8_latestExcused]
def wsL_law_r25 : List Cond := [Cond.code yX8_latestExcused cX8_latestExcused 3 (some .int), Cond.methodLink RX8 114 yX1_latestAcceptable, Cond.instanceMethod yX1_latestAcceptable, Cond.selects RX1 yX1_latestAcceptable yX1_latestAcceptable, Cond.code yX1_latestAcceptable cX1_latestAcceptable 5 (some .int), Cond.constant RX1 108 (-1000004), Cond.methodLink RX1 104 yX1_latestIn, Cond.instanceMethod yX1_latestIn, Cond.selects RX1 yX1_latestIn yX1_latestIn, Cond.code yX1_latestIn cX1_latestIn 6 (some .int), Cond.methodLink RL 64 yX9_latestExcused, Cond.instanceMethod yX9_latestExcused, Cond.selects RX9 yX9_latestExcused yX9_latestExcused, Cond.code yX9_latestExcused cX9_latestExcused 4 (some .int), Cond.methodLink RL 65 yX8_filed, Cond.instanceMethod yX8_filed, Cond.selects RX8 yX8_filed yX8_filed, Cond.code yX8_filed cX8_filed 3 (some .int), Cond.methodLink RX8 119 yX1_cabinets, Cond.instanceMethod yX1_cabinets, Cond.selects RX1 yX1_cabinets yX1_cabinets, Cond.code yX1_cabinets cX1_cabinets 1 (some (.object "LateExcuses$Cabinets")), Cond.methodLink RX8 123 yX0_read, Cond.instanceMethod yX0_read]
def wsL_law_r26 : List Cond := [Cond.selects RX0 yX0_read yX0_read, Cond.code yX0_read cX0_read 3 (some .int), Cond.constant RX0 28 (-1000004), Cond.methodLink RL 68 yX9_filed, Cond.instanceMethod yX9_filed, Cond.selects RX9 yX9_filed yX9_filed, Cond.code yX9_filed cX9_filed 4 (some .int), Cond.methodLink RL 69 yX8_trust, Cond.instanceMethod yX8_trust, Cond.selects RX8 yX8_trust yX8_trust, Cond.code yX8_trust cX8_trust 6 (some .int), Cond.methodLink RX8 124 yX2_ofKey, Cond.instanceMethod yX2_ofKey, Cond.selects RX2 yX2_ofKey yX2_ofKey, Cond.code yX2_ofKey cX2_ofKey 6 (some .int), Cond.methodLink RL 72 yX9_trust, Cond.instanceMethod yX9_trust, Cond.selects RX9 yX9_trust yX9_trust, Cond.code yX9_trust cX9_trust 5 (some .int), Cond.constantFloat RX9 126 (1056964608), Cond.methodLink RL 73 yX8_count, Cond.instanceMethod yX8_count, Cond.selects RX8 yX8_count yX8_count, Cond.code yX8_count cX8_count 2 (some .int)]
def wsL_law_r27 : List Cond := [Cond.methodLink RX8 127 yX1_setting, Cond.methodLink RX8 130 yX7_kept, Cond.instanceMethod yX7_kept, Cond.selects RX7 yX7_kept yX7_kept, Cond.code yX7_kept cX7_kept 1 (some .int), Cond.methodLink RX8 134 yX7_told, Cond.instanceMethod yX7_told, Cond.selects RX7 yX7_told yX7_told, Cond.code yX7_told cX7_told 1 (some .int), Cond.methodLink RX8 137 yX7_takenBack, Cond.instanceMethod yX7_takenBack, Cond.selects RX7 yX7_takenBack yX7_takenBack, Cond.code yX7_takenBack cX7_takenBack 1 (some .int), Cond.methodLink RX8 140 yX4_closedCases, Cond.instanceMethod yX4_closedCases, Cond.selects RX4 yX4_closedCases yX4_closedCases, Cond.code yX4_closedCases cX4_closedCases 3 (some .int), Cond.methodLink RX8 143 yX3_states, Cond.instanceMethod yX3_states, Cond.selects RX3 yX3_states yX3_states, Cond.code yX3_states cX3_states 1 (some .int), Cond.methodLink RX8 146 yX6_length, Cond.instanceMethod yX6_length, Cond.selects RX6 yX6_length yX6_length]
def wsL_law_r28 : List Cond := [Cond.code yX6_length cX6_length 1 (some .int), Cond.fieldLink RX6 15 "LateExcuses$Text" "length" "I", Cond.methodLink RX8 149 yX1_number, Cond.instanceMethod yX1_number, Cond.selects RX1 yX1_number yX1_number, Cond.code yX1_number cX1_number 2 (some .int), Cond.constant RX1 74 (-1000001), Cond.methodLink RX1 70 yX2_doubles, Cond.instanceMethod yX2_doubles, Cond.selects RX2 yX2_doubles yX2_doubles, Cond.code yX2_doubles cX2_doubles 1 (some .int), Cond.methodLink RL 76 yX9_count, Cond.instanceMethod yX9_count, Cond.selects RX9 yX9_count yX9_count, Cond.code yX9_count cX9_count 2 (some .int), Cond.fieldLink RX9 134 "LateExcusesModel" "length" "I", Cond.methodLink RX9 127 yX9_results, Cond.instanceMethod yX9_results, Cond.selects RX9 yX9_results yX9_results, Cond.code yX9_results cX9_results 5 (some .int), Cond.methodLink RX9 130 yX9_cases, Cond.instanceMethod yX9_cases, Cond.selects RX9 yX9_cases yX9_cases, Cond.code yX9_cases cX9_cases 3 (some .int)]
def wsL_law_r29 : List Cond := [Cond.methodLink RL 77 yX8_undo, Cond.instanceMethod yX8_undo, Cond.selects RX8 yX8_undo yX8_undo, Cond.code yX8_undo cX8_undo 1 (some .int), Cond.methodLink RX8 152 yX3_restore, Cond.instanceMethod yX3_restore, Cond.selects RX3 yX3_restore yX3_restore, Cond.code yX3_restore cX3_restore 4 none, Cond.methodLink RL 81 yX9_undo, Cond.instanceMethod yX9_undo, Cond.selects RX9 yX9_undo yX9_undo, Cond.code yX9_undo cX9_undo 2 (some .int), Cond.methodLink RL 82 yX8_type, Cond.instanceMethod yX8_type, Cond.selects RX8 yX8_type yX8_type, Cond.code yX8_type cX8_type 2 (some .int), Cond.constant RX8 159 (-1000003), Cond.methodLink RX8 155 yX6_append, Cond.instanceMethod yX6_append, Cond.selects RX6 yX6_append yX6_append, Cond.code yX6_append cX6_append 2 (some .boolean), Cond.methodLink RL 85 yX9_type, Cond.instanceMethod yX9_type, Cond.selects RX9 yX9_type yX9_type]
def wsL_law_r30 : List Cond := [Cond.code yX9_type cX9_type 2 (some .int), Cond.constant RX9 137 (-1000003), Cond.methodLink RL 86 yX8_clearText, Cond.instanceMethod yX8_clearText, Cond.selects RX8 yX8_clearText yX8_clearText, Cond.code yX8_clearText cX8_clearText 2 (some .int), Cond.methodLink RX8 160 yX6_empty, Cond.instanceMethod yX6_empty, Cond.selects RX6 yX6_empty yX6_empty, Cond.code yX6_empty cX6_empty 1 none, Cond.methodLink RL 89 yX9_clearText, Cond.instanceMethod yX9_clearText, Cond.selects RX9 yX9_clearText yX9_clearText, Cond.code yX9_clearText cX9_clearText 2 (some .int), Cond.methodLink RL 90 yX8_fault, Cond.instanceMethod yX8_fault, Cond.selects RX8 yX8_fault yX8_fault, Cond.code yX8_fault cX8_fault 2 (some .int), Cond.methodLink RX8 163 yX6_hasFault, Cond.instanceMethod yX6_hasFault, Cond.selects RX6 yX6_hasFault yX6_hasFault, Cond.code yX6_hasFault cX6_hasFault 4 (some .boolean), Cond.fieldLink RX6 29 "LateExcuses$Text" "id" "I", Cond.fieldLink RX6 32 "LateExcuses$Text" "time" "I"]
def wsL_law_r31 : List Cond := [Cond.fieldLink RX6 35 "LateExcuses$Text" "key" "I", Cond.fieldLink RX6 38 "LateExcuses$Text" "amount" "I", Cond.fieldLink RX6 19 "LateExcuses$Text" "faultPlace" "I", Cond.fieldLink RX6 22 "LateExcuses$Text" "faultReason" "I", Cond.methodLink RX6 25 yX6_readEvent, Cond.instanceMethod yX6_readEvent, Cond.selects RX6 yX6_readEvent yX6_readEvent, Cond.code yX6_readEvent cX6_readEvent 4 (some .int), Cond.fieldLink RX6 45 "LateExcuses$Text" "place" "I", Cond.fieldLink RX6 52 "LateExcuses$Text" "number" "I", Cond.fieldLink RX6 63 "LateExcuses$Text" "excuse" "I", Cond.methodLink RX6 48 yX6_readNumber, Cond.instanceMethod yX6_readNumber, Cond.selects RX6 yX6_readNumber yX6_readNumber, Cond.code yX6_readNumber cX6_readNumber 2 (some .boolean), Cond.methodLink RX6 66 yX6_signHere, Cond.instanceMethod yX6_signHere, Cond.selects RX6 yX6_signHere yX6_signHere, Cond.code yX6_signHere cX6_signHere 1 (some .char), Cond.methodLink RX6 55 yX6_readSign, Cond.instanceMethod yX6_readSign, Cond.selects RX6 yX6_readSign yX6_readSign, Cond.code yX6_readSign cX6_readSign 2 (some .boolean), Cond.methodLink RX6 59 yX6_readExcuse]
def wsL_law_r32 : List Cond := [Cond.instanceMethod yX6_readExcuse, Cond.selects RX6 yX6_readExcuse yX6_readExcuse, Cond.code yX6_readExcuse cX6_readExcuse 1 (some .int), Cond.methodLink RX8 166 yX6_faultPlace, Cond.instanceMethod yX6_faultPlace, Cond.selects RX6 yX6_faultPlace yX6_faultPlace, Cond.code yX6_faultPlace cX6_faultPlace 1 (some .int), Cond.methodLink RX8 169 yX6_faultReason, Cond.instanceMethod yX6_faultReason, Cond.selects RX6 yX6_faultReason yX6_faultReason, Cond.code yX6_faultReason cX6_faultReason 1 (some .int), Cond.methodLink RL 93 yX9_fault, Cond.instanceMethod yX9_fault, Cond.selects RX9 yX9_fault yX9_fault, Cond.code yX9_fault cX9_fault 3 (some .int), Cond.methodLink RX9 157 yX9_faultOf, Cond.instanceMethod yX9_faultOf, Cond.selects RX9 yX9_faultOf yX9_faultOf, Cond.code yX9_faultOf cX9_faultOf 2 (some .int), Cond.fieldLink RX9 138 "LateExcusesModel" "at" "I", Cond.methodLink RX9 154 yX9_passesEvent, Cond.instanceMethod yX9_passesEvent, Cond.selects RX9 yX9_passesEvent yX9_passesEvent, Cond.code yX9_passesEvent cX9_passesEvent 2 (some .boolean)]
def wsL_law_r33 : List Cond := [Cond.fieldLink RX9 141 "LateExcusesModel" "number" "I", Cond.methodLink RX9 147 yX9_passesNumber, Cond.instanceMethod yX9_passesNumber, Cond.selects RX9 yX9_passesNumber yX9_passesNumber, Cond.code yX9_passesNumber cX9_passesNumber 2 (some .boolean), Cond.methodLink RX9 144 yX9_passes, Cond.instanceMethod yX9_passes, Cond.selects RX9 yX9_passes yX9_passes, Cond.code yX9_passes cX9_passes 3 (some .boolean), Cond.methodLink RX9 151 yX9_excuseHere, Cond.instanceMethod yX9_excuseHere, Cond.selects RX9 yX9_excuseHere yX9_excuseHere, Cond.code yX9_excuseHere cX9_excuseHere 1 (some .int), Cond.methodLink RL 94 yX8_play, Cond.instanceMethod yX8_play, Cond.selects RX8 yX8_play yX8_play, Cond.code yX8_play cX8_play 5 (some .int), Cond.methodLink RX8 172 yX6_readEvent, Cond.methodLink RL 97 yX9_play, Cond.instanceMethod yX9_play, Cond.selects RX9 yX9_play yX9_play, Cond.code yX9_play cX9_play 3 (some .int)]
def wsL_law : List Cond := (wsL_law_r1 ++ (wsL_law_r2 ++ (wsL_law_r3 ++ (wsL_law_r4 ++ (wsL_law_r5 ++ (wsL_law_r6 ++ (wsL_law_r7 ++ (wsL_law_r8 ++ (wsL_law_r9 ++ (wsL_law_r10 ++ (wsL_law_r11 ++ (wsL_law_r12 ++ (wsL_law_r13 ++ (wsL_law_r14 ++ (wsL_law_r15 ++ (wsL_law_r16 ++ (wsL_law_r17 ++ (wsL_law_r18 ++ (wsL_law_r19 ++ (wsL_law_r20 ++ (wsL_law_r21 ++ (wsL_law_r22 ++ (wsL_law_r23 ++ (wsL_law_r24 ++ (wsL_law_r25 ++ (wsL_law_r26 ++ (wsL_law_r27 ++ (wsL_law_r28 ++ (wsL_law_r29 ++ (wsL_law_r30 ++ (wsL_law_r31 ++ (wsL_law_r32 ++ wsL_law_r33)))))))))))))))))))))))))))))))) ++ wsX80 ++ wsX90 ++ wsX10 ++ wsX30 ++ wsX60 ++ wsX20 ++ wsX40 ++ wsX00 ++ wsX50 ++ wsX70 ++ ([] : List Cond)
abbrev vwCl : List vw_C := [(RX0, TX0, 1), (RX1, TX1, 9), (RX2, TX2, 2), (RX3, TX3, 3), (RX4, TX4, 3), (RX5, TX5, 3), (RX6, TX6, 11), (RX7, TX7, 4), (RX8, TX8, 3), (RX9, TX9, 8)]
end
section
theorem dX8_bitsOf_0 : decode cX8_bitsOf 0 = .ok (.fload_n 0, 1) := by decide +kernel
theorem dX8_bitsOf_1 : decode cX8_bitsOf 1 = .ok (.fconst 0, 1) := by decide +kernel
theorem dX8_bitsOf_2 : decode cX8_bitsOf 2 = .ok (.fcmp .l, 1) := by decide +kernel
theorem dX8_bitsOf_3 : decode cX8_bitsOf 3 = .ok (.ifCond .ne 5, 3) := by decide +kernel
theorem dX8_bitsOf_6 : decode cX8_bitsOf 6 = .ok (.iconst 0, 1) := by decide +kernel
theorem dX8_bitsOf_7 : decode cX8_bitsOf 7 = .ok (.ireturn, 1) := by decide +kernel
theorem dX8_bitsOf_8 : decode cX8_bitsOf 8 = .ok (.fload_n 0, 1) := by decide +kernel
theorem dX8_bitsOf_9 : decode cX8_bitsOf 9 = .ok (.fconst 0, 1) := by decide +kernel
theorem dX8_bitsOf_10 : decode cX8_bitsOf 10 = .ok (.fcmp .g, 1) := by decide +kernel
theorem dX8_bitsOf_11 : decode cX8_bitsOf 11 = .ok (.ifCond .ge 8, 3) := by decide +kernel
theorem dX8_bitsOf_14 : decode cX8_bitsOf 14 = .ok (.fload_n 0, 1) := by decide +kernel
theorem dX8_bitsOf_15 : decode cX8_bitsOf 15 = .ok (.fneg, 1) := by decide +kernel
theorem dX8_bitsOf_16 : decode cX8_bitsOf 16 = .ok (.goto 4, 3) := by decide +kernel
theorem dX8_bitsOf_19 : decode cX8_bitsOf 19 = .ok (.fload_n 0, 1) := by decide +kernel
theorem dX8_bitsOf_20 : decode cX8_bitsOf 20 = .ok (.fstore_n 1, 1) := by decide +kernel
theorem dX8_bitsOf_21 : decode cX8_bitsOf 21 = .ok (.sipush 150, 3) := by decide +kernel
theorem dX8_bitsOf_24 : decode cX8_bitsOf 24 = .ok (.istore_n 2, 1) := by decide +kernel
theorem dX8_bitsOf_25 : decode cX8_bitsOf 25 = .ok (.iconst 0, 1) := by decide +kernel
theorem dX8_bitsOf_26 : decode cX8_bitsOf 26 = .ok (.istore_n 3, 1) := by decide +kernel
theorem dX8_bitsOf_27 : decode cX8_bitsOf 27 = .ok (.iload_n 3, 1) := by decide +kernel
theorem dX8_bitsOf_28 : decode cX8_bitsOf 28 = .ok (.sipush 150, 3) := by decide +kernel
theorem dX8_bitsOf_31 : decode cX8_bitsOf 31 = .ok (.if_icmp .ge 23, 3) := by decide +kernel
theorem dX8_bitsOf_34 : decode cX8_bitsOf 34 = .ok (.fload_n 1, 1) := by decide +kernel
theorem dX8_bitsOf_35 : decode cX8_bitsOf 35 = .ok (.ldc 191, 2) := by decide +kernel
theorem dX8_bitsOf_37 : decode cX8_bitsOf 37 = .ok (.fcmp .g, 1) := by decide +kernel
theorem dX8_bitsOf_38 : decode cX8_bitsOf 38 = .ok (.ifCond .ge 16, 3) := by decide +kernel
theorem dX8_bitsOf_41 : decode cX8_bitsOf 41 = .ok (.fload_n 1, 1) := by decide +kernel
theorem dX8_bitsOf_42 : decode cX8_bitsOf 42 = .ok (.fconst 2, 1) := by decide +kernel
theorem dX8_bitsOf_43 : decode cX8_bitsOf 43 = .ok (.fmul, 1) := by decide +kernel
theorem dX8_bitsOf_44 : decode cX8_bitsOf 44 = .ok (.fstore_n 1, 1) := by decide +kernel
theorem dX8_bitsOf_45 : decode cX8_bitsOf 45 = .ok (.iinc 2 (-1), 3) := by decide +kernel
theorem dX8_bitsOf_48 : decode cX8_bitsOf 48 = .ok (.iinc 3 1, 3) := by decide +kernel
theorem dX8_bitsOf_51 : decode cX8_bitsOf 51 = .ok (.goto (-24), 3) := by decide +kernel
theorem dX8_bitsOf_54 : decode cX8_bitsOf 54 = .ok (.iload_n 2, 1) := by decide +kernel
theorem dX8_bitsOf_55 : decode cX8_bitsOf 55 = .ok (.bipush 23, 2) := by decide +kernel
theorem dX8_bitsOf_57 : decode cX8_bitsOf 57 = .ok (.ishl, 1) := by decide +kernel
theorem dX8_bitsOf_58 : decode cX8_bitsOf 58 = .ok (.fload_n 1, 1) := by decide +kernel
theorem dX8_bitsOf_59 : decode cX8_bitsOf 59 = .ok (.f2i, 1) := by decide +kernel
theorem dX8_bitsOf_60 : decode cX8_bitsOf 60 = .ok (.ldc 192, 2) := by decide +kernel
theorem dX8_bitsOf_62 : decode cX8_bitsOf 62 = .ok (.isub, 1) := by decide +kernel
theorem dX8_bitsOf_63 : decode cX8_bitsOf 63 = .ok (.iadd, 1) := by decide +kernel
theorem dX8_bitsOf_64 : decode cX8_bitsOf 64 = .ok (.istore_n 3, 1) := by decide +kernel
theorem dX8_bitsOf_65 : decode cX8_bitsOf 65 = .ok (.fload_n 0, 1) := by decide +kernel
theorem dX8_bitsOf_66 : decode cX8_bitsOf 66 = .ok (.fconst 0, 1) := by decide +kernel
theorem dX8_bitsOf_67 : decode cX8_bitsOf 67 = .ok (.fcmp .g, 1) := by decide +kernel
theorem dX8_bitsOf_68 : decode cX8_bitsOf 68 = .ok (.ifCond .ge 10, 3) := by decide +kernel
theorem dX8_bitsOf_71 : decode cX8_bitsOf 71 = .ok (.iload_n 3, 1) := by decide +kernel
theorem dX8_bitsOf_72 : decode cX8_bitsOf 72 = .ok (.ldc 193, 2) := by decide +kernel
theorem dX8_bitsOf_74 : decode cX8_bitsOf 74 = .ok (.ior, 1) := by decide +kernel
theorem dX8_bitsOf_75 : decode cX8_bitsOf 75 = .ok (.goto 4, 3) := by decide +kernel
theorem dX8_bitsOf_78 : decode cX8_bitsOf 78 = .ok (.iload_n 3, 1) := by decide +kernel
theorem dX8_bitsOf_79 : decode cX8_bitsOf 79 = .ok (.ireturn, 1) := by decide +kernel
theorem dX9_bitsOf_0 : decode cX9_bitsOf 0 = .ok (.fload_n 0, 1) := by decide +kernel
theorem dX9_bitsOf_1 : decode cX9_bitsOf 1 = .ok (.fconst 0, 1) := by decide +kernel
theorem dX9_bitsOf_2 : decode cX9_bitsOf 2 = .ok (.fcmp .l, 1) := by decide +kernel
theorem dX9_bitsOf_3 : decode cX9_bitsOf 3 = .ok (.ifCond .ne 5, 3) := by decide +kernel
theorem dX9_bitsOf_6 : decode cX9_bitsOf 6 = .ok (.iconst 0, 1) := by decide +kernel
theorem dX9_bitsOf_7 : decode cX9_bitsOf 7 = .ok (.ireturn, 1) := by decide +kernel
theorem dX9_bitsOf_8 : decode cX9_bitsOf 8 = .ok (.fload_n 0, 1) := by decide +kernel
theorem dX9_bitsOf_9 : decode cX9_bitsOf 9 = .ok (.fconst 0, 1) := by decide +kernel
theorem dX9_bitsOf_10 : decode cX9_bitsOf 10 = .ok (.fcmp .g, 1) := by decide +kernel
theorem dX9_bitsOf_11 : decode cX9_bitsOf 11 = .ok (.ifCond .ge 8, 3) := by decide +kernel
theorem dX9_bitsOf_14 : decode cX9_bitsOf 14 = .ok (.fload_n 0, 1) := by decide +kernel
theorem dX9_bitsOf_15 : decode cX9_bitsOf 15 = .ok (.fneg, 1) := by decide +kernel
theorem dX9_bitsOf_16 : decode cX9_bitsOf 16 = .ok (.goto 4, 3) := by decide +kernel
theorem dX9_bitsOf_19 : decode cX9_bitsOf 19 = .ok (.fload_n 0, 1) := by decide +kernel
theorem dX9_bitsOf_20 : decode cX9_bitsOf 20 = .ok (.fstore_n 1, 1) := by decide +kernel
theorem dX9_bitsOf_21 : decode cX9_bitsOf 21 = .ok (.bipush 127, 2) := by decide +kernel
theorem dX9_bitsOf_23 : decode cX9_bitsOf 23 = .ok (.istore_n 2, 1) := by decide +kernel
theorem dX9_bitsOf_24 : decode cX9_bitsOf 24 = .ok (.fload_n 1, 1) := by decide +kernel
theorem dX9_bitsOf_25 : decode cX9_bitsOf 25 = .ok (.fconst 2, 1) := by decide +kernel
theorem dX9_bitsOf_26 : decode cX9_bitsOf 26 = .ok (.fcmp .l, 1) := by decide +kernel
theorem dX9_bitsOf_27 : decode cX9_bitsOf 27 = .ok (.ifCond .lt 13, 3) := by decide +kernel
theorem dX9_bitsOf_30 : decode cX9_bitsOf 30 = .ok (.fload_n 1, 1) := by decide +kernel
theorem dX9_bitsOf_31 : decode cX9_bitsOf 31 = .ok (.fconst 2, 1) := by decide +kernel
theorem dX9_bitsOf_32 : decode cX9_bitsOf 32 = .ok (.fdiv, 1) := by decide +kernel
theorem dX9_bitsOf_33 : decode cX9_bitsOf 33 = .ok (.fstore_n 1, 1) := by decide +kernel
theorem dX9_bitsOf_34 : decode cX9_bitsOf 34 = .ok (.iinc 2 1, 3) := by decide +kernel
theorem dX9_bitsOf_37 : decode cX9_bitsOf 37 = .ok (.goto (-13), 3) := by decide +kernel
theorem dX9_bitsOf_40 : decode cX9_bitsOf 40 = .ok (.fload_n 1, 1) := by decide +kernel
theorem dX9_bitsOf_41 : decode cX9_bitsOf 41 = .ok (.fconst 1, 1) := by decide +kernel
theorem dX9_bitsOf_42 : decode cX9_bitsOf 42 = .ok (.fcmp .g, 1) := by decide +kernel
theorem dX9_bitsOf_43 : decode cX9_bitsOf 43 = .ok (.ifCond .ge 13, 3) := by decide +kernel
theorem dX9_bitsOf_46 : decode cX9_bitsOf 46 = .ok (.fload_n 1, 1) := by decide +kernel
theorem dX9_bitsOf_47 : decode cX9_bitsOf 47 = .ok (.fconst 2, 1) := by decide +kernel
theorem dX9_bitsOf_48 : decode cX9_bitsOf 48 = .ok (.fmul, 1) := by decide +kernel
theorem dX9_bitsOf_49 : decode cX9_bitsOf 49 = .ok (.fstore_n 1, 1) := by decide +kernel
theorem dX9_bitsOf_50 : decode cX9_bitsOf 50 = .ok (.iinc 2 (-1), 3) := by decide +kernel
theorem dX9_bitsOf_53 : decode cX9_bitsOf 53 = .ok (.goto (-13), 3) := by decide +kernel
theorem dX9_bitsOf_56 : decode cX9_bitsOf 56 = .ok (.iload_n 2, 1) := by decide +kernel
theorem dX9_bitsOf_57 : decode cX9_bitsOf 57 = .ok (.bipush 23, 2) := by decide +kernel
theorem dX9_bitsOf_59 : decode cX9_bitsOf 59 = .ok (.ishl, 1) := by decide +kernel
theorem dX9_bitsOf_60 : decode cX9_bitsOf 60 = .ok (.fload_n 1, 1) := by decide +kernel
theorem dX9_bitsOf_61 : decode cX9_bitsOf 61 = .ok (.fconst 1, 1) := by decide +kernel
theorem dX9_bitsOf_62 : decode cX9_bitsOf 62 = .ok (.fsub, 1) := by decide +kernel
theorem dX9_bitsOf_63 : decode cX9_bitsOf 63 = .ok (.ldc 120, 2) := by decide +kernel
theorem dX9_bitsOf_65 : decode cX9_bitsOf 65 = .ok (.fmul, 1) := by decide +kernel
theorem dX9_bitsOf_66 : decode cX9_bitsOf 66 = .ok (.f2i, 1) := by decide +kernel
theorem dX9_bitsOf_67 : decode cX9_bitsOf 67 = .ok (.iadd, 1) := by decide +kernel
theorem dX9_bitsOf_68 : decode cX9_bitsOf 68 = .ok (.istore_n 3, 1) := by decide +kernel
theorem dX9_bitsOf_69 : decode cX9_bitsOf 69 = .ok (.fload_n 0, 1) := by decide +kernel
theorem dX9_bitsOf_70 : decode cX9_bitsOf 70 = .ok (.fconst 0, 1) := by decide +kernel
theorem dX9_bitsOf_71 : decode cX9_bitsOf 71 = .ok (.fcmp .g, 1) := by decide +kernel
theorem dX9_bitsOf_72 : decode cX9_bitsOf 72 = .ok (.ifCond .ge 10, 3) := by decide +kernel
theorem dX9_bitsOf_75 : decode cX9_bitsOf 75 = .ok (.iload_n 3, 1) := by decide +kernel
theorem dX9_bitsOf_76 : decode cX9_bitsOf 76 = .ok (.ldc 121, 2) := by decide +kernel
theorem dX9_bitsOf_78 : decode cX9_bitsOf 78 = .ok (.ior, 1) := by decide +kernel
theorem dX9_bitsOf_79 : decode cX9_bitsOf 79 = .ok (.goto 4, 3) := by decide +kernel
theorem dX9_bitsOf_82 : decode cX9_bitsOf 82 = .ok (.iload_n 3, 1) := by decide +kernel
theorem dX9_bitsOf_83 : decode cX9_bitsOf 83 = .ok (.ireturn, 1) := by decide +kernel
end
section
/-! contracts of methods that make nothing: a world before, a world behind -/
abbrev kTy : Type := List (ClassId × FieldType)
/-- the calls of private members of nest mates: own class, place, method -/
def kNests : List (String × Nat × MethodName) := [(RX8, 9, yX1_init), (RX8, 18, yX3_init), (RX8, 25, yX6_init), (RX1, 11, yX2_init), (RX1, 20, yX4_init), (RX1, 27, yX0_init), (RX1, 75, yX8_isWithin), (RX3, 22, yX1_init), (RX4, 22, yX7_init), (RX4, 68, yX8_isWithin), (RX6, 41, yX8_isEvent), (RX6, 70, yX8_isWithin)]
/-- LateExcuses reads the text's own fields: place, name -/
def kNestF : List (Nat × String) := [(175, "id"), (179, "time"), (182, "key"), (185, "amount"), (188, "excuse")]
def kE (D : va_G) (ty : kTy) (U : State) : Prop := va_K D vwCl ty U ∧ (∀ q ∈ kNests, va_Nw (.methodLinkNest q.1 q.2.1 q.2.2 RX8) U) ∧ ∀ q ∈ kNestF, va_Nw (.fieldLinkNest RX8 q.1 RX6 q.2 "I" RX8) U
theorem kE.warm {D : va_G} {ty : kTy} {s U : State} (hW : s.WarmedH U.vm) (h : kE D ty s) : kE D ty U := ⟨va_K.moved hW.alike h.1, fun q hq => va_Nw.warmM hW (h.2.1 q hq), fun q hq => va_Nw.warmF hW (h.2.2 q hq)⟩
theorem kE.nest {D : va_G} {ty : kTy} {s : State} (h : kE D ty s) (i : Nat) {q : String × Nat × MethodName} (hi : kNests[i]? = some q) : va_Nw (.methodLinkNest q.1 q.2.1 q.2.2 RX8) s := h.2.1 q (List.mem_of_getElem? hi)
theorem kE.nestF {D : va_G} {ty : kTy} {s : State} (h : kE D ty s) (i : Nat) {q : Nat × String} (hi : kNestF[i]? = some q) : va_Nw (.fieldLinkNest RX8 q.1 RX6 q.2 "I" RX8) s := h.2.2 q (List.mem_of_getElem? hi)
def kPre (D : va_G) (ty : kTy) (sz : Nat) (ws : va_W) : State → Prop := fun U => U.heap.size = sz ∧ va_P D vwCl ws U.heap ∧ kE D ty U ∧ va_D (fun _ => True) ws
abbrev kQi (D : va_G) (sz : Nat) (ws ws' : va_W) (r : Int32) : Array Value → State → Outcome → State → Prop := va_Qi (fun (q : Int32) (_ : Unit) => q = r) (fun _ t => va_P D vwCl ws' t.heap ∧ va_D (va_A ws sz) ws') (va_A ws sz)
abbrev kQv (D : va_G) (sz : Nat) (ws ws' : va_W) : Array Value → State → Outcome → State → Prop := va_Qv (fun (_ : Unit) => True) (fun _ t => va_P D vwCl ws' t.heap ∧ va_D (va_A ws sz) ws') (va_A ws sz)
abbrev kQr (D : va_G) (sz : Nat) (ws ws' : va_W) (a : Nat) : Array Value → State → Outcome → State → Prop := va_Qr (fun (_ : Unit) => True) (fun _ b t => b = a ∧ va_P D vwCl ws' t.heap ∧ va_D (va_A ws sz) ws') (va_A ws sz)
def KI (l : Launch) (D : va_G) (ty : kTy) (y : MethodName) (wm : List Cond) (rm : Room) (av : List Value) (ws ws' : va_W) (r : Int32) : Prop :=
  ∀ sz : Nat, Met l y wm rm (va_Pc av (kPre D ty sz ws)) (kQi D sz ws ws' r) 0 0 (va_A ws sz)
def KV (l : Launch) (D : va_G) (ty : kTy) (y : MethodName) (wm : List Cond) (rm : Room) (av : List Value) (ws ws' : va_W) : Prop :=
  ∀ sz : Nat, Met l y wm rm (va_Pc av (kPre D ty sz ws)) (kQv D sz ws ws') 0 0 (va_A ws sz)
def KR (l : Launch) (D : va_G) (ty : kTy) (y : MethodName) (wm : List Cond) (rm : Room) (av : List Value) (ws ws' : va_W) (a : Nat) : Prop :=
  ∀ sz : Nat, Met l y wm rm (va_Pc av (kPre D ty sz ws)) (kQr D sz ws ws' a) 0 0 (va_A ws sz)
theorem k_setup {D : va_G} {ty : kTy} {ws : va_W} {sz : Nat} {U : State} (h : kPre D ty sz ws U) : ∃ A : Nat → Prop, va_A ws sz = A ∧ (∀ q : Nat, U.heap.size ≤ q → A q) ∧ va_P D vwCl ws U.heap ∧ kE D ty U ∧ va_D A ws ∧ va_S A U.heap U.heap [] := by
  obtain ⟨hsz, hP, hK, hD0⟩ := h
  subst hsz
  exact ⟨_, rfl, fun q hq => Or.inr hq, hP, hK, hD0.self, va_S.rf⟩
theorem KI.of {l : Launch} {D : va_G} {ty : kTy} {y : MethodName} {wm : List Cond} {rm : Room} {av : List Value} {ws ws' : va_W} {r : Int32} {cc : ByteArray} {maxL : Nat} {rt : FieldType} {w0 : List Cond} {own : String}
    (hy : plainName y.cls = true) (hw : wm = Cond.code y cc maxL (some rt) :: w0) (ho : y.cls = own) (hlen : (lg_sl av).length ≤ maxL)
    (body : ∀ (p : Program) (e : Env) (s : State) (m : MethodId) (below : List Frame) (meth : Method) (c : Code) (A : Nat → Prop) (Q : State → Prop) (ls : Array Slot),
      p.tables.exec = Jvm.exec → c.code = cc → c.maxLocals = maxL → s.vm.findClass own = some m.cls → (∀ w ∈ wm, w.before av.toArray s = true) → kE D ty s → (∀ q : Nat, s.heap.size ≤ q → A q) →
      va_P D vwCl ws s.heap → va_D A ws → va_S A s.heap s.heap [] → lv_has ls maxL (lv_args 0 av) →
      (∀ (H : Heap) (locs : List Loc) (pc : Nat) (ls : Array Slot) (v : Int32) (ws9 : va_W), va_P D vwCl ws9 H → va_D A ws9 → va_S A s.heap H locs → decode cc pc = .ok (.ireturn, 1) → narrow rt (.int v) = .int v → ws9 = ws' → v = r →
        W p l e rm s m av.toArray below meth c H locs 0 0 Q (F0 m pc ls [.int v])) →
      W p l e rm s m av.toArray below meth c s.heap [] 0 0 Q (F0 m 0 ls [])) : KI l D ty y wm rm av ws ws' r := by
  intro sz
  refine Met.ofW (cc := cc) (maxL := maxL) (ret := some rt) hy hw ?_
  intro p e s m args below meth c s₁ B hml hv
  obtain ⟨rfl, hpre⟩ := hv
  have hown : s.vm.findClass own = some m.cls := ho ▸ findClass_of_methodNamed B.named
  obtain ⟨A, hAe, hA, hP, hK, hD, hS⟩ := k_setup hpre
  have hl := lv_entry av (n := maxL) hlen
  rw [lg_entry_eq]
  generalize (lg_sl av ++ List.replicate (maxL - (lg_sl av).length) Slot.unset).toArray = ls at hl ⊢
  refine body p e s m below meth c A _ ls B.exec B.bytes hml hown (atoms_spec B.pre) hK hA hP hD hS hl ?_
  intro H locs pc ls v ws9 hP9 hD9 hS9 hdg hn e1 e2
  subst e1; subst e2
  have hlocks := B.notSynchronized
  refine W.zret B.exec B.bytes B.returns hn (fun t ht hW => ⟨⟨v, (), rfl, rfl, by rw [ht]; exact hP9, by rw [hAe]; exact hD9⟩, by rw [hAe]; exact hS9.F ht⟩) (by rw [hAe]; exact hS9.2.2) hdg
theorem KV.of {l : Launch} {D : va_G} {ty : kTy} {y : MethodName} {wm : List Cond} {rm : Room} {av : List Value} {ws ws' : va_W} {cc : ByteArray} {maxL : Nat} {w0 : List Cond} {own : String}
    (hy : plainName y.cls = true) (hw : wm = Cond.code y cc maxL none :: w0) (ho : y.cls = own) (hlen : (lg_sl av).length ≤ maxL)
    (body : ∀ (p : Program) (e : Env) (s : State) (m : MethodId) (below : List Frame) (meth : Method) (c : Code) (A : Nat → Prop) (Q : State → Prop) (ls : Array Slot),
      p.tables.exec = Jvm.exec → c.code = cc → c.maxLocals = maxL → s.vm.findClass own = some m.cls → (∀ w ∈ wm, w.before av.toArray s = true) → kE D ty s → (∀ q : Nat, s.heap.size ≤ q → A q) →
      va_P D vwCl ws s.heap → va_D A ws → va_S A s.heap s.heap [] → lv_has ls maxL (lv_args 0 av) →
      (∀ (H : Heap) (locs : List Loc) (pc : Nat) (ls : Array Slot) (ws9 : va_W), va_P D vwCl ws9 H → va_D A ws9 → va_S A s.heap H locs → decode cc pc = .ok (.return_, 1) → ws9 = ws' →
        W p l e rm s m av.toArray below meth c H locs 0 0 Q (F0 m pc ls [])) →
      W p l e rm s m av.toArray below meth c s.heap [] 0 0 Q (F0 m 0 ls [])) : KV l D ty y wm rm av ws ws' := by
  intro sz
  refine Met.ofW (cc := cc) (maxL := maxL) (ret := none) hy hw ?_
  intro p e s m args below meth c s₁ B hml hv
  obtain ⟨rfl, hpre⟩ := hv
  have hown : s.vm.findClass own = some m.cls := ho ▸ findClass_of_methodNamed B.named
  obtain ⟨A, hAe, hA, hP, hK, hD, hS⟩ := k_setup hpre
  have hl := lv_entry av (n := maxL) hlen
  rw [lg_entry_eq]
  generalize (lg_sl av ++ List.replicate (maxL - (lg_sl av).length) Slot.unset).toArray = ls at hl ⊢
  refine body p e s m below meth c A _ ls B.exec B.bytes hml hown (atoms_spec B.pre) hK hA hP hD hS hl ?_
  intro H locs pc ls ws9 hP9 hD9 hS9 hdg e1
  subst e1
  have hlocks := B.notSynchronized
  refine W.vret B.exec B.bytes B.returns (fun t ht hW => ⟨⟨(), rfl, trivial, by rw [ht]; exact hP9, by rw [hAe]; exact hD9⟩, by rw [hAe]; exact hS9.F ht⟩) (by rw [hAe]; exact hS9.2.2) hdg
theorem KR.of {l : Launch} {D : va_G} {ty : kTy} {y : MethodName} {wm : List Cond} {rm : Room} {av : List Value} {ws ws' : va_W} {a : Nat} {cc : ByteArray} {maxL : Nat} {rt : FieldType} {w0 : List Cond} {own : String}
    (hy : plainName y.cls = true) (hw : wm = Cond.code y cc maxL (some rt) :: w0) (ho : y.cls = own) (hlen : (lg_sl av).length ≤ maxL) (hrt : (∃ n, rt = .object n) ∨ ∃ t, rt = .array t)
    (body : ∀ (p : Program) (e : Env) (s : State) (m : MethodId) (below : List Frame) (meth : Method) (c : Code) (A : Nat → Prop) (Q : State → Prop) (ls : Array Slot),
      p.tables.exec = Jvm.exec → c.code = cc → c.maxLocals = maxL → s.vm.findClass own = some m.cls → (∀ w ∈ wm, w.before av.toArray s = true) → kE D ty s → (∀ q : Nat, s.heap.size ≤ q → A q) →
      va_P D vwCl ws s.heap → va_D A ws → va_S A s.heap s.heap [] → lv_has ls maxL (lv_args 0 av) →
      (∀ (H : Heap) (locs : List Loc) (pc : Nat) (ls : Array Slot) (b : Nat) (ws9 : va_W), va_P D vwCl ws9 H → va_D A ws9 → va_S A s.heap H locs → decode cc pc = .ok (.areturn, 1) → ws9 = ws' → b = a →
        W p l e rm s m av.toArray below meth c H locs 0 0 Q (F0 m pc ls [.ref b])) →
      W p l e rm s m av.toArray below meth c s.heap [] 0 0 Q (F0 m 0 ls [])) : KR l D ty y wm rm av ws ws' a := by
  intro sz
  refine Met.ofW (cc := cc) (maxL := maxL) (ret := some rt) hy hw ?_
  intro p e s m args below meth c s₁ B hml hv
  obtain ⟨rfl, hpre⟩ := hv
  have hown : s.vm.findClass own = some m.cls := ho ▸ findClass_of_methodNamed B.named
  obtain ⟨A, hAe, hA, hP, hK, hD, hS⟩ := k_setup hpre
  have hl := lv_entry av (n := maxL) hlen
  rw [lg_entry_eq]
  generalize (lg_sl av ++ List.replicate (maxL - (lg_sl av).length) Slot.unset).toArray = ls at hl ⊢
  refine body p e s m below meth c A _ ls B.exec B.bytes hml hown (atoms_spec B.pre) hK hA hP hD hS hl ?_
  intro H locs pc ls b ws9 hP9 hD9 hS9 hdg e1 e2
  subst e1; subst e2
  have hlocks := B.notSynchronized
  refine W.aret B.exec B.bytes B.returns hrt (Or.inr ⟨_, rfl⟩) (fun t ht hW => ⟨⟨(), b, rfl, trivial, rfl, by rw [ht]; exact hP9, by rw [hAe]; exact hD9⟩, by rw [hAe]; exact hS9.F ht⟩) (by rw [hAe]; exact hS9.2.2) hdg
/-! the start of a call -/
theorem kPre_blind {D : va_G} {ty : kTy} {sz : Nat} {av : List Value} {ws : va_W} : FrameBlind (va_Pc av (kPre D ty sz ws)) := by
  intro a U g mk q
  obtain ⟨q0, q1, qP, qK, qD⟩ := q
  exact ⟨q0, q1, qP, ⟨va_K.moved (u := U) (U := U.calling g mk a) (Vm.Alike.refl U.vm) qK.1, fun w hw => va_Nw.same (u := U) (U := U.calling g mk a) rfl rfl (qK.2.1 w hw), fun w hw => va_Nw.same (u := U) (U := U.calling g mk a) rfl rfl (qK.2.2 w hw)⟩, qD⟩
theorem kPreS {D : va_G} {ty : kTy} {A : Nat → Prop} {As : List Value} {ws : va_W} {s : State} {H : Heap} (hK : kE D ty s) (hP : va_P D vwCl ws H) (hD : va_D A ws) : PreS s H (va_Pc As (kPre D ty H.size ws)) As :=
  ⟨kPre_blind, fun U hU hW => ⟨rfl, by rw [hU], by rw [hU]; exact hP, hK.warm hW, hD.weaken (fun _ _ _ _ => trivial)⟩⟩
theorem kPreV {D : va_G} {ty : kTy} {A : Nat → Prop} {As : List Value} {ws : va_W} {s : State} {H : Heap} {b q0 ci : Nat} {q : vw_C} {fs : List Value} (hK : kE D ty s) (hP : va_P D vwCl ws H) (hD : va_D A ws) (hc : vwCl[ci]? = some q) (he : ws[q0]? = some (b, .inr (ci, fs))) : PreV s H q.1 b (va_Pc (.ref b :: As) (kPre D ty H.size ws)) As :=
  ⟨kPre_blind, va_recv hK.1 hP hc he, fun U hU hW => ⟨rfl, by rw [hU], by rw [hU]; exact hP, hK.warm hW, hD.weaken (fun _ _ _ _ => trivial)⟩⟩
theorem k_fm {α β : Type} {f : α → Option β} : ∀ {is : List α} {w : List β}, is.map f = w.map some → is.filterMap f = w
  | [], [], _ => rfl
  | [], _ :: _, h => by simp at h
  | _ :: _, [], h => by simp at h
  | i :: is, b :: w, h => by
    simp only [List.map_cons, List.cons.injEq] at h
    rw [List.filterMap_cons, h.1, k_fm h.2]
/-- the whole world behind a call of a part of it: by places -/
theorem k_back {A0 : Nat → Prop} {D : va_G} {ws wc wr w1 ws' : va_W} {H H1 : Heap} (hP : va_P D vwCl ws H) (hD : va_D A0 ws) (hF : ∀ q, va_A wc H.size q → A0 q) (isC isR isP : List Nat) (hC : isC.map (fun i => ws[i]?) = wc.map some) (hR : isR.map (fun i => ws[i]?) = wr.map some) (hn : va_nd isR = true) (hdis : ∀ i ∈ isR, i ∉ isC)
    (hp : isP.map (fun i => (wr ++ w1)[i]?) = ws'.map some) (hpn : va_nd isP = true)
    (hk : ∀ q : Nat, q < H.size → ¬ va_A wc H.size q → H1[q]? = H[q]?) (hP1 : va_P D vwCl w1 H1) (hD1 : va_D (va_A wc H.size) w1) : va_P D vwCl ws' H1 ∧ va_D A0 ws' := by
  obtain ⟨h1, h2⟩ := va_join hP hD isC isR hC hR hn hdis hk hF hP1 hD1
  exact ⟨h1.sub isP (k_fm hp), h2.sub isP hpn hp⟩
section KCALL
variable {p : Program} {l : Launch} {e : Env} {R : Room} {s : State} {m : MethodId} {args : Array Value} {below : List Frame} {meth : Method} {c : Code} {H : Heap} {locs : List Loc} {cells slots : Nat} {Q : State → Prop}
variable {pc : Nat} {ls : Array Slot} {rest st0 : List Value} {a : Array Value} {A0 : Nat → Prop} {H0 : Heap} {D : va_G} {ws wc wc' wr ws' : va_W}
theorem k_hF (hD : va_D A0 ws) (hS : va_S A0 H0 H locs) (hA : ∀ q, H0.size ≤ q → A0 q) (isC : List Nat) (hC : isC.map (fun i => ws[i]?) = wc.map some) : ∀ q, va_A wc H.size q → A0 q := va_free hD hS hA isC hC
/-- int answer, a part of the world -/
theorem k_i {r : Int32} (hr : va_Run p l e R s m args below meth c H locs cells slots 0 0 (F0 m pc ls st0) rest (kQi D H.size wc wc' r a) (va_A wc H.size)) (hP : va_P D vwCl ws H) (hD : va_D A0 ws) (hS : va_S A0 H0 H locs) (hA : ∀ q, H0.size ≤ q → A0 q) (isC isR isP : List Nat) (hC : isC.map (fun i => ws[i]?) = wc.map some) (hR : isR.map (fun i => ws[i]?) = wr.map some) (hn : va_nd isR = true) (hdis : ∀ i ∈ isR, i ∉ isC)
    (hp : isP.map (fun i => (wr ++ wc')[i]?) = ws'.map some) (hpn : va_nd isP = true)
    (kk : ∀ (H1 : Heap) (locs1 : List Loc), va_P D vwCl ws' H1 → va_D A0 ws' → va_S A0 H0 H1 locs1 → W p l e R s m args below meth c H1 locs1 cells slots Q (F0 m (pc + 3) ls (.int r :: rest))) : W p l e R s m args below meth c H locs cells slots Q (F0 m pc ls st0) := by
  have hF := va_free hD hS hA isC hC
  refine va_calli hr hS (fun q _ h => hF q h) hF (fun r' u t H1 locs1 ht hvm hw hB hz hk hS1 => ?_)
  obtain ⟨hP1, hD1⟩ := hB
  rw [ht] at hP1
  obtain ⟨g1, g2⟩ := k_back hP hD hF isC isR isP hC hR hn hdis hp hpn hk hP1 hD1
  rw [hw]
  exact kk H1 locs1 g1 g2 hS1
theorem k_v (hr : va_Run p l e R s m args below meth c H locs cells slots 0 0 (F0 m pc ls st0) rest (kQv D H.size wc wc' a) (va_A wc H.size)) (hP : va_P D vwCl ws H) (hD : va_D A0 ws) (hS : va_S A0 H0 H locs) (hA : ∀ q, H0.size ≤ q → A0 q) (isC isR isP : List Nat) (hC : isC.map (fun i => ws[i]?) = wc.map some) (hR : isR.map (fun i => ws[i]?) = wr.map some) (hn : va_nd isR = true) (hdis : ∀ i ∈ isR, i ∉ isC)
    (hp : isP.map (fun i => (wr ++ wc')[i]?) = ws'.map some) (hpn : va_nd isP = true)
    (kk : ∀ (H1 : Heap) (locs1 : List Loc), va_P D vwCl ws' H1 → va_D A0 ws' → va_S A0 H0 H1 locs1 → W p l e R s m args below meth c H1 locs1 cells slots Q (F0 m (pc + 3) ls rest)) : W p l e R s m args below meth c H locs cells slots Q (F0 m pc ls st0) := by
  have hF := va_free hD hS hA isC hC
  refine va_callv hr hS (fun q _ h => hF q h) hF (fun u t H1 locs1 ht hvm hw hB hz hk hS1 => ?_)
  obtain ⟨hP1, hD1⟩ := hB
  rw [ht] at hP1
  obtain ⟨g1, g2⟩ := k_back hP hD hF isC isR isP hC hR hn hdis hp hpn hk hP1 hD1
  exact kk H1 locs1 g1 g2 hS1
theorem k_r {ra : Nat} (hr : va_Run p l e R s m args below meth c H locs cells slots 0 0 (F0 m pc ls st0) rest (kQr D H.size wc wc' ra a) (va_A wc H.size)) (hP : va_P D vwCl ws H) (hD : va_D A0 ws) (hS : va_S A0 H0 H locs) (hA : ∀ q, H0.size ≤ q → A0 q) (isC isR isP : List Nat) (hC : isC.map (fun i => ws[i]?) = wc.map some) (hR : isR.map (fun i => ws[i]?) = wr.map some) (hn : va_nd isR = true) (hdis : ∀ i ∈ isR, i ∉ isC)
    (hp : isP.map (fun i => (wr ++ wc')[i]?) = ws'.map some) (hpn : va_nd isP = true)
    (kk : ∀ (H1 : Heap) (locs1 : List Loc), va_P D vwCl ws' H1 → va_D A0 ws' → va_S A0 H0 H1 locs1 → W p l e R s m args below meth c H1 locs1 cells slots Q (F0 m (pc + 3) ls (.ref ra :: rest))) : W p l e R s m args below meth c H locs cells slots Q (F0 m pc ls st0) := by
  have hF := va_free hD hS hA isC hC
  refine va_callr hr hS (fun q _ h => hF q h) hF (fun u r' t H1 locs1 ht hvm hw hB hz hk hS1 => ?_)
  obtain ⟨he, hP1, hD1⟩ := hB
  rw [ht] at hP1
  obtain ⟨g1, g2⟩ := k_back hP hD hF isC isR isP hC hR hn hdis hp hpn hk hP1 hD1
  rw [he]
  exact kk H1 locs1 g1 g2 hS1
theorem k_fullF (hD : va_D A0 ws) (hS : va_S A0 H0 H locs) (hA : ∀ q, H0.size ≤ q → A0 q) : ∀ q, va_A ws H.size q → A0 q := by
  intro q h
  rcases h with ⟨k, e, h⟩ | h
  · exact hD.2 k _ h
  · exact hA q (Nat.le_trans hS.1 h)
theorem k_fullD (hD : va_D A0 ws) (hS : va_S A0 H0 H locs) (hA : ∀ q, H0.size ≤ q → A0 q) (hD1 : va_D (va_A ws H.size) ws') : va_D A0 ws' := hD1.weaken (fun _ q _ h => k_fullF hD hS hA q.1 h)
/-- int answer, the whole world -/
theorem k_iF {r : Int32} (hr : va_Run p l e R s m args below meth c H locs cells slots 0 0 (F0 m pc ls st0) rest (kQi D H.size ws ws' r a) (va_A ws H.size)) (hD : va_D A0 ws) (hS : va_S A0 H0 H locs) (hA : ∀ q, H0.size ≤ q → A0 q)
    (kk : ∀ (H1 : Heap) (locs1 : List Loc), va_P D vwCl ws' H1 → va_D A0 ws' → va_S A0 H0 H1 locs1 → W p l e R s m args below meth c H1 locs1 cells slots Q (F0 m (pc + 3) ls (.int r :: rest))) : W p l e R s m args below meth c H locs cells slots Q (F0 m pc ls st0) := by
  have hF := k_fullF hD hS hA
  refine va_calli hr hS (fun q _ h => hF q h) hF (fun r' u t H1 locs1 ht hvm hw hB hz hk hS1 => ?_)
  obtain ⟨hP1, hD1⟩ := hB
  rw [ht] at hP1
  rw [hw]
  exact kk H1 locs1 hP1 (k_fullD hD hS hA hD1) hS1
theorem k_vF (hr : va_Run p l e R s m args below meth c H locs cells slots 0 0 (F0 m pc ls st0) rest (kQv D H.size ws ws' a) (va_A ws H.size)) (hD : va_D A0 ws) (hS : va_S A0 H0 H locs) (hA : ∀ q, H0.size ≤ q → A0 q)
    (kk : ∀ (H1 : Heap) (locs1 : List Loc), va_P D vwCl ws' H1 → va_D A0 ws' → va_S A0 H0 H1 locs1 → W p l e R s m args below meth c H1 locs1 cells slots Q (F0 m (pc + 3) ls rest)) : W p l e R s m args below meth c H locs cells slots Q (F0 m pc ls st0) := by
  have hF := k_fullF hD hS hA
  refine va_callv hr hS (fun q _ h => hF q h) hF (fun u t H1 locs1 ht hvm hw hB hz hk hS1 => ?_)
  obtain ⟨hP1, hD1⟩ := hB
  rw [ht] at hP1
  exact kk H1 locs1 hP1 (k_fullD hD hS hA hD1) hS1
theorem k_rF {ra : Nat} (hr : va_Run p l e R s m args below meth c H locs cells slots 0 0 (F0 m pc ls st0) rest (kQr D H.size ws ws' ra a) (va_A ws H.size)) (hD : va_D A0 ws) (hS : va_S A0 H0 H locs) (hA : ∀ q, H0.size ≤ q → A0 q)
    (kk : ∀ (H1 : Heap) (locs1 : List Loc), va_P D vwCl ws' H1 → va_D A0 ws' → va_S A0 H0 H1 locs1 → W p l e R s m args below meth c H1 locs1 cells slots Q (F0 m (pc + 3) ls (.ref ra :: rest))) : W p l e R s m args below meth c H locs cells slots Q (F0 m pc ls st0) := by
  have hF := k_fullF hD hS hA
  refine va_callr hr hS (fun q _ h => hF q h) hF (fun u r' t H1 locs1 ht hvm hw hB hz hk hS1 => ?_)
  obtain ⟨he, hP1, hD1⟩ := hB
  rw [ht] at hP1
  rw [he]
  exact kk H1 locs1 hP1 (k_fullD hD hS hA hD1) hS1
/-- int answer of a method that has no world -/
theorem k_i0 {r : Int32} (hr : va_Run p l e R s m args below meth c H locs cells slots 0 0 (F0 m pc ls st0) rest (kQi D H.size [] [] r a) (va_A [] H.size)) (hP : va_P D vwCl ws H) (hS : va_S A0 H0 H locs) (hA : ∀ q, H0.size ≤ q → A0 q)
    (kk : ∀ (H1 : Heap) (locs1 : List Loc), va_P D vwCl ws H1 → va_S A0 H0 H1 locs1 → W p l e R s m args below meth c H1 locs1 cells slots Q (F0 m (pc + 3) ls (.int r :: rest))) : W p l e R s m args below meth c H locs cells slots Q (F0 m pc ls st0) := by
  have hF : ∀ q, va_A [] H.size q → A0 q := by
    intro q h
    rcases h with ⟨k, e, h⟩ | h
    · simp at h
    · exact hA q (Nat.le_trans hS.1 h)
  refine va_calli hr hS (fun q _ h => hF q h) hF (fun r' u t H1 locs1 ht hvm hw hB hz hk hS1 => ?_)
  rw [hw]
  refine kk H1 locs1 (hP.kept (fun k q hq => hk q.1 (hP k q hq).lt ?_)) hS1
  intro h
  rcases h with ⟨k2, e, h⟩ | h
  · simp at h
  · exact absurd (hP k q hq).lt (Nat.not_lt.mpr h)
end KCALL
end
section
theorem nI_inc (a : Nat) : nI a + Int32.ofInt 1 = nI (a + 1) := nI_add a 1
theorem k_mul (a b : Nat) : nI a * nI b = nI (a * b) := pk_mul a b
theorem k_toNat {i : Int32} {j n : Nat} (hi : i = nI j) (hj : j < n) (hn : n < 2 ^ 31) : i.toNatClampNeg = j := by rw [hi]; exact nI_clamp (by omega)
theorem k_vpin {i : Int32} {j n : Nat} (hi : i = nI j) (hj : j < n) (hn : n < 2 ^ 31) : vp_in i n := by rw [hi]; exact vp_in_nI hj hn
section KROWS
variable {p : Program} {l : Launch} {e : Env} {R : Room} {s : State} {m : MethodId} {args : Array Value} {below : List Frame} {meth : Method} {c : Code} {H : Heap} {locs : List Loc} {cells slots : Nat} {Q : State → Prop}
variable {cc : ByteArray} {pc : Nat} {ls : Array Slot} {rest : List Value} {D : va_G} {A : Nat → Prop} {a : Nat} {tys : List (ClassId × FieldType)} {ws : va_W} {H0 : Heap}
theorem k_top {x y : Int32} (h : x = y) (k : W p l e R s m args below meth c H locs cells slots Q (F0 m pc ls (.int y :: rest))) : W p l e R s m args below meth c H locs cells slots Q (F0 m pc ls (.int x :: rest)) := by rw [h]; exact k
theorem k_iadd {x y v : Int32} (hexec : p.tables.exec = Jvm.exec) (hb : c.code = cc) (hdg : decode cc pc = .ok (.iadd, 1)) (hv : x + y = v) (k : W p l e R s m args below meth c H locs cells slots Q (F0 m (pc + 1) ls (.int v :: rest))) : W p l e R s m args below meth c H locs cells slots Q (F0 m pc ls (.int y :: .int x :: rest)) := lv_iadd hexec hb hdg (by rw [hv]; exact k)
theorem k_isub {x y v : Int32} (hexec : p.tables.exec = Jvm.exec) (hb : c.code = cc) (hdg : decode cc pc = .ok (.isub, 1)) (hv : x - y = v) (k : W p l e R s m args below meth c H locs cells slots Q (F0 m (pc + 1) ls (.int v :: rest))) : W p l e R s m args below meth c H locs cells slots Q (F0 m pc ls (.int y :: .int x :: rest)) := lv_isub hexec hb hdg (by rw [hv]; exact k)
theorem k_imul {x y v : Int32} (hexec : p.tables.exec = Jvm.exec) (hb : c.code = cc) (hdg : decode cc pc = .ok (.imul, 1)) (hv : x * y = v) (k : W p l e R s m args below meth c H locs cells slots Q (F0 m (pc + 1) ls (.int v :: rest))) : W p l e R s m args below meth c H locs cells slots Q (F0 m pc ls (.int y :: .int x :: rest)) := lv_imul hexec hb hdg (by rw [hv]; exact k)
theorem k_idiv {x y v : Int32} (hexec : p.tables.exec = Jvm.exec) (hb : c.code = cc) (hdg : decode cc pc = .ok (.idiv, 1)) (hv : (¬ y = 0) ∧ x / y = v) (k : W p l e R s m args below meth c H locs cells slots Q (F0 m (pc + 1) ls (.int v :: rest))) : W p l e R s m args below meth c H locs cells slots Q (F0 m pc ls (.int y :: .int x :: rest)) := lv_idiv hexec hb hdg hv.1 (by rw [hv.2]; exact k)
theorem k_irem {x y v : Int32} (hexec : p.tables.exec = Jvm.exec) (hb : c.code = cc) (hdg : decode cc pc = .ok (.irem, 1)) (hv : (¬ y = 0) ∧ x - x / y * y = v) (k : W p l e R s m args below meth c H locs cells slots Q (F0 m (pc + 1) ls (.int v :: rest))) : W p l e R s m args below meth c H locs cells slots Q (F0 m pc ls (.int y :: .int x :: rest)) := lv_irem hexec hb hdg hv.1 (by rw [hv.2]; exact k)
theorem k_divN {a b : Nat} (ha : a < 2 ^ 31) (h0 : 0 < b) (hb : b < 2 ^ 31) : (¬ nI b = 0) ∧ nI a / nI b = nI (a / b) := ⟨nI_ne0 h0 hb, pk_div ha h0 hb⟩
theorem k_remN {a b : Nat} (ha : a < 2 ^ 31) (h0 : 0 < b) (hb : b < 2 ^ 31) : (¬ nI b = 0) ∧ nI a - nI a / nI b * nI b = nI (a % b) := ⟨nI_ne0 h0 hb, pk_rem ha h0 hb⟩
theorem k_iald {i v : Int32} {j n : Nat} {f : Nat → Int32} (hexec : p.tables.exec = Jvm.exec) (hb : c.code = cc) (hK : va_K D vwCl tys s) (hP : va_P D vwCl ws H) (q0 t0 : Nat) {cA : ClassId} (ha : ws[q0]? = some (a, .inl (cA, n, .inl f))) (ht : tys[t0]? = some (cA, .int)) (hi : i = nI j) (hj : j < n) (hn : n < 2 ^ 31) (hv : f j = v) (hdg : decode cc pc = .ok (.iaload, 1))
    (kk : W p l e R s m args below meth c H locs cells slots Q (F0 m (pc + 1) ls (.int v :: rest))) : W p l e R s m args below meth c H locs cells slots Q (F0 m pc ls (.int i :: .ref a :: rest)) :=
  va_iald hexec hb hK hP q0 t0 ha ht (k_vpin hi hj hn) hdg (by rw [k_toNat hi hj hn, hv]; exact kk)
theorem k_cald {i v : Int32} {j n : Nat} {f : Nat → Int32} (hexec : p.tables.exec = Jvm.exec) (hb : c.code = cc) (hK : va_K D vwCl tys s) (hP : va_P D vwCl ws H) (q0 t0 : Nat) {cA : ClassId} (ha : ws[q0]? = some (a, .inl (cA, n, .inl f))) (ht : tys[t0]? = some (cA, .char)) (hi : i = nI j) (hj : j < n) (hn : n < 2 ^ 31) (hv : f j = v) (hdg : decode cc pc = .ok (.caload, 1))
    (kk : W p l e R s m args below meth c H locs cells slots Q (F0 m (pc + 1) ls (.int v :: rest))) : W p l e R s m args below meth c H locs cells slots Q (F0 m pc ls (.int i :: .ref a :: rest)) :=
  va_cald hexec hb hK hP q0 t0 ha ht (k_vpin hi hj hn) hdg (by rw [k_toNat hi hj hn, hv]; exact kk)
theorem k_iast {i x : Int32} {j n : Nat} {f : Nat → Int32} (hexec : p.tables.exec = Jvm.exec) (hb : c.code = cc) (hK : va_K D vwCl tys s) (hP : va_P D vwCl ws H) (hD : va_D A ws) (hS : va_S A H0 H locs) (q0 t0 : Nat) {cA : ClassId} (ha : ws[q0]? = some (a, .inl (cA, n, .inl f))) (ht : tys[t0]? = some (cA, .int)) (hi : i = nI j) (hj : j < n) (hn : n < 2 ^ 31) (hdg : decode cc pc = .ok (.iastore, 1))
    (kk : ∀ (H1 : Heap) (locs1 : List Loc), va_P D vwCl (ws.set q0 (a, .inl (cA, n, .inl (upd f j x)))) H1 → va_D A (ws.set q0 (a, .inl (cA, n, .inl (upd f j x)))) → va_S A H0 H1 locs1 → W p l e R s m args below meth c H1 locs1 cells slots Q (F0 m (pc + 1) ls rest)) : W p l e R s m args below meth c H locs cells slots Q (F0 m pc ls (.int x :: .int i :: .ref a :: rest)) :=
  va_iast hexec hb hK hP hD hS q0 t0 ha ht (k_vpin hi hj hn) hdg (by rw [k_toNat hi hj hn]; exact kk)
theorem k_cast {i x : Int32} {j n : Nat} {f : Nat → Int32} (hexec : p.tables.exec = Jvm.exec) (hb : c.code = cc) (hK : va_K D vwCl tys s) (hP : va_P D vwCl ws H) (hD : va_D A ws) (hS : va_S A H0 H locs) (q0 t0 : Nat) {cA : ClassId} (ha : ws[q0]? = some (a, .inl (cA, n, .inl f))) (ht : tys[t0]? = some (cA, .char)) (hi : i = nI j) (hj : j < n) (hn : n < 2 ^ 31) (hx : vp_nar .char x = x) (hdg : decode cc pc = .ok (.castore, 1))
    (kk : ∀ (H1 : Heap) (locs1 : List Loc), va_P D vwCl (ws.set q0 (a, .inl (cA, n, .inl (upd f j x)))) H1 → va_D A (ws.set q0 (a, .inl (cA, n, .inl (upd f j x)))) → va_S A H0 H1 locs1 → W p l e R s m args below meth c H1 locs1 cells slots Q (F0 m (pc + 1) ls rest)) : W p l e R s m args below meth c H locs cells slots Q (F0 m pc ls (.int x :: .int i :: .ref a :: rest)) :=
  va_cast hexec hb hK hP hD hS q0 t0 ha ht (k_vpin hi hj hn) hdg (by rw [k_toNat hi hj hn, hx]; exact kk)
theorem k_copyi {cc : ByteArray} {sp dp n : Nat} (hexec : p.tables.exec = Jvm.exec) (hb : c.code = cc) (hml : c.maxLocals = ls.size) {own : String} {index : Nat} (hown : s.vm.findClass own = some m.cls) (hlink : (Cond.methodLink own index arraycopyName).before args s = true) (hnat : (Cond.native arraycopyName).before args s = true) (hstat : (Cond.static arraycopyName).before args s = true) (hini : (Cond.initialized "java/lang/System").before args s = true)
    (hK : va_K D vwCl tys s) (hP : va_P D vwCl ws H) (hD : va_D A ws) (hS : va_S A H0 H locs) (q0 q1 t0 t1 : Nat) {a0 : Nat} {c0 c1 : ClassId} {n0 n1 : Nat} {f g : Nat → Int32} (ha0 : ws[q0]? = some (a0, .inl (c0, n0, .inl f))) (ha1 : ws[q1]? = some (a, .inl (c1, n1, .inl g))) (ht0 : tys[t0]? = some (c0, .int)) (ht1 : tys[t1]? = some (c1, .int))
    (hb3 : sp + n ≤ n0 ∧ dp + n ≤ n1 ∧ n0 < 2 ^ 31 ∧ n1 < 2 ^ 31)
    (hframes : 1 ≤ R.frames) (hlocals : (rest.map fun v => v.category).sum + (nativeFrameWords "java/lang/System" "arraycopy" 5 + 11) ≤ R.locals) (hdg : decode cc pc = .ok (.invokestatic index, 3))
    (kk : ∀ (H1 : Heap) (locs1 : List Loc), va_P D vwCl (ws.set q1 (a, .inl (c1, n1, .inl (va_cpy f g sp dp n)))) H1 → va_D A (ws.set q1 (a, .inl (c1, n1, .inl (va_cpy f g sp dp n)))) → va_S A H0 H1 locs1 → W p l e R s m args below meth c H1 locs1 cells slots Q (F0 m (pc + 3) ls rest)) : W p l e R s m args below meth c H locs cells slots Q (F0 m pc ls (.int (nI n) :: .int (nI dp) :: .ref a :: .int (nI sp) :: .ref a0 :: rest)) := by
  obtain ⟨h1, h2, h3, h4⟩ := hb3
  have e1 : (nI sp).toNatClampNeg = sp := nI_clamp (by omega)
  have e2 : (nI dp).toNatClampNeg = dp := nI_clamp (by omega)
  have e3 : (nI n).toNatClampNeg = n := nI_clamp (by omega)
  refine va_copyi hexec hb hml hown hlink hnat hstat hini hK hP hD hS q0 q1 t0 t1 ha0 ha1 ht0 ht1 rfl (nI_pos (by omega)) (nI_pos (by omega)) (nI_pos (by omega)) (by rw [e1, e3]; exact h1) (by rw [e2, e3]; exact h2) (fun _ _ => rfl) hframes hlocals hdg ?_
  rw [e1, e2, e3]
  exact kk
end KROWS
theorem k_swOut {x lo hi : Int32} {a b : Int} (h1 : lo.toInt = a) (h2 : hi.toInt = b) (h : x < lo ∨ hi < x) : x.toInt < a ∨ b < x.toInt := by
  rw [← h1, ← h2, ← Int32.lt_iff_toInt_lt, ← Int32.lt_iff_toInt_lt]
  exact h
theorem k_swIn {x lo hi : Int32} {n : Nat} (h0 : lo = nI lo.toInt.toNat) (h1 : 0 ≤ lo.toInt) (h2 : hi = nI (lo.toInt.toNat + n)) (h3 : lo.toInt.toNat + n < 2 ^ 31) (h : ¬ (x < lo ∨ hi < x)) : ∃ j : Nat, j < n + 1 ∧ x = nI (lo.toInt.toNat + j) := by
  simp only [not_or, Int32.not_lt] at h
  obtain ⟨ha, hb⟩ := h
  rw [Int32.le_iff_toInt_le] at ha hb
  rw [h2, nI_toInt h3] at hb
  refine ⟨x.toInt.toNat - lo.toInt.toNat, by omega, ?_⟩
  rw [← Int32.toInt_inj, nI_toInt (by omega)]
  omega
/-! the worlds: the reference's object; the class's objects, each with what it reaches -/
abbrev tyL (I C Q : ClassId) : kTy := [(I, .int), (C, .char), (Q, .object RX1)]
abbrev wM (I : ClassId) (a0 a1 a2 a3 a4 : Nat) (now kept : Nat → Int32) (st : Int32) (text : Nat → Int32) (len att num : Int32) (rd : Nat → Int32) : va_W := [(a0, .inr (9, [.ref a1, .ref a2, .int st, .ref a3, .int len, .int att, .int num, .ref a4])), (a1, .inl (I, 1080, .inl now)), (a2, .inl (I, 4320, .inl kept)), (a3, .inl (I, 80, .inl text)), (a4, .inl (I, 5, .inl rd))]
abbrev wT (I : ClassId) (b0 b1 : Nat) (rn cn : Nat) (cf : Nat → Int32) : va_W := [(b0, .inr (5, [.int (nI rn), .int (nI cn), .ref b1])), (b1, .inl (I, rn * cn, .inl cf))]
abbrev wEv (I : ClassId) (e0 e1 e2 : Nat) (ev : Nat → Int32) (dbl : Int32) : va_W := [(e0, .inr (2, [.ref e1, .int dbl])), (e1, .inr (5, [.int (nI 64), .int (nI 7), .ref e2])), (e2, .inl (I, 64 * 7, .inl ev))]
abbrev wWd (I : ClassId) (w0 w1 w2 : Nat) (wd : Nat → Int32) (kp tl tk : Int32) : va_W := [(w0, .inr (7, [.ref w1, .int kp, .int tl, .int tk])), (w1, .inr (5, [.int (nI 40), .int (nI 4), .ref w2])), (w2, .inl (I, 40 * 4, .inl wd))]
abbrev wCb (I : ClassId) (g0 g1 g2 : Nat) (cb : Nat → Int32) : va_W := [(g0, .inr (0, [.ref g1])), (g1, .inr (5, [.int (nI 3), .int (nI 5), .ref g2])), (g2, .inl (I, 3 * 5, .inl cb))]
abbrev wPn (I : ClassId) (p0 p1 p2 w0 w1 w2 : Nat) (pn : Nat → Int32) (us : Int32) (wd : Nat → Int32) (kp tl tk : Int32) : va_W := [(p0, .inr (4, [.ref p1, .ref w0, .int us])), (p1, .inr (5, [.int (nI 64), .int (nI 8), .ref p2])), (p2, .inl (I, 64 * 8, .inl pn)), (w0, .inr (7, [.ref w1, .int kp, .int tl, .int tk])), (w1, .inr (5, [.int (nI 40), .int (nI 4), .ref w2])), (w2, .inl (I, 40 * 4, .inl wd))]
abbrev wC (I : ClassId) (c0 e0 e1 e2 p0 p1 p2 w0 w1 w2 g0 g1 g2 : Nat) (ev : Nat → Int32) (dbl : Int32) (pn : Nat → Int32) (us : Int32) (wd : Nat → Int32) (kp tl tk : Int32) (cb : Nat → Int32) (sz lg gr wt lt mv : Int32) : va_W := [(c0, .inr (1, [.ref e0, .ref p0, .ref g0, .int sz, .int lg, .int gr, .int wt, .int lt, .int mv])),
  (e0, .inr (2, [.ref e1, .int dbl])), (e1, .inr (5, [.int (nI 64), .int (nI 7), .ref e2])), (e2, .inl (I, 64 * 7, .inl ev)),
  (p0, .inr (4, [.ref p1, .ref w0, .int us])), (p1, .inr (5, [.int (nI 64), .int (nI 8), .ref p2])), (p2, .inl (I, 64 * 8, .inl pn)), (w0, .inr (7, [.ref w1, .int kp, .int tl, .int tk])), (w1, .inr (5, [.int (nI 40), .int (nI 4), .ref w2])), (w2, .inl (I, 40 * 4, .inl wd)),
  (g0, .inr (0, [.ref g1])), (g1, .inr (5, [.int (nI 3), .int (nI 5), .ref g2])), (g2, .inl (I, 3 * 5, .inl cb))]
abbrev wX (I C : ClassId) (x0 x1 : Nat) (sg : Nat → Int32) (xl xp xn xi xt xk xa xe xf xr : Int32) : va_W := [(x0, .inr (6, [.ref x1, .int xl, .int xp, .int xn, .int xi, .int xt, .int xk, .int xa, .int xe, .int xf, .int xr])), (x1, .inl (C, 80, .inl sg))]
theorem k_P0 {D : va_G} {H : Heap} : va_P D vwCl [] H := fun k q h => by simp at h
theorem k_D0 {A : Nat → Prop} : va_D A [] := ⟨fun i j p q h => by simp at h, fun k q h => by simp at h⟩
end
section
/-! floats: the halves of trust -/
def f_h (k : Nat) : UInt32 := FP.fdiv (FP.i2f (nI k)) 1073741824
theorem f_h1 : ∀ k < 129, FP.fadd (f_h k) 1065353216 = f_h (k + 2) := by decide +kernel
theorem f_h5 : ∀ k < 129, FP.fadd (f_h k) 1056964608 = f_h (k + 1) := by decide +kernel
theorem f_hz : ∀ k < 129, FP.fadd (f_h k) 0 = f_h k := by decide +kernel
theorem f_h00 : f_h 0 = 0 := by decide +kernel
theorem f_hs : ∀ a < 65, ∀ b < 65 - a, FP.fadd (FP.i2f (nI a)) (FP.fdiv (FP.i2f (nI b)) 1073741824) = f_h (2 * a + b) := by decide +kernel
theorem f_hN : ∀ k < 131, vf_n32 (f_h k) := by unfold vf_n32; decide +kernel
end
section
/-! floats: the steps of the two normalisations, exact -/
theorem f_two : FP.Core.val32 1073741824 = .fin false 8388608 (-22) := by decide
theorem f_one : FP.Core.val32 1065353216 = .fin false 8388608 (-23) := by decide
theorem f_p23 : FP.Core.val32 1258291200 = .fin false 8388608 0 := by decide
theorem f_zero : FP.Core.val32 0 = .fin false 0 (-149) := by decide
theorem f_sb (s : Bool) : (s != false) = s := by cases s <;> rfl
/-- times two -/
theorem f_dbl {x : UInt32} {s : Bool} {c : Nat} {q : Int} (h : FP.Core.val32 x = .fin s c q) (h1 : 8388608 ≤ c) (h2 : c < 16777216) (h3 : -149 ≤ q) (h4 : q ≤ 103) :
    FP.Core.val32 (FP.Core.fmul x 1073741824) = .fin s c (q + 1) := by
  rw [FP.Core.val32_fmul, h, f_two]
  show FP.Core.roundRatio FP.Core.b32 (s != false) (c * 8388608) 1 (q + -22) = _
  rw [f_sb]
  refine FP.Core.roundRatio_exact FP.Core.good_b32 (by decide) ⟨h2, ?_, ?_, .inr h1⟩ ?_
  · show (-149 : Int) ≤ q + 1; omega
  · show q + 1 ≤ (104 : Int); omega
  · rw [show ((q + -22) - (q + 1)).toNat = 0 by omega, show ((q + 1) - (q + -22)).toNat = 23 by omega]
    omega
/-- half -/
theorem f_half {x : UInt32} {s : Bool} {c : Nat} {q : Int} (h : FP.Core.val32 x = .fin s c q) (h1 : 8388608 ≤ c) (h2 : c < 16777216) (h3 : -148 ≤ q) (h4 : q ≤ 104) :
    FP.Core.val32 (FP.Core.fdiv x 1073741824) = .fin s c (q - 1) := by
  rw [FP.Core.val32_fdiv, h, f_two]
  show FP.Core.roundRatio FP.Core.b32 (s != false) c 8388608 (q - -22) = _
  rw [f_sb]
  refine FP.Core.roundRatio_exact FP.Core.good_b32 (by decide) ⟨h2, ?_, ?_, .inr h1⟩ ?_
  · show (-149 : Int) ≤ q - 1; omega
  · show q - 1 ≤ (104 : Int); omega
  · rw [show ((q - -22) - (q - 1)).toNat = 23 by omega, show ((q - 1) - (q - -22)).toNat = 0 by omega]
    omega
theorem f_cut {v : Int} {c : Nat} (h : v = (c : Int)) (hc : c < 16777216) : Int32.ofInt (max (-2 ^ 31) (min (2 ^ 31 - 1) v)) = nI c := by
  subst h
  rw [show max (-2 ^ 31) (min (2 ^ 31 - 1) (c : Int)) = (c : Int) by omega]
  rfl
/-- a whole number between 2^23 and 2^24, told -/
theorem f_f2i {x : UInt32} {c : Nat} (h : FP.Core.val32 x = .fin false c 0) (h2 : c < 16777216) : FP.Core.f2i x = nI c := by
  show FP.Core.toI (FP.Core.val32 x) = _
  rw [h]
  exact f_cut (by rw [show FP.Core.truncate false c 0 = FP.Core.signed false (c * 2 ^ (0 : Int).toNat / 2 ^ (-(0 : Int)).toNat) from rfl]; simp [FP.Core.signed]) (by omega)
theorem f_norm {m : Nat} (h0 : 0 < m) (h1 : m < 16777216) : ∃ j, j ≤ 23 ∧ 8388608 ≤ m * 2 ^ j ∧ m * 2 ^ j < 16777216 := by
  have a1 : 2 ^ m.log2 ≤ m := Nat.log2_self_le (by omega)
  have a2 : m < 2 ^ (m.log2 + 1) := Nat.lt_log2_self
  have a3 : m.log2 ≤ 23 := by
    refine Nat.le_of_lt_succ ((Nat.pow_lt_pow_iff_right (a := 2) (by decide)).mp (Nat.lt_of_le_of_lt a1 h1))
  refine ⟨23 - m.log2, by omega, ?_, ?_⟩
  · have h := Nat.mul_le_mul_right (2 ^ (23 - m.log2)) a1
    rw [← Nat.pow_add, show m.log2 + (23 - m.log2) = 23 by omega] at h
    exact h
  · have h := Nat.mul_lt_mul_of_pos_right a2 (Nat.two_pow_pos (23 - m.log2))
    rw [← Nat.pow_add, show m.log2 + 1 + (23 - m.log2) = 24 by omega] at h
    exact h
theorem f_sub1 {x : UInt32} {c : Nat} (h : FP.Core.val32 x = .fin false c (-23)) (h1 : 8388608 ≤ c) :
    FP.Core.val32 (FP.Core.fsub x 1065353216) = FP.Core.roundRatio FP.Core.b32 false (c - 8388608) 1 (-23) := by
  have hv : FP.Core.sumUnits false c (-23) true 8388608 (-23) (min (-23) (-23)) = ((c - 8388608 : Nat) : Int) := by
    simp [FP.Core.sumUnits, FP.Core.signed, FP.Core.inUnits]; omega
  rw [FP.Core.val32_fsub, h, f_one]
  simp only [FP.Core.negate, Bool.not_false, FP.Core.exactSum, hv]
  clear hv
  generalize c - 8388608 = m
  have hsg : FP.Core.sumSign false true ((m : Nat) : Int) = false := by
    unfold FP.Core.sumSign
    split
    · rfl
    · exact decide_eq_false (by omega)
  rw [hsg, Int.natAbs_natCast, show min (-23 : Int) (-23) = -23 by decide]
  rfl
/-- what X9 keeps of a number between 1 and 2: (x - 1) * 2^23 -/
theorem f_frac {x : UInt32} {c : Nat} (h : FP.Core.val32 x = .fin false c (-23)) (h1 : 8388608 ≤ c) (h2 : c < 16777216) :
    FP.Core.f2i (FP.Core.fmul (FP.Core.fsub x 1065353216) 1258291200) = nI (c - 8388608) := by
  have hs := f_sub1 h h1
  show FP.Core.toI (FP.Core.val32 _) = _
  rw [FP.Core.val32_fmul, hs, f_p23]
  by_cases h0 : c - 8388608 = 0
  · rw [h0]; rfl
  · obtain ⟨j, j1, j2, j3⟩ := f_norm (m := c - 8388608) (by omega) (by omega)
    have hm : c - 8388608 < 16777216 := by omega
    generalize c - 8388608 = m at *
    rw [show FP.Core.roundRatio FP.Core.b32 false m 1 (-23) = .fin false (m * 2 ^ j) (-23 - (j : Int)) from by
      refine FP.Core.roundRatio_exact FP.Core.good_b32 (by decide) ⟨j3, ?_, ?_, .inr j2⟩ ?_
      · show (-149 : Int) ≤ -23 - (j : Int); omega
      · show -23 - (j : Int) ≤ (104 : Int); omega
      · rw [show ((-23 : Int) - (-23 - (j : Int))).toNat = j by omega, show ((-23 - (j : Int)) - (-23)).toNat = 0 by omega]; omega]
    show FP.Core.toI (FP.Core.roundRatio FP.Core.b32 (false != false) (m * 2 ^ j * 8388608) 1 (-23 - (j : Int) + 0)) = _
    rw [show FP.Core.roundRatio FP.Core.b32 (false != false) (m * 2 ^ j * 8388608) 1 (-23 - (j : Int) + 0) = .fin false (m * 2 ^ j) (-(j : Int)) from by
      rw [f_sb]
      refine FP.Core.roundRatio_exact FP.Core.good_b32 (by decide) ⟨j3, ?_, ?_, .inr j2⟩ ?_
      · show (-149 : Int) ≤ -(j : Int); omega
      · show -(j : Int) ≤ (104 : Int); omega
      · rw [show ((-23 - (j : Int) + 0) - (-(j : Int))).toNat = 0 by omega, show ((-(j : Int)) - (-23 - (j : Int) + 0)).toNat = 23 by omega]; omega]
    refine f_cut ?_ (by omega)
    show FP.Core.signed false (m * 2 ^ j * 2 ^ (-(j : Int)).toNat / 2 ^ (- -(j : Int)).toNat) = _
    rw [show (-(j : Int)).toNat = 0 by omega, show (- -(j : Int)).toNat = j by omega, Nat.pow_zero, Nat.mul_one, Nat.mul_div_cancel _ (Nat.two_pow_pos j)]
    rfl
end
section
/-! floats: comparisons -/
theorem f_ordK {x K : UInt32} {d e : FP.Core.Datum} (hx : FP.Core.val32 x = d) (hK : FP.Core.val32 K = e) : FP.fcmp x K = FP.Core.order d e := by
  subst hx; subst hK; rfl
theorem f_pow1 {n : Nat} (h : 1 ≤ n) : 2 ≤ 2 ^ n := Nat.pow_le_pow_right (n := 2) (by decide) h
theorem f_lt {x K : UInt32} {c : Nat} {q r : Int} (hx : FP.Core.val32 x = .fin false c q) (hK : FP.Core.val32 K = .fin false 8388608 r) (h2 : c < 16777216) (hq : q < r) : FP.fcmp x K = some .lt := by
  rw [f_ordK hx hK, FP.Core.order]
  refine congrArg some ?_
  rw [show min q r = q by omega]
  unfold FP.Core.signed FP.Core.inUnits
  rw [show (q - q).toNat = 0 by omega, if_neg (by decide), if_neg (by decide)]
  have h := f_pow1 (n := (r - q).toNat) (by omega)
  generalize 2 ^ (r - q).toNat = k at h
  show compareOfLessAndEq _ _ = _
  rw [compareOfLessAndEq, if_pos (by omega)]
theorem f_ge {x K : UInt32} {c : Nat} {q r : Int} (hx : FP.Core.val32 x = .fin false c q) (hK : FP.Core.val32 K = .fin false 8388608 r) (h1 : 8388608 ≤ c) (hq : r ≤ q) : FP.fcmp x K = some .eq ∨ FP.fcmp x K = some .gt := by
  rw [f_ordK hx hK, FP.Core.order]
  rw [show min q r = r by omega]
  unfold FP.Core.signed FP.Core.inUnits
  rw [show (r - r).toNat = 0 by omega, if_neg (by decide), if_neg (by decide)]
  have h := Nat.two_pow_pos (q - r).toNat
  generalize 2 ^ (q - r).toNat = k at h
  have h3 : 8388608 ≤ c * k := Nat.le_trans h1 (Nat.le_mul_of_pos_right c h)
  have h4 : ¬ ((c * k : Nat) : Int) < ((8388608 * 2 ^ 0 : Nat) : Int) := by omega
  have h5 : ∀ a b : Int, ¬ a < b → some (compare a b) = some .eq ∨ some (compare a b) = some .gt := fun a b hab => by
    show some (compareOfLessAndEq a b) = _ ∨ some (compareOfLessAndEq a b) = _
    rw [compareOfLessAndEq, if_neg hab]
    split
    · exact .inl rfl
    · exact .inr rfl
  exact h5 _ _ h4
theorem f_neg0 {x : UInt32} {c : Nat} {q : Int} (hx : FP.Core.val32 x = .fin true c q) (h0 : 0 < c) : FP.fcmp x 0 = some .lt := by
  rw [f_ordK hx f_zero, FP.Core.order]
  refine congrArg some ?_
  unfold FP.Core.signed FP.Core.inUnits
  rw [if_pos rfl, if_neg (by decide), Nat.zero_mul]
  have h := Nat.two_pow_pos (q - min q (-149)).toNat
  generalize 2 ^ (q - min q (-149)).toNat = k at h
  have h3 : 0 < c * k := Nat.mul_pos h0 h
  generalize c * k = m at h3
  show compareOfLessAndEq _ _ = _
  rw [compareOfLessAndEq, if_pos (by omega)]
theorem f_pos0 {x : UInt32} {c : Nat} {q : Int} (hx : FP.Core.val32 x = .fin false c q) (h0 : 0 < c) : FP.fcmp x 0 = some .gt := by
  rw [f_ordK hx f_zero, FP.Core.order]
  refine congrArg some ?_
  unfold FP.Core.signed FP.Core.inUnits
  rw [if_neg (by decide), if_neg (by decide), Nat.zero_mul]
  have h := Nat.two_pow_pos (q - min q (-149)).toNat
  generalize 2 ^ (q - min q (-149)).toNat = k at h
  have h3 : 0 < c * k := Nat.mul_pos h0 h
  generalize c * k = m at h3
  show compareOfLessAndEq _ _ = _
  rw [compareOfLessAndEq, if_neg (by omega), if_neg (by omega)]
theorem f_neg {x : UInt32} {s : Bool} {c : Nat} {q : Int} (hx : FP.Core.val32 x = .fin s c q) : FP.Core.val32 (FP.Core.fneg x) = .fin (!s) c q := by
  rw [FP.Core.val32_fneg, hx]; rfl
theorem f_nn {x : UInt32} {s : Bool} {c : Nat} {q : Int} (h : FP.Core.val32 x = .fin s c q) : vf_n32 x := by
  unfold vf_n32
  refine Decidable.byContradiction fun hn => ?_
  rw [UInt32.le_iff_toNat_le, UInt32.toNat_and, show (2147483647 : UInt32).toNat = 2 ^ 31 - 1 by decide, Nat.and_two_pow_sub_one_eq_mod, show (2139095040 : UInt32).toNat = 2139095040 by decide] at hn
  have hE : FP.Core.fieldE FP.Core.b32 x.toNat = 255 := by
    show x.toNat / 8388608 % 256 = 255
    omega
  have hT : ¬ FP.Core.fieldT FP.Core.b32 x.toNat = 0 := by
    show ¬ x.toNat % 8388608 = 0
    omega
  unfold FP.Core.val32 FP.Core.decode at h
  rw [if_pos (show FP.Core.fieldE FP.Core.b32 x.toNat = FP.Core.b32.exps - 1 from hE), if_neg hT] at h
  exact absurd h (by simp)
theorem f_dec (k : Nat) : nI (k + 1) + (-1) = nI k := by
  rw [← nI_add k 1, Int32.add_assoc, show (nI 1 + (-1) : Int32) = 0 by decide, Int32.add_zero]
end
section
/-! floats: a quotient of two numbers of like size is normal -/
theorem f_rr {s : Bool} {A B k : Nat} {e q : Int} (hk : (e - q).toNat = k) (hk0 : (q - e).toNat = 0) (hA : 0 < A) (hB : 0 < B) (hl : 8388608 * B ≤ A * 2 ^ k) (hu : A * 2 ^ k < 16777216 * B) (h1 : -149 ≤ q) (h2 : q ≤ 100) :
    ∃ c r, FP.Core.roundRatio FP.Core.b32 s A B e = .fin s c r ∧ 8388608 ≤ c ∧ c < 16777216 ∧ q ≤ r ∧ r ≤ q + 1 := by
  have hq : FP.Core.quantum FP.Core.b32 A B e = q := by
    refine FP.Core.quantum_eq hA hB h1 ?_ (.inr fun hb => ?_)
    · refine (FP.Core.units_below A B e q 24).mp ?_
      unfold FP.Core.unitsNum FP.Core.unitsDen
      rw [hk, hk0]
      omega
    · have h := (FP.Core.units_below A B e q 23).mpr hb
      unfold FP.Core.unitsNum FP.Core.unitsDen at h
      rw [hk, hk0] at h
      omega
  unfold FP.Core.roundRatio
  rw [if_neg (by omega), hq]
  unfold FP.Core.roundAt FP.Core.unitsNum FP.Core.unitsDen
  rw [hk, hk0, Nat.pow_zero, Nat.mul_one]
  have n1 := FP.Core.nearest_ge (A := A * 2 ^ k) hB hl
  have n2 := FP.Core.nearest_le (A := A * 2 ^ k) hB (Nat.le_of_lt hu)
  generalize FP.Core.nearest (A * 2 ^ k) B = N at n1 n2
  unfold FP.Core.settle FP.Core.bound
  by_cases hN : N < 16777216
  · refine ⟨N, q, ?_, n1, hN, by omega, by omega⟩
    rw [if_pos (show N < 2 ^ FP.Core.b32.p from hN), if_pos (show q ≤ FP.Core.b32.qmax from (show q ≤ (104 : Int) by omega))]
  · refine ⟨8388608, q + 1, ?_, by decide, by decide, by omega, by omega⟩
    rw [if_neg (show ¬ N < 2 ^ FP.Core.b32.p from hN), if_pos (show q + 1 ≤ FP.Core.b32.qmax from (show q + 1 ≤ (104 : Int) by omega))]
    rfl
theorem f_quo {x y : UInt32} {s : Bool} {c d : Nat} {q r : Int} (hx : FP.Core.val32 x = .fin s c q) (hy : FP.Core.val32 y = .fin false d r) (c1 : 8388608 ≤ c) (c2 : c < 16777216) (d1 : 8388608 ≤ d) (d2 : d < 16777216) (h1 : -90 ≤ q - r) (h2 : q - r ≤ 90) :
    ∃ a b, FP.Core.val32 (FP.Core.fdiv x y) = .fin s a b ∧ 8388608 ≤ a ∧ a < 16777216 ∧ q - r - 24 ≤ b ∧ b ≤ q - r - 22 := by
  rw [FP.Core.val32_fdiv, hx, hy]
  unfold FP.Core.quotient
  simp only [show ¬ d = 0 by omega, if_false, f_sb]
  by_cases h : d ≤ c
  · obtain ⟨a, b, e1, e2, e3, e4, e5⟩ := f_rr (s := s) (A := c) (B := d) (k := 23) (e := q - r) (q := q - r - 23) (by omega) (by omega) (by omega) (by omega) (by omega) (by omega) (by omega) (by omega)
    exact ⟨a, b, e1, e2, e3, by omega, by omega⟩
  · obtain ⟨a, b, e1, e2, e3, e4, e5⟩ := f_rr (s := s) (A := c) (B := d) (k := 24) (e := q - r) (q := q - r - 24) (by omega) (by omega) (by omega) (by omega) (by omega) (by omega) (by omega) (by omega)
    exact ⟨a, b, e1, e2, e3, by omega, by omega⟩
/-- a whole number, exactly -/
theorem f_i2f {a : Int32} {m : Nat} (hm : a.toInt.natAbs = m) (h0 : 0 < m) (h1 : m < 16777216) : ∃ j : Nat, j ≤ 23 ∧ FP.Core.val32 (FP.Core.i2f a) = .fin (decide (a.toInt < 0)) (m * 2 ^ j) (-(j : Int)) ∧ 8388608 ≤ m * 2 ^ j ∧ m * 2 ^ j < 16777216 := by
  obtain ⟨j, j1, j2, j3⟩ := f_norm h0 h1
  refine ⟨j, j1, ?_, j2, j3⟩
  rw [FP.Core.val32_i2f]
  unfold FP.Core.ofInt
  rw [hm]
  show FP.Core.roundRatio FP.Core.b32 _ m 1 0 = _
  refine FP.Core.roundRatio_exact FP.Core.good_b32 (by decide) ⟨j3, ?_, ?_, .inr j2⟩ ?_
  · show (-149 : Int) ≤ -(j : Int); omega
  · show -(j : Int) ≤ (104 : Int); omega
  · rw [show ((0 : Int) - -(j : Int)).toNat = j by omega, show (-(j : Int) - 0).toNat = 0 by omega]; omega
end
section
/-! floats: no NaN in X9's end, means and trusts -/
theorem f_subN {x : UInt32} {c : Nat} (h : FP.Core.val32 x = .fin false c (-23)) (h1 : 8388608 ≤ c) (h2 : c < 16777216) : ∃ (m : Nat) (q : Int), FP.Core.val32 (FP.Core.fsub x 1065353216) = .fin false m q := by
  rw [f_sub1 h h1]
  by_cases h0 : c - 8388608 = 0
  · rw [h0]; exact ⟨_, _, rfl⟩
  · obtain ⟨j, j1, j2, j3⟩ := f_norm (m := c - 8388608) (by omega) (by omega)
    have hm : c - 8388608 < 16777216 := by omega
    generalize c - 8388608 = m at *
    refine ⟨m * 2 ^ j, -23 - (j : Int), FP.Core.roundRatio_exact FP.Core.good_b32 (by decide) ⟨j3, ?_, ?_, .inr j2⟩ ?_⟩
    · show (-149 : Int) ≤ -23 - (j : Int); omega
    · show -23 - (j : Int) ≤ (104 : Int); omega
    · rw [show ((-23 : Int) - (-23 - (j : Int))).toNat = j by omega, show ((-23 - (j : Int)) - (-23)).toNat = 0 by omega]; omega
theorem f_mulN {x : UInt32} {c : Nat} (h : FP.Core.val32 x = .fin false c (-23)) (h1 : 8388608 ≤ c) (h2 : c < 16777216) : ∃ (m : Nat) (q : Int), FP.Core.val32 (FP.Core.fmul (FP.Core.fsub x 1065353216) 1258291200) = .fin false m q := by
  rw [FP.Core.val32_fmul, f_sub1 h h1, f_p23]
  by_cases h0 : c - 8388608 = 0
  · rw [h0]; exact ⟨_, _, rfl⟩
  · obtain ⟨j, j1, j2, j3⟩ := f_norm (m := c - 8388608) (by omega) (by omega)
    have hm : c - 8388608 < 16777216 := by omega
    generalize c - 8388608 = m at *
    rw [show FP.Core.roundRatio FP.Core.b32 false m 1 (-23) = .fin false (m * 2 ^ j) (-23 - (j : Int)) from by
      refine FP.Core.roundRatio_exact FP.Core.good_b32 (by decide) ⟨j3, ?_, ?_, .inr j2⟩ ?_
      · show (-149 : Int) ≤ -23 - (j : Int); omega
      · show -23 - (j : Int) ≤ (104 : Int); omega
      · rw [show ((-23 : Int) - (-23 - (j : Int))).toNat = j by omega, show ((-23 - (j : Int)) - (-23)).toNat = 0 by omega]; omega]
    show ∃ (a : Nat) (q : Int), FP.Core.roundRatio FP.Core.b32 (false != false) (m * 2 ^ j * 8388608) 1 (-23 - (j : Int) + 0) = .fin false a q
    rw [f_sb]
    refine ⟨m * 2 ^ j, -(j : Int), FP.Core.roundRatio_exact FP.Core.good_b32 (by decide) ⟨j3, ?_, ?_, .inr j2⟩ ?_⟩
    · show (-149 : Int) ≤ -(j : Int); omega
    · show -(j : Int) ≤ (104 : Int); omega
    · rw [show ((-23 - (j : Int) + 0) - (-(j : Int))).toNat = 0 by omega, show ((-(j : Int)) - (-23 - (j : Int) + 0)).toNat = 23 by omega]; omega
theorem f_nnS {x : UInt32} {c : Nat} (h : FP.Core.val32 x = .fin false c (-23)) (h1 : 8388608 ≤ c) (h2 : c < 16777216) : vf_n32 (FP.Core.fsub x 1065353216) := by
  obtain ⟨m, q, e⟩ := f_subN h h1 h2
  exact f_nn e
theorem f_nnM {x : UInt32} {c : Nat} (h : FP.Core.val32 x = .fin false c (-23)) (h1 : 8388608 ≤ c) (h2 : c < 16777216) : vf_n32 (FP.Core.fmul (FP.Core.fsub x 1065353216) 1258291200) := by
  obtain ⟨m, q, e⟩ := f_mulN h h1 h2
  exact f_nn e
/-- a float that is 0, or normal and of a moderate size -/
def f_ok (x : UInt32) : Prop := x = 0 ∨ ∃ (s : Bool) (u w : Nat), FP.Core.val32 x = .fin s u (-(w : Int)) ∧ 8388608 ≤ u ∧ u < 16777216 ∧ w ≤ 60
noncomputable def f_bits (x : UInt32) : Int32 := if x = 0 then 0 else match FP.Core.val32 x with
  | .fin s u q => if s = true then ((nI (150 - (-q).toNat) <<< (23 &&& 31)) + (nI u - 8388608)) ||| (-2147483648) else (nI (150 - (-q).toNat) <<< (23 &&& 31)) + (nI u - 8388608)
  | _ => 0
theorem f_bits0 : f_bits 0 = 0 := if_pos rfl
theorem f_ok0 {x : UInt32} {s : Bool} {u : Nat} {q : Int} (h : FP.Core.val32 x = .fin s u q) (h1 : 8388608 ≤ u) : ¬ x = 0 := by
  intro e
  rw [e, f_zero] at h
  injection h with _ h2 _
  omega
theorem f_bitsP {x : UInt32} {u w : Nat} (h : FP.Core.val32 x = .fin false u (-(w : Int))) (h1 : 8388608 ≤ u) : f_bits x = (nI (150 - w) <<< (23 &&& 31)) + (nI u - 8388608) := by
  unfold f_bits
  rw [if_neg (f_ok0 h h1), h]
  simp only [Bool.false_eq_true, if_false, Int.neg_neg, Int.toNat_natCast]
theorem f_bitsM {x : UInt32} {u w : Nat} (h : FP.Core.val32 x = .fin true u (-(w : Int))) (h1 : 8388608 ≤ u) : f_bits x = ((nI (150 - w) <<< (23 &&& 31)) + (nI u - 8388608)) ||| (-2147483648) := by
  unfold f_bits
  rw [if_neg (f_ok0 h h1), h]
  simp only [if_true, Int.neg_neg, Int.toNat_natCast]
theorem f_okN {x : UInt32} (h : f_ok x) : vf_n32 x := by
  rcases h with h | ⟨s, u, w, h, -, -, -⟩
  · rw [h]; unfold vf_n32; decide
  · exact f_nn h
theorem f_z0 : ∀ n < 65, 0 < n → FP.Core.fdiv 0 (FP.Core.i2f (nI n)) = 0 := by decide +kernel
theorem f_zi : FP.Core.i2f 0 = 0 := by decide +kernel
theorem f_jlo {m j B : Nat} (hm : m ≤ B) (hB : B * 1024 < 8388608) (h : 8388608 ≤ m * 2 ^ j) : 11 ≤ j := by
  refine Nat.lt_of_not_le fun hj => ?_
  have h1 : 2 ^ j ≤ 2 ^ 10 := Nat.pow_le_pow_right (n := 2) (by decide) hj
  have h2 : m * 2 ^ j ≤ B * 2 ^ 10 := Nat.mul_le_mul hm h1
  omega
theorem f_nIabs {n : Nat} (h : n ≤ 128) : (nI n).toInt.natAbs = n := by rw [nI_toInt (by omega)]; omega
/-- a mean -/
theorem f_okQ {a : Int32} {n : Nat} (ha : a.toInt.natAbs ≤ 6400) (h0 : 0 < n) (hn : n ≤ 64) : f_ok (FP.Core.fdiv (FP.Core.i2f a) (FP.Core.i2f (nI n))) := by
  by_cases hz : a = 0
  · left; rw [hz, f_zi]; exact f_z0 n (by omega) h0
  · right
    have hm : 0 < a.toInt.natAbs := by
      rcases Nat.eq_zero_or_pos a.toInt.natAbs with h | h
      · exact absurd (Int32.toInt_inj.mp (show a.toInt = (0 : Int32).toInt by rw [show (0 : Int32).toInt = 0 by decide]; omega)) hz
      · exact h
    obtain ⟨j, j1, jv, j2, j3⟩ := f_i2f (a := a) rfl hm (by omega)
    obtain ⟨k, k1, kv, k2, k3⟩ := f_i2f (a := nI n) (f_nIabs (by omega)) h0 (by omega)
    have hj := f_jlo ha (by decide) j2
    rw [show decide ((nI n).toInt < 0) = false from decide_eq_false (by rw [nI_toInt (by omega)]; omega)] at kv
    obtain ⟨u, b, e1, e2, e3, e4, e5⟩ := f_quo jv kv j2 j3 k2 k3 (by omega) (by omega)
    refine ⟨decide (a.toInt < 0), u, (-b).toNat, ?_, e2, e3, by omega⟩
    rw [e1, show -(((-b).toNat : Nat) : Int) = b by omega]
/-- half a whole number -/
theorem f_hV {k : Nat} (h0 : 0 < k) (hk : k ≤ 128) : ∃ (c j : Nat), FP.Core.val32 (f_h k) = .fin false c (-(j : Int)) ∧ 8388608 ≤ c ∧ c < 16777216 ∧ 12 ≤ j ∧ j ≤ 24 := by
  obtain ⟨j, j1, jv, j2, j3⟩ := f_i2f (a := nI k) (f_nIabs (by omega)) h0 (by omega)
  have hj := f_jlo hk (by decide) j2
  rw [show decide ((nI k).toInt < 0) = false from decide_eq_false (by rw [nI_toInt (by omega)]; omega)] at jv
  refine ⟨k * 2 ^ j, j + 1, ?_, j2, j3, by omega, by omega⟩
  have h := f_half jv j2 j3 (by omega) (by omega)
  rw [show (-(((j + 1 : Nat)) : Int)) = -(j : Int) - 1 by omega]
  exact h
/-- a trust -/
theorem f_okH {k n : Nat} (hk : k ≤ 128) (h0 : 0 < n) (hn : n ≤ 64) : f_ok (FP.Core.fdiv (f_h k) (FP.Core.i2f (nI n))) := by
  rcases Nat.eq_zero_or_pos k with hz | hz
  · left; rw [hz, f_h00]; exact f_z0 n (by omega) h0
  · right
    obtain ⟨c, j, cv, c1, c2, c3, c4⟩ := f_hV hz hk
    obtain ⟨i, k1, kv, k2, k3⟩ := f_i2f (a := nI n) (f_nIabs (by omega)) h0 (by omega)
    rw [show decide ((nI n).toInt < 0) = false from decide_eq_false (by rw [nI_toInt (by omega)]; omega)] at kv
    obtain ⟨u, b, e1, e2, e3, e4, e5⟩ := f_quo cv kv c1 c2 k2 k3 (by omega) (by omega)
    refine ⟨false, u, (-b).toNat, ?_, e2, e3, by omega⟩
    rw [e1, show -(((-b).toNat : Nat) : Int) = b by omega]
end
section
set_option maxHeartbeats 400000 in
set_option maxRecDepth 100000 in
theorem c_X8_bitsOfZ (l : Launch) (D : va_G) (I C Q : ClassId) (x : UInt32) (h0 : x = 0) : KI l D (tyL I C Q) yX8_bitsOf wsX8_bitsOf { frames := 0, cells := 0, slots := 0, locals := 0 } [.float x] [] [] 0 := by
  refine KI.of (cc := cX8_bitsOf) (maxL := 4) (rt := .int) (own := RX8) (by decide) rfl rfl (Nat.le_of_ble_eq_true rfl) ?_
  intro p e s m below meth c A Q0 ls hx hb hml hown hts hE hA hP hD hS hl hend
  have hK := hE.1
  have hF : CallFix p m c cX8_bitsOf 4 s [.float x].toArray wsX8_bitsOf RX8 := ⟨hx, hb, hml, hown, hts⟩
  have hl : lv_has ls 4 [(0, .float x)] := hl
  refine lv_fload_n hx hb dX8_bitsOf_0 rfl (lv_at hl 0 rfl) ?_
  refine lv_fconst0 hx hb dX8_bitsOf_1 ?_
  refine lv_fcmp hx hb dX8_bitsOf_2 ?_
  refine lv_if_ne (tgt := 8) hx hb dX8_bitsOf_3 (by decide) (fun c_3 => ?_) (fun c_3 => ?_)
  · exact absurd (by rw [h0]; decide +kernel) c_3
  · refine lv_iconst (v := 0) hx hb dX8_bitsOf_6 (by decide) ?_
    exact hend _ _ _ _ _ _ hP hD hS dX8_bitsOf_7 rfl rfl rfl
set_option maxHeartbeats 400000 in
set_option maxRecDepth 100000 in
theorem c_X9_bitsOfZ (l : Launch) (D : va_G) (I C Q : ClassId) (x : UInt32) (h0 : x = 0) : KI l D (tyL I C Q) yX9_bitsOf wsX9_bitsOf { frames := 0, cells := 0, slots := 0, locals := 0 } [.float x] [] [] 0 := by
  refine KI.of (cc := cX9_bitsOf) (maxL := 4) (rt := .int) (own := RX9) (by decide) rfl rfl (Nat.le_of_ble_eq_true rfl) ?_
  intro p e s m below meth c A Q0 ls hx hb hml hown hts hE hA hP hD hS hl hend
  have hK := hE.1
  have hF : CallFix p m c cX9_bitsOf 4 s [.float x].toArray wsX9_bitsOf RX9 := ⟨hx, hb, hml, hown, hts⟩
  have hl : lv_has ls 4 [(0, .float x)] := hl
  refine lv_fload_n hx hb dX9_bitsOf_0 rfl (lv_at hl 0 rfl) ?_
  refine lv_fconst0 hx hb dX9_bitsOf_1 ?_
  refine lv_fcmp hx hb dX9_bitsOf_2 ?_
  refine lv_if_ne (tgt := 8) hx hb dX9_bitsOf_3 (by decide) (fun c_3 => ?_) (fun c_3 => ?_)
  · exact absurd (by rw [h0]; decide +kernel) c_3
  · refine lv_iconst (v := 0) hx hb dX9_bitsOf_6 (by decide) ?_
    exact hend _ _ _ _ _ _ hP hD hS dX9_bitsOf_7 rfl rfl rfl
end
section
set_option maxHeartbeats 400000 in
set_option maxRecDepth 100000 in
theorem c_X8_bitsOfP (l : Launch) (D : va_G) (I C Q : ClassId) (u : Nat) (w : Nat) (x : UInt32) (hvx : FP.Core.val32 x = .fin false u (-(w : Int))) (hc1 : 8388608 ≤ u) (hc2 : u < 16777216) (hw : w ≤ 60) : KI l D (tyL I C Q) yX8_bitsOf wsX8_bitsOf { frames := 0, cells := 0, slots := 0, locals := 0 } [.float x] [] [] ((nI (150 - w) <<< (23 &&& 31)) + (nI u - 8388608)) := by
  refine KI.of (cc := cX8_bitsOf) (maxL := 4) (rt := .int) (own := RX8) (by decide) rfl rfl (Nat.le_of_ble_eq_true rfl) ?_
  intro p e s m below meth c A Q0 ls hx hb hml hown hts hE hA hP hD hS hl hend
  have hK := hE.1
  have hF : CallFix p m c cX8_bitsOf 4 s [.float x].toArray wsX8_bitsOf RX8 := ⟨hx, hb, hml, hown, hts⟩
  have k0 := hts (.constantFloat RX8 191 (1258291200)) (List.mem_of_getElem? (i := 1) rfl)
  have k1 := hts (.constant RX8 192 (8388608)) (List.mem_of_getElem? (i := 2) rfl)
  have hl : lv_has ls 4 [(0, .float x)] := hl
  refine lv_fload_n hx hb dX8_bitsOf_0 rfl (lv_at hl 0 rfl) ?_
  refine lv_fconst0 hx hb dX8_bitsOf_1 ?_
  refine lv_fcmp hx hb dX8_bitsOf_2 ?_
  refine lv_if_ne (tgt := 8) hx hb dX8_bitsOf_3 (by decide) (fun c_3 => ?_) (fun c_3 => ?_)
  · refine lv_fload_n hx hb dX8_bitsOf_8 rfl (lv_at hl 0 rfl) ?_
    refine lv_fconst0 hx hb dX8_bitsOf_9 ?_
    refine lv_fcmp hx hb dX8_bitsOf_10 ?_
    refine lv_if_ge (tgt := 19) hx hb dX8_bitsOf_11 (by decide) (fun c_11 => ?_) (fun c_11 => ?_)
    · refine lv_fload_n hx hb dX8_bitsOf_19 rfl (lv_at hl 0 rfl) ?_
      refine lv_fstore_n (lv' := [(1, .float x), (0, .float x)]) hx hb dX8_bitsOf_20 rfl hl (by decide) rfl (fun ls hl => ?_)
      refine lv_sipush (v := 150) hx hb dX8_bitsOf_21 (by decide) ?_
      refine lv_istore_n (lv' := [(2, .int 150), (1, .float x), (0, .float x)]) hx hb dX8_bitsOf_24 rfl hl (by decide) rfl (fun ls hl => ?_)
      refine lv_iconst (v := 0) hx hb dX8_bitsOf_25 (by decide) ?_
      refine lv_istore_n (lv' := [(3, .int 0), (2, .int 150), (1, .float x), (0, .float x)]) hx hb dX8_bitsOf_26 rfl hl (by decide) rfl (fun ls hl => ?_)
      have loop27 : ∀ (n : Nat) (f : UInt32) (i : Nat) (g : Int32), (FP.Core.val32 f = .fin false u (-(w : Int) + (i : Int))) → (i ≤ w) → (i + n = 150) → (g = nI (150 - i)) → ∀ (H : Heap) (locs : List Loc) (ls : Array Slot), va_P D vwCl [] H → va_D A [] → va_S A s.heap H locs → lv_has ls 4 [(0, .float x), (1, .float f), (2, .int g), (3, .int (nI i))] → W p l e ({ frames := 0, cells := 0, slots := 0, locals := 0 } : Room) s m [.float x].toArray below meth c H locs 0 0 Q0 (F0 m 27 ls []) := by
        intro n
        induction n with
        | zero =>
          intro f i g hfi hiw hin hg H locs ls hP hD hS hl
          refine lv_iload_n hx hb dX8_bitsOf_27 rfl (lv_at hl 3 rfl) ?_
          refine lv_sipush (v := 150) hx hb dX8_bitsOf_28 (by decide) ?_
          refine lv_icmp_ge (tgt := 54) hx hb dX8_bitsOf_31 (by decide) (fun c_31 => ?_) (fun c_31 => ?_)
          · exact absurd ((nI_leI (a := 150) (b := i) (by omega) (by omega)).mp c_31) (by omega)
          · exact absurd hin (by omega)
        | succ n ih =>
          intro f i g hfi hiw hin hg H locs ls hP hD hS hl
          refine lv_iload_n hx hb dX8_bitsOf_27 rfl (lv_at hl 3 rfl) ?_
          refine lv_sipush (v := 150) hx hb dX8_bitsOf_28 (by decide) ?_
          refine lv_icmp_ge (tgt := 54) hx hb dX8_bitsOf_31 (by decide) (fun c_31 => ?_) (fun c_31 => ?_)
          · exact absurd ((nI_leI (a := 150) (b := i) (by omega) (by omega)).mp c_31) (by omega)
          · refine lv_fload_n hx hb dX8_bitsOf_34 rfl (lv_at hl 1 rfl) ?_
            refine lv_ldcf (v := (1258291200)) hx hb hown k0 dX8_bitsOf_35 ?_
            refine lv_fcmp hx hb dX8_bitsOf_37 ?_
            refine lv_if_ge (tgt := 54) hx hb dX8_bitsOf_38 (by decide) (fun c_38 => ?_) (fun c_38 => ?_)
            · have he38 : i = w := by rcases (show i < w ∨ i = w by omega) with h | h; rw [f_lt hfi f_p23 hc2 (by omega)] at c_38; exact absurd c_38 (by decide); exact h
              refine lv_iload_n hx hb dX8_bitsOf_54 rfl (lv_at hl 2 rfl) ?_
              refine lv_bipush (v := 23) hx hb dX8_bitsOf_55 (by decide) ?_
              refine lv_ishl hx hb dX8_bitsOf_57 ?_
              refine lv_fload_n hx hb dX8_bitsOf_58 rfl (lv_at hl 1 rfl) ?_
              refine lv_f2i hx hb dX8_bitsOf_59 ?_
              refine lv_ldc (v := (8388608)) hx hb hown k1 dX8_bitsOf_60 ?_
              refine lv_isub hx hb dX8_bitsOf_62 ?_
              refine lv_iadd hx hb dX8_bitsOf_63 ?_
              refine lv_istore_n (lv' := [(3, .int ((g <<< (23 &&& 31)) + ((FP.f2i f) - (8388608)))), (0, .float x), (1, .float f), (2, .int g)]) hx hb dX8_bitsOf_64 rfl hl (by decide) rfl (fun ls hl => ?_)
              refine lv_fload_n hx hb dX8_bitsOf_65 rfl (lv_at hl 1 rfl) ?_
              refine lv_fconst0 hx hb dX8_bitsOf_66 ?_
              refine lv_fcmp hx hb dX8_bitsOf_67 ?_
              refine lv_if_ge (tgt := 78) hx hb dX8_bitsOf_68 (by decide) (fun c_68 => ?_) (fun c_68 => ?_)
              · refine lv_iload_n hx hb dX8_bitsOf_78 rfl (lv_at hl 0 rfl) ?_
                exact hend _ _ _ _ _ _ hP hD hS dX8_bitsOf_79 rfl rfl (by rw [hg, he38, show FP.f2i f = nI u from f_f2i (by rw [hfi, he38, Int.add_left_neg]) hc2])
              · exact absurd (show (0 : Int32) ≤ Op.cmpValue (FP.fcmp x 0) .g by rw [f_pos0 hvx (by omega)]; decide) c_68
            · have he38 : i < w := by rcases (show i < w ∨ i = w by omega) with h | h; exact h; rcases f_ge hfi f_p23 hc1 (by omega) with h2 | h2 <;> rw [h2] at c_38 <;> exact absurd (by decide) c_38
              refine lv_fload_n hx hb dX8_bitsOf_41 rfl (lv_at hl 1 rfl) ?_
              refine lv_fconst2 hx hb dX8_bitsOf_42 ?_
              refine lv_fmul hx hb dX8_bitsOf_43 (f_nn (f_dbl hfi hc1 hc2 (by omega) (by omega))) ?_
              refine lv_fstore_n (lv' := [(1, .float (FP.fmul f FP.fconst2)), (0, .float x), (2, .int g), (3, .int (nI i))]) hx hb dX8_bitsOf_44 rfl hl (by decide) rfl (fun ls hl => ?_)
              refine lv_iinc (v := g + (-1)) (lv' := [(2, .int (g + (-1))), (1, .float (FP.fmul f FP.fconst2)), (0, .float x), (3, .int (nI i))]) hx hb dX8_bitsOf_45 hl (k := 2) rfl rfl (by decide) rfl (fun ls hl => ?_)
              refine lv_iinc (v := nI (i + 1)) (lv' := [(3, .int (nI (i + 1))), (2, .int (g + (-1))), (1, .float (FP.fmul f FP.fconst2)), (0, .float x)]) hx hb dX8_bitsOf_48 hl (k := 3) rfl (nI_inc i) (by decide) rfl (fun ls hl => ?_)
              refine lv_goto (tgt := 27) hx hb dX8_bitsOf_51 (by decide) ?_
              exact ih (FP.fmul f FP.fconst2) (i + 1) (g + (-1)) (by rw [show (-(w : Int) + ((i + 1 : Nat) : Int)) = (-(w : Int) + (i : Int)) + 1 by omega]; exact f_dbl hfi hc1 hc2 (by omega) (by omega)) (by omega) (by omega) (by rw [hg, show 150 - i = (150 - (i + 1)) + 1 by omega]; exact f_dec _) _ _ _ hP hD hS (lv_sub hl [3, 2, 1, 0] rfl) 
      exact loop27 150 x 0 150 (by rw [hvx]; simp) (by omega) (by omega) rfl _ _ _ hP hD hS (lv_sub hl [3, 2, 1, 0] rfl) 
    · exact absurd (show (0 : Int32) ≤ Op.cmpValue (FP.fcmp x 0) .g by rw [f_pos0 hvx (by omega)]; decide) c_11
  · exact absurd c_3 (by show ¬ Op.cmpValue (FP.fcmp x 0) .l = 0; rw [f_pos0 hvx (by omega)]; decide)
end
section
set_option maxHeartbeats 400000 in
set_option maxRecDepth 100000 in
theorem c_X9_bitsOfP (l : Launch) (D : va_G) (I C Q : ClassId) (u : Nat) (w : Nat) (x : UInt32) (hvx : FP.Core.val32 x = .fin false u (-(w : Int))) (hc1 : 8388608 ≤ u) (hc2 : u < 16777216) (hw : w ≤ 60) : KI l D (tyL I C Q) yX9_bitsOf wsX9_bitsOf { frames := 0, cells := 0, slots := 0, locals := 0 } [.float x] [] [] ((nI (150 - w) <<< (23 &&& 31)) + (nI u - 8388608)) := by
  refine KI.of (cc := cX9_bitsOf) (maxL := 4) (rt := .int) (own := RX9) (by decide) rfl rfl (Nat.le_of_ble_eq_true rfl) ?_
  intro p e s m below meth c A Q0 ls hx hb hml hown hts hE hA hP hD hS hl hend
  have hK := hE.1
  have hF : CallFix p m c cX9_bitsOf 4 s [.float x].toArray wsX9_bitsOf RX9 := ⟨hx, hb, hml, hown, hts⟩
  have k0 := hts (.constantFloat RX9 120 (1258291200)) (List.mem_of_getElem? (i := 1) rfl)
  have hl : lv_has ls 4 [(0, .float x)] := hl
  refine lv_fload_n hx hb dX9_bitsOf_0 rfl (lv_at hl 0 rfl) ?_
  refine lv_fconst0 hx hb dX9_bitsOf_1 ?_
  refine lv_fcmp hx hb dX9_bitsOf_2 ?_
  refine lv_if_ne (tgt := 8) hx hb dX9_bitsOf_3 (by decide) (fun c_3 => ?_) (fun c_3 => ?_)
  · refine lv_fload_n hx hb dX9_bitsOf_8 rfl (lv_at hl 0 rfl) ?_
    refine lv_fconst0 hx hb dX9_bitsOf_9 ?_
    refine lv_fcmp hx hb dX9_bitsOf_10 ?_
    refine lv_if_ge (tgt := 19) hx hb dX9_bitsOf_11 (by decide) (fun c_11 => ?_) (fun c_11 => ?_)
    · refine lv_fload_n hx hb dX9_bitsOf_19 rfl (lv_at hl 0 rfl) ?_
      refine lv_fstore_n (lv' := [(1, .float x), (0, .float x)]) hx hb dX9_bitsOf_20 rfl hl (by decide) rfl (fun ls hl => ?_)
      refine lv_bipush (v := 127) hx hb dX9_bitsOf_21 (by decide) ?_
      refine lv_istore_n (lv' := [(2, .int 127), (1, .float x), (0, .float x)]) hx hb dX9_bitsOf_23 rfl hl (by decide) rfl (fun ls hl => ?_)
      have loop24 : ∀ (n : Nat) (f : UInt32) (i : Nat) (g : Int32), (FP.Core.val32 f = .fin false u (-(w : Int) - (i : Int))) → (i = 0 ∨ w + i ≤ 23) → (i + n = 24) → (g = nI (127 + i)) → ∀ (H : Heap) (locs : List Loc) (ls : Array Slot), va_P D vwCl [] H → va_D A [] → va_S A s.heap H locs → lv_has ls 4 [(0, .float x), (1, .float f), (2, .int g)] → W p l e ({ frames := 0, cells := 0, slots := 0, locals := 0 } : Room) s m [.float x].toArray below meth c H locs 0 0 Q0 (F0 m 24 ls []) := by
        intro n
        induction n with
        | zero =>
          intro f i g hfi hiw hin hg H locs ls hP hD hS hl
          refine lv_fload_n hx hb dX9_bitsOf_24 rfl (lv_at hl 1 rfl) ?_
          refine lv_fconst2 hx hb dX9_bitsOf_25 ?_
          refine lv_fcmp hx hb dX9_bitsOf_26 ?_
          refine lv_if_lt (tgt := 40) hx hb dX9_bitsOf_27 (by decide) (fun c_27 => ?_) (fun c_27 => ?_)
          · exact absurd hin (by omega)
          · exact absurd hin (by omega)
        | succ n ih =>
          intro f i g hfi hiw hin hg H locs ls hP hD hS hl
          refine lv_fload_n hx hb dX9_bitsOf_24 rfl (lv_at hl 1 rfl) ?_
          refine lv_fconst2 hx hb dX9_bitsOf_25 ?_
          refine lv_fcmp hx hb dX9_bitsOf_26 ?_
          refine lv_if_lt (tgt := 40) hx hb dX9_bitsOf_27 (by decide) (fun c_27 => ?_) (fun c_27 => ?_)
          · have he27 : 23 ≤ w + i := by rcases (show 23 ≤ w + i ∨ w + i < 23 by omega) with h | h; exact h; rcases f_ge (K := FP.fconst2) hfi f_two hc1 (by omega) with h2 | h2 <;> rw [h2] at c_27 <;> exact absurd c_27 (by decide)
            have loop40 : ∀ (n : Nat) (f2 : UInt32) (j : Nat) (g2 : Int32), (FP.Core.val32 f2 = .fin false u (-((w + i : Nat) : Int) + (j : Int))) → (j + n = w + i - 23) → (g2 = nI (127 + i - j)) → ∀ (H : Heap) (locs : List Loc) (ls : Array Slot), va_P D vwCl [] H → va_D A [] → va_S A s.heap H locs → lv_has ls 4 [(0, .float x), (1, .float f2), (2, .int g2)] → W p l e ({ frames := 0, cells := 0, slots := 0, locals := 0 } : Room) s m [.float x].toArray below meth c H locs 0 0 Q0 (F0 m 40 ls []) := by
              intro n
              induction n with
              | zero =>
                intro f2 j g2 hfj hjw hg2 H locs ls hP hD hS hl
                refine lv_fload_n hx hb dX9_bitsOf_40 rfl (lv_at hl 1 rfl) ?_
                refine lv_fconst1 hx hb dX9_bitsOf_41 ?_
                refine lv_fcmp hx hb dX9_bitsOf_42 ?_
                refine lv_if_ge (tgt := 56) hx hb dX9_bitsOf_43 (by decide) (fun c_43 => ?_) (fun c_43 => ?_)
                · have he43 : j = w + i - 23 := by rcases (show j < w + i - 23 ∨ j = w + i - 23 by omega) with h | h; rw [f_lt (K := FP.fconst1) hfj f_one hc2 (by omega)] at c_43; exact absurd c_43 (by decide); exact h
                  refine lv_iload_n hx hb dX9_bitsOf_56 rfl (lv_at hl 2 rfl) ?_
                  refine lv_bipush (v := 23) hx hb dX9_bitsOf_57 (by decide) ?_
                  refine lv_ishl hx hb dX9_bitsOf_59 ?_
                  refine lv_fload_n hx hb dX9_bitsOf_60 rfl (lv_at hl 1 rfl) ?_
                  refine lv_fconst1 hx hb dX9_bitsOf_61 ?_
                  have hfz : FP.Core.val32 f2 = .fin false u (-23) := by rw [hfj]; congr 1; omega
                  refine lv_fsub hx hb dX9_bitsOf_62 (f_nnS hfz hc1 hc2) ?_
                  refine lv_ldcf (v := (1258291200)) hx hb hown k0 dX9_bitsOf_63 ?_
                  refine lv_fmul hx hb dX9_bitsOf_65 (f_nnM hfz hc1 hc2) ?_
                  refine lv_f2i hx hb dX9_bitsOf_66 ?_
                  refine lv_iadd hx hb dX9_bitsOf_67 ?_
                  refine lv_istore_n (lv' := [(3, .int ((g2 <<< (23 &&& 31)) + (FP.f2i (FP.fmul (FP.fsub f2 FP.fconst1) (1258291200))))), (0, .float x), (1, .float f2), (2, .int g2)]) hx hb dX9_bitsOf_68 rfl hl (by decide) rfl (fun ls hl => ?_)
                  refine lv_fload_n hx hb dX9_bitsOf_69 rfl (lv_at hl 1 rfl) ?_
                  refine lv_fconst0 hx hb dX9_bitsOf_70 ?_
                  refine lv_fcmp hx hb dX9_bitsOf_71 ?_
                  refine lv_if_ge (tgt := 82) hx hb dX9_bitsOf_72 (by decide) (fun c_72 => ?_) (fun c_72 => ?_)
                  · refine lv_iload_n hx hb dX9_bitsOf_82 rfl (lv_at hl 0 rfl) ?_
                    exact hend _ _ _ _ _ _ hP hD hS dX9_bitsOf_83 rfl rfl (by rw [hg2, show FP.f2i (FP.fmul (FP.fsub f2 FP.fconst1) 1258291200) = nI (u - 8388608) from f_frac hfz hc1 hc2, show 127 + i - j = 150 - w by omega, show nI u - 8388608 = nI (u - 8388608) from pk_sub (a := u) (b := 8388608) (by omega)])
                  · exact absurd (show (0 : Int32) ≤ Op.cmpValue (FP.fcmp x 0) .g by rw [f_pos0 hvx (by omega)]; decide) c_72
                · exact absurd (show (0 : Int32) ≤ Op.cmpValue (FP.fcmp f2 FP.fconst1) .g by rcases f_ge (K := FP.fconst1) hfj f_one hc1 (by omega) with h2 | h2 <;> rw [show FP.fcmp f2 FP.fconst1 = _ from h2] <;> decide) c_43
              | succ n ih =>
                intro f2 j g2 hfj hjw hg2 H locs ls hP hD hS hl
                refine lv_fload_n hx hb dX9_bitsOf_40 rfl (lv_at hl 1 rfl) ?_
                refine lv_fconst1 hx hb dX9_bitsOf_41 ?_
                refine lv_fcmp hx hb dX9_bitsOf_42 ?_
                refine lv_if_ge (tgt := 56) hx hb dX9_bitsOf_43 (by decide) (fun c_43 => ?_) (fun c_43 => ?_)
                · have he43 : j = w + i - 23 := by rcases (show j < w + i - 23 ∨ j = w + i - 23 by omega) with h | h; rw [f_lt (K := FP.fconst1) hfj f_one hc2 (by omega)] at c_43; exact absurd c_43 (by decide); exact h
                  refine lv_iload_n hx hb dX9_bitsOf_56 rfl (lv_at hl 2 rfl) ?_
                  refine lv_bipush (v := 23) hx hb dX9_bitsOf_57 (by decide) ?_
                  refine lv_ishl hx hb dX9_bitsOf_59 ?_
                  refine lv_fload_n hx hb dX9_bitsOf_60 rfl (lv_at hl 1 rfl) ?_
                  refine lv_fconst1 hx hb dX9_bitsOf_61 ?_
                  have hfz : FP.Core.val32 f2 = .fin false u (-23) := by rw [hfj]; congr 1; omega
                  refine lv_fsub hx hb dX9_bitsOf_62 (f_nnS hfz hc1 hc2) ?_
                  refine lv_ldcf (v := (1258291200)) hx hb hown k0 dX9_bitsOf_63 ?_
                  refine lv_fmul hx hb dX9_bitsOf_65 (f_nnM hfz hc1 hc2) ?_
                  refine lv_f2i hx hb dX9_bitsOf_66 ?_
                  refine lv_iadd hx hb dX9_bitsOf_67 ?_
                  refine lv_istore_n (lv' := [(3, .int ((g2 <<< (23 &&& 31)) + (FP.f2i (FP.fmul (FP.fsub f2 FP.fconst1) (1258291200))))), (0, .float x), (1, .float f2), (2, .int g2)]) hx hb dX9_bitsOf_68 rfl hl (by decide) rfl (fun ls hl => ?_)
                  refine lv_fload_n hx hb dX9_bitsOf_69 rfl (lv_at hl 1 rfl) ?_
                  refine lv_fconst0 hx hb dX9_bitsOf_70 ?_
                  refine lv_fcmp hx hb dX9_bitsOf_71 ?_
                  refine lv_if_ge (tgt := 82) hx hb dX9_bitsOf_72 (by decide) (fun c_72 => ?_) (fun c_72 => ?_)
                  · refine lv_iload_n hx hb dX9_bitsOf_82 rfl (lv_at hl 0 rfl) ?_
                    exact hend _ _ _ _ _ _ hP hD hS dX9_bitsOf_83 rfl rfl (by rw [hg2, show FP.f2i (FP.fmul (FP.fsub f2 FP.fconst1) 1258291200) = nI (u - 8388608) from f_frac hfz hc1 hc2, show 127 + i - j = 150 - w by omega, show nI u - 8388608 = nI (u - 8388608) from pk_sub (a := u) (b := 8388608) (by omega)])
                  · exact absurd (show (0 : Int32) ≤ Op.cmpValue (FP.fcmp x 0) .g by rw [f_pos0 hvx (by omega)]; decide) c_72
                · have he43 : j < w + i - 23 := by rcases (show j < w + i - 23 ∨ j = w + i - 23 by omega) with h | h; exact h; rcases f_ge (K := FP.fconst1) hfj f_one hc1 (by omega) with h2 | h2 <;> rw [h2] at c_43 <;> exact absurd (by decide) c_43
                  refine lv_fload_n hx hb dX9_bitsOf_46 rfl (lv_at hl 1 rfl) ?_
                  refine lv_fconst2 hx hb dX9_bitsOf_47 ?_
                  refine lv_fmul hx hb dX9_bitsOf_48 (f_nn (f_dbl hfj hc1 hc2 (by omega) (by omega))) ?_
                  refine lv_fstore_n (lv' := [(1, .float (FP.fmul f2 FP.fconst2)), (0, .float x), (2, .int g2)]) hx hb dX9_bitsOf_49 rfl hl (by decide) rfl (fun ls hl => ?_)
                  refine lv_iinc (v := g2 + (-1)) (lv' := [(2, .int (g2 + (-1))), (1, .float (FP.fmul f2 FP.fconst2)), (0, .float x)]) hx hb dX9_bitsOf_50 hl (k := 2) rfl rfl (by decide) rfl (fun ls hl => ?_)
                  refine lv_goto (tgt := 40) hx hb dX9_bitsOf_53 (by decide) ?_
                  exact ih (FP.fmul f2 FP.fconst2) (j + 1) (g2 + (-1)) (by rw [show (-((w + i : Nat) : Int) + ((j + 1 : Nat) : Int)) = (-((w + i : Nat) : Int) + (j : Int)) + 1 by omega]; exact f_dbl hfj hc1 hc2 (by omega) (by omega)) (by omega) (by rw [hg2, show 127 + i - j = (127 + i - (j + 1)) + 1 by omega]; exact f_dec _) _ _ _ hP hD hS (lv_sub hl [2, 1, 0] rfl) 
            exact loop40 (w + i - 23) f 0 g (by rw [hfi]; congr 1; omega) (by omega) hg _ _ _ hP hD hS (lv_sub hl [0, 1, 2] rfl) 
          · have he27 : w + i < 23 := by rcases (show 23 ≤ w + i ∨ w + i < 23 by omega) with h | h; rw [f_lt (K := FP.fconst2) hfi f_two hc2 (by omega)] at c_27; exact absurd (by decide) c_27; exact h
            refine lv_fload_n hx hb dX9_bitsOf_30 rfl (lv_at hl 1 rfl) ?_
            refine lv_fconst2 hx hb dX9_bitsOf_31 ?_
            refine lv_fdiv hx hb dX9_bitsOf_32 (f_nn (f_half hfi hc1 hc2 (by omega) (by omega))) ?_
            refine lv_fstore_n (lv' := [(1, .float (FP.fdiv f FP.fconst2)), (0, .float x), (2, .int g)]) hx hb dX9_bitsOf_33 rfl hl (by decide) rfl (fun ls hl => ?_)
            refine lv_iinc (v := g + 1) (lv' := [(2, .int (g + 1)), (1, .float (FP.fdiv f FP.fconst2)), (0, .float x)]) hx hb dX9_bitsOf_34 hl (k := 2) rfl rfl (by decide) rfl (fun ls hl => ?_)
            refine lv_goto (tgt := 24) hx hb dX9_bitsOf_37 (by decide) ?_
            exact ih (FP.fdiv f FP.fconst2) (i + 1) (g + 1) (by rw [show (-(w : Int) - ((i + 1 : Nat) : Int)) = (-(w : Int) - (i : Int)) - 1 by omega]; exact f_half hfi hc1 hc2 (by omega) (by omega)) (by omega) (by omega) (by rw [hg]; exact nI_inc _) _ _ _ hP hD hS (lv_sub hl [2, 1, 0] rfl) 
      exact loop24 24 x 0 127 (by rw [hvx]; simp) (by omega) (by omega) rfl _ _ _ hP hD hS (lv_sub hl [2, 1, 0] rfl) 
    · exact absurd (show (0 : Int32) ≤ Op.cmpValue (FP.fcmp x 0) .g by rw [f_pos0 hvx (by omega)]; decide) c_11
  · exact absurd c_3 (by show ¬ Op.cmpValue (FP.fcmp x 0) .l = 0; rw [f_pos0 hvx (by omega)]; decide)
end
section
set_option maxHeartbeats 400000 in
set_option maxRecDepth 100000 in
theorem c_X8_bitsOfM (l : Launch) (D : va_G) (I C Q : ClassId) (u : Nat) (w : Nat) (x : UInt32) (hvx : FP.Core.val32 x = .fin true u (-(w : Int))) (hc1 : 8388608 ≤ u) (hc2 : u < 16777216) (hw : w ≤ 60) : KI l D (tyL I C Q) yX8_bitsOf wsX8_bitsOf { frames := 0, cells := 0, slots := 0, locals := 0 } [.float x] [] [] (((nI (150 - w) <<< (23 &&& 31)) + (nI u - 8388608)) ||| (-2147483648)) := by
  refine KI.of (cc := cX8_bitsOf) (maxL := 4) (rt := .int) (own := RX8) (by decide) rfl rfl (Nat.le_of_ble_eq_true rfl) ?_
  intro p e s m below meth c A Q0 ls hx hb hml hown hts hE hA hP hD hS hl hend
  have hK := hE.1
  have hF : CallFix p m c cX8_bitsOf 4 s [.float x].toArray wsX8_bitsOf RX8 := ⟨hx, hb, hml, hown, hts⟩
  have k0 := hts (.constantFloat RX8 191 (1258291200)) (List.mem_of_getElem? (i := 1) rfl)
  have k1 := hts (.constant RX8 192 (8388608)) (List.mem_of_getElem? (i := 2) rfl)
  have k2 := hts (.constant RX8 193 (-2147483648)) (List.mem_of_getElem? (i := 3) rfl)
  have hl : lv_has ls 4 [(0, .float x)] := hl
  refine lv_fload_n hx hb dX8_bitsOf_0 rfl (lv_at hl 0 rfl) ?_
  refine lv_fconst0 hx hb dX8_bitsOf_1 ?_
  refine lv_fcmp hx hb dX8_bitsOf_2 ?_
  refine lv_if_ne (tgt := 8) hx hb dX8_bitsOf_3 (by decide) (fun c_3 => ?_) (fun c_3 => ?_)
  · refine lv_fload_n hx hb dX8_bitsOf_8 rfl (lv_at hl 0 rfl) ?_
    refine lv_fconst0 hx hb dX8_bitsOf_9 ?_
    refine lv_fcmp hx hb dX8_bitsOf_10 ?_
    refine lv_if_ge (tgt := 19) hx hb dX8_bitsOf_11 (by decide) (fun c_11 => ?_) (fun c_11 => ?_)
    · exact absurd c_11 (show ¬ (0 : Int32) ≤ Op.cmpValue (FP.fcmp x 0) .g by rw [f_neg0 hvx (by omega)]; decide)
    · refine lv_fload_n hx hb dX8_bitsOf_14 rfl (lv_at hl 0 rfl) ?_
      refine lv_fneg hx hb dX8_bitsOf_15 ?_
      refine lv_goto (tgt := 20) hx hb dX8_bitsOf_16 (by decide) ?_
      refine lv_fstore_n (lv' := [(1, .float (FP.fneg x)), (0, .float x)]) hx hb dX8_bitsOf_20 rfl hl (by decide) rfl (fun ls hl => ?_)
      refine lv_sipush (v := 150) hx hb dX8_bitsOf_21 (by decide) ?_
      refine lv_istore_n (lv' := [(2, .int 150), (1, .float (FP.fneg x)), (0, .float x)]) hx hb dX8_bitsOf_24 rfl hl (by decide) rfl (fun ls hl => ?_)
      refine lv_iconst (v := 0) hx hb dX8_bitsOf_25 (by decide) ?_
      refine lv_istore_n (lv' := [(3, .int 0), (2, .int 150), (1, .float (FP.fneg x)), (0, .float x)]) hx hb dX8_bitsOf_26 rfl hl (by decide) rfl (fun ls hl => ?_)
      have loop27 : ∀ (n : Nat) (f : UInt32) (i : Nat) (g : Int32), (FP.Core.val32 f = .fin false u (-(w : Int) + (i : Int))) → (i ≤ w) → (i + n = 150) → (g = nI (150 - i)) → ∀ (H : Heap) (locs : List Loc) (ls : Array Slot), va_P D vwCl [] H → va_D A [] → va_S A s.heap H locs → lv_has ls 4 [(0, .float x), (1, .float f), (2, .int g), (3, .int (nI i))] → W p l e ({ frames := 0, cells := 0, slots := 0, locals := 0 } : Room) s m [.float x].toArray below meth c H locs 0 0 Q0 (F0 m 27 ls []) := by
        intro n
        induction n with
        | zero =>
          intro f i g hfi hiw hin hg H locs ls hP hD hS hl
          refine lv_iload_n hx hb dX8_bitsOf_27 rfl (lv_at hl 3 rfl) ?_
          refine lv_sipush (v := 150) hx hb dX8_bitsOf_28 (by decide) ?_
          refine lv_icmp_ge (tgt := 54) hx hb dX8_bitsOf_31 (by decide) (fun c_31 => ?_) (fun c_31 => ?_)
          · exact absurd ((nI_leI (a := 150) (b := i) (by omega) (by omega)).mp c_31) (by omega)
          · exact absurd hin (by omega)
        | succ n ih =>
          intro f i g hfi hiw hin hg H locs ls hP hD hS hl
          refine lv_iload_n hx hb dX8_bitsOf_27 rfl (lv_at hl 3 rfl) ?_
          refine lv_sipush (v := 150) hx hb dX8_bitsOf_28 (by decide) ?_
          refine lv_icmp_ge (tgt := 54) hx hb dX8_bitsOf_31 (by decide) (fun c_31 => ?_) (fun c_31 => ?_)
          · exact absurd ((nI_leI (a := 150) (b := i) (by omega) (by omega)).mp c_31) (by omega)
          · refine lv_fload_n hx hb dX8_bitsOf_34 rfl (lv_at hl 1 rfl) ?_
            refine lv_ldcf (v := (1258291200)) hx hb hown k0 dX8_bitsOf_35 ?_
            refine lv_fcmp hx hb dX8_bitsOf_37 ?_
            refine lv_if_ge (tgt := 54) hx hb dX8_bitsOf_38 (by decide) (fun c_38 => ?_) (fun c_38 => ?_)
            · have he38 : i = w := by rcases (show i < w ∨ i = w by omega) with h | h; rw [f_lt hfi f_p23 hc2 (by omega)] at c_38; exact absurd c_38 (by decide); exact h
              refine lv_iload_n hx hb dX8_bitsOf_54 rfl (lv_at hl 2 rfl) ?_
              refine lv_bipush (v := 23) hx hb dX8_bitsOf_55 (by decide) ?_
              refine lv_ishl hx hb dX8_bitsOf_57 ?_
              refine lv_fload_n hx hb dX8_bitsOf_58 rfl (lv_at hl 1 rfl) ?_
              refine lv_f2i hx hb dX8_bitsOf_59 ?_
              refine lv_ldc (v := (8388608)) hx hb hown k1 dX8_bitsOf_60 ?_
              refine lv_isub hx hb dX8_bitsOf_62 ?_
              refine lv_iadd hx hb dX8_bitsOf_63 ?_
              refine lv_istore_n (lv' := [(3, .int ((g <<< (23 &&& 31)) + ((FP.f2i f) - (8388608)))), (0, .float x), (1, .float f), (2, .int g)]) hx hb dX8_bitsOf_64 rfl hl (by decide) rfl (fun ls hl => ?_)
              refine lv_fload_n hx hb dX8_bitsOf_65 rfl (lv_at hl 1 rfl) ?_
              refine lv_fconst0 hx hb dX8_bitsOf_66 ?_
              refine lv_fcmp hx hb dX8_bitsOf_67 ?_
              refine lv_if_ge (tgt := 78) hx hb dX8_bitsOf_68 (by decide) (fun c_68 => ?_) (fun c_68 => ?_)
              · exact absurd c_68 (show ¬ (0 : Int32) ≤ Op.cmpValue (FP.fcmp x 0) .g by rw [f_neg0 hvx (by omega)]; decide)
              · refine lv_iload_n hx hb dX8_bitsOf_71 rfl (lv_at hl 0 rfl) ?_
                refine lv_ldc (v := (-2147483648)) hx hb hown k2 dX8_bitsOf_72 ?_
                refine lv_ior hx hb dX8_bitsOf_74 ?_
                refine lv_goto (tgt := 79) hx hb dX8_bitsOf_75 (by decide) ?_
                exact hend _ _ _ _ _ _ hP hD hS dX8_bitsOf_79 rfl rfl (by rw [hg, he38, show FP.f2i f = nI u from f_f2i (by rw [hfi, he38, Int.add_left_neg]) hc2])
            · have he38 : i < w := by rcases (show i < w ∨ i = w by omega) with h | h; exact h; rcases f_ge hfi f_p23 hc1 (by omega) with h2 | h2 <;> rw [h2] at c_38 <;> exact absurd (by decide) c_38
              refine lv_fload_n hx hb dX8_bitsOf_41 rfl (lv_at hl 1 rfl) ?_
              refine lv_fconst2 hx hb dX8_bitsOf_42 ?_
              refine lv_fmul hx hb dX8_bitsOf_43 (f_nn (f_dbl hfi hc1 hc2 (by omega) (by omega))) ?_
              refine lv_fstore_n (lv' := [(1, .float (FP.fmul f FP.fconst2)), (0, .float x), (2, .int g), (3, .int (nI i))]) hx hb dX8_bitsOf_44 rfl hl (by decide) rfl (fun ls hl => ?_)
              refine lv_iinc (v := g + (-1)) (lv' := [(2, .int (g + (-1))), (1, .float (FP.fmul f FP.fconst2)), (0, .float x), (3, .int (nI i))]) hx hb dX8_bitsOf_45 hl (k := 2) rfl rfl (by decide) rfl (fun ls hl => ?_)
              refine lv_iinc (v := nI (i + 1)) (lv' := [(3, .int (nI (i + 1))), (2, .int (g + (-1))), (1, .float (FP.fmul f FP.fconst2)), (0, .float x)]) hx hb dX8_bitsOf_48 hl (k := 3) rfl (nI_inc i) (by decide) rfl (fun ls hl => ?_)
              refine lv_goto (tgt := 27) hx hb dX8_bitsOf_51 (by decide) ?_
              exact ih (FP.fmul f FP.fconst2) (i + 1) (g + (-1)) (by rw [show (-(w : Int) + ((i + 1 : Nat) : Int)) = (-(w : Int) + (i : Int)) + 1 by omega]; exact f_dbl hfi hc1 hc2 (by omega) (by omega)) (by omega) (by omega) (by rw [hg, show 150 - i = (150 - (i + 1)) + 1 by omega]; exact f_dec _) _ _ _ hP hD hS (lv_sub hl [3, 2, 1, 0] rfl) 
      exact loop27 150 (FP.fneg x) 0 150 (by rw [FP.val32_fneg, hvx]; simp [FP.Core.negate]) (by omega) (by omega) rfl _ _ _ hP hD hS (lv_sub hl [3, 2, 1, 0] rfl) 
  · exact absurd c_3 (by show ¬ Op.cmpValue (FP.fcmp x 0) .l = 0; rw [f_neg0 hvx (by omega)]; decide)
end
section
set_option maxHeartbeats 400000 in
set_option maxRecDepth 100000 in
theorem c_X9_bitsOfM (l : Launch) (D : va_G) (I C Q : ClassId) (u : Nat) (w : Nat) (x : UInt32) (hvx : FP.Core.val32 x = .fin true u (-(w : Int))) (hc1 : 8388608 ≤ u) (hc2 : u < 16777216) (hw : w ≤ 60) : KI l D (tyL I C Q) yX9_bitsOf wsX9_bitsOf { frames := 0, cells := 0, slots := 0, locals := 0 } [.float x] [] [] (((nI (150 - w) <<< (23 &&& 31)) + (nI u - 8388608)) ||| (-2147483648)) := by
  refine KI.of (cc := cX9_bitsOf) (maxL := 4) (rt := .int) (own := RX9) (by decide) rfl rfl (Nat.le_of_ble_eq_true rfl) ?_
  intro p e s m below meth c A Q0 ls hx hb hml hown hts hE hA hP hD hS hl hend
  have hK := hE.1
  have hF : CallFix p m c cX9_bitsOf 4 s [.float x].toArray wsX9_bitsOf RX9 := ⟨hx, hb, hml, hown, hts⟩
  have k0 := hts (.constantFloat RX9 120 (1258291200)) (List.mem_of_getElem? (i := 1) rfl)
  have k1 := hts (.constant RX9 121 (-2147483648)) (List.mem_of_getElem? (i := 2) rfl)
  have hl : lv_has ls 4 [(0, .float x)] := hl
  refine lv_fload_n hx hb dX9_bitsOf_0 rfl (lv_at hl 0 rfl) ?_
  refine lv_fconst0 hx hb dX9_bitsOf_1 ?_
  refine lv_fcmp hx hb dX9_bitsOf_2 ?_
  refine lv_if_ne (tgt := 8) hx hb dX9_bitsOf_3 (by decide) (fun c_3 => ?_) (fun c_3 => ?_)
  · refine lv_fload_n hx hb dX9_bitsOf_8 rfl (lv_at hl 0 rfl) ?_
    refine lv_fconst0 hx hb dX9_bitsOf_9 ?_
    refine lv_fcmp hx hb dX9_bitsOf_10 ?_
    refine lv_if_ge (tgt := 19) hx hb dX9_bitsOf_11 (by decide) (fun c_11 => ?_) (fun c_11 => ?_)
    · exact absurd c_11 (show ¬ (0 : Int32) ≤ Op.cmpValue (FP.fcmp x 0) .g by rw [f_neg0 hvx (by omega)]; decide)
    · refine lv_fload_n hx hb dX9_bitsOf_14 rfl (lv_at hl 0 rfl) ?_
      refine lv_fneg hx hb dX9_bitsOf_15 ?_
      refine lv_goto (tgt := 20) hx hb dX9_bitsOf_16 (by decide) ?_
      refine lv_fstore_n (lv' := [(1, .float (FP.fneg x)), (0, .float x)]) hx hb dX9_bitsOf_20 rfl hl (by decide) rfl (fun ls hl => ?_)
      refine lv_bipush (v := 127) hx hb dX9_bitsOf_21 (by decide) ?_
      refine lv_istore_n (lv' := [(2, .int 127), (1, .float (FP.fneg x)), (0, .float x)]) hx hb dX9_bitsOf_23 rfl hl (by decide) rfl (fun ls hl => ?_)
      have loop24 : ∀ (n : Nat) (f : UInt32) (i : Nat) (g : Int32), (FP.Core.val32 f = .fin false u (-(w : Int) - (i : Int))) → (i = 0 ∨ w + i ≤ 23) → (i + n = 24) → (g = nI (127 + i)) → ∀ (H : Heap) (locs : List Loc) (ls : Array Slot), va_P D vwCl [] H → va_D A [] → va_S A s.heap H locs → lv_has ls 4 [(0, .float x), (1, .float f), (2, .int g)] → W p l e ({ frames := 0, cells := 0, slots := 0, locals := 0 } : Room) s m [.float x].toArray below meth c H locs 0 0 Q0 (F0 m 24 ls []) := by
        intro n
        induction n with
        | zero =>
          intro f i g hfi hiw hin hg H locs ls hP hD hS hl
          refine lv_fload_n hx hb dX9_bitsOf_24 rfl (lv_at hl 1 rfl) ?_
          refine lv_fconst2 hx hb dX9_bitsOf_25 ?_
          refine lv_fcmp hx hb dX9_bitsOf_26 ?_
          refine lv_if_lt (tgt := 40) hx hb dX9_bitsOf_27 (by decide) (fun c_27 => ?_) (fun c_27 => ?_)
          · exact absurd hin (by omega)
          · exact absurd hin (by omega)
        | succ n ih =>
          intro f i g hfi hiw hin hg H locs ls hP hD hS hl
          refine lv_fload_n hx hb dX9_bitsOf_24 rfl (lv_at hl 1 rfl) ?_
          refine lv_fconst2 hx hb dX9_bitsOf_25 ?_
          refine lv_fcmp hx hb dX9_bitsOf_26 ?_
          refine lv_if_lt (tgt := 40) hx hb dX9_bitsOf_27 (by decide) (fun c_27 => ?_) (fun c_27 => ?_)
          · have he27 : 23 ≤ w + i := by rcases (show 23 ≤ w + i ∨ w + i < 23 by omega) with h | h; exact h; rcases f_ge (K := FP.fconst2) hfi f_two hc1 (by omega) with h2 | h2 <;> rw [h2] at c_27 <;> exact absurd c_27 (by decide)
            have loop40 : ∀ (n : Nat) (f2 : UInt32) (j : Nat) (g2 : Int32), (FP.Core.val32 f2 = .fin false u (-((w + i : Nat) : Int) + (j : Int))) → (j + n = w + i - 23) → (g2 = nI (127 + i - j)) → ∀ (H : Heap) (locs : List Loc) (ls : Array Slot), va_P D vwCl [] H → va_D A [] → va_S A s.heap H locs → lv_has ls 4 [(0, .float x), (1, .float f2), (2, .int g2)] → W p l e ({ frames := 0, cells := 0, slots := 0, locals := 0 } : Room) s m [.float x].toArray below meth c H locs 0 0 Q0 (F0 m 40 ls []) := by
              intro n
              induction n with
              | zero =>
                intro f2 j g2 hfj hjw hg2 H locs ls hP hD hS hl
                refine lv_fload_n hx hb dX9_bitsOf_40 rfl (lv_at hl 1 rfl) ?_
                refine lv_fconst1 hx hb dX9_bitsOf_41 ?_
                refine lv_fcmp hx hb dX9_bitsOf_42 ?_
                refine lv_if_ge (tgt := 56) hx hb dX9_bitsOf_43 (by decide) (fun c_43 => ?_) (fun c_43 => ?_)
                · have he43 : j = w + i - 23 := by rcases (show j < w + i - 23 ∨ j = w + i - 23 by omega) with h | h; rw [f_lt (K := FP.fconst1) hfj f_one hc2 (by omega)] at c_43; exact absurd c_43 (by decide); exact h
                  refine lv_iload_n hx hb dX9_bitsOf_56 rfl (lv_at hl 2 rfl) ?_
                  refine lv_bipush (v := 23) hx hb dX9_bitsOf_57 (by decide) ?_
                  refine lv_ishl hx hb dX9_bitsOf_59 ?_
                  refine lv_fload_n hx hb dX9_bitsOf_60 rfl (lv_at hl 1 rfl) ?_
                  refine lv_fconst1 hx hb dX9_bitsOf_61 ?_
                  have hfz : FP.Core.val32 f2 = .fin false u (-23) := by rw [hfj]; congr 1; omega
                  refine lv_fsub hx hb dX9_bitsOf_62 (f_nnS hfz hc1 hc2) ?_
                  refine lv_ldcf (v := (1258291200)) hx hb hown k0 dX9_bitsOf_63 ?_
                  refine lv_fmul hx hb dX9_bitsOf_65 (f_nnM hfz hc1 hc2) ?_
                  refine lv_f2i hx hb dX9_bitsOf_66 ?_
                  refine lv_iadd hx hb dX9_bitsOf_67 ?_
                  refine lv_istore_n (lv' := [(3, .int ((g2 <<< (23 &&& 31)) + (FP.f2i (FP.fmul (FP.fsub f2 FP.fconst1) (1258291200))))), (0, .float x), (1, .float f2), (2, .int g2)]) hx hb dX9_bitsOf_68 rfl hl (by decide) rfl (fun ls hl => ?_)
                  refine lv_fload_n hx hb dX9_bitsOf_69 rfl (lv_at hl 1 rfl) ?_
                  refine lv_fconst0 hx hb dX9_bitsOf_70 ?_
                  refine lv_fcmp hx hb dX9_bitsOf_71 ?_
                  refine lv_if_ge (tgt := 82) hx hb dX9_bitsOf_72 (by decide) (fun c_72 => ?_) (fun c_72 => ?_)
                  · exact absurd c_72 (show ¬ (0 : Int32) ≤ Op.cmpValue (FP.fcmp x 0) .g by rw [f_neg0 hvx (by omega)]; decide)
                  · refine lv_iload_n hx hb dX9_bitsOf_75 rfl (lv_at hl 0 rfl) ?_
                    refine lv_ldc (v := (-2147483648)) hx hb hown k1 dX9_bitsOf_76 ?_
                    refine lv_ior hx hb dX9_bitsOf_78 ?_
                    refine lv_goto (tgt := 83) hx hb dX9_bitsOf_79 (by decide) ?_
                    exact hend _ _ _ _ _ _ hP hD hS dX9_bitsOf_83 rfl rfl (by rw [hg2, show FP.f2i (FP.fmul (FP.fsub f2 FP.fconst1) 1258291200) = nI (u - 8388608) from f_frac hfz hc1 hc2, show 127 + i - j = 150 - w by omega, show nI u - 8388608 = nI (u - 8388608) from pk_sub (a := u) (b := 8388608) (by omega)])
                · exact absurd (show (0 : Int32) ≤ Op.cmpValue (FP.fcmp f2 FP.fconst1) .g by rcases f_ge (K := FP.fconst1) hfj f_one hc1 (by omega) with h2 | h2 <;> rw [show FP.fcmp f2 FP.fconst1 = _ from h2] <;> decide) c_43
              | succ n ih =>
                intro f2 j g2 hfj hjw hg2 H locs ls hP hD hS hl
                refine lv_fload_n hx hb dX9_bitsOf_40 rfl (lv_at hl 1 rfl) ?_
                refine lv_fconst1 hx hb dX9_bitsOf_41 ?_
                refine lv_fcmp hx hb dX9_bitsOf_42 ?_
                refine lv_if_ge (tgt := 56) hx hb dX9_bitsOf_43 (by decide) (fun c_43 => ?_) (fun c_43 => ?_)
                · have he43 : j = w + i - 23 := by rcases (show j < w + i - 23 ∨ j = w + i - 23 by omega) with h | h; rw [f_lt (K := FP.fconst1) hfj f_one hc2 (by omega)] at c_43; exact absurd c_43 (by decide); exact h
                  refine lv_iload_n hx hb dX9_bitsOf_56 rfl (lv_at hl 2 rfl) ?_
                  refine lv_bipush (v := 23) hx hb dX9_bitsOf_57 (by decide) ?_
                  refine lv_ishl hx hb dX9_bitsOf_59 ?_
                  refine lv_fload_n hx hb dX9_bitsOf_60 rfl (lv_at hl 1 rfl) ?_
                  refine lv_fconst1 hx hb dX9_bitsOf_61 ?_
                  have hfz : FP.Core.val32 f2 = .fin false u (-23) := by rw [hfj]; congr 1; omega
                  refine lv_fsub hx hb dX9_bitsOf_62 (f_nnS hfz hc1 hc2) ?_
                  refine lv_ldcf (v := (1258291200)) hx hb hown k0 dX9_bitsOf_63 ?_
                  refine lv_fmul hx hb dX9_bitsOf_65 (f_nnM hfz hc1 hc2) ?_
                  refine lv_f2i hx hb dX9_bitsOf_66 ?_
                  refine lv_iadd hx hb dX9_bitsOf_67 ?_
                  refine lv_istore_n (lv' := [(3, .int ((g2 <<< (23 &&& 31)) + (FP.f2i (FP.fmul (FP.fsub f2 FP.fconst1) (1258291200))))), (0, .float x), (1, .float f2), (2, .int g2)]) hx hb dX9_bitsOf_68 rfl hl (by decide) rfl (fun ls hl => ?_)
                  refine lv_fload_n hx hb dX9_bitsOf_69 rfl (lv_at hl 1 rfl) ?_
                  refine lv_fconst0 hx hb dX9_bitsOf_70 ?_
                  refine lv_fcmp hx hb dX9_bitsOf_71 ?_
                  refine lv_if_ge (tgt := 82) hx hb dX9_bitsOf_72 (by decide) (fun c_72 => ?_) (fun c_72 => ?_)
                  · exact absurd c_72 (show ¬ (0 : Int32) ≤ Op.cmpValue (FP.fcmp x 0) .g by rw [f_neg0 hvx (by omega)]; decide)
                  · refine lv_iload_n hx hb dX9_bitsOf_75 rfl (lv_at hl 0 rfl) ?_
                    refine lv_ldc (v := (-2147483648)) hx hb hown k1 dX9_bitsOf_76 ?_
                    refine lv_ior hx hb dX9_bitsOf_78 ?_
                    refine lv_goto (tgt := 83) hx hb dX9_bitsOf_79 (by decide) ?_
                    exact hend _ _ _ _ _ _ hP hD hS dX9_bitsOf_83 rfl rfl (by rw [hg2, show FP.f2i (FP.fmul (FP.fsub f2 FP.fconst1) 1258291200) = nI (u - 8388608) from f_frac hfz hc1 hc2, show 127 + i - j = 150 - w by omega, show nI u - 8388608 = nI (u - 8388608) from pk_sub (a := u) (b := 8388608) (by omega)])
                · have he43 : j < w + i - 23 := by rcases (show j < w + i - 23 ∨ j = w + i - 23 by omega) with h | h; exact h; rcases f_ge (K := FP.fconst1) hfj f_one hc1 (by omega) with h2 | h2 <;> rw [h2] at c_43 <;> exact absurd (by decide) c_43
                  refine lv_fload_n hx hb dX9_bitsOf_46 rfl (lv_at hl 1 rfl) ?_
                  refine lv_fconst2 hx hb dX9_bitsOf_47 ?_
                  refine lv_fmul hx hb dX9_bitsOf_48 (f_nn (f_dbl hfj hc1 hc2 (by omega) (by omega))) ?_
                  refine lv_fstore_n (lv' := [(1, .float (FP.fmul f2 FP.fconst2)), (0, .float x), (2, .int g2)]) hx hb dX9_bitsOf_49 rfl hl (by decide) rfl (fun ls hl => ?_)
                  refine lv_iinc (v := g2 + (-1)) (lv' := [(2, .int (g2 + (-1))), (1, .float (FP.fmul f2 FP.fconst2)), (0, .float x)]) hx hb dX9_bitsOf_50 hl (k := 2) rfl rfl (by decide) rfl (fun ls hl => ?_)
                  refine lv_goto (tgt := 40) hx hb dX9_bitsOf_53 (by decide) ?_
                  exact ih (FP.fmul f2 FP.fconst2) (j + 1) (g2 + (-1)) (by rw [show (-((w + i : Nat) : Int) + ((j + 1 : Nat) : Int)) = (-((w + i : Nat) : Int) + (j : Int)) + 1 by omega]; exact f_dbl hfj hc1 hc2 (by omega) (by omega)) (by omega) (by rw [hg2, show 127 + i - j = (127 + i - (j + 1)) + 1 by omega]; exact f_dec _) _ _ _ hP hD hS (lv_sub hl [2, 1, 0] rfl) 
            exact loop40 (w + i - 23) f 0 g (by rw [hfi]; congr 1; omega) (by omega) hg _ _ _ hP hD hS (lv_sub hl [0, 1, 2] rfl) 
          · have he27 : w + i < 23 := by rcases (show 23 ≤ w + i ∨ w + i < 23 by omega) with h | h; rw [f_lt (K := FP.fconst2) hfi f_two hc2 (by omega)] at c_27; exact absurd (by decide) c_27; exact h
            refine lv_fload_n hx hb dX9_bitsOf_30 rfl (lv_at hl 1 rfl) ?_
            refine lv_fconst2 hx hb dX9_bitsOf_31 ?_
            refine lv_fdiv hx hb dX9_bitsOf_32 (f_nn (f_half hfi hc1 hc2 (by omega) (by omega))) ?_
            refine lv_fstore_n (lv' := [(1, .float (FP.fdiv f FP.fconst2)), (0, .float x), (2, .int g)]) hx hb dX9_bitsOf_33 rfl hl (by decide) rfl (fun ls hl => ?_)
            refine lv_iinc (v := g + 1) (lv' := [(2, .int (g + 1)), (1, .float (FP.fdiv f FP.fconst2)), (0, .float x)]) hx hb dX9_bitsOf_34 hl (k := 2) rfl rfl (by decide) rfl (fun ls hl => ?_)
            refine lv_goto (tgt := 24) hx hb dX9_bitsOf_37 (by decide) ?_
            exact ih (FP.fdiv f FP.fconst2) (i + 1) (g + 1) (by rw [show (-(w : Int) - ((i + 1 : Nat) : Int)) = (-(w : Int) - (i : Int)) - 1 by omega]; exact f_half hfi hc1 hc2 (by omega) (by omega)) (by omega) (by omega) (by rw [hg]; exact nI_inc _) _ _ _ hP hD hS (lv_sub hl [2, 1, 0] rfl) 
      exact loop24 24 (FP.fneg x) 0 127 (by rw [FP.val32_fneg, hvx]; simp [FP.Core.negate]) (by omega) (by omega) rfl _ _ _ hP hD hS (lv_sub hl [2, 1, 0] rfl) 
  · exact absurd c_3 (by show ¬ Op.cmpValue (FP.fcmp x 0) .l = 0; rw [f_neg0 hvx (by omega)]; decide)
end
section
theorem c_X8_bitsOf (l : Launch) (D : va_G) (I C Q : ClassId) (x : UInt32) (hfk : f_ok x) : KI l D (tyL I C Q) yX8_bitsOf wsX8_bitsOf { frames := 0, cells := 0, slots := 0, locals := 0 } [.float x] [] [] (f_bits x) := by
  rcases hfk with h | ⟨s, u, w, hv, h1, h2, h3⟩
  · rw [h, f_bits0]
    exact c_X8_bitsOfZ l D I C Q 0 rfl
  · cases s
    · rw [f_bitsP hv h1]
      exact c_X8_bitsOfP l D I C Q u w x hv h1 h2 h3
    · rw [f_bitsM hv h1]
      exact c_X8_bitsOfM l D I C Q u w x hv h1 h2 h3
theorem c_X9_bitsOf (l : Launch) (D : va_G) (I C Q : ClassId) (x : UInt32) (hfk : f_ok x) : KI l D (tyL I C Q) yX9_bitsOf wsX9_bitsOf { frames := 0, cells := 0, slots := 0, locals := 0 } [.float x] [] [] (f_bits x) := by
  rcases hfk with h | ⟨s, u, w, hv, h1, h2, h3⟩
  · rw [h, f_bits0]
    exact c_X9_bitsOfZ l D I C Q 0 rfl
  · cases s
    · rw [f_bitsP hv h1]
      exact c_X9_bitsOfP l D I C Q u w x hv h1 h2 h3
    · rw [f_bitsM hv h1]
      exact c_X9_bitsOfM l D I C Q u w x hv h1 h2 h3
end
