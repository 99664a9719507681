-- ===== PART A: goes FIRST, ahead of the names: the tables' words, and 'selects' of the private methods out of them =====
/-- a private method of a class that the tables say can be made, by its rows of tables_1 -/
def lw_okq (q : MethodName × Nat) : Prop := (q.1.cls ≠ "java/lang/invoke/MethodHandle" ∧ q.1.cls ≠ "java/lang/invoke/VarHandle") ∧ Cond.instantiable q.1.cls q.2 ∈ tables_1 ∧ Cond.privateMethod q.1 ∈ tables_1 ∧ Cond.instanceMethod q.1 ∈ tables_1
theorem lw_p0 : lw_okq (⟨"SoakTub", "found", "(I)I"⟩, 8) := ⟨⟨by decide +kernel, by decide +kernel⟩, List.mem_of_getElem? (i := 16) (by decide +kernel), List.mem_of_getElem? (i := 192) (by decide +kernel), List.mem_of_getElem? (i := 193) (by decide +kernel)⟩
theorem lw_p1 : lw_okq (⟨"SoakTub$Tub", "bleed", "()V"⟩, 8) := ⟨⟨by decide +kernel, by decide +kernel⟩, List.mem_of_getElem? (i := 24) (by decide +kernel), List.mem_of_getElem? (i := 312) (by decide +kernel), List.mem_of_getElem? (i := 313) (by decide +kernel)⟩
theorem lw_p2 : lw_okq (⟨"SoakTub$Tub", "sink", "()V"⟩, 8) := ⟨⟨by decide +kernel, by decide +kernel⟩, List.mem_of_getElem? (i := 24) (by decide +kernel), List.mem_of_getElem? (i := 316) (by decide +kernel), List.mem_of_getElem? (i := 317) (by decide +kernel)⟩
theorem lw_p3 : lw_okq (⟨"SoakTub$Tub", "turn", "()V"⟩, 8) := ⟨⟨by decide +kernel, by decide +kernel⟩, List.mem_of_getElem? (i := 24) (by decide +kernel), List.mem_of_getElem? (i := 320) (by decide +kernel), List.mem_of_getElem? (i := 321) (by decide +kernel)⟩
theorem lw_p4 : lw_okq (⟨"SoakTub$Tub", "rise", "()V"⟩, 8) := ⟨⟨by decide +kernel, by decide +kernel⟩, List.mem_of_getElem? (i := 24) (by decide +kernel), List.mem_of_getElem? (i := 329) (by decide +kernel), List.mem_of_getElem? (i := 330) (by decide +kernel)⟩
theorem lw_p5 : lw_okq (⟨"SoakTub", "beginTrial", "()V"⟩, 8) := ⟨⟨by decide +kernel, by decide +kernel⟩, List.mem_of_getElem? (i := 16) (by decide +kernel), List.mem_of_getElem? (i := 372) (by decide +kernel), List.mem_of_getElem? (i := 373) (by decide +kernel)⟩
theorem lw_p6 : lw_okq (⟨"SoakTub", "bestToBe", "(IIII)I"⟩, 8) := ⟨⟨by decide +kernel, by decide +kernel⟩, List.mem_of_getElem? (i := 16) (by decide +kernel), List.mem_of_getElem? (i := 421) (by decide +kernel), List.mem_of_getElem? (i := 422) (by decide +kernel)⟩
theorem lw_p7 : lw_okq (⟨"SoakTub", "isClearWithout", "(III)Z"⟩, 8) := ⟨⟨by decide +kernel, by decide +kernel⟩, List.mem_of_getElem? (i := 16) (by decide +kernel), List.mem_of_getElem? (i := 441) (by decide +kernel), List.mem_of_getElem? (i := 442) (by decide +kernel)⟩
theorem lw_p8 : lw_okq (⟨"SoakTub", "wrongForHolding", "(III)I"⟩, 8) := ⟨⟨by decide +kernel, by decide +kernel⟩, List.mem_of_getElem? (i := 16) (by decide +kernel), List.mem_of_getElem? (i := 449) (by decide +kernel), List.mem_of_getElem? (i := 450) (by decide +kernel)⟩
theorem lw_p9 : lw_okq (⟨"SoakTub", "wrongWithSheet", "(I)I"⟩, 8) := ⟨⟨by decide +kernel, by decide +kernel⟩, List.mem_of_getElem? (i := 16) (by decide +kernel), List.mem_of_getElem? (i := 453) (by decide +kernel), List.mem_of_getElem? (i := 454) (by decide +kernel)⟩
theorem lw_p10 : lw_okq (⟨"SoakTub", "sheetAt", "(I)LSoakTub$Sheet;"⟩, 8) := ⟨⟨by decide +kernel, by decide +kernel⟩, List.mem_of_getElem? (i := 16) (by decide +kernel), List.mem_of_getElem? (i := 457) (by decide +kernel), List.mem_of_getElem? (i := 458) (by decide +kernel)⟩
theorem lw_p11 : lw_okq (⟨"SoakTub", "couldHold", "(LSoakTub$Sheet;III)Z"⟩, 8) := ⟨⟨by decide +kernel, by decide +kernel⟩, List.mem_of_getElem? (i := 16) (by decide +kernel), List.mem_of_getElem? (i := 466) (by decide +kernel), List.mem_of_getElem? (i := 467) (by decide +kernel)⟩
theorem lw_p12 : lw_okq (⟨"SoakTub", "couldBe", "(LSoakTub$Sheet;II)Z"⟩, 8) := ⟨⟨by decide +kernel, by decide +kernel⟩, List.mem_of_getElem? (i := 16) (by decide +kernel), List.mem_of_getElem? (i := 490) (by decide +kernel), List.mem_of_getElem? (i := 491) (by decide +kernel)⟩
theorem lw_p13 : lw_okq (⟨"SoakTub$TextReader", "next", "()V"⟩, 5) := ⟨⟨by decide +kernel, by decide +kernel⟩, List.mem_of_getElem? (i := 95) (by decide +kernel), List.mem_of_getElem? (i := 534) (by decide +kernel), List.mem_of_getElem? (i := 535) (by decide +kernel)⟩
theorem lw_p14 : lw_okq (⟨"SoakTub$TextReader", "readItem", "(LSoakTub$Tub;)Z"⟩, 5) := ⟨⟨by decide +kernel, by decide +kernel⟩, List.mem_of_getElem? (i := 95) (by decide +kernel), List.mem_of_getElem? (i := 549) (by decide +kernel), List.mem_of_getElem? (i := 550) (by decide +kernel)⟩
theorem lw_p15 : lw_okq (⟨"SoakTub$TextReader", "kindOfWord", "()I"⟩, 5) := ⟨⟨by decide +kernel, by decide +kernel⟩, List.mem_of_getElem? (i := 95) (by decide +kernel), List.mem_of_getElem? (i := 553) (by decide +kernel), List.mem_of_getElem? (i := 554) (by decide +kernel)⟩
def lw_privs_1 : List (MethodName × Nat) := [(⟨"SoakTub", "found", "(I)I"⟩, 8), (⟨"SoakTub$Tub", "bleed", "()V"⟩, 8), (⟨"SoakTub$Tub", "sink", "()V"⟩, 8), (⟨"SoakTub$Tub", "turn", "()V"⟩, 8), (⟨"SoakTub$Tub", "rise", "()V"⟩, 8), (⟨"SoakTub", "beginTrial", "()V"⟩, 8), (⟨"SoakTub", "bestToBe", "(IIII)I"⟩, 8), (⟨"SoakTub", "isClearWithout", "(III)Z"⟩, 8), (⟨"SoakTub", "wrongForHolding", "(III)I"⟩, 8), (⟨"SoakTub", "wrongWithSheet", "(I)I"⟩, 8), (⟨"SoakTub", "sheetAt", "(I)LSoakTub$Sheet;"⟩, 8), (⟨"SoakTub", "couldHold", "(LSoakTub$Sheet;III)Z"⟩, 8), (⟨"SoakTub", "couldBe", "(LSoakTub$Sheet;II)Z"⟩, 8), (⟨"SoakTub$TextReader", "next", "()V"⟩, 5), (⟨"SoakTub$TextReader", "readItem", "(LSoakTub$Tub;)Z"⟩, 5), (⟨"SoakTub$TextReader", "kindOfWord", "()I"⟩, 5)]
theorem lw_r1 : ∀ q ∈ lw_privs_1, lw_okq q := List.forall_mem_cons.mpr ⟨lw_p0, List.forall_mem_cons.mpr ⟨lw_p1, List.forall_mem_cons.mpr ⟨lw_p2, List.forall_mem_cons.mpr ⟨lw_p3, List.forall_mem_cons.mpr ⟨lw_p4, List.forall_mem_cons.mpr ⟨lw_p5, List.forall_mem_cons.mpr ⟨lw_p6, List.forall_mem_cons.mpr ⟨lw_p7, List.forall_mem_cons.mpr ⟨lw_p8, List.forall_mem_cons.mpr ⟨lw_p9, List.forall_mem_cons.mpr ⟨lw_p10, List.forall_mem_cons.mpr ⟨lw_p11, List.forall_mem_cons.mpr ⟨lw_p12, List.forall_mem_cons.mpr ⟨lw_p13, List.forall_mem_cons.mpr ⟨lw_p14, List.forall_mem_cons.mpr ⟨lw_p15, fun _ h => absurd h List.not_mem_nil⟩⟩⟩⟩⟩⟩⟩⟩⟩⟩⟩⟩⟩⟩⟩⟩
theorem lw_p16 : lw_okq (⟨"SoakTub$TextReader", "isWord", "(Ljava/lang/String;)Z"⟩, 5) := ⟨⟨by decide +kernel, by decide +kernel⟩, List.mem_of_getElem? (i := 95) (by decide +kernel), List.mem_of_getElem? (i := 558) (by decide +kernel), List.mem_of_getElem? (i := 559) (by decide +kernel)⟩
theorem lw_p17 : lw_okq (⟨"SoakTub$TextReader", "readThing", "(LSoakTub$Tub;I)Z"⟩, 5) := ⟨⟨by decide +kernel, by decide +kernel⟩, List.mem_of_getElem? (i := 95) (by decide +kernel), List.mem_of_getElem? (i := 616) (by decide +kernel), List.mem_of_getElem? (i := 617) (by decide +kernel)⟩
theorem lw_p18 : lw_okq (⟨"SoakTub$TextReader", "readPart", "(LSoakTub$Tub;ILjava/lang/String;I)Z"⟩, 5) := ⟨⟨by decide +kernel, by decide +kernel⟩, List.mem_of_getElem? (i := 95) (by decide +kernel), List.mem_of_getElem? (i := 623) (by decide +kernel), List.mem_of_getElem? (i := 624) (by decide +kernel)⟩
theorem lw_p19 : lw_okq (⟨"SoakTub$TextReader", "takeWord", "(Ljava/lang/String;)Z"⟩, 5) := ⟨⟨by decide +kernel, by decide +kernel⟩, List.mem_of_getElem? (i := 95) (by decide +kernel), List.mem_of_getElem? (i := 627) (by decide +kernel), List.mem_of_getElem? (i := 628) (by decide +kernel)⟩
theorem lw_p20 : lw_okq (⟨"SoakTub$TextReader", "takeNumber", "(I)I"⟩, 5) := ⟨⟨by decide +kernel, by decide +kernel⟩, List.mem_of_getElem? (i := 95) (by decide +kernel), List.mem_of_getElem? (i := 632) (by decide +kernel), List.mem_of_getElem? (i := 633) (by decide +kernel)⟩
theorem lw_p21 : lw_okq (⟨"SoakTub$TextReader", "readDye", "(LSoakTub$Tub;)Z"⟩, 5) := ⟨⟨by decide +kernel, by decide +kernel⟩, List.mem_of_getElem? (i := 95) (by decide +kernel), List.mem_of_getElem? (i := 641) (by decide +kernel), List.mem_of_getElem? (i := 642) (by decide +kernel)⟩
theorem lw_p22 : lw_okq (⟨"SoakTub$TextReader", "readLye", "(LSoakTub$Tub;)Z"⟩, 5) := ⟨⟨by decide +kernel, by decide +kernel⟩, List.mem_of_getElem? (i := 95) (by decide +kernel), List.mem_of_getElem? (i := 647) (by decide +kernel), List.mem_of_getElem? (i := 648) (by decide +kernel)⟩
theorem lw_p23 : lw_okq (⟨"SoakTub$TextReader", "readStir", "(LSoakTub$Tub;)Z"⟩, 5) := ⟨⟨by decide +kernel, by decide +kernel⟩, List.mem_of_getElem? (i := 95) (by decide +kernel), List.mem_of_getElem? (i := 652) (by decide +kernel), List.mem_of_getElem? (i := 653) (by decide +kernel)⟩
theorem lw_p24 : lw_okq (⟨"SoakTubModel", "becomes", "(II)I"⟩, 18) := ⟨⟨by decide +kernel, by decide +kernel⟩, List.mem_of_getElem? (i := 743) (by decide +kernel), List.mem_of_getElem? (i := 818) (by decide +kernel), List.mem_of_getElem? (i := 819) (by decide +kernel)⟩
theorem lw_p25 : lw_okq (⟨"SoakTubModel", "finds", "(I)I"⟩, 18) := ⟨⟨by decide +kernel, by decide +kernel⟩, List.mem_of_getElem? (i := 743) (by decide +kernel), List.mem_of_getElem? (i := 823) (by decide +kernel), List.mem_of_getElem? (i := 824) (by decide +kernel)⟩
theorem lw_p26 : lw_okq (⟨"SoakTubModel", "dyeOf", "(II)I"⟩, 18) := ⟨⟨by decide +kernel, by decide +kernel⟩, List.mem_of_getElem? (i := 743) (by decide +kernel), List.mem_of_getElem? (i := 832) (by decide +kernel), List.mem_of_getElem? (i := 833) (by decide +kernel)⟩
theorem lw_p27 : lw_okq (⟨"SoakTubModel", "dyes", "(I)I"⟩, 18) := ⟨⟨by decide +kernel, by decide +kernel⟩, List.mem_of_getElem? (i := 743) (by decide +kernel), List.mem_of_getElem? (i := 836) (by decide +kernel), List.mem_of_getElem? (i := 837) (by decide +kernel)⟩
theorem lw_p28 : lw_okq (⟨"SoakTubModel", "there", "(I)I"⟩, 18) := ⟨⟨by decide +kernel, by decide +kernel⟩, List.mem_of_getElem? (i := 743) (by decide +kernel), List.mem_of_getElem? (i := 840) (by decide +kernel), List.mem_of_getElem? (i := 841) (by decide +kernel)⟩
theorem lw_p29 : lw_okq (⟨"SoakTubModel", "its", "(II)I"⟩, 18) := ⟨⟨by decide +kernel, by decide +kernel⟩, List.mem_of_getElem? (i := 743) (by decide +kernel), List.mem_of_getElem? (i := 844) (by decide +kernel), List.mem_of_getElem? (i := 845) (by decide +kernel)⟩
theorem lw_p30 : lw_okq (⟨"SoakTubModel", "strongest", "(I)I"⟩, 18) := ⟨⟨by decide +kernel, by decide +kernel⟩, List.mem_of_getElem? (i := 743) (by decide +kernel), List.mem_of_getElem? (i := 848) (by decide +kernel), List.mem_of_getElem? (i := 849) (by decide +kernel)⟩
theorem lw_p31 : lw_okq (⟨"SoakTubModel", "stirs", "(II)V"⟩, 18) := ⟨⟨by decide +kernel, by decide +kernel⟩, List.mem_of_getElem? (i := 743) (by decide +kernel), List.mem_of_getElem? (i := 861) (by decide +kernel), List.mem_of_getElem? (i := 862) (by decide +kernel)⟩
def lw_privs_2 : List (MethodName × Nat) := [(⟨"SoakTub$TextReader", "isWord", "(Ljava/lang/String;)Z"⟩, 5), (⟨"SoakTub$TextReader", "readThing", "(LSoakTub$Tub;I)Z"⟩, 5), (⟨"SoakTub$TextReader", "readPart", "(LSoakTub$Tub;ILjava/lang/String;I)Z"⟩, 5), (⟨"SoakTub$TextReader", "takeWord", "(Ljava/lang/String;)Z"⟩, 5), (⟨"SoakTub$TextReader", "takeNumber", "(I)I"⟩, 5), (⟨"SoakTub$TextReader", "readDye", "(LSoakTub$Tub;)Z"⟩, 5), (⟨"SoakTub$TextReader", "readLye", "(LSoakTub$Tub;)Z"⟩, 5), (⟨"SoakTub$TextReader", "readStir", "(LSoakTub$Tub;)Z"⟩, 5), (⟨"SoakTubModel", "becomes", "(II)I"⟩, 18), (⟨"SoakTubModel", "finds", "(I)I"⟩, 18), (⟨"SoakTubModel", "dyeOf", "(II)I"⟩, 18), (⟨"SoakTubModel", "dyes", "(I)I"⟩, 18), (⟨"SoakTubModel", "there", "(I)I"⟩, 18), (⟨"SoakTubModel", "its", "(II)I"⟩, 18), (⟨"SoakTubModel", "strongest", "(I)I"⟩, 18), (⟨"SoakTubModel", "stirs", "(II)V"⟩, 18)]
theorem lw_r2 : ∀ q ∈ lw_privs_2, lw_okq q := List.forall_mem_cons.mpr ⟨lw_p16, List.forall_mem_cons.mpr ⟨lw_p17, List.forall_mem_cons.mpr ⟨lw_p18, List.forall_mem_cons.mpr ⟨lw_p19, List.forall_mem_cons.mpr ⟨lw_p20, List.forall_mem_cons.mpr ⟨lw_p21, List.forall_mem_cons.mpr ⟨lw_p22, List.forall_mem_cons.mpr ⟨lw_p23, List.forall_mem_cons.mpr ⟨lw_p24, List.forall_mem_cons.mpr ⟨lw_p25, List.forall_mem_cons.mpr ⟨lw_p26, List.forall_mem_cons.mpr ⟨lw_p27, List.forall_mem_cons.mpr ⟨lw_p28, List.forall_mem_cons.mpr ⟨lw_p29, List.forall_mem_cons.mpr ⟨lw_p30, List.forall_mem_cons.mpr ⟨lw_p31, fun _ h => absurd h List.not_mem_nil⟩⟩⟩⟩⟩⟩⟩⟩⟩⟩⟩⟩⟩⟩⟩⟩
theorem lw_p32 : lw_okq (⟨"SoakTubModel", "comes", "(II)V"⟩, 18) := ⟨⟨by decide +kernel, by decide +kernel⟩, List.mem_of_getElem? (i := 743) (by decide +kernel), List.mem_of_getElem? (i := 877) (by decide +kernel), List.mem_of_getElem? (i := 878) (by decide +kernel)⟩
theorem lw_p33 : lw_okq (⟨"SoakTubModel", "isThing", "(I)Z"⟩, 18) := ⟨⟨by decide +kernel, by decide +kernel⟩, List.mem_of_getElem? (i := 743) (by decide +kernel), List.mem_of_getElem? (i := 885) (by decide +kernel), List.mem_of_getElem? (i := 886) (by decide +kernel)⟩
theorem lw_p34 : lw_okq (⟨"SoakTubModel", "bleeds", "(I)I"⟩, 18) := ⟨⟨by decide +kernel, by decide +kernel⟩, List.mem_of_getElem? (i := 743) (by decide +kernel), List.mem_of_getElem? (i := 890) (by decide +kernel), List.mem_of_getElem? (i := 891) (by decide +kernel)⟩
theorem lw_p35 : lw_okq (⟨"SoakTubModel", "rises", "(I)I"⟩, 18) := ⟨⟨by decide +kernel, by decide +kernel⟩, List.mem_of_getElem? (i := 743) (by decide +kernel), List.mem_of_getElem? (i := 897) (by decide +kernel), List.mem_of_getElem? (i := 898) (by decide +kernel)⟩
theorem lw_p36 : lw_okq (⟨"SoakTubModel", "fast", "(I)I"⟩, 18) := ⟨⟨by decide +kernel, by decide +kernel⟩, List.mem_of_getElem? (i := 743) (by decide +kernel), List.mem_of_getElem? (i := 901) (by decide +kernel), List.mem_of_getElem? (i := 902) (by decide +kernel)⟩
theorem lw_p37 : lw_okq (⟨"SoakTubModel", "goes", "(I)V"⟩, 18) := ⟨⟨by decide +kernel, by decide +kernel⟩, List.mem_of_getElem? (i := 743) (by decide +kernel), List.mem_of_getElem? (i := 919) (by decide +kernel), List.mem_of_getElem? (i := 920) (by decide +kernel)⟩
theorem lw_p38 : lw_okq (⟨"SoakTubModel", "yearBut", "(I)V"⟩, 18) := ⟨⟨by decide +kernel, by decide +kernel⟩, List.mem_of_getElem? (i := 743) (by decide +kernel), List.mem_of_getElem? (i := 923) (by decide +kernel), List.mem_of_getElem? (i := 924) (by decide +kernel)⟩
theorem lw_p39 : lw_okq (⟨"SoakTubModel", "bleedsInto", "(I)V"⟩, 18) := ⟨⟨by decide +kernel, by decide +kernel⟩, List.mem_of_getElem? (i := 743) (by decide +kernel), List.mem_of_getElem? (i := 927) (by decide +kernel), List.mem_of_getElem? (i := 928) (by decide +kernel)⟩
theorem lw_p40 : lw_okq (⟨"SoakTubModel", "sinks", "()V"⟩, 18) := ⟨⟨by decide +kernel, by decide +kernel⟩, List.mem_of_getElem? (i := 743) (by decide +kernel), List.mem_of_getElem? (i := 931) (by decide +kernel), List.mem_of_getElem? (i := 932) (by decide +kernel)⟩
theorem lw_p41 : lw_okq (⟨"SoakTubModel", "takesColour", "(I)V"⟩, 18) := ⟨⟨by decide +kernel, by decide +kernel⟩, List.mem_of_getElem? (i := 743) (by decide +kernel), List.mem_of_getElem? (i := 935) (by decide +kernel), List.mem_of_getElem? (i := 936) (by decide +kernel)⟩
theorem lw_p42 : lw_okq (⟨"SoakTubModel", "goesUp", "(I)V"⟩, 18) := ⟨⟨by decide +kernel, by decide +kernel⟩, List.mem_of_getElem? (i := 743) (by decide +kernel), List.mem_of_getElem? (i := 939) (by decide +kernel), List.mem_of_getElem? (i := 940) (by decide +kernel)⟩
theorem lw_p43 : lw_okq (⟨"SoakTubModel", "dyesAll", "()I"⟩, 18) := ⟨⟨by decide +kernel, by decide +kernel⟩, List.mem_of_getElem? (i := 743) (by decide +kernel), List.mem_of_getElem? (i := 946) (by decide +kernel), List.mem_of_getElem? (i := 947) (by decide +kernel)⟩
theorem lw_p44 : lw_okq (⟨"SoakTubModel", "sumOf", "(I)I"⟩, 18) := ⟨⟨by decide +kernel, by decide +kernel⟩, List.mem_of_getElem? (i := 743) (by decide +kernel), List.mem_of_getElem? (i := 954) (by decide +kernel), List.mem_of_getElem? (i := 955) (by decide +kernel)⟩
theorem lw_p45 : lw_okq (⟨"SoakTubModel", "clearOnes", "()I"⟩, 18) := ⟨⟨by decide +kernel, by decide +kernel⟩, List.mem_of_getElem? (i := 743) (by decide +kernel), List.mem_of_getElem? (i := 958) (by decide +kernel), List.mem_of_getElem? (i := 959) (by decide +kernel)⟩
theorem lw_p46 : lw_okq (⟨"SoakTubModel", "isClear", "(I)Z"⟩, 18) := ⟨⟨by decide +kernel, by decide +kernel⟩, List.mem_of_getElem? (i := 743) (by decide +kernel), List.mem_of_getElem? (i := 962) (by decide +kernel), List.mem_of_getElem? (i := 963) (by decide +kernel)⟩
theorem lw_p47 : lw_okq (⟨"SoakTubModel", "colours", "()I"⟩, 18) := ⟨⟨by decide +kernel, by decide +kernel⟩, List.mem_of_getElem? (i := 743) (by decide +kernel), List.mem_of_getElem? (i := 966) (by decide +kernel), List.mem_of_getElem? (i := 967) (by decide +kernel)⟩
def lw_privs_3 : List (MethodName × Nat) := [(⟨"SoakTubModel", "comes", "(II)V"⟩, 18), (⟨"SoakTubModel", "isThing", "(I)Z"⟩, 18), (⟨"SoakTubModel", "bleeds", "(I)I"⟩, 18), (⟨"SoakTubModel", "rises", "(I)I"⟩, 18), (⟨"SoakTubModel", "fast", "(I)I"⟩, 18), (⟨"SoakTubModel", "goes", "(I)V"⟩, 18), (⟨"SoakTubModel", "yearBut", "(I)V"⟩, 18), (⟨"SoakTubModel", "bleedsInto", "(I)V"⟩, 18), (⟨"SoakTubModel", "sinks", "()V"⟩, 18), (⟨"SoakTubModel", "takesColour", "(I)V"⟩, 18), (⟨"SoakTubModel", "goesUp", "(I)V"⟩, 18), (⟨"SoakTubModel", "dyesAll", "()I"⟩, 18), (⟨"SoakTubModel", "sumOf", "(I)I"⟩, 18), (⟨"SoakTubModel", "clearOnes", "()I"⟩, 18), (⟨"SoakTubModel", "isClear", "(I)Z"⟩, 18), (⟨"SoakTubModel", "colours", "()I"⟩, 18)]
theorem lw_r3 : ∀ q ∈ lw_privs_3, lw_okq q := List.forall_mem_cons.mpr ⟨lw_p32, List.forall_mem_cons.mpr ⟨lw_p33, List.forall_mem_cons.mpr ⟨lw_p34, List.forall_mem_cons.mpr ⟨lw_p35, List.forall_mem_cons.mpr ⟨lw_p36, List.forall_mem_cons.mpr ⟨lw_p37, List.forall_mem_cons.mpr ⟨lw_p38, List.forall_mem_cons.mpr ⟨lw_p39, List.forall_mem_cons.mpr ⟨lw_p40, List.forall_mem_cons.mpr ⟨lw_p41, List.forall_mem_cons.mpr ⟨lw_p42, List.forall_mem_cons.mpr ⟨lw_p43, List.forall_mem_cons.mpr ⟨lw_p44, List.forall_mem_cons.mpr ⟨lw_p45, List.forall_mem_cons.mpr ⟨lw_p46, List.forall_mem_cons.mpr ⟨lw_p47, fun _ h => absurd h List.not_mem_nil⟩⟩⟩⟩⟩⟩⟩⟩⟩⟩⟩⟩⟩⟩⟩⟩
theorem lw_p48 : lw_okq (⟨"SoakTubModel", "thenAt", "(II)I"⟩, 18) := ⟨⟨by decide +kernel, by decide +kernel⟩, List.mem_of_getElem? (i := 743) (by decide +kernel), List.mem_of_getElem? (i := 975) (by decide +kernel), List.mem_of_getElem? (i := 976) (by decide +kernel)⟩
theorem lw_p49 : lw_okq (⟨"SoakTubModel", "bestBy", "(IIII)I"⟩, 18) := ⟨⟨by decide +kernel, by decide +kernel⟩, List.mem_of_getElem? (i := 743) (by decide +kernel), List.mem_of_getElem? (i := 1012) (by decide +kernel), List.mem_of_getElem? (i := 1013) (by decide +kernel)⟩
theorem lw_p50 : lw_okq (⟨"SoakTubModel", "orNone", "(I)I"⟩, 18) := ⟨⟨by decide +kernel, by decide +kernel⟩, List.mem_of_getElem? (i := 743) (by decide +kernel), List.mem_of_getElem? (i := 1025) (by decide +kernel), List.mem_of_getElem? (i := 1026) (by decide +kernel)⟩
theorem lw_p51 : lw_okq (⟨"SoakTubModel", "isClearThen", "(III)Z"⟩, 18) := ⟨⟨by decide +kernel, by decide +kernel⟩, List.mem_of_getElem? (i := 743) (by decide +kernel), List.mem_of_getElem? (i := 1033) (by decide +kernel), List.mem_of_getElem? (i := 1034) (by decide +kernel)⟩
theorem lw_p52 : lw_okq (⟨"SoakTubModel", "wantsFor", "(III)I"⟩, 18) := ⟨⟨by decide +kernel, by decide +kernel⟩, List.mem_of_getElem? (i := 743) (by decide +kernel), List.mem_of_getElem? (i := 1046) (by decide +kernel), List.mem_of_getElem? (i := 1047) (by decide +kernel)⟩
theorem lw_p53 : lw_okq (⟨"SoakTubModel", "wants", "(I)I"⟩, 18) := ⟨⟨by decide +kernel, by decide +kernel⟩, List.mem_of_getElem? (i := 743) (by decide +kernel), List.mem_of_getElem? (i := 1050) (by decide +kernel), List.mem_of_getElem? (i := 1051) (by decide +kernel)⟩
theorem lw_p54 : lw_okq (⟨"SoakTubModel", "findsFits", "(III)V"⟩, 18) := ⟨⟨by decide +kernel, by decide +kernel⟩, List.mem_of_getElem? (i := 743) (by decide +kernel), List.mem_of_getElem? (i := 1058) (by decide +kernel), List.mem_of_getElem? (i := 1059) (by decide +kernel)⟩
theorem lw_p55 : lw_okq (⟨"SoakTubModel", "isTold", "(II)Z"⟩, 18) := ⟨⟨by decide +kernel, by decide +kernel⟩, List.mem_of_getElem? (i := 743) (by decide +kernel), List.mem_of_getElem? (i := 1062) (by decide +kernel), List.mem_of_getElem? (i := 1063) (by decide +kernel)⟩
theorem lw_p56 : lw_okq (⟨"SoakTubModel", "draw", "()I"⟩, 18) := ⟨⟨by decide +kernel, by decide +kernel⟩, List.mem_of_getElem? (i := 743) (by decide +kernel), List.mem_of_getElem? (i := 1078) (by decide +kernel), List.mem_of_getElem? (i := 1079) (by decide +kernel)⟩
theorem lw_p57 : lw_okq (⟨"SoakTubModel", "nextToken", "()V"⟩, 18) := ⟨⟨by decide +kernel, by decide +kernel⟩, List.mem_of_getElem? (i := 743) (by decide +kernel), List.mem_of_getElem? (i := 1105) (by decide +kernel), List.mem_of_getElem? (i := 1106) (by decide +kernel)⟩
theorem lw_p58 : lw_okq (⟨"SoakTubModel", "byteAt", "(I)I"⟩, 18) := ⟨⟨by decide +kernel, by decide +kernel⟩, List.mem_of_getElem? (i := 743) (by decide +kernel), List.mem_of_getElem? (i := 1109) (by decide +kernel), List.mem_of_getElem? (i := 1110) (by decide +kernel)⟩
theorem lw_p59 : lw_okq (⟨"SoakTubModel", "itemHere", "()Z"⟩, 18) := ⟨⟨by decide +kernel, by decide +kernel⟩, List.mem_of_getElem? (i := 743) (by decide +kernel), List.mem_of_getElem? (i := 1119) (by decide +kernel), List.mem_of_getElem? (i := 1120) (by decide +kernel)⟩
theorem lw_p60 : lw_okq (⟨"SoakTubModel", "kindHere", "()I"⟩, 18) := ⟨⟨by decide +kernel, by decide +kernel⟩, List.mem_of_getElem? (i := 743) (by decide +kernel), List.mem_of_getElem? (i := 1123) (by decide +kernel), List.mem_of_getElem? (i := 1124) (by decide +kernel)⟩
theorem lw_p61 : lw_okq (⟨"SoakTubModel", "isFive", "(IIIII)Z"⟩, 18) := ⟨⟨by decide +kernel, by decide +kernel⟩, List.mem_of_getElem? (i := 743) (by decide +kernel), List.mem_of_getElem? (i := 1127) (by decide +kernel), List.mem_of_getElem? (i := 1128) (by decide +kernel)⟩
theorem lw_p62 : lw_okq (⟨"SoakTubModel", "isWord", "(I)Z"⟩, 18) := ⟨⟨by decide +kernel, by decide +kernel⟩, List.mem_of_getElem? (i := 743) (by decide +kernel), List.mem_of_getElem? (i := 1131) (by decide +kernel), List.mem_of_getElem? (i := 1132) (by decide +kernel)⟩
theorem lw_p63 : lw_okq (⟨"SoakTubModel", "has3", "(IIII)Z"⟩, 18) := ⟨⟨by decide +kernel, by decide +kernel⟩, List.mem_of_getElem? (i := 743) (by decide +kernel), List.mem_of_getElem? (i := 1135) (by decide +kernel), List.mem_of_getElem? (i := 1136) (by decide +kernel)⟩
def lw_privs_4 : List (MethodName × Nat) := [(⟨"SoakTubModel", "thenAt", "(II)I"⟩, 18), (⟨"SoakTubModel", "bestBy", "(IIII)I"⟩, 18), (⟨"SoakTubModel", "orNone", "(I)I"⟩, 18), (⟨"SoakTubModel", "isClearThen", "(III)Z"⟩, 18), (⟨"SoakTubModel", "wantsFor", "(III)I"⟩, 18), (⟨"SoakTubModel", "wants", "(I)I"⟩, 18), (⟨"SoakTubModel", "findsFits", "(III)V"⟩, 18), (⟨"SoakTubModel", "isTold", "(II)Z"⟩, 18), (⟨"SoakTubModel", "draw", "()I"⟩, 18), (⟨"SoakTubModel", "nextToken", "()V"⟩, 18), (⟨"SoakTubModel", "byteAt", "(I)I"⟩, 18), (⟨"SoakTubModel", "itemHere", "()Z"⟩, 18), (⟨"SoakTubModel", "kindHere", "()I"⟩, 18), (⟨"SoakTubModel", "isFive", "(IIIII)Z"⟩, 18), (⟨"SoakTubModel", "isWord", "(I)Z"⟩, 18), (⟨"SoakTubModel", "has3", "(IIII)Z"⟩, 18)]
theorem lw_r4 : ∀ q ∈ lw_privs_4, lw_okq q := List.forall_mem_cons.mpr ⟨lw_p48, List.forall_mem_cons.mpr ⟨lw_p49, List.forall_mem_cons.mpr ⟨lw_p50, List.forall_mem_cons.mpr ⟨lw_p51, List.forall_mem_cons.mpr ⟨lw_p52, List.forall_mem_cons.mpr ⟨lw_p53, List.forall_mem_cons.mpr ⟨lw_p54, List.forall_mem_cons.mpr ⟨lw_p55, List.forall_mem_cons.mpr ⟨lw_p56, List.forall_mem_cons.mpr ⟨lw_p57, List.forall_mem_cons.mpr ⟨lw_p58, List.forall_mem_cons.mpr ⟨lw_p59, List.forall_mem_cons.mpr ⟨lw_p60, List.forall_mem_cons.mpr ⟨lw_p61, List.forall_mem_cons.mpr ⟨lw_p62, List.forall_mem_cons.mpr ⟨lw_p63, fun _ h => absurd h List.not_mem_nil⟩⟩⟩⟩⟩⟩⟩⟩⟩⟩⟩⟩⟩⟩⟩⟩
theorem lw_p64 : lw_okq (⟨"SoakTubModel", "isFour", "(IIII)Z"⟩, 18) := ⟨⟨by decide +kernel, by decide +kernel⟩, List.mem_of_getElem? (i := 743) (by decide +kernel), List.mem_of_getElem? (i := 1139) (by decide +kernel), List.mem_of_getElem? (i := 1140) (by decide +kernel)⟩
theorem lw_p65 : lw_okq (⟨"SoakTubModel", "thingHere", "(I)Z"⟩, 18) := ⟨⟨by decide +kernel, by decide +kernel⟩, List.mem_of_getElem? (i := 743) (by decide +kernel), List.mem_of_getElem? (i := 1143) (by decide +kernel), List.mem_of_getElem? (i := 1144) (by decide +kernel)⟩
theorem lw_p66 : lw_okq (⟨"SoakTubModel", "fails", "()Z"⟩, 18) := ⟨⟨by decide +kernel, by decide +kernel⟩, List.mem_of_getElem? (i := 743) (by decide +kernel), List.mem_of_getElem? (i := 1147) (by decide +kernel), List.mem_of_getElem? (i := 1148) (by decide +kernel)⟩
theorem lw_p67 : lw_okq (⟨"SoakTubModel", "isTwo", "(II)Z"⟩, 18) := ⟨⟨by decide +kernel, by decide +kernel⟩, List.mem_of_getElem? (i := 743) (by decide +kernel), List.mem_of_getElem? (i := 1151) (by decide +kernel), List.mem_of_getElem? (i := 1152) (by decide +kernel)⟩
theorem lw_p68 : lw_okq (⟨"SoakTubModel", "perhaps", "(ZII)Z"⟩, 18) := ⟨⟨by decide +kernel, by decide +kernel⟩, List.mem_of_getElem? (i := 743) (by decide +kernel), List.mem_of_getElem? (i := 1155) (by decide +kernel), List.mem_of_getElem? (i := 1156) (by decide +kernel)⟩
theorem lw_p69 : lw_okq (⟨"SoakTubModel", "isNumber", "(II)Z"⟩, 18) := ⟨⟨by decide +kernel, by decide +kernel⟩, List.mem_of_getElem? (i := 743) (by decide +kernel), List.mem_of_getElem? (i := 1159) (by decide +kernel), List.mem_of_getElem? (i := 1160) (by decide +kernel)⟩
theorem lw_p70 : lw_okq (⟨"SoakTubModel", "dyeHere", "()Z"⟩, 18) := ⟨⟨by decide +kernel, by decide +kernel⟩, List.mem_of_getElem? (i := 743) (by decide +kernel), List.mem_of_getElem? (i := 1163) (by decide +kernel), List.mem_of_getElem? (i := 1164) (by decide +kernel)⟩
theorem lw_p71 : lw_okq (⟨"SoakTubModel", "stirHere", "()Z"⟩, 18) := ⟨⟨by decide +kernel, by decide +kernel⟩, List.mem_of_getElem? (i := 743) (by decide +kernel), List.mem_of_getElem? (i := 1167) (by decide +kernel), List.mem_of_getElem? (i := 1168) (by decide +kernel)⟩
def lw_privs_5 : List (MethodName × Nat) := [(⟨"SoakTubModel", "isFour", "(IIII)Z"⟩, 18), (⟨"SoakTubModel", "thingHere", "(I)Z"⟩, 18), (⟨"SoakTubModel", "fails", "()Z"⟩, 18), (⟨"SoakTubModel", "isTwo", "(II)Z"⟩, 18), (⟨"SoakTubModel", "perhaps", "(ZII)Z"⟩, 18), (⟨"SoakTubModel", "isNumber", "(II)Z"⟩, 18), (⟨"SoakTubModel", "dyeHere", "()Z"⟩, 18), (⟨"SoakTubModel", "stirHere", "()Z"⟩, 18)]
theorem lw_r5 : ∀ q ∈ lw_privs_5, lw_okq q := List.forall_mem_cons.mpr ⟨lw_p64, List.forall_mem_cons.mpr ⟨lw_p65, List.forall_mem_cons.mpr ⟨lw_p66, List.forall_mem_cons.mpr ⟨lw_p67, List.forall_mem_cons.mpr ⟨lw_p68, List.forall_mem_cons.mpr ⟨lw_p69, List.forall_mem_cons.mpr ⟨lw_p70, List.forall_mem_cons.mpr ⟨lw_p71, fun _ h => absurd h List.not_mem_nil⟩⟩⟩⟩⟩⟩⟩⟩
def lw_privs : List (MethodName × Nat) := lw_privs_1 ++ (lw_privs_2 ++ (lw_privs_3 ++ (lw_privs_4 ++ (lw_privs_5))))
def lw_tbl : List Cond := k2_sels lw_privs ++ tables_1
theorem lw_privs_ok : ∀ q ∈ lw_privs, lw_okq q := by
  show ∀ q ∈ lw_privs_1 ++ (lw_privs_2 ++ (lw_privs_3 ++ (lw_privs_4 ++ (lw_privs_5)))), lw_okq q
  exact List.forall_mem_append.mpr ⟨lw_r1, List.forall_mem_append.mpr ⟨lw_r2, List.forall_mem_append.mpr ⟨lw_r3, List.forall_mem_append.mpr ⟨lw_r4, lw_r5⟩⟩⟩⟩
theorem goodIn_r {big : List Cond} (ws : List Cond) (ps : List Nat) (hp : ws = ps.filterMap (fun i => big[i]?)) (h : ws.all goodWord = true) : GoodIn big ws := by
  intro w hw
  have h1 := List.all_eq_true.mp h w hw
  rw [hp] at hw
  obtain ⟨i, -, hi⟩ := List.mem_filterMap.mp hw
  have hm : w ∈ big := by first | exact List.mem_of_getElem? hi | exact List.getElem?_mem hi
  exact ⟨hm, good_of_word h1⟩
theorem goodIn_sub {big ws : List Cond} (hm : ∀ w ∈ ws, w ∈ big) (h : ws.all goodWord = true) : GoodIn big ws := fun w hw => ⟨hm w hw, good_of_word (List.all_eq_true.mp h w hw)⟩
def RX0 : String := "SoakTub$Sheet"
def TX0 : u_T := fun k => match k with
  | 0 => ("SoakTub$Sheet", "numbers", "[I", true)
  | 1 => ("SoakTub$Sheet", "bits", "I", false)
  | _ => ("SoakTub$Sheet", "size", "I", false)
def tyX0 : Nat → FieldType := fun k => match k with
  | 0 => .array .int
  | 1 => .int
  | _ => .int
abbrev wsX00 : List Cond := u_ws RX0 TX0 3
theorem nmX0 : ∀ a, a < 3 → ∀ b, b < 3 → a ≠ b → (TX0 a).2.1 ≠ (TX0 b).2.1 := by decide +kernel
theorem tyX0_ok : ∀ k, k < 3 → parseFieldDescriptor (TX0 k).2.2.1 = some (tyX0 k) := by decide +kernel
abbrev cX0_init : ByteArray := prog_2_method_1_code
def yX0_init : MethodName := ⟨RX0, "<init>", "()V"⟩
abbrev cX0_isMissing : ByteArray := prog_2_method_2_code
def yX0_isMissing : MethodName := ⟨RX0, "isMissing", "()Z"⟩
abbrev cX0_renew : ByteArray := prog_2_method_3_code
def yX0_renew : MethodName := ⟨RX0, "renew", "(II)V"⟩
abbrev cX0_has : ByteArray := prog_2_method_4_code
def yX0_has : MethodName := ⟨RX0, "has", "(I)Z"⟩
abbrev cX0_hasRow : ByteArray := prog_2_method_5_code
def yX0_hasRow : MethodName := ⟨RX0, "hasRow", "(II)Z"⟩
abbrev cX0_at : ByteArray := prog_2_method_6_code
def yX0_at : MethodName := ⟨RX0, "at", "(I)I"⟩
abbrev cX0_set : ByteArray := prog_2_method_7_code
def yX0_set : MethodName := ⟨RX0, "set", "(II)V"⟩
abbrev cX0_allows : ByteArray := prog_2_method_8_code
def yX0_allows : MethodName := ⟨RX0, "allows", "(II)Z"⟩
def RX1 : String := "SoakTub$Tape"
def TX1 : u_T := fun k => match k with
  | 0 => ("SoakTub$Tape", "bytes", "[I", true)
  | _ => ("SoakTub$Tape", "length", "I", false)
def tyX1 : Nat → FieldType := fun k => match k with
  | 0 => .array .int
  | _ => .int
abbrev wsX10 : List Cond := u_ws RX1 TX1 2
theorem nmX1 : ∀ a, a < 2 → ∀ b, b < 2 → a ≠ b → (TX1 a).2.1 ≠ (TX1 b).2.1 := by decide +kernel
theorem tyX1_ok : ∀ k, k < 2 → parseFieldDescriptor (TX1 k).2.2.1 = some (tyX1 k) := by decide +kernel
abbrev cX1_init : ByteArray := prog_3_method_1_code
def yX1_init : MethodName := ⟨RX1, "<init>", "()V"⟩
abbrev cX1_append : ByteArray := prog_3_method_2_code
def yX1_append : MethodName := ⟨RX1, "append", "(I)V"⟩
abbrev cX1_at : ByteArray := prog_3_method_3_code
def yX1_at : MethodName := ⟨RX1, "at", "(I)I"⟩
def RX2 : String := "SoakTub$TextReader"
def TX2 : u_T := fun k => match k with
  | 0 => ("SoakTub$TextReader", "tape", "LSoakTub$Tape;", true)
  | 1 => ("SoakTub$TextReader", "token", "I", false)
  | 2 => ("SoakTub$TextReader", "start", "I", false)
  | 3 => ("SoakTub$TextReader", "end", "I", false)
  | _ => ("SoakTub$TextReader", "number", "I", false)
def tyX2 : Nat → FieldType := fun k => match k with
  | 0 => .object "SoakTub$Tape"
  | 1 => .int
  | 2 => .int
  | 3 => .int
  | _ => .int
abbrev wsX20 : List Cond := u_ws RX2 TX2 5
theorem nmX2 : ∀ a, a < 5 → ∀ b, b < 5 → a ≠ b → (TX2 a).2.1 ≠ (TX2 b).2.1 := by decide +kernel
theorem tyX2_ok : ∀ k, k < 5 → parseFieldDescriptor (TX2 k).2.2.1 = some (tyX2 k) := by decide +kernel
abbrev cX2_init : ByteArray := prog_4_method_1_code
def yX2_init : MethodName := ⟨RX2, "<init>", "()V"⟩
abbrev cX2_readInto : ByteArray := prog_4_method_2_code
def yX2_readInto : MethodName := ⟨RX2, "readInto", "(LSoakTub$Tub;)I"⟩
abbrev cX2_readItem : ByteArray := prog_4_method_3_code
def yX2_readItem : MethodName := ⟨RX2, "readItem", "(LSoakTub$Tub;)Z"⟩
abbrev cX2_readThing : ByteArray := prog_4_method_4_code
def yX2_readThing : MethodName := ⟨RX2, "readThing", "(LSoakTub$Tub;I)Z"⟩
abbrev cX2_readPart : ByteArray := prog_4_method_5_code
def yX2_readPart : MethodName := ⟨RX2, "readPart", "(LSoakTub$Tub;ILjava/lang/String;I)Z"⟩
abbrev cX2_readDye : ByteArray := prog_4_method_6_code
def yX2_readDye : MethodName := ⟨RX2, "readDye", "(LSoakTub$Tub;)Z"⟩
abbrev cX2_readLye : ByteArray := prog_4_method_7_code
def yX2_readLye : MethodName := ⟨RX2, "readLye", "(LSoakTub$Tub;)Z"⟩
abbrev cX2_readStir : ByteArray := prog_4_method_8_code
def yX2_readStir : MethodName := ⟨RX2, "readStir", "(LSoakTub$Tub;)Z"⟩
abbrev cX2_takeWord : ByteArray := prog_4_method_9_code
def yX2_takeWord : MethodName := ⟨RX2, "takeWord", "(Ljava/lang/String;)Z"⟩
abbrev cX2_takeNumber : ByteArray := prog_4_method_10_code
def yX2_takeNumber : MethodName := ⟨RX2, "takeNumber", "(I)I"⟩
abbrev cX2_kindOfWord : ByteArray := prog_4_method_11_code
def yX2_kindOfWord : MethodName := ⟨RX2, "kindOfWord", "()I"⟩
abbrev cX2_isWord : ByteArray := prog_4_method_12_code
def yX2_isWord : MethodName := ⟨RX2, "isWord", "(Ljava/lang/String;)Z"⟩
abbrev cX2_next : ByteArray := prog_4_method_13_code
def yX2_next : MethodName := ⟨RX2, "next", "()V"⟩
abbrev cX2_isLetter : ByteArray := prog_4_method_14_code
def yX2_isLetter : MethodName := ⟨RX2, "isLetter", "(I)Z"⟩
abbrev cX2_isDigit : ByteArray := prog_4_method_15_code
def yX2_isDigit : MethodName := ⟨RX2, "isDigit", "(I)Z"⟩
def RX3 : String := "SoakTub$Thing"
def TX3 : u_T := fun k => match k with
  | 0 => ("SoakTub$Thing", "kind", "I", false)
  | 1 => ("SoakTub$Thing", "layer", "I", false)
  | 2 => ("SoakTub$Thing", "colour", "I", false)
  | 3 => ("SoakTub$Thing", "holds", "I", false)
  | 4 => ("SoakTub$Thing", "soaked", "I", false)
  | _ => ("SoakTub$Thing", "seen", "I", false)
def tyX3 : Nat → FieldType := fun k => match k with
  | 0 => .int
  | 1 => .int
  | 2 => .int
  | 3 => .int
  | 4 => .int
  | _ => .int
abbrev wsX30 : List Cond := u_ws RX3 TX3 6
theorem nmX3 : ∀ a, a < 6 → ∀ b, b < 6 → a ≠ b → (TX3 a).2.1 ≠ (TX3 b).2.1 := by decide +kernel
theorem tyX3_ok : ∀ k, k < 6 → parseFieldDescriptor (TX3 k).2.2.1 = some (tyX3 k) := by decide +kernel
abbrev cX3_init : ByteArray := prog_5_method_1_code
def yX3_init : MethodName := ⟨RX3, "<init>", "()V"⟩
abbrev cX3_begin : ByteArray := prog_5_method_2_code
def yX3_begin : MethodName := ⟨RX3, "begin", "(II)V"⟩
abbrev cX3_takeFrom : ByteArray := prog_5_method_3_code
def yX3_takeFrom : MethodName := ⟨RX3, "takeFrom", "(LSoakTub$Thing;)V"⟩
abbrev cX3_bleeds : ByteArray := prog_5_method_4_code
def yX3_bleeds : MethodName := ⟨RX3, "bleeds", "(I)I"⟩
abbrev cX3_rises : ByteArray := prog_5_method_5_code
def yX3_rises : MethodName := ⟨RX3, "rises", "(I)I"⟩
abbrev cX3_fast : ByteArray := prog_5_method_6_code
def yX3_fast : MethodName := ⟨RX3, "fast", "(I)I"⟩
abbrev cX3_turnInto : ByteArray := prog_5_method_7_code
def yX3_turnInto : MethodName := ⟨RX3, "turnInto", "(I)V"⟩
abbrev cX3_rise : ByteArray := prog_5_method_8_code
def yX3_rise : MethodName := ⟨RX3, "rise", "(I)V"⟩
def RX4 : String := "SoakTub$Tub"
def TX4 : u_T := fun k => match k with
  | 0 => ("SoakTub$Tub", "dyes", "[I", true)
  | 1 => ("SoakTub$Tub", "things", "[LSoakTub$Thing;", true)
  | 2 => ("SoakTub$Tub", "spots", "[I", true)
  | 3 => ("SoakTub$Tub", "count", "I", false)
  | 4 => ("SoakTub$Tub", "lye", "I", false)
  | 5 => ("SoakTub$Tub", "year", "I", false)
  | 6 => ("SoakTub$Tub", "z", "I", false)
  | _ => ("SoakTub$Tub", "dry", "I", false)
def tyX4 : Nat → FieldType := fun k => match k with
  | 0 => .array .int
  | 1 => .array (.object "SoakTub$Thing")
  | 2 => .array .int
  | 3 => .int
  | 4 => .int
  | 5 => .int
  | 6 => .int
  | _ => .int
abbrev wsX40 : List Cond := u_ws RX4 TX4 8
theorem nmX4 : ∀ a, a < 8 → ∀ b, b < 8 → a ≠ b → (TX4 a).2.1 ≠ (TX4 b).2.1 := by decide +kernel
theorem tyX4_ok : ∀ k, k < 8 → parseFieldDescriptor (TX4 k).2.2.1 = some (tyX4 k) := by decide +kernel
abbrev cX4_init : ByteArray := prog_6_method_1_code
def yX4_init : MethodName := ⟨RX4, "<init>", "()V"⟩
abbrev cX4_takeFrom : ByteArray := prog_6_method_2_code
def yX4_takeFrom : MethodName := ⟨RX4, "takeFrom", "(LSoakTub$Tub;)V"⟩
abbrev cX4_has : ByteArray := prog_6_method_3_code
def yX4_has : MethodName := ⟨RX4, "has", "(I)Z"⟩
abbrev cX4_isFull : ByteArray := prog_6_method_4_code
def yX4_isFull : MethodName := ⟨RX4, "isFull", "()Z"⟩
abbrev cX4_add : ByteArray := prog_6_method_5_code
def yX4_add : MethodName := ⟨RX4, "add", "(II)V"⟩
abbrev cX4_told : ByteArray := prog_6_method_6_code
def yX4_told : MethodName := ⟨RX4, "told", "(II)I"⟩
abbrev cX4_become : ByteArray := prog_6_method_7_code
def yX4_become : MethodName := ⟨RX4, "become", "(III)V"⟩
abbrev cX4_dyeIn : ByteArray := prog_6_method_8_code
def yX4_dyeIn : MethodName := ⟨RX4, "dyeIn", "(II)I"⟩
abbrev cX4_setDye : ByteArray := prog_6_method_9_code
def yX4_setDye : MethodName := ⟨RX4, "setDye", "(III)V"⟩
abbrev cX4_dyesTogether : ByteArray := prog_6_method_10_code
def yX4_dyesTogether : MethodName := ⟨RX4, "dyesTogether", "(I)I"⟩
abbrev cX4_allDyes : ByteArray := prog_6_method_11_code
def yX4_allDyes : MethodName := ⟨RX4, "allDyes", "()I"⟩
abbrev cX4_isClear : ByteArray := prog_6_method_12_code
def yX4_isClear : MethodName := ⟨RX4, "isClear", "(I)Z"⟩
abbrev cX4_clearLayers : ByteArray := prog_6_method_13_code
def yX4_clearLayers : MethodName := ⟨RX4, "clearLayers", "()I"⟩
abbrev cX4_chiefColour : ByteArray := prog_6_method_14_code
def yX4_chiefColour : MethodName := ⟨RX4, "chiefColour", "(II)I"⟩
abbrev cX4_thingsIn : ByteArray := prog_6_method_15_code
def yX4_thingsIn : MethodName := ⟨RX4, "thingsIn", "(I)I"⟩
abbrev cX4_coloursOfThings : ByteArray := prog_6_method_16_code
def yX4_coloursOfThings : MethodName := ⟨RX4, "coloursOfThings", "()I"⟩
abbrev cX4_sumOf : ByteArray := prog_6_method_17_code
def yX4_sumOf : MethodName := ⟨RX4, "sumOf", "(I)I"⟩
abbrev cX4_agree : ByteArray := prog_6_method_18_code
def yX4_agree : MethodName := ⟨RX4, "agree", "(III)Z"⟩
abbrev cX4_exchange : ByteArray := prog_6_method_19_code
def yX4_exchange : MethodName := ⟨RX4, "exchange", "(II)V"⟩
abbrev cX4_passYears : ByteArray := prog_6_method_20_code
def yX4_passYears : MethodName := ⟨RX4, "passYears", "(I)V"⟩
abbrev cX4_bleed : ByteArray := prog_6_method_21_code
def yX4_bleed : MethodName := ⟨RX4, "bleed", "()V"⟩
abbrev cX4_sink : ByteArray := prog_6_method_22_code
def yX4_sink : MethodName := ⟨RX4, "sink", "()V"⟩
abbrev cX4_turn : ByteArray := prog_6_method_23_code
def yX4_turn : MethodName := ⟨RX4, "turn", "()V"⟩
abbrev cX4_rise : ByteArray := prog_6_method_24_code
def yX4_rise : MethodName := ⟨RX4, "rise", "()V"⟩
abbrev cX4_draw : ByteArray := prog_6_method_25_code
def yX4_draw : MethodName := ⟨RX4, "draw", "()I"⟩
abbrev cX4_setSpot : ByteArray := prog_6_method_26_code
def yX4_setSpot : MethodName := ⟨RX4, "setSpot", "(II)V"⟩
abbrev cX4_heldBy : ByteArray := prog_6_method_27_code
def yX4_heldBy : MethodName := ⟨RX4, "heldBy", "(I)I"⟩
abbrev cX4_spotsTaken : ByteArray := prog_6_method_28_code
def yX4_spotsTaken : MethodName := ⟨RX4, "spotsTaken", "()I"⟩
def RX5 : String := "SoakTub"
def TX5 : u_T := fun k => match k with
  | 0 => ("SoakTub", "tub", "LSoakTub$Tub;", true)
  | 1 => ("SoakTub", "trial", "LSoakTub$Tub;", true)
  | 2 => ("SoakTub", "kept", "LSoakTub$Tub;", true)
  | 3 => ("SoakTub", "isKept", "Z", false)
  | 4 => ("SoakTub", "reader", "LSoakTub$TextReader;", true)
  | 5 => ("SoakTub", "tape", "LSoakTub$Tape;", true)
  | 6 => ("SoakTub", "sheets", "[LSoakTub$Sheet;", true)
  | _ => ("SoakTub", "findings", "[I", true)
def tyX5 : Nat → FieldType := fun k => match k with
  | 0 => .object "SoakTub$Tub"
  | 1 => .object "SoakTub$Tub"
  | 2 => .object "SoakTub$Tub"
  | 3 => .boolean
  | 4 => .object "SoakTub$TextReader"
  | 5 => .object "SoakTub$Tape"
  | 6 => .array (.object "SoakTub$Sheet")
  | _ => .array .int
abbrev wsX50 : List Cond := u_ws RX5 TX5 8
theorem nmX5 : ∀ a, a < 8 → ∀ b, b < 8 → a ≠ b → (TX5 a).2.1 ≠ (TX5 b).2.1 := by decide +kernel
theorem tyX5_ok : ∀ k, k < 8 → parseFieldDescriptor (TX5 k).2.2.1 = some (tyX5 k) := by decide +kernel
abbrev cX5_init : ByteArray := prog_1_method_1_code
def yX5_init : MethodName := ⟨RX5, "<init>", "()V"⟩
abbrev cX5_dye : ByteArray := prog_1_method_2_code
def yX5_dye : MethodName := ⟨RX5, "dye", "(III)I"⟩
abbrev cX5_layer : ByteArray := prog_1_method_3_code
def yX5_layer : MethodName := ⟨RX5, "layer", "(II)I"⟩
abbrev cX5_lye : ByteArray := prog_1_method_4_code
def yX5_lye : MethodName := ⟨RX5, "lye", "(I)I"⟩
abbrev cX5_stir : ByteArray := prog_1_method_5_code
def yX5_stir : MethodName := ⟨RX5, "stir", "(II)I"⟩
abbrev cX5_thing : ByteArray := prog_1_method_6_code
def yX5_thing : MethodName := ⟨RX5, "thing", "(II)I"⟩
abbrev cX5_of : ByteArray := prog_1_method_7_code
def yX5_of : MethodName := ⟨RX5, "of", "(II)I"⟩
abbrev cX5_change : ByteArray := prog_1_method_8_code
def yX5_change : MethodName := ⟨RX5, "change", "(III)I"⟩
abbrev cX5_go : ByteArray := prog_1_method_9_code
def yX5_go : MethodName := ⟨RX5, "go", "(I)I"⟩
abbrev cX5_now : ByteArray := prog_1_method_10_code
def yX5_now : MethodName := ⟨RX5, "now", "(I)I"⟩
abbrev cX5_ahead : ByteArray := prog_1_method_11_code
def yX5_ahead : MethodName := ⟨RX5, "ahead", "(III)I"⟩
abbrev cX5_dyed : ByteArray := prog_1_method_12_code
def yX5_dyed : MethodName := ⟨RX5, "dyed", "(III)I"⟩
abbrev cX5_seen : ByteArray := prog_1_method_13_code
def yX5_seen : MethodName := ⟨RX5, "seen", "(I)I"⟩
abbrev cX5_when : ByteArray := prog_1_method_14_code
def yX5_when : MethodName := ⟨RX5, "when", "(II)I"⟩
abbrev cX5_murky : ByteArray := prog_1_method_15_code
def yX5_murky : MethodName := ⟨RX5, "murky", "(I)I"⟩
abbrev cX5_treaty : ByteArray := prog_1_method_16_code
def yX5_treaty : MethodName := ⟨RX5, "treaty", "(II)I"⟩
abbrev cX5_stirFor : ByteArray := prog_1_method_17_code
def yX5_stirFor : MethodName := ⟨RX5, "stirFor", "(II)I"⟩
abbrev cX5_put : ByteArray := prog_1_method_18_code
def yX5_put : MethodName := ⟨RX5, "put", "(II)I"⟩
abbrev cX5_kindFor : ByteArray := prog_1_method_19_code
def yX5_kindFor : MethodName := ⟨RX5, "kindFor", "(II)I"⟩
abbrev cX5_holdsFor : ByteArray := prog_1_method_20_code
def yX5_holdsFor : MethodName := ⟨RX5, "holdsFor", "(II)I"⟩
abbrev cX5_lyeFor : ByteArray := prog_1_method_21_code
def yX5_lyeFor : MethodName := ⟨RX5, "lyeFor", "(II)I"⟩
abbrev cX5_out : ByteArray := prog_1_method_22_code
def yX5_out : MethodName := ⟨RX5, "out", "(II)I"⟩
abbrev cX5_fits : ByteArray := prog_1_method_23_code
def yX5_fits : MethodName := ⟨RX5, "fits", "(III)I"⟩
abbrev cX5_held : ByteArray := prog_1_method_24_code
def yX5_held : MethodName := ⟨RX5, "held", "(III)I"⟩
abbrev cX5_kinds : ByteArray := prog_1_method_25_code
def yX5_kinds : MethodName := ⟨RX5, "kinds", "(II)I"⟩
abbrev cX5_sticks : ByteArray := prog_1_method_26_code
def yX5_sticks : MethodName := ⟨RX5, "sticks", "(I)I"⟩
abbrev cX5_odds : ByteArray := prog_1_method_27_code
def yX5_odds : MethodName := ⟨RX5, "odds", "(II)J"⟩
abbrev cX5_seed : ByteArray := prog_1_method_28_code
def yX5_seed : MethodName := ⟨RX5, "seed", "(I)I"⟩
abbrev cX5_feed : ByteArray := prog_1_method_29_code
def yX5_feed : MethodName := ⟨RX5, "feed", "(II)I"⟩
abbrev cX5_wipe : ByteArray := prog_1_method_30_code
def yX5_wipe : MethodName := ⟨RX5, "wipe", "()I"⟩
abbrev cX5_text : ByteArray := prog_1_method_31_code
def yX5_text : MethodName := ⟨RX5, "text", "()I"⟩
abbrev cX5_hold : ByteArray := prog_1_method_32_code
def yX5_hold : MethodName := ⟨RX5, "hold", "(II)I"⟩
abbrev cX5_as : ByteArray := prog_1_method_33_code
def yX5_as : MethodName := ⟨RX5, "as", "(II)I"⟩
abbrev cX5_sheet : ByteArray := prog_1_method_34_code
def yX5_sheet : MethodName := ⟨RX5, "sheet", "(III)I"⟩
abbrev cX5_write : ByteArray := prog_1_method_35_code
def yX5_write : MethodName := ⟨RX5, "write", "(III)I"⟩
abbrev cX5_copy : ByteArray := prog_1_method_36_code
def yX5_copy : MethodName := ⟨RX5, "copy", "(IIIII)I"⟩
abbrev cX5_load : ByteArray := prog_1_method_37_code
def yX5_load : MethodName := ⟨RX5, "load", "(I)I"⟩
abbrev cX5_judge : ByteArray := prog_1_method_38_code
def yX5_judge : MethodName := ⟨RX5, "judge", "(I)I"⟩
abbrev cX5_image : ByteArray := prog_1_method_39_code
def yX5_image : MethodName := ⟨RX5, "image", "()I"⟩
abbrev cX5_undo : ByteArray := prog_1_method_40_code
def yX5_undo : MethodName := ⟨RX5, "undo", "()I"⟩
abbrev cX5_tear : ByteArray := prog_1_method_41_code
def yX5_tear : MethodName := ⟨RX5, "tear", "()I"⟩
abbrev cX5_count : ByteArray := prog_1_method_42_code
def yX5_count : MethodName := ⟨RX5, "count", "(I)I"⟩
abbrev cX5_status : ByteArray := prog_1_method_43_code
def yX5_status : MethodName := ⟨RX5, "status", "(I)I"⟩
abbrev cX5_found : ByteArray := prog_1_method_44_code
def yX5_found : MethodName := ⟨RX5, "found", "(I)I"⟩
abbrev cX5_isWithin : ByteArray := prog_1_method_45_code
def yX5_isWithin : MethodName := ⟨RX5, "isWithin", "(III)Z"⟩
abbrev cX5_isLayer : ByteArray := prog_1_method_46_code
def yX5_isLayer : MethodName := ⟨RX5, "isLayer", "(I)Z"⟩
abbrev cX5_isColour : ByteArray := prog_1_method_47_code
def yX5_isColour : MethodName := ⟨RX5, "isColour", "(I)Z"⟩
abbrev cX5_isKind : ByteArray := prog_1_method_48_code
def yX5_isKind : MethodName := ⟨RX5, "isKind", "(I)Z"⟩
abbrev cX5_isSpot : ByteArray := prog_1_method_49_code
def yX5_isSpot : MethodName := ⟨RX5, "isSpot", "(I)Z"⟩
abbrev cX5_mostOf : ByteArray := prog_1_method_50_code
def yX5_mostOf : MethodName := ⟨RX5, "mostOf", "(I)I"⟩
abbrev cX5_isUnder : ByteArray := prog_1_method_51_code
def yX5_isUnder : MethodName := ⟨RX5, "isUnder", "(II)Z"⟩
abbrev cX5_power : ByteArray := prog_1_method_52_code
def yX5_power : MethodName := ⟨RX5, "power", "(JI)J"⟩
abbrev cX5_beginTrial : ByteArray := prog_1_method_53_code
def yX5_beginTrial : MethodName := ⟨RX5, "beginTrial", "()V"⟩
abbrev cX5_bestToBe : ByteArray := prog_1_method_54_code
def yX5_bestToBe : MethodName := ⟨RX5, "bestToBe", "(IIII)I"⟩
abbrev cX5_isClearWithout : ByteArray := prog_1_method_55_code
def yX5_isClearWithout : MethodName := ⟨RX5, "isClearWithout", "(III)Z"⟩
abbrev cX5_sheetAt : ByteArray := prog_1_method_56_code
def yX5_sheetAt : MethodName := ⟨RX5, "sheetAt", "(I)LSoakTub$Sheet;"⟩
abbrev cX5_wrongWithSheet : ByteArray := prog_1_method_57_code
def yX5_wrongWithSheet : MethodName := ⟨RX5, "wrongWithSheet", "(I)I"⟩
abbrev cX5_wrongForHolding : ByteArray := prog_1_method_58_code
def yX5_wrongForHolding : MethodName := ⟨RX5, "wrongForHolding", "(III)I"⟩
abbrev cX5_couldHold : ByteArray := prog_1_method_59_code
def yX5_couldHold : MethodName := ⟨RX5, "couldHold", "(LSoakTub$Sheet;III)Z"⟩
abbrev cX5_couldBe : ByteArray := prog_1_method_60_code
def yX5_couldBe : MethodName := ⟨RX5, "couldBe", "(LSoakTub$Sheet;II)Z"⟩
def RX6 : String := "SoakTubModel"
def TX6 : u_T := fun k => match k with
  | 0 => ("SoakTubModel", "s", "[I", true)
  | 1 => ("SoakTubModel", "kept", "[I", true)
  | 2 => ("SoakTubModel", "before", "[I", true)
  | 3 => ("SoakTubModel", "aside", "[I", true)
  | 4 => ("SoakTubModel", "isKept", "Z", false)
  | 5 => ("SoakTubModel", "findings", "[I", true)
  | 6 => ("SoakTubModel", "tape", "[I", true)
  | 7 => ("SoakTubModel", "taped", "I", false)
  | 8 => ("SoakTubModel", "bitsOf", "[I", true)
  | 9 => ("SoakTubModel", "sizes", "[I", true)
  | 10 => ("SoakTubModel", "numbers", "[I", true)
  | 11 => ("SoakTubModel", "fitting", "I", false)
  | 12 => ("SoakTubModel", "leastFit", "I", false)
  | 13 => ("SoakTubModel", "token", "I", false)
  | 14 => ("SoakTubModel", "from", "I", false)
  | 15 => ("SoakTubModel", "to", "I", false)
  | 16 => ("SoakTubModel", "value", "I", false)
  | _ => ("SoakTubModel", "faultAt", "I", false)
def tyX6 : Nat → FieldType := fun k => match k with
  | 0 => .array .int
  | 1 => .array .int
  | 2 => .array .int
  | 3 => .array .int
  | 4 => .boolean
  | 5 => .array .int
  | 6 => .array .int
  | 7 => .int
  | 8 => .array .int
  | 9 => .array .int
  | 10 => .array .int
  | 11 => .int
  | 12 => .int
  | 13 => .int
  | 14 => .int
  | 15 => .int
  | 16 => .int
  | _ => .int
abbrev wsX60 : List Cond := u_ws RX6 TX6 18
theorem nmX6 : ∀ a, a < 18 → ∀ b, b < 18 → a ≠ b → (TX6 a).2.1 ≠ (TX6 b).2.1 := by decide +kernel
theorem tyX6_ok : ∀ k, k < 18 → parseFieldDescriptor (TX6 k).2.2.1 = some (tyX6 k) := by decide +kernel
abbrev cX6_init : ByteArray := prog_8_method_1_code
def yX6_init : MethodName := ⟨RX6, "<init>", "()V"⟩
abbrev cX6_isIn : ByteArray := prog_8_method_2_code
def yX6_isIn : MethodName := ⟨RX6, "isIn", "(JJJ)Z"⟩
abbrev cX6_finds : ByteArray := prog_8_method_3_code
def yX6_finds : MethodName := ⟨RX6, "finds", "(I)I"⟩
abbrev cX6_becomes : ByteArray := prog_8_method_4_code
def yX6_becomes : MethodName := ⟨RX6, "becomes", "(II)I"⟩
abbrev cX6_copyRow : ByteArray := prog_8_method_5_code
def yX6_copyRow : MethodName := ⟨RX6, "copyRow", "([I[I)V"⟩
abbrev cX6_isLayer : ByteArray := prog_8_method_6_code
def yX6_isLayer : MethodName := ⟨RX6, "isLayer", "(I)Z"⟩
abbrev cX6_isColour : ByteArray := prog_8_method_7_code
def yX6_isColour : MethodName := ⟨RX6, "isColour", "(I)Z"⟩
abbrev cX6_isThing : ByteArray := prog_8_method_8_code
def yX6_isThing : MethodName := ⟨RX6, "isThing", "(I)Z"⟩
abbrev cX6_at : ByteArray := prog_8_method_9_code
def yX6_at : MethodName := ⟨RX6, "at", "(II)I"⟩
abbrev cX6_its : ByteArray := prog_8_method_10_code
def yX6_its : MethodName := ⟨RX6, "its", "(II)I"⟩
abbrev cX6_dyeOf : ByteArray := prog_8_method_11_code
def yX6_dyeOf : MethodName := ⟨RX6, "dyeOf", "(II)I"⟩
abbrev cX6_least : ByteArray := prog_8_method_12_code
def yX6_least : MethodName := ⟨RX6, "least", "(II)I"⟩
abbrev cX6_greatest : ByteArray := prog_8_method_13_code
def yX6_greatest : MethodName := ⟨RX6, "greatest", "(II)I"⟩
abbrev cX6_orNone : ByteArray := prog_8_method_14_code
def yX6_orNone : MethodName := ⟨RX6, "orNone", "(I)I"⟩
abbrev cX6_many : ByteArray := prog_8_method_15_code
def yX6_many : MethodName := ⟨RX6, "many", "(I)I"⟩
abbrev cX6_dye : ByteArray := prog_8_method_16_code
def yX6_dye : MethodName := ⟨RX6, "dye", "(III)I"⟩
abbrev cX6_dyes : ByteArray := prog_8_method_17_code
def yX6_dyes : MethodName := ⟨RX6, "dyes", "(I)I"⟩
abbrev cX6_there : ByteArray := prog_8_method_18_code
def yX6_there : MethodName := ⟨RX6, "there", "(I)I"⟩
abbrev cX6_strongest : ByteArray := prog_8_method_19_code
def yX6_strongest : MethodName := ⟨RX6, "strongest", "(I)I"⟩
abbrev cX6_layer : ByteArray := prog_8_method_20_code
def yX6_layer : MethodName := ⟨RX6, "layer", "(II)I"⟩
abbrev cX6_lye : ByteArray := prog_8_method_21_code
def yX6_lye : MethodName := ⟨RX6, "lye", "(I)I"⟩
abbrev cX6_stirs : ByteArray := prog_8_method_22_code
def yX6_stirs : MethodName := ⟨RX6, "stirs", "(II)V"⟩
abbrev cX6_stir : ByteArray := prog_8_method_23_code
def yX6_stir : MethodName := ⟨RX6, "stir", "(II)I"⟩
abbrev cX6_comes : ByteArray := prog_8_method_24_code
def yX6_comes : MethodName := ⟨RX6, "comes", "(II)V"⟩
abbrev cX6_thing : ByteArray := prog_8_method_25_code
def yX6_thing : MethodName := ⟨RX6, "thing", "(II)I"⟩
abbrev cX6_bleeds : ByteArray := prog_8_method_26_code
def yX6_bleeds : MethodName := ⟨RX6, "bleeds", "(I)I"⟩
abbrev cX6_rises : ByteArray := prog_8_method_27_code
def yX6_rises : MethodName := ⟨RX6, "rises", "(I)I"⟩
abbrev cX6_fast : ByteArray := prog_8_method_28_code
def yX6_fast : MethodName := ⟨RX6, "fast", "(I)I"⟩
abbrev cX6_of : ByteArray := prog_8_method_29_code
def yX6_of : MethodName := ⟨RX6, "of", "(II)I"⟩
abbrev cX6_greatestOf : ByteArray := prog_8_method_30_code
def yX6_greatestOf : MethodName := ⟨RX6, "greatestOf", "(I)I"⟩
abbrev cX6_change : ByteArray := prog_8_method_31_code
def yX6_change : MethodName := ⟨RX6, "change", "(III)I"⟩
abbrev cX6_bleedsInto : ByteArray := prog_8_method_32_code
def yX6_bleedsInto : MethodName := ⟨RX6, "bleedsInto", "(I)V"⟩
abbrev cX6_sinks : ByteArray := prog_8_method_33_code
def yX6_sinks : MethodName := ⟨RX6, "sinks", "()V"⟩
abbrev cX6_takesColour : ByteArray := prog_8_method_34_code
def yX6_takesColour : MethodName := ⟨RX6, "takesColour", "(I)V"⟩
abbrev cX6_goesUp : ByteArray := prog_8_method_35_code
def yX6_goesUp : MethodName := ⟨RX6, "goesUp", "(I)V"⟩
abbrev cX6_yearBut : ByteArray := prog_8_method_36_code
def yX6_yearBut : MethodName := ⟨RX6, "yearBut", "(I)V"⟩
abbrev cX6_goes : ByteArray := prog_8_method_37_code
def yX6_goes : MethodName := ⟨RX6, "goes", "(I)V"⟩
abbrev cX6_dyesAll : ByteArray := prog_8_method_38_code
def yX6_dyesAll : MethodName := ⟨RX6, "dyesAll", "()I"⟩
abbrev cX6_sumOf : ByteArray := prog_8_method_39_code
def yX6_sumOf : MethodName := ⟨RX6, "sumOf", "(I)I"⟩
abbrev cX6_go : ByteArray := prog_8_method_40_code
def yX6_go : MethodName := ⟨RX6, "go", "(I)I"⟩
abbrev cX6_isClear : ByteArray := prog_8_method_41_code
def yX6_isClear : MethodName := ⟨RX6, "isClear", "(I)Z"⟩
abbrev cX6_clearOnes : ByteArray := prog_8_method_42_code
def yX6_clearOnes : MethodName := ⟨RX6, "clearOnes", "()I"⟩
abbrev cX6_colours : ByteArray := prog_8_method_43_code
def yX6_colours : MethodName := ⟨RX6, "colours", "()I"⟩
abbrev cX6_now : ByteArray := prog_8_method_44_code
def yX6_now : MethodName := ⟨RX6, "now", "(I)I"⟩
abbrev cX6_thenAt : ByteArray := prog_8_method_45_code
def yX6_thenAt : MethodName := ⟨RX6, "thenAt", "(II)I"⟩
abbrev cX6_ahead : ByteArray := prog_8_method_46_code
def yX6_ahead : MethodName := ⟨RX6, "ahead", "(III)I"⟩
abbrev cX6_dyed : ByteArray := prog_8_method_47_code
def yX6_dyed : MethodName := ⟨RX6, "dyed", "(III)I"⟩
abbrev cX6_seen : ByteArray := prog_8_method_48_code
def yX6_seen : MethodName := ⟨RX6, "seen", "(I)I"⟩
abbrev cX6_when : ByteArray := prog_8_method_49_code
def yX6_when : MethodName := ⟨RX6, "when", "(II)I"⟩
abbrev cX6_murky : ByteArray := prog_8_method_50_code
def yX6_murky : MethodName := ⟨RX6, "murky", "(I)I"⟩
abbrev cX6_treaty : ByteArray := prog_8_method_51_code
def yX6_treaty : MethodName := ⟨RX6, "treaty", "(II)I"⟩
abbrev cX6_stirFor : ByteArray := prog_8_method_52_code
def yX6_stirFor : MethodName := ⟨RX6, "stirFor", "(II)I"⟩
abbrev cX6_bestBy : ByteArray := prog_8_method_53_code
def yX6_bestBy : MethodName := ⟨RX6, "bestBy", "(IIII)I"⟩
abbrev cX6_put : ByteArray := prog_8_method_54_code
def yX6_put : MethodName := ⟨RX6, "put", "(II)I"⟩
abbrev cX6_kindFor : ByteArray := prog_8_method_55_code
def yX6_kindFor : MethodName := ⟨RX6, "kindFor", "(II)I"⟩
abbrev cX6_holdsFor : ByteArray := prog_8_method_56_code
def yX6_holdsFor : MethodName := ⟨RX6, "holdsFor", "(II)I"⟩
abbrev cX6_isClearThen : ByteArray := prog_8_method_57_code
def yX6_isClearThen : MethodName := ⟨RX6, "isClearThen", "(III)Z"⟩
abbrev cX6_lyeFor : ByteArray := prog_8_method_58_code
def yX6_lyeFor : MethodName := ⟨RX6, "lyeFor", "(II)I"⟩
abbrev cX6_out : ByteArray := prog_8_method_59_code
def yX6_out : MethodName := ⟨RX6, "out", "(II)I"⟩
abbrev cX6_isTold : ByteArray := prog_8_method_60_code
def yX6_isTold : MethodName := ⟨RX6, "isTold", "(II)Z"⟩
abbrev cX6_findsFits : ByteArray := prog_8_method_61_code
def yX6_findsFits : MethodName := ⟨RX6, "findsFits", "(III)V"⟩
abbrev cX6_wantsFor : ByteArray := prog_8_method_62_code
def yX6_wantsFor : MethodName := ⟨RX6, "wantsFor", "(III)I"⟩
abbrev cX6_fits : ByteArray := prog_8_method_63_code
def yX6_fits : MethodName := ⟨RX6, "fits", "(III)I"⟩
abbrev cX6_held : ByteArray := prog_8_method_64_code
def yX6_held : MethodName := ⟨RX6, "held", "(III)I"⟩
abbrev cX6_kinds : ByteArray := prog_8_method_65_code
def yX6_kinds : MethodName := ⟨RX6, "kinds", "(II)I"⟩
abbrev cX6_draw : ByteArray := prog_8_method_66_code
def yX6_draw : MethodName := ⟨RX6, "draw", "()I"⟩
abbrev cX6_sticks : ByteArray := prog_8_method_67_code
def yX6_sticks : MethodName := ⟨RX6, "sticks", "(I)I"⟩
abbrev cX6_odds : ByteArray := prog_8_method_68_code
def yX6_odds : MethodName := ⟨RX6, "odds", "(II)J"⟩
abbrev cX6_seed : ByteArray := prog_8_method_69_code
def yX6_seed : MethodName := ⟨RX6, "seed", "(I)I"⟩
abbrev cX6_feed : ByteArray := prog_8_method_70_code
def yX6_feed : MethodName := ⟨RX6, "feed", "(II)I"⟩
abbrev cX6_wipe : ByteArray := prog_8_method_71_code
def yX6_wipe : MethodName := ⟨RX6, "wipe", "()I"⟩
abbrev cX6_isLetter : ByteArray := prog_8_method_72_code
def yX6_isLetter : MethodName := ⟨RX6, "isLetter", "(I)Z"⟩
abbrev cX6_isDigit : ByteArray := prog_8_method_73_code
def yX6_isDigit : MethodName := ⟨RX6, "isDigit", "(I)Z"⟩
abbrev cX6_byteAt : ByteArray := prog_8_method_74_code
def yX6_byteAt : MethodName := ⟨RX6, "byteAt", "(I)I"⟩
abbrev cX6_nextToken : ByteArray := prog_8_method_75_code
def yX6_nextToken : MethodName := ⟨RX6, "nextToken", "()V"⟩
abbrev cX6_has3 : ByteArray := prog_8_method_76_code
def yX6_has3 : MethodName := ⟨RX6, "has3", "(IIII)Z"⟩
abbrev cX6_isWord : ByteArray := prog_8_method_77_code
def yX6_isWord : MethodName := ⟨RX6, "isWord", "(I)Z"⟩
abbrev cX6_fails : ByteArray := prog_8_method_78_code
def yX6_fails : MethodName := ⟨RX6, "fails", "()Z"⟩
abbrev cX6_isFour : ByteArray := prog_8_method_79_code
def yX6_isFour : MethodName := ⟨RX6, "isFour", "(IIII)Z"⟩
abbrev cX6_isFive : ByteArray := prog_8_method_80_code
def yX6_isFive : MethodName := ⟨RX6, "isFive", "(IIIII)Z"⟩
abbrev cX6_isNumber : ByteArray := prog_8_method_82_code
def yX6_isNumber : MethodName := ⟨RX6, "isNumber", "(II)Z"⟩
abbrev cX6_kindHere : ByteArray := prog_8_method_83_code
def yX6_kindHere : MethodName := ⟨RX6, "kindHere", "()I"⟩
abbrev cX6_isTwo : ByteArray := prog_8_method_84_code
def yX6_isTwo : MethodName := ⟨RX6, "isTwo", "(II)Z"⟩
abbrev cX6_perhaps : ByteArray := prog_8_method_85_code
def yX6_perhaps : MethodName := ⟨RX6, "perhaps", "(ZII)Z"⟩
abbrev cX6_thingHere : ByteArray := prog_8_method_86_code
def yX6_thingHere : MethodName := ⟨RX6, "thingHere", "(I)Z"⟩
abbrev cX6_dyeHere : ByteArray := prog_8_method_87_code
def yX6_dyeHere : MethodName := ⟨RX6, "dyeHere", "()Z"⟩
abbrev cX6_stirHere : ByteArray := prog_8_method_88_code
def yX6_stirHere : MethodName := ⟨RX6, "stirHere", "()Z"⟩
abbrev cX6_itemHere : ByteArray := prog_8_method_89_code
def yX6_itemHere : MethodName := ⟨RX6, "itemHere", "()Z"⟩
abbrev cX6_text : ByteArray := prog_8_method_90_code
def yX6_text : MethodName := ⟨RX6, "text", "()I"⟩
abbrev cX6_hold : ByteArray := prog_8_method_91_code
def yX6_hold : MethodName := ⟨RX6, "hold", "(II)I"⟩
abbrev cX6_isUnder : ByteArray := prog_8_method_92_code
def yX6_isUnder : MethodName := ⟨RX6, "isUnder", "(II)Z"⟩
abbrev cX6_as : ByteArray := prog_8_method_93_code
def yX6_as : MethodName := ⟨RX6, "as", "(II)I"⟩
abbrev cX6_isSheet : ByteArray := prog_8_method_94_code
def yX6_isSheet : MethodName := ⟨RX6, "isSheet", "(I)Z"⟩
abbrev cX6_sheet : ByteArray := prog_8_method_95_code
def yX6_sheet : MethodName := ⟨RX6, "sheet", "(III)I"⟩
abbrev cX6_write : ByteArray := prog_8_method_96_code
def yX6_write : MethodName := ⟨RX6, "write", "(III)I"⟩
abbrev cX6_copy : ByteArray := prog_8_method_97_code
def yX6_copy : MethodName := ⟨RX6, "copy", "(IIIII)I"⟩
abbrev cX6_wants : ByteArray := prog_8_method_98_code
def yX6_wants : MethodName := ⟨RX6, "wants", "(I)I"⟩
abbrev cX6_load : ByteArray := prog_8_method_99_code
def yX6_load : MethodName := ⟨RX6, "load", "(I)I"⟩
abbrev cX6_judge : ByteArray := prog_8_method_100_code
def yX6_judge : MethodName := ⟨RX6, "judge", "(I)I"⟩
abbrev cX6_image : ByteArray := prog_8_method_101_code
def yX6_image : MethodName := ⟨RX6, "image", "()I"⟩
abbrev cX6_undo : ByteArray := prog_8_method_102_code
def yX6_undo : MethodName := ⟨RX6, "undo", "()I"⟩
abbrev cX6_tear : ByteArray := prog_8_method_103_code
def yX6_tear : MethodName := ⟨RX6, "tear", "()I"⟩
abbrev cX6_count : ByteArray := prog_8_method_104_code
def yX6_count : MethodName := ⟨RX6, "count", "(I)I"⟩
abbrev cX6_status : ByteArray := prog_8_method_105_code
def yX6_status : MethodName := ⟨RX6, "status", "(I)I"⟩
def RJ6 : String := "java/lang/Integer"
def TJ6 : u_T := fun k => match k with
  | _ => ("", "", "", false)
def tyJ6 : Nat → FieldType := fun k => match k with
  | _ => .int
abbrev wsJ60 : List Cond := u_ws RJ6 TJ6 0
theorem nmJ6 : ∀ a, a < 0 → ∀ b, b < 0 → a ≠ b → (TJ6 a).2.1 ≠ (TJ6 b).2.1 := by decide +kernel
theorem tyJ6_ok : ∀ k, k < 0 → parseFieldDescriptor (TJ6 k).2.2.1 = some (tyJ6 k) := by decide +kernel
abbrev cJ6_bitCount_0f7a4 : ByteArray := prog_9_method_49_code
def yJ6_bitCount_0f7a4 : MethodName := ⟨RJ6, "bitCount", "(I)I"⟩
def RJ9 : String := "java/lang/Math"
def TJ9 : u_T := fun k => match k with
  | _ => ("", "", "", false)
def tyJ9 : Nat → FieldType := fun k => match k with
  | _ => .int
abbrev wsJ90 : List Cond := u_ws RJ9 TJ9 0
theorem nmJ9 : ∀ a, a < 0 → ∀ b, b < 0 → a ≠ b → (TJ9 a).2.1 ≠ (TJ9 b).2.1 := by decide +kernel
theorem tyJ9_ok : ∀ k, k < 0 → parseFieldDescriptor (TJ9 k).2.2.1 = some (tyJ9 k) := by decide +kernel
abbrev cJ9_max_7cf53 : ByteArray := prog_10_method_65_code
def yJ9_max_7cf53 : MethodName := ⟨RJ9, "max", "(II)I"⟩
abbrev cJ9_min_7cf53 : ByteArray := prog_10_method_69_code
def yJ9_min_7cf53 : MethodName := ⟨RJ9, "min", "(II)I"⟩
def RJ0 : String := "java/lang/String"
def TJ0 : u_T := fun k => match k with
  | _ => ("", "", "", false)
def tyJ0 : Nat → FieldType := fun k => match k with
  | _ => .int
abbrev wsJ00 : List Cond := u_ws RJ0 TJ0 0
theorem nmJ0 : ∀ a, a < 0 → ∀ b, b < 0 → a ≠ b → (TJ0 a).2.1 ≠ (TJ0 b).2.1 := by decide +kernel
theorem tyJ0_ok : ∀ k, k < 0 → parseFieldDescriptor (TJ0 k).2.2.1 = some (tyJ0 k) := by decide +kernel
abbrev cJ0_length_8abf5 : ByteArray := prog_11_method_54_code
def yJ0_length_8abf5 : MethodName := ⟨RJ0, "length", "()I"⟩
abbrev cJ0_charAt_5068e : ByteArray := prog_11_method_56_code
def yJ0_charAt_5068e : MethodName := ⟨RJ0, "charAt", "(I)C"⟩
abbrev cJ0_coder_7d493 : ByteArray := prog_11_method_152_code
def yJ0_coder_7d493 : MethodName := ⟨RJ0, "coder", "()B"⟩
abbrev cJ0_isLatin1_aae02 : ByteArray := prog_11_method_154_code
def yJ0_isLatin1_aae02 : MethodName := ⟨RJ0, "isLatin1", "()Z"⟩
abbrev cJ0_checkIndex_df160 : ByteArray := prog_11_method_155_code
def yJ0_checkIndex_df160 : MethodName := ⟨RJ0, "checkIndex", "(II)V"⟩
def RJ1 : String := "java/lang/StringLatin1"
def TJ1 : u_T := fun k => match k with
  | _ => ("", "", "", false)
def tyJ1 : Nat → FieldType := fun k => match k with
  | _ => .int
abbrev wsJ10 : List Cond := u_ws RJ1 TJ1 0
theorem nmJ1 : ∀ a, a < 0 → ∀ b, b < 0 → a ≠ b → (TJ1 a).2.1 ≠ (TJ1 b).2.1 := by decide +kernel
theorem tyJ1_ok : ∀ k, k < 0 → parseFieldDescriptor (TJ1 k).2.2.1 = some (tyJ1 k) := by decide +kernel
abbrev cJ1_charAt_3b067 : ByteArray := prog_12_method_2_code
def yJ1_charAt_3b067 : MethodName := ⟨RJ1, "charAt", "([BI)C"⟩
def RJ2 : String := "java/lang/StringUTF16"
def TJ2 : u_T := fun k => match k with
  | _ => ("", "", "", false)
def tyJ2 : Nat → FieldType := fun k => match k with
  | _ => .int
abbrev wsJ20 : List Cond := u_ws RJ2 TJ2 0
theorem nmJ2 : ∀ a, a < 0 → ∀ b, b < 0 → a ≠ b → (TJ2 a).2.1 ≠ (TJ2 b).2.1 := by decide +kernel
theorem tyJ2_ok : ∀ k, k < 0 → parseFieldDescriptor (TJ2 k).2.2.1 = some (tyJ2 k) := by decide +kernel
abbrev cJ2_getChar_3b067 : ByteArray := prog_13_method_5_code
def yJ2_getChar_3b067 : MethodName := ⟨RJ2, "getChar", "([BI)C"⟩
abbrev cJ2_length_9d52b : ByteArray := prog_13_method_6_code
def yJ2_length_9d52b : MethodName := ⟨RJ2, "length", "([B)I"⟩
abbrev cJ2_charAt_3b067 : ByteArray := prog_13_method_83_code
def yJ2_charAt_3b067 : MethodName := ⟨RJ2, "charAt", "([BI)C"⟩
abbrev cJ2_checkIndex_2214a : ByteArray := prog_13_method_91_code
def yJ2_checkIndex_2214a : MethodName := ⟨RJ2, "checkIndex", "(I[B)V"⟩
def RJ10 : String := "java/lang/System"
def TJ10 : u_T := fun k => match k with
  | _ => ("", "", "", false)
def tyJ10 : Nat → FieldType := fun k => match k with
  | _ => .int
abbrev wsJ100 : List Cond := u_ws RJ10 TJ10 0
theorem nmJ10 : ∀ a, a < 0 → ∀ b, b < 0 → a ≠ b → (TJ10 a).2.1 ≠ (TJ10 b).2.1 := by decide +kernel
theorem tyJ10_ok : ∀ k, k < 0 → parseFieldDescriptor (TJ10 k).2.2.1 = some (tyJ10 k) := by decide +kernel
def RJ3 : String := "jdk/internal/util/Preconditions"
def TJ3 : u_T := fun k => match k with
  | _ => ("", "", "", false)
def tyJ3 : Nat → FieldType := fun k => match k with
  | _ => .int
abbrev wsJ30 : List Cond := u_ws RJ3 TJ3 0
theorem nmJ3 : ∀ a, a < 0 → ∀ b, b < 0 → a ≠ b → (TJ3 a).2.1 ≠ (TJ3 b).2.1 := by decide +kernel
theorem tyJ3_ok : ∀ k, k < 0 → parseFieldDescriptor (TJ3 k).2.2.1 = some (tyJ3 k) := by decide +kernel
abbrev cJ3_checkIndex_8e157 : ByteArray := prog_15_method_11_code
def yJ3_checkIndex_8e157 : MethodName := ⟨RJ3, "checkIndex", "(IILjava/util/function/BiFunction;)I"⟩
def RL : String := "SoakTubLaw"
abbrev cL_law : ByteArray := code
def yL_law : MethodName := ⟨RL, "law", "([I)Z"⟩
abbrev vwCl : List vw_C := [(RX0, TX0, 3), (RX1, TX1, 2), (RX2, TX2, 5), (RX3, TX3, 6), (RX4, TX4, 8), (RX5, TX5, 8), (RX6, TX6, 18)]
