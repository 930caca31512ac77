-- ===== PART A: goes FIRST, ahead of the names: the tables' words, and 'selects' of the private methods out of them =====
/-- a private method of a class that the tables say can be made, by its rows of tables_1 -/
def lw_okq (q : MethodName × Nat) : Prop := (q.1.cls ≠ "java/lang/invoke/MethodHandle" ∧ q.1.cls ≠ "java/lang/invoke/VarHandle") ∧ Cond.instantiable q.1.cls q.2 ∈ tables_1 ∧ Cond.privateMethod q.1 ∈ tables_1 ∧ Cond.instanceMethod q.1 ∈ tables_1
theorem lw_p0 : lw_okq (⟨"PlankBench$Board", "partOf", "(I)I"⟩, 4) := ⟨⟨by decide +kernel, by decide +kernel⟩, List.mem_of_getElem? (i := 24) (by decide +kernel), List.mem_of_getElem? (i := 267) (by decide +kernel), List.mem_of_getElem? (i := 268) (by decide +kernel)⟩
theorem lw_p1 : lw_okq (⟨"PlankBench$Planks", "note", "(IIII)V"⟩, 4) := ⟨⟨by decide +kernel, by decide +kernel⟩, List.mem_of_getElem? (i := 98) (by decide +kernel), List.mem_of_getElem? (i := 341) (by decide +kernel), List.mem_of_getElem? (i := 342) (by decide +kernel)⟩
theorem lw_p2 : lw_okq (⟨"PlankBench$Workshop", "makeNought", "()I"⟩, 8) := ⟨⟨by decide +kernel, by decide +kernel⟩, List.mem_of_getElem? (i := 117) (by decide +kernel), List.mem_of_getElem? (i := 356) (by decide +kernel), List.mem_of_getElem? (i := 357) (by decide +kernel)⟩
theorem lw_p3 : lw_okq (⟨"PlankBench$Workshop", "openHand", "()V"⟩, 8) := ⟨⟨by decide +kernel, by decide +kernel⟩, List.mem_of_getElem? (i := 117) (by decide +kernel), List.mem_of_getElem? (i := 360) (by decide +kernel), List.mem_of_getElem? (i := 361) (by decide +kernel)⟩
theorem lw_p4 : lw_okq (⟨"PlankBench$Rows", "isRow", "(I)Z"⟩, 2) := ⟨⟨by decide +kernel, by decide +kernel⟩, List.mem_of_getElem? (i := 51) (by decide +kernel), List.mem_of_getElem? (i := 368) (by decide +kernel), List.mem_of_getElem? (i := 369) (by decide +kernel)⟩
theorem lw_p5 : lw_okq (⟨"PlankBench$Workshop", "settle", "()I"⟩, 8) := ⟨⟨by decide +kernel, by decide +kernel⟩, List.mem_of_getElem? (i := 117) (by decide +kernel), List.mem_of_getElem? (i := 372) (by decide +kernel), List.mem_of_getElem? (i := 373) (by decide +kernel)⟩
theorem lw_p6 : lw_okq (⟨"PlankBench$Workshop", "gatherBars", "(I)V"⟩, 8) := ⟨⟨by decide +kernel, by decide +kernel⟩, List.mem_of_getElem? (i := 117) (by decide +kernel), List.mem_of_getElem? (i := 376) (by decide +kernel), List.mem_of_getElem? (i := 377) (by decide +kernel)⟩
theorem lw_p7 : lw_okq (⟨"PlankBench$Rows", "wordAt", "(II)I"⟩, 2) := ⟨⟨by decide +kernel, by decide +kernel⟩, List.mem_of_getElem? (i := 51) (by decide +kernel), List.mem_of_getElem? (i := 384) (by decide +kernel), List.mem_of_getElem? (i := 385) (by decide +kernel)⟩
theorem lw_p8 : lw_okq (⟨"PlankBench$Workshop", "weigh", "(ILPlankBench$Rows;LPlankBench$Rows;)Z"⟩, 8) := ⟨⟨by decide +kernel, by decide +kernel⟩, List.mem_of_getElem? (i := 117) (by decide +kernel), List.mem_of_getElem? (i := 400) (by decide +kernel), List.mem_of_getElem? (i := 401) (by decide +kernel)⟩
theorem lw_p9 : lw_okq (⟨"PlankBench$Workshop", "bypass", "(II)V"⟩, 8) := ⟨⟨by decide +kernel, by decide +kernel⟩, List.mem_of_getElem? (i := 117) (by decide +kernel), List.mem_of_getElem? (i := 416) (by decide +kernel), List.mem_of_getElem? (i := 417) (by decide +kernel)⟩
theorem lw_p10 : lw_okq (⟨"PlankBench$Workshop", "strike", "(ILPlankBench$Rows;)V"⟩, 8) := ⟨⟨by decide +kernel, by decide +kernel⟩, List.mem_of_getElem? (i := 117) (by decide +kernel), List.mem_of_getElem? (i := 428) (by decide +kernel), List.mem_of_getElem? (i := 429) (by decide +kernel)⟩
theorem lw_p11 : lw_okq (⟨"PlankBench$Workshop", "append", "()I"⟩, 8) := ⟨⟨by decide +kernel, by decide +kernel⟩, List.mem_of_getElem? (i := 117) (by decide +kernel), List.mem_of_getElem? (i := 432) (by decide +kernel), List.mem_of_getElem? (i := 433) (by decide +kernel)⟩
theorem lw_p12 : lw_okq (⟨"PlankBench$Workshop", "markRests", "(LPlankBench$Planks;I)V"⟩, 8) := ⟨⟨by decide +kernel, by decide +kernel⟩, List.mem_of_getElem? (i := 117) (by decide +kernel), List.mem_of_getElem? (i := 440) (by decide +kernel), List.mem_of_getElem? (i := 441) (by decide +kernel)⟩
theorem lw_p13 : lw_okq (⟨"PlankBench$Workshop", "markNext", "(LPlankBench$Planks;II)V"⟩, 8) := ⟨⟨by decide +kernel, by decide +kernel⟩, List.mem_of_getElem? (i := 117) (by decide +kernel), List.mem_of_getElem? (i := 444) (by decide +kernel), List.mem_of_getElem? (i := 445) (by decide +kernel)⟩
theorem lw_p14 : lw_okq (⟨"PlankBench$Workshop", "offerRests", "(LPlankBench$Planks;II)V"⟩, 8) := ⟨⟨by decide +kernel, by decide +kernel⟩, List.mem_of_getElem? (i := 117) (by decide +kernel), List.mem_of_getElem? (i := 458) (by decide +kernel), List.mem_of_getElem? (i := 459) (by decide +kernel)⟩
theorem lw_p15 : lw_okq (⟨"PlankBench", "keep", "(II)I"⟩, 8) := ⟨⟨by decide +kernel, by decide +kernel⟩, List.mem_of_getElem? (i := 15) (by decide +kernel), List.mem_of_getElem? (i := 462) (by decide +kernel), List.mem_of_getElem? (i := 463) (by decide +kernel)⟩
def lw_privs_1 : List (MethodName × Nat) := [(⟨"PlankBench$Board", "partOf", "(I)I"⟩, 4), (⟨"PlankBench$Planks", "note", "(IIII)V"⟩, 4), (⟨"PlankBench$Workshop", "makeNought", "()I"⟩, 8), (⟨"PlankBench$Workshop", "openHand", "()V"⟩, 8), (⟨"PlankBench$Rows", "isRow", "(I)Z"⟩, 2), (⟨"PlankBench$Workshop", "settle", "()I"⟩, 8), (⟨"PlankBench$Workshop", "gatherBars", "(I)V"⟩, 8), (⟨"PlankBench$Rows", "wordAt", "(II)I"⟩, 2), (⟨"PlankBench$Workshop", "weigh", "(ILPlankBench$Rows;LPlankBench$Rows;)Z"⟩, 8), (⟨"PlankBench$Workshop", "bypass", "(II)V"⟩, 8), (⟨"PlankBench$Workshop", "strike", "(ILPlankBench$Rows;)V"⟩, 8), (⟨"PlankBench$Workshop", "append", "()I"⟩, 8), (⟨"PlankBench$Workshop", "markRests", "(LPlankBench$Planks;I)V"⟩, 8), (⟨"PlankBench$Workshop", "markNext", "(LPlankBench$Planks;II)V"⟩, 8), (⟨"PlankBench$Workshop", "offerRests", "(LPlankBench$Planks;II)V"⟩, 8), (⟨"PlankBench", "keep", "(II)I"⟩, 8)]
theorem lw_r1 : ∀ q ∈ lw_privs_1, lw_okq q := List.forall_mem_cons.mpr ⟨lw_p0, List.forall_mem_cons.mpr ⟨lw_p1, List.forall_mem_cons.mpr ⟨lw_p2, List.forall_mem_cons.mpr ⟨lw_p3, List.forall_mem_cons.mpr ⟨lw_p4, List.forall_mem_cons.mpr ⟨lw_p5, List.forall_mem_cons.mpr ⟨lw_p6, List.forall_mem_cons.mpr ⟨lw_p7, List.forall_mem_cons.mpr ⟨lw_p8, List.forall_mem_cons.mpr ⟨lw_p9, List.forall_mem_cons.mpr ⟨lw_p10, List.forall_mem_cons.mpr ⟨lw_p11, List.forall_mem_cons.mpr ⟨lw_p12, List.forall_mem_cons.mpr ⟨lw_p13, List.forall_mem_cons.mpr ⟨lw_p14, List.forall_mem_cons.mpr ⟨lw_p15, fun _ h => absurd h List.not_mem_nil⟩⟩⟩⟩⟩⟩⟩⟩⟩⟩⟩⟩⟩⟩⟩⟩
theorem lw_p16 : lw_okq (⟨"PlankBench$Keeper", "markFollowers", "(LPlankBench$Workshop;I)V"⟩, 4) := ⟨⟨by decide +kernel, by decide +kernel⟩, List.mem_of_getElem? (i := 152) (by decide +kernel), List.mem_of_getElem? (i := 470) (by decide +kernel), List.mem_of_getElem? (i := 471) (by decide +kernel)⟩
theorem lw_p17 : lw_okq (⟨"PlankBench$Keeper", "markOptions", "(LPlankBench$Rows;I)V"⟩, 4) := ⟨⟨by decide +kernel, by decide +kernel⟩, List.mem_of_getElem? (i := 152) (by decide +kernel), List.mem_of_getElem? (i := 474) (by decide +kernel), List.mem_of_getElem? (i := 475) (by decide +kernel)⟩
theorem lw_p18 : lw_okq (⟨"PlankBench$Keeper", "findDeeps", "(LPlankBench$Workshop;I)V"⟩, 4) := ⟨⟨by decide +kernel, by decide +kernel⟩, List.mem_of_getElem? (i := 152) (by decide +kernel), List.mem_of_getElem? (i := 480) (by decide +kernel), List.mem_of_getElem? (i := 481) (by decide +kernel)⟩
theorem lw_p19 : lw_okq (⟨"PlankBench$Keeper", "deepBehind", "(LPlankBench$Rows;I)I"⟩, 4) := ⟨⟨by decide +kernel, by decide +kernel⟩, List.mem_of_getElem? (i := 152) (by decide +kernel), List.mem_of_getElem? (i := 484) (by decide +kernel), List.mem_of_getElem? (i := 485) (by decide +kernel)⟩
theorem lw_p20 : lw_okq (⟨"PlankBench$Keeper", "placeLevel", "(LPlankBench$Workshop;IIILPlankBench$Form;)I"⟩, 4) := ⟨⟨by decide +kernel, by decide +kernel⟩, List.mem_of_getElem? (i := 152) (by decide +kernel), List.mem_of_getElem? (i := 488) (by decide +kernel), List.mem_of_getElem? (i := 489) (by decide +kernel)⟩
theorem lw_p21 : lw_okq (⟨"PlankBench$Keeper", "rankRow", "(LPlankBench$Rows;ILPlankBench$Rows;I)V"⟩, 4) := ⟨⟨by decide +kernel, by decide +kernel⟩, List.mem_of_getElem? (i := 152) (by decide +kernel), List.mem_of_getElem? (i := 492) (by decide +kernel), List.mem_of_getElem? (i := 493) (by decide +kernel)⟩
theorem lw_p22 : lw_okq (⟨"PlankBench$Keeper", "sink", "(LPlankBench$Form;II)V"⟩, 4) := ⟨⟨by decide +kernel, by decide +kernel⟩, List.mem_of_getElem? (i := 152) (by decide +kernel), List.mem_of_getElem? (i := 498) (by decide +kernel), List.mem_of_getElem? (i := 499) (by decide +kernel)⟩
theorem lw_p23 : lw_okq (⟨"PlankBench$Workshop", "between", "(IIII)I"⟩, 8) := ⟨⟨by decide +kernel, by decide +kernel⟩, List.mem_of_getElem? (i := 117) (by decide +kernel), List.mem_of_getElem? (i := 532) (by decide +kernel), List.mem_of_getElem? (i := 533) (by decide +kernel)⟩
theorem lw_p24 : lw_okq (⟨"PlankBench$Workshop", "makePair", "(II)I"⟩, 8) := ⟨⟨by decide +kernel, by decide +kernel⟩, List.mem_of_getElem? (i := 117) (by decide +kernel), List.mem_of_getElem? (i := 536) (by decide +kernel), List.mem_of_getElem? (i := 537) (by decide +kernel)⟩
theorem lw_p25 : lw_okq (⟨"PlankBench", "isTooDeep", "(I)Z"⟩, 8) := ⟨⟨by decide +kernel, by decide +kernel⟩, List.mem_of_getElem? (i := 15) (by decide +kernel), List.mem_of_getElem? (i := 555) (by decide +kernel), List.mem_of_getElem? (i := 556) (by decide +kernel)⟩
theorem lw_p26 : lw_okq (⟨"PlankBench", "sizeOf", "(I)I"⟩, 8) := ⟨⟨by decide +kernel, by decide +kernel⟩, List.mem_of_getElem? (i := 15) (by decide +kernel), List.mem_of_getElem? (i := 559) (by decide +kernel), List.mem_of_getElem? (i := 560) (by decide +kernel)⟩
theorem lw_p27 : lw_okq (⟨"PlankBench$Workshop", "bring", "(LPlankBench$Form;)I"⟩, 8) := ⟨⟨by decide +kernel, by decide +kernel⟩, List.mem_of_getElem? (i := 117) (by decide +kernel), List.mem_of_getElem? (i := 567) (by decide +kernel), List.mem_of_getElem? (i := 568) (by decide +kernel)⟩
theorem lw_p28 : lw_okq (⟨"PlankBench$Workshop", "offerMade", "(LPlankBench$Form;IIII)V"⟩, 8) := ⟨⟨by decide +kernel, by decide +kernel⟩, List.mem_of_getElem? (i := 117) (by decide +kernel), List.mem_of_getElem? (i := 571) (by decide +kernel), List.mem_of_getElem? (i := 572) (by decide +kernel)⟩
theorem lw_p29 : lw_okq (⟨"PlankBench$Teller", "findStops", "(LPlankBench$Form;)V"⟩, 4) := ⟨⟨by decide +kernel, by decide +kernel⟩, List.mem_of_getElem? (i := 172) (by decide +kernel), List.mem_of_getElem? (i := 614) (by decide +kernel), List.mem_of_getElem? (i := 615) (by decide +kernel)⟩
theorem lw_p30 : lw_okq (⟨"PlankBench$Teller", "findNumber", "(LPlankBench$Form;I)Z"⟩, 4) := ⟨⟨by decide +kernel, by decide +kernel⟩, List.mem_of_getElem? (i := 172) (by decide +kernel), List.mem_of_getElem? (i := 618) (by decide +kernel), List.mem_of_getElem? (i := 619) (by decide +kernel)⟩
theorem lw_p31 : lw_okq (⟨"PlankBench$Teller", "greatestRightStop", "(LPlankBench$Rows;I)J"⟩, 4) := ⟨⟨by decide +kernel, by decide +kernel⟩, List.mem_of_getElem? (i := 172) (by decide +kernel), List.mem_of_getElem? (i := 628) (by decide +kernel), List.mem_of_getElem? (i := 629) (by decide +kernel)⟩
def lw_privs_2 : List (MethodName × Nat) := [(⟨"PlankBench$Keeper", "markFollowers", "(LPlankBench$Workshop;I)V"⟩, 4), (⟨"PlankBench$Keeper", "markOptions", "(LPlankBench$Rows;I)V"⟩, 4), (⟨"PlankBench$Keeper", "findDeeps", "(LPlankBench$Workshop;I)V"⟩, 4), (⟨"PlankBench$Keeper", "deepBehind", "(LPlankBench$Rows;I)I"⟩, 4), (⟨"PlankBench$Keeper", "placeLevel", "(LPlankBench$Workshop;IIILPlankBench$Form;)I"⟩, 4), (⟨"PlankBench$Keeper", "rankRow", "(LPlankBench$Rows;ILPlankBench$Rows;I)V"⟩, 4), (⟨"PlankBench$Keeper", "sink", "(LPlankBench$Form;II)V"⟩, 4), (⟨"PlankBench$Workshop", "between", "(IIII)I"⟩, 8), (⟨"PlankBench$Workshop", "makePair", "(II)I"⟩, 8), (⟨"PlankBench", "isTooDeep", "(I)Z"⟩, 8), (⟨"PlankBench", "sizeOf", "(I)I"⟩, 8), (⟨"PlankBench$Workshop", "bring", "(LPlankBench$Form;)I"⟩, 8), (⟨"PlankBench$Workshop", "offerMade", "(LPlankBench$Form;IIII)V"⟩, 8), (⟨"PlankBench$Teller", "findStops", "(LPlankBench$Form;)V"⟩, 4), (⟨"PlankBench$Teller", "findNumber", "(LPlankBench$Form;I)Z"⟩, 4), (⟨"PlankBench$Teller", "greatestRightStop", "(LPlankBench$Rows;I)J"⟩, 4)]
theorem lw_r2 : ∀ q ∈ lw_privs_2, lw_okq q := List.forall_mem_cons.mpr ⟨lw_p16, List.forall_mem_cons.mpr ⟨lw_p17, List.forall_mem_cons.mpr ⟨lw_p18, List.forall_mem_cons.mpr ⟨lw_p19, List.forall_mem_cons.mpr ⟨lw_p20, List.forall_mem_cons.mpr ⟨lw_p21, List.forall_mem_cons.mpr ⟨lw_p22, List.forall_mem_cons.mpr ⟨lw_p23, List.forall_mem_cons.mpr ⟨lw_p24, List.forall_mem_cons.mpr ⟨lw_p25, List.forall_mem_cons.mpr ⟨lw_p26, List.forall_mem_cons.mpr ⟨lw_p27, List.forall_mem_cons.mpr ⟨lw_p28, List.forall_mem_cons.mpr ⟨lw_p29, List.forall_mem_cons.mpr ⟨lw_p30, List.forall_mem_cons.mpr ⟨lw_p31, fun _ h => absurd h List.not_mem_nil⟩⟩⟩⟩⟩⟩⟩⟩⟩⟩⟩⟩⟩⟩⟩⟩
theorem lw_p32 : lw_okq (⟨"PlankBench$Teller", "leastLeftStop", "(LPlankBench$Rows;I)J"⟩, 4) := ⟨⟨by decide +kernel, by decide +kernel⟩, List.mem_of_getElem? (i := 172) (by decide +kernel), List.mem_of_getElem? (i := 638) (by decide +kernel), List.mem_of_getElem? (i := 639) (by decide +kernel)⟩
theorem lw_p33 : lw_okq (⟨"PlankBench$Teller", "isSwitch", "(LPlankBench$Form;I)Z"⟩, 4) := ⟨⟨by decide +kernel, by decide +kernel⟩, List.mem_of_getElem? (i := 172) (by decide +kernel), List.mem_of_getElem? (i := 646) (by decide +kernel), List.mem_of_getElem? (i := 647) (by decide +kernel)⟩
theorem lw_p34 : lw_okq (⟨"PlankBench$Teller", "findUps", "(LPlankBench$Form;)V"⟩, 4) := ⟨⟨by decide +kernel, by decide +kernel⟩, List.mem_of_getElem? (i := 172) (by decide +kernel), List.mem_of_getElem? (i := 650) (by decide +kernel), List.mem_of_getElem? (i := 651) (by decide +kernel)⟩
theorem lw_p35 : lw_okq (⟨"PlankBench$Teller", "upCode", "(LPlankBench$Form;II)I"⟩, 4) := ⟨⟨by decide +kernel, by decide +kernel⟩, List.mem_of_getElem? (i := 172) (by decide +kernel), List.mem_of_getElem? (i := 654) (by decide +kernel), List.mem_of_getElem? (i := 655) (by decide +kernel)⟩
theorem lw_p36 : lw_okq (⟨"PlankBench", "layOut", "(II)I"⟩, 8) := ⟨⟨by decide +kernel, by decide +kernel⟩, List.mem_of_getElem? (i := 15) (by decide +kernel), List.mem_of_getElem? (i := 711) (by decide +kernel), List.mem_of_getElem? (i := 712) (by decide +kernel)⟩
theorem lw_p37 : lw_okq (⟨"PlankBench$Play", "forget", "(I)V"⟩, 1) := ⟨⟨by decide +kernel, by decide +kernel⟩, List.mem_of_getElem? (i := 191) (by decide +kernel), List.mem_of_getElem? (i := 720) (by decide +kernel), List.mem_of_getElem? (i := 721) (by decide +kernel)⟩
theorem lw_p38 : lw_okq (⟨"PlankBenchModel", "begin", "()V"⟩, 38) := ⟨⟨by decide +kernel, by decide +kernel⟩, List.mem_of_getElem? (i := 742) (by decide +kernel), List.mem_of_getElem? (i := 917) (by decide +kernel), List.mem_of_getElem? (i := 918) (by decide +kernel)⟩
theorem lw_p39 : lw_okq (⟨"PlankBenchModel", "clearNew", "()V"⟩, 38) := ⟨⟨by decide +kernel, by decide +kernel⟩, List.mem_of_getElem? (i := 742) (by decide +kernel), List.mem_of_getElem? (i := 921) (by decide +kernel), List.mem_of_getElem? (i := 922) (by decide +kernel)⟩
theorem lw_p40 : lw_okq (⟨"PlankBenchModel", "made", "()I"⟩, 38) := ⟨⟨by decide +kernel, by decide +kernel⟩, List.mem_of_getElem? (i := 742) (by decide +kernel), List.mem_of_getElem? (i := 925) (by decide +kernel), List.mem_of_getElem? (i := 926) (by decide +kernel)⟩
theorem lw_p41 : lw_okq (⟨"PlankBenchModel", "compareNew", "()V"⟩, 38) := ⟨⟨by decide +kernel, by decide +kernel⟩, List.mem_of_getElem? (i := 742) (by decide +kernel), List.mem_of_getElem? (i := 932) (by decide +kernel), List.mem_of_getElem? (i := 933) (by decide +kernel)⟩
theorem lw_p42 : lw_okq (⟨"PlankBenchModel", "isLeast", "(II)Z"⟩, 38) := ⟨⟨by decide +kernel, by decide +kernel⟩, List.mem_of_getElem? (i := 742) (by decide +kernel), List.mem_of_getElem? (i := 936) (by decide +kernel), List.mem_of_getElem? (i := 937) (by decide +kernel)⟩
theorem lw_p43 : lw_okq (⟨"PlankBenchModel", "leftOf", "(II)I"⟩, 38) := ⟨⟨by decide +kernel, by decide +kernel⟩, List.mem_of_getElem? (i := 742) (by decide +kernel), List.mem_of_getElem? (i := 940) (by decide +kernel), List.mem_of_getElem? (i := 941) (by decide +kernel)⟩
theorem lw_p44 : lw_okq (⟨"PlankBenchModel", "rightOf", "(II)I"⟩, 38) := ⟨⟨by decide +kernel, by decide +kernel⟩, List.mem_of_getElem? (i := 742) (by decide +kernel), List.mem_of_getElem? (i := 944) (by decide +kernel), List.mem_of_getElem? (i := 945) (by decide +kernel)⟩
theorem lw_p45 : lw_okq (⟨"PlankBenchModel", "replaceLeft", "()Z"⟩, 38) := ⟨⟨by decide +kernel, by decide +kernel⟩, List.mem_of_getElem? (i := 742) (by decide +kernel), List.mem_of_getElem? (i := 948) (by decide +kernel), List.mem_of_getElem? (i := 949) (by decide +kernel)⟩
theorem lw_p46 : lw_okq (⟨"PlankBenchModel", "replaceRight", "()Z"⟩, 38) := ⟨⟨by decide +kernel, by decide +kernel⟩, List.mem_of_getElem? (i := 742) (by decide +kernel), List.mem_of_getElem? (i := 952) (by decide +kernel), List.mem_of_getElem? (i := 953) (by decide +kernel)⟩
theorem lw_p47 : lw_okq (⟨"PlankBenchModel", "leaveOut", "()V"⟩, 38) := ⟨⟨by decide +kernel, by decide +kernel⟩, List.mem_of_getElem? (i := 742) (by decide +kernel), List.mem_of_getElem? (i := 956) (by decide +kernel), List.mem_of_getElem? (i := 957) (by decide +kernel)⟩
def lw_privs_3 : List (MethodName × Nat) := [(⟨"PlankBench$Teller", "leastLeftStop", "(LPlankBench$Rows;I)J"⟩, 4), (⟨"PlankBench$Teller", "isSwitch", "(LPlankBench$Form;I)Z"⟩, 4), (⟨"PlankBench$Teller", "findUps", "(LPlankBench$Form;)V"⟩, 4), (⟨"PlankBench$Teller", "upCode", "(LPlankBench$Form;II)I"⟩, 4), (⟨"PlankBench", "layOut", "(II)I"⟩, 8), (⟨"PlankBench$Play", "forget", "(I)V"⟩, 1), (⟨"PlankBenchModel", "begin", "()V"⟩, 38), (⟨"PlankBenchModel", "clearNew", "()V"⟩, 38), (⟨"PlankBenchModel", "made", "()I"⟩, 38), (⟨"PlankBenchModel", "compareNew", "()V"⟩, 38), (⟨"PlankBenchModel", "isLeast", "(II)Z"⟩, 38), (⟨"PlankBenchModel", "leftOf", "(II)I"⟩, 38), (⟨"PlankBenchModel", "rightOf", "(II)I"⟩, 38), (⟨"PlankBenchModel", "replaceLeft", "()Z"⟩, 38), (⟨"PlankBenchModel", "replaceRight", "()Z"⟩, 38), (⟨"PlankBenchModel", "leaveOut", "()V"⟩, 38)]
theorem lw_r3 : ∀ q ∈ lw_privs_3, lw_okq q := List.forall_mem_cons.mpr ⟨lw_p32, List.forall_mem_cons.mpr ⟨lw_p33, List.forall_mem_cons.mpr ⟨lw_p34, List.forall_mem_cons.mpr ⟨lw_p35, List.forall_mem_cons.mpr ⟨lw_p36, List.forall_mem_cons.mpr ⟨lw_p37, List.forall_mem_cons.mpr ⟨lw_p38, List.forall_mem_cons.mpr ⟨lw_p39, List.forall_mem_cons.mpr ⟨lw_p40, List.forall_mem_cons.mpr ⟨lw_p41, List.forall_mem_cons.mpr ⟨lw_p42, List.forall_mem_cons.mpr ⟨lw_p43, List.forall_mem_cons.mpr ⟨lw_p44, List.forall_mem_cons.mpr ⟨lw_p45, List.forall_mem_cons.mpr ⟨lw_p46, List.forall_mem_cons.mpr ⟨lw_p47, fun _ h => absurd h List.not_mem_nil⟩⟩⟩⟩⟩⟩⟩⟩⟩⟩⟩⟩⟩⟩⟩⟩
theorem lw_p48 : lw_okq (⟨"PlankBenchModel", "sort", "([II)V"⟩, 38) := ⟨⟨by decide +kernel, by decide +kernel⟩, List.mem_of_getElem? (i := 742) (by decide +kernel), List.mem_of_getElem? (i := 960) (by decide +kernel), List.mem_of_getElem? (i := 961) (by decide +kernel)⟩
theorem lw_p49 : lw_okq (⟨"PlankBenchModel", "order", "(II)I"⟩, 38) := ⟨⟨by decide +kernel, by decide +kernel⟩, List.mem_of_getElem? (i := 742) (by decide +kernel), List.mem_of_getElem? (i := 964) (by decide +kernel), List.mem_of_getElem? (i := 965) (by decide +kernel)⟩
theorem lw_p50 : lw_okq (⟨"PlankBenchModel", "keepNew", "()I"⟩, 38) := ⟨⟨by decide +kernel, by decide +kernel⟩, List.mem_of_getElem? (i := 742) (by decide +kernel), List.mem_of_getElem? (i := 968) (by decide +kernel), List.mem_of_getElem? (i := 969) (by decide +kernel)⟩
theorem lw_p51 : lw_okq (⟨"PlankBenchModel", "isNew", "(I)Z"⟩, 38) := ⟨⟨by decide +kernel, by decide +kernel⟩, List.mem_of_getElem? (i := 742) (by decide +kernel), List.mem_of_getElem? (i := 972) (by decide +kernel), List.mem_of_getElem? (i := 973) (by decide +kernel)⟩
theorem lw_p52 : lw_okq (⟨"PlankBenchModel", "addMoves", "(II)V"⟩, 38) := ⟨⟨by decide +kernel, by decide +kernel⟩, List.mem_of_getElem? (i := 742) (by decide +kernel), List.mem_of_getElem? (i := 976) (by decide +kernel), List.mem_of_getElem? (i := 977) (by decide +kernel)⟩
theorem lw_p53 : lw_okq (⟨"PlankBenchModel", "save", "(II)I"⟩, 38) := ⟨⟨by decide +kernel, by decide +kernel⟩, List.mem_of_getElem? (i := 742) (by decide +kernel), List.mem_of_getElem? (i := 980) (by decide +kernel), List.mem_of_getElem? (i := 981) (by decide +kernel)⟩
theorem lw_p54 : lw_okq (⟨"PlankBenchModel", "numbered", "(II)I"⟩, 38) := ⟨⟨by decide +kernel, by decide +kernel⟩, List.mem_of_getElem? (i := 742) (by decide +kernel), List.mem_of_getElem? (i := 988) (by decide +kernel), List.mem_of_getElem? (i := 989) (by decide +kernel)⟩
theorem lw_p55 : lw_okq (⟨"PlankBenchModel", "madeOf", "(II)I"⟩, 38) := ⟨⟨by decide +kernel, by decide +kernel⟩, List.mem_of_getElem? (i := 742) (by decide +kernel), List.mem_of_getElem? (i := 992) (by decide +kernel), List.mem_of_getElem? (i := 993) (by decide +kernel)⟩
theorem lw_p56 : lw_okq (⟨"PlankBenchModel", "summed", "(II)I"⟩, 38) := ⟨⟨by decide +kernel, by decide +kernel⟩, List.mem_of_getElem? (i := 742) (by decide +kernel), List.mem_of_getElem? (i := 1000) (by decide +kernel), List.mem_of_getElem? (i := 1001) (by decide +kernel)⟩
theorem lw_p57 : lw_okq (⟨"PlankBenchModel", "followers", "(I[I)I"⟩, 38) := ⟨⟨by decide +kernel, by decide +kernel⟩, List.mem_of_getElem? (i := 742) (by decide +kernel), List.mem_of_getElem? (i := 1004) (by decide +kernel), List.mem_of_getElem? (i := 1005) (by decide +kernel)⟩
theorem lw_p58 : lw_okq (⟨"PlankBenchModel", "deepOf", "(I)I"⟩, 38) := ⟨⟨by decide +kernel, by decide +kernel⟩, List.mem_of_getElem? (i := 742) (by decide +kernel), List.mem_of_getElem? (i := 1012) (by decide +kernel), List.mem_of_getElem? (i := 1013) (by decide +kernel)⟩
theorem lw_p59 : lw_okq (⟨"PlankBenchModel", "load", "(I)I"⟩, 38) := ⟨⟨by decide +kernel, by decide +kernel⟩, List.mem_of_getElem? (i := 742) (by decide +kernel), List.mem_of_getElem? (i := 1016) (by decide +kernel), List.mem_of_getElem? (i := 1017) (by decide +kernel)⟩
theorem lw_p60 : lw_okq (⟨"PlankBenchModel", "kindOf", "(I)I"⟩, 38) := ⟨⟨by decide +kernel, by decide +kernel⟩, List.mem_of_getElem? (i := 742) (by decide +kernel), List.mem_of_getElem? (i := 1036) (by decide +kernel), List.mem_of_getElem? (i := 1037) (by decide +kernel)⟩
theorem lw_p61 : lw_okq (⟨"PlankBenchModel", "findValues", "(I)I"⟩, 38) := ⟨⟨by decide +kernel, by decide +kernel⟩, List.mem_of_getElem? (i := 742) (by decide +kernel), List.mem_of_getElem? (i := 1040) (by decide +kernel), List.mem_of_getElem? (i := 1041) (by decide +kernel)⟩
theorem lw_p62 : lw_okq (⟨"PlankBenchModel", "findValue", "(II)V"⟩, 38) := ⟨⟨by decide +kernel, by decide +kernel⟩, List.mem_of_getElem? (i := 742) (by decide +kernel), List.mem_of_getElem? (i := 1044) (by decide +kernel), List.mem_of_getElem? (i := 1045) (by decide +kernel)⟩
theorem lw_p63 : lw_okq (⟨"PlankBenchModel", "setValue", "(IJI)V"⟩, 38) := ⟨⟨by decide +kernel, by decide +kernel⟩, List.mem_of_getElem? (i := 742) (by decide +kernel), List.mem_of_getElem? (i := 1051) (by decide +kernel), List.mem_of_getElem? (i := 1052) (by decide +kernel)⟩
def lw_privs_4 : List (MethodName × Nat) := [(⟨"PlankBenchModel", "sort", "([II)V"⟩, 38), (⟨"PlankBenchModel", "order", "(II)I"⟩, 38), (⟨"PlankBenchModel", "keepNew", "()I"⟩, 38), (⟨"PlankBenchModel", "isNew", "(I)Z"⟩, 38), (⟨"PlankBenchModel", "addMoves", "(II)V"⟩, 38), (⟨"PlankBenchModel", "save", "(II)I"⟩, 38), (⟨"PlankBenchModel", "numbered", "(II)I"⟩, 38), (⟨"PlankBenchModel", "madeOf", "(II)I"⟩, 38), (⟨"PlankBenchModel", "summed", "(II)I"⟩, 38), (⟨"PlankBenchModel", "followers", "(I[I)I"⟩, 38), (⟨"PlankBenchModel", "deepOf", "(I)I"⟩, 38), (⟨"PlankBenchModel", "load", "(I)I"⟩, 38), (⟨"PlankBenchModel", "kindOf", "(I)I"⟩, 38), (⟨"PlankBenchModel", "findValues", "(I)I"⟩, 38), (⟨"PlankBenchModel", "findValue", "(II)V"⟩, 38), (⟨"PlankBenchModel", "setValue", "(IJI)V"⟩, 38)]
theorem lw_r4 : ∀ q ∈ lw_privs_4, lw_okq q := List.forall_mem_cons.mpr ⟨lw_p48, List.forall_mem_cons.mpr ⟨lw_p49, List.forall_mem_cons.mpr ⟨lw_p50, List.forall_mem_cons.mpr ⟨lw_p51, List.forall_mem_cons.mpr ⟨lw_p52, List.forall_mem_cons.mpr ⟨lw_p53, List.forall_mem_cons.mpr ⟨lw_p54, List.forall_mem_cons.mpr ⟨lw_p55, List.forall_mem_cons.mpr ⟨lw_p56, List.forall_mem_cons.mpr ⟨lw_p57, List.forall_mem_cons.mpr ⟨lw_p58, List.forall_mem_cons.mpr ⟨lw_p59, List.forall_mem_cons.mpr ⟨lw_p60, List.forall_mem_cons.mpr ⟨lw_p61, List.forall_mem_cons.mpr ⟨lw_p62, List.forall_mem_cons.mpr ⟨lw_p63, fun _ h => absurd h List.not_mem_nil⟩⟩⟩⟩⟩⟩⟩⟩⟩⟩⟩⟩⟩⟩⟩⟩
theorem lw_p64 : lw_okq (⟨"PlankBenchModel", "findStops", "(II)V"⟩, 38) := ⟨⟨by decide +kernel, by decide +kernel⟩, List.mem_of_getElem? (i := 742) (by decide +kernel), List.mem_of_getElem? (i := 1056) (by decide +kernel), List.mem_of_getElem? (i := 1057) (by decide +kernel)⟩
theorem lw_p65 : lw_okq (⟨"PlankBenchModel", "isSwitch", "(I)Z"⟩, 38) := ⟨⟨by decide +kernel, by decide +kernel⟩, List.mem_of_getElem? (i := 742) (by decide +kernel), List.mem_of_getElem? (i := 1060) (by decide +kernel), List.mem_of_getElem? (i := 1061) (by decide +kernel)⟩
theorem lw_p66 : lw_okq (⟨"PlankBenchModel", "upsOf", "(I)I"⟩, 38) := ⟨⟨by decide +kernel, by decide +kernel⟩, List.mem_of_getElem? (i := 742) (by decide +kernel), List.mem_of_getElem? (i := 1064) (by decide +kernel), List.mem_of_getElem? (i := 1065) (by decide +kernel)⟩
theorem lw_p67 : lw_okq (⟨"PlankBenchModel", "findFields", "(I)I"⟩, 38) := ⟨⟨by decide +kernel, by decide +kernel⟩, List.mem_of_getElem? (i := 742) (by decide +kernel), List.mem_of_getElem? (i := 1093) (by decide +kernel), List.mem_of_getElem? (i := 1094) (by decide +kernel)⟩
theorem lw_p68 : lw_okq (⟨"PlankBenchModel", "findWins", "(I)V"⟩, 38) := ⟨⟨by decide +kernel, by decide +kernel⟩, List.mem_of_getElem? (i := 742) (by decide +kernel), List.mem_of_getElem? (i := 1097) (by decide +kernel), List.mem_of_getElem? (i := 1098) (by decide +kernel)⟩
theorem lw_p69 : lw_okq (⟨"PlankBenchModel", "without", "(IIII)I"⟩, 38) := ⟨⟨by decide +kernel, by decide +kernel⟩, List.mem_of_getElem? (i := 742) (by decide +kernel), List.mem_of_getElem? (i := 1101) (by decide +kernel), List.mem_of_getElem? (i := 1102) (by decide +kernel)⟩
def lw_privs_5 : List (MethodName × Nat) := [(⟨"PlankBenchModel", "findStops", "(II)V"⟩, 38), (⟨"PlankBenchModel", "isSwitch", "(I)Z"⟩, 38), (⟨"PlankBenchModel", "upsOf", "(I)I"⟩, 38), (⟨"PlankBenchModel", "findFields", "(I)I"⟩, 38), (⟨"PlankBenchModel", "findWins", "(I)V"⟩, 38), (⟨"PlankBenchModel", "without", "(IIII)I"⟩, 38)]
theorem lw_r5 : ∀ q ∈ lw_privs_5, lw_okq q := List.forall_mem_cons.mpr ⟨lw_p64, List.forall_mem_cons.mpr ⟨lw_p65, List.forall_mem_cons.mpr ⟨lw_p66, List.forall_mem_cons.mpr ⟨lw_p67, List.forall_mem_cons.mpr ⟨lw_p68, List.forall_mem_cons.mpr ⟨lw_p69, fun _ h => absurd h List.not_mem_nil⟩⟩⟩⟩⟩⟩
def lw_privs : List (MethodName × Nat) := lw_privs_1 ++ (lw_privs_2 ++ (lw_privs_3 ++ (lw_privs_4 ++ (lw_privs_5))))
def lw_tbl : List Cond := k2_sels lw_privs ++ tables_1
theorem lw_privs_ok : ∀ q ∈ lw_privs, lw_okq q := by
  show ∀ q ∈ lw_privs_1 ++ (lw_privs_2 ++ (lw_privs_3 ++ (lw_privs_4 ++ (lw_privs_5)))), lw_okq q
  exact List.forall_mem_append.mpr ⟨lw_r1, List.forall_mem_append.mpr ⟨lw_r2, List.forall_mem_append.mpr ⟨lw_r3, List.forall_mem_append.mpr ⟨lw_r4, lw_r5⟩⟩⟩⟩
-- ===== end of PART A; then your names; then what follows =====
def RX0 : String := "PlankBench$Board"
def TX0 : u_T := fun k => match k with
  | 0 => ("PlankBench$Board", "free", "I", false)
  | 1 => ("PlankBench$Board", "laid", "I", false)
  | 2 => ("PlankBench$Board", "laidAt", "[I", true)
  | _ => ("PlankBench$Board", "laidMask", "[I", true)
def tyX0 : Nat → FieldType := fun k => match k with
  | 0 => .int
  | 1 => .int
  | 2 => .array .int
  | _ => .array .int
abbrev wsX00 : List Cond := u_ws RX0 TX0 4
theorem nmX0 : ∀ a, a < 4 → ∀ b, b < 4 → a ≠ b → (TX0 a).2.1 ≠ (TX0 b).2.1 := by decide +kernel
theorem tyX0_ok : ∀ k, k < 4 → parseFieldDescriptor (TX0 k).2.2.1 = some (tyX0 k) := by decide +kernel
abbrev cX0_init : ByteArray := prog_2_method_1_code
def yX0_init : MethodName := ⟨RX0, "<init>", "()V"⟩
abbrev cX0_setRow : ByteArray := prog_2_method_2_code
def yX0_setRow : MethodName := ⟨RX0, "setRow", "(II)V"⟩
abbrev cX0_become : ByteArray := prog_2_method_3_code
def yX0_become : MethodName := ⟨RX0, "become", "(I)V"⟩
abbrev cX0_freeMask : ByteArray := prog_2_method_4_code
def yX0_freeMask : MethodName := ⟨RX0, "freeMask", "()I"⟩
abbrev cX0_isFree : ByteArray := prog_2_method_5_code
def yX0_isFree : MethodName := ⟨RX0, "isFree", "(I)Z"⟩
abbrev cX0_freeCount : ByteArray := prog_2_method_6_code
def yX0_freeCount : MethodName := ⟨RX0, "freeCount", "()I"⟩
abbrev cX0_laidCount : ByteArray := prog_2_method_7_code
def yX0_laidCount : MethodName := ⟨RX0, "laidCount", "()I"⟩
abbrev cX0_plankMask : ByteArray := prog_2_method_8_code
def yX0_plankMask : MethodName := ⟨RX0, "plankMask", "(II)I"⟩
abbrev cX0_plankCount : ByteArray := prog_2_method_9_code
def yX0_plankCount : MethodName := ⟨RX0, "plankCount", "(I)I"⟩
abbrev cX0_put : ByteArray := prog_2_method_10_code
def yX0_put : MethodName := ⟨RX0, "put", "(II)Z"⟩
abbrev cX0_takeBack : ByteArray := prog_2_method_11_code
def yX0_takeBack : MethodName := ⟨RX0, "takeBack", "()I"⟩
abbrev cX0_turnedMask : ByteArray := prog_2_method_12_code
def yX0_turnedMask : MethodName := ⟨RX0, "turnedMask", "()I"⟩
abbrev cX0_partCount : ByteArray := prog_2_method_13_code
def yX0_partCount : MethodName := ⟨RX0, "partCount", "()I"⟩
abbrev cX0_partOf : ByteArray := prog_2_method_14_code
def yX0_partOf : MethodName := ⟨RX0, "partOf", "(I)I"⟩
def RX1 : String := "PlankBench$Form"
def TX1 : u_T := fun k => match k with
  | 0 => ("PlankBench$Form", "lefts", "LPlankBench$Rows;", true)
  | 1 => ("PlankBench$Form", "rights", "LPlankBench$Rows;", true)
  | 2 => ("PlankBench$Form", "size", "I", false)
  | _ => ("PlankBench$Form", "deep", "I", false)
def tyX1 : Nat → FieldType := fun k => match k with
  | 0 => .object "PlankBench$Rows"
  | 1 => .object "PlankBench$Rows"
  | 2 => .int
  | _ => .int
abbrev wsX10 : List Cond := u_ws RX1 TX1 4
theorem nmX1 : ∀ a, a < 4 → ∀ b, b < 4 → a ≠ b → (TX1 a).2.1 ≠ (TX1 b).2.1 := by decide +kernel
theorem tyX1_ok : ∀ k, k < 4 → parseFieldDescriptor (TX1 k).2.2.1 = some (tyX1 k) := by decide +kernel
abbrev cX1_init : ByteArray := prog_3_method_1_code
def yX1_init : MethodName := ⟨RX1, "<init>", "(I)V"⟩
abbrev cX1_options : ByteArray := prog_3_method_2_code
def yX1_options : MethodName := ⟨RX1, "options", "(I)LPlankBench$Rows;"⟩
def RX2 : String := "PlankBench$Keeper"
def TX2 : u_T := fun k => match k with
  | 0 => ("PlankBench$Keeper", "follows", "[Z", true)
  | 1 => ("PlankBench$Keeper", "deeps", "[I", true)
  | 2 => ("PlankBench$Keeper", "ranks", "[I", true)
  | _ => ("PlankBench$Keeper", "ids", "[I", true)
def tyX2 : Nat → FieldType := fun k => match k with
  | 0 => .array .boolean
  | 1 => .array .int
  | 2 => .array .int
  | _ => .array .int
abbrev wsX20 : List Cond := u_ws RX2 TX2 4
theorem nmX2 : ∀ a, a < 4 → ∀ b, b < 4 → a ≠ b → (TX2 a).2.1 ≠ (TX2 b).2.1 := by decide +kernel
theorem tyX2_ok : ∀ k, k < 4 → parseFieldDescriptor (TX2 k).2.2.1 = some (tyX2 k) := by decide +kernel
abbrev cX2_init : ByteArray := prog_4_method_1_code
def yX2_init : MethodName := ⟨RX2, "<init>", "()V"⟩
abbrev cX2_store : ByteArray := prog_4_method_2_code
def yX2_store : MethodName := ⟨RX2, "store", "(LPlankBench$Workshop;ILPlankBench$Form;)V"⟩
abbrev cX2_markFollowers : ByteArray := prog_4_method_3_code
def yX2_markFollowers : MethodName := ⟨RX2, "markFollowers", "(LPlankBench$Workshop;I)V"⟩
abbrev cX2_markOptions : ByteArray := prog_4_method_4_code
def yX2_markOptions : MethodName := ⟨RX2, "markOptions", "(LPlankBench$Rows;I)V"⟩
abbrev cX2_findDeeps : ByteArray := prog_4_method_5_code
def yX2_findDeeps : MethodName := ⟨RX2, "findDeeps", "(LPlankBench$Workshop;I)V"⟩
abbrev cX2_deepBehind : ByteArray := prog_4_method_6_code
def yX2_deepBehind : MethodName := ⟨RX2, "deepBehind", "(LPlankBench$Rows;I)I"⟩
abbrev cX2_placeLevel : ByteArray := prog_4_method_7_code
def yX2_placeLevel : MethodName := ⟨RX2, "placeLevel", "(LPlankBench$Workshop;IIILPlankBench$Form;)I"⟩
abbrev cX2_rankRow : ByteArray := prog_4_method_8_code
def yX2_rankRow : MethodName := ⟨RX2, "rankRow", "(LPlankBench$Rows;ILPlankBench$Rows;I)V"⟩
abbrev cX2_sink : ByteArray := prog_4_method_9_code
def yX2_sink : MethodName := ⟨RX2, "sink", "(LPlankBench$Form;II)V"⟩
abbrev cX2_order : ByteArray := prog_4_method_10_code
def yX2_order : MethodName := ⟨RX2, "order", "(LPlankBench$Form;II)I"⟩
def RX3 : String := "PlankBench$Planks"
def TX3 : u_T := fun k => match k with
  | 0 => ("PlankBench$Planks", "fieldCount", "I", false)
  | 1 => ("PlankBench$Planks", "counts", "[I", true)
  | 2 => ("PlankBench$Planks", "masks", "[I", true)
  | _ => ("PlankBench$Planks", "places", "[I", true)
def tyX3 : Nat → FieldType := fun k => match k with
  | 0 => .int
  | 1 => .array .int
  | 2 => .array .int
  | _ => .array .int
abbrev wsX30 : List Cond := u_ws RX3 TX3 4
theorem nmX3 : ∀ a, a < 4 → ∀ b, b < 4 → a ≠ b → (TX3 a).2.1 ≠ (TX3 b).2.1 := by decide +kernel
theorem tyX3_ok : ∀ k, k < 4 → parseFieldDescriptor (TX3 k).2.2.1 = some (tyX3 k) := by decide +kernel
abbrev cX3_init : ByteArray := prog_5_method_1_code
def yX3_init : MethodName := ⟨RX3, "<init>", "()V"⟩
abbrev cX3_clear : ByteArray := prog_5_method_2_code
def yX3_clear : MethodName := ⟨RX3, "clear", "()V"⟩
abbrev cX3_bring : ByteArray := prog_5_method_3_code
def yX3_bring : MethodName := ⟨RX3, "bring", "(LPlankBench$Board;I)V"⟩
abbrev cX3_note : ByteArray := prog_5_method_4_code
def yX3_note : MethodName := ⟨RX3, "note", "(IIII)V"⟩
abbrev cX3_narrowed : ByteArray := prog_5_method_5_code
def yX3_narrowed : MethodName := ⟨RX3, "narrowed", "(II)I"⟩
abbrev cX3_allFields : ByteArray := prog_5_method_6_code
def yX3_allFields : MethodName := ⟨RX3, "allFields", "()I"⟩
abbrev cX3_count : ByteArray := prog_5_method_7_code
def yX3_count : MethodName := ⟨RX3, "count", "(I)I"⟩
abbrev cX3_mask : ByteArray := prog_5_method_8_code
def yX3_mask : MethodName := ⟨RX3, "mask", "(II)I"⟩
abbrev cX3_place : ByteArray := prog_5_method_9_code
def yX3_place : MethodName := ⟨RX3, "place", "(II)I"⟩
def RX4 : String := "PlankBench$Play"
def TX4 : u_T := fun k => match k with
  | _ => ("PlankBench$Play", "known", "[I", true)
def tyX4 : Nat → FieldType := fun k => match k with
  | _ => .array .int
abbrev wsX40 : List Cond := u_ws RX4 TX4 1
theorem nmX4 : ∀ a, a < 1 → ∀ b, b < 1 → a ≠ b → (TX4 a).2.1 ≠ (TX4 b).2.1 := by decide +kernel
theorem tyX4_ok : ∀ k, k < 1 → parseFieldDescriptor (TX4 k).2.2.1 = some (tyX4 k) := by decide +kernel
abbrev cX4_init : ByteArray := prog_6_method_1_code
def yX4_init : MethodName := ⟨RX4, "<init>", "()V"⟩
abbrev cX4_isWonBy : ByteArray := prog_6_method_2_code
def yX4_isWonBy : MethodName := ⟨RX4, "isWonBy", "(LPlankBench$Planks;I)Z"⟩
abbrev cX4_firstWinning : ByteArray := prog_6_method_3_code
def yX4_firstWinning : MethodName := ⟨RX4, "firstWinning", "(LPlankBench$Planks;I)I"⟩
abbrev cX4_forget : ByteArray := prog_6_method_4_code
def yX4_forget : MethodName := ⟨RX4, "forget", "(I)V"⟩
abbrev cX4_isWon : ByteArray := prog_6_method_5_code
def yX4_isWon : MethodName := ⟨RX4, "isWon", "([ILPlankBench$Planks;III)Z"⟩
def RX5 : String := "PlankBench$Rows"
def TX5 : u_T := fun k => match k with
  | 0 => ("PlankBench$Rows", "rowCount", "I", true)
  | _ => ("PlankBench$Rows", "words", "[J", true)
def tyX5 : Nat → FieldType := fun k => match k with
  | 0 => .int
  | _ => .array .long
abbrev wsX50 : List Cond := u_ws RX5 TX5 2
theorem nmX5 : ∀ a, a < 2 → ∀ b, b < 2 → a ≠ b → (TX5 a).2.1 ≠ (TX5 b).2.1 := by decide +kernel
theorem tyX5_ok : ∀ k, k < 2 → parseFieldDescriptor (TX5 k).2.2.1 = some (tyX5 k) := by decide +kernel
abbrev cX5_init : ByteArray := prog_7_method_1_code
def yX5_init : MethodName := ⟨RX5, "<init>", "(I)V"⟩
abbrev cX5_isRow : ByteArray := prog_7_method_2_code
def yX5_isRow : MethodName := ⟨RX5, "isRow", "(I)Z"⟩
abbrev cX5_wordAt : ByteArray := prog_7_method_3_code
def yX5_wordAt : MethodName := ⟨RX5, "wordAt", "(II)I"⟩
abbrev cX5_has : ByteArray := prog_7_method_4_code
def yX5_has : MethodName := ⟨RX5, "has", "(II)Z"⟩
abbrev cX5_put : ByteArray := prog_7_method_5_code
def yX5_put : MethodName := ⟨RX5, "put", "(II)V"⟩
abbrev cX5_drop : ByteArray := prog_7_method_6_code
def yX5_drop : MethodName := ⟨RX5, "drop", "(II)V"⟩
abbrev cX5_clear : ByteArray := prog_7_method_7_code
def yX5_clear : MethodName := ⟨RX5, "clear", "(I)V"⟩
abbrev cX5_copy : ByteArray := prog_7_method_8_code
def yX5_copy : MethodName := ⟨RX5, "copy", "(ILPlankBench$Rows;I)V"⟩
abbrev cX5_join : ByteArray := prog_7_method_9_code
def yX5_join : MethodName := ⟨RX5, "join", "(ILPlankBench$Rows;I)V"⟩
abbrev cX5_swap : ByteArray := prog_7_method_10_code
def yX5_swap : MethodName := ⟨RX5, "swap", "(II)V"⟩
abbrev cX5_bitCount : ByteArray := prog_7_method_11_code
def yX5_bitCount : MethodName := ⟨RX5, "bitCount", "(I)I"⟩
abbrev cX5_next : ByteArray := prog_7_method_12_code
def yX5_next : MethodName := ⟨RX5, "next", "(II)I"⟩
abbrev cX5_bitAt : ByteArray := prog_7_method_13_code
def yX5_bitAt : MethodName := ⟨RX5, "bitAt", "(II)I"⟩
abbrev cX5_common : ByteArray := prog_7_method_14_code
def yX5_common : MethodName := ⟨RX5, "common", "(ILPlankBench$Rows;II)I"⟩
abbrev cX5_ahead : ByteArray := prog_7_method_15_code
def yX5_ahead : MethodName := ⟨RX5, "ahead", "(II)I"⟩
def RX6 : String := "PlankBench$Teller"
def TX6 : u_T := fun k => match k with
  | 0 => ("PlankBench$Teller", "isNumber", "[Z", true)
  | 1 => ("PlankBench$Teller", "leftStops", "[J", true)
  | 2 => ("PlankBench$Teller", "rightStops", "[J", true)
  | _ => ("PlankBench$Teller", "upCodes", "[I", true)
def tyX6 : Nat → FieldType := fun k => match k with
  | 0 => .array .boolean
  | 1 => .array .long
  | 2 => .array .long
  | _ => .array .int
abbrev wsX60 : List Cond := u_ws RX6 TX6 4
theorem nmX6 : ∀ a, a < 4 → ∀ b, b < 4 → a ≠ b → (TX6 a).2.1 ≠ (TX6 b).2.1 := by decide +kernel
theorem tyX6_ok : ∀ k, k < 4 → parseFieldDescriptor (TX6 k).2.2.1 = some (tyX6 k) := by decide +kernel
abbrev cX6_init : ByteArray := prog_8_method_1_code
def yX6_init : MethodName := ⟨RX6, "<init>", "()V"⟩
abbrev cX6_kindOf : ByteArray := prog_8_method_2_code
def yX6_kindOf : MethodName := ⟨RX6, "kindOf", "(LPlankBench$Form;)I"⟩
abbrev cX6_isSwitch : ByteArray := prog_8_method_3_code
def yX6_isSwitch : MethodName := ⟨RX6, "isSwitch", "(LPlankBench$Form;I)Z"⟩
abbrev cX6_onlyOption : ByteArray := prog_8_method_4_code
def yX6_onlyOption : MethodName := ⟨RX6, "onlyOption", "(LPlankBench$Rows;I)I"⟩
abbrev cX6_stopOf : ByteArray := prog_8_method_5_code
def yX6_stopOf : MethodName := ⟨RX6, "stopOf", "(LPlankBench$Form;II)I"⟩
abbrev cX6_findStops : ByteArray := prog_8_method_6_code
def yX6_findStops : MethodName := ⟨RX6, "findStops", "(LPlankBench$Form;)V"⟩
abbrev cX6_findNumber : ByteArray := prog_8_method_7_code
def yX6_findNumber : MethodName := ⟨RX6, "findNumber", "(LPlankBench$Form;I)Z"⟩
abbrev cX6_greatestRightStop : ByteArray := prog_8_method_8_code
def yX6_greatestRightStop : MethodName := ⟨RX6, "greatestRightStop", "(LPlankBench$Rows;I)J"⟩
abbrev cX6_leastLeftStop : ByteArray := prog_8_method_9_code
def yX6_leastLeftStop : MethodName := ⟨RX6, "leastLeftStop", "(LPlankBench$Rows;I)J"⟩
abbrev cX6_upsOf : ByteArray := prog_8_method_10_code
def yX6_upsOf : MethodName := ⟨RX6, "upsOf", "(LPlankBench$Form;I)I"⟩
abbrev cX6_findUps : ByteArray := prog_8_method_11_code
def yX6_findUps : MethodName := ⟨RX6, "findUps", "(LPlankBench$Form;)V"⟩
abbrev cX6_turnedCode : ByteArray := prog_8_method_12_code
def yX6_turnedCode : MethodName := ⟨RX6, "turnedCode", "(I)I"⟩
abbrev cX6_upCode : ByteArray := prog_8_method_13_code
def yX6_upCode : MethodName := ⟨RX6, "upCode", "(LPlankBench$Form;II)I"⟩
abbrev cX6_withOneUpMore : ByteArray := prog_8_method_14_code
def yX6_withOneUpMore : MethodName := ⟨RX6, "withOneUpMore", "(I)I"⟩
def RX7 : String := "PlankBench$Workshop"
def TX7 : u_T := fun k => match k with
  | 0 => ("PlankBench$Workshop", "count", "I", false)
  | 1 => ("PlankBench$Workshop", "lefts", "LPlankBench$Rows;", true)
  | 2 => ("PlankBench$Workshop", "rights", "LPlankBench$Rows;", true)
  | 3 => ("PlankBench$Workshop", "above", "LPlankBench$Rows;", true)
  | 4 => ("PlankBench$Workshop", "below", "LPlankBench$Rows;", true)
  | 5 => ("PlankBench$Workshop", "hand", "LPlankBench$Rows;", true)
  | 6 => ("PlankBench$Workshop", "made", "[I", true)
  | _ => ("PlankBench$Workshop", "roots", "[I", true)
def tyX7 : Nat → FieldType := fun k => match k with
  | 0 => .int
  | 1 => .object "PlankBench$Rows"
  | 2 => .object "PlankBench$Rows"
  | 3 => .object "PlankBench$Rows"
  | 4 => .object "PlankBench$Rows"
  | 5 => .object "PlankBench$Rows"
  | 6 => .array .int
  | _ => .array .int
abbrev wsX70 : List Cond := u_ws RX7 TX7 8
theorem nmX7 : ∀ a, a < 8 → ∀ b, b < 8 → a ≠ b → (TX7 a).2.1 ≠ (TX7 b).2.1 := by decide +kernel
theorem tyX7_ok : ∀ k, k < 8 → parseFieldDescriptor (TX7 k).2.2.1 = some (tyX7 k) := by decide +kernel
abbrev cX7_init : ByteArray := prog_9_method_1_code
def yX7_init : MethodName := ⟨RX7, "<init>", "()V"⟩
abbrev cX7_options : ByteArray := prog_9_method_2_code
def yX7_options : MethodName := ⟨RX7, "options", "(I)LPlankBench$Rows;"⟩
abbrev cX7_makeBoard : ByteArray := prog_9_method_3_code
def yX7_makeBoard : MethodName := ⟨RX7, "makeBoard", "(LPlankBench$Planks;)I"⟩
abbrev cX7_markRests : ByteArray := prog_9_method_4_code
def yX7_markRests : MethodName := ⟨RX7, "markRests", "(LPlankBench$Planks;I)V"⟩
abbrev cX7_markNext : ByteArray := prog_9_method_5_code
def yX7_markNext : MethodName := ⟨RX7, "markNext", "(LPlankBench$Planks;II)V"⟩
abbrev cX7_offerRests : ByteArray := prog_9_method_6_code
def yX7_offerRests : MethodName := ⟨RX7, "offerRests", "(LPlankBench$Planks;II)V"⟩
abbrev cX7_makeNought : ByteArray := prog_9_method_7_code
def yX7_makeNought : MethodName := ⟨RX7, "makeNought", "()I"⟩
abbrev cX7_makePair : ByteArray := prog_9_method_8_code
def yX7_makePair : MethodName := ⟨RX7, "makePair", "(II)I"⟩
abbrev cX7_makeNumber : ByteArray := prog_9_method_9_code
def yX7_makeNumber : MethodName := ⟨RX7, "makeNumber", "(II)I"⟩
abbrev cX7_between : ByteArray := prog_9_method_10_code
def yX7_between : MethodName := ⟨RX7, "between", "(IIII)I"⟩
abbrev cX7_makeUps : ByteArray := prog_9_method_11_code
def yX7_makeUps : MethodName := ⟨RX7, "makeUps", "(IZ)I"⟩
abbrev cX7_makeOf : ByteArray := prog_9_method_12_code
def yX7_makeOf : MethodName := ⟨RX7, "makeOf", "([LPlankBench$Form;II)I"⟩
abbrev cX7_bring : ByteArray := prog_9_method_13_code
def yX7_bring : MethodName := ⟨RX7, "bring", "(LPlankBench$Form;)I"⟩
abbrev cX7_makeSum : ByteArray := prog_9_method_14_code
def yX7_makeSum : MethodName := ⟨RX7, "makeSum", "(LPlankBench$Form;LPlankBench$Form;)I"⟩
abbrev cX7_offerMade : ByteArray := prog_9_method_15_code
def yX7_offerMade : MethodName := ⟨RX7, "offerMade", "(LPlankBench$Form;IIII)V"⟩
abbrev cX7_copy : ByteArray := prog_9_method_16_code
def yX7_copy : MethodName := ⟨RX7, "copy", "(LPlankBench$Form;Z)I"⟩
abbrev cX7_openHand : ByteArray := prog_9_method_17_code
def yX7_openHand : MethodName := ⟨RX7, "openHand", "()V"⟩
abbrev cX7_settle : ByteArray := prog_9_method_18_code
def yX7_settle : MethodName := ⟨RX7, "settle", "()I"⟩
abbrev cX7_gatherBars : ByteArray := prog_9_method_19_code
def yX7_gatherBars : MethodName := ⟨RX7, "gatherBars", "(I)V"⟩
abbrev cX7_weigh : ByteArray := prog_9_method_20_code
def yX7_weigh : MethodName := ⟨RX7, "weigh", "(ILPlankBench$Rows;LPlankBench$Rows;)Z"⟩
abbrev cX7_bypass : ByteArray := prog_9_method_21_code
def yX7_bypass : MethodName := ⟨RX7, "bypass", "(II)V"⟩
abbrev cX7_strike : ByteArray := prog_9_method_22_code
def yX7_strike : MethodName := ⟨RX7, "strike", "(ILPlankBench$Rows;)V"⟩
abbrev cX7_append : ByteArray := prog_9_method_23_code
def yX7_append : MethodName := ⟨RX7, "append", "()I"⟩
abbrev cX7_relation : ByteArray := prog_9_method_24_code
def yX7_relation : MethodName := ⟨RX7, "relation", "(LPlankBench$Form;LPlankBench$Form;)I"⟩
def RX8 : String := "PlankBench"
def TX8 : u_T := fun k => match k with
  | 0 => ("PlankBench", "boards", "[LPlankBench$Board;", true)
  | 1 => ("PlankBench", "spots", "[LPlankBench$Form;", true)
  | 2 => ("PlankBench", "nought", "LPlankBench$Form;", true)
  | 3 => ("PlankBench", "planks", "LPlankBench$Planks;", true)
  | 4 => ("PlankBench", "workshop", "LPlankBench$Workshop;", true)
  | 5 => ("PlankBench", "keeper", "LPlankBench$Keeper;", true)
  | 6 => ("PlankBench", "teller", "LPlankBench$Teller;", true)
  | _ => ("PlankBench", "play", "LPlankBench$Play;", true)
def tyX8 : Nat → FieldType := fun k => match k with
  | 0 => .array (.object "PlankBench$Board")
  | 1 => .array (.object "PlankBench$Form")
  | 2 => .object "PlankBench$Form"
  | 3 => .object "PlankBench$Planks"
  | 4 => .object "PlankBench$Workshop"
  | 5 => .object "PlankBench$Keeper"
  | 6 => .object "PlankBench$Teller"
  | _ => .object "PlankBench$Play"
abbrev wsX80 : List Cond := u_ws RX8 TX8 8
theorem nmX8 : ∀ a, a < 8 → ∀ b, b < 8 → a ≠ b → (TX8 a).2.1 ≠ (TX8 b).2.1 := by decide +kernel
theorem tyX8_ok : ∀ k, k < 8 → parseFieldDescriptor (TX8 k).2.2.1 = some (tyX8 k) := by decide +kernel
abbrev cX8_init : ByteArray := prog_1_method_1_code
def yX8_init : MethodName := ⟨RX8, "<init>", "()V"⟩
abbrev cX8_row : ByteArray := prog_1_method_2_code
def yX8_row : MethodName := ⟨RX8, "row", "(III)I"⟩
abbrev cX8_field : ByteArray := prog_1_method_3_code
def yX8_field : MethodName := ⟨RX8, "field", "(II)Z"⟩
abbrev cX8_fields : ByteArray := prog_1_method_4_code
def yX8_fields : MethodName := ⟨RX8, "fields", "(I)I"⟩
abbrev cX8_parts : ByteArray := prog_1_method_5_code
def yX8_parts : MethodName := ⟨RX8, "parts", "(I)I"⟩
abbrev cX8_moves : ByteArray := prog_1_method_6_code
def yX8_moves : MethodName := ⟨RX8, "moves", "(II)I"⟩
abbrev cX8_lay : ByteArray := prog_1_method_7_code
def yX8_lay : MethodName := ⟨RX8, "lay", "(III)I"⟩
abbrev cX8_lift : ByteArray := prog_1_method_8_code
def yX8_lift : MethodName := ⟨RX8, "lift", "(I)I"⟩
abbrev cX8_quarter : ByteArray := prog_1_method_9_code
def yX8_quarter : MethodName := ⟨RX8, "quarter", "(II)I"⟩
abbrev cX8_worth : ByteArray := prog_1_method_10_code
def yX8_worth : MethodName := ⟨RX8, "worth", "(II)I"⟩
abbrev cX8_number : ByteArray := prog_1_method_11_code
def yX8_number : MethodName := ⟨RX8, "number", "(III)I"⟩
abbrev cX8_up : ByteArray := prog_1_method_12_code
def yX8_up : MethodName := ⟨RX8, "up", "(IZI)I"⟩
abbrev cX8_game : ByteArray := prog_1_method_13_code
def yX8_game : MethodName := ⟨RX8, "game", "(III)I"⟩
abbrev cX8_add : ByteArray := prog_1_method_14_code
def yX8_add : MethodName := ⟨RX8, "add", "(III)I"⟩
abbrev cX8_turn : ByteArray := prog_1_method_15_code
def yX8_turn : MethodName := ⟨RX8, "turn", "(II)I"⟩
abbrev cX8_option : ByteArray := prog_1_method_16_code
def yX8_option : MethodName := ⟨RX8, "option", "(IIII)I"⟩
abbrev cX8_told : ByteArray := prog_1_method_17_code
def yX8_told : MethodName := ⟨RX8, "told", "(II)I"⟩
abbrev cX8_compare : ByteArray := prog_1_method_18_code
def yX8_compare : MethodName := ⟨RX8, "compare", "(II)I"⟩
abbrev cX8_wins : ByteArray := prog_1_method_19_code
def yX8_wins : MethodName := ⟨RX8, "wins", "(I)I"⟩
abbrev cX8_value : ByteArray := prog_1_method_20_code
def yX8_value : MethodName := ⟨RX8, "value", "(II)I"⟩
abbrev cX8_ups : ByteArray := prog_1_method_21_code
def yX8_ups : MethodName := ⟨RX8, "ups", "(II)I"⟩
abbrev cX8_stop : ByteArray := prog_1_method_22_code
def yX8_stop : MethodName := ⟨RX8, "stop", "(III)I"⟩
abbrev cX8_beginner : ByteArray := prog_1_method_23_code
def yX8_beginner : MethodName := ⟨RX8, "beginner", "(II)I"⟩
abbrev cX8_best : ByteArray := prog_1_method_24_code
def yX8_best : MethodName := ⟨RX8, "best", "(II)I"⟩
abbrev cX8_layOut : ByteArray := prog_1_method_25_code
def yX8_layOut : MethodName := ⟨RX8, "layOut", "(II)I"⟩
abbrev cX8_keep : ByteArray := prog_1_method_26_code
def yX8_keep : MethodName := ⟨RX8, "keep", "(II)I"⟩
abbrev cX8_isTooDeep : ByteArray := prog_1_method_27_code
def yX8_isTooDeep : MethodName := ⟨RX8, "isTooDeep", "(I)Z"⟩
abbrev cX8_sizeOf : ByteArray := prog_1_method_28_code
def yX8_sizeOf : MethodName := ⟨RX8, "sizeOf", "(I)I"⟩
abbrev cX8_isBoard : ByteArray := prog_1_method_29_code
def yX8_isBoard : MethodName := ⟨RX8, "isBoard", "(I)Z"⟩
abbrev cX8_isSpot : ByteArray := prog_1_method_30_code
def yX8_isSpot : MethodName := ⟨RX8, "isSpot", "(I)Z"⟩
abbrev cX8_isSpotSet : ByteArray := prog_1_method_31_code
def yX8_isSpotSet : MethodName := ⟨RX8, "isSpotSet", "(I)Z"⟩
abbrev cX8_isSide : ByteArray := prog_1_method_32_code
def yX8_isSide : MethodName := ⟨RX8, "isSide", "(I)Z"⟩
abbrev cX8_isPartOfValue : ByteArray := prog_1_method_33_code
def yX8_isPartOfValue : MethodName := ⟨RX8, "isPartOfValue", "(I)Z"⟩
def RX9 : String := "PlankBenchModel"
def TX9 : u_T := fun k => match k with
  | 0 => ("PlankBenchModel", "boards", "[I", true)
  | 1 => ("PlankBenchModel", "planks", "[I", true)
  | 2 => ("PlankBenchModel", "plankMany", "[I", true)
  | 3 => ("PlankBenchModel", "kept", "[I", true)
  | 4 => ("PlankBenchModel", "keptLeft", "[I", true)
  | 5 => ("PlankBenchModel", "keptLefts", "[I", true)
  | 6 => ("PlankBenchModel", "keptRight", "[I", true)
  | 7 => ("PlankBenchModel", "keptRights", "[I", true)
  | 8 => ("PlankBenchModel", "keptList", "[I", true)
  | 9 => ("PlankBenchModel", "games", "I", false)
  | 10 => ("PlankBenchModel", "left", "[I", true)
  | 11 => ("PlankBenchModel", "lefts", "[I", true)
  | 12 => ("PlankBenchModel", "right", "[I", true)
  | 13 => ("PlankBenchModel", "rights", "[I", true)
  | 14 => ("PlankBenchModel", "deep", "[I", true)
  | 15 => ("PlankBenchModel", "list", "[I", true)
  | 16 => ("PlankBenchModel", "listMany", "I", false)
  | 17 => ("PlankBenchModel", "least", "[Z", true)
  | 18 => ("PlankBenchModel", "newLeft", "[I", true)
  | 19 => ("PlankBenchModel", "newRight", "[I", true)
  | 20 => ("PlankBenchModel", "newLefts", "I", false)
  | 21 => ("PlankBenchModel", "newRights", "I", false)
  | 22 => ("PlankBenchModel", "map", "[I", true)
  | 23 => ("PlankBenchModel", "other", "[I", true)
  | 24 => ("PlankBenchModel", "sums", "[I", true)
  | 25 => ("PlankBenchModel", "marked", "[Z", true)
  | 26 => ("PlankBenchModel", "worths", "[I", true)
  | 27 => ("PlankBenchModel", "isValue", "[Z", true)
  | 28 => ("PlankBenchModel", "valueTop", "[J", true)
  | 29 => ("PlankBenchModel", "valueLow", "[I", true)
  | 30 => ("PlankBenchModel", "stopTop", "[J", true)
  | 31 => ("PlankBenchModel", "stopLow", "[I", true)
  | 32 => ("PlankBenchModel", "fields", "[I", true)
  | 33 => ("PlankBenchModel", "wins", "[Z", true)
  | 34 => ("PlankBenchModel", "firsts", "[I", true)
  | 35 => ("PlankBenchModel", "seconds", "[I", true)
  | 36 => ("PlankBenchModel", "firstAt", "[I", true)
  | _ => ("PlankBenchModel", "secondAt", "[I", true)
def tyX9 : Nat → FieldType := fun k => match k with
  | 0 => .array .int
  | 1 => .array .int
  | 2 => .array .int
  | 3 => .array .int
  | 4 => .array .int
  | 5 => .array .int
  | 6 => .array .int
  | 7 => .array .int
  | 8 => .array .int
  | 9 => .int
  | 10 => .array .int
  | 11 => .array .int
  | 12 => .array .int
  | 13 => .array .int
  | 14 => .array .int
  | 15 => .array .int
  | 16 => .int
  | 17 => .array .boolean
  | 18 => .array .int
  | 19 => .array .int
  | 20 => .int
  | 21 => .int
  | 22 => .array .int
  | 23 => .array .int
  | 24 => .array .int
  | 25 => .array .boolean
  | 26 => .array .int
  | 27 => .array .boolean
  | 28 => .array .long
  | 29 => .array .int
  | 30 => .array .long
  | 31 => .array .int
  | 32 => .array .int
  | 33 => .array .boolean
  | 34 => .array .int
  | 35 => .array .int
  | 36 => .array .int
  | _ => .array .int
abbrev wsX90 : List Cond := u_ws RX9 TX9 38
theorem nmX9 : ∀ a, a < 38 → ∀ b, b < 38 → a ≠ b → (TX9 a).2.1 ≠ (TX9 b).2.1 := by decide +kernel
theorem tyX9_ok : ∀ k, k < 38 → parseFieldDescriptor (TX9 k).2.2.1 = some (tyX9 k) := by decide +kernel
abbrev cX9_init : ByteArray := prog_11_method_1_code
def yX9_init : MethodName := ⟨RX9, "<init>", "()V"⟩
abbrev cX9_isBoard : ByteArray := prog_11_method_2_code
def yX9_isBoard : MethodName := ⟨RX9, "isBoard", "(I)Z"⟩
abbrev cX9_isFree : ByteArray := prog_11_method_3_code
def yX9_isFree : MethodName := ⟨RX9, "isFree", "(II)Z"⟩
abbrev cX9_count : ByteArray := prog_11_method_4_code
def yX9_count : MethodName := ⟨RX9, "count", "(I)I"⟩
abbrev cX9_row : ByteArray := prog_11_method_5_code
def yX9_row : MethodName := ⟨RX9, "row", "(III)I"⟩
abbrev cX9_field : ByteArray := prog_11_method_6_code
def yX9_field : MethodName := ⟨RX9, "field", "(II)Z"⟩
abbrev cX9_fields : ByteArray := prog_11_method_7_code
def yX9_fields : MethodName := ⟨RX9, "fields", "(I)I"⟩
abbrev cX9_parts : ByteArray := prog_11_method_8_code
def yX9_parts : MethodName := ⟨RX9, "parts", "(I)I"⟩
abbrev cX9_second : ByteArray := prog_11_method_9_code
def yX9_second : MethodName := ⟨RX9, "second", "(III)I"⟩
abbrev cX9_moves : ByteArray := prog_11_method_10_code
def yX9_moves : MethodName := ⟨RX9, "moves", "(II)I"⟩
abbrev cX9_lay : ByteArray := prog_11_method_11_code
def yX9_lay : MethodName := ⟨RX9, "lay", "(III)I"⟩
abbrev cX9_lift : ByteArray := prog_11_method_12_code
def yX9_lift : MethodName := ⟨RX9, "lift", "(I)I"⟩
abbrev cX9_quarter : ByteArray := prog_11_method_13_code
def yX9_quarter : MethodName := ⟨RX9, "quarter", "(II)I"⟩
abbrev cX9_isLeast : ByteArray := prog_11_method_14_code
def yX9_isLeast : MethodName := ⟨RX9, "isLeast", "(II)Z"⟩
abbrev cX9_leftOf : ByteArray := prog_11_method_15_code
def yX9_leftOf : MethodName := ⟨RX9, "leftOf", "(II)I"⟩
abbrev cX9_rightOf : ByteArray := prog_11_method_16_code
def yX9_rightOf : MethodName := ⟨RX9, "rightOf", "(II)I"⟩
abbrev cX9_order : ByteArray := prog_11_method_17_code
def yX9_order : MethodName := ⟨RX9, "order", "(II)I"⟩
abbrev cX9_once : ByteArray := prog_11_method_18_code
def yX9_once : MethodName := ⟨RX9, "once", "([II)I"⟩
abbrev cX9_sort : ByteArray := prog_11_method_19_code
def yX9_sort : MethodName := ⟨RX9, "sort", "([II)V"⟩
abbrev cX9_compareNew : ByteArray := prog_11_method_20_code
def yX9_compareNew : MethodName := ⟨RX9, "compareNew", "()V"⟩
abbrev cX9_replaceLeft : ByteArray := prog_11_method_21_code
def yX9_replaceLeft : MethodName := ⟨RX9, "replaceLeft", "()Z"⟩
abbrev cX9_replaceRight : ByteArray := prog_11_method_22_code
def yX9_replaceRight : MethodName := ⟨RX9, "replaceRight", "()Z"⟩
abbrev cX9_leaveOut : ByteArray := prog_11_method_23_code
def yX9_leaveOut : MethodName := ⟨RX9, "leaveOut", "()V"⟩
abbrev cX9_isNew : ByteArray := prog_11_method_24_code
def yX9_isNew : MethodName := ⟨RX9, "isNew", "(I)Z"⟩
abbrev cX9_keepNew : ByteArray := prog_11_method_25_code
def yX9_keepNew : MethodName := ⟨RX9, "keepNew", "()I"⟩
abbrev cX9_made : ByteArray := prog_11_method_26_code
def yX9_made : MethodName := ⟨RX9, "made", "()I"⟩
abbrev cX9_clearNew : ByteArray := prog_11_method_27_code
def yX9_clearNew : MethodName := ⟨RX9, "clearNew", "()V"⟩
abbrev cX9_begin : ByteArray := prog_11_method_28_code
def yX9_begin : MethodName := ⟨RX9, "begin", "()V"⟩
abbrev cX9_load : ByteArray := prog_11_method_29_code
def yX9_load : MethodName := ⟨RX9, "load", "(I)I"⟩
abbrev cX9_save : ByteArray := prog_11_method_30_code
def yX9_save : MethodName := ⟨RX9, "save", "(II)I"⟩
abbrev cX9_isSpot : ByteArray := prog_11_method_31_code
def yX9_isSpot : MethodName := ⟨RX9, "isSpot", "(I)Z"⟩
abbrev cX9_addMoves : ByteArray := prog_11_method_32_code
def yX9_addMoves : MethodName := ⟨RX9, "addMoves", "(II)V"⟩
abbrev cX9_worth : ByteArray := prog_11_method_33_code
def yX9_worth : MethodName := ⟨RX9, "worth", "(II)I"⟩
abbrev cX9_madeOf : ByteArray := prog_11_method_34_code
def yX9_madeOf : MethodName := ⟨RX9, "madeOf", "(II)I"⟩
abbrev cX9_numbered : ByteArray := prog_11_method_35_code
def yX9_numbered : MethodName := ⟨RX9, "numbered", "(II)I"⟩
abbrev cX9_number : ByteArray := prog_11_method_36_code
def yX9_number : MethodName := ⟨RX9, "number", "(III)I"⟩
abbrev cX9_followers : ByteArray := prog_11_method_37_code
def yX9_followers : MethodName := ⟨RX9, "followers", "(I[I)I"⟩
abbrev cX9_summed : ByteArray := prog_11_method_38_code
def yX9_summed : MethodName := ⟨RX9, "summed", "(II)I"⟩
abbrev cX9_up : ByteArray := prog_11_method_39_code
def yX9_up : MethodName := ⟨RX9, "up", "(IZI)I"⟩
abbrev cX9_deepOf : ByteArray := prog_11_method_40_code
def yX9_deepOf : MethodName := ⟨RX9, "deepOf", "(I)I"⟩
abbrev cX9_game : ByteArray := prog_11_method_41_code
def yX9_game : MethodName := ⟨RX9, "game", "(III)I"⟩
abbrev cX9_add : ByteArray := prog_11_method_42_code
def yX9_add : MethodName := ⟨RX9, "add", "(III)I"⟩
abbrev cX9_turn : ByteArray := prog_11_method_43_code
def yX9_turn : MethodName := ⟨RX9, "turn", "(II)I"⟩
abbrev cX9_option : ByteArray := prog_11_method_44_code
def yX9_option : MethodName := ⟨RX9, "option", "(IIII)I"⟩
abbrev cX9_smaller : ByteArray := prog_11_method_45_code
def yX9_smaller : MethodName := ⟨RX9, "smaller", "(JIJI)I"⟩
abbrev cX9_setValue : ByteArray := prog_11_method_46_code
def yX9_setValue : MethodName := ⟨RX9, "setValue", "(IJI)V"⟩
abbrev cX9_findValue : ByteArray := prog_11_method_47_code
def yX9_findValue : MethodName := ⟨RX9, "findValue", "(II)V"⟩
abbrev cX9_findStops : ByteArray := prog_11_method_48_code
def yX9_findStops : MethodName := ⟨RX9, "findStops", "(II)V"⟩
abbrev cX9_findValues : ByteArray := prog_11_method_49_code
def yX9_findValues : MethodName := ⟨RX9, "findValues", "(I)I"⟩
abbrev cX9_isSwitch : ByteArray := prog_11_method_50_code
def yX9_isSwitch : MethodName := ⟨RX9, "isSwitch", "(I)Z"⟩
abbrev cX9_upsOf : ByteArray := prog_11_method_51_code
def yX9_upsOf : MethodName := ⟨RX9, "upsOf", "(I)I"⟩
abbrev cX9_kindOf : ByteArray := prog_11_method_52_code
def yX9_kindOf : MethodName := ⟨RX9, "kindOf", "(I)I"⟩
abbrev cX9_told : ByteArray := prog_11_method_53_code
def yX9_told : MethodName := ⟨RX9, "told", "(II)I"⟩
abbrev cX9_compare : ByteArray := prog_11_method_54_code
def yX9_compare : MethodName := ⟨RX9, "compare", "(II)I"⟩
abbrev cX9_wins : ByteArray := prog_11_method_55_code
def yX9_wins : MethodName := ⟨RX9, "wins", "(I)I"⟩
abbrev cX9_value : ByteArray := prog_11_method_56_code
def yX9_value : MethodName := ⟨RX9, "value", "(II)I"⟩
abbrev cX9_ups : ByteArray := prog_11_method_57_code
def yX9_ups : MethodName := ⟨RX9, "ups", "(II)I"⟩
abbrev cX9_stop : ByteArray := prog_11_method_58_code
def yX9_stop : MethodName := ⟨RX9, "stop", "(III)I"⟩
abbrev cX9_findFields : ByteArray := prog_11_method_59_code
def yX9_findFields : MethodName := ⟨RX9, "findFields", "(I)I"⟩
abbrev cX9_without : ByteArray := prog_11_method_60_code
def yX9_without : MethodName := ⟨RX9, "without", "(IIII)I"⟩
abbrev cX9_findWins : ByteArray := prog_11_method_61_code
def yX9_findWins : MethodName := ⟨RX9, "findWins", "(I)V"⟩
abbrev cX9_beginner : ByteArray := prog_11_method_62_code
def yX9_beginner : MethodName := ⟨RX9, "beginner", "(II)I"⟩
abbrev cX9_best : ByteArray := prog_11_method_63_code
def yX9_best : MethodName := ⟨RX9, "best", "(II)I"⟩
def RJ6 : String := "java/lang/Integer"
def TJ6 : u_T := fun k => match k with
  | _ => ("", "", "", false)
def tyJ6 : Nat → FieldType := fun k => match k with
  | _ => .int
abbrev wsJ60 : List Cond := u_ws RJ6 TJ6 0
theorem nmJ6 : ∀ a, a < 0 → ∀ b, b < 0 → a ≠ b → (TJ6 a).2.1 ≠ (TJ6 b).2.1 := by decide +kernel
theorem tyJ6_ok : ∀ k, k < 0 → parseFieldDescriptor (TJ6 k).2.2.1 = some (tyJ6 k) := by decide +kernel
abbrev cJ6_bitCount_0f7a4 : ByteArray := prog_12_method_49_code
def yJ6_bitCount_0f7a4 : MethodName := ⟨RJ6, "bitCount", "(I)I"⟩
def RJ13 : String := "java/lang/Long"
def TJ13 : u_T := fun k => match k with
  | _ => ("", "", "", false)
def tyJ13 : Nat → FieldType := fun k => match k with
  | _ => .int
abbrev wsJ130 : List Cond := u_ws RJ13 TJ13 0
theorem nmJ13 : ∀ a, a < 0 → ∀ b, b < 0 → a ≠ b → (TJ13 a).2.1 ≠ (TJ13 b).2.1 := by decide +kernel
theorem tyJ13_ok : ∀ k, k < 0 → parseFieldDescriptor (TJ13 k).2.2.1 = some (tyJ13 k) := by decide +kernel
abbrev cJ13_bitCount_95d88 : ByteArray := prog_13_method_50_code
def yJ13_bitCount_95d88 : MethodName := ⟨RJ13, "bitCount", "(J)I"⟩
def RJ9 : String := "java/lang/Math"
def TJ9 : u_T := fun k => match k with
  | _ => ("", "", "", false)
def tyJ9 : Nat → FieldType := fun k => match k with
  | _ => .int
abbrev wsJ90 : List Cond := u_ws RJ9 TJ9 0
theorem nmJ9 : ∀ a, a < 0 → ∀ b, b < 0 → a ≠ b → (TJ9 a).2.1 ≠ (TJ9 b).2.1 := by decide +kernel
theorem tyJ9_ok : ∀ k, k < 0 → parseFieldDescriptor (TJ9 k).2.2.1 = some (tyJ9 k) := by decide +kernel
abbrev cJ9_floorDiv_7cf53 : ByteArray := prog_14_method_47_code
def yJ9_floorDiv_7cf53 : MethodName := ⟨RJ9, "floorDiv", "(II)I"⟩
abbrev cJ9_floorMod_7cf53 : ByteArray := prog_14_method_50_code
def yJ9_floorMod_7cf53 : MethodName := ⟨RJ9, "floorMod", "(II)I"⟩
abbrev cJ9_abs_0f7a4 : ByteArray := prog_14_method_59_code
def yJ9_abs_0f7a4 : MethodName := ⟨RJ9, "abs", "(I)I"⟩
abbrev cJ9_max_7cf53 : ByteArray := prog_14_method_65_code
def yJ9_max_7cf53 : MethodName := ⟨RJ9, "max", "(II)I"⟩
abbrev cJ9_max_f86c9 : ByteArray := prog_14_method_66_code
def yJ9_max_f86c9 : MethodName := ⟨RJ9, "max", "(JJ)J"⟩
abbrev cJ9_min_7cf53 : ByteArray := prog_14_method_69_code
def yJ9_min_7cf53 : MethodName := ⟨RJ9, "min", "(II)I"⟩
abbrev cJ9_min_f86c9 : ByteArray := prog_14_method_70_code
def yJ9_min_f86c9 : MethodName := ⟨RJ9, "min", "(JJ)J"⟩
